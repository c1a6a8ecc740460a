theorem dMo_inverse_0 : decode cMo_inverse 0 = .ok (.iconst 1, 1) := by decide +kernel
theorem dMo_inverse_1 : decode cMo_inverse 1 = .ok (.istore_n 1, 1) := by decide +kernel
theorem dMo_inverse_2 : decode cMo_inverse 2 = .ok (.iconst 0, 1) := by decide +kernel
theorem dMo_inverse_3 : decode cMo_inverse 3 = .ok (.istore_n 2, 1) := by decide +kernel
theorem dMo_inverse_4 : decode cMo_inverse 4 = .ok (.iload_n 2, 1) := by decide +kernel
theorem dMo_inverse_5 : decode cMo_inverse 5 = .ok (.sipush 254, 3) := by decide +kernel
theorem dMo_inverse_8 : decode cMo_inverse 8 = .ok (.if_icmp .ge 15, 3) := by decide +kernel
theorem dMo_inverse_11 : decode cMo_inverse 11 = .ok (.iload_n 1, 1) := by decide +kernel
theorem dMo_inverse_12 : decode cMo_inverse 12 = .ok (.iload_n 0, 1) := by decide +kernel
theorem dMo_inverse_13 : decode cMo_inverse 13 = .ok (.invokestatic 78, 3) := by decide +kernel
theorem dMo_inverse_16 : decode cMo_inverse 16 = .ok (.istore_n 1, 1) := by decide +kernel
theorem dMo_inverse_17 : decode cMo_inverse 17 = .ok (.iinc 2 1, 3) := by decide +kernel
theorem dMo_inverse_20 : decode cMo_inverse 20 = .ok (.goto (-16), 3) := by decide +kernel
theorem dMo_inverse_23 : decode cMo_inverse 23 = .ok (.iload_n 0, 1) := by decide +kernel
theorem dMo_inverse_24 : decode cMo_inverse 24 = .ok (.ifCond .ne 7, 3) := by decide +kernel
theorem dMo_inverse_27 : decode cMo_inverse 27 = .ok (.iconst 0, 1) := by decide +kernel
theorem dMo_inverse_28 : decode cMo_inverse 28 = .ok (.goto 4, 3) := by decide +kernel
theorem dMo_inverse_31 : decode cMo_inverse 31 = .ok (.iload_n 1, 1) := by decide +kernel
theorem dMo_inverse_32 : decode cMo_inverse 32 = .ok (.ireturn, 1) := by decide +kernel
theorem dMo_product_0 : decode cMo_product 0 = .ok (.iconst 0, 1) := by decide +kernel
theorem dMo_product_1 : decode cMo_product 1 = .ok (.istore_n 2, 1) := by decide +kernel
theorem dMo_product_2 : decode cMo_product 2 = .ok (.bipush 7, 2) := by decide +kernel
theorem dMo_product_4 : decode cMo_product 4 = .ok (.istore_n 3, 1) := by decide +kernel
theorem dMo_product_5 : decode cMo_product 5 = .ok (.iload_n 3, 1) := by decide +kernel
theorem dMo_product_6 : decode cMo_product 6 = .ok (.ifCond .lt 47, 3) := by decide +kernel
theorem dMo_product_9 : decode cMo_product 9 = .ok (.iload_n 2, 1) := by decide +kernel
theorem dMo_product_10 : decode cMo_product 10 = .ok (.iconst 1, 1) := by decide +kernel
theorem dMo_product_11 : decode cMo_product 11 = .ok (.ishl, 1) := by decide +kernel
theorem dMo_product_12 : decode cMo_product 12 = .ok (.istore_n 2, 1) := by decide +kernel
theorem dMo_product_13 : decode cMo_product 13 = .ok (.iload_n 2, 1) := by decide +kernel
theorem dMo_product_14 : decode cMo_product 14 = .ok (.sipush 255, 3) := by decide +kernel
theorem dMo_product_17 : decode cMo_product 17 = .ok (.if_icmp .le 11, 3) := by decide +kernel
theorem dMo_product_20 : decode cMo_product 20 = .ok (.iload_n 2, 1) := by decide +kernel
theorem dMo_product_21 : decode cMo_product 21 = .ok (.sipush 283, 3) := by decide +kernel
theorem dMo_product_24 : decode cMo_product 24 = .ok (.ixor, 1) := by decide +kernel
theorem dMo_product_25 : decode cMo_product 25 = .ok (.goto 4, 3) := by decide +kernel
theorem dMo_product_28 : decode cMo_product 28 = .ok (.iload_n 2, 1) := by decide +kernel
theorem dMo_product_29 : decode cMo_product 29 = .ok (.istore_n 2, 1) := by decide +kernel
theorem dMo_product_30 : decode cMo_product 30 = .ok (.iload_n 1, 1) := by decide +kernel
theorem dMo_product_31 : decode cMo_product 31 = .ok (.iload_n 3, 1) := by decide +kernel
theorem dMo_product_32 : decode cMo_product 32 = .ok (.ishr, 1) := by decide +kernel
theorem dMo_product_33 : decode cMo_product 33 = .ok (.iconst 2, 1) := by decide +kernel
theorem dMo_product_34 : decode cMo_product 34 = .ok (.irem, 1) := by decide +kernel
theorem dMo_product_35 : decode cMo_product 35 = .ok (.iconst 1, 1) := by decide +kernel
theorem dMo_product_36 : decode cMo_product 36 = .ok (.if_icmp .ne 9, 3) := by decide +kernel
theorem dMo_product_39 : decode cMo_product 39 = .ok (.iload_n 2, 1) := by decide +kernel
theorem dMo_product_40 : decode cMo_product 40 = .ok (.iload_n 0, 1) := by decide +kernel
theorem dMo_product_41 : decode cMo_product 41 = .ok (.ixor, 1) := by decide +kernel
theorem dMo_product_42 : decode cMo_product 42 = .ok (.goto 4, 3) := by decide +kernel
theorem dMo_product_45 : decode cMo_product 45 = .ok (.iload_n 2, 1) := by decide +kernel
theorem dMo_product_46 : decode cMo_product 46 = .ok (.istore_n 2, 1) := by decide +kernel
theorem dMo_product_47 : decode cMo_product 47 = .ok (.iinc 3 (-1), 3) := by decide +kernel
theorem dMo_product_50 : decode cMo_product 50 = .ok (.goto (-45), 3) := by decide +kernel
theorem dMo_product_53 : decode cMo_product 53 = .ok (.iload_n 2, 1) := by decide +kernel
theorem dMo_product_54 : decode cMo_product 54 = .ok (.ireturn, 1) := by decide +kernel
theorem dMo_clear_0 : decode cMo_clear 0 = .ok (.aload_n 0, 1) := by decide +kernel
theorem dMo_clear_1 : decode cMo_clear 1 = .ok (.iload_n 1, 1) := by decide +kernel
theorem dMo_clear_2 : decode cMo_clear 2 = .ok (.putfield 127, 3) := by decide +kernel
theorem dMo_clear_5 : decode cMo_clear 5 = .ok (.aload_n 0, 1) := by decide +kernel
theorem dMo_clear_6 : decode cMo_clear 6 = .ok (.lload_n 2, 1) := by decide +kernel
theorem dMo_clear_7 : decode cMo_clear 7 = .ok (.putfield 130, 3) := by decide +kernel
theorem dMo_clear_10 : decode cMo_clear 10 = .ok (.aload_n 0, 1) := by decide +kernel
theorem dMo_clear_11 : decode cMo_clear 11 = .ok (.lload 4, 2) := by decide +kernel
theorem dMo_clear_13 : decode cMo_clear 13 = .ok (.putfield 133, 3) := by decide +kernel
theorem dMo_clear_16 : decode cMo_clear 16 = .ok (.aload_n 0, 1) := by decide +kernel
theorem dMo_clear_17 : decode cMo_clear 17 = .ok (.iconst 0, 1) := by decide +kernel
theorem dMo_clear_18 : decode cMo_clear 18 = .ok (.putfield 136, 3) := by decide +kernel
theorem dMo_clear_21 : decode cMo_clear 21 = .ok (.iconst 0, 1) := by decide +kernel
theorem dMo_clear_22 : decode cMo_clear 22 = .ok (.istore 6, 2) := by decide +kernel
theorem dMo_clear_24 : decode cMo_clear 24 = .ok (.iload 6, 2) := by decide +kernel
theorem dMo_clear_26 : decode cMo_clear 26 = .ok (.sipush 256, 3) := by decide +kernel
theorem dMo_clear_29 : decode cMo_clear 29 = .ok (.if_icmp .ge 17, 3) := by decide +kernel
theorem dMo_clear_32 : decode cMo_clear 32 = .ok (.aload_n 0, 1) := by decide +kernel
theorem dMo_clear_33 : decode cMo_clear 33 = .ok (.getfield 25, 3) := by decide +kernel
theorem dMo_clear_36 : decode cMo_clear 36 = .ok (.iload 6, 2) := by decide +kernel
theorem dMo_clear_38 : decode cMo_clear 38 = .ok (.iconst 0, 1) := by decide +kernel
theorem dMo_clear_39 : decode cMo_clear 39 = .ok (.bastore, 1) := by decide +kernel
theorem dMo_clear_40 : decode cMo_clear 40 = .ok (.iinc 6 1, 3) := by decide +kernel
theorem dMo_clear_43 : decode cMo_clear 43 = .ok (.goto (-19), 3) := by decide +kernel
theorem dMo_clear_46 : decode cMo_clear 46 = .ok (.iconst 0, 1) := by decide +kernel
theorem dMo_clear_47 : decode cMo_clear 47 = .ok (.istore 6, 2) := by decide +kernel
theorem dMo_clear_49 : decode cMo_clear 49 = .ok (.iload 6, 2) := by decide +kernel
theorem dMo_clear_51 : decode cMo_clear 51 = .ok (.sipush 1024, 3) := by decide +kernel
theorem dMo_clear_54 : decode cMo_clear 54 = .ok (.if_icmp .ge 25, 3) := by decide +kernel
theorem dMo_clear_57 : decode cMo_clear 57 = .ok (.aload_n 0, 1) := by decide +kernel
theorem dMo_clear_58 : decode cMo_clear 58 = .ok (.getfield 29, 3) := by decide +kernel
theorem dMo_clear_61 : decode cMo_clear 61 = .ok (.iload 6, 2) := by decide +kernel
theorem dMo_clear_63 : decode cMo_clear 63 = .ok (.iconst 0, 1) := by decide +kernel
theorem dMo_clear_64 : decode cMo_clear 64 = .ok (.bastore, 1) := by decide +kernel
theorem dMo_clear_65 : decode cMo_clear 65 = .ok (.aload_n 0, 1) := by decide +kernel
theorem dMo_clear_66 : decode cMo_clear 66 = .ok (.getfield 57, 3) := by decide +kernel
theorem dMo_clear_69 : decode cMo_clear 69 = .ok (.iload 6, 2) := by decide +kernel
theorem dMo_clear_71 : decode cMo_clear 71 = .ok (.iconst (-1), 1) := by decide +kernel
theorem dMo_clear_72 : decode cMo_clear 72 = .ok (.iastore, 1) := by decide +kernel
theorem dMo_clear_73 : decode cMo_clear 73 = .ok (.iinc 6 1, 3) := by decide +kernel
theorem dMo_clear_76 : decode cMo_clear 76 = .ok (.goto (-27), 3) := by decide +kernel
theorem dMo_clear_79 : decode cMo_clear 79 = .ok (.iconst 0, 1) := by decide +kernel
theorem dMo_clear_80 : decode cMo_clear 80 = .ok (.istore 6, 2) := by decide +kernel
theorem dMo_clear_82 : decode cMo_clear 82 = .ok (.iload 6, 2) := by decide +kernel
theorem dMo_clear_84 : decode cMo_clear 84 = .ok (.iconst 4, 1) := by decide +kernel
theorem dMo_clear_85 : decode cMo_clear 85 = .ok (.if_icmp .ge 25, 3) := by decide +kernel
theorem dMo_clear_88 : decode cMo_clear 88 = .ok (.aload_n 0, 1) := by decide +kernel
theorem dMo_clear_89 : decode cMo_clear 89 = .ok (.getfield 32, 3) := by decide +kernel
theorem dMo_clear_92 : decode cMo_clear 92 = .ok (.iload 6, 2) := by decide +kernel
theorem dMo_clear_94 : decode cMo_clear 94 = .ok (.iconst 0, 1) := by decide +kernel
theorem dMo_clear_95 : decode cMo_clear 95 = .ok (.iastore, 1) := by decide +kernel
theorem dMo_clear_96 : decode cMo_clear 96 = .ok (.aload_n 0, 1) := by decide +kernel
theorem dMo_clear_97 : decode cMo_clear 97 = .ok (.getfield 42, 3) := by decide +kernel
theorem dMo_clear_100 : decode cMo_clear 100 = .ok (.iload 6, 2) := by decide +kernel
theorem dMo_clear_102 : decode cMo_clear 102 = .ok (.iconst 0, 1) := by decide +kernel
theorem dMo_clear_103 : decode cMo_clear 103 = .ok (.iastore, 1) := by decide +kernel
theorem dMo_clear_104 : decode cMo_clear 104 = .ok (.iinc 6 1, 3) := by decide +kernel
theorem dMo_clear_107 : decode cMo_clear 107 = .ok (.goto (-25), 3) := by decide +kernel
theorem dMo_clear_110 : decode cMo_clear 110 = .ok (.return_, 1) := by decide +kernel
theorem dMo_thrown_0 : decode cMo_thrown 0 = .ok (.aload_n 0, 1) := by decide +kernel
theorem dMo_thrown_1 : decode cMo_thrown 1 = .ok (.getfield 74, 3) := by decide +kernel
theorem dMo_thrown_4 : decode cMo_thrown 4 = .ok (.ireturn, 1) := by decide +kernel
theorem dMo_begin_0 : decode cMo_begin 0 = .ok (.aload_n 0, 1) := by decide +kernel
theorem dMo_begin_1 : decode cMo_begin 1 = .ok (.iload_n 1, 1) := by decide +kernel
theorem dMo_begin_2 : decode cMo_begin 2 = .ok (.iconst 1, 1) := by decide +kernel
theorem dMo_begin_3 : decode cMo_begin 3 = .ok (.if_icmp .lt 13, 3) := by decide +kernel
theorem dMo_begin_6 : decode cMo_begin 6 = .ok (.iload_n 1, 1) := by decide +kernel
theorem dMo_begin_7 : decode cMo_begin 7 = .ok (.bipush 8, 2) := by decide +kernel
theorem dMo_begin_9 : decode cMo_begin 9 = .ok (.if_icmp .gt 7, 3) := by decide +kernel
theorem dMo_begin_12 : decode cMo_begin 12 = .ok (.iconst 0, 1) := by decide +kernel
theorem dMo_begin_13 : decode cMo_begin 13 = .ok (.goto 4, 3) := by decide +kernel
theorem dMo_begin_16 : decode cMo_begin 16 = .ok (.iconst 1, 1) := by decide +kernel
theorem dMo_begin_17 : decode cMo_begin 17 = .ok (.putfield 74, 3) := by decide +kernel
theorem dMo_begin_20 : decode cMo_begin 20 = .ok (.aload_n 0, 1) := by decide +kernel
theorem dMo_begin_21 : decode cMo_begin 21 = .ok (.getfield 74, 3) := by decide +kernel
theorem dMo_begin_24 : decode cMo_begin 24 = .ok (.ifCond .ne 11, 3) := by decide +kernel
theorem dMo_begin_27 : decode cMo_begin 27 = .ok (.aload_n 0, 1) := by decide +kernel
theorem dMo_begin_28 : decode cMo_begin 28 = .ok (.iload_n 1, 1) := by decide +kernel
theorem dMo_begin_29 : decode cMo_begin 29 = .ok (.lload_n 2, 1) := by decide +kernel
theorem dMo_begin_30 : decode cMo_begin 30 = .ok (.lload 4, 2) := by decide +kernel
theorem dMo_begin_32 : decode cMo_begin 32 = .ok (.invokevirtual 70, 3) := by decide +kernel
theorem dMo_begin_35 : decode cMo_begin 35 = .ok (.return_, 1) := by decide +kernel
theorem dMo_install_0 : decode cMo_install 0 = .ok (.aload_n 0, 1) := by decide +kernel
theorem dMo_install_1 : decode cMo_install 1 = .ok (.aload_n 0, 1) := by decide +kernel
theorem dMo_install_2 : decode cMo_install 2 = .ok (.iload_n 1, 1) := by decide +kernel
theorem dMo_install_3 : decode cMo_install 3 = .ok (.invokevirtual 158, 3) := by decide +kernel
theorem dMo_install_6 : decode cMo_install 6 = .ok (.ifCond .ne 7, 3) := by decide +kernel
theorem dMo_install_9 : decode cMo_install 9 = .ok (.iconst 1, 1) := by decide +kernel
theorem dMo_install_10 : decode cMo_install 10 = .ok (.goto 17, 3) := by decide +kernel
theorem dMo_install_13 : decode cMo_install 13 = .ok (.aload_n 0, 1) := by decide +kernel
theorem dMo_install_14 : decode cMo_install 14 = .ok (.getfield 25, 3) := by decide +kernel
theorem dMo_install_17 : decode cMo_install 17 = .ok (.iload_n 1, 1) := by decide +kernel
theorem dMo_install_18 : decode cMo_install 18 = .ok (.baload, 1) := by decide +kernel
theorem dMo_install_19 : decode cMo_install 19 = .ok (.ifCond .eq 7, 3) := by decide +kernel
theorem dMo_install_22 : decode cMo_install 22 = .ok (.iconst 2, 1) := by decide +kernel
theorem dMo_install_23 : decode cMo_install 23 = .ok (.goto 4, 3) := by decide +kernel
theorem dMo_install_26 : decode cMo_install 26 = .ok (.iconst 0, 1) := by decide +kernel
theorem dMo_install_27 : decode cMo_install 27 = .ok (.putfield 74, 3) := by decide +kernel
theorem dMo_install_30 : decode cMo_install 30 = .ok (.aload_n 0, 1) := by decide +kernel
theorem dMo_install_31 : decode cMo_install 31 = .ok (.getfield 74, 3) := by decide +kernel
theorem dMo_install_34 : decode cMo_install 34 = .ok (.ifCond .le 5, 3) := by decide +kernel
theorem dMo_install_37 : decode cMo_install 37 = .ok (.iconst 0, 1) := by decide +kernel
theorem dMo_install_38 : decode cMo_install 38 = .ok (.ireturn, 1) := by decide +kernel
theorem dMo_install_39 : decode cMo_install 39 = .ok (.aload_n 0, 1) := by decide +kernel
theorem dMo_install_40 : decode cMo_install 40 = .ok (.getfield 25, 3) := by decide +kernel
theorem dMo_install_43 : decode cMo_install 43 = .ok (.iload_n 1, 1) := by decide +kernel
theorem dMo_install_44 : decode cMo_install 44 = .ok (.iconst 1, 1) := by decide +kernel
theorem dMo_install_45 : decode cMo_install 45 = .ok (.bastore, 1) := by decide +kernel
theorem dMo_install_46 : decode cMo_install 46 = .ok (.aload_n 0, 1) := by decide +kernel
theorem dMo_install_47 : decode cMo_install 47 = .ok (.getfield 127, 3) := by decide +kernel
theorem dMo_install_50 : decode cMo_install 50 = .ok (.aload_n 0, 1) := by decide +kernel
theorem dMo_install_51 : decode cMo_install 51 = .ok (.getfield 127, 3) := by decide +kernel
theorem dMo_install_54 : decode cMo_install 54 = .ok (.iconst 1, 1) := by decide +kernel
theorem dMo_install_55 : decode cMo_install 55 = .ok (.iadd, 1) := by decide +kernel
theorem dMo_install_56 : decode cMo_install 56 = .ok (.imul, 1) := by decide +kernel
theorem dMo_install_57 : decode cMo_install 57 = .ok (.iconst 2, 1) := by decide +kernel
theorem dMo_install_58 : decode cMo_install 58 = .ok (.idiv, 1) := by decide +kernel
theorem dMo_install_59 : decode cMo_install 59 = .ok (.ireturn, 1) := by decide +kernel
theorem dMo_isDecoder_0 : decode cMo_isDecoder 0 = .ok (.iload_n 1, 1) := by decide +kernel
theorem dMo_isDecoder_1 : decode cMo_isDecoder 1 = .ok (.ifCond .lt 15, 3) := by decide +kernel
theorem dMo_isDecoder_4 : decode cMo_isDecoder 4 = .ok (.iload_n 1, 1) := by decide +kernel
theorem dMo_isDecoder_5 : decode cMo_isDecoder 5 = .ok (.aload_n 0, 1) := by decide +kernel
theorem dMo_isDecoder_6 : decode cMo_isDecoder 6 = .ok (.invokevirtual 139, 3) := by decide +kernel
theorem dMo_isDecoder_9 : decode cMo_isDecoder 9 = .ok (.if_icmp .ge 7, 3) := by decide +kernel
theorem dMo_isDecoder_12 : decode cMo_isDecoder 12 = .ok (.iconst 1, 1) := by decide +kernel
theorem dMo_isDecoder_13 : decode cMo_isDecoder 13 = .ok (.goto 4, 3) := by decide +kernel
theorem dMo_isDecoder_16 : decode cMo_isDecoder 16 = .ok (.iconst 0, 1) := by decide +kernel
theorem dMo_isDecoder_17 : decode cMo_isDecoder 17 = .ok (.ireturn, 1) := by decide +kernel
theorem dMo_leaves_0 : decode cMo_leaves 0 = .ok (.iconst 1, 1) := by decide +kernel
theorem dMo_leaves_1 : decode cMo_leaves 1 = .ok (.aload_n 0, 1) := by decide +kernel
theorem dMo_leaves_2 : decode cMo_leaves 2 = .ok (.getfield 127, 3) := by decide +kernel
theorem dMo_leaves_5 : decode cMo_leaves 5 = .ok (.ishl, 1) := by decide +kernel
theorem dMo_leaves_6 : decode cMo_leaves 6 = .ok (.ireturn, 1) := by decide +kernel
theorem dMo_subscribe_0 : decode cMo_subscribe 0 = .ok (.aload_n 0, 1) := by decide +kernel
theorem dMo_subscribe_1 : decode cMo_subscribe 1 = .ok (.aload_n 0, 1) := by decide +kernel
theorem dMo_subscribe_2 : decode cMo_subscribe 2 = .ok (.iload_n 1, 1) := by decide +kernel
theorem dMo_subscribe_3 : decode cMo_subscribe 3 = .ok (.invokevirtual 158, 3) := by decide +kernel
theorem dMo_subscribe_6 : decode cMo_subscribe 6 = .ok (.ifCond .eq 14, 3) := by decide +kernel
theorem dMo_subscribe_9 : decode cMo_subscribe 9 = .ok (.iload_n 2, 1) := by decide +kernel
theorem dMo_subscribe_10 : decode cMo_subscribe 10 = .ok (.invokestatic 162, 3) := by decide +kernel
theorem dMo_subscribe_13 : decode cMo_subscribe 13 = .ok (.ifCond .eq 7, 3) := by decide +kernel
theorem dMo_subscribe_16 : decode cMo_subscribe 16 = .ok (.iconst 0, 1) := by decide +kernel
theorem dMo_subscribe_17 : decode cMo_subscribe 17 = .ok (.goto 4, 3) := by decide +kernel
theorem dMo_subscribe_20 : decode cMo_subscribe 20 = .ok (.iconst 1, 1) := by decide +kernel
theorem dMo_subscribe_21 : decode cMo_subscribe 21 = .ok (.putfield 74, 3) := by decide +kernel
theorem dMo_subscribe_24 : decode cMo_subscribe 24 = .ok (.aload_n 0, 1) := by decide +kernel
theorem dMo_subscribe_25 : decode cMo_subscribe 25 = .ok (.getfield 74, 3) := by decide +kernel
theorem dMo_subscribe_28 : decode cMo_subscribe 28 = .ok (.ifCond .le 5, 3) := by decide +kernel
theorem dMo_subscribe_31 : decode cMo_subscribe 31 = .ok (.iconst 0, 1) := by decide +kernel
theorem dMo_subscribe_32 : decode cMo_subscribe 32 = .ok (.ireturn, 1) := by decide +kernel
theorem dMo_subscribe_33 : decode cMo_subscribe 33 = .ok (.aload_n 0, 1) := by decide +kernel
theorem dMo_subscribe_34 : decode cMo_subscribe 34 = .ok (.getfield 29, 3) := by decide +kernel
theorem dMo_subscribe_37 : decode cMo_subscribe 37 = .ok (.sipush 256, 3) := by decide +kernel
theorem dMo_subscribe_40 : decode cMo_subscribe 40 = .ok (.iload_n 2, 1) := by decide +kernel
theorem dMo_subscribe_41 : decode cMo_subscribe 41 = .ok (.imul, 1) := by decide +kernel
theorem dMo_subscribe_42 : decode cMo_subscribe 42 = .ok (.iload_n 1, 1) := by decide +kernel
theorem dMo_subscribe_43 : decode cMo_subscribe 43 = .ok (.iadd, 1) := by decide +kernel
theorem dMo_subscribe_44 : decode cMo_subscribe 44 = .ok (.baload, 1) := by decide +kernel
theorem dMo_subscribe_45 : decode cMo_subscribe 45 = .ok (.istore 4, 2) := by decide +kernel
theorem dMo_subscribe_47 : decode cMo_subscribe 47 = .ok (.aload_n 0, 1) := by decide +kernel
theorem dMo_subscribe_48 : decode cMo_subscribe 48 = .ok (.getfield 29, 3) := by decide +kernel
theorem dMo_subscribe_51 : decode cMo_subscribe 51 = .ok (.sipush 256, 3) := by decide +kernel
theorem dMo_subscribe_54 : decode cMo_subscribe 54 = .ok (.iload_n 2, 1) := by decide +kernel
theorem dMo_subscribe_55 : decode cMo_subscribe 55 = .ok (.imul, 1) := by decide +kernel
theorem dMo_subscribe_56 : decode cMo_subscribe 56 = .ok (.iload_n 1, 1) := by decide +kernel
theorem dMo_subscribe_57 : decode cMo_subscribe 57 = .ok (.iadd, 1) := by decide +kernel
theorem dMo_subscribe_58 : decode cMo_subscribe 58 = .ok (.iload_n 3, 1) := by decide +kernel
theorem dMo_subscribe_59 : decode cMo_subscribe 59 = .ok (.bastore, 1) := by decide +kernel
theorem dMo_subscribe_60 : decode cMo_subscribe 60 = .ok (.iload 4, 2) := by decide +kernel
theorem dMo_subscribe_62 : decode cMo_subscribe 62 = .ok (.iload_n 3, 1) := by decide +kernel
theorem dMo_subscribe_63 : decode cMo_subscribe 63 = .ok (.if_icmp .eq 7, 3) := by decide +kernel
theorem dMo_subscribe_66 : decode cMo_subscribe 66 = .ok (.iconst 1, 1) := by decide +kernel
theorem dMo_subscribe_67 : decode cMo_subscribe 67 = .ok (.goto 4, 3) := by decide +kernel
theorem dMo_subscribe_70 : decode cMo_subscribe 70 = .ok (.iconst 0, 1) := by decide +kernel
theorem dMo_subscribe_71 : decode cMo_subscribe 71 = .ok (.ireturn, 1) := by decide +kernel
theorem dMo_isChannel_0 : decode cMo_isChannel 0 = .ok (.iload_n 0, 1) := by decide +kernel
theorem dMo_isChannel_1 : decode cMo_isChannel 1 = .ok (.ifCond .lt 12, 3) := by decide +kernel
theorem dMo_isChannel_4 : decode cMo_isChannel 4 = .ok (.iload_n 0, 1) := by decide +kernel
theorem dMo_isChannel_5 : decode cMo_isChannel 5 = .ok (.iconst 4, 1) := by decide +kernel
theorem dMo_isChannel_6 : decode cMo_isChannel 6 = .ok (.if_icmp .ge 7, 3) := by decide +kernel
theorem dMo_isChannel_9 : decode cMo_isChannel 9 = .ok (.iconst 1, 1) := by decide +kernel
theorem dMo_isChannel_10 : decode cMo_isChannel 10 = .ok (.goto 4, 3) := by decide +kernel
theorem dMo_isChannel_13 : decode cMo_isChannel 13 = .ok (.iconst 0, 1) := by decide +kernel
theorem dMo_isChannel_14 : decode cMo_isChannel 14 = .ok (.ireturn, 1) := by decide +kernel
theorem dMo_period_0 : decode cMo_period 0 = .ok (.aload_n 0, 1) := by decide +kernel
theorem dMo_period_1 : decode cMo_period 1 = .ok (.iload_n 1, 1) := by decide +kernel
theorem dMo_period_2 : decode cMo_period 2 = .ok (.invokestatic 162, 3) := by decide +kernel
theorem dMo_period_5 : decode cMo_period 5 = .ok (.ifCond .ne 7, 3) := by decide +kernel
theorem dMo_period_8 : decode cMo_period 8 = .ok (.iconst 1, 1) := by decide +kernel
theorem dMo_period_9 : decode cMo_period 9 = .ok (.goto 20, 3) := by decide +kernel
theorem dMo_period_12 : decode cMo_period 12 = .ok (.aload_n 0, 1) := by decide +kernel
theorem dMo_period_13 : decode cMo_period 13 = .ok (.getfield 32, 3) := by decide +kernel
theorem dMo_period_16 : decode cMo_period 16 = .ok (.iload_n 1, 1) := by decide +kernel
theorem dMo_period_17 : decode cMo_period 17 = .ok (.iaload, 1) := by decide +kernel
theorem dMo_period_18 : decode cMo_period 18 = .ok (.sipush 999, 3) := by decide +kernel
theorem dMo_period_21 : decode cMo_period 21 = .ok (.if_icmp .ne 7, 3) := by decide +kernel
theorem dMo_period_24 : decode cMo_period 24 = .ok (.iconst 2, 1) := by decide +kernel
theorem dMo_period_25 : decode cMo_period 25 = .ok (.goto 4, 3) := by decide +kernel
theorem dMo_period_28 : decode cMo_period 28 = .ok (.iconst 0, 1) := by decide +kernel
theorem dMo_period_29 : decode cMo_period 29 = .ok (.putfield 74, 3) := by decide +kernel
theorem dMo_period_32 : decode cMo_period 32 = .ok (.aload_n 0, 1) := by decide +kernel
theorem dMo_period_33 : decode cMo_period 33 = .ok (.getfield 74, 3) := by decide +kernel
theorem dMo_period_36 : decode cMo_period 36 = .ok (.ifCond .le 5, 3) := by decide +kernel
theorem dMo_period_39 : decode cMo_period 39 = .ok (.iconst 0, 1) := by decide +kernel
theorem dMo_period_40 : decode cMo_period 40 = .ok (.ireturn, 1) := by decide +kernel
theorem dMo_period_41 : decode cMo_period 41 = .ok (.aload_n 0, 1) := by decide +kernel
theorem dMo_period_42 : decode cMo_period 42 = .ok (.getfield 32, 3) := by decide +kernel
theorem dMo_period_45 : decode cMo_period 45 = .ok (.iload_n 1, 1) := by decide +kernel
theorem dMo_period_46 : decode cMo_period 46 = .ok (.dup2, 1) := by decide +kernel
theorem dMo_period_47 : decode cMo_period 47 = .ok (.iaload, 1) := by decide +kernel
theorem dMo_period_48 : decode cMo_period 48 = .ok (.iconst 1, 1) := by decide +kernel
theorem dMo_period_49 : decode cMo_period 49 = .ok (.iadd, 1) := by decide +kernel
theorem dMo_period_50 : decode cMo_period 50 = .ok (.iastore, 1) := by decide +kernel
theorem dMo_period_51 : decode cMo_period 51 = .ok (.aload_n 0, 1) := by decide +kernel
theorem dMo_period_52 : decode cMo_period 52 = .ok (.getfield 35, 3) := by decide +kernel
theorem dMo_period_55 : decode cMo_period 55 = .ok (.iload_n 1, 1) := by decide +kernel
theorem dMo_period_56 : decode cMo_period 56 = .ok (.lload_n 2, 1) := by decide +kernel
theorem dMo_period_57 : decode cMo_period 57 = .ok (.lastore, 1) := by decide +kernel
theorem dMo_period_58 : decode cMo_period 58 = .ok (.aload_n 0, 1) := by decide +kernel
theorem dMo_period_59 : decode cMo_period 59 = .ok (.getfield 39, 3) := by decide +kernel
theorem dMo_period_62 : decode cMo_period 62 = .ok (.iload_n 1, 1) := by decide +kernel
theorem dMo_period_63 : decode cMo_period 63 = .ok (.lload 4, 2) := by decide +kernel
theorem dMo_period_65 : decode cMo_period 65 = .ok (.lastore, 1) := by decide +kernel
theorem dMo_period_66 : decode cMo_period 66 = .ok (.aload_n 0, 1) := by decide +kernel
theorem dMo_period_67 : decode cMo_period 67 = .ok (.iload_n 1, 1) := by decide +kernel
theorem dMo_period_68 : decode cMo_period 68 = .ok (.invokevirtual 165, 3) := by decide +kernel
theorem dMo_period_71 : decode cMo_period 71 = .ok (.aload_n 0, 1) := by decide +kernel
theorem dMo_period_72 : decode cMo_period 72 = .ok (.getfield 42, 3) := by decide +kernel
theorem dMo_period_75 : decode cMo_period 75 = .ok (.iload_n 1, 1) := by decide +kernel
theorem dMo_period_76 : decode cMo_period 76 = .ok (.iaload, 1) := by decide +kernel
theorem dMo_period_77 : decode cMo_period 77 = .ok (.ireturn, 1) := by decide +kernel
theorem dMo_putAir_0 : decode cMo_putAir 0 = .ok (.iload_n 3, 1) := by decide +kernel
theorem dMo_putAir_1 : decode cMo_putAir 1 = .ok (.iconst 1, 1) := by decide +kernel
theorem dMo_putAir_2 : decode cMo_putAir 2 = .ok (.isub, 1) := by decide +kernel
theorem dMo_putAir_3 : decode cMo_putAir 3 = .ok (.istore 4, 2) := by decide +kernel
theorem dMo_putAir_5 : decode cMo_putAir 5 = .ok (.iload 4, 2) := by decide +kernel
theorem dMo_putAir_7 : decode cMo_putAir 7 = .ok (.ifCond .lt 40, 3) := by decide +kernel
theorem dMo_putAir_10 : decode cMo_putAir 10 = .ok (.aload_n 0, 1) := by decide +kernel
theorem dMo_putAir_11 : decode cMo_putAir 11 = .ok (.getfield 54, 3) := by decide +kernel
theorem dMo_putAir_14 : decode cMo_putAir 14 = .ok (.aload_n 0, 1) := by decide +kernel
theorem dMo_putAir_15 : decode cMo_putAir 15 = .ok (.getfield 136, 3) := by decide +kernel
theorem dMo_putAir_18 : decode cMo_putAir 18 = .ok (.lload_n 1, 1) := by decide +kernel
theorem dMo_putAir_19 : decode cMo_putAir 19 = .ok (.bipush 8, 2) := by decide +kernel
theorem dMo_putAir_21 : decode cMo_putAir 21 = .ok (.iload 4, 2) := by decide +kernel
theorem dMo_putAir_23 : decode cMo_putAir 23 = .ok (.imul, 1) := by decide +kernel
theorem dMo_putAir_24 : decode cMo_putAir 24 = .ok (.lshr, 1) := by decide +kernel
theorem dMo_putAir_25 : decode cMo_putAir 25 = .ok (.l2i, 1) := by decide +kernel
theorem dMo_putAir_26 : decode cMo_putAir 26 = .ok (.sipush 255, 3) := by decide +kernel
theorem dMo_putAir_29 : decode cMo_putAir 29 = .ok (.iand, 1) := by decide +kernel
theorem dMo_putAir_30 : decode cMo_putAir 30 = .ok (.iastore, 1) := by decide +kernel
theorem dMo_putAir_31 : decode cMo_putAir 31 = .ok (.aload_n 0, 1) := by decide +kernel
theorem dMo_putAir_32 : decode cMo_putAir 32 = .ok (.dup, 1) := by decide +kernel
theorem dMo_putAir_33 : decode cMo_putAir 33 = .ok (.getfield 136, 3) := by decide +kernel
theorem dMo_putAir_36 : decode cMo_putAir 36 = .ok (.iconst 1, 1) := by decide +kernel
theorem dMo_putAir_37 : decode cMo_putAir 37 = .ok (.iadd, 1) := by decide +kernel
theorem dMo_putAir_38 : decode cMo_putAir 38 = .ok (.putfield 136, 3) := by decide +kernel
theorem dMo_putAir_41 : decode cMo_putAir 41 = .ok (.iinc 4 (-1), 3) := by decide +kernel
theorem dMo_putAir_44 : decode cMo_putAir 44 = .ok (.goto (-39), 3) := by decide +kernel
theorem dMo_putAir_47 : decode cMo_putAir 47 = .ok (.return_, 1) := by decide +kernel
theorem dMo_makeKey_0 : decode cMo_makeKey 0 = .ok (.iload_n 1, 1) := by decide +kernel
theorem dMo_makeKey_1 : decode cMo_makeKey 1 = .ok (.ifCond .ne 20, 3) := by decide +kernel
theorem dMo_makeKey_4 : decode cMo_makeKey 4 = .ok (.aload_n 0, 1) := by decide +kernel
theorem dMo_makeKey_5 : decode cMo_makeKey 5 = .ok (.aload_n 0, 1) := by decide +kernel
theorem dMo_makeKey_6 : decode cMo_makeKey 6 = .ok (.getfield 130, 3) := by decide +kernel
theorem dMo_makeKey_9 : decode cMo_makeKey 9 = .ok (.aload_n 0, 1) := by decide +kernel
theorem dMo_makeKey_10 : decode cMo_makeKey 10 = .ok (.getfield 133, 3) := by decide +kernel
theorem dMo_makeKey_13 : decode cMo_makeKey 13 = .ok (.lconst 0, 1) := by decide +kernel
theorem dMo_makeKey_14 : decode cMo_makeKey 14 = .ok (.lconst 0, 1) := by decide +kernel
theorem dMo_makeKey_15 : decode cMo_makeKey 15 = .ok (.invokevirtual 120, 3) := by decide +kernel
theorem dMo_makeKey_18 : decode cMo_makeKey 18 = .ok (.goto 25, 3) := by decide +kernel
theorem dMo_makeKey_21 : decode cMo_makeKey 21 = .ok (.aload_n 0, 1) := by decide +kernel
theorem dMo_makeKey_22 : decode cMo_makeKey 22 = .ok (.iload_n 1, 1) := by decide +kernel
theorem dMo_makeKey_23 : decode cMo_makeKey 23 = .ok (.iload_n 2, 1) := by decide +kernel
theorem dMo_makeKey_24 : decode cMo_makeKey 24 = .ok (.invokevirtual 152, 3) := by decide +kernel
theorem dMo_makeKey_27 : decode cMo_makeKey 27 = .ok (.aload_n 0, 1) := by decide +kernel
theorem dMo_makeKey_28 : decode cMo_makeKey 28 = .ok (.aload_n 0, 1) := by decide +kernel
theorem dMo_makeKey_29 : decode cMo_makeKey 29 = .ok (.getfield 82, 3) := by decide +kernel
theorem dMo_makeKey_32 : decode cMo_makeKey 32 = .ok (.aload_n 0, 1) := by decide +kernel
theorem dMo_makeKey_33 : decode cMo_makeKey 33 = .ok (.getfield 86, 3) := by decide +kernel
theorem dMo_makeKey_36 : decode cMo_makeKey 36 = .ok (.lconst 0, 1) := by decide +kernel
theorem dMo_makeKey_37 : decode cMo_makeKey 37 = .ok (.ldc2_w 156, 3) := by decide +kernel
theorem dMo_makeKey_40 : decode cMo_makeKey 40 = .ok (.invokevirtual 120, 3) := by decide +kernel
theorem dMo_makeKey_43 : decode cMo_makeKey 43 = .ok (.return_, 1) := by decide +kernel
theorem dMo_encrypt_0 : decode cMo_encrypt 0 = .ok (.aload_n 0, 1) := by decide +kernel
theorem dMo_encrypt_1 : decode cMo_encrypt 1 = .ok (.lload_n 1, 1) := by decide +kernel
theorem dMo_encrypt_2 : decode cMo_encrypt 2 = .ok (.lload_n 3, 1) := by decide +kernel
theorem dMo_encrypt_3 : decode cMo_encrypt 3 = .ok (.invokevirtual 89, 3) := by decide +kernel
theorem dMo_encrypt_6 : decode cMo_encrypt 6 = .ok (.aload_n 0, 1) := by decide +kernel
theorem dMo_encrypt_7 : decode cMo_encrypt 7 = .ok (.lload 5, 2) := by decide +kernel
theorem dMo_encrypt_9 : decode cMo_encrypt 9 = .ok (.lload 7, 2) := by decide +kernel
theorem dMo_encrypt_11 : decode cMo_encrypt 11 = .ok (.invokevirtual 93, 3) := by decide +kernel
theorem dMo_encrypt_14 : decode cMo_encrypt 14 = .ok (.aload_n 0, 1) := by decide +kernel
theorem dMo_encrypt_15 : decode cMo_encrypt 15 = .ok (.iconst 0, 1) := by decide +kernel
theorem dMo_encrypt_16 : decode cMo_encrypt 16 = .ok (.invokevirtual 96, 3) := by decide +kernel
theorem dMo_encrypt_19 : decode cMo_encrypt 19 = .ok (.iconst 1, 1) := by decide +kernel
theorem dMo_encrypt_20 : decode cMo_encrypt 20 = .ok (.istore 9, 2) := by decide +kernel
theorem dMo_encrypt_22 : decode cMo_encrypt 22 = .ok (.iload 9, 2) := by decide +kernel
theorem dMo_encrypt_24 : decode cMo_encrypt 24 = .ok (.bipush 10, 2) := by decide +kernel
theorem dMo_encrypt_26 : decode cMo_encrypt 26 = .ok (.if_icmp .gt 66, 3) := by decide +kernel
theorem dMo_encrypt_29 : decode cMo_encrypt 29 = .ok (.iconst 0, 1) := by decide +kernel
theorem dMo_encrypt_30 : decode cMo_encrypt 30 = .ok (.istore 10, 2) := by decide +kernel
theorem dMo_encrypt_32 : decode cMo_encrypt 32 = .ok (.iload 10, 2) := by decide +kernel
theorem dMo_encrypt_34 : decode cMo_encrypt 34 = .ok (.bipush 16, 2) := by decide +kernel
theorem dMo_encrypt_36 : decode cMo_encrypt 36 = .ok (.if_icmp .ge 28, 3) := by decide +kernel
theorem dMo_encrypt_39 : decode cMo_encrypt 39 = .ok (.aload_n 0, 1) := by decide +kernel
theorem dMo_encrypt_40 : decode cMo_encrypt 40 = .ok (.getfield 19, 3) := by decide +kernel
theorem dMo_encrypt_43 : decode cMo_encrypt 43 = .ok (.iload 10, 2) := by decide +kernel
theorem dMo_encrypt_45 : decode cMo_encrypt 45 = .ok (.aload_n 0, 1) := by decide +kernel
theorem dMo_encrypt_46 : decode cMo_encrypt 46 = .ok (.getfield 7, 3) := by decide +kernel
theorem dMo_encrypt_49 : decode cMo_encrypt 49 = .ok (.aload_n 0, 1) := by decide +kernel
theorem dMo_encrypt_50 : decode cMo_encrypt 50 = .ok (.getfield 19, 3) := by decide +kernel
theorem dMo_encrypt_53 : decode cMo_encrypt 53 = .ok (.iload 10, 2) := by decide +kernel
theorem dMo_encrypt_55 : decode cMo_encrypt 55 = .ok (.iaload, 1) := by decide +kernel
theorem dMo_encrypt_56 : decode cMo_encrypt 56 = .ok (.iaload, 1) := by decide +kernel
theorem dMo_encrypt_57 : decode cMo_encrypt 57 = .ok (.iastore, 1) := by decide +kernel
theorem dMo_encrypt_58 : decode cMo_encrypt 58 = .ok (.iinc 10 1, 3) := by decide +kernel
theorem dMo_encrypt_61 : decode cMo_encrypt 61 = .ok (.goto (-29), 3) := by decide +kernel
theorem dMo_encrypt_64 : decode cMo_encrypt 64 = .ok (.aload_n 0, 1) := by decide +kernel
theorem dMo_encrypt_65 : decode cMo_encrypt 65 = .ok (.iconst 1, 1) := by decide +kernel
theorem dMo_encrypt_66 : decode cMo_encrypt 66 = .ok (.invokevirtual 100, 3) := by decide +kernel
theorem dMo_encrypt_69 : decode cMo_encrypt 69 = .ok (.iload 9, 2) := by decide +kernel
theorem dMo_encrypt_71 : decode cMo_encrypt 71 = .ok (.bipush 10, 2) := by decide +kernel
theorem dMo_encrypt_73 : decode cMo_encrypt 73 = .ok (.if_icmp .ge 7, 3) := by decide +kernel
theorem dMo_encrypt_76 : decode cMo_encrypt 76 = .ok (.aload_n 0, 1) := by decide +kernel
theorem dMo_encrypt_77 : decode cMo_encrypt 77 = .ok (.invokevirtual 103, 3) := by decide +kernel
theorem dMo_encrypt_80 : decode cMo_encrypt 80 = .ok (.aload_n 0, 1) := by decide +kernel
theorem dMo_encrypt_81 : decode cMo_encrypt 81 = .ok (.iload 9, 2) := by decide +kernel
theorem dMo_encrypt_83 : decode cMo_encrypt 83 = .ok (.invokevirtual 96, 3) := by decide +kernel
theorem dMo_encrypt_86 : decode cMo_encrypt 86 = .ok (.iinc 9 1, 3) := by decide +kernel
theorem dMo_encrypt_89 : decode cMo_encrypt 89 = .ok (.goto (-67), 3) := by decide +kernel
theorem dMo_encrypt_92 : decode cMo_encrypt 92 = .ok (.aload_n 0, 1) := by decide +kernel
theorem dMo_encrypt_93 : decode cMo_encrypt 93 = .ok (.invokevirtual 106, 3) := by decide +kernel
theorem dMo_encrypt_96 : decode cMo_encrypt 96 = .ok (.return_, 1) := by decide +kernel
theorem dMo_load_0 : decode cMo_load 0 = .ok (.iconst 0, 1) := by decide +kernel
theorem dMo_load_1 : decode cMo_load 1 = .ok (.istore 5, 2) := by decide +kernel
theorem dMo_load_3 : decode cMo_load 3 = .ok (.iload 5, 2) := by decide +kernel
theorem dMo_load_5 : decode cMo_load 5 = .ok (.bipush 16, 2) := by decide +kernel
theorem dMo_load_7 : decode cMo_load 7 = .ok (.if_icmp .ge 45, 3) := by decide +kernel
theorem dMo_load_10 : decode cMo_load 10 = .ok (.aload_n 0, 1) := by decide +kernel
theorem dMo_load_11 : decode cMo_load 11 = .ok (.getfield 19, 3) := by decide +kernel
theorem dMo_load_14 : decode cMo_load 14 = .ok (.iload 5, 2) := by decide +kernel
theorem dMo_load_16 : decode cMo_load 16 = .ok (.iload 5, 2) := by decide +kernel
theorem dMo_load_18 : decode cMo_load 18 = .ok (.bipush 8, 2) := by decide +kernel
theorem dMo_load_20 : decode cMo_load 20 = .ok (.if_icmp .ge 7, 3) := by decide +kernel
theorem dMo_load_23 : decode cMo_load 23 = .ok (.lload_n 1, 1) := by decide +kernel
theorem dMo_load_24 : decode cMo_load 24 = .ok (.goto 4, 3) := by decide +kernel
theorem dMo_load_27 : decode cMo_load 27 = .ok (.lload_n 3, 1) := by decide +kernel
theorem dMo_load_28 : decode cMo_load 28 = .ok (.bipush 56, 2) := by decide +kernel
theorem dMo_load_30 : decode cMo_load 30 = .ok (.bipush 8, 2) := by decide +kernel
theorem dMo_load_32 : decode cMo_load 32 = .ok (.iload 5, 2) := by decide +kernel
theorem dMo_load_34 : decode cMo_load 34 = .ok (.bipush 8, 2) := by decide +kernel
theorem dMo_load_36 : decode cMo_load 36 = .ok (.irem, 1) := by decide +kernel
theorem dMo_load_37 : decode cMo_load 37 = .ok (.imul, 1) := by decide +kernel
theorem dMo_load_38 : decode cMo_load 38 = .ok (.isub, 1) := by decide +kernel
theorem dMo_load_39 : decode cMo_load 39 = .ok (.lshr, 1) := by decide +kernel
theorem dMo_load_40 : decode cMo_load 40 = .ok (.l2i, 1) := by decide +kernel
theorem dMo_load_41 : decode cMo_load 41 = .ok (.sipush 255, 3) := by decide +kernel
theorem dMo_load_44 : decode cMo_load 44 = .ok (.iand, 1) := by decide +kernel
theorem dMo_load_45 : decode cMo_load 45 = .ok (.iastore, 1) := by decide +kernel
theorem dMo_load_46 : decode cMo_load 46 = .ok (.iinc 5 1, 3) := by decide +kernel
theorem dMo_load_49 : decode cMo_load 49 = .ok (.goto (-46), 3) := by decide +kernel
theorem dMo_load_52 : decode cMo_load 52 = .ok (.return_, 1) := by decide +kernel
theorem dMo_addWords_0 : decode cMo_addWords 0 = .ok (.iconst 0, 1) := by decide +kernel
theorem dMo_addWords_1 : decode cMo_addWords 1 = .ok (.istore_n 2, 1) := by decide +kernel
theorem dMo_addWords_2 : decode cMo_addWords 2 = .ok (.iload_n 2, 1) := by decide +kernel
theorem dMo_addWords_3 : decode cMo_addWords 3 = .ok (.bipush 16, 2) := by decide +kernel
theorem dMo_addWords_5 : decode cMo_addWords 5 = .ok (.if_icmp .ge 33, 3) := by decide +kernel
theorem dMo_addWords_8 : decode cMo_addWords 8 = .ok (.aload_n 0, 1) := by decide +kernel
theorem dMo_addWords_9 : decode cMo_addWords 9 = .ok (.getfield 19, 3) := by decide +kernel
theorem dMo_addWords_12 : decode cMo_addWords 12 = .ok (.iload_n 2, 1) := by decide +kernel
theorem dMo_addWords_13 : decode cMo_addWords 13 = .ok (.aload_n 0, 1) := by decide +kernel
theorem dMo_addWords_14 : decode cMo_addWords 14 = .ok (.getfield 19, 3) := by decide +kernel
theorem dMo_addWords_17 : decode cMo_addWords 17 = .ok (.iload_n 2, 1) := by decide +kernel
theorem dMo_addWords_18 : decode cMo_addWords 18 = .ok (.iaload, 1) := by decide +kernel
theorem dMo_addWords_19 : decode cMo_addWords 19 = .ok (.aload_n 0, 1) := by decide +kernel
theorem dMo_addWords_20 : decode cMo_addWords 20 = .ok (.getfield 16, 3) := by decide +kernel
theorem dMo_addWords_23 : decode cMo_addWords 23 = .ok (.bipush 16, 2) := by decide +kernel
theorem dMo_addWords_25 : decode cMo_addWords 25 = .ok (.iload_n 1, 1) := by decide +kernel
theorem dMo_addWords_26 : decode cMo_addWords 26 = .ok (.imul, 1) := by decide +kernel
theorem dMo_addWords_27 : decode cMo_addWords 27 = .ok (.iload_n 2, 1) := by decide +kernel
theorem dMo_addWords_28 : decode cMo_addWords 28 = .ok (.iadd, 1) := by decide +kernel
theorem dMo_addWords_29 : decode cMo_addWords 29 = .ok (.iaload, 1) := by decide +kernel
theorem dMo_addWords_30 : decode cMo_addWords 30 = .ok (.ixor, 1) := by decide +kernel
theorem dMo_addWords_31 : decode cMo_addWords 31 = .ok (.iastore, 1) := by decide +kernel
theorem dMo_addWords_32 : decode cMo_addWords 32 = .ok (.iinc 2 1, 3) := by decide +kernel
theorem dMo_addWords_35 : decode cMo_addWords 35 = .ok (.goto (-33), 3) := by decide +kernel
theorem dMo_addWords_38 : decode cMo_addWords 38 = .ok (.return_, 1) := by decide +kernel
theorem dMo_turn_0 : decode cMo_turn 0 = .ok (.iconst 0, 1) := by decide +kernel
theorem dMo_turn_1 : decode cMo_turn 1 = .ok (.istore_n 2, 1) := by decide +kernel
theorem dMo_turn_2 : decode cMo_turn 2 = .ok (.iload_n 2, 1) := by decide +kernel
theorem dMo_turn_3 : decode cMo_turn 3 = .ok (.bipush 16, 2) := by decide +kernel
theorem dMo_turn_5 : decode cMo_turn 5 = .ok (.if_icmp .ge 32, 3) := by decide +kernel
theorem dMo_turn_8 : decode cMo_turn 8 = .ok (.aload_n 0, 1) := by decide +kernel
theorem dMo_turn_9 : decode cMo_turn 9 = .ok (.getfield 22, 3) := by decide +kernel
theorem dMo_turn_12 : decode cMo_turn 12 = .ok (.iload_n 2, 1) := by decide +kernel
theorem dMo_turn_13 : decode cMo_turn 13 = .ok (.aload_n 0, 1) := by decide +kernel
theorem dMo_turn_14 : decode cMo_turn 14 = .ok (.getfield 19, 3) := by decide +kernel
theorem dMo_turn_17 : decode cMo_turn 17 = .ok (.iload_n 2, 1) := by decide +kernel
theorem dMo_turn_18 : decode cMo_turn 18 = .ok (.iconst 4, 1) := by decide +kernel
theorem dMo_turn_19 : decode cMo_turn 19 = .ok (.iload_n 1, 1) := by decide +kernel
theorem dMo_turn_20 : decode cMo_turn 20 = .ok (.imul, 1) := by decide +kernel
theorem dMo_turn_21 : decode cMo_turn 21 = .ok (.iload_n 2, 1) := by decide +kernel
theorem dMo_turn_22 : decode cMo_turn 22 = .ok (.iconst 4, 1) := by decide +kernel
theorem dMo_turn_23 : decode cMo_turn 23 = .ok (.irem, 1) := by decide +kernel
theorem dMo_turn_24 : decode cMo_turn 24 = .ok (.imul, 1) := by decide +kernel
theorem dMo_turn_25 : decode cMo_turn 25 = .ok (.iadd, 1) := by decide +kernel
theorem dMo_turn_26 : decode cMo_turn 26 = .ok (.bipush 16, 2) := by decide +kernel
theorem dMo_turn_28 : decode cMo_turn 28 = .ok (.irem, 1) := by decide +kernel
theorem dMo_turn_29 : decode cMo_turn 29 = .ok (.iaload, 1) := by decide +kernel
theorem dMo_turn_30 : decode cMo_turn 30 = .ok (.iastore, 1) := by decide +kernel
theorem dMo_turn_31 : decode cMo_turn 31 = .ok (.iinc 2 1, 3) := by decide +kernel
theorem dMo_turn_34 : decode cMo_turn 34 = .ok (.goto (-32), 3) := by decide +kernel
theorem dMo_turn_37 : decode cMo_turn 37 = .ok (.iconst 0, 1) := by decide +kernel
theorem dMo_turn_38 : decode cMo_turn 38 = .ok (.istore_n 2, 1) := by decide +kernel
theorem dMo_turn_39 : decode cMo_turn 39 = .ok (.iload_n 2, 1) := by decide +kernel
theorem dMo_turn_40 : decode cMo_turn 40 = .ok (.bipush 16, 2) := by decide +kernel
theorem dMo_turn_42 : decode cMo_turn 42 = .ok (.if_icmp .ge 21, 3) := by decide +kernel
theorem dMo_turn_45 : decode cMo_turn 45 = .ok (.aload_n 0, 1) := by decide +kernel
theorem dMo_turn_46 : decode cMo_turn 46 = .ok (.getfield 19, 3) := by decide +kernel
theorem dMo_turn_49 : decode cMo_turn 49 = .ok (.iload_n 2, 1) := by decide +kernel
theorem dMo_turn_50 : decode cMo_turn 50 = .ok (.aload_n 0, 1) := by decide +kernel
theorem dMo_turn_51 : decode cMo_turn 51 = .ok (.getfield 22, 3) := by decide +kernel
theorem dMo_turn_54 : decode cMo_turn 54 = .ok (.iload_n 2, 1) := by decide +kernel
theorem dMo_turn_55 : decode cMo_turn 55 = .ok (.iaload, 1) := by decide +kernel
theorem dMo_turn_56 : decode cMo_turn 56 = .ok (.iastore, 1) := by decide +kernel
theorem dMo_turn_57 : decode cMo_turn 57 = .ok (.iinc 2 1, 3) := by decide +kernel
theorem dMo_turn_60 : decode cMo_turn 60 = .ok (.goto (-21), 3) := by decide +kernel
theorem dMo_turn_63 : decode cMo_turn 63 = .ok (.return_, 1) := by decide +kernel
theorem dMo_mix_0 : decode cMo_mix 0 = .ok (.iconst 0, 1) := by decide +kernel
theorem dMo_mix_1 : decode cMo_mix 1 = .ok (.istore_n 1, 1) := by decide +kernel
theorem dMo_mix_2 : decode cMo_mix 2 = .ok (.iload_n 1, 1) := by decide +kernel
theorem dMo_mix_3 : decode cMo_mix 3 = .ok (.bipush 16, 2) := by decide +kernel
theorem dMo_mix_5 : decode cMo_mix 5 = .ok (.if_icmp .ge 88, 3) := by decide +kernel
theorem dMo_mix_8 : decode cMo_mix 8 = .ok (.iload_n 1, 1) := by decide +kernel
theorem dMo_mix_9 : decode cMo_mix 9 = .ok (.iload_n 1, 1) := by decide +kernel
theorem dMo_mix_10 : decode cMo_mix 10 = .ok (.iconst 4, 1) := by decide +kernel
theorem dMo_mix_11 : decode cMo_mix 11 = .ok (.irem, 1) := by decide +kernel
theorem dMo_mix_12 : decode cMo_mix 12 = .ok (.isub, 1) := by decide +kernel
theorem dMo_mix_13 : decode cMo_mix 13 = .ok (.istore_n 2, 1) := by decide +kernel
theorem dMo_mix_14 : decode cMo_mix 14 = .ok (.aload_n 0, 1) := by decide +kernel
theorem dMo_mix_15 : decode cMo_mix 15 = .ok (.getfield 19, 3) := by decide +kernel
theorem dMo_mix_18 : decode cMo_mix 18 = .ok (.iload_n 1, 1) := by decide +kernel
theorem dMo_mix_19 : decode cMo_mix 19 = .ok (.iaload, 1) := by decide +kernel
theorem dMo_mix_20 : decode cMo_mix 20 = .ok (.istore_n 3, 1) := by decide +kernel
theorem dMo_mix_21 : decode cMo_mix 21 = .ok (.aload_n 0, 1) := by decide +kernel
theorem dMo_mix_22 : decode cMo_mix 22 = .ok (.getfield 19, 3) := by decide +kernel
theorem dMo_mix_25 : decode cMo_mix 25 = .ok (.iload_n 2, 1) := by decide +kernel
theorem dMo_mix_26 : decode cMo_mix 26 = .ok (.iload_n 1, 1) := by decide +kernel
theorem dMo_mix_27 : decode cMo_mix 27 = .ok (.iconst 1, 1) := by decide +kernel
theorem dMo_mix_28 : decode cMo_mix 28 = .ok (.iadd, 1) := by decide +kernel
theorem dMo_mix_29 : decode cMo_mix 29 = .ok (.iconst 4, 1) := by decide +kernel
theorem dMo_mix_30 : decode cMo_mix 30 = .ok (.irem, 1) := by decide +kernel
theorem dMo_mix_31 : decode cMo_mix 31 = .ok (.iadd, 1) := by decide +kernel
theorem dMo_mix_32 : decode cMo_mix 32 = .ok (.iaload, 1) := by decide +kernel
theorem dMo_mix_33 : decode cMo_mix 33 = .ok (.istore 4, 2) := by decide +kernel
theorem dMo_mix_35 : decode cMo_mix 35 = .ok (.aload_n 0, 1) := by decide +kernel
theorem dMo_mix_36 : decode cMo_mix 36 = .ok (.getfield 19, 3) := by decide +kernel
theorem dMo_mix_39 : decode cMo_mix 39 = .ok (.iload_n 2, 1) := by decide +kernel
theorem dMo_mix_40 : decode cMo_mix 40 = .ok (.iload_n 1, 1) := by decide +kernel
theorem dMo_mix_41 : decode cMo_mix 41 = .ok (.iconst 2, 1) := by decide +kernel
theorem dMo_mix_42 : decode cMo_mix 42 = .ok (.iadd, 1) := by decide +kernel
theorem dMo_mix_43 : decode cMo_mix 43 = .ok (.iconst 4, 1) := by decide +kernel
theorem dMo_mix_44 : decode cMo_mix 44 = .ok (.irem, 1) := by decide +kernel
theorem dMo_mix_45 : decode cMo_mix 45 = .ok (.iadd, 1) := by decide +kernel
theorem dMo_mix_46 : decode cMo_mix 46 = .ok (.iaload, 1) := by decide +kernel
theorem dMo_mix_47 : decode cMo_mix 47 = .ok (.istore 5, 2) := by decide +kernel
theorem dMo_mix_49 : decode cMo_mix 49 = .ok (.aload_n 0, 1) := by decide +kernel
theorem dMo_mix_50 : decode cMo_mix 50 = .ok (.getfield 19, 3) := by decide +kernel
theorem dMo_mix_53 : decode cMo_mix 53 = .ok (.iload_n 2, 1) := by decide +kernel
theorem dMo_mix_54 : decode cMo_mix 54 = .ok (.iload_n 1, 1) := by decide +kernel
theorem dMo_mix_55 : decode cMo_mix 55 = .ok (.iconst 3, 1) := by decide +kernel
theorem dMo_mix_56 : decode cMo_mix 56 = .ok (.iadd, 1) := by decide +kernel
theorem dMo_mix_57 : decode cMo_mix 57 = .ok (.iconst 4, 1) := by decide +kernel
theorem dMo_mix_58 : decode cMo_mix 58 = .ok (.irem, 1) := by decide +kernel
theorem dMo_mix_59 : decode cMo_mix 59 = .ok (.iadd, 1) := by decide +kernel
theorem dMo_mix_60 : decode cMo_mix 60 = .ok (.iaload, 1) := by decide +kernel
theorem dMo_mix_61 : decode cMo_mix 61 = .ok (.istore 6, 2) := by decide +kernel
theorem dMo_mix_63 : decode cMo_mix 63 = .ok (.aload_n 0, 1) := by decide +kernel
theorem dMo_mix_64 : decode cMo_mix 64 = .ok (.getfield 22, 3) := by decide +kernel
theorem dMo_mix_67 : decode cMo_mix 67 = .ok (.iload_n 1, 1) := by decide +kernel
theorem dMo_mix_68 : decode cMo_mix 68 = .ok (.iload_n 3, 1) := by decide +kernel
theorem dMo_mix_69 : decode cMo_mix 69 = .ok (.iconst 2, 1) := by decide +kernel
theorem dMo_mix_70 : decode cMo_mix 70 = .ok (.invokestatic 78, 3) := by decide +kernel
theorem dMo_mix_73 : decode cMo_mix 73 = .ok (.iload 4, 2) := by decide +kernel
theorem dMo_mix_75 : decode cMo_mix 75 = .ok (.iconst 3, 1) := by decide +kernel
theorem dMo_mix_76 : decode cMo_mix 76 = .ok (.invokestatic 78, 3) := by decide +kernel
theorem dMo_mix_79 : decode cMo_mix 79 = .ok (.ixor, 1) := by decide +kernel
theorem dMo_mix_80 : decode cMo_mix 80 = .ok (.iload 5, 2) := by decide +kernel
theorem dMo_mix_82 : decode cMo_mix 82 = .ok (.ixor, 1) := by decide +kernel
theorem dMo_mix_83 : decode cMo_mix 83 = .ok (.iload 6, 2) := by decide +kernel
theorem dMo_mix_85 : decode cMo_mix 85 = .ok (.ixor, 1) := by decide +kernel
theorem dMo_mix_86 : decode cMo_mix 86 = .ok (.iastore, 1) := by decide +kernel
theorem dMo_mix_87 : decode cMo_mix 87 = .ok (.iinc 1 1, 3) := by decide +kernel
theorem dMo_mix_90 : decode cMo_mix 90 = .ok (.goto (-88), 3) := by decide +kernel
theorem dMo_mix_93 : decode cMo_mix 93 = .ok (.iconst 0, 1) := by decide +kernel
theorem dMo_mix_94 : decode cMo_mix 94 = .ok (.istore_n 1, 1) := by decide +kernel
theorem dMo_mix_95 : decode cMo_mix 95 = .ok (.iload_n 1, 1) := by decide +kernel
theorem dMo_mix_96 : decode cMo_mix 96 = .ok (.bipush 16, 2) := by decide +kernel
theorem dMo_mix_98 : decode cMo_mix 98 = .ok (.if_icmp .ge 21, 3) := by decide +kernel
theorem dMo_mix_101 : decode cMo_mix 101 = .ok (.aload_n 0, 1) := by decide +kernel
theorem dMo_mix_102 : decode cMo_mix 102 = .ok (.getfield 19, 3) := by decide +kernel
theorem dMo_mix_105 : decode cMo_mix 105 = .ok (.iload_n 1, 1) := by decide +kernel
theorem dMo_mix_106 : decode cMo_mix 106 = .ok (.aload_n 0, 1) := by decide +kernel
theorem dMo_mix_107 : decode cMo_mix 107 = .ok (.getfield 22, 3) := by decide +kernel
theorem dMo_mix_110 : decode cMo_mix 110 = .ok (.iload_n 1, 1) := by decide +kernel
theorem dMo_mix_111 : decode cMo_mix 111 = .ok (.iaload, 1) := by decide +kernel
theorem dMo_mix_112 : decode cMo_mix 112 = .ok (.iastore, 1) := by decide +kernel
theorem dMo_mix_113 : decode cMo_mix 113 = .ok (.iinc 1 1, 3) := by decide +kernel
theorem dMo_mix_116 : decode cMo_mix 116 = .ok (.goto (-21), 3) := by decide +kernel
theorem dMo_mix_119 : decode cMo_mix 119 = .ok (.return_, 1) := by decide +kernel
theorem dMo_store_0 : decode cMo_store 0 = .ok (.aload_n 0, 1) := by decide +kernel
theorem dMo_store_1 : decode cMo_store 1 = .ok (.lconst 0, 1) := by decide +kernel
theorem dMo_store_2 : decode cMo_store 2 = .ok (.putfield 82, 3) := by decide +kernel
theorem dMo_store_5 : decode cMo_store 5 = .ok (.aload_n 0, 1) := by decide +kernel
theorem dMo_store_6 : decode cMo_store 6 = .ok (.lconst 0, 1) := by decide +kernel
theorem dMo_store_7 : decode cMo_store 7 = .ok (.putfield 86, 3) := by decide +kernel
theorem dMo_store_10 : decode cMo_store 10 = .ok (.iconst 0, 1) := by decide +kernel
theorem dMo_store_11 : decode cMo_store 11 = .ok (.istore_n 1, 1) := by decide +kernel
theorem dMo_store_12 : decode cMo_store 12 = .ok (.iload_n 1, 1) := by decide +kernel
theorem dMo_store_13 : decode cMo_store 13 = .ok (.bipush 8, 2) := by decide +kernel
theorem dMo_store_15 : decode cMo_store 15 = .ok (.if_icmp .ge 50, 3) := by decide +kernel
theorem dMo_store_18 : decode cMo_store 18 = .ok (.aload_n 0, 1) := by decide +kernel
theorem dMo_store_19 : decode cMo_store 19 = .ok (.aload_n 0, 1) := by decide +kernel
theorem dMo_store_20 : decode cMo_store 20 = .ok (.getfield 82, 3) := by decide +kernel
theorem dMo_store_23 : decode cMo_store 23 = .ok (.bipush 8, 2) := by decide +kernel
theorem dMo_store_25 : decode cMo_store 25 = .ok (.lshl, 1) := by decide +kernel
theorem dMo_store_26 : decode cMo_store 26 = .ok (.aload_n 0, 1) := by decide +kernel
theorem dMo_store_27 : decode cMo_store 27 = .ok (.getfield 19, 3) := by decide +kernel
theorem dMo_store_30 : decode cMo_store 30 = .ok (.iload_n 1, 1) := by decide +kernel
theorem dMo_store_31 : decode cMo_store 31 = .ok (.iaload, 1) := by decide +kernel
theorem dMo_store_32 : decode cMo_store 32 = .ok (.i2l, 1) := by decide +kernel
theorem dMo_store_33 : decode cMo_store 33 = .ok (.lor, 1) := by decide +kernel
theorem dMo_store_34 : decode cMo_store 34 = .ok (.putfield 82, 3) := by decide +kernel
theorem dMo_store_37 : decode cMo_store 37 = .ok (.aload_n 0, 1) := by decide +kernel
theorem dMo_store_38 : decode cMo_store 38 = .ok (.aload_n 0, 1) := by decide +kernel
theorem dMo_store_39 : decode cMo_store 39 = .ok (.getfield 86, 3) := by decide +kernel
theorem dMo_store_42 : decode cMo_store 42 = .ok (.bipush 8, 2) := by decide +kernel
theorem dMo_store_44 : decode cMo_store 44 = .ok (.lshl, 1) := by decide +kernel
theorem dMo_store_45 : decode cMo_store 45 = .ok (.aload_n 0, 1) := by decide +kernel
theorem dMo_store_46 : decode cMo_store 46 = .ok (.getfield 19, 3) := by decide +kernel
theorem dMo_store_49 : decode cMo_store 49 = .ok (.bipush 8, 2) := by decide +kernel
theorem dMo_store_51 : decode cMo_store 51 = .ok (.iload_n 1, 1) := by decide +kernel
theorem dMo_store_52 : decode cMo_store 52 = .ok (.iadd, 1) := by decide +kernel
theorem dMo_store_53 : decode cMo_store 53 = .ok (.iaload, 1) := by decide +kernel
theorem dMo_store_54 : decode cMo_store 54 = .ok (.i2l, 1) := by decide +kernel
theorem dMo_store_55 : decode cMo_store 55 = .ok (.lor, 1) := by decide +kernel
theorem dMo_store_56 : decode cMo_store 56 = .ok (.putfield 86, 3) := by decide +kernel
theorem dMo_store_59 : decode cMo_store 59 = .ok (.iinc 1 1, 3) := by decide +kernel
theorem dMo_store_62 : decode cMo_store 62 = .ok (.goto (-50), 3) := by decide +kernel
theorem dMo_store_65 : decode cMo_store 65 = .ok (.return_, 1) := by decide +kernel
theorem dMo_makeLabel_0 : decode cMo_makeLabel 0 = .ok (.iconst 0, 1) := by decide +kernel
theorem dMo_makeLabel_1 : decode cMo_makeLabel 1 = .ok (.istore_n 3, 1) := by decide +kernel
theorem dMo_makeLabel_2 : decode cMo_makeLabel 2 = .ok (.iload_n 2, 1) := by decide +kernel
theorem dMo_makeLabel_3 : decode cMo_makeLabel 3 = .ok (.iload_n 3, 1) := by decide +kernel
theorem dMo_makeLabel_4 : decode cMo_makeLabel 4 = .ok (.ishr, 1) := by decide +kernel
theorem dMo_makeLabel_5 : decode cMo_makeLabel 5 = .ok (.iload_n 1, 1) := by decide +kernel
theorem dMo_makeLabel_6 : decode cMo_makeLabel 6 = .ok (.if_icmp .eq 9, 3) := by decide +kernel
theorem dMo_makeLabel_9 : decode cMo_makeLabel 9 = .ok (.iinc 3 1, 3) := by decide +kernel
theorem dMo_makeLabel_12 : decode cMo_makeLabel 12 = .ok (.goto (-10), 3) := by decide +kernel
theorem dMo_makeLabel_15 : decode cMo_makeLabel 15 = .ok (.aload_n 0, 1) := by decide +kernel
theorem dMo_makeLabel_16 : decode cMo_makeLabel 16 = .ok (.aload_n 0, 1) := by decide +kernel
theorem dMo_makeLabel_17 : decode cMo_makeLabel 17 = .ok (.getfield 130, 3) := by decide +kernel
theorem dMo_makeLabel_20 : decode cMo_makeLabel 20 = .ok (.aload_n 0, 1) := by decide +kernel
theorem dMo_makeLabel_21 : decode cMo_makeLabel 21 = .ok (.getfield 133, 3) := by decide +kernel
theorem dMo_makeLabel_24 : decode cMo_makeLabel 24 = .ok (.lconst 0, 1) := by decide +kernel
theorem dMo_makeLabel_25 : decode cMo_makeLabel 25 = .ok (.iload_n 1, 1) := by decide +kernel
theorem dMo_makeLabel_26 : decode cMo_makeLabel 26 = .ok (.i2l, 1) := by decide +kernel
theorem dMo_makeLabel_27 : decode cMo_makeLabel 27 = .ok (.invokevirtual 120, 3) := by decide +kernel
theorem dMo_makeLabel_30 : decode cMo_makeLabel 30 = .ok (.iload_n 3, 1) := by decide +kernel
theorem dMo_makeLabel_31 : decode cMo_makeLabel 31 = .ok (.iconst 1, 1) := by decide +kernel
theorem dMo_makeLabel_32 : decode cMo_makeLabel 32 = .ok (.isub, 1) := by decide +kernel
theorem dMo_makeLabel_33 : decode cMo_makeLabel 33 = .ok (.istore 4, 2) := by decide +kernel
theorem dMo_makeLabel_35 : decode cMo_makeLabel 35 = .ok (.iload 4, 2) := by decide +kernel
theorem dMo_makeLabel_37 : decode cMo_makeLabel 37 = .ok (.ifCond .lt 38, 3) := by decide +kernel
theorem dMo_makeLabel_40 : decode cMo_makeLabel 40 = .ok (.aload_n 0, 1) := by decide +kernel
theorem dMo_makeLabel_41 : decode cMo_makeLabel 41 = .ok (.aload_n 0, 1) := by decide +kernel
theorem dMo_makeLabel_42 : decode cMo_makeLabel 42 = .ok (.getfield 82, 3) := by decide +kernel
theorem dMo_makeLabel_45 : decode cMo_makeLabel 45 = .ok (.aload_n 0, 1) := by decide +kernel
theorem dMo_makeLabel_46 : decode cMo_makeLabel 46 = .ok (.getfield 86, 3) := by decide +kernel
theorem dMo_makeLabel_49 : decode cMo_makeLabel 49 = .ok (.lconst 0, 1) := by decide +kernel
theorem dMo_makeLabel_50 : decode cMo_makeLabel 50 = .ok (.iload_n 2, 1) := by decide +kernel
theorem dMo_makeLabel_51 : decode cMo_makeLabel 51 = .ok (.iload 4, 2) := by decide +kernel
theorem dMo_makeLabel_53 : decode cMo_makeLabel 53 = .ok (.ishr, 1) := by decide +kernel
theorem dMo_makeLabel_54 : decode cMo_makeLabel 54 = .ok (.iconst 2, 1) := by decide +kernel
theorem dMo_makeLabel_55 : decode cMo_makeLabel 55 = .ok (.irem, 1) := by decide +kernel
theorem dMo_makeLabel_56 : decode cMo_makeLabel 56 = .ok (.ifCond .ne 7, 3) := by decide +kernel
theorem dMo_makeLabel_59 : decode cMo_makeLabel 59 = .ok (.lconst 1, 1) := by decide +kernel
theorem dMo_makeLabel_60 : decode cMo_makeLabel 60 = .ok (.goto 6, 3) := by decide +kernel
theorem dMo_makeLabel_63 : decode cMo_makeLabel 63 = .ok (.ldc2_w 150, 3) := by decide +kernel
theorem dMo_makeLabel_66 : decode cMo_makeLabel 66 = .ok (.invokevirtual 120, 3) := by decide +kernel
theorem dMo_makeLabel_69 : decode cMo_makeLabel 69 = .ok (.iinc 4 (-1), 3) := by decide +kernel
theorem dMo_makeLabel_72 : decode cMo_makeLabel 72 = .ok (.goto (-37), 3) := by decide +kernel
theorem dMo_makeLabel_75 : decode cMo_makeLabel 75 = .ok (.return_, 1) := by decide +kernel
theorem dMo_wrap_0 : decode cMo_wrap 0 = .ok (.aload_n 0, 1) := by decide +kernel
theorem dMo_wrap_1 : decode cMo_wrap 1 = .ok (.ldc2_w 109, 3) := by decide +kernel
theorem dMo_wrap_4 : decode cMo_wrap 4 = .ok (.putfield 111, 3) := by decide +kernel
theorem dMo_wrap_7 : decode cMo_wrap 7 = .ok (.aload_n 0, 1) := by decide +kernel
theorem dMo_wrap_8 : decode cMo_wrap 8 = .ok (.lload 5, 2) := by decide +kernel
theorem dMo_wrap_10 : decode cMo_wrap 10 = .ok (.putfield 114, 3) := by decide +kernel
theorem dMo_wrap_13 : decode cMo_wrap 13 = .ok (.aload_n 0, 1) := by decide +kernel
theorem dMo_wrap_14 : decode cMo_wrap 14 = .ok (.lload 7, 2) := by decide +kernel
theorem dMo_wrap_16 : decode cMo_wrap 16 = .ok (.putfield 117, 3) := by decide +kernel
theorem dMo_wrap_19 : decode cMo_wrap 19 = .ok (.iconst 1, 1) := by decide +kernel
theorem dMo_wrap_20 : decode cMo_wrap 20 = .ok (.istore 9, 2) := by decide +kernel
theorem dMo_wrap_22 : decode cMo_wrap 22 = .ok (.iload 9, 2) := by decide +kernel
theorem dMo_wrap_24 : decode cMo_wrap 24 = .ok (.bipush 12, 2) := by decide +kernel
theorem dMo_wrap_26 : decode cMo_wrap 26 = .ok (.if_icmp .gt 96, 3) := by decide +kernel
theorem dMo_wrap_29 : decode cMo_wrap 29 = .ok (.aload_n 0, 1) := by decide +kernel
theorem dMo_wrap_30 : decode cMo_wrap 30 = .ok (.lload_n 1, 1) := by decide +kernel
theorem dMo_wrap_31 : decode cMo_wrap 31 = .ok (.lload_n 3, 1) := by decide +kernel
theorem dMo_wrap_32 : decode cMo_wrap 32 = .ok (.aload_n 0, 1) := by decide +kernel
theorem dMo_wrap_33 : decode cMo_wrap 33 = .ok (.getfield 111, 3) := by decide +kernel
theorem dMo_wrap_36 : decode cMo_wrap 36 = .ok (.iload 9, 2) := by decide +kernel
theorem dMo_wrap_38 : decode cMo_wrap 38 = .ok (.iconst 2, 1) := by decide +kernel
theorem dMo_wrap_39 : decode cMo_wrap 39 = .ok (.irem, 1) := by decide +kernel
theorem dMo_wrap_40 : decode cMo_wrap 40 = .ok (.iconst 1, 1) := by decide +kernel
theorem dMo_wrap_41 : decode cMo_wrap 41 = .ok (.if_icmp .ne 10, 3) := by decide +kernel
theorem dMo_wrap_44 : decode cMo_wrap 44 = .ok (.aload_n 0, 1) := by decide +kernel
theorem dMo_wrap_45 : decode cMo_wrap 45 = .ok (.getfield 114, 3) := by decide +kernel
theorem dMo_wrap_48 : decode cMo_wrap 48 = .ok (.goto 7, 3) := by decide +kernel
theorem dMo_wrap_51 : decode cMo_wrap 51 = .ok (.aload_n 0, 1) := by decide +kernel
theorem dMo_wrap_52 : decode cMo_wrap 52 = .ok (.getfield 117, 3) := by decide +kernel
theorem dMo_wrap_55 : decode cMo_wrap 55 = .ok (.invokevirtual 120, 3) := by decide +kernel
theorem dMo_wrap_58 : decode cMo_wrap 58 = .ok (.aload_n 0, 1) := by decide +kernel
theorem dMo_wrap_59 : decode cMo_wrap 59 = .ok (.aload_n 0, 1) := by decide +kernel
theorem dMo_wrap_60 : decode cMo_wrap 60 = .ok (.getfield 82, 3) := by decide +kernel
theorem dMo_wrap_63 : decode cMo_wrap 63 = .ok (.iload 9, 2) := by decide +kernel
theorem dMo_wrap_65 : decode cMo_wrap 65 = .ok (.i2l, 1) := by decide +kernel
theorem dMo_wrap_66 : decode cMo_wrap 66 = .ok (.lxor, 1) := by decide +kernel
theorem dMo_wrap_67 : decode cMo_wrap 67 = .ok (.putfield 111, 3) := by decide +kernel
theorem dMo_wrap_70 : decode cMo_wrap 70 = .ok (.aload_n 0, 1) := by decide +kernel
theorem dMo_wrap_71 : decode cMo_wrap 71 = .ok (.iload 9, 2) := by decide +kernel
theorem dMo_wrap_73 : decode cMo_wrap 73 = .ok (.iconst 2, 1) := by decide +kernel
theorem dMo_wrap_74 : decode cMo_wrap 74 = .ok (.irem, 1) := by decide +kernel
theorem dMo_wrap_75 : decode cMo_wrap 75 = .ok (.iconst 1, 1) := by decide +kernel
theorem dMo_wrap_76 : decode cMo_wrap 76 = .ok (.if_icmp .ne 10, 3) := by decide +kernel
theorem dMo_wrap_79 : decode cMo_wrap 79 = .ok (.aload_n 0, 1) := by decide +kernel
theorem dMo_wrap_80 : decode cMo_wrap 80 = .ok (.getfield 86, 3) := by decide +kernel
theorem dMo_wrap_83 : decode cMo_wrap 83 = .ok (.goto 7, 3) := by decide +kernel
theorem dMo_wrap_86 : decode cMo_wrap 86 = .ok (.aload_n 0, 1) := by decide +kernel
theorem dMo_wrap_87 : decode cMo_wrap 87 = .ok (.getfield 114, 3) := by decide +kernel
theorem dMo_wrap_90 : decode cMo_wrap 90 = .ok (.putfield 114, 3) := by decide +kernel
theorem dMo_wrap_93 : decode cMo_wrap 93 = .ok (.aload_n 0, 1) := by decide +kernel
theorem dMo_wrap_94 : decode cMo_wrap 94 = .ok (.iload 9, 2) := by decide +kernel
theorem dMo_wrap_96 : decode cMo_wrap 96 = .ok (.iconst 2, 1) := by decide +kernel
theorem dMo_wrap_97 : decode cMo_wrap 97 = .ok (.irem, 1) := by decide +kernel
theorem dMo_wrap_98 : decode cMo_wrap 98 = .ok (.iconst 1, 1) := by decide +kernel
theorem dMo_wrap_99 : decode cMo_wrap 99 = .ok (.if_icmp .ne 10, 3) := by decide +kernel
theorem dMo_wrap_102 : decode cMo_wrap 102 = .ok (.aload_n 0, 1) := by decide +kernel
theorem dMo_wrap_103 : decode cMo_wrap 103 = .ok (.getfield 117, 3) := by decide +kernel
theorem dMo_wrap_106 : decode cMo_wrap 106 = .ok (.goto 7, 3) := by decide +kernel
theorem dMo_wrap_109 : decode cMo_wrap 109 = .ok (.aload_n 0, 1) := by decide +kernel
theorem dMo_wrap_110 : decode cMo_wrap 110 = .ok (.getfield 86, 3) := by decide +kernel
theorem dMo_wrap_113 : decode cMo_wrap 113 = .ok (.putfield 117, 3) := by decide +kernel
theorem dMo_wrap_116 : decode cMo_wrap 116 = .ok (.iinc 9 1, 3) := by decide +kernel
theorem dMo_wrap_119 : decode cMo_wrap 119 = .ok (.goto (-97), 3) := by decide +kernel
theorem dMo_wrap_122 : decode cMo_wrap 122 = .ok (.return_, 1) := by decide +kernel
theorem dMo_air_0 : decode cMo_air 0 = .ok (.aload_n 0, 1) := by decide +kernel
theorem dMo_air_1 : decode cMo_air 1 = .ok (.iload_n 1, 1) := by decide +kernel
theorem dMo_air_2 : decode cMo_air 2 = .ok (.ifCond .lt 15, 3) := by decide +kernel
theorem dMo_air_5 : decode cMo_air 5 = .ok (.iload_n 1, 1) := by decide +kernel
theorem dMo_air_6 : decode cMo_air 6 = .ok (.aload_n 0, 1) := by decide +kernel
theorem dMo_air_7 : decode cMo_air 7 = .ok (.getfield 136, 3) := by decide +kernel
theorem dMo_air_10 : decode cMo_air 10 = .ok (.if_icmp .ge 7, 3) := by decide +kernel
theorem dMo_air_13 : decode cMo_air 13 = .ok (.iconst 0, 1) := by decide +kernel
theorem dMo_air_14 : decode cMo_air 14 = .ok (.goto 4, 3) := by decide +kernel
theorem dMo_air_17 : decode cMo_air 17 = .ok (.iconst 1, 1) := by decide +kernel
theorem dMo_air_18 : decode cMo_air 18 = .ok (.putfield 74, 3) := by decide +kernel
theorem dMo_air_21 : decode cMo_air 21 = .ok (.aload_n 0, 1) := by decide +kernel
theorem dMo_air_22 : decode cMo_air 22 = .ok (.getfield 74, 3) := by decide +kernel
theorem dMo_air_25 : decode cMo_air 25 = .ok (.ifCond .le 7, 3) := by decide +kernel
theorem dMo_air_28 : decode cMo_air 28 = .ok (.iconst 0, 1) := by decide +kernel
theorem dMo_air_29 : decode cMo_air 29 = .ok (.goto 9, 3) := by decide +kernel
theorem dMo_air_32 : decode cMo_air 32 = .ok (.aload_n 0, 1) := by decide +kernel
theorem dMo_air_33 : decode cMo_air 33 = .ok (.getfield 54, 3) := by decide +kernel
theorem dMo_air_36 : decode cMo_air 36 = .ok (.iload_n 1, 1) := by decide +kernel
theorem dMo_air_37 : decode cMo_air 37 = .ok (.iaload, 1) := by decide +kernel
theorem dMo_air_38 : decode cMo_air 38 = .ok (.ireturn, 1) := by decide +kernel
theorem dMo_flip_0 : decode cMo_flip 0 = .ok (.aload_n 0, 1) := by decide +kernel
theorem dMo_flip_1 : decode cMo_flip 1 = .ok (.iload_n 1, 1) := by decide +kernel
theorem dMo_flip_2 : decode cMo_flip 2 = .ok (.ifCond .lt 15, 3) := by decide +kernel
theorem dMo_flip_5 : decode cMo_flip 5 = .ok (.iload_n 1, 1) := by decide +kernel
theorem dMo_flip_6 : decode cMo_flip 6 = .ok (.aload_n 0, 1) := by decide +kernel
theorem dMo_flip_7 : decode cMo_flip 7 = .ok (.getfield 136, 3) := by decide +kernel
theorem dMo_flip_10 : decode cMo_flip 10 = .ok (.if_icmp .ge 7, 3) := by decide +kernel
theorem dMo_flip_13 : decode cMo_flip 13 = .ok (.iconst 0, 1) := by decide +kernel
theorem dMo_flip_14 : decode cMo_flip 14 = .ok (.goto 4, 3) := by decide +kernel
theorem dMo_flip_17 : decode cMo_flip 17 = .ok (.iconst 1, 1) := by decide +kernel
theorem dMo_flip_18 : decode cMo_flip 18 = .ok (.putfield 74, 3) := by decide +kernel
theorem dMo_flip_21 : decode cMo_flip 21 = .ok (.aload_n 0, 1) := by decide +kernel
theorem dMo_flip_22 : decode cMo_flip 22 = .ok (.getfield 74, 3) := by decide +kernel
theorem dMo_flip_25 : decode cMo_flip 25 = .ok (.ifCond .ne 21, 3) := by decide +kernel
theorem dMo_flip_28 : decode cMo_flip 28 = .ok (.aload_n 0, 1) := by decide +kernel
theorem dMo_flip_29 : decode cMo_flip 29 = .ok (.getfield 54, 3) := by decide +kernel
theorem dMo_flip_32 : decode cMo_flip 32 = .ok (.iload_n 1, 1) := by decide +kernel
theorem dMo_flip_33 : decode cMo_flip 33 = .ok (.aload_n 0, 1) := by decide +kernel
theorem dMo_flip_34 : decode cMo_flip 34 = .ok (.getfield 54, 3) := by decide +kernel
theorem dMo_flip_37 : decode cMo_flip 37 = .ok (.iload_n 1, 1) := by decide +kernel
theorem dMo_flip_38 : decode cMo_flip 38 = .ok (.iaload, 1) := by decide +kernel
theorem dMo_flip_39 : decode cMo_flip 39 = .ok (.iload_n 2, 1) := by decide +kernel
theorem dMo_flip_40 : decode cMo_flip 40 = .ok (.ixor, 1) := by decide +kernel
theorem dMo_flip_41 : decode cMo_flip 41 = .ok (.sipush 255, 3) := by decide +kernel
theorem dMo_flip_44 : decode cMo_flip 44 = .ok (.iand, 1) := by decide +kernel
theorem dMo_flip_45 : decode cMo_flip 45 = .ok (.iastore, 1) := by decide +kernel
theorem dMo_flip_46 : decode cMo_flip 46 = .ok (.return_, 1) := by decide +kernel
theorem dMo_airNumber_0 : decode cMo_airNumber 0 = .ok (.lconst 0, 1) := by decide +kernel
theorem dMo_airNumber_1 : decode cMo_airNumber 1 = .ok (.lstore_n 3, 1) := by decide +kernel
theorem dMo_airNumber_2 : decode cMo_airNumber 2 = .ok (.iconst 0, 1) := by decide +kernel
theorem dMo_airNumber_3 : decode cMo_airNumber 3 = .ok (.istore 5, 2) := by decide +kernel
theorem dMo_airNumber_5 : decode cMo_airNumber 5 = .ok (.iload 5, 2) := by decide +kernel
theorem dMo_airNumber_7 : decode cMo_airNumber 7 = .ok (.iload_n 2, 1) := by decide +kernel
theorem dMo_airNumber_8 : decode cMo_airNumber 8 = .ok (.if_icmp .ge 25, 3) := by decide +kernel
theorem dMo_airNumber_11 : decode cMo_airNumber 11 = .ok (.lload_n 3, 1) := by decide +kernel
theorem dMo_airNumber_12 : decode cMo_airNumber 12 = .ok (.bipush 8, 2) := by decide +kernel
theorem dMo_airNumber_14 : decode cMo_airNumber 14 = .ok (.lshl, 1) := by decide +kernel
theorem dMo_airNumber_15 : decode cMo_airNumber 15 = .ok (.aload_n 0, 1) := by decide +kernel
theorem dMo_airNumber_16 : decode cMo_airNumber 16 = .ok (.getfield 54, 3) := by decide +kernel
theorem dMo_airNumber_19 : decode cMo_airNumber 19 = .ok (.iload_n 1, 1) := by decide +kernel
theorem dMo_airNumber_20 : decode cMo_airNumber 20 = .ok (.iload 5, 2) := by decide +kernel
theorem dMo_airNumber_22 : decode cMo_airNumber 22 = .ok (.iadd, 1) := by decide +kernel
theorem dMo_airNumber_23 : decode cMo_airNumber 23 = .ok (.iaload, 1) := by decide +kernel
theorem dMo_airNumber_24 : decode cMo_airNumber 24 = .ok (.i2l, 1) := by decide +kernel
theorem dMo_airNumber_25 : decode cMo_airNumber 25 = .ok (.lor, 1) := by decide +kernel
theorem dMo_airNumber_26 : decode cMo_airNumber 26 = .ok (.lstore_n 3, 1) := by decide +kernel
theorem dMo_airNumber_27 : decode cMo_airNumber 27 = .ok (.iinc 5 1, 3) := by decide +kernel
theorem dMo_airNumber_30 : decode cMo_airNumber 30 = .ok (.goto (-25), 3) := by decide +kernel
theorem dMo_airNumber_33 : decode cMo_airNumber 33 = .ok (.lload_n 3, 1) := by decide +kernel
theorem dMo_airNumber_34 : decode cMo_airNumber 34 = .ok (.lreturn, 1) := by decide +kernel
theorem dMo_isSubset_0 : decode cMo_isSubset 0 = .ok (.iload_n 1, 1) := by decide +kernel
theorem dMo_isSubset_1 : decode cMo_isSubset 1 = .ok (.ifCond .ne 7, 3) := by decide +kernel
theorem dMo_isSubset_4 : decode cMo_isSubset 4 = .ok (.iload_n 2, 1) := by decide +kernel
theorem dMo_isSubset_5 : decode cMo_isSubset 5 = .ok (.ifCond .eq 30, 3) := by decide +kernel
theorem dMo_isSubset_8 : decode cMo_isSubset 8 = .ok (.iload_n 1, 1) := by decide +kernel
theorem dMo_isSubset_9 : decode cMo_isSubset 9 = .ok (.ifCond .le 30, 3) := by decide +kernel
theorem dMo_isSubset_12 : decode cMo_isSubset 12 = .ok (.iload_n 1, 1) := by decide +kernel
theorem dMo_isSubset_13 : decode cMo_isSubset 13 = .ok (.iload_n 2, 1) := by decide +kernel
theorem dMo_isSubset_14 : decode cMo_isSubset 14 = .ok (.if_icmp .ge 25, 3) := by decide +kernel
theorem dMo_isSubset_17 : decode cMo_isSubset 17 = .ok (.iload_n 2, 1) := by decide +kernel
theorem dMo_isSubset_18 : decode cMo_isSubset 18 = .ok (.iconst 2, 1) := by decide +kernel
theorem dMo_isSubset_19 : decode cMo_isSubset 19 = .ok (.aload_n 0, 1) := by decide +kernel
theorem dMo_isSubset_20 : decode cMo_isSubset 20 = .ok (.invokevirtual 139, 3) := by decide +kernel
theorem dMo_isSubset_23 : decode cMo_isSubset 23 = .ok (.imul, 1) := by decide +kernel
theorem dMo_isSubset_24 : decode cMo_isSubset 24 = .ok (.if_icmp .ge 15, 3) := by decide +kernel
theorem dMo_isSubset_27 : decode cMo_isSubset 27 = .ok (.iload_n 1, 1) := by decide +kernel
theorem dMo_isSubset_28 : decode cMo_isSubset 28 = .ok (.iload_n 2, 1) := by decide +kernel
theorem dMo_isSubset_29 : decode cMo_isSubset 29 = .ok (.invokestatic 143, 3) := by decide +kernel
theorem dMo_isSubset_32 : decode cMo_isSubset 32 = .ok (.ifCond .eq 7, 3) := by decide +kernel
theorem dMo_isSubset_35 : decode cMo_isSubset 35 = .ok (.iconst 1, 1) := by decide +kernel
theorem dMo_isSubset_36 : decode cMo_isSubset 36 = .ok (.goto 4, 3) := by decide +kernel
theorem dMo_isSubset_39 : decode cMo_isSubset 39 = .ok (.iconst 0, 1) := by decide +kernel
theorem dMo_isSubset_40 : decode cMo_isSubset 40 = .ok (.ireturn, 1) := by decide +kernel
theorem dMo_isAbove_0 : decode cMo_isAbove 0 = .ok (.iload_n 1, 1) := by decide +kernel
theorem dMo_isAbove_1 : decode cMo_isAbove 1 = .ok (.istore_n 2, 1) := by decide +kernel
theorem dMo_isAbove_2 : decode cMo_isAbove 2 = .ok (.iload_n 2, 1) := by decide +kernel
theorem dMo_isAbove_3 : decode cMo_isAbove 3 = .ok (.iload_n 0, 1) := by decide +kernel
theorem dMo_isAbove_4 : decode cMo_isAbove 4 = .ok (.if_icmp .le 10, 3) := by decide +kernel
theorem dMo_isAbove_7 : decode cMo_isAbove 7 = .ok (.iload_n 2, 1) := by decide +kernel
theorem dMo_isAbove_8 : decode cMo_isAbove 8 = .ok (.iconst 2, 1) := by decide +kernel
theorem dMo_isAbove_9 : decode cMo_isAbove 9 = .ok (.idiv, 1) := by decide +kernel
theorem dMo_isAbove_10 : decode cMo_isAbove 10 = .ok (.istore_n 2, 1) := by decide +kernel
theorem dMo_isAbove_11 : decode cMo_isAbove 11 = .ok (.goto (-9), 3) := by decide +kernel
theorem dMo_isAbove_14 : decode cMo_isAbove 14 = .ok (.iload_n 2, 1) := by decide +kernel
theorem dMo_isAbove_15 : decode cMo_isAbove 15 = .ok (.iload_n 0, 1) := by decide +kernel
theorem dMo_isAbove_16 : decode cMo_isAbove 16 = .ok (.if_icmp .ne 7, 3) := by decide +kernel
theorem dMo_isAbove_19 : decode cMo_isAbove 19 = .ok (.iconst 1, 1) := by decide +kernel
theorem dMo_isAbove_20 : decode cMo_isAbove 20 = .ok (.goto 4, 3) := by decide +kernel
theorem dMo_isAbove_23 : decode cMo_isAbove 23 = .ok (.iconst 0, 1) := by decide +kernel
theorem dMo_isAbove_24 : decode cMo_isAbove 24 = .ok (.ireturn, 1) := by decide +kernel
theorem dMo_hasLeaf_0 : decode cMo_hasLeaf 0 = .ok (.iload_n 1, 1) := by decide +kernel
theorem dMo_hasLeaf_1 : decode cMo_hasLeaf 1 = .ok (.ifCond .eq 27, 3) := by decide +kernel
theorem dMo_hasLeaf_4 : decode cMo_hasLeaf 4 = .ok (.iload_n 1, 1) := by decide +kernel
theorem dMo_hasLeaf_5 : decode cMo_hasLeaf 5 = .ok (.aload_n 0, 1) := by decide +kernel
theorem dMo_hasLeaf_6 : decode cMo_hasLeaf 6 = .ok (.iload_n 3, 1) := by decide +kernel
theorem dMo_hasLeaf_7 : decode cMo_hasLeaf 7 = .ok (.invokevirtual 147, 3) := by decide +kernel
theorem dMo_hasLeaf_10 : decode cMo_hasLeaf 10 = .ok (.invokestatic 143, 3) := by decide +kernel
theorem dMo_hasLeaf_13 : decode cMo_hasLeaf 13 = .ok (.ifCond .eq 19, 3) := by decide +kernel
theorem dMo_hasLeaf_16 : decode cMo_hasLeaf 16 = .ok (.iload_n 2, 1) := by decide +kernel
theorem dMo_hasLeaf_17 : decode cMo_hasLeaf 17 = .ok (.aload_n 0, 1) := by decide +kernel
theorem dMo_hasLeaf_18 : decode cMo_hasLeaf 18 = .ok (.iload_n 3, 1) := by decide +kernel
theorem dMo_hasLeaf_19 : decode cMo_hasLeaf 19 = .ok (.invokevirtual 147, 3) := by decide +kernel
theorem dMo_hasLeaf_22 : decode cMo_hasLeaf 22 = .ok (.invokestatic 143, 3) := by decide +kernel
theorem dMo_hasLeaf_25 : decode cMo_hasLeaf 25 = .ok (.ifCond .ne 7, 3) := by decide +kernel
theorem dMo_hasLeaf_28 : decode cMo_hasLeaf 28 = .ok (.iconst 1, 1) := by decide +kernel
theorem dMo_hasLeaf_29 : decode cMo_hasLeaf 29 = .ok (.goto 4, 3) := by decide +kernel
theorem dMo_hasLeaf_32 : decode cMo_hasLeaf 32 = .ok (.iconst 0, 1) := by decide +kernel
theorem dMo_hasLeaf_33 : decode cMo_hasLeaf 33 = .ok (.ireturn, 1) := by decide +kernel
theorem dMo_leafOf_0 : decode cMo_leafOf 0 = .ok (.aload_n 0, 1) := by decide +kernel
theorem dMo_leafOf_1 : decode cMo_leafOf 1 = .ok (.invokevirtual 139, 3) := by decide +kernel
theorem dMo_leafOf_4 : decode cMo_leafOf 4 = .ok (.iload_n 1, 1) := by decide +kernel
theorem dMo_leafOf_5 : decode cMo_leafOf 5 = .ok (.iadd, 1) := by decide +kernel
theorem dMo_leafOf_6 : decode cMo_leafOf 6 = .ok (.ireturn, 1) := by decide +kernel
theorem dMo_unwrap_0 : decode cMo_unwrap 0 = .ok (.bipush 12, 2) := by decide +kernel
theorem dMo_unwrap_2 : decode cMo_unwrap 2 = .ok (.istore 5, 2) := by decide +kernel
theorem dMo_unwrap_4 : decode cMo_unwrap 4 = .ok (.iload 5, 2) := by decide +kernel
theorem dMo_unwrap_6 : decode cMo_unwrap 6 = .ok (.iconst 1, 1) := by decide +kernel
theorem dMo_unwrap_7 : decode cMo_unwrap 7 = .ok (.if_icmp .lt 96, 3) := by decide +kernel
theorem dMo_unwrap_10 : decode cMo_unwrap 10 = .ok (.aload_n 0, 1) := by decide +kernel
theorem dMo_unwrap_11 : decode cMo_unwrap 11 = .ok (.lload_n 1, 1) := by decide +kernel
theorem dMo_unwrap_12 : decode cMo_unwrap 12 = .ok (.lload_n 3, 1) := by decide +kernel
theorem dMo_unwrap_13 : decode cMo_unwrap 13 = .ok (.aload_n 0, 1) := by decide +kernel
theorem dMo_unwrap_14 : decode cMo_unwrap 14 = .ok (.getfield 111, 3) := by decide +kernel
theorem dMo_unwrap_17 : decode cMo_unwrap 17 = .ok (.iload 5, 2) := by decide +kernel
theorem dMo_unwrap_19 : decode cMo_unwrap 19 = .ok (.i2l, 1) := by decide +kernel
theorem dMo_unwrap_20 : decode cMo_unwrap 20 = .ok (.lxor, 1) := by decide +kernel
theorem dMo_unwrap_21 : decode cMo_unwrap 21 = .ok (.iload 5, 2) := by decide +kernel
theorem dMo_unwrap_23 : decode cMo_unwrap 23 = .ok (.iconst 2, 1) := by decide +kernel
theorem dMo_unwrap_24 : decode cMo_unwrap 24 = .ok (.irem, 1) := by decide +kernel
theorem dMo_unwrap_25 : decode cMo_unwrap 25 = .ok (.iconst 1, 1) := by decide +kernel
theorem dMo_unwrap_26 : decode cMo_unwrap 26 = .ok (.if_icmp .ne 10, 3) := by decide +kernel
theorem dMo_unwrap_29 : decode cMo_unwrap 29 = .ok (.aload_n 0, 1) := by decide +kernel
theorem dMo_unwrap_30 : decode cMo_unwrap 30 = .ok (.getfield 114, 3) := by decide +kernel
theorem dMo_unwrap_33 : decode cMo_unwrap 33 = .ok (.goto 7, 3) := by decide +kernel
theorem dMo_unwrap_36 : decode cMo_unwrap 36 = .ok (.aload_n 0, 1) := by decide +kernel
theorem dMo_unwrap_37 : decode cMo_unwrap 37 = .ok (.getfield 117, 3) := by decide +kernel
theorem dMo_unwrap_40 : decode cMo_unwrap 40 = .ok (.invokevirtual 124, 3) := by decide +kernel
theorem dMo_unwrap_43 : decode cMo_unwrap 43 = .ok (.aload_n 0, 1) := by decide +kernel
theorem dMo_unwrap_44 : decode cMo_unwrap 44 = .ok (.aload_n 0, 1) := by decide +kernel
theorem dMo_unwrap_45 : decode cMo_unwrap 45 = .ok (.getfield 82, 3) := by decide +kernel
theorem dMo_unwrap_48 : decode cMo_unwrap 48 = .ok (.putfield 111, 3) := by decide +kernel
theorem dMo_unwrap_51 : decode cMo_unwrap 51 = .ok (.aload_n 0, 1) := by decide +kernel
theorem dMo_unwrap_52 : decode cMo_unwrap 52 = .ok (.iload 5, 2) := by decide +kernel
theorem dMo_unwrap_54 : decode cMo_unwrap 54 = .ok (.iconst 2, 1) := by decide +kernel
theorem dMo_unwrap_55 : decode cMo_unwrap 55 = .ok (.irem, 1) := by decide +kernel
theorem dMo_unwrap_56 : decode cMo_unwrap 56 = .ok (.iconst 1, 1) := by decide +kernel
theorem dMo_unwrap_57 : decode cMo_unwrap 57 = .ok (.if_icmp .ne 10, 3) := by decide +kernel
theorem dMo_unwrap_60 : decode cMo_unwrap 60 = .ok (.aload_n 0, 1) := by decide +kernel
theorem dMo_unwrap_61 : decode cMo_unwrap 61 = .ok (.getfield 86, 3) := by decide +kernel
theorem dMo_unwrap_64 : decode cMo_unwrap 64 = .ok (.goto 7, 3) := by decide +kernel
theorem dMo_unwrap_67 : decode cMo_unwrap 67 = .ok (.aload_n 0, 1) := by decide +kernel
theorem dMo_unwrap_68 : decode cMo_unwrap 68 = .ok (.getfield 114, 3) := by decide +kernel
theorem dMo_unwrap_71 : decode cMo_unwrap 71 = .ok (.putfield 114, 3) := by decide +kernel
theorem dMo_unwrap_74 : decode cMo_unwrap 74 = .ok (.aload_n 0, 1) := by decide +kernel
theorem dMo_unwrap_75 : decode cMo_unwrap 75 = .ok (.iload 5, 2) := by decide +kernel
theorem dMo_unwrap_77 : decode cMo_unwrap 77 = .ok (.iconst 2, 1) := by decide +kernel
theorem dMo_unwrap_78 : decode cMo_unwrap 78 = .ok (.irem, 1) := by decide +kernel
theorem dMo_unwrap_79 : decode cMo_unwrap 79 = .ok (.iconst 1, 1) := by decide +kernel
theorem dMo_unwrap_80 : decode cMo_unwrap 80 = .ok (.if_icmp .ne 10, 3) := by decide +kernel
theorem dMo_unwrap_83 : decode cMo_unwrap 83 = .ok (.aload_n 0, 1) := by decide +kernel
theorem dMo_unwrap_84 : decode cMo_unwrap 84 = .ok (.getfield 117, 3) := by decide +kernel
theorem dMo_unwrap_87 : decode cMo_unwrap 87 = .ok (.goto 7, 3) := by decide +kernel
theorem dMo_unwrap_90 : decode cMo_unwrap 90 = .ok (.aload_n 0, 1) := by decide +kernel
theorem dMo_unwrap_91 : decode cMo_unwrap 91 = .ok (.getfield 86, 3) := by decide +kernel
theorem dMo_unwrap_94 : decode cMo_unwrap 94 = .ok (.putfield 117, 3) := by decide +kernel
theorem dMo_unwrap_97 : decode cMo_unwrap 97 = .ok (.iinc 5 (-1), 3) := by decide +kernel
theorem dMo_unwrap_100 : decode cMo_unwrap 100 = .ok (.goto (-96), 3) := by decide +kernel
theorem dMo_unwrap_103 : decode cMo_unwrap 103 = .ok (.aload_n 0, 1) := by decide +kernel
theorem dMo_unwrap_104 : decode cMo_unwrap 104 = .ok (.getfield 111, 3) := by decide +kernel
theorem dMo_unwrap_107 : decode cMo_unwrap 107 = .ok (.ldc2_w 109, 3) := by decide +kernel
theorem dMo_unwrap_110 : decode cMo_unwrap 110 = .ok (.lcmp, 1) := by decide +kernel
theorem dMo_unwrap_111 : decode cMo_unwrap 111 = .ok (.ifCond .ne 7, 3) := by decide +kernel
theorem dMo_unwrap_114 : decode cMo_unwrap 114 = .ok (.iconst 1, 1) := by decide +kernel
theorem dMo_unwrap_115 : decode cMo_unwrap 115 = .ok (.goto 4, 3) := by decide +kernel
theorem dMo_unwrap_118 : decode cMo_unwrap 118 = .ok (.iconst 0, 1) := by decide +kernel
theorem dMo_unwrap_119 : decode cMo_unwrap 119 = .ok (.ireturn, 1) := by decide +kernel
theorem dMo_decrypt_0 : decode cMo_decrypt 0 = .ok (.aload_n 0, 1) := by decide +kernel
theorem dMo_decrypt_1 : decode cMo_decrypt 1 = .ok (.lload_n 1, 1) := by decide +kernel
theorem dMo_decrypt_2 : decode cMo_decrypt 2 = .ok (.lload_n 3, 1) := by decide +kernel
theorem dMo_decrypt_3 : decode cMo_decrypt 3 = .ok (.invokevirtual 89, 3) := by decide +kernel
theorem dMo_decrypt_6 : decode cMo_decrypt 6 = .ok (.aload_n 0, 1) := by decide +kernel
theorem dMo_decrypt_7 : decode cMo_decrypt 7 = .ok (.lload 5, 2) := by decide +kernel
theorem dMo_decrypt_9 : decode cMo_decrypt 9 = .ok (.lload 7, 2) := by decide +kernel
theorem dMo_decrypt_11 : decode cMo_decrypt 11 = .ok (.invokevirtual 93, 3) := by decide +kernel
theorem dMo_decrypt_14 : decode cMo_decrypt 14 = .ok (.bipush 10, 2) := by decide +kernel
theorem dMo_decrypt_16 : decode cMo_decrypt 16 = .ok (.istore 9, 2) := by decide +kernel
theorem dMo_decrypt_18 : decode cMo_decrypt 18 = .ok (.iload 9, 2) := by decide +kernel
theorem dMo_decrypt_20 : decode cMo_decrypt 20 = .ok (.iconst 1, 1) := by decide +kernel
theorem dMo_decrypt_21 : decode cMo_decrypt 21 = .ok (.if_icmp .lt 74, 3) := by decide +kernel
theorem dMo_decrypt_24 : decode cMo_decrypt 24 = .ok (.aload_n 0, 1) := by decide +kernel
theorem dMo_decrypt_25 : decode cMo_decrypt 25 = .ok (.iload 9, 2) := by decide +kernel
theorem dMo_decrypt_27 : decode cMo_decrypt 27 = .ok (.invokevirtual 96, 3) := by decide +kernel
theorem dMo_decrypt_30 : decode cMo_decrypt 30 = .ok (.iload 9, 2) := by decide +kernel
theorem dMo_decrypt_32 : decode cMo_decrypt 32 = .ok (.bipush 10, 2) := by decide +kernel
theorem dMo_decrypt_34 : decode cMo_decrypt 34 = .ok (.if_icmp .ge 15, 3) := by decide +kernel
theorem dMo_decrypt_37 : decode cMo_decrypt 37 = .ok (.aload_n 0, 1) := by decide +kernel
theorem dMo_decrypt_38 : decode cMo_decrypt 38 = .ok (.invokevirtual 103, 3) := by decide +kernel
theorem dMo_decrypt_41 : decode cMo_decrypt 41 = .ok (.aload_n 0, 1) := by decide +kernel
theorem dMo_decrypt_42 : decode cMo_decrypt 42 = .ok (.invokevirtual 103, 3) := by decide +kernel
theorem dMo_decrypt_45 : decode cMo_decrypt 45 = .ok (.aload_n 0, 1) := by decide +kernel
theorem dMo_decrypt_46 : decode cMo_decrypt 46 = .ok (.invokevirtual 103, 3) := by decide +kernel
theorem dMo_decrypt_49 : decode cMo_decrypt 49 = .ok (.aload_n 0, 1) := by decide +kernel
theorem dMo_decrypt_50 : decode cMo_decrypt 50 = .ok (.iconst 3, 1) := by decide +kernel
theorem dMo_decrypt_51 : decode cMo_decrypt 51 = .ok (.invokevirtual 100, 3) := by decide +kernel
theorem dMo_decrypt_54 : decode cMo_decrypt 54 = .ok (.iconst 0, 1) := by decide +kernel
theorem dMo_decrypt_55 : decode cMo_decrypt 55 = .ok (.istore 10, 2) := by decide +kernel
theorem dMo_decrypt_57 : decode cMo_decrypt 57 = .ok (.iload 10, 2) := by decide +kernel
theorem dMo_decrypt_59 : decode cMo_decrypt 59 = .ok (.bipush 16, 2) := by decide +kernel
theorem dMo_decrypt_61 : decode cMo_decrypt 61 = .ok (.if_icmp .ge 28, 3) := by decide +kernel
theorem dMo_decrypt_64 : decode cMo_decrypt 64 = .ok (.aload_n 0, 1) := by decide +kernel
theorem dMo_decrypt_65 : decode cMo_decrypt 65 = .ok (.getfield 19, 3) := by decide +kernel
theorem dMo_decrypt_68 : decode cMo_decrypt 68 = .ok (.iload 10, 2) := by decide +kernel
theorem dMo_decrypt_70 : decode cMo_decrypt 70 = .ok (.aload_n 0, 1) := by decide +kernel
theorem dMo_decrypt_71 : decode cMo_decrypt 71 = .ok (.getfield 13, 3) := by decide +kernel
theorem dMo_decrypt_74 : decode cMo_decrypt 74 = .ok (.aload_n 0, 1) := by decide +kernel
theorem dMo_decrypt_75 : decode cMo_decrypt 75 = .ok (.getfield 19, 3) := by decide +kernel
theorem dMo_decrypt_78 : decode cMo_decrypt 78 = .ok (.iload 10, 2) := by decide +kernel
theorem dMo_decrypt_80 : decode cMo_decrypt 80 = .ok (.iaload, 1) := by decide +kernel
theorem dMo_decrypt_81 : decode cMo_decrypt 81 = .ok (.iaload, 1) := by decide +kernel
theorem dMo_decrypt_82 : decode cMo_decrypt 82 = .ok (.iastore, 1) := by decide +kernel
theorem dMo_decrypt_83 : decode cMo_decrypt 83 = .ok (.iinc 10 1, 3) := by decide +kernel
theorem dMo_decrypt_86 : decode cMo_decrypt 86 = .ok (.goto (-29), 3) := by decide +kernel
theorem dMo_decrypt_89 : decode cMo_decrypt 89 = .ok (.iinc 9 (-1), 3) := by decide +kernel
theorem dMo_decrypt_92 : decode cMo_decrypt 92 = .ok (.goto (-74), 3) := by decide +kernel
theorem dMo_decrypt_95 : decode cMo_decrypt 95 = .ok (.aload_n 0, 1) := by decide +kernel
theorem dMo_decrypt_96 : decode cMo_decrypt 96 = .ok (.iconst 0, 1) := by decide +kernel
theorem dMo_decrypt_97 : decode cMo_decrypt 97 = .ok (.invokevirtual 96, 3) := by decide +kernel
theorem dMo_decrypt_100 : decode cMo_decrypt 100 = .ok (.aload_n 0, 1) := by decide +kernel
theorem dMo_decrypt_101 : decode cMo_decrypt 101 = .ok (.invokevirtual 106, 3) := by decide +kernel
theorem dMo_decrypt_104 : decode cMo_decrypt 104 = .ok (.return_, 1) := by decide +kernel
theorem dMo_has_0 : decode cMo_has 0 = .ok (.aload_n 0, 1) := by decide +kernel
theorem dMo_has_1 : decode cMo_has 1 = .ok (.aload_n 0, 1) := by decide +kernel
theorem dMo_has_2 : decode cMo_has 2 = .ok (.iload_n 1, 1) := by decide +kernel
theorem dMo_has_3 : decode cMo_has 3 = .ok (.invokevirtual 158, 3) := by decide +kernel
theorem dMo_has_6 : decode cMo_has 6 = .ok (.ifCond .eq 14, 3) := by decide +kernel
theorem dMo_has_9 : decode cMo_has 9 = .ok (.iload_n 2, 1) := by decide +kernel
theorem dMo_has_10 : decode cMo_has 10 = .ok (.invokestatic 162, 3) := by decide +kernel
theorem dMo_has_13 : decode cMo_has 13 = .ok (.ifCond .eq 7, 3) := by decide +kernel
theorem dMo_has_16 : decode cMo_has 16 = .ok (.iconst 0, 1) := by decide +kernel
theorem dMo_has_17 : decode cMo_has 17 = .ok (.goto 4, 3) := by decide +kernel
theorem dMo_has_20 : decode cMo_has 20 = .ok (.iconst 1, 1) := by decide +kernel
theorem dMo_has_21 : decode cMo_has 21 = .ok (.putfield 74, 3) := by decide +kernel
theorem dMo_has_24 : decode cMo_has 24 = .ok (.aload_n 0, 1) := by decide +kernel
theorem dMo_has_25 : decode cMo_has 25 = .ok (.getfield 74, 3) := by decide +kernel
theorem dMo_has_28 : decode cMo_has 28 = .ok (.ifCond .le 7, 3) := by decide +kernel
theorem dMo_has_31 : decode cMo_has 31 = .ok (.iconst 0, 1) := by decide +kernel
theorem dMo_has_32 : decode cMo_has 32 = .ok (.goto 15, 3) := by decide +kernel
theorem dMo_has_35 : decode cMo_has 35 = .ok (.aload_n 0, 1) := by decide +kernel
theorem dMo_has_36 : decode cMo_has 36 = .ok (.getfield 57, 3) := by decide +kernel
theorem dMo_has_39 : decode cMo_has 39 = .ok (.sipush 256, 3) := by decide +kernel
theorem dMo_has_42 : decode cMo_has 42 = .ok (.iload_n 2, 1) := by decide +kernel
theorem dMo_has_43 : decode cMo_has 43 = .ok (.imul, 1) := by decide +kernel
theorem dMo_has_44 : decode cMo_has 44 = .ok (.iload_n 1, 1) := by decide +kernel
theorem dMo_has_45 : decode cMo_has 45 = .ok (.iadd, 1) := by decide +kernel
theorem dMo_has_46 : decode cMo_has 46 = .ok (.iaload, 1) := by decide +kernel
theorem dMo_has_47 : decode cMo_has 47 = .ok (.ireturn, 1) := by decide +kernel
theorem dMo_seal_0 : decode cMo_seal 0 = .ok (.aload_n 0, 1) := by decide +kernel
theorem dMo_seal_1 : decode cMo_seal 1 = .ok (.iload_n 1, 1) := by decide +kernel
theorem dMo_seal_2 : decode cMo_seal 2 = .ok (.invokestatic 162, 3) := by decide +kernel
theorem dMo_seal_5 : decode cMo_seal 5 = .ok (.ifCond .ne 7, 3) := by decide +kernel
theorem dMo_seal_8 : decode cMo_seal 8 = .ok (.iconst 1, 1) := by decide +kernel
theorem dMo_seal_9 : decode cMo_seal 9 = .ok (.goto 17, 3) := by decide +kernel
theorem dMo_seal_12 : decode cMo_seal 12 = .ok (.aload_n 0, 1) := by decide +kernel
theorem dMo_seal_13 : decode cMo_seal 13 = .ok (.getfield 32, 3) := by decide +kernel
theorem dMo_seal_16 : decode cMo_seal 16 = .ok (.iload_n 1, 1) := by decide +kernel
theorem dMo_seal_17 : decode cMo_seal 17 = .ok (.iaload, 1) := by decide +kernel
theorem dMo_seal_18 : decode cMo_seal 18 = .ok (.ifCond .ne 7, 3) := by decide +kernel
theorem dMo_seal_21 : decode cMo_seal 21 = .ok (.iconst 2, 1) := by decide +kernel
theorem dMo_seal_22 : decode cMo_seal 22 = .ok (.goto 4, 3) := by decide +kernel
theorem dMo_seal_25 : decode cMo_seal 25 = .ok (.iconst 0, 1) := by decide +kernel
theorem dMo_seal_26 : decode cMo_seal 26 = .ok (.putfield 74, 3) := by decide +kernel
theorem dMo_seal_29 : decode cMo_seal 29 = .ok (.aload_n 0, 1) := by decide +kernel
theorem dMo_seal_30 : decode cMo_seal 30 = .ok (.getfield 74, 3) := by decide +kernel
theorem dMo_seal_33 : decode cMo_seal 33 = .ok (.ifCond .ne 31, 3) := by decide +kernel
theorem dMo_seal_36 : decode cMo_seal 36 = .ok (.aload_n 0, 1) := by decide +kernel
theorem dMo_seal_37 : decode cMo_seal 37 = .ok (.iload_n 1, 1) := by decide +kernel
theorem dMo_seal_38 : decode cMo_seal 38 = .ok (.aload_n 0, 1) := by decide +kernel
theorem dMo_seal_39 : decode cMo_seal 39 = .ok (.getfield 32, 3) := by decide +kernel
theorem dMo_seal_42 : decode cMo_seal 42 = .ok (.iload_n 1, 1) := by decide +kernel
theorem dMo_seal_43 : decode cMo_seal 43 = .ok (.iaload, 1) := by decide +kernel
theorem dMo_seal_44 : decode cMo_seal 44 = .ok (.lload_n 2, 1) := by decide +kernel
theorem dMo_seal_45 : decode cMo_seal 45 = .ok (.aload_n 0, 1) := by decide +kernel
theorem dMo_seal_46 : decode cMo_seal 46 = .ok (.getfield 35, 3) := by decide +kernel
theorem dMo_seal_49 : decode cMo_seal 49 = .ok (.iload_n 1, 1) := by decide +kernel
theorem dMo_seal_50 : decode cMo_seal 50 = .ok (.laload, 1) := by decide +kernel
theorem dMo_seal_51 : decode cMo_seal 51 = .ok (.aload_n 0, 1) := by decide +kernel
theorem dMo_seal_52 : decode cMo_seal 52 = .ok (.getfield 39, 3) := by decide +kernel
theorem dMo_seal_55 : decode cMo_seal 55 = .ok (.iload_n 1, 1) := by decide +kernel
theorem dMo_seal_56 : decode cMo_seal 56 = .ok (.laload, 1) := by decide +kernel
theorem dMo_seal_57 : decode cMo_seal 57 = .ok (.lload 4, 2) := by decide +kernel
theorem dMo_seal_59 : decode cMo_seal 59 = .ok (.lload 6, 2) := by decide +kernel
theorem dMo_seal_61 : decode cMo_seal 61 = .ok (.invokevirtual 201, 3) := by decide +kernel
theorem dMo_seal_64 : decode cMo_seal 64 = .ok (.return_, 1) := by decide +kernel
theorem dMo_stream_0 : decode cMo_stream 0 = .ok (.aload_n 0, 1) := by decide +kernel
theorem dMo_stream_1 : decode cMo_stream 1 = .ok (.lload 5, 2) := by decide +kernel
theorem dMo_stream_3 : decode cMo_stream 3 = .ok (.lload 7, 2) := by decide +kernel
theorem dMo_stream_5 : decode cMo_stream 5 = .ok (.ldc2_w 193, 3) := by decide +kernel
theorem dMo_stream_8 : decode cMo_stream 8 = .ok (.iload_n 1, 1) := by decide +kernel
theorem dMo_stream_9 : decode cMo_stream 9 = .ok (.i2l, 1) := by decide +kernel
theorem dMo_stream_10 : decode cMo_stream 10 = .ok (.lmul, 1) := by decide +kernel
theorem dMo_stream_11 : decode cMo_stream 11 = .ok (.iload_n 2, 1) := by decide +kernel
theorem dMo_stream_12 : decode cMo_stream 12 = .ok (.i2l, 1) := by decide +kernel
theorem dMo_stream_13 : decode cMo_stream 13 = .ok (.ladd, 1) := by decide +kernel
theorem dMo_stream_14 : decode cMo_stream 14 = .ok (.lload_n 3, 1) := by decide +kernel
theorem dMo_stream_15 : decode cMo_stream 15 = .ok (.invokevirtual 120, 3) := by decide +kernel
theorem dMo_stream_18 : decode cMo_stream 18 = .ok (.aload_n 0, 1) := by decide +kernel
theorem dMo_stream_19 : decode cMo_stream 19 = .ok (.aload_n 0, 1) := by decide +kernel
theorem dMo_stream_20 : decode cMo_stream 20 = .ok (.getfield 82, 3) := by decide +kernel
theorem dMo_stream_23 : decode cMo_stream 23 = .ok (.lload 9, 2) := by decide +kernel
theorem dMo_stream_25 : decode cMo_stream 25 = .ok (.lxor, 1) := by decide +kernel
theorem dMo_stream_26 : decode cMo_stream 26 = .ok (.putfield 195, 3) := by decide +kernel
theorem dMo_stream_29 : decode cMo_stream 29 = .ok (.aload_n 0, 1) := by decide +kernel
theorem dMo_stream_30 : decode cMo_stream 30 = .ok (.aload_n 0, 1) := by decide +kernel
theorem dMo_stream_31 : decode cMo_stream 31 = .ok (.getfield 86, 3) := by decide +kernel
theorem dMo_stream_34 : decode cMo_stream 34 = .ok (.lload 11, 2) := by decide +kernel
theorem dMo_stream_36 : decode cMo_stream 36 = .ok (.lxor, 1) := by decide +kernel
theorem dMo_stream_37 : decode cMo_stream 37 = .ok (.putfield 198, 3) := by decide +kernel
theorem dMo_stream_40 : decode cMo_stream 40 = .ok (.return_, 1) := by decide +kernel
theorem dMo_open_0 : decode cMo_open 0 = .ok (.aload_n 0, 1) := by decide +kernel
theorem dMo_open_1 : decode cMo_open 1 = .ok (.aload_n 0, 1) := by decide +kernel
theorem dMo_open_2 : decode cMo_open 2 = .ok (.iload_n 1, 1) := by decide +kernel
theorem dMo_open_3 : decode cMo_open 3 = .ok (.invokevirtual 158, 3) := by decide +kernel
theorem dMo_open_6 : decode cMo_open 6 = .ok (.ifCond .eq 10, 3) := by decide +kernel
theorem dMo_open_9 : decode cMo_open 9 = .ok (.iload_n 2, 1) := by decide +kernel
theorem dMo_open_10 : decode cMo_open 10 = .ok (.invokestatic 162, 3) := by decide +kernel
theorem dMo_open_13 : decode cMo_open 13 = .ok (.ifCond .ne 7, 3) := by decide +kernel
theorem dMo_open_16 : decode cMo_open 16 = .ok (.iconst 1, 1) := by decide +kernel
theorem dMo_open_17 : decode cMo_open 17 = .ok (.goto 23, 3) := by decide +kernel
theorem dMo_open_20 : decode cMo_open 20 = .ok (.aload_n 0, 1) := by decide +kernel
theorem dMo_open_21 : decode cMo_open 21 = .ok (.getfield 57, 3) := by decide +kernel
theorem dMo_open_24 : decode cMo_open 24 = .ok (.sipush 256, 3) := by decide +kernel
theorem dMo_open_27 : decode cMo_open 27 = .ok (.iload_n 2, 1) := by decide +kernel
theorem dMo_open_28 : decode cMo_open 28 = .ok (.imul, 1) := by decide +kernel
theorem dMo_open_29 : decode cMo_open 29 = .ok (.iload_n 1, 1) := by decide +kernel
theorem dMo_open_30 : decode cMo_open 30 = .ok (.iadd, 1) := by decide +kernel
theorem dMo_open_31 : decode cMo_open 31 = .ok (.iaload, 1) := by decide +kernel
theorem dMo_open_32 : decode cMo_open 32 = .ok (.ifCond .ge 7, 3) := by decide +kernel
theorem dMo_open_35 : decode cMo_open 35 = .ok (.iconst 2, 1) := by decide +kernel
theorem dMo_open_36 : decode cMo_open 36 = .ok (.goto 4, 3) := by decide +kernel
theorem dMo_open_39 : decode cMo_open 39 = .ok (.iconst 0, 1) := by decide +kernel
theorem dMo_open_40 : decode cMo_open 40 = .ok (.putfield 74, 3) := by decide +kernel
theorem dMo_open_43 : decode cMo_open 43 = .ok (.aload_n 0, 1) := by decide +kernel
theorem dMo_open_44 : decode cMo_open 44 = .ok (.getfield 74, 3) := by decide +kernel
theorem dMo_open_47 : decode cMo_open 47 = .ok (.ifCond .ne 43, 3) := by decide +kernel
theorem dMo_open_50 : decode cMo_open 50 = .ok (.sipush 256, 3) := by decide +kernel
theorem dMo_open_53 : decode cMo_open 53 = .ok (.iload_n 2, 1) := by decide +kernel
theorem dMo_open_54 : decode cMo_open 54 = .ok (.imul, 1) := by decide +kernel
theorem dMo_open_55 : decode cMo_open 55 = .ok (.iload_n 1, 1) := by decide +kernel
theorem dMo_open_56 : decode cMo_open 56 = .ok (.iadd, 1) := by decide +kernel
theorem dMo_open_57 : decode cMo_open 57 = .ok (.istore 9, 2) := by decide +kernel
theorem dMo_open_59 : decode cMo_open 59 = .ok (.aload_n 0, 1) := by decide +kernel
theorem dMo_open_60 : decode cMo_open 60 = .ok (.iload_n 2, 1) := by decide +kernel
theorem dMo_open_61 : decode cMo_open 61 = .ok (.aload_n 0, 1) := by decide +kernel
theorem dMo_open_62 : decode cMo_open 62 = .ok (.getfield 57, 3) := by decide +kernel
theorem dMo_open_65 : decode cMo_open 65 = .ok (.iload 9, 2) := by decide +kernel
theorem dMo_open_67 : decode cMo_open 67 = .ok (.iaload, 1) := by decide +kernel
theorem dMo_open_68 : decode cMo_open 68 = .ok (.lload_n 3, 1) := by decide +kernel
theorem dMo_open_69 : decode cMo_open 69 = .ok (.aload_n 0, 1) := by decide +kernel
theorem dMo_open_70 : decode cMo_open 70 = .ok (.getfield 60, 3) := by decide +kernel
theorem dMo_open_73 : decode cMo_open 73 = .ok (.iload 9, 2) := by decide +kernel
theorem dMo_open_75 : decode cMo_open 75 = .ok (.laload, 1) := by decide +kernel
theorem dMo_open_76 : decode cMo_open 76 = .ok (.aload_n 0, 1) := by decide +kernel
theorem dMo_open_77 : decode cMo_open 77 = .ok (.getfield 63, 3) := by decide +kernel
theorem dMo_open_80 : decode cMo_open 80 = .ok (.iload 9, 2) := by decide +kernel
theorem dMo_open_82 : decode cMo_open 82 = .ok (.laload, 1) := by decide +kernel
theorem dMo_open_83 : decode cMo_open 83 = .ok (.lload 5, 2) := by decide +kernel
theorem dMo_open_85 : decode cMo_open 85 = .ok (.lload 7, 2) := by decide +kernel
theorem dMo_open_87 : decode cMo_open 87 = .ok (.invokevirtual 201, 3) := by decide +kernel
theorem dMo_open_90 : decode cMo_open 90 = .ok (.return_, 1) := by decide +kernel
theorem dMo_out_0 : decode cMo_out 0 = .ok (.aload_n 0, 1) := by decide +kernel
theorem dMo_out_1 : decode cMo_out 1 = .ok (.iconst 0, 1) := by decide +kernel
theorem dMo_out_2 : decode cMo_out 2 = .ok (.putfield 74, 3) := by decide +kernel
theorem dMo_out_5 : decode cMo_out 5 = .ok (.iload_n 1, 1) := by decide +kernel
theorem dMo_out_6 : decode cMo_out 6 = .ok (.ifCond .eq 10, 3) := by decide +kernel
theorem dMo_out_9 : decode cMo_out 9 = .ok (.aload_n 0, 1) := by decide +kernel
theorem dMo_out_10 : decode cMo_out 10 = .ok (.getfield 198, 3) := by decide +kernel
theorem dMo_out_13 : decode cMo_out 13 = .ok (.goto 7, 3) := by decide +kernel
theorem dMo_out_16 : decode cMo_out 16 = .ok (.aload_n 0, 1) := by decide +kernel
theorem dMo_out_17 : decode cMo_out 17 = .ok (.getfield 195, 3) := by decide +kernel
theorem dMo_out_20 : decode cMo_out 20 = .ok (.lreturn, 1) := by decide +kernel
theorem dMo_subset_0 : decode cMo_subset 0 = .ok (.iload_n 1, 1) := by decide +kernel
theorem dMo_subset_1 : decode cMo_subset 1 = .ok (.invokestatic 162, 3) := by decide +kernel
theorem dMo_subset_4 : decode cMo_subset 4 = .ok (.ifCond .eq 16, 3) := by decide +kernel
theorem dMo_subset_7 : decode cMo_subset 7 = .ok (.aload_n 0, 1) := by decide +kernel
theorem dMo_subset_8 : decode cMo_subset 8 = .ok (.getfield 32, 3) := by decide +kernel
theorem dMo_subset_11 : decode cMo_subset 11 = .ok (.iload_n 1, 1) := by decide +kernel
theorem dMo_subset_12 : decode cMo_subset 12 = .ok (.iaload, 1) := by decide +kernel
theorem dMo_subset_13 : decode cMo_subset 13 = .ok (.ifCond .le 7, 3) := by decide +kernel
theorem dMo_subset_16 : decode cMo_subset 16 = .ok (.iconst 1, 1) := by decide +kernel
theorem dMo_subset_17 : decode cMo_subset 17 = .ok (.goto 4, 3) := by decide +kernel
theorem dMo_subset_20 : decode cMo_subset 20 = .ok (.iconst 0, 1) := by decide +kernel
theorem dMo_subset_21 : decode cMo_subset 21 = .ok (.istore 4, 2) := by decide +kernel
theorem dMo_subset_23 : decode cMo_subset 23 = .ok (.aload_n 0, 1) := by decide +kernel
theorem dMo_subset_24 : decode cMo_subset 24 = .ok (.iload 4, 2) := by decide +kernel
theorem dMo_subset_26 : decode cMo_subset 26 = .ok (.ifCond .ne 7, 3) := by decide +kernel
theorem dMo_subset_29 : decode cMo_subset 29 = .ok (.iconst 1, 1) := by decide +kernel
theorem dMo_subset_30 : decode cMo_subset 30 = .ok (.goto 22, 3) := by decide +kernel
theorem dMo_subset_33 : decode cMo_subset 33 = .ok (.iload_n 2, 1) := by decide +kernel
theorem dMo_subset_34 : decode cMo_subset 34 = .ok (.ifCond .lt 13, 3) := by decide +kernel
theorem dMo_subset_37 : decode cMo_subset 37 = .ok (.iload_n 2, 1) := by decide +kernel
theorem dMo_subset_38 : decode cMo_subset 38 = .ok (.aload_n 0, 1) := by decide +kernel
theorem dMo_subset_39 : decode cMo_subset 39 = .ok (.getfield 42, 3) := by decide +kernel
theorem dMo_subset_42 : decode cMo_subset 42 = .ok (.iload_n 1, 1) := by decide +kernel
theorem dMo_subset_43 : decode cMo_subset 43 = .ok (.iaload, 1) := by decide +kernel
theorem dMo_subset_44 : decode cMo_subset 44 = .ok (.if_icmp .lt 7, 3) := by decide +kernel
theorem dMo_subset_47 : decode cMo_subset 47 = .ok (.iconst 2, 1) := by decide +kernel
theorem dMo_subset_48 : decode cMo_subset 48 = .ok (.goto 4, 3) := by decide +kernel
theorem dMo_subset_51 : decode cMo_subset 51 = .ok (.iconst 0, 1) := by decide +kernel
theorem dMo_subset_52 : decode cMo_subset 52 = .ok (.putfield 74, 3) := by decide +kernel
theorem dMo_subset_55 : decode cMo_subset 55 = .ok (.aload_n 0, 1) := by decide +kernel
theorem dMo_subset_56 : decode cMo_subset 56 = .ok (.getfield 74, 3) := by decide +kernel
theorem dMo_subset_59 : decode cMo_subset 59 = .ok (.ifCond .le 5, 3) := by decide +kernel
theorem dMo_subset_62 : decode cMo_subset 62 = .ok (.iconst 0, 1) := by decide +kernel
theorem dMo_subset_63 : decode cMo_subset 63 = .ok (.ireturn, 1) := by decide +kernel
theorem dMo_subset_64 : decode cMo_subset 64 = .ok (.iload_n 3, 1) := by decide +kernel
theorem dMo_subset_65 : decode cMo_subset 65 = .ok (.ifCond .eq 18, 3) := by decide +kernel
theorem dMo_subset_68 : decode cMo_subset 68 = .ok (.aload_n 0, 1) := by decide +kernel
theorem dMo_subset_69 : decode cMo_subset 69 = .ok (.getfield 48, 3) := by decide +kernel
theorem dMo_subset_72 : decode cMo_subset 72 = .ok (.sipush 256, 3) := by decide +kernel
theorem dMo_subset_75 : decode cMo_subset 75 = .ok (.iload_n 1, 1) := by decide +kernel
theorem dMo_subset_76 : decode cMo_subset 76 = .ok (.imul, 1) := by decide +kernel
theorem dMo_subset_77 : decode cMo_subset 77 = .ok (.iload_n 2, 1) := by decide +kernel
theorem dMo_subset_78 : decode cMo_subset 78 = .ok (.iadd, 1) := by decide +kernel
theorem dMo_subset_79 : decode cMo_subset 79 = .ok (.iaload, 1) := by decide +kernel
theorem dMo_subset_80 : decode cMo_subset 80 = .ok (.goto 15, 3) := by decide +kernel
theorem dMo_subset_83 : decode cMo_subset 83 = .ok (.aload_n 0, 1) := by decide +kernel
theorem dMo_subset_84 : decode cMo_subset 84 = .ok (.getfield 45, 3) := by decide +kernel
theorem dMo_subset_87 : decode cMo_subset 87 = .ok (.sipush 256, 3) := by decide +kernel
theorem dMo_subset_90 : decode cMo_subset 90 = .ok (.iload_n 1, 1) := by decide +kernel
theorem dMo_subset_91 : decode cMo_subset 91 = .ok (.imul, 1) := by decide +kernel
theorem dMo_subset_92 : decode cMo_subset 92 = .ok (.iload_n 2, 1) := by decide +kernel
theorem dMo_subset_93 : decode cMo_subset 93 = .ok (.iadd, 1) := by decide +kernel
theorem dMo_subset_94 : decode cMo_subset 94 = .ok (.iaload, 1) := by decide +kernel
theorem dMo_subset_95 : decode cMo_subset 95 = .ok (.ireturn, 1) := by decide +kernel
theorem dMo_reach_0 : decode cMo_reach 0 = .ok (.aload_n 0, 1) := by decide +kernel
theorem dMo_reach_1 : decode cMo_reach 1 = .ok (.aload_n 0, 1) := by decide +kernel
theorem dMo_reach_2 : decode cMo_reach 2 = .ok (.iload_n 1, 1) := by decide +kernel
theorem dMo_reach_3 : decode cMo_reach 3 = .ok (.invokevirtual 158, 3) := by decide +kernel
theorem dMo_reach_6 : decode cMo_reach 6 = .ok (.ifCond .eq 10, 3) := by decide +kernel
theorem dMo_reach_9 : decode cMo_reach 9 = .ok (.iload_n 2, 1) := by decide +kernel
theorem dMo_reach_10 : decode cMo_reach 10 = .ok (.invokestatic 162, 3) := by decide +kernel
theorem dMo_reach_13 : decode cMo_reach 13 = .ok (.ifCond .ne 7, 3) := by decide +kernel
theorem dMo_reach_16 : decode cMo_reach 16 = .ok (.iconst 1, 1) := by decide +kernel
theorem dMo_reach_17 : decode cMo_reach 17 = .ok (.goto 26, 3) := by decide +kernel
theorem dMo_reach_20 : decode cMo_reach 20 = .ok (.aload_n 0, 1) := by decide +kernel
theorem dMo_reach_21 : decode cMo_reach 21 = .ok (.getfield 32, 3) := by decide +kernel
theorem dMo_reach_24 : decode cMo_reach 24 = .ok (.iload_n 2, 1) := by decide +kernel
theorem dMo_reach_25 : decode cMo_reach 25 = .ok (.iaload, 1) := by decide +kernel
theorem dMo_reach_26 : decode cMo_reach 26 = .ok (.ifCond .eq 12, 3) := by decide +kernel
theorem dMo_reach_29 : decode cMo_reach 29 = .ok (.aload_n 0, 1) := by decide +kernel
theorem dMo_reach_30 : decode cMo_reach 30 = .ok (.getfield 25, 3) := by decide +kernel
theorem dMo_reach_33 : decode cMo_reach 33 = .ok (.iload_n 1, 1) := by decide +kernel
theorem dMo_reach_34 : decode cMo_reach 34 = .ok (.baload, 1) := by decide +kernel
theorem dMo_reach_35 : decode cMo_reach 35 = .ok (.ifCond .ne 7, 3) := by decide +kernel
theorem dMo_reach_38 : decode cMo_reach 38 = .ok (.iconst 2, 1) := by decide +kernel
theorem dMo_reach_39 : decode cMo_reach 39 = .ok (.goto 4, 3) := by decide +kernel
theorem dMo_reach_42 : decode cMo_reach 42 = .ok (.iconst 0, 1) := by decide +kernel
theorem dMo_reach_43 : decode cMo_reach 43 = .ok (.putfield 74, 3) := by decide +kernel
theorem dMo_reach_46 : decode cMo_reach 46 = .ok (.iconst 0, 1) := by decide +kernel
theorem dMo_reach_47 : decode cMo_reach 47 = .ok (.istore_n 3, 1) := by decide +kernel
theorem dMo_reach_48 : decode cMo_reach 48 = .ok (.iconst 0, 1) := by decide +kernel
theorem dMo_reach_49 : decode cMo_reach 49 = .ok (.istore 4, 2) := by decide +kernel
theorem dMo_reach_51 : decode cMo_reach 51 = .ok (.aload_n 0, 1) := by decide +kernel
theorem dMo_reach_52 : decode cMo_reach 52 = .ok (.getfield 74, 3) := by decide +kernel
theorem dMo_reach_55 : decode cMo_reach 55 = .ok (.ifCond .ne 62, 3) := by decide +kernel
theorem dMo_reach_58 : decode cMo_reach 58 = .ok (.iload 4, 2) := by decide +kernel
theorem dMo_reach_60 : decode cMo_reach 60 = .ok (.aload_n 0, 1) := by decide +kernel
theorem dMo_reach_61 : decode cMo_reach 61 = .ok (.getfield 42, 3) := by decide +kernel
theorem dMo_reach_64 : decode cMo_reach 64 = .ok (.iload_n 2, 1) := by decide +kernel
theorem dMo_reach_65 : decode cMo_reach 65 = .ok (.iaload, 1) := by decide +kernel
theorem dMo_reach_66 : decode cMo_reach 66 = .ok (.if_icmp .ge 51, 3) := by decide +kernel
theorem dMo_reach_69 : decode cMo_reach 69 = .ok (.aload_n 0, 1) := by decide +kernel
theorem dMo_reach_70 : decode cMo_reach 70 = .ok (.aload_n 0, 1) := by decide +kernel
theorem dMo_reach_71 : decode cMo_reach 71 = .ok (.getfield 45, 3) := by decide +kernel
theorem dMo_reach_74 : decode cMo_reach 74 = .ok (.sipush 256, 3) := by decide +kernel
theorem dMo_reach_77 : decode cMo_reach 77 = .ok (.iload_n 2, 1) := by decide +kernel
theorem dMo_reach_78 : decode cMo_reach 78 = .ok (.imul, 1) := by decide +kernel
theorem dMo_reach_79 : decode cMo_reach 79 = .ok (.iload 4, 2) := by decide +kernel
theorem dMo_reach_81 : decode cMo_reach 81 = .ok (.iadd, 1) := by decide +kernel
theorem dMo_reach_82 : decode cMo_reach 82 = .ok (.iaload, 1) := by decide +kernel
theorem dMo_reach_83 : decode cMo_reach 83 = .ok (.aload_n 0, 1) := by decide +kernel
theorem dMo_reach_84 : decode cMo_reach 84 = .ok (.getfield 48, 3) := by decide +kernel
theorem dMo_reach_87 : decode cMo_reach 87 = .ok (.sipush 256, 3) := by decide +kernel
theorem dMo_reach_90 : decode cMo_reach 90 = .ok (.iload_n 2, 1) := by decide +kernel
theorem dMo_reach_91 : decode cMo_reach 91 = .ok (.imul, 1) := by decide +kernel
theorem dMo_reach_92 : decode cMo_reach 92 = .ok (.iload 4, 2) := by decide +kernel
theorem dMo_reach_94 : decode cMo_reach 94 = .ok (.iadd, 1) := by decide +kernel
theorem dMo_reach_95 : decode cMo_reach 95 = .ok (.iaload, 1) := by decide +kernel
theorem dMo_reach_96 : decode cMo_reach 96 = .ok (.iload_n 1, 1) := by decide +kernel
theorem dMo_reach_97 : decode cMo_reach 97 = .ok (.invokevirtual 185, 3) := by decide +kernel
theorem dMo_reach_100 : decode cMo_reach 100 = .ok (.ifCond .eq 9, 3) := by decide +kernel
theorem dMo_reach_103 : decode cMo_reach 103 = .ok (.iload_n 3, 1) := by decide +kernel
theorem dMo_reach_104 : decode cMo_reach 104 = .ok (.iconst 1, 1) := by decide +kernel
theorem dMo_reach_105 : decode cMo_reach 105 = .ok (.iadd, 1) := by decide +kernel
theorem dMo_reach_106 : decode cMo_reach 106 = .ok (.goto 4, 3) := by decide +kernel
theorem dMo_reach_109 : decode cMo_reach 109 = .ok (.iload_n 3, 1) := by decide +kernel
theorem dMo_reach_110 : decode cMo_reach 110 = .ok (.istore_n 3, 1) := by decide +kernel
theorem dMo_reach_111 : decode cMo_reach 111 = .ok (.iinc 4 1, 3) := by decide +kernel
theorem dMo_reach_114 : decode cMo_reach 114 = .ok (.goto (-63), 3) := by decide +kernel
theorem dMo_reach_117 : decode cMo_reach 117 = .ok (.iload_n 3, 1) := by decide +kernel
theorem dMo_reach_118 : decode cMo_reach 118 = .ok (.ireturn, 1) := by decide +kernel
theorem dMo_key_0 : decode cMo_key 0 = .ok (.aload_n 0, 1) := by decide +kernel
theorem dMo_key_1 : decode cMo_key 1 = .ok (.aload_n 0, 1) := by decide +kernel
theorem dMo_key_2 : decode cMo_key 2 = .ok (.iload_n 1, 1) := by decide +kernel
theorem dMo_key_3 : decode cMo_key 3 = .ok (.iload_n 2, 1) := by decide +kernel
theorem dMo_key_4 : decode cMo_key 4 = .ok (.invokevirtual 182, 3) := by decide +kernel
theorem dMo_key_7 : decode cMo_key 7 = .ok (.ifCond .eq 7, 3) := by decide +kernel
theorem dMo_key_10 : decode cMo_key 10 = .ok (.iconst 0, 1) := by decide +kernel
theorem dMo_key_11 : decode cMo_key 11 = .ok (.goto 4, 3) := by decide +kernel
theorem dMo_key_14 : decode cMo_key 14 = .ok (.iconst 1, 1) := by decide +kernel
theorem dMo_key_15 : decode cMo_key 15 = .ok (.putfield 74, 3) := by decide +kernel
theorem dMo_key_18 : decode cMo_key 18 = .ok (.aload_n 0, 1) := by decide +kernel
theorem dMo_key_19 : decode cMo_key 19 = .ok (.getfield 74, 3) := by decide +kernel
theorem dMo_key_22 : decode cMo_key 22 = .ok (.ifCond .le 5, 3) := by decide +kernel
theorem dMo_key_25 : decode cMo_key 25 = .ok (.lconst 0, 1) := by decide +kernel
theorem dMo_key_26 : decode cMo_key 26 = .ok (.lreturn, 1) := by decide +kernel
theorem dMo_key_27 : decode cMo_key 27 = .ok (.aload_n 0, 1) := by decide +kernel
theorem dMo_key_28 : decode cMo_key 28 = .ok (.iload_n 1, 1) := by decide +kernel
theorem dMo_key_29 : decode cMo_key 29 = .ok (.iload_n 2, 1) := by decide +kernel
theorem dMo_key_30 : decode cMo_key 30 = .ok (.invokevirtual 172, 3) := by decide +kernel
theorem dMo_key_33 : decode cMo_key 33 = .ok (.iload_n 3, 1) := by decide +kernel
theorem dMo_key_34 : decode cMo_key 34 = .ok (.ifCond .eq 10, 3) := by decide +kernel
theorem dMo_key_37 : decode cMo_key 37 = .ok (.aload_n 0, 1) := by decide +kernel
theorem dMo_key_38 : decode cMo_key 38 = .ok (.getfield 86, 3) := by decide +kernel
theorem dMo_key_41 : decode cMo_key 41 = .ok (.goto 7, 3) := by decide +kernel
theorem dMo_key_44 : decode cMo_key 44 = .ok (.aload_n 0, 1) := by decide +kernel
theorem dMo_key_45 : decode cMo_key 45 = .ok (.getfield 82, 3) := by decide +kernel
theorem dMo_key_48 : decode cMo_key 48 = .ok (.lreturn, 1) := by decide +kernel
theorem dMo_count_0 : decode cMo_count 0 = .ok (.aload_n 0, 1) := by decide +kernel
theorem dMo_count_1 : decode cMo_count 1 = .ok (.iload_n 1, 1) := by decide +kernel
theorem dMo_count_2 : decode cMo_count 2 = .ok (.ifCond .lt 13, 3) := by decide +kernel
theorem dMo_count_5 : decode cMo_count 5 = .ok (.iload_n 1, 1) := by decide +kernel
theorem dMo_count_6 : decode cMo_count 6 = .ok (.bipush 7, 2) := by decide +kernel
theorem dMo_count_8 : decode cMo_count 8 = .ok (.if_icmp .gt 7, 3) := by decide +kernel
theorem dMo_count_11 : decode cMo_count 11 = .ok (.iconst 0, 1) := by decide +kernel
theorem dMo_count_12 : decode cMo_count 12 = .ok (.goto 4, 3) := by decide +kernel
theorem dMo_count_15 : decode cMo_count 15 = .ok (.iconst 1, 1) := by decide +kernel
theorem dMo_count_16 : decode cMo_count 16 = .ok (.putfield 74, 3) := by decide +kernel
theorem dMo_count_19 : decode cMo_count 19 = .ok (.aload_n 0, 1) := by decide +kernel
theorem dMo_count_20 : decode cMo_count 20 = .ok (.getfield 74, 3) := by decide +kernel
theorem dMo_count_23 : decode cMo_count 23 = .ok (.ifCond .le 5, 3) := by decide +kernel
theorem dMo_count_26 : decode cMo_count 26 = .ok (.iconst 0, 1) := by decide +kernel
theorem dMo_count_27 : decode cMo_count 27 = .ok (.ireturn, 1) := by decide +kernel
theorem dMo_count_28 : decode cMo_count 28 = .ok (.iconst 0, 1) := by decide +kernel
theorem dMo_count_29 : decode cMo_count 29 = .ok (.istore_n 2, 1) := by decide +kernel
theorem dMo_count_30 : decode cMo_count 30 = .ok (.iconst 0, 1) := by decide +kernel
theorem dMo_count_31 : decode cMo_count 31 = .ok (.istore_n 3, 1) := by decide +kernel
theorem dMo_count_32 : decode cMo_count 32 = .ok (.iconst 0, 1) := by decide +kernel
theorem dMo_count_33 : decode cMo_count 33 = .ok (.istore 4, 2) := by decide +kernel
theorem dMo_count_35 : decode cMo_count 35 = .ok (.iload 4, 2) := by decide +kernel
theorem dMo_count_37 : decode cMo_count 37 = .ok (.sipush 256, 3) := by decide +kernel
theorem dMo_count_40 : decode cMo_count 40 = .ok (.if_icmp .ge 27, 3) := by decide +kernel
theorem dMo_count_43 : decode cMo_count 43 = .ok (.aload_n 0, 1) := by decide +kernel
theorem dMo_count_44 : decode cMo_count 44 = .ok (.getfield 25, 3) := by decide +kernel
theorem dMo_count_47 : decode cMo_count 47 = .ok (.iload 4, 2) := by decide +kernel
theorem dMo_count_49 : decode cMo_count 49 = .ok (.baload, 1) := by decide +kernel
theorem dMo_count_50 : decode cMo_count 50 = .ok (.ifCond .eq 9, 3) := by decide +kernel
theorem dMo_count_53 : decode cMo_count 53 = .ok (.iload_n 2, 1) := by decide +kernel
theorem dMo_count_54 : decode cMo_count 54 = .ok (.iconst 1, 1) := by decide +kernel
theorem dMo_count_55 : decode cMo_count 55 = .ok (.iadd, 1) := by decide +kernel
theorem dMo_count_56 : decode cMo_count 56 = .ok (.goto 4, 3) := by decide +kernel
theorem dMo_count_59 : decode cMo_count 59 = .ok (.iload_n 2, 1) := by decide +kernel
theorem dMo_count_60 : decode cMo_count 60 = .ok (.istore_n 2, 1) := by decide +kernel
theorem dMo_count_61 : decode cMo_count 61 = .ok (.iinc 4 1, 3) := by decide +kernel
theorem dMo_count_64 : decode cMo_count 64 = .ok (.goto (-29), 3) := by decide +kernel
theorem dMo_count_67 : decode cMo_count 67 = .ok (.iconst 0, 1) := by decide +kernel
theorem dMo_count_68 : decode cMo_count 68 = .ok (.istore 4, 2) := by decide +kernel
theorem dMo_count_70 : decode cMo_count 70 = .ok (.iload 4, 2) := by decide +kernel
theorem dMo_count_72 : decode cMo_count 72 = .ok (.sipush 1024, 3) := by decide +kernel
theorem dMo_count_75 : decode cMo_count 75 = .ok (.if_icmp .ge 27, 3) := by decide +kernel
theorem dMo_count_78 : decode cMo_count 78 = .ok (.aload_n 0, 1) := by decide +kernel
theorem dMo_count_79 : decode cMo_count 79 = .ok (.getfield 29, 3) := by decide +kernel
theorem dMo_count_82 : decode cMo_count 82 = .ok (.iload 4, 2) := by decide +kernel
theorem dMo_count_84 : decode cMo_count 84 = .ok (.baload, 1) := by decide +kernel
theorem dMo_count_85 : decode cMo_count 85 = .ok (.ifCond .eq 9, 3) := by decide +kernel
theorem dMo_count_88 : decode cMo_count 88 = .ok (.iload_n 3, 1) := by decide +kernel
theorem dMo_count_89 : decode cMo_count 89 = .ok (.iconst 1, 1) := by decide +kernel
theorem dMo_count_90 : decode cMo_count 90 = .ok (.iadd, 1) := by decide +kernel
theorem dMo_count_91 : decode cMo_count 91 = .ok (.goto 4, 3) := by decide +kernel
theorem dMo_count_94 : decode cMo_count 94 = .ok (.iload_n 3, 1) := by decide +kernel
theorem dMo_count_95 : decode cMo_count 95 = .ok (.istore_n 3, 1) := by decide +kernel
theorem dMo_count_96 : decode cMo_count 96 = .ok (.iinc 4 1, 3) := by decide +kernel
theorem dMo_count_99 : decode cMo_count 99 = .ok (.goto (-29), 3) := by decide +kernel
theorem dMo_count_102 : decode cMo_count 102 = .ok (.iload_n 1, 1) := by decide +kernel
theorem dMo_count_103 : decode cMo_count 103 = .ok (.ifCond .ne 10, 3) := by decide +kernel
theorem dMo_count_106 : decode cMo_count 106 = .ok (.aload_n 0, 1) := by decide +kernel
theorem dMo_count_107 : decode cMo_count 107 = .ok (.getfield 127, 3) := by decide +kernel
theorem dMo_count_110 : decode cMo_count 110 = .ok (.goto 41, 3) := by decide +kernel
theorem dMo_count_113 : decode cMo_count 113 = .ok (.iload_n 1, 1) := by decide +kernel
theorem dMo_count_114 : decode cMo_count 114 = .ok (.iconst 1, 1) := by decide +kernel
theorem dMo_count_115 : decode cMo_count 115 = .ok (.if_icmp .ne 7, 3) := by decide +kernel
theorem dMo_count_118 : decode cMo_count 118 = .ok (.iload_n 2, 1) := by decide +kernel
theorem dMo_count_119 : decode cMo_count 119 = .ok (.goto 32, 3) := by decide +kernel
theorem dMo_count_122 : decode cMo_count 122 = .ok (.iload_n 1, 1) := by decide +kernel
theorem dMo_count_123 : decode cMo_count 123 = .ok (.iconst 2, 1) := by decide +kernel
theorem dMo_count_124 : decode cMo_count 124 = .ok (.if_icmp .ne 7, 3) := by decide +kernel
theorem dMo_count_127 : decode cMo_count 127 = .ok (.iload_n 3, 1) := by decide +kernel
theorem dMo_count_128 : decode cMo_count 128 = .ok (.goto 23, 3) := by decide +kernel
theorem dMo_count_131 : decode cMo_count 131 = .ok (.iload_n 1, 1) := by decide +kernel
theorem dMo_count_132 : decode cMo_count 132 = .ok (.iconst 3, 1) := by decide +kernel
theorem dMo_count_133 : decode cMo_count 133 = .ok (.if_icmp .ne 10, 3) := by decide +kernel
theorem dMo_count_136 : decode cMo_count 136 = .ok (.aload_n 0, 1) := by decide +kernel
theorem dMo_count_137 : decode cMo_count 137 = .ok (.getfield 136, 3) := by decide +kernel
theorem dMo_count_140 : decode cMo_count 140 = .ok (.goto 11, 3) := by decide +kernel
theorem dMo_count_143 : decode cMo_count 143 = .ok (.aload_n 0, 1) := by decide +kernel
theorem dMo_count_144 : decode cMo_count 144 = .ok (.getfield 32, 3) := by decide +kernel
theorem dMo_count_147 : decode cMo_count 147 = .ok (.iload_n 1, 1) := by decide +kernel
theorem dMo_count_148 : decode cMo_count 148 = .ok (.iconst 4, 1) := by decide +kernel
theorem dMo_count_149 : decode cMo_count 149 = .ok (.isub, 1) := by decide +kernel
theorem dMo_count_150 : decode cMo_count 150 = .ok (.iaload, 1) := by decide +kernel
theorem dMo_count_151 : decode cMo_count 151 = .ok (.ireturn, 1) := by decide +kernel
section FLD
variable {p : Program} {l : Launch} {e : Env} {R : Room} {s : State} {m : MethodId} {args : Array Value} {below : List Frame} {meth : Method} {c : Code} {H : Heap} {locs : List Loc} {cells slots : Nat} {Q : State → Prop}
variable {cc : ByteArray} {pc : Nat} {ls : Array Slot} {rest : List Value} {G : gG} {A : Nat → Prop} {ws : va_W} {a : Nat} {fs : List Value} {v : Value}
theorem kfMo_74 : (Cond.fieldLink "CoverKeysModel" 74 "CoverKeysModel" "thrown" "I") ∈ ckT := ck_m3 (List.mem_of_getElem? (i := 182) rfl) rfl
theorem gfMo_74 (hx : p.tables.exec = Jvm.exec) (hb : c.code = cc) (hts : ∀ w ∈ ckT, w.before args s = true) (hown : s.vm.findClass "CoverKeysModel" = some m.cls) (hG : gk G A s s.heap) (hP : va_P G.1 vwCl ws H) (q0 : Nat) (he : ws[q0]? = some (oC a 8 fs)) (hv : fs[0]? = some v) (hdg : decode cc pc = .ok (.getfield 74, 3))
    (kk : W p l e R s m args below meth c H locs cells slots Q (F0 m (pc + 3) ls (v :: rest))) : W p l e R s m args below meth c H locs cells slots Q (F0 m pc ls (.ref a :: rest)) :=
  va_get (T := TMo) (N := 30) hx hb hts inMo hown hG.1 hP q0 he rfl 0 (by decide) (hts _ kfMo_74) (fun _ h => h) hv hdg kk
theorem pfMo_74 (hx : p.tables.exec = Jvm.exec) (hb : c.code = cc) (hts : ∀ w ∈ ckT, w.before args s = true) (hown : s.vm.findClass "CoverKeysModel" = some m.cls) (hG : gk G A s s.heap) (hP : va_P G.1 vwCl ws H) (hD : va_D A ws) (hS : va_S A s.heap H locs) (q0 : Nat) (he : ws[q0]? = some (oC a 8 fs)) (hn : narrow (.int) v = v) (hfit : fits (.int) v = true) (hl : 0 < fs.length) (hdg : decode cc pc = .ok (.putfield 74, 3))
    (kk : ∀ (H1 : Heap) (locs1 : List Loc), va_P G.1 vwCl (ws.set q0 (oC a 8 (fs.set 0 v))) H1 → va_D A (ws.set q0 (oC a 8 (fs.set 0 v))) → va_S A s.heap H1 locs1 → W p l e R s m args below meth c H1 locs1 cells slots Q (F0 m (pc + 3) ls rest)) : W p l e R s m args below meth c H locs cells slots Q (F0 m pc ls (v :: .ref a :: rest)) :=
  va_put (T := TMo) (N := 30) hx hb hts inMo tyMo tyMo_ok nmMo hown hG.1 hP hD hS q0 he rfl 0 (by decide) (hts _ kfMo_74) (fun _ h => h) rfl (tyMo_ok 0 (by decide)) hn hfit hl hdg kk
theorem kfMo_7 : (Cond.fieldLink "CoverKeysModel" 7 "CoverKeysModel" "sub" "[I") ∈ ckT := ck_m3 (List.mem_of_getElem? (i := 183) rfl) rfl
theorem gfMo_7 (hx : p.tables.exec = Jvm.exec) (hb : c.code = cc) (hts : ∀ w ∈ ckT, w.before args s = true) (hown : s.vm.findClass "CoverKeysModel" = some m.cls) (hG : gk G A s s.heap) (hP : va_P G.1 vwCl ws H) (q0 : Nat) (he : ws[q0]? = some (oC a 8 fs)) (hv : fs[1]? = some v) (hdg : decode cc pc = .ok (.getfield 7, 3))
    (kk : W p l e R s m args below meth c H locs cells slots Q (F0 m (pc + 3) ls (v :: rest))) : W p l e R s m args below meth c H locs cells slots Q (F0 m pc ls (.ref a :: rest)) :=
  va_get (T := TMo) (N := 30) hx hb hts inMo hown hG.1 hP q0 he rfl 1 (by decide) (hts _ kfMo_7) (fun _ h => h) hv hdg kk
theorem kfMo_13 : (Cond.fieldLink "CoverKeysModel" 13 "CoverKeysModel" "unsub" "[I") ∈ ckT := ck_m3 (List.mem_of_getElem? (i := 184) rfl) rfl
theorem gfMo_13 (hx : p.tables.exec = Jvm.exec) (hb : c.code = cc) (hts : ∀ w ∈ ckT, w.before args s = true) (hown : s.vm.findClass "CoverKeysModel" = some m.cls) (hG : gk G A s s.heap) (hP : va_P G.1 vwCl ws H) (q0 : Nat) (he : ws[q0]? = some (oC a 8 fs)) (hv : fs[2]? = some v) (hdg : decode cc pc = .ok (.getfield 13, 3))
    (kk : W p l e R s m args below meth c H locs cells slots Q (F0 m (pc + 3) ls (v :: rest))) : W p l e R s m args below meth c H locs cells slots Q (F0 m pc ls (.ref a :: rest)) :=
  va_get (T := TMo) (N := 30) hx hb hts inMo hown hG.1 hP q0 he rfl 2 (by decide) (hts _ kfMo_13) (fun _ h => h) hv hdg kk
theorem kfMo_16 : (Cond.fieldLink "CoverKeysModel" 16 "CoverKeysModel" "words" "[I") ∈ ckT := ck_m3 (List.mem_of_getElem? (i := 185) rfl) rfl
theorem gfMo_16 (hx : p.tables.exec = Jvm.exec) (hb : c.code = cc) (hts : ∀ w ∈ ckT, w.before args s = true) (hown : s.vm.findClass "CoverKeysModel" = some m.cls) (hG : gk G A s s.heap) (hP : va_P G.1 vwCl ws H) (q0 : Nat) (he : ws[q0]? = some (oC a 8 fs)) (hv : fs[3]? = some v) (hdg : decode cc pc = .ok (.getfield 16, 3))
    (kk : W p l e R s m args below meth c H locs cells slots Q (F0 m (pc + 3) ls (v :: rest))) : W p l e R s m args below meth c H locs cells slots Q (F0 m pc ls (.ref a :: rest)) :=
  va_get (T := TMo) (N := 30) hx hb hts inMo hown hG.1 hP q0 he rfl 3 (by decide) (hts _ kfMo_16) (fun _ h => h) hv hdg kk
theorem kfMo_19 : (Cond.fieldLink "CoverKeysModel" 19 "CoverKeysModel" "block" "[I") ∈ ckT := ck_m3 (List.mem_of_getElem? (i := 186) rfl) rfl
theorem gfMo_19 (hx : p.tables.exec = Jvm.exec) (hb : c.code = cc) (hts : ∀ w ∈ ckT, w.before args s = true) (hown : s.vm.findClass "CoverKeysModel" = some m.cls) (hG : gk G A s s.heap) (hP : va_P G.1 vwCl ws H) (q0 : Nat) (he : ws[q0]? = some (oC a 8 fs)) (hv : fs[4]? = some v) (hdg : decode cc pc = .ok (.getfield 19, 3))
    (kk : W p l e R s m args below meth c H locs cells slots Q (F0 m (pc + 3) ls (v :: rest))) : W p l e R s m args below meth c H locs cells slots Q (F0 m pc ls (.ref a :: rest)) :=
  va_get (T := TMo) (N := 30) hx hb hts inMo hown hG.1 hP q0 he rfl 4 (by decide) (hts _ kfMo_19) (fun _ h => h) hv hdg kk
theorem kfMo_22 : (Cond.fieldLink "CoverKeysModel" 22 "CoverKeysModel" "moved" "[I") ∈ ckT := ck_m3 (List.mem_of_getElem? (i := 187) rfl) rfl
theorem gfMo_22 (hx : p.tables.exec = Jvm.exec) (hb : c.code = cc) (hts : ∀ w ∈ ckT, w.before args s = true) (hown : s.vm.findClass "CoverKeysModel" = some m.cls) (hG : gk G A s s.heap) (hP : va_P G.1 vwCl ws H) (q0 : Nat) (he : ws[q0]? = some (oC a 8 fs)) (hv : fs[5]? = some v) (hdg : decode cc pc = .ok (.getfield 22, 3))
    (kk : W p l e R s m args below meth c H locs cells slots Q (F0 m (pc + 3) ls (v :: rest))) : W p l e R s m args below meth c H locs cells slots Q (F0 m pc ls (.ref a :: rest)) :=
  va_get (T := TMo) (N := 30) hx hb hts inMo hown hG.1 hP q0 he rfl 5 (by decide) (hts _ kfMo_22) (fun _ h => h) hv hdg kk
theorem kfMo_82 : (Cond.fieldLink "CoverKeysModel" 82 "CoverKeysModel" "first" "J") ∈ ckT := ck_m3 (List.mem_of_getElem? (i := 188) rfl) rfl
theorem gfMo_82 (hx : p.tables.exec = Jvm.exec) (hb : c.code = cc) (hts : ∀ w ∈ ckT, w.before args s = true) (hown : s.vm.findClass "CoverKeysModel" = some m.cls) (hG : gk G A s s.heap) (hP : va_P G.1 vwCl ws H) (q0 : Nat) (he : ws[q0]? = some (oC a 8 fs)) (hv : fs[6]? = some v) (hdg : decode cc pc = .ok (.getfield 82, 3))
    (kk : W p l e R s m args below meth c H locs cells slots Q (F0 m (pc + 3) ls (v :: rest))) : W p l e R s m args below meth c H locs cells slots Q (F0 m pc ls (.ref a :: rest)) :=
  va_get (T := TMo) (N := 30) hx hb hts inMo hown hG.1 hP q0 he rfl 6 (by decide) (hts _ kfMo_82) (fun _ h => h) hv hdg kk
theorem pfMo_82 (hx : p.tables.exec = Jvm.exec) (hb : c.code = cc) (hts : ∀ w ∈ ckT, w.before args s = true) (hown : s.vm.findClass "CoverKeysModel" = some m.cls) (hG : gk G A s s.heap) (hP : va_P G.1 vwCl ws H) (hD : va_D A ws) (hS : va_S A s.heap H locs) (q0 : Nat) (he : ws[q0]? = some (oC a 8 fs)) (hn : narrow (.long) v = v) (hfit : fits (.long) v = true) (hl : 6 < fs.length) (hdg : decode cc pc = .ok (.putfield 82, 3))
    (kk : ∀ (H1 : Heap) (locs1 : List Loc), va_P G.1 vwCl (ws.set q0 (oC a 8 (fs.set 6 v))) H1 → va_D A (ws.set q0 (oC a 8 (fs.set 6 v))) → va_S A s.heap H1 locs1 → W p l e R s m args below meth c H1 locs1 cells slots Q (F0 m (pc + 3) ls rest)) : W p l e R s m args below meth c H locs cells slots Q (F0 m pc ls (v :: .ref a :: rest)) :=
  va_put (T := TMo) (N := 30) hx hb hts inMo tyMo tyMo_ok nmMo hown hG.1 hP hD hS q0 he rfl 6 (by decide) (hts _ kfMo_82) (fun _ h => h) rfl (tyMo_ok 6 (by decide)) hn hfit hl hdg kk
theorem kfMo_86 : (Cond.fieldLink "CoverKeysModel" 86 "CoverKeysModel" "second" "J") ∈ ckT := ck_m3 (List.mem_of_getElem? (i := 189) rfl) rfl
theorem gfMo_86 (hx : p.tables.exec = Jvm.exec) (hb : c.code = cc) (hts : ∀ w ∈ ckT, w.before args s = true) (hown : s.vm.findClass "CoverKeysModel" = some m.cls) (hG : gk G A s s.heap) (hP : va_P G.1 vwCl ws H) (q0 : Nat) (he : ws[q0]? = some (oC a 8 fs)) (hv : fs[7]? = some v) (hdg : decode cc pc = .ok (.getfield 86, 3))
    (kk : W p l e R s m args below meth c H locs cells slots Q (F0 m (pc + 3) ls (v :: rest))) : W p l e R s m args below meth c H locs cells slots Q (F0 m pc ls (.ref a :: rest)) :=
  va_get (T := TMo) (N := 30) hx hb hts inMo hown hG.1 hP q0 he rfl 7 (by decide) (hts _ kfMo_86) (fun _ h => h) hv hdg kk
theorem pfMo_86 (hx : p.tables.exec = Jvm.exec) (hb : c.code = cc) (hts : ∀ w ∈ ckT, w.before args s = true) (hown : s.vm.findClass "CoverKeysModel" = some m.cls) (hG : gk G A s s.heap) (hP : va_P G.1 vwCl ws H) (hD : va_D A ws) (hS : va_S A s.heap H locs) (q0 : Nat) (he : ws[q0]? = some (oC a 8 fs)) (hn : narrow (.long) v = v) (hfit : fits (.long) v = true) (hl : 7 < fs.length) (hdg : decode cc pc = .ok (.putfield 86, 3))
    (kk : ∀ (H1 : Heap) (locs1 : List Loc), va_P G.1 vwCl (ws.set q0 (oC a 8 (fs.set 7 v))) H1 → va_D A (ws.set q0 (oC a 8 (fs.set 7 v))) → va_S A s.heap H1 locs1 → W p l e R s m args below meth c H1 locs1 cells slots Q (F0 m (pc + 3) ls rest)) : W p l e R s m args below meth c H locs cells slots Q (F0 m pc ls (v :: .ref a :: rest)) :=
  va_put (T := TMo) (N := 30) hx hb hts inMo tyMo tyMo_ok nmMo hown hG.1 hP hD hS q0 he rfl 7 (by decide) (hts _ kfMo_86) (fun _ h => h) rfl (tyMo_ok 7 (by decide)) hn hfit hl hdg kk
theorem kfMo_127 : (Cond.fieldLink "CoverKeysModel" 127 "CoverKeysModel" "depth" "I") ∈ ckT := ck_m3 (List.mem_of_getElem? (i := 190) rfl) rfl
theorem gfMo_127 (hx : p.tables.exec = Jvm.exec) (hb : c.code = cc) (hts : ∀ w ∈ ckT, w.before args s = true) (hown : s.vm.findClass "CoverKeysModel" = some m.cls) (hG : gk G A s s.heap) (hP : va_P G.1 vwCl ws H) (q0 : Nat) (he : ws[q0]? = some (oC a 8 fs)) (hv : fs[8]? = some v) (hdg : decode cc pc = .ok (.getfield 127, 3))
    (kk : W p l e R s m args below meth c H locs cells slots Q (F0 m (pc + 3) ls (v :: rest))) : W p l e R s m args below meth c H locs cells slots Q (F0 m pc ls (.ref a :: rest)) :=
  va_get (T := TMo) (N := 30) hx hb hts inMo hown hG.1 hP q0 he rfl 8 (by decide) (hts _ kfMo_127) (fun _ h => h) hv hdg kk
theorem pfMo_127 (hx : p.tables.exec = Jvm.exec) (hb : c.code = cc) (hts : ∀ w ∈ ckT, w.before args s = true) (hown : s.vm.findClass "CoverKeysModel" = some m.cls) (hG : gk G A s s.heap) (hP : va_P G.1 vwCl ws H) (hD : va_D A ws) (hS : va_S A s.heap H locs) (q0 : Nat) (he : ws[q0]? = some (oC a 8 fs)) (hn : narrow (.int) v = v) (hfit : fits (.int) v = true) (hl : 8 < fs.length) (hdg : decode cc pc = .ok (.putfield 127, 3))
    (kk : ∀ (H1 : Heap) (locs1 : List Loc), va_P G.1 vwCl (ws.set q0 (oC a 8 (fs.set 8 v))) H1 → va_D A (ws.set q0 (oC a 8 (fs.set 8 v))) → va_S A s.heap H1 locs1 → W p l e R s m args below meth c H1 locs1 cells slots Q (F0 m (pc + 3) ls rest)) : W p l e R s m args below meth c H locs cells slots Q (F0 m pc ls (v :: .ref a :: rest)) :=
  va_put (T := TMo) (N := 30) hx hb hts inMo tyMo tyMo_ok nmMo hown hG.1 hP hD hS q0 he rfl 8 (by decide) (hts _ kfMo_127) (fun _ h => h) rfl (tyMo_ok 8 (by decide)) hn hfit hl hdg kk
theorem kfMo_130 : (Cond.fieldLink "CoverKeysModel" 130 "CoverKeysModel" "seedHigh" "J") ∈ ckT := ck_m3 (List.mem_of_getElem? (i := 191) rfl) rfl
theorem gfMo_130 (hx : p.tables.exec = Jvm.exec) (hb : c.code = cc) (hts : ∀ w ∈ ckT, w.before args s = true) (hown : s.vm.findClass "CoverKeysModel" = some m.cls) (hG : gk G A s s.heap) (hP : va_P G.1 vwCl ws H) (q0 : Nat) (he : ws[q0]? = some (oC a 8 fs)) (hv : fs[9]? = some v) (hdg : decode cc pc = .ok (.getfield 130, 3))
    (kk : W p l e R s m args below meth c H locs cells slots Q (F0 m (pc + 3) ls (v :: rest))) : W p l e R s m args below meth c H locs cells slots Q (F0 m pc ls (.ref a :: rest)) :=
  va_get (T := TMo) (N := 30) hx hb hts inMo hown hG.1 hP q0 he rfl 9 (by decide) (hts _ kfMo_130) (fun _ h => h) hv hdg kk
theorem pfMo_130 (hx : p.tables.exec = Jvm.exec) (hb : c.code = cc) (hts : ∀ w ∈ ckT, w.before args s = true) (hown : s.vm.findClass "CoverKeysModel" = some m.cls) (hG : gk G A s s.heap) (hP : va_P G.1 vwCl ws H) (hD : va_D A ws) (hS : va_S A s.heap H locs) (q0 : Nat) (he : ws[q0]? = some (oC a 8 fs)) (hn : narrow (.long) v = v) (hfit : fits (.long) v = true) (hl : 9 < fs.length) (hdg : decode cc pc = .ok (.putfield 130, 3))
    (kk : ∀ (H1 : Heap) (locs1 : List Loc), va_P G.1 vwCl (ws.set q0 (oC a 8 (fs.set 9 v))) H1 → va_D A (ws.set q0 (oC a 8 (fs.set 9 v))) → va_S A s.heap H1 locs1 → W p l e R s m args below meth c H1 locs1 cells slots Q (F0 m (pc + 3) ls rest)) : W p l e R s m args below meth c H locs cells slots Q (F0 m pc ls (v :: .ref a :: rest)) :=
  va_put (T := TMo) (N := 30) hx hb hts inMo tyMo tyMo_ok nmMo hown hG.1 hP hD hS q0 he rfl 9 (by decide) (hts _ kfMo_130) (fun _ h => h) rfl (tyMo_ok 9 (by decide)) hn hfit hl hdg kk
theorem kfMo_133 : (Cond.fieldLink "CoverKeysModel" 133 "CoverKeysModel" "seedLow" "J") ∈ ckT := ck_m3 (List.mem_of_getElem? (i := 192) rfl) rfl
theorem gfMo_133 (hx : p.tables.exec = Jvm.exec) (hb : c.code = cc) (hts : ∀ w ∈ ckT, w.before args s = true) (hown : s.vm.findClass "CoverKeysModel" = some m.cls) (hG : gk G A s s.heap) (hP : va_P G.1 vwCl ws H) (q0 : Nat) (he : ws[q0]? = some (oC a 8 fs)) (hv : fs[10]? = some v) (hdg : decode cc pc = .ok (.getfield 133, 3))
    (kk : W p l e R s m args below meth c H locs cells slots Q (F0 m (pc + 3) ls (v :: rest))) : W p l e R s m args below meth c H locs cells slots Q (F0 m pc ls (.ref a :: rest)) :=
  va_get (T := TMo) (N := 30) hx hb hts inMo hown hG.1 hP q0 he rfl 10 (by decide) (hts _ kfMo_133) (fun _ h => h) hv hdg kk
theorem pfMo_133 (hx : p.tables.exec = Jvm.exec) (hb : c.code = cc) (hts : ∀ w ∈ ckT, w.before args s = true) (hown : s.vm.findClass "CoverKeysModel" = some m.cls) (hG : gk G A s s.heap) (hP : va_P G.1 vwCl ws H) (hD : va_D A ws) (hS : va_S A s.heap H locs) (q0 : Nat) (he : ws[q0]? = some (oC a 8 fs)) (hn : narrow (.long) v = v) (hfit : fits (.long) v = true) (hl : 10 < fs.length) (hdg : decode cc pc = .ok (.putfield 133, 3))
    (kk : ∀ (H1 : Heap) (locs1 : List Loc), va_P G.1 vwCl (ws.set q0 (oC a 8 (fs.set 10 v))) H1 → va_D A (ws.set q0 (oC a 8 (fs.set 10 v))) → va_S A s.heap H1 locs1 → W p l e R s m args below meth c H1 locs1 cells slots Q (F0 m (pc + 3) ls rest)) : W p l e R s m args below meth c H locs cells slots Q (F0 m pc ls (v :: .ref a :: rest)) :=
  va_put (T := TMo) (N := 30) hx hb hts inMo tyMo tyMo_ok nmMo hown hG.1 hP hD hS q0 he rfl 10 (by decide) (hts _ kfMo_133) (fun _ h => h) rfl (tyMo_ok 10 (by decide)) hn hfit hl hdg kk
theorem kfMo_25 : (Cond.fieldLink "CoverKeysModel" 25 "CoverKeysModel" "installed" "[Z") ∈ ckT := ck_m3 (List.mem_of_getElem? (i := 193) rfl) rfl
theorem gfMo_25 (hx : p.tables.exec = Jvm.exec) (hb : c.code = cc) (hts : ∀ w ∈ ckT, w.before args s = true) (hown : s.vm.findClass "CoverKeysModel" = some m.cls) (hG : gk G A s s.heap) (hP : va_P G.1 vwCl ws H) (q0 : Nat) (he : ws[q0]? = some (oC a 8 fs)) (hv : fs[11]? = some v) (hdg : decode cc pc = .ok (.getfield 25, 3))
    (kk : W p l e R s m args below meth c H locs cells slots Q (F0 m (pc + 3) ls (v :: rest))) : W p l e R s m args below meth c H locs cells slots Q (F0 m pc ls (.ref a :: rest)) :=
  va_get (T := TMo) (N := 30) hx hb hts inMo hown hG.1 hP q0 he rfl 11 (by decide) (hts _ kfMo_25) (fun _ h => h) hv hdg kk
theorem kfMo_29 : (Cond.fieldLink "CoverKeysModel" 29 "CoverKeysModel" "subscribes" "[Z") ∈ ckT := ck_m3 (List.mem_of_getElem? (i := 194) rfl) rfl
theorem gfMo_29 (hx : p.tables.exec = Jvm.exec) (hb : c.code = cc) (hts : ∀ w ∈ ckT, w.before args s = true) (hown : s.vm.findClass "CoverKeysModel" = some m.cls) (hG : gk G A s s.heap) (hP : va_P G.1 vwCl ws H) (q0 : Nat) (he : ws[q0]? = some (oC a 8 fs)) (hv : fs[12]? = some v) (hdg : decode cc pc = .ok (.getfield 29, 3))
    (kk : W p l e R s m args below meth c H locs cells slots Q (F0 m (pc + 3) ls (v :: rest))) : W p l e R s m args below meth c H locs cells slots Q (F0 m pc ls (.ref a :: rest)) :=
  va_get (T := TMo) (N := 30) hx hb hts inMo hown hG.1 hP q0 he rfl 12 (by decide) (hts _ kfMo_29) (fun _ h => h) hv hdg kk
theorem kfMo_32 : (Cond.fieldLink "CoverKeysModel" 32 "CoverKeysModel" "periods" "[I") ∈ ckT := ck_m3 (List.mem_of_getElem? (i := 195) rfl) rfl
theorem gfMo_32 (hx : p.tables.exec = Jvm.exec) (hb : c.code = cc) (hts : ∀ w ∈ ckT, w.before args s = true) (hown : s.vm.findClass "CoverKeysModel" = some m.cls) (hG : gk G A s s.heap) (hP : va_P G.1 vwCl ws H) (q0 : Nat) (he : ws[q0]? = some (oC a 8 fs)) (hv : fs[13]? = some v) (hdg : decode cc pc = .ok (.getfield 32, 3))
    (kk : W p l e R s m args below meth c H locs cells slots Q (F0 m (pc + 3) ls (v :: rest))) : W p l e R s m args below meth c H locs cells slots Q (F0 m pc ls (.ref a :: rest)) :=
  va_get (T := TMo) (N := 30) hx hb hts inMo hown hG.1 hP q0 he rfl 13 (by decide) (hts _ kfMo_32) (fun _ h => h) hv hdg kk
theorem kfMo_35 : (Cond.fieldLink "CoverKeysModel" 35 "CoverKeysModel" "periodHigh" "[J") ∈ ckT := ck_m3 (List.mem_of_getElem? (i := 196) rfl) rfl
theorem gfMo_35 (hx : p.tables.exec = Jvm.exec) (hb : c.code = cc) (hts : ∀ w ∈ ckT, w.before args s = true) (hown : s.vm.findClass "CoverKeysModel" = some m.cls) (hG : gk G A s s.heap) (hP : va_P G.1 vwCl ws H) (q0 : Nat) (he : ws[q0]? = some (oC a 8 fs)) (hv : fs[14]? = some v) (hdg : decode cc pc = .ok (.getfield 35, 3))
    (kk : W p l e R s m args below meth c H locs cells slots Q (F0 m (pc + 3) ls (v :: rest))) : W p l e R s m args below meth c H locs cells slots Q (F0 m pc ls (.ref a :: rest)) :=
  va_get (T := TMo) (N := 30) hx hb hts inMo hown hG.1 hP q0 he rfl 14 (by decide) (hts _ kfMo_35) (fun _ h => h) hv hdg kk
theorem kfMo_39 : (Cond.fieldLink "CoverKeysModel" 39 "CoverKeysModel" "periodLow" "[J") ∈ ckT := ck_m3 (List.mem_of_getElem? (i := 197) rfl) rfl
theorem gfMo_39 (hx : p.tables.exec = Jvm.exec) (hb : c.code = cc) (hts : ∀ w ∈ ckT, w.before args s = true) (hown : s.vm.findClass "CoverKeysModel" = some m.cls) (hG : gk G A s s.heap) (hP : va_P G.1 vwCl ws H) (q0 : Nat) (he : ws[q0]? = some (oC a 8 fs)) (hv : fs[15]? = some v) (hdg : decode cc pc = .ok (.getfield 39, 3))
    (kk : W p l e R s m args below meth c H locs cells slots Q (F0 m (pc + 3) ls (v :: rest))) : W p l e R s m args below meth c H locs cells slots Q (F0 m pc ls (.ref a :: rest)) :=
  va_get (T := TMo) (N := 30) hx hb hts inMo hown hG.1 hP q0 he rfl 15 (by decide) (hts _ kfMo_39) (fun _ h => h) hv hdg kk
theorem kfMo_42 : (Cond.fieldLink "CoverKeysModel" 42 "CoverKeysModel" "subsets" "[I") ∈ ckT := ck_m3 (List.mem_of_getElem? (i := 198) rfl) rfl
theorem gfMo_42 (hx : p.tables.exec = Jvm.exec) (hb : c.code = cc) (hts : ∀ w ∈ ckT, w.before args s = true) (hown : s.vm.findClass "CoverKeysModel" = some m.cls) (hG : gk G A s s.heap) (hP : va_P G.1 vwCl ws H) (q0 : Nat) (he : ws[q0]? = some (oC a 8 fs)) (hv : fs[16]? = some v) (hdg : decode cc pc = .ok (.getfield 42, 3))
    (kk : W p l e R s m args below meth c H locs cells slots Q (F0 m (pc + 3) ls (v :: rest))) : W p l e R s m args below meth c H locs cells slots Q (F0 m pc ls (.ref a :: rest)) :=
  va_get (T := TMo) (N := 30) hx hb hts inMo hown hG.1 hP q0 he rfl 16 (by decide) (hts _ kfMo_42) (fun _ h => h) hv hdg kk
theorem kfMo_45 : (Cond.fieldLink "CoverKeysModel" 45 "CoverKeysModel" "subsetV" "[I") ∈ ckT := ck_m3 (List.mem_of_getElem? (i := 199) rfl) rfl
theorem gfMo_45 (hx : p.tables.exec = Jvm.exec) (hb : c.code = cc) (hts : ∀ w ∈ ckT, w.before args s = true) (hown : s.vm.findClass "CoverKeysModel" = some m.cls) (hG : gk G A s s.heap) (hP : va_P G.1 vwCl ws H) (q0 : Nat) (he : ws[q0]? = some (oC a 8 fs)) (hv : fs[17]? = some v) (hdg : decode cc pc = .ok (.getfield 45, 3))
    (kk : W p l e R s m args below meth c H locs cells slots Q (F0 m (pc + 3) ls (v :: rest))) : W p l e R s m args below meth c H locs cells slots Q (F0 m pc ls (.ref a :: rest)) :=
  va_get (T := TMo) (N := 30) hx hb hts inMo hown hG.1 hP q0 he rfl 17 (by decide) (hts _ kfMo_45) (fun _ h => h) hv hdg kk
theorem kfMo_48 : (Cond.fieldLink "CoverKeysModel" 48 "CoverKeysModel" "subsetW" "[I") ∈ ckT := ck_m3 (List.mem_of_getElem? (i := 200) rfl) rfl
theorem gfMo_48 (hx : p.tables.exec = Jvm.exec) (hb : c.code = cc) (hts : ∀ w ∈ ckT, w.before args s = true) (hown : s.vm.findClass "CoverKeysModel" = some m.cls) (hG : gk G A s s.heap) (hP : va_P G.1 vwCl ws H) (q0 : Nat) (he : ws[q0]? = some (oC a 8 fs)) (hv : fs[18]? = some v) (hdg : decode cc pc = .ok (.getfield 48, 3))
    (kk : W p l e R s m args below meth c H locs cells slots Q (F0 m (pc + 3) ls (v :: rest))) : W p l e R s m args below meth c H locs cells slots Q (F0 m pc ls (.ref a :: rest)) :=
  va_get (T := TMo) (N := 30) hx hb hts inMo hown hG.1 hP q0 he rfl 18 (by decide) (hts _ kfMo_48) (fun _ h => h) hv hdg kk
theorem kfMo_51 : (Cond.fieldLink "CoverKeysModel" 51 "CoverKeysModel" "marked" "[Z") ∈ ckT := ck_m3 (List.mem_of_getElem? (i := 201) rfl) rfl
theorem gfMo_51 (hx : p.tables.exec = Jvm.exec) (hb : c.code = cc) (hts : ∀ w ∈ ckT, w.before args s = true) (hown : s.vm.findClass "CoverKeysModel" = some m.cls) (hG : gk G A s s.heap) (hP : va_P G.1 vwCl ws H) (q0 : Nat) (he : ws[q0]? = some (oC a 8 fs)) (hv : fs[19]? = some v) (hdg : decode cc pc = .ok (.getfield 51, 3))
    (kk : W p l e R s m args below meth c H locs cells slots Q (F0 m (pc + 3) ls (v :: rest))) : W p l e R s m args below meth c H locs cells slots Q (F0 m pc ls (.ref a :: rest)) :=
  va_get (T := TMo) (N := 30) hx hb hts inMo hown hG.1 hP q0 he rfl 19 (by decide) (hts _ kfMo_51) (fun _ h => h) hv hdg kk
theorem kfMo_54 : (Cond.fieldLink "CoverKeysModel" 54 "CoverKeysModel" "air" "[I") ∈ ckT := ck_m3 (List.mem_of_getElem? (i := 202) rfl) rfl
theorem gfMo_54 (hx : p.tables.exec = Jvm.exec) (hb : c.code = cc) (hts : ∀ w ∈ ckT, w.before args s = true) (hown : s.vm.findClass "CoverKeysModel" = some m.cls) (hG : gk G A s s.heap) (hP : va_P G.1 vwCl ws H) (q0 : Nat) (he : ws[q0]? = some (oC a 8 fs)) (hv : fs[20]? = some v) (hdg : decode cc pc = .ok (.getfield 54, 3))
    (kk : W p l e R s m args below meth c H locs cells slots Q (F0 m (pc + 3) ls (v :: rest))) : W p l e R s m args below meth c H locs cells slots Q (F0 m pc ls (.ref a :: rest)) :=
  va_get (T := TMo) (N := 30) hx hb hts inMo hown hG.1 hP q0 he rfl 20 (by decide) (hts _ kfMo_54) (fun _ h => h) hv hdg kk
theorem kfMo_136 : (Cond.fieldLink "CoverKeysModel" 136 "CoverKeysModel" "airSize" "I") ∈ ckT := ck_m3 (List.mem_of_getElem? (i := 203) rfl) rfl
theorem gfMo_136 (hx : p.tables.exec = Jvm.exec) (hb : c.code = cc) (hts : ∀ w ∈ ckT, w.before args s = true) (hown : s.vm.findClass "CoverKeysModel" = some m.cls) (hG : gk G A s s.heap) (hP : va_P G.1 vwCl ws H) (q0 : Nat) (he : ws[q0]? = some (oC a 8 fs)) (hv : fs[21]? = some v) (hdg : decode cc pc = .ok (.getfield 136, 3))
    (kk : W p l e R s m args below meth c H locs cells slots Q (F0 m (pc + 3) ls (v :: rest))) : W p l e R s m args below meth c H locs cells slots Q (F0 m pc ls (.ref a :: rest)) :=
  va_get (T := TMo) (N := 30) hx hb hts inMo hown hG.1 hP q0 he rfl 21 (by decide) (hts _ kfMo_136) (fun _ h => h) hv hdg kk
theorem pfMo_136 (hx : p.tables.exec = Jvm.exec) (hb : c.code = cc) (hts : ∀ w ∈ ckT, w.before args s = true) (hown : s.vm.findClass "CoverKeysModel" = some m.cls) (hG : gk G A s s.heap) (hP : va_P G.1 vwCl ws H) (hD : va_D A ws) (hS : va_S A s.heap H locs) (q0 : Nat) (he : ws[q0]? = some (oC a 8 fs)) (hn : narrow (.int) v = v) (hfit : fits (.int) v = true) (hl : 21 < fs.length) (hdg : decode cc pc = .ok (.putfield 136, 3))
    (kk : ∀ (H1 : Heap) (locs1 : List Loc), va_P G.1 vwCl (ws.set q0 (oC a 8 (fs.set 21 v))) H1 → va_D A (ws.set q0 (oC a 8 (fs.set 21 v))) → va_S A s.heap H1 locs1 → W p l e R s m args below meth c H1 locs1 cells slots Q (F0 m (pc + 3) ls rest)) : W p l e R s m args below meth c H locs cells slots Q (F0 m pc ls (v :: .ref a :: rest)) :=
  va_put (T := TMo) (N := 30) hx hb hts inMo tyMo tyMo_ok nmMo hown hG.1 hP hD hS q0 he rfl 21 (by decide) (hts _ kfMo_136) (fun _ h => h) rfl (tyMo_ok 21 (by decide)) hn hfit hl hdg kk
theorem kfMo_57 : (Cond.fieldLink "CoverKeysModel" 57 "CoverKeysModel" "heardPeriod" "[I") ∈ ckT := ck_m3 (List.mem_of_getElem? (i := 204) rfl) rfl
theorem gfMo_57 (hx : p.tables.exec = Jvm.exec) (hb : c.code = cc) (hts : ∀ w ∈ ckT, w.before args s = true) (hown : s.vm.findClass "CoverKeysModel" = some m.cls) (hG : gk G A s s.heap) (hP : va_P G.1 vwCl ws H) (q0 : Nat) (he : ws[q0]? = some (oC a 8 fs)) (hv : fs[22]? = some v) (hdg : decode cc pc = .ok (.getfield 57, 3))
    (kk : W p l e R s m args below meth c H locs cells slots Q (F0 m (pc + 3) ls (v :: rest))) : W p l e R s m args below meth c H locs cells slots Q (F0 m pc ls (.ref a :: rest)) :=
  va_get (T := TMo) (N := 30) hx hb hts inMo hown hG.1 hP q0 he rfl 22 (by decide) (hts _ kfMo_57) (fun _ h => h) hv hdg kk
theorem kfMo_60 : (Cond.fieldLink "CoverKeysModel" 60 "CoverKeysModel" "heardHigh" "[J") ∈ ckT := ck_m3 (List.mem_of_getElem? (i := 205) rfl) rfl
theorem gfMo_60 (hx : p.tables.exec = Jvm.exec) (hb : c.code = cc) (hts : ∀ w ∈ ckT, w.before args s = true) (hown : s.vm.findClass "CoverKeysModel" = some m.cls) (hG : gk G A s s.heap) (hP : va_P G.1 vwCl ws H) (q0 : Nat) (he : ws[q0]? = some (oC a 8 fs)) (hv : fs[23]? = some v) (hdg : decode cc pc = .ok (.getfield 60, 3))
    (kk : W p l e R s m args below meth c H locs cells slots Q (F0 m (pc + 3) ls (v :: rest))) : W p l e R s m args below meth c H locs cells slots Q (F0 m pc ls (.ref a :: rest)) :=
  va_get (T := TMo) (N := 30) hx hb hts inMo hown hG.1 hP q0 he rfl 23 (by decide) (hts _ kfMo_60) (fun _ h => h) hv hdg kk
theorem kfMo_63 : (Cond.fieldLink "CoverKeysModel" 63 "CoverKeysModel" "heardLow" "[J") ∈ ckT := ck_m3 (List.mem_of_getElem? (i := 206) rfl) rfl
theorem gfMo_63 (hx : p.tables.exec = Jvm.exec) (hb : c.code = cc) (hts : ∀ w ∈ ckT, w.before args s = true) (hown : s.vm.findClass "CoverKeysModel" = some m.cls) (hG : gk G A s s.heap) (hP : va_P G.1 vwCl ws H) (q0 : Nat) (he : ws[q0]? = some (oC a 8 fs)) (hv : fs[24]? = some v) (hdg : decode cc pc = .ok (.getfield 63, 3))
    (kk : W p l e R s m args below meth c H locs cells slots Q (F0 m (pc + 3) ls (v :: rest))) : W p l e R s m args below meth c H locs cells slots Q (F0 m pc ls (.ref a :: rest)) :=
  va_get (T := TMo) (N := 30) hx hb hts inMo hown hG.1 hP q0 he rfl 24 (by decide) (hts _ kfMo_63) (fun _ h => h) hv hdg kk
theorem kfMo_195 : (Cond.fieldLink "CoverKeysModel" 195 "CoverKeysModel" "outHigh" "J") ∈ ckT := ck_m3 (List.mem_of_getElem? (i := 207) rfl) rfl
theorem gfMo_195 (hx : p.tables.exec = Jvm.exec) (hb : c.code = cc) (hts : ∀ w ∈ ckT, w.before args s = true) (hown : s.vm.findClass "CoverKeysModel" = some m.cls) (hG : gk G A s s.heap) (hP : va_P G.1 vwCl ws H) (q0 : Nat) (he : ws[q0]? = some (oC a 8 fs)) (hv : fs[25]? = some v) (hdg : decode cc pc = .ok (.getfield 195, 3))
    (kk : W p l e R s m args below meth c H locs cells slots Q (F0 m (pc + 3) ls (v :: rest))) : W p l e R s m args below meth c H locs cells slots Q (F0 m pc ls (.ref a :: rest)) :=
  va_get (T := TMo) (N := 30) hx hb hts inMo hown hG.1 hP q0 he rfl 25 (by decide) (hts _ kfMo_195) (fun _ h => h) hv hdg kk
theorem pfMo_195 (hx : p.tables.exec = Jvm.exec) (hb : c.code = cc) (hts : ∀ w ∈ ckT, w.before args s = true) (hown : s.vm.findClass "CoverKeysModel" = some m.cls) (hG : gk G A s s.heap) (hP : va_P G.1 vwCl ws H) (hD : va_D A ws) (hS : va_S A s.heap H locs) (q0 : Nat) (he : ws[q0]? = some (oC a 8 fs)) (hn : narrow (.long) v = v) (hfit : fits (.long) v = true) (hl : 25 < fs.length) (hdg : decode cc pc = .ok (.putfield 195, 3))
    (kk : ∀ (H1 : Heap) (locs1 : List Loc), va_P G.1 vwCl (ws.set q0 (oC a 8 (fs.set 25 v))) H1 → va_D A (ws.set q0 (oC a 8 (fs.set 25 v))) → va_S A s.heap H1 locs1 → W p l e R s m args below meth c H1 locs1 cells slots Q (F0 m (pc + 3) ls rest)) : W p l e R s m args below meth c H locs cells slots Q (F0 m pc ls (v :: .ref a :: rest)) :=
  va_put (T := TMo) (N := 30) hx hb hts inMo tyMo tyMo_ok nmMo hown hG.1 hP hD hS q0 he rfl 25 (by decide) (hts _ kfMo_195) (fun _ h => h) rfl (tyMo_ok 25 (by decide)) hn hfit hl hdg kk
theorem kfMo_198 : (Cond.fieldLink "CoverKeysModel" 198 "CoverKeysModel" "outLow" "J") ∈ ckT := ck_m3 (List.mem_of_getElem? (i := 208) rfl) rfl
theorem gfMo_198 (hx : p.tables.exec = Jvm.exec) (hb : c.code = cc) (hts : ∀ w ∈ ckT, w.before args s = true) (hown : s.vm.findClass "CoverKeysModel" = some m.cls) (hG : gk G A s s.heap) (hP : va_P G.1 vwCl ws H) (q0 : Nat) (he : ws[q0]? = some (oC a 8 fs)) (hv : fs[26]? = some v) (hdg : decode cc pc = .ok (.getfield 198, 3))
    (kk : W p l e R s m args below meth c H locs cells slots Q (F0 m (pc + 3) ls (v :: rest))) : W p l e R s m args below meth c H locs cells slots Q (F0 m pc ls (.ref a :: rest)) :=
  va_get (T := TMo) (N := 30) hx hb hts inMo hown hG.1 hP q0 he rfl 26 (by decide) (hts _ kfMo_198) (fun _ h => h) hv hdg kk
theorem pfMo_198 (hx : p.tables.exec = Jvm.exec) (hb : c.code = cc) (hts : ∀ w ∈ ckT, w.before args s = true) (hown : s.vm.findClass "CoverKeysModel" = some m.cls) (hG : gk G A s s.heap) (hP : va_P G.1 vwCl ws H) (hD : va_D A ws) (hS : va_S A s.heap H locs) (q0 : Nat) (he : ws[q0]? = some (oC a 8 fs)) (hn : narrow (.long) v = v) (hfit : fits (.long) v = true) (hl : 26 < fs.length) (hdg : decode cc pc = .ok (.putfield 198, 3))
    (kk : ∀ (H1 : Heap) (locs1 : List Loc), va_P G.1 vwCl (ws.set q0 (oC a 8 (fs.set 26 v))) H1 → va_D A (ws.set q0 (oC a 8 (fs.set 26 v))) → va_S A s.heap H1 locs1 → W p l e R s m args below meth c H1 locs1 cells slots Q (F0 m (pc + 3) ls rest)) : W p l e R s m args below meth c H locs cells slots Q (F0 m pc ls (v :: .ref a :: rest)) :=
  va_put (T := TMo) (N := 30) hx hb hts inMo tyMo tyMo_ok nmMo hown hG.1 hP hD hS q0 he rfl 26 (by decide) (hts _ kfMo_198) (fun _ h => h) rfl (tyMo_ok 26 (by decide)) hn hfit hl hdg kk
theorem kfMo_111 : (Cond.fieldLink "CoverKeysModel" 111 "CoverKeysModel" "wrapped0" "J") ∈ ckT := ck_m3 (List.mem_of_getElem? (i := 209) rfl) rfl
theorem gfMo_111 (hx : p.tables.exec = Jvm.exec) (hb : c.code = cc) (hts : ∀ w ∈ ckT, w.before args s = true) (hown : s.vm.findClass "CoverKeysModel" = some m.cls) (hG : gk G A s s.heap) (hP : va_P G.1 vwCl ws H) (q0 : Nat) (he : ws[q0]? = some (oC a 8 fs)) (hv : fs[27]? = some v) (hdg : decode cc pc = .ok (.getfield 111, 3))
    (kk : W p l e R s m args below meth c H locs cells slots Q (F0 m (pc + 3) ls (v :: rest))) : W p l e R s m args below meth c H locs cells slots Q (F0 m pc ls (.ref a :: rest)) :=
  va_get (T := TMo) (N := 30) hx hb hts inMo hown hG.1 hP q0 he rfl 27 (by decide) (hts _ kfMo_111) (fun _ h => h) hv hdg kk
theorem pfMo_111 (hx : p.tables.exec = Jvm.exec) (hb : c.code = cc) (hts : ∀ w ∈ ckT, w.before args s = true) (hown : s.vm.findClass "CoverKeysModel" = some m.cls) (hG : gk G A s s.heap) (hP : va_P G.1 vwCl ws H) (hD : va_D A ws) (hS : va_S A s.heap H locs) (q0 : Nat) (he : ws[q0]? = some (oC a 8 fs)) (hn : narrow (.long) v = v) (hfit : fits (.long) v = true) (hl : 27 < fs.length) (hdg : decode cc pc = .ok (.putfield 111, 3))
    (kk : ∀ (H1 : Heap) (locs1 : List Loc), va_P G.1 vwCl (ws.set q0 (oC a 8 (fs.set 27 v))) H1 → va_D A (ws.set q0 (oC a 8 (fs.set 27 v))) → va_S A s.heap H1 locs1 → W p l e R s m args below meth c H1 locs1 cells slots Q (F0 m (pc + 3) ls rest)) : W p l e R s m args below meth c H locs cells slots Q (F0 m pc ls (v :: .ref a :: rest)) :=
  va_put (T := TMo) (N := 30) hx hb hts inMo tyMo tyMo_ok nmMo hown hG.1 hP hD hS q0 he rfl 27 (by decide) (hts _ kfMo_111) (fun _ h => h) rfl (tyMo_ok 27 (by decide)) hn hfit hl hdg kk
theorem kfMo_114 : (Cond.fieldLink "CoverKeysModel" 114 "CoverKeysModel" "wrapped1" "J") ∈ ckT := ck_m3 (List.mem_of_getElem? (i := 210) rfl) rfl
theorem gfMo_114 (hx : p.tables.exec = Jvm.exec) (hb : c.code = cc) (hts : ∀ w ∈ ckT, w.before args s = true) (hown : s.vm.findClass "CoverKeysModel" = some m.cls) (hG : gk G A s s.heap) (hP : va_P G.1 vwCl ws H) (q0 : Nat) (he : ws[q0]? = some (oC a 8 fs)) (hv : fs[28]? = some v) (hdg : decode cc pc = .ok (.getfield 114, 3))
    (kk : W p l e R s m args below meth c H locs cells slots Q (F0 m (pc + 3) ls (v :: rest))) : W p l e R s m args below meth c H locs cells slots Q (F0 m pc ls (.ref a :: rest)) :=
  va_get (T := TMo) (N := 30) hx hb hts inMo hown hG.1 hP q0 he rfl 28 (by decide) (hts _ kfMo_114) (fun _ h => h) hv hdg kk
theorem pfMo_114 (hx : p.tables.exec = Jvm.exec) (hb : c.code = cc) (hts : ∀ w ∈ ckT, w.before args s = true) (hown : s.vm.findClass "CoverKeysModel" = some m.cls) (hG : gk G A s s.heap) (hP : va_P G.1 vwCl ws H) (hD : va_D A ws) (hS : va_S A s.heap H locs) (q0 : Nat) (he : ws[q0]? = some (oC a 8 fs)) (hn : narrow (.long) v = v) (hfit : fits (.long) v = true) (hl : 28 < fs.length) (hdg : decode cc pc = .ok (.putfield 114, 3))
    (kk : ∀ (H1 : Heap) (locs1 : List Loc), va_P G.1 vwCl (ws.set q0 (oC a 8 (fs.set 28 v))) H1 → va_D A (ws.set q0 (oC a 8 (fs.set 28 v))) → va_S A s.heap H1 locs1 → W p l e R s m args below meth c H1 locs1 cells slots Q (F0 m (pc + 3) ls rest)) : W p l e R s m args below meth c H locs cells slots Q (F0 m pc ls (v :: .ref a :: rest)) :=
  va_put (T := TMo) (N := 30) hx hb hts inMo tyMo tyMo_ok nmMo hown hG.1 hP hD hS q0 he rfl 28 (by decide) (hts _ kfMo_114) (fun _ h => h) rfl (tyMo_ok 28 (by decide)) hn hfit hl hdg kk
theorem kfMo_117 : (Cond.fieldLink "CoverKeysModel" 117 "CoverKeysModel" "wrapped2" "J") ∈ ckT := ck_m3 (List.mem_of_getElem? (i := 211) rfl) rfl
theorem gfMo_117 (hx : p.tables.exec = Jvm.exec) (hb : c.code = cc) (hts : ∀ w ∈ ckT, w.before args s = true) (hown : s.vm.findClass "CoverKeysModel" = some m.cls) (hG : gk G A s s.heap) (hP : va_P G.1 vwCl ws H) (q0 : Nat) (he : ws[q0]? = some (oC a 8 fs)) (hv : fs[29]? = some v) (hdg : decode cc pc = .ok (.getfield 117, 3))
    (kk : W p l e R s m args below meth c H locs cells slots Q (F0 m (pc + 3) ls (v :: rest))) : W p l e R s m args below meth c H locs cells slots Q (F0 m pc ls (.ref a :: rest)) :=
  va_get (T := TMo) (N := 30) hx hb hts inMo hown hG.1 hP q0 he rfl 29 (by decide) (hts _ kfMo_117) (fun _ h => h) hv hdg kk
theorem pfMo_117 (hx : p.tables.exec = Jvm.exec) (hb : c.code = cc) (hts : ∀ w ∈ ckT, w.before args s = true) (hown : s.vm.findClass "CoverKeysModel" = some m.cls) (hG : gk G A s s.heap) (hP : va_P G.1 vwCl ws H) (hD : va_D A ws) (hS : va_S A s.heap H locs) (q0 : Nat) (he : ws[q0]? = some (oC a 8 fs)) (hn : narrow (.long) v = v) (hfit : fits (.long) v = true) (hl : 29 < fs.length) (hdg : decode cc pc = .ok (.putfield 117, 3))
    (kk : ∀ (H1 : Heap) (locs1 : List Loc), va_P G.1 vwCl (ws.set q0 (oC a 8 (fs.set 29 v))) H1 → va_D A (ws.set q0 (oC a 8 (fs.set 29 v))) → va_S A s.heap H1 locs1 → W p l e R s m args below meth c H1 locs1 cells slots Q (F0 m (pc + 3) ls rest)) : W p l e R s m args below meth c H locs cells slots Q (F0 m pc ls (v :: .ref a :: rest)) :=
  va_put (T := TMo) (N := 30) hx hb hts inMo tyMo tyMo_ok nmMo hown hG.1 hP hD hS q0 he rfl 29 (by decide) (hts _ kfMo_117) (fun _ h => h) rfl (tyMo_ok 29 (by decide)) hn hfit hl hdg kk
end FLD
section CLL
variable {p : Program} {l : Launch} {e : Env} {R : Room} {s : State} {m : MethodId} {args : Array Value} {below : List Frame} {meth : Method} {c : Code} {H : Heap} {locs : List Loc} {cells slots : Nat} {Q : State → Prop}
variable {cc : ByteArray} {pc nL n : Nat} {ls : Array Slot} {rest st0 As : List Value} {G : gG} {A : Nat → Prop} {ws wi : va_W} {S : Type} {φ : S → Prop} {r : S → Option Value} {wo : S → va_W} {rm : Room} {b : Nat} {fs : List Value}
theorem kcMo_inverse : Cond.code yMo_inverse cMo_inverse 3 (some .int) ∈ ckT := ck_m3 (List.mem_of_getElem? (i := 174) rfl) rfl
theorem ksMo_inverse : Cond.static yMo_inverse ∈ ckT := ck_m3 (List.mem_of_getElem? (i := 173) rfl) rfl
theorem knMo : Cond.initialized "CoverKeysModel" ∈ ckT := ck_m1 (List.mem_of_getElem? (i := 8) rfl) rfl
theorem kmMo_66 : Cond.methodLink "CoverKeysModel" 66 yMo_inverse ∈ ckT := ck_m3 (List.mem_of_getElem? (i := 172) rfl) rfl
theorem clMo_66 (hx : p.tables.exec = Jvm.exec) (hb : c.code = cc) (hml : c.maxLocals = nL) (hown : s.vm.findClass "CoverKeysModel" = some m.cls) (hts : ∀ w ∈ ckT, w.before args s = true) (hM : Cq l G yMo_inverse cMo_inverse 3 (some .int) rm As wi φ r wo) (hG : gk G A s s.heap) (hA : ∀ q : Nat, s.heap.size ≤ q → A q) (hP : va_P G.1 vwCl ws H) (hD : va_D A ws) (hS : va_S A s.heap H locs) (is : List Nat) (hC : is.map (fun i => ws[i]?) = wi.map some) (hnd : va_nd is = true) (ha : ∀ u, (wo u).map (·.1) = wi.map (·.1)) (hn : As.length = 1) (hsize : ls.size = nL) (hst : st0 = As.reverse ++ rest) (hrm : (rest.map fun v => v.category).sum ≤ 8) (hR : rm.frames + 1 ≤ R.frames ∧ 8 + (3 + 11) + rm.locals ≤ R.locals) (hf : cells + rm.cells ≤ R.cells ∧ slots + rm.slots ≤ R.slots) (hdg : decode cc pc = .ok (.invokestatic 66, 3)) (kk : ∀ (u : S) (H1 : Heap) (locs1 : List Loc), φ u → va_P G.1 vwCl (ck_set ws is (wo u)) H1 → va_D A (ck_set ws is (wo u)) → va_S A s.heap H1 locs1 → W p l e R s m args below meth c H1 locs1 (cells + rm.cells) (slots + rm.slots) Q (F0 m (pc + 3) ls ((r u).toList ++ rest))) :
    W p l e R s m args below meth c H locs cells slots Q (F0 m pc ls st0) :=
  cq_S ⟨hx, hb, hml, hown, hts⟩ hM ⟨callB_of 1 hts (ck_gd0 kcMo_inverse) rfl rfl rfl (hts _ knMo) (hts _ kmMo_66) ⟨by decide, by decide, by decide +kernel⟩ hR, hts _ ksMo_inverse⟩ hG hA hP hD hS is hC hnd ha hn hsize hst hrm hdg hf kk
theorem kcMo_product : Cond.code yMo_product cMo_product 4 (some .int) ∈ ckT := ck_m3 (List.mem_of_getElem? (i := 177) rfl) rfl
theorem ksMo_product : Cond.static yMo_product ∈ ckT := ck_m3 (List.mem_of_getElem? (i := 176) rfl) rfl
theorem kmMo_78 : Cond.methodLink "CoverKeysModel" 78 yMo_product ∈ ckT := ck_m3 (List.mem_of_getElem? (i := 175) rfl) rfl
theorem clMo_78 (hx : p.tables.exec = Jvm.exec) (hb : c.code = cc) (hml : c.maxLocals = nL) (hown : s.vm.findClass "CoverKeysModel" = some m.cls) (hts : ∀ w ∈ ckT, w.before args s = true) (hM : Cq l G yMo_product cMo_product 4 (some .int) rm As wi φ r wo) (hG : gk G A s s.heap) (hA : ∀ q : Nat, s.heap.size ≤ q → A q) (hP : va_P G.1 vwCl ws H) (hD : va_D A ws) (hS : va_S A s.heap H locs) (is : List Nat) (hC : is.map (fun i => ws[i]?) = wi.map some) (hnd : va_nd is = true) (ha : ∀ u, (wo u).map (·.1) = wi.map (·.1)) (hn : As.length = 2) (hsize : ls.size = nL) (hst : st0 = As.reverse ++ rest) (hrm : (rest.map fun v => v.category).sum ≤ 8) (hR : rm.frames + 1 ≤ R.frames ∧ 8 + (4 + 11) + rm.locals ≤ R.locals) (hf : cells + rm.cells ≤ R.cells ∧ slots + rm.slots ≤ R.slots) (hdg : decode cc pc = .ok (.invokestatic 78, 3)) (kk : ∀ (u : S) (H1 : Heap) (locs1 : List Loc), φ u → va_P G.1 vwCl (ck_set ws is (wo u)) H1 → va_D A (ck_set ws is (wo u)) → va_S A s.heap H1 locs1 → W p l e R s m args below meth c H1 locs1 (cells + rm.cells) (slots + rm.slots) Q (F0 m (pc + 3) ls ((r u).toList ++ rest))) :
    W p l e R s m args below meth c H locs cells slots Q (F0 m pc ls st0) :=
  cq_S ⟨hx, hb, hml, hown, hts⟩ hM ⟨callB_of 2 hts (ck_gd0 kcMo_product) rfl rfl rfl (hts _ knMo) (hts _ kmMo_78) ⟨by decide, by decide, by decide +kernel⟩ hR, hts _ ksMo_product⟩ hG hA hP hD hS is hC hnd ha hn hsize hst hrm hdg hf kk
theorem kcMo_clear : Cond.code yMo_clear cMo_clear 7 none ∈ ckT := ck_m3 (List.mem_of_getElem? (i := 181) rfl) rfl
theorem kiMo_clear : Cond.instanceMethod yMo_clear ∈ ckT := ck_m3 (List.mem_of_getElem? (i := 180) rfl) rfl
theorem keMo_clear : Cond.selects "CoverKeysModel" yMo_clear yMo_clear ∈ ckT := ck_ms (List.mem_of_getElem? (i := 16) rfl) rfl
theorem kmMo_70 : Cond.methodLink "CoverKeysModel" 70 yMo_clear ∈ ckT := ck_m3 (List.mem_of_getElem? (i := 178) rfl) rfl
theorem clMo_70 (hx : p.tables.exec = Jvm.exec) (hb : c.code = cc) (hml : c.maxLocals = nL) (hown : s.vm.findClass "CoverKeysModel" = some m.cls) (hts : ∀ w ∈ ckT, w.before args s = true) (hM : Cq l G yMo_clear cMo_clear 7 none rm (.ref b :: As) wi φ r wo) (hG : gk G A s s.heap) (hA : ∀ q : Nat, s.heap.size ≤ q → A q) (hP : va_P G.1 vwCl ws H) (hD : va_D A ws) (hS : va_S A s.heap H locs) (q0 : Nat) (hq : ws[q0]? = some (oC b 8 fs)) (is : List Nat) (hC : is.map (fun i => ws[i]?) = wi.map some) (hnd : va_nd is = true) (ha : ∀ u, (wo u).map (·.1) = wi.map (·.1)) (hn : As.length = 3) (hsize : ls.size = nL) (hst : st0 = As.reverse ++ .ref b :: rest) (hrm : (rest.map fun v => v.category).sum ≤ 8) (hR : rm.frames + 1 ≤ R.frames ∧ 8 + (7 + 11) + rm.locals ≤ R.locals) (hf : cells + rm.cells ≤ R.cells ∧ slots + rm.slots ≤ R.slots) (hdg : decode cc pc = .ok (.invokevirtual 70, 3)) (kk : ∀ (u : S) (H1 : Heap) (locs1 : List Loc), φ u → va_P G.1 vwCl (ck_set ws is (wo u)) H1 → va_D A (ck_set ws is (wo u)) → va_S A s.heap H1 locs1 → W p l e R s m args below meth c H1 locs1 (cells + rm.cells) (slots + rm.slots) Q (F0 m (pc + 3) ls ((r u).toList ++ rest))) :
    W p l e R s m args below meth c H locs cells slots Q (F0 m pc ls st0) :=
  cq_V (T := TMo) (N := 30) ⟨hx, hb, hml, hown, hts⟩ hM ⟨callB_of 3 hts (ck_gd0 kcMo_clear) rfl rfl rfl (hts _ knMo) (hts _ kmMo_70) ⟨by decide, by decide, by decide +kernel⟩ hR, hts _ kiMo_clear, hts _ keMo_clear⟩ hG hA hP hD hS hq rfl is hC hnd ha hn hsize hst hrm hdg hf kk
theorem kcMo_isDecoder : Cond.code yMo_isDecoder cMo_isDecoder 2 (some .boolean) ∈ ckT := ck_m4 (List.mem_of_getElem? (i := 48) rfl) rfl
theorem kiMo_isDecoder : Cond.instanceMethod yMo_isDecoder ∈ ckT := ck_m4 (List.mem_of_getElem? (i := 47) rfl) rfl
theorem keMo_isDecoder : Cond.selects "CoverKeysModel" yMo_isDecoder yMo_isDecoder ∈ ckT := ck_ms (List.mem_of_getElem? (i := 17) rfl) rfl
theorem kmMo_158 : Cond.methodLink "CoverKeysModel" 158 yMo_isDecoder ∈ ckT := ck_m4 (List.mem_of_getElem? (i := 45) rfl) rfl
theorem clMo_158 (hx : p.tables.exec = Jvm.exec) (hb : c.code = cc) (hml : c.maxLocals = nL) (hown : s.vm.findClass "CoverKeysModel" = some m.cls) (hts : ∀ w ∈ ckT, w.before args s = true) (hM : Cq l G yMo_isDecoder cMo_isDecoder 2 (some .boolean) rm (.ref b :: As) wi φ r wo) (hG : gk G A s s.heap) (hA : ∀ q : Nat, s.heap.size ≤ q → A q) (hP : va_P G.1 vwCl ws H) (hD : va_D A ws) (hS : va_S A s.heap H locs) (q0 : Nat) (hq : ws[q0]? = some (oC b 8 fs)) (is : List Nat) (hC : is.map (fun i => ws[i]?) = wi.map some) (hnd : va_nd is = true) (ha : ∀ u, (wo u).map (·.1) = wi.map (·.1)) (hn : As.length = 1) (hsize : ls.size = nL) (hst : st0 = As.reverse ++ .ref b :: rest) (hrm : (rest.map fun v => v.category).sum ≤ 8) (hR : rm.frames + 1 ≤ R.frames ∧ 8 + (2 + 11) + rm.locals ≤ R.locals) (hf : cells + rm.cells ≤ R.cells ∧ slots + rm.slots ≤ R.slots) (hdg : decode cc pc = .ok (.invokevirtual 158, 3)) (kk : ∀ (u : S) (H1 : Heap) (locs1 : List Loc), φ u → va_P G.1 vwCl (ck_set ws is (wo u)) H1 → va_D A (ck_set ws is (wo u)) → va_S A s.heap H1 locs1 → W p l e R s m args below meth c H1 locs1 (cells + rm.cells) (slots + rm.slots) Q (F0 m (pc + 3) ls ((r u).toList ++ rest))) :
    W p l e R s m args below meth c H locs cells slots Q (F0 m pc ls st0) :=
  cq_V (T := TMo) (N := 30) ⟨hx, hb, hml, hown, hts⟩ hM ⟨callB_of 1 hts (ck_gd0 kcMo_isDecoder) rfl rfl rfl (hts _ knMo) (hts _ kmMo_158) ⟨by decide, by decide, by decide +kernel⟩ hR, hts _ kiMo_isDecoder, hts _ keMo_isDecoder⟩ hG hA hP hD hS hq rfl is hC hnd ha hn hsize hst hrm hdg hf kk
theorem kcMo_leaves : Cond.code yMo_leaves cMo_leaves 1 (some .int) ∈ ckT := ck_m4 (List.mem_of_getElem? (i := 52) rfl) rfl
theorem kiMo_leaves : Cond.instanceMethod yMo_leaves ∈ ckT := ck_m4 (List.mem_of_getElem? (i := 51) rfl) rfl
theorem keMo_leaves : Cond.selects "CoverKeysModel" yMo_leaves yMo_leaves ∈ ckT := ck_ms (List.mem_of_getElem? (i := 18) rfl) rfl
theorem kmMo_139 : Cond.methodLink "CoverKeysModel" 139 yMo_leaves ∈ ckT := ck_m4 (List.mem_of_getElem? (i := 49) rfl) rfl
theorem clMo_139 (hx : p.tables.exec = Jvm.exec) (hb : c.code = cc) (hml : c.maxLocals = nL) (hown : s.vm.findClass "CoverKeysModel" = some m.cls) (hts : ∀ w ∈ ckT, w.before args s = true) (hM : Cq l G yMo_leaves cMo_leaves 1 (some .int) rm (.ref b :: As) wi φ r wo) (hG : gk G A s s.heap) (hA : ∀ q : Nat, s.heap.size ≤ q → A q) (hP : va_P G.1 vwCl ws H) (hD : va_D A ws) (hS : va_S A s.heap H locs) (q0 : Nat) (hq : ws[q0]? = some (oC b 8 fs)) (is : List Nat) (hC : is.map (fun i => ws[i]?) = wi.map some) (hnd : va_nd is = true) (ha : ∀ u, (wo u).map (·.1) = wi.map (·.1)) (hn : As.length = 0) (hsize : ls.size = nL) (hst : st0 = As.reverse ++ .ref b :: rest) (hrm : (rest.map fun v => v.category).sum ≤ 8) (hR : rm.frames + 1 ≤ R.frames ∧ 8 + (1 + 11) + rm.locals ≤ R.locals) (hf : cells + rm.cells ≤ R.cells ∧ slots + rm.slots ≤ R.slots) (hdg : decode cc pc = .ok (.invokevirtual 139, 3)) (kk : ∀ (u : S) (H1 : Heap) (locs1 : List Loc), φ u → va_P G.1 vwCl (ck_set ws is (wo u)) H1 → va_D A (ck_set ws is (wo u)) → va_S A s.heap H1 locs1 → W p l e R s m args below meth c H1 locs1 (cells + rm.cells) (slots + rm.slots) Q (F0 m (pc + 3) ls ((r u).toList ++ rest))) :
    W p l e R s m args below meth c H locs cells slots Q (F0 m pc ls st0) :=
  cq_V (T := TMo) (N := 30) ⟨hx, hb, hml, hown, hts⟩ hM ⟨callB_of 0 hts (ck_gd0 kcMo_leaves) rfl rfl rfl (hts _ knMo) (hts _ kmMo_139) ⟨by decide, by decide, by decide +kernel⟩ hR, hts _ kiMo_leaves, hts _ keMo_leaves⟩ hG hA hP hD hS hq rfl is hC hnd ha hn hsize hst hrm hdg hf kk
theorem kcMo_isChannel : Cond.code yMo_isChannel cMo_isChannel 1 (some .boolean) ∈ ckT := ck_m4 (List.mem_of_getElem? (i := 59) rfl) rfl
theorem ksMo_isChannel : Cond.static yMo_isChannel ∈ ckT := ck_m4 (List.mem_of_getElem? (i := 58) rfl) rfl
theorem kmMo_162 : Cond.methodLink "CoverKeysModel" 162 yMo_isChannel ∈ ckT := ck_m4 (List.mem_of_getElem? (i := 57) rfl) rfl
theorem clMo_162 (hx : p.tables.exec = Jvm.exec) (hb : c.code = cc) (hml : c.maxLocals = nL) (hown : s.vm.findClass "CoverKeysModel" = some m.cls) (hts : ∀ w ∈ ckT, w.before args s = true) (hM : Cq l G yMo_isChannel cMo_isChannel 1 (some .boolean) rm As wi φ r wo) (hG : gk G A s s.heap) (hA : ∀ q : Nat, s.heap.size ≤ q → A q) (hP : va_P G.1 vwCl ws H) (hD : va_D A ws) (hS : va_S A s.heap H locs) (is : List Nat) (hC : is.map (fun i => ws[i]?) = wi.map some) (hnd : va_nd is = true) (ha : ∀ u, (wo u).map (·.1) = wi.map (·.1)) (hn : As.length = 1) (hsize : ls.size = nL) (hst : st0 = As.reverse ++ rest) (hrm : (rest.map fun v => v.category).sum ≤ 8) (hR : rm.frames + 1 ≤ R.frames ∧ 8 + (1 + 11) + rm.locals ≤ R.locals) (hf : cells + rm.cells ≤ R.cells ∧ slots + rm.slots ≤ R.slots) (hdg : decode cc pc = .ok (.invokestatic 162, 3)) (kk : ∀ (u : S) (H1 : Heap) (locs1 : List Loc), φ u → va_P G.1 vwCl (ck_set ws is (wo u)) H1 → va_D A (ck_set ws is (wo u)) → va_S A s.heap H1 locs1 → W p l e R s m args below meth c H1 locs1 (cells + rm.cells) (slots + rm.slots) Q (F0 m (pc + 3) ls ((r u).toList ++ rest))) :
    W p l e R s m args below meth c H locs cells slots Q (F0 m pc ls st0) :=
  cq_S ⟨hx, hb, hml, hown, hts⟩ hM ⟨callB_of 1 hts (ck_gd0 kcMo_isChannel) rfl rfl rfl (hts _ knMo) (hts _ kmMo_162) ⟨by decide, by decide, by decide +kernel⟩ hR, hts _ ksMo_isChannel⟩ hG hA hP hD hS is hC hnd ha hn hsize hst hrm hdg hf kk
theorem kcMo_makeCover : Cond.code yMo_makeCover cMo_makeCover 8 none ∈ ckT := ck_m4 (List.mem_of_getElem? (i := 67) rfl) rfl
theorem kiMo_makeCover : Cond.instanceMethod yMo_makeCover ∈ ckT := ck_m4 (List.mem_of_getElem? (i := 66) rfl) rfl
theorem keMo_makeCover : Cond.selects "CoverKeysModel" yMo_makeCover yMo_makeCover ∈ ckT := ck_ms (List.mem_of_getElem? (i := 19) rfl) rfl
theorem kmMo_165 : Cond.methodLink "CoverKeysModel" 165 yMo_makeCover ∈ ckT := ck_m4 (List.mem_of_getElem? (i := 64) rfl) rfl
theorem clMo_165 (hx : p.tables.exec = Jvm.exec) (hb : c.code = cc) (hml : c.maxLocals = nL) (hown : s.vm.findClass "CoverKeysModel" = some m.cls) (hts : ∀ w ∈ ckT, w.before args s = true) (hM : Cq l G yMo_makeCover cMo_makeCover 8 none rm (.ref b :: As) wi φ r wo) (hG : gk G A s s.heap) (hA : ∀ q : Nat, s.heap.size ≤ q → A q) (hP : va_P G.1 vwCl ws H) (hD : va_D A ws) (hS : va_S A s.heap H locs) (q0 : Nat) (hq : ws[q0]? = some (oC b 8 fs)) (is : List Nat) (hC : is.map (fun i => ws[i]?) = wi.map some) (hnd : va_nd is = true) (ha : ∀ u, (wo u).map (·.1) = wi.map (·.1)) (hn : As.length = 1) (hsize : ls.size = nL) (hst : st0 = As.reverse ++ .ref b :: rest) (hrm : (rest.map fun v => v.category).sum ≤ 8) (hR : rm.frames + 1 ≤ R.frames ∧ 8 + (8 + 11) + rm.locals ≤ R.locals) (hf : cells + rm.cells ≤ R.cells ∧ slots + rm.slots ≤ R.slots) (hdg : decode cc pc = .ok (.invokevirtual 165, 3)) (kk : ∀ (u : S) (H1 : Heap) (locs1 : List Loc), φ u → va_P G.1 vwCl (ck_set ws is (wo u)) H1 → va_D A (ck_set ws is (wo u)) → va_S A s.heap H1 locs1 → W p l e R s m args below meth c H1 locs1 (cells + rm.cells) (slots + rm.slots) Q (F0 m (pc + 3) ls ((r u).toList ++ rest))) :
    W p l e R s m args below meth c H locs cells slots Q (F0 m pc ls st0) :=
  cq_V (T := TMo) (N := 30) ⟨hx, hb, hml, hown, hts⟩ hM ⟨callB_of 1 hts (ck_gd0 kcMo_makeCover) rfl rfl rfl (hts _ knMo) (hts _ kmMo_165) ⟨by decide, by decide, by decide +kernel⟩ hR, hts _ kiMo_makeCover, hts _ keMo_makeCover⟩ hG hA hP hD hS hq rfl is hC hnd ha hn hsize hst hrm hdg hf kk
theorem kcMo_putAir : Cond.code yMo_putAir cMo_putAir 5 none ∈ ckT := ck_m4 (List.mem_of_getElem? (i := 75) rfl) rfl
theorem kiMo_putAir : Cond.instanceMethod yMo_putAir ∈ ckT := ck_m4 (List.mem_of_getElem? (i := 74) rfl) rfl
theorem keMo_putAir : Cond.selects "CoverKeysModel" yMo_putAir yMo_putAir ∈ ckT := ck_ms (List.mem_of_getElem? (i := 20) rfl) rfl
theorem kmMo_168 : Cond.methodLink "CoverKeysModel" 168 yMo_putAir ∈ ckT := ck_m4 (List.mem_of_getElem? (i := 72) rfl) rfl
theorem clMo_168 (hx : p.tables.exec = Jvm.exec) (hb : c.code = cc) (hml : c.maxLocals = nL) (hown : s.vm.findClass "CoverKeysModel" = some m.cls) (hts : ∀ w ∈ ckT, w.before args s = true) (hM : Cq l G yMo_putAir cMo_putAir 5 none rm (.ref b :: As) wi φ r wo) (hG : gk G A s s.heap) (hA : ∀ q : Nat, s.heap.size ≤ q → A q) (hP : va_P G.1 vwCl ws H) (hD : va_D A ws) (hS : va_S A s.heap H locs) (q0 : Nat) (hq : ws[q0]? = some (oC b 8 fs)) (is : List Nat) (hC : is.map (fun i => ws[i]?) = wi.map some) (hnd : va_nd is = true) (ha : ∀ u, (wo u).map (·.1) = wi.map (·.1)) (hn : As.length = 2) (hsize : ls.size = nL) (hst : st0 = As.reverse ++ .ref b :: rest) (hrm : (rest.map fun v => v.category).sum ≤ 8) (hR : rm.frames + 1 ≤ R.frames ∧ 8 + (5 + 11) + rm.locals ≤ R.locals) (hf : cells + rm.cells ≤ R.cells ∧ slots + rm.slots ≤ R.slots) (hdg : decode cc pc = .ok (.invokevirtual 168, 3)) (kk : ∀ (u : S) (H1 : Heap) (locs1 : List Loc), φ u → va_P G.1 vwCl (ck_set ws is (wo u)) H1 → va_D A (ck_set ws is (wo u)) → va_S A s.heap H1 locs1 → W p l e R s m args below meth c H1 locs1 (cells + rm.cells) (slots + rm.slots) Q (F0 m (pc + 3) ls ((r u).toList ++ rest))) :
    W p l e R s m args below meth c H locs cells slots Q (F0 m pc ls st0) :=
  cq_V (T := TMo) (N := 30) ⟨hx, hb, hml, hown, hts⟩ hM ⟨callB_of 2 hts (ck_gd0 kcMo_putAir) rfl rfl rfl (hts _ knMo) (hts _ kmMo_168) ⟨by decide, by decide, by decide +kernel⟩ hR, hts _ kiMo_putAir, hts _ keMo_putAir⟩ hG hA hP hD hS hq rfl is hC hnd ha hn hsize hst hrm hdg hf kk
theorem kcMo_makeKey : Cond.code yMo_makeKey cMo_makeKey 3 none ∈ ckT := ck_m4 (List.mem_of_getElem? (i := 79) rfl) rfl
theorem kiMo_makeKey : Cond.instanceMethod yMo_makeKey ∈ ckT := ck_m4 (List.mem_of_getElem? (i := 78) rfl) rfl
theorem keMo_makeKey : Cond.selects "CoverKeysModel" yMo_makeKey yMo_makeKey ∈ ckT := ck_ms (List.mem_of_getElem? (i := 21) rfl) rfl
theorem kmMo_172 : Cond.methodLink "CoverKeysModel" 172 yMo_makeKey ∈ ckT := ck_m4 (List.mem_of_getElem? (i := 76) rfl) rfl
theorem clMo_172 (hx : p.tables.exec = Jvm.exec) (hb : c.code = cc) (hml : c.maxLocals = nL) (hown : s.vm.findClass "CoverKeysModel" = some m.cls) (hts : ∀ w ∈ ckT, w.before args s = true) (hM : Cq l G yMo_makeKey cMo_makeKey 3 none rm (.ref b :: As) wi φ r wo) (hG : gk G A s s.heap) (hA : ∀ q : Nat, s.heap.size ≤ q → A q) (hP : va_P G.1 vwCl ws H) (hD : va_D A ws) (hS : va_S A s.heap H locs) (q0 : Nat) (hq : ws[q0]? = some (oC b 8 fs)) (is : List Nat) (hC : is.map (fun i => ws[i]?) = wi.map some) (hnd : va_nd is = true) (ha : ∀ u, (wo u).map (·.1) = wi.map (·.1)) (hn : As.length = 2) (hsize : ls.size = nL) (hst : st0 = As.reverse ++ .ref b :: rest) (hrm : (rest.map fun v => v.category).sum ≤ 8) (hR : rm.frames + 1 ≤ R.frames ∧ 8 + (3 + 11) + rm.locals ≤ R.locals) (hf : cells + rm.cells ≤ R.cells ∧ slots + rm.slots ≤ R.slots) (hdg : decode cc pc = .ok (.invokevirtual 172, 3)) (kk : ∀ (u : S) (H1 : Heap) (locs1 : List Loc), φ u → va_P G.1 vwCl (ck_set ws is (wo u)) H1 → va_D A (ck_set ws is (wo u)) → va_S A s.heap H1 locs1 → W p l e R s m args below meth c H1 locs1 (cells + rm.cells) (slots + rm.slots) Q (F0 m (pc + 3) ls ((r u).toList ++ rest))) :
    W p l e R s m args below meth c H locs cells slots Q (F0 m pc ls st0) :=
  cq_V (T := TMo) (N := 30) ⟨hx, hb, hml, hown, hts⟩ hM ⟨callB_of 2 hts (ck_gd0 kcMo_makeKey) rfl rfl rfl (hts _ knMo) (hts _ kmMo_172) ⟨by decide, by decide, by decide +kernel⟩ hR, hts _ kiMo_makeKey, hts _ keMo_makeKey⟩ hG hA hP hD hS hq rfl is hC hnd ha hn hsize hst hrm hdg hf kk
theorem kcMo_encrypt : Cond.code yMo_encrypt cMo_encrypt 11 none ∈ ckT := ck_m4 (List.mem_of_getElem? (i := 83) rfl) rfl
theorem kiMo_encrypt : Cond.instanceMethod yMo_encrypt ∈ ckT := ck_m4 (List.mem_of_getElem? (i := 82) rfl) rfl
theorem keMo_encrypt : Cond.selects "CoverKeysModel" yMo_encrypt yMo_encrypt ∈ ckT := ck_ms (List.mem_of_getElem? (i := 22) rfl) rfl
theorem kmMo_120 : Cond.methodLink "CoverKeysModel" 120 yMo_encrypt ∈ ckT := ck_m4 (List.mem_of_getElem? (i := 80) rfl) rfl
theorem clMo_120 (hx : p.tables.exec = Jvm.exec) (hb : c.code = cc) (hml : c.maxLocals = nL) (hown : s.vm.findClass "CoverKeysModel" = some m.cls) (hts : ∀ w ∈ ckT, w.before args s = true) (hM : Cq l G yMo_encrypt cMo_encrypt 11 none rm (.ref b :: As) wi φ r wo) (hG : gk G A s s.heap) (hA : ∀ q : Nat, s.heap.size ≤ q → A q) (hP : va_P G.1 vwCl ws H) (hD : va_D A ws) (hS : va_S A s.heap H locs) (q0 : Nat) (hq : ws[q0]? = some (oC b 8 fs)) (is : List Nat) (hC : is.map (fun i => ws[i]?) = wi.map some) (hnd : va_nd is = true) (ha : ∀ u, (wo u).map (·.1) = wi.map (·.1)) (hn : As.length = 4) (hsize : ls.size = nL) (hst : st0 = As.reverse ++ .ref b :: rest) (hrm : (rest.map fun v => v.category).sum ≤ 8) (hR : rm.frames + 1 ≤ R.frames ∧ 8 + (11 + 11) + rm.locals ≤ R.locals) (hf : cells + rm.cells ≤ R.cells ∧ slots + rm.slots ≤ R.slots) (hdg : decode cc pc = .ok (.invokevirtual 120, 3)) (kk : ∀ (u : S) (H1 : Heap) (locs1 : List Loc), φ u → va_P G.1 vwCl (ck_set ws is (wo u)) H1 → va_D A (ck_set ws is (wo u)) → va_S A s.heap H1 locs1 → W p l e R s m args below meth c H1 locs1 (cells + rm.cells) (slots + rm.slots) Q (F0 m (pc + 3) ls ((r u).toList ++ rest))) :
    W p l e R s m args below meth c H locs cells slots Q (F0 m pc ls st0) :=
  cq_V (T := TMo) (N := 30) ⟨hx, hb, hml, hown, hts⟩ hM ⟨callB_of 4 hts (ck_gd0 kcMo_encrypt) rfl rfl rfl (hts _ knMo) (hts _ kmMo_120) ⟨by decide, by decide, by decide +kernel⟩ hR, hts _ kiMo_encrypt, hts _ keMo_encrypt⟩ hG hA hP hD hS hq rfl is hC hnd ha hn hsize hst hrm hdg hf kk
theorem kcMo_makeWords : Cond.code yMo_makeWords cMo_makeWords 9 none ∈ ckT := ck_m4 (List.mem_of_getElem? (i := 87) rfl) rfl
theorem kiMo_makeWords : Cond.instanceMethod yMo_makeWords ∈ ckT := ck_m4 (List.mem_of_getElem? (i := 86) rfl) rfl
theorem keMo_makeWords : Cond.selects "CoverKeysModel" yMo_makeWords yMo_makeWords ∈ ckT := ck_ms (List.mem_of_getElem? (i := 23) rfl) rfl
theorem kmMo_89 : Cond.methodLink "CoverKeysModel" 89 yMo_makeWords ∈ ckT := ck_m4 (List.mem_of_getElem? (i := 84) rfl) rfl
theorem clMo_89 (hx : p.tables.exec = Jvm.exec) (hb : c.code = cc) (hml : c.maxLocals = nL) (hown : s.vm.findClass "CoverKeysModel" = some m.cls) (hts : ∀ w ∈ ckT, w.before args s = true) (hM : Cq l G yMo_makeWords cMo_makeWords 9 none rm (.ref b :: As) wi φ r wo) (hG : gk G A s s.heap) (hA : ∀ q : Nat, s.heap.size ≤ q → A q) (hP : va_P G.1 vwCl ws H) (hD : va_D A ws) (hS : va_S A s.heap H locs) (q0 : Nat) (hq : ws[q0]? = some (oC b 8 fs)) (is : List Nat) (hC : is.map (fun i => ws[i]?) = wi.map some) (hnd : va_nd is = true) (ha : ∀ u, (wo u).map (·.1) = wi.map (·.1)) (hn : As.length = 2) (hsize : ls.size = nL) (hst : st0 = As.reverse ++ .ref b :: rest) (hrm : (rest.map fun v => v.category).sum ≤ 8) (hR : rm.frames + 1 ≤ R.frames ∧ 8 + (9 + 11) + rm.locals ≤ R.locals) (hf : cells + rm.cells ≤ R.cells ∧ slots + rm.slots ≤ R.slots) (hdg : decode cc pc = .ok (.invokevirtual 89, 3)) (kk : ∀ (u : S) (H1 : Heap) (locs1 : List Loc), φ u → va_P G.1 vwCl (ck_set ws is (wo u)) H1 → va_D A (ck_set ws is (wo u)) → va_S A s.heap H1 locs1 → W p l e R s m args below meth c H1 locs1 (cells + rm.cells) (slots + rm.slots) Q (F0 m (pc + 3) ls ((r u).toList ++ rest))) :
    W p l e R s m args below meth c H locs cells slots Q (F0 m pc ls st0) :=
  cq_V (T := TMo) (N := 30) ⟨hx, hb, hml, hown, hts⟩ hM ⟨callB_of 2 hts (ck_gd0 kcMo_makeWords) rfl rfl rfl (hts _ knMo) (hts _ kmMo_89) ⟨by decide, by decide, by decide +kernel⟩ hR, hts _ kiMo_makeWords, hts _ keMo_makeWords⟩ hG hA hP hD hS hq rfl is hC hnd ha hn hsize hst hrm hdg hf kk
theorem kcMo_load : Cond.code yMo_load cMo_load 6 none ∈ ckT := ck_m4 (List.mem_of_getElem? (i := 91) rfl) rfl
theorem kiMo_load : Cond.instanceMethod yMo_load ∈ ckT := ck_m4 (List.mem_of_getElem? (i := 90) rfl) rfl
theorem keMo_load : Cond.selects "CoverKeysModel" yMo_load yMo_load ∈ ckT := ck_ms (List.mem_of_getElem? (i := 24) rfl) rfl
theorem kmMo_93 : Cond.methodLink "CoverKeysModel" 93 yMo_load ∈ ckT := ck_m4 (List.mem_of_getElem? (i := 88) rfl) rfl
theorem clMo_93 (hx : p.tables.exec = Jvm.exec) (hb : c.code = cc) (hml : c.maxLocals = nL) (hown : s.vm.findClass "CoverKeysModel" = some m.cls) (hts : ∀ w ∈ ckT, w.before args s = true) (hM : Cq l G yMo_load cMo_load 6 none rm (.ref b :: As) wi φ r wo) (hG : gk G A s s.heap) (hA : ∀ q : Nat, s.heap.size ≤ q → A q) (hP : va_P G.1 vwCl ws H) (hD : va_D A ws) (hS : va_S A s.heap H locs) (q0 : Nat) (hq : ws[q0]? = some (oC b 8 fs)) (is : List Nat) (hC : is.map (fun i => ws[i]?) = wi.map some) (hnd : va_nd is = true) (ha : ∀ u, (wo u).map (·.1) = wi.map (·.1)) (hn : As.length = 2) (hsize : ls.size = nL) (hst : st0 = As.reverse ++ .ref b :: rest) (hrm : (rest.map fun v => v.category).sum ≤ 8) (hR : rm.frames + 1 ≤ R.frames ∧ 8 + (6 + 11) + rm.locals ≤ R.locals) (hf : cells + rm.cells ≤ R.cells ∧ slots + rm.slots ≤ R.slots) (hdg : decode cc pc = .ok (.invokevirtual 93, 3)) (kk : ∀ (u : S) (H1 : Heap) (locs1 : List Loc), φ u → va_P G.1 vwCl (ck_set ws is (wo u)) H1 → va_D A (ck_set ws is (wo u)) → va_S A s.heap H1 locs1 → W p l e R s m args below meth c H1 locs1 (cells + rm.cells) (slots + rm.slots) Q (F0 m (pc + 3) ls ((r u).toList ++ rest))) :
    W p l e R s m args below meth c H locs cells slots Q (F0 m pc ls st0) :=
  cq_V (T := TMo) (N := 30) ⟨hx, hb, hml, hown, hts⟩ hM ⟨callB_of 2 hts (ck_gd0 kcMo_load) rfl rfl rfl (hts _ knMo) (hts _ kmMo_93) ⟨by decide, by decide, by decide +kernel⟩ hR, hts _ kiMo_load, hts _ keMo_load⟩ hG hA hP hD hS hq rfl is hC hnd ha hn hsize hst hrm hdg hf kk
theorem kcMo_addWords : Cond.code yMo_addWords cMo_addWords 3 none ∈ ckT := ck_m4 (List.mem_of_getElem? (i := 95) rfl) rfl
theorem kiMo_addWords : Cond.instanceMethod yMo_addWords ∈ ckT := ck_m4 (List.mem_of_getElem? (i := 94) rfl) rfl
theorem keMo_addWords : Cond.selects "CoverKeysModel" yMo_addWords yMo_addWords ∈ ckT := ck_ms (List.mem_of_getElem? (i := 25) rfl) rfl
theorem kmMo_96 : Cond.methodLink "CoverKeysModel" 96 yMo_addWords ∈ ckT := ck_m4 (List.mem_of_getElem? (i := 92) rfl) rfl
theorem clMo_96 (hx : p.tables.exec = Jvm.exec) (hb : c.code = cc) (hml : c.maxLocals = nL) (hown : s.vm.findClass "CoverKeysModel" = some m.cls) (hts : ∀ w ∈ ckT, w.before args s = true) (hM : Cq l G yMo_addWords cMo_addWords 3 none rm (.ref b :: As) wi φ r wo) (hG : gk G A s s.heap) (hA : ∀ q : Nat, s.heap.size ≤ q → A q) (hP : va_P G.1 vwCl ws H) (hD : va_D A ws) (hS : va_S A s.heap H locs) (q0 : Nat) (hq : ws[q0]? = some (oC b 8 fs)) (is : List Nat) (hC : is.map (fun i => ws[i]?) = wi.map some) (hnd : va_nd is = true) (ha : ∀ u, (wo u).map (·.1) = wi.map (·.1)) (hn : As.length = 1) (hsize : ls.size = nL) (hst : st0 = As.reverse ++ .ref b :: rest) (hrm : (rest.map fun v => v.category).sum ≤ 8) (hR : rm.frames + 1 ≤ R.frames ∧ 8 + (3 + 11) + rm.locals ≤ R.locals) (hf : cells + rm.cells ≤ R.cells ∧ slots + rm.slots ≤ R.slots) (hdg : decode cc pc = .ok (.invokevirtual 96, 3)) (kk : ∀ (u : S) (H1 : Heap) (locs1 : List Loc), φ u → va_P G.1 vwCl (ck_set ws is (wo u)) H1 → va_D A (ck_set ws is (wo u)) → va_S A s.heap H1 locs1 → W p l e R s m args below meth c H1 locs1 (cells + rm.cells) (slots + rm.slots) Q (F0 m (pc + 3) ls ((r u).toList ++ rest))) :
    W p l e R s m args below meth c H locs cells slots Q (F0 m pc ls st0) :=
  cq_V (T := TMo) (N := 30) ⟨hx, hb, hml, hown, hts⟩ hM ⟨callB_of 1 hts (ck_gd0 kcMo_addWords) rfl rfl rfl (hts _ knMo) (hts _ kmMo_96) ⟨by decide, by decide, by decide +kernel⟩ hR, hts _ kiMo_addWords, hts _ keMo_addWords⟩ hG hA hP hD hS hq rfl is hC hnd ha hn hsize hst hrm hdg hf kk
theorem kcMo_turn : Cond.code yMo_turn cMo_turn 3 none ∈ ckT := ck_m4 (List.mem_of_getElem? (i := 99) rfl) rfl
theorem kiMo_turn : Cond.instanceMethod yMo_turn ∈ ckT := ck_m4 (List.mem_of_getElem? (i := 98) rfl) rfl
theorem keMo_turn : Cond.selects "CoverKeysModel" yMo_turn yMo_turn ∈ ckT := ck_ms (List.mem_of_getElem? (i := 26) rfl) rfl
theorem kmMo_100 : Cond.methodLink "CoverKeysModel" 100 yMo_turn ∈ ckT := ck_m4 (List.mem_of_getElem? (i := 96) rfl) rfl
theorem clMo_100 (hx : p.tables.exec = Jvm.exec) (hb : c.code = cc) (hml : c.maxLocals = nL) (hown : s.vm.findClass "CoverKeysModel" = some m.cls) (hts : ∀ w ∈ ckT, w.before args s = true) (hM : Cq l G yMo_turn cMo_turn 3 none rm (.ref b :: As) wi φ r wo) (hG : gk G A s s.heap) (hA : ∀ q : Nat, s.heap.size ≤ q → A q) (hP : va_P G.1 vwCl ws H) (hD : va_D A ws) (hS : va_S A s.heap H locs) (q0 : Nat) (hq : ws[q0]? = some (oC b 8 fs)) (is : List Nat) (hC : is.map (fun i => ws[i]?) = wi.map some) (hnd : va_nd is = true) (ha : ∀ u, (wo u).map (·.1) = wi.map (·.1)) (hn : As.length = 1) (hsize : ls.size = nL) (hst : st0 = As.reverse ++ .ref b :: rest) (hrm : (rest.map fun v => v.category).sum ≤ 8) (hR : rm.frames + 1 ≤ R.frames ∧ 8 + (3 + 11) + rm.locals ≤ R.locals) (hf : cells + rm.cells ≤ R.cells ∧ slots + rm.slots ≤ R.slots) (hdg : decode cc pc = .ok (.invokevirtual 100, 3)) (kk : ∀ (u : S) (H1 : Heap) (locs1 : List Loc), φ u → va_P G.1 vwCl (ck_set ws is (wo u)) H1 → va_D A (ck_set ws is (wo u)) → va_S A s.heap H1 locs1 → W p l e R s m args below meth c H1 locs1 (cells + rm.cells) (slots + rm.slots) Q (F0 m (pc + 3) ls ((r u).toList ++ rest))) :
    W p l e R s m args below meth c H locs cells slots Q (F0 m pc ls st0) :=
  cq_V (T := TMo) (N := 30) ⟨hx, hb, hml, hown, hts⟩ hM ⟨callB_of 1 hts (ck_gd0 kcMo_turn) rfl rfl rfl (hts _ knMo) (hts _ kmMo_100) ⟨by decide, by decide, by decide +kernel⟩ hR, hts _ kiMo_turn, hts _ keMo_turn⟩ hG hA hP hD hS hq rfl is hC hnd ha hn hsize hst hrm hdg hf kk
theorem kcMo_mix : Cond.code yMo_mix cMo_mix 7 none ∈ ckT := ck_m4 (List.mem_of_getElem? (i := 103) rfl) rfl
theorem kiMo_mix : Cond.instanceMethod yMo_mix ∈ ckT := ck_m4 (List.mem_of_getElem? (i := 102) rfl) rfl
theorem keMo_mix : Cond.selects "CoverKeysModel" yMo_mix yMo_mix ∈ ckT := ck_ms (List.mem_of_getElem? (i := 27) rfl) rfl
theorem kmMo_103 : Cond.methodLink "CoverKeysModel" 103 yMo_mix ∈ ckT := ck_m4 (List.mem_of_getElem? (i := 100) rfl) rfl
theorem clMo_103 (hx : p.tables.exec = Jvm.exec) (hb : c.code = cc) (hml : c.maxLocals = nL) (hown : s.vm.findClass "CoverKeysModel" = some m.cls) (hts : ∀ w ∈ ckT, w.before args s = true) (hM : Cq l G yMo_mix cMo_mix 7 none rm (.ref b :: As) wi φ r wo) (hG : gk G A s s.heap) (hA : ∀ q : Nat, s.heap.size ≤ q → A q) (hP : va_P G.1 vwCl ws H) (hD : va_D A ws) (hS : va_S A s.heap H locs) (q0 : Nat) (hq : ws[q0]? = some (oC b 8 fs)) (is : List Nat) (hC : is.map (fun i => ws[i]?) = wi.map some) (hnd : va_nd is = true) (ha : ∀ u, (wo u).map (·.1) = wi.map (·.1)) (hn : As.length = 0) (hsize : ls.size = nL) (hst : st0 = As.reverse ++ .ref b :: rest) (hrm : (rest.map fun v => v.category).sum ≤ 8) (hR : rm.frames + 1 ≤ R.frames ∧ 8 + (7 + 11) + rm.locals ≤ R.locals) (hf : cells + rm.cells ≤ R.cells ∧ slots + rm.slots ≤ R.slots) (hdg : decode cc pc = .ok (.invokevirtual 103, 3)) (kk : ∀ (u : S) (H1 : Heap) (locs1 : List Loc), φ u → va_P G.1 vwCl (ck_set ws is (wo u)) H1 → va_D A (ck_set ws is (wo u)) → va_S A s.heap H1 locs1 → W p l e R s m args below meth c H1 locs1 (cells + rm.cells) (slots + rm.slots) Q (F0 m (pc + 3) ls ((r u).toList ++ rest))) :
    W p l e R s m args below meth c H locs cells slots Q (F0 m pc ls st0) :=
  cq_V (T := TMo) (N := 30) ⟨hx, hb, hml, hown, hts⟩ hM ⟨callB_of 0 hts (ck_gd0 kcMo_mix) rfl rfl rfl (hts _ knMo) (hts _ kmMo_103) ⟨by decide, by decide, by decide +kernel⟩ hR, hts _ kiMo_mix, hts _ keMo_mix⟩ hG hA hP hD hS hq rfl is hC hnd ha hn hsize hst hrm hdg hf kk
theorem kcMo_store : Cond.code yMo_store cMo_store 2 none ∈ ckT := ck_m4 (List.mem_of_getElem? (i := 107) rfl) rfl
theorem kiMo_store : Cond.instanceMethod yMo_store ∈ ckT := ck_m4 (List.mem_of_getElem? (i := 106) rfl) rfl
theorem keMo_store : Cond.selects "CoverKeysModel" yMo_store yMo_store ∈ ckT := ck_ms (List.mem_of_getElem? (i := 28) rfl) rfl
theorem kmMo_106 : Cond.methodLink "CoverKeysModel" 106 yMo_store ∈ ckT := ck_m4 (List.mem_of_getElem? (i := 104) rfl) rfl
theorem clMo_106 (hx : p.tables.exec = Jvm.exec) (hb : c.code = cc) (hml : c.maxLocals = nL) (hown : s.vm.findClass "CoverKeysModel" = some m.cls) (hts : ∀ w ∈ ckT, w.before args s = true) (hM : Cq l G yMo_store cMo_store 2 none rm (.ref b :: As) wi φ r wo) (hG : gk G A s s.heap) (hA : ∀ q : Nat, s.heap.size ≤ q → A q) (hP : va_P G.1 vwCl ws H) (hD : va_D A ws) (hS : va_S A s.heap H locs) (q0 : Nat) (hq : ws[q0]? = some (oC b 8 fs)) (is : List Nat) (hC : is.map (fun i => ws[i]?) = wi.map some) (hnd : va_nd is = true) (ha : ∀ u, (wo u).map (·.1) = wi.map (·.1)) (hn : As.length = 0) (hsize : ls.size = nL) (hst : st0 = As.reverse ++ .ref b :: rest) (hrm : (rest.map fun v => v.category).sum ≤ 8) (hR : rm.frames + 1 ≤ R.frames ∧ 8 + (2 + 11) + rm.locals ≤ R.locals) (hf : cells + rm.cells ≤ R.cells ∧ slots + rm.slots ≤ R.slots) (hdg : decode cc pc = .ok (.invokevirtual 106, 3)) (kk : ∀ (u : S) (H1 : Heap) (locs1 : List Loc), φ u → va_P G.1 vwCl (ck_set ws is (wo u)) H1 → va_D A (ck_set ws is (wo u)) → va_S A s.heap H1 locs1 → W p l e R s m args below meth c H1 locs1 (cells + rm.cells) (slots + rm.slots) Q (F0 m (pc + 3) ls ((r u).toList ++ rest))) :
    W p l e R s m args below meth c H locs cells slots Q (F0 m pc ls st0) :=
  cq_V (T := TMo) (N := 30) ⟨hx, hb, hml, hown, hts⟩ hM ⟨callB_of 0 hts (ck_gd0 kcMo_store) rfl rfl rfl (hts _ knMo) (hts _ kmMo_106) ⟨by decide, by decide, by decide +kernel⟩ hR, hts _ kiMo_store, hts _ keMo_store⟩ hG hA hP hD hS hq rfl is hC hnd ha hn hsize hst hrm hdg hf kk
theorem kcMo_makeLabel : Cond.code yMo_makeLabel cMo_makeLabel 5 none ∈ ckT := ck_m4 (List.mem_of_getElem? (i := 111) rfl) rfl
theorem kiMo_makeLabel : Cond.instanceMethod yMo_makeLabel ∈ ckT := ck_m4 (List.mem_of_getElem? (i := 110) rfl) rfl
theorem keMo_makeLabel : Cond.selects "CoverKeysModel" yMo_makeLabel yMo_makeLabel ∈ ckT := ck_ms (List.mem_of_getElem? (i := 29) rfl) rfl
theorem kmMo_152 : Cond.methodLink "CoverKeysModel" 152 yMo_makeLabel ∈ ckT := ck_m4 (List.mem_of_getElem? (i := 108) rfl) rfl
theorem clMo_152 (hx : p.tables.exec = Jvm.exec) (hb : c.code = cc) (hml : c.maxLocals = nL) (hown : s.vm.findClass "CoverKeysModel" = some m.cls) (hts : ∀ w ∈ ckT, w.before args s = true) (hM : Cq l G yMo_makeLabel cMo_makeLabel 5 none rm (.ref b :: As) wi φ r wo) (hG : gk G A s s.heap) (hA : ∀ q : Nat, s.heap.size ≤ q → A q) (hP : va_P G.1 vwCl ws H) (hD : va_D A ws) (hS : va_S A s.heap H locs) (q0 : Nat) (hq : ws[q0]? = some (oC b 8 fs)) (is : List Nat) (hC : is.map (fun i => ws[i]?) = wi.map some) (hnd : va_nd is = true) (ha : ∀ u, (wo u).map (·.1) = wi.map (·.1)) (hn : As.length = 2) (hsize : ls.size = nL) (hst : st0 = As.reverse ++ .ref b :: rest) (hrm : (rest.map fun v => v.category).sum ≤ 8) (hR : rm.frames + 1 ≤ R.frames ∧ 8 + (5 + 11) + rm.locals ≤ R.locals) (hf : cells + rm.cells ≤ R.cells ∧ slots + rm.slots ≤ R.slots) (hdg : decode cc pc = .ok (.invokevirtual 152, 3)) (kk : ∀ (u : S) (H1 : Heap) (locs1 : List Loc), φ u → va_P G.1 vwCl (ck_set ws is (wo u)) H1 → va_D A (ck_set ws is (wo u)) → va_S A s.heap H1 locs1 → W p l e R s m args below meth c H1 locs1 (cells + rm.cells) (slots + rm.slots) Q (F0 m (pc + 3) ls ((r u).toList ++ rest))) :
    W p l e R s m args below meth c H locs cells slots Q (F0 m pc ls st0) :=
  cq_V (T := TMo) (N := 30) ⟨hx, hb, hml, hown, hts⟩ hM ⟨callB_of 2 hts (ck_gd0 kcMo_makeLabel) rfl rfl rfl (hts _ knMo) (hts _ kmMo_152) ⟨by decide, by decide, by decide +kernel⟩ hR, hts _ kiMo_makeLabel, hts _ keMo_makeLabel⟩ hG hA hP hD hS hq rfl is hC hnd ha hn hsize hst hrm hdg hf kk
theorem kcMo_wrap : Cond.code yMo_wrap cMo_wrap 10 none ∈ ckT := ck_m4 (List.mem_of_getElem? (i := 117) rfl) rfl
theorem kiMo_wrap : Cond.instanceMethod yMo_wrap ∈ ckT := ck_m4 (List.mem_of_getElem? (i := 116) rfl) rfl
theorem keMo_wrap : Cond.selects "CoverKeysModel" yMo_wrap yMo_wrap ∈ ckT := ck_ms (List.mem_of_getElem? (i := 30) rfl) rfl
theorem kmMo_175 : Cond.methodLink "CoverKeysModel" 175 yMo_wrap ∈ ckT := ck_m4 (List.mem_of_getElem? (i := 114) rfl) rfl
theorem clMo_175 (hx : p.tables.exec = Jvm.exec) (hb : c.code = cc) (hml : c.maxLocals = nL) (hown : s.vm.findClass "CoverKeysModel" = some m.cls) (hts : ∀ w ∈ ckT, w.before args s = true) (hM : Cq l G yMo_wrap cMo_wrap 10 none rm (.ref b :: As) wi φ r wo) (hG : gk G A s s.heap) (hA : ∀ q : Nat, s.heap.size ≤ q → A q) (hP : va_P G.1 vwCl ws H) (hD : va_D A ws) (hS : va_S A s.heap H locs) (q0 : Nat) (hq : ws[q0]? = some (oC b 8 fs)) (is : List Nat) (hC : is.map (fun i => ws[i]?) = wi.map some) (hnd : va_nd is = true) (ha : ∀ u, (wo u).map (·.1) = wi.map (·.1)) (hn : As.length = 4) (hsize : ls.size = nL) (hst : st0 = As.reverse ++ .ref b :: rest) (hrm : (rest.map fun v => v.category).sum ≤ 8) (hR : rm.frames + 1 ≤ R.frames ∧ 8 + (10 + 11) + rm.locals ≤ R.locals) (hf : cells + rm.cells ≤ R.cells ∧ slots + rm.slots ≤ R.slots) (hdg : decode cc pc = .ok (.invokevirtual 175, 3)) (kk : ∀ (u : S) (H1 : Heap) (locs1 : List Loc), φ u → va_P G.1 vwCl (ck_set ws is (wo u)) H1 → va_D A (ck_set ws is (wo u)) → va_S A s.heap H1 locs1 → W p l e R s m args below meth c H1 locs1 (cells + rm.cells) (slots + rm.slots) Q (F0 m (pc + 3) ls ((r u).toList ++ rest))) :
    W p l e R s m args below meth c H locs cells slots Q (F0 m pc ls st0) :=
  cq_V (T := TMo) (N := 30) ⟨hx, hb, hml, hown, hts⟩ hM ⟨callB_of 4 hts (ck_gd0 kcMo_wrap) rfl rfl rfl (hts _ knMo) (hts _ kmMo_175) ⟨by decide, by decide, by decide +kernel⟩ hR, hts _ kiMo_wrap, hts _ keMo_wrap⟩ hG hA hP hD hS hq rfl is hC hnd ha hn hsize hst hrm hdg hf kk
theorem kcMo_airNumber : Cond.code yMo_airNumber cMo_airNumber 6 (some .long) ∈ ckT := ck_m4 (List.mem_of_getElem? (i := 134) rfl) rfl
theorem kiMo_airNumber : Cond.instanceMethod yMo_airNumber ∈ ckT := ck_m4 (List.mem_of_getElem? (i := 133) rfl) rfl
theorem keMo_airNumber : Cond.selects "CoverKeysModel" yMo_airNumber yMo_airNumber ∈ ckT := ck_ms (List.mem_of_getElem? (i := 31) rfl) rfl
theorem kmMo_178 : Cond.methodLink "CoverKeysModel" 178 yMo_airNumber ∈ ckT := ck_m4 (List.mem_of_getElem? (i := 131) rfl) rfl
theorem clMo_178 (hx : p.tables.exec = Jvm.exec) (hb : c.code = cc) (hml : c.maxLocals = nL) (hown : s.vm.findClass "CoverKeysModel" = some m.cls) (hts : ∀ w ∈ ckT, w.before args s = true) (hM : Cq l G yMo_airNumber cMo_airNumber 6 (some .long) rm (.ref b :: As) wi φ r wo) (hG : gk G A s s.heap) (hA : ∀ q : Nat, s.heap.size ≤ q → A q) (hP : va_P G.1 vwCl ws H) (hD : va_D A ws) (hS : va_S A s.heap H locs) (q0 : Nat) (hq : ws[q0]? = some (oC b 8 fs)) (is : List Nat) (hC : is.map (fun i => ws[i]?) = wi.map some) (hnd : va_nd is = true) (ha : ∀ u, (wo u).map (·.1) = wi.map (·.1)) (hn : As.length = 2) (hsize : ls.size = nL) (hst : st0 = As.reverse ++ .ref b :: rest) (hrm : (rest.map fun v => v.category).sum ≤ 8) (hR : rm.frames + 1 ≤ R.frames ∧ 8 + (6 + 11) + rm.locals ≤ R.locals) (hf : cells + rm.cells ≤ R.cells ∧ slots + rm.slots ≤ R.slots) (hdg : decode cc pc = .ok (.invokevirtual 178, 3)) (kk : ∀ (u : S) (H1 : Heap) (locs1 : List Loc), φ u → va_P G.1 vwCl (ck_set ws is (wo u)) H1 → va_D A (ck_set ws is (wo u)) → va_S A s.heap H1 locs1 → W p l e R s m args below meth c H1 locs1 (cells + rm.cells) (slots + rm.slots) Q (F0 m (pc + 3) ls ((r u).toList ++ rest))) :
    W p l e R s m args below meth c H locs cells slots Q (F0 m pc ls st0) :=
  cq_V (T := TMo) (N := 30) ⟨hx, hb, hml, hown, hts⟩ hM ⟨callB_of 2 hts (ck_gd0 kcMo_airNumber) rfl rfl rfl (hts _ knMo) (hts _ kmMo_178) ⟨by decide, by decide, by decide +kernel⟩ hR, hts _ kiMo_airNumber, hts _ keMo_airNumber⟩ hG hA hP hD hS hq rfl is hC hnd ha hn hsize hst hrm hdg hf kk
theorem kcMo_isSubset : Cond.code yMo_isSubset cMo_isSubset 3 (some .boolean) ∈ ckT := ck_m4 (List.mem_of_getElem? (i := 138) rfl) rfl
theorem kiMo_isSubset : Cond.instanceMethod yMo_isSubset ∈ ckT := ck_m4 (List.mem_of_getElem? (i := 137) rfl) rfl
theorem keMo_isSubset : Cond.selects "CoverKeysModel" yMo_isSubset yMo_isSubset ∈ ckT := ck_ms (List.mem_of_getElem? (i := 32) rfl) rfl
theorem kmMo_182 : Cond.methodLink "CoverKeysModel" 182 yMo_isSubset ∈ ckT := ck_m4 (List.mem_of_getElem? (i := 135) rfl) rfl
theorem clMo_182 (hx : p.tables.exec = Jvm.exec) (hb : c.code = cc) (hml : c.maxLocals = nL) (hown : s.vm.findClass "CoverKeysModel" = some m.cls) (hts : ∀ w ∈ ckT, w.before args s = true) (hM : Cq l G yMo_isSubset cMo_isSubset 3 (some .boolean) rm (.ref b :: As) wi φ r wo) (hG : gk G A s s.heap) (hA : ∀ q : Nat, s.heap.size ≤ q → A q) (hP : va_P G.1 vwCl ws H) (hD : va_D A ws) (hS : va_S A s.heap H locs) (q0 : Nat) (hq : ws[q0]? = some (oC b 8 fs)) (is : List Nat) (hC : is.map (fun i => ws[i]?) = wi.map some) (hnd : va_nd is = true) (ha : ∀ u, (wo u).map (·.1) = wi.map (·.1)) (hn : As.length = 2) (hsize : ls.size = nL) (hst : st0 = As.reverse ++ .ref b :: rest) (hrm : (rest.map fun v => v.category).sum ≤ 8) (hR : rm.frames + 1 ≤ R.frames ∧ 8 + (3 + 11) + rm.locals ≤ R.locals) (hf : cells + rm.cells ≤ R.cells ∧ slots + rm.slots ≤ R.slots) (hdg : decode cc pc = .ok (.invokevirtual 182, 3)) (kk : ∀ (u : S) (H1 : Heap) (locs1 : List Loc), φ u → va_P G.1 vwCl (ck_set ws is (wo u)) H1 → va_D A (ck_set ws is (wo u)) → va_S A s.heap H1 locs1 → W p l e R s m args below meth c H1 locs1 (cells + rm.cells) (slots + rm.slots) Q (F0 m (pc + 3) ls ((r u).toList ++ rest))) :
    W p l e R s m args below meth c H locs cells slots Q (F0 m pc ls st0) :=
  cq_V (T := TMo) (N := 30) ⟨hx, hb, hml, hown, hts⟩ hM ⟨callB_of 2 hts (ck_gd0 kcMo_isSubset) rfl rfl rfl (hts _ knMo) (hts _ kmMo_182) ⟨by decide, by decide, by decide +kernel⟩ hR, hts _ kiMo_isSubset, hts _ keMo_isSubset⟩ hG hA hP hD hS hq rfl is hC hnd ha hn hsize hst hrm hdg hf kk
theorem kcMo_isAbove : Cond.code yMo_isAbove cMo_isAbove 3 (some .boolean) ∈ ckT := ck_m4 (List.mem_of_getElem? (i := 141) rfl) rfl
theorem ksMo_isAbove : Cond.static yMo_isAbove ∈ ckT := ck_m4 (List.mem_of_getElem? (i := 140) rfl) rfl
theorem kmMo_143 : Cond.methodLink "CoverKeysModel" 143 yMo_isAbove ∈ ckT := ck_m4 (List.mem_of_getElem? (i := 139) rfl) rfl
theorem clMo_143 (hx : p.tables.exec = Jvm.exec) (hb : c.code = cc) (hml : c.maxLocals = nL) (hown : s.vm.findClass "CoverKeysModel" = some m.cls) (hts : ∀ w ∈ ckT, w.before args s = true) (hM : Cq l G yMo_isAbove cMo_isAbove 3 (some .boolean) rm As wi φ r wo) (hG : gk G A s s.heap) (hA : ∀ q : Nat, s.heap.size ≤ q → A q) (hP : va_P G.1 vwCl ws H) (hD : va_D A ws) (hS : va_S A s.heap H locs) (is : List Nat) (hC : is.map (fun i => ws[i]?) = wi.map some) (hnd : va_nd is = true) (ha : ∀ u, (wo u).map (·.1) = wi.map (·.1)) (hn : As.length = 2) (hsize : ls.size = nL) (hst : st0 = As.reverse ++ rest) (hrm : (rest.map fun v => v.category).sum ≤ 8) (hR : rm.frames + 1 ≤ R.frames ∧ 8 + (3 + 11) + rm.locals ≤ R.locals) (hf : cells + rm.cells ≤ R.cells ∧ slots + rm.slots ≤ R.slots) (hdg : decode cc pc = .ok (.invokestatic 143, 3)) (kk : ∀ (u : S) (H1 : Heap) (locs1 : List Loc), φ u → va_P G.1 vwCl (ck_set ws is (wo u)) H1 → va_D A (ck_set ws is (wo u)) → va_S A s.heap H1 locs1 → W p l e R s m args below meth c H1 locs1 (cells + rm.cells) (slots + rm.slots) Q (F0 m (pc + 3) ls ((r u).toList ++ rest))) :
    W p l e R s m args below meth c H locs cells slots Q (F0 m pc ls st0) :=
  cq_S ⟨hx, hb, hml, hown, hts⟩ hM ⟨callB_of 2 hts (ck_gd0 kcMo_isAbove) rfl rfl rfl (hts _ knMo) (hts _ kmMo_143) ⟨by decide, by decide, by decide +kernel⟩ hR, hts _ ksMo_isAbove⟩ hG hA hP hD hS is hC hnd ha hn hsize hst hrm hdg hf kk
theorem kcMo_hasLeaf : Cond.code yMo_hasLeaf cMo_hasLeaf 4 (some .boolean) ∈ ckT := ck_m4 (List.mem_of_getElem? (i := 145) rfl) rfl
theorem kiMo_hasLeaf : Cond.instanceMethod yMo_hasLeaf ∈ ckT := ck_m4 (List.mem_of_getElem? (i := 144) rfl) rfl
theorem keMo_hasLeaf : Cond.selects "CoverKeysModel" yMo_hasLeaf yMo_hasLeaf ∈ ckT := ck_ms (List.mem_of_getElem? (i := 33) rfl) rfl
theorem kmMo_185 : Cond.methodLink "CoverKeysModel" 185 yMo_hasLeaf ∈ ckT := ck_m4 (List.mem_of_getElem? (i := 142) rfl) rfl
theorem clMo_185 (hx : p.tables.exec = Jvm.exec) (hb : c.code = cc) (hml : c.maxLocals = nL) (hown : s.vm.findClass "CoverKeysModel" = some m.cls) (hts : ∀ w ∈ ckT, w.before args s = true) (hM : Cq l G yMo_hasLeaf cMo_hasLeaf 4 (some .boolean) rm (.ref b :: As) wi φ r wo) (hG : gk G A s s.heap) (hA : ∀ q : Nat, s.heap.size ≤ q → A q) (hP : va_P G.1 vwCl ws H) (hD : va_D A ws) (hS : va_S A s.heap H locs) (q0 : Nat) (hq : ws[q0]? = some (oC b 8 fs)) (is : List Nat) (hC : is.map (fun i => ws[i]?) = wi.map some) (hnd : va_nd is = true) (ha : ∀ u, (wo u).map (·.1) = wi.map (·.1)) (hn : As.length = 3) (hsize : ls.size = nL) (hst : st0 = As.reverse ++ .ref b :: rest) (hrm : (rest.map fun v => v.category).sum ≤ 8) (hR : rm.frames + 1 ≤ R.frames ∧ 8 + (4 + 11) + rm.locals ≤ R.locals) (hf : cells + rm.cells ≤ R.cells ∧ slots + rm.slots ≤ R.slots) (hdg : decode cc pc = .ok (.invokevirtual 185, 3)) (kk : ∀ (u : S) (H1 : Heap) (locs1 : List Loc), φ u → va_P G.1 vwCl (ck_set ws is (wo u)) H1 → va_D A (ck_set ws is (wo u)) → va_S A s.heap H1 locs1 → W p l e R s m args below meth c H1 locs1 (cells + rm.cells) (slots + rm.slots) Q (F0 m (pc + 3) ls ((r u).toList ++ rest))) :
    W p l e R s m args below meth c H locs cells slots Q (F0 m pc ls st0) :=
  cq_V (T := TMo) (N := 30) ⟨hx, hb, hml, hown, hts⟩ hM ⟨callB_of 3 hts (ck_gd0 kcMo_hasLeaf) rfl rfl rfl (hts _ knMo) (hts _ kmMo_185) ⟨by decide, by decide, by decide +kernel⟩ hR, hts _ kiMo_hasLeaf, hts _ keMo_hasLeaf⟩ hG hA hP hD hS hq rfl is hC hnd ha hn hsize hst hrm hdg hf kk
theorem kcMo_leafOf : Cond.code yMo_leafOf cMo_leafOf 2 (some .int) ∈ ckT := ck_m4 (List.mem_of_getElem? (i := 149) rfl) rfl
theorem kiMo_leafOf : Cond.instanceMethod yMo_leafOf ∈ ckT := ck_m4 (List.mem_of_getElem? (i := 148) rfl) rfl
theorem keMo_leafOf : Cond.selects "CoverKeysModel" yMo_leafOf yMo_leafOf ∈ ckT := ck_ms (List.mem_of_getElem? (i := 34) rfl) rfl
theorem kmMo_147 : Cond.methodLink "CoverKeysModel" 147 yMo_leafOf ∈ ckT := ck_m4 (List.mem_of_getElem? (i := 146) rfl) rfl
theorem clMo_147 (hx : p.tables.exec = Jvm.exec) (hb : c.code = cc) (hml : c.maxLocals = nL) (hown : s.vm.findClass "CoverKeysModel" = some m.cls) (hts : ∀ w ∈ ckT, w.before args s = true) (hM : Cq l G yMo_leafOf cMo_leafOf 2 (some .int) rm (.ref b :: As) wi φ r wo) (hG : gk G A s s.heap) (hA : ∀ q : Nat, s.heap.size ≤ q → A q) (hP : va_P G.1 vwCl ws H) (hD : va_D A ws) (hS : va_S A s.heap H locs) (q0 : Nat) (hq : ws[q0]? = some (oC b 8 fs)) (is : List Nat) (hC : is.map (fun i => ws[i]?) = wi.map some) (hnd : va_nd is = true) (ha : ∀ u, (wo u).map (·.1) = wi.map (·.1)) (hn : As.length = 1) (hsize : ls.size = nL) (hst : st0 = As.reverse ++ .ref b :: rest) (hrm : (rest.map fun v => v.category).sum ≤ 8) (hR : rm.frames + 1 ≤ R.frames ∧ 8 + (2 + 11) + rm.locals ≤ R.locals) (hf : cells + rm.cells ≤ R.cells ∧ slots + rm.slots ≤ R.slots) (hdg : decode cc pc = .ok (.invokevirtual 147, 3)) (kk : ∀ (u : S) (H1 : Heap) (locs1 : List Loc), φ u → va_P G.1 vwCl (ck_set ws is (wo u)) H1 → va_D A (ck_set ws is (wo u)) → va_S A s.heap H1 locs1 → W p l e R s m args below meth c H1 locs1 (cells + rm.cells) (slots + rm.slots) Q (F0 m (pc + 3) ls ((r u).toList ++ rest))) :
    W p l e R s m args below meth c H locs cells slots Q (F0 m pc ls st0) :=
  cq_V (T := TMo) (N := 30) ⟨hx, hb, hml, hown, hts⟩ hM ⟨callB_of 1 hts (ck_gd0 kcMo_leafOf) rfl rfl rfl (hts _ knMo) (hts _ kmMo_147) ⟨by decide, by decide, by decide +kernel⟩ hR, hts _ kiMo_leafOf, hts _ keMo_leafOf⟩ hG hA hP hD hS hq rfl is hC hnd ha hn hsize hst hrm hdg hf kk
theorem kcMo_unwrap : Cond.code yMo_unwrap cMo_unwrap 6 (some .boolean) ∈ ckT := ck_m4 (List.mem_of_getElem? (i := 153) rfl) rfl
theorem kiMo_unwrap : Cond.instanceMethod yMo_unwrap ∈ ckT := ck_m4 (List.mem_of_getElem? (i := 152) rfl) rfl
theorem keMo_unwrap : Cond.selects "CoverKeysModel" yMo_unwrap yMo_unwrap ∈ ckT := ck_ms (List.mem_of_getElem? (i := 35) rfl) rfl
theorem kmMo_189 : Cond.methodLink "CoverKeysModel" 189 yMo_unwrap ∈ ckT := ck_m4 (List.mem_of_getElem? (i := 150) rfl) rfl
theorem clMo_189 (hx : p.tables.exec = Jvm.exec) (hb : c.code = cc) (hml : c.maxLocals = nL) (hown : s.vm.findClass "CoverKeysModel" = some m.cls) (hts : ∀ w ∈ ckT, w.before args s = true) (hM : Cq l G yMo_unwrap cMo_unwrap 6 (some .boolean) rm (.ref b :: As) wi φ r wo) (hG : gk G A s s.heap) (hA : ∀ q : Nat, s.heap.size ≤ q → A q) (hP : va_P G.1 vwCl ws H) (hD : va_D A ws) (hS : va_S A s.heap H locs) (q0 : Nat) (hq : ws[q0]? = some (oC b 8 fs)) (is : List Nat) (hC : is.map (fun i => ws[i]?) = wi.map some) (hnd : va_nd is = true) (ha : ∀ u, (wo u).map (·.1) = wi.map (·.1)) (hn : As.length = 2) (hsize : ls.size = nL) (hst : st0 = As.reverse ++ .ref b :: rest) (hrm : (rest.map fun v => v.category).sum ≤ 8) (hR : rm.frames + 1 ≤ R.frames ∧ 8 + (6 + 11) + rm.locals ≤ R.locals) (hf : cells + rm.cells ≤ R.cells ∧ slots + rm.slots ≤ R.slots) (hdg : decode cc pc = .ok (.invokevirtual 189, 3)) (kk : ∀ (u : S) (H1 : Heap) (locs1 : List Loc), φ u → va_P G.1 vwCl (ck_set ws is (wo u)) H1 → va_D A (ck_set ws is (wo u)) → va_S A s.heap H1 locs1 → W p l e R s m args below meth c H1 locs1 (cells + rm.cells) (slots + rm.slots) Q (F0 m (pc + 3) ls ((r u).toList ++ rest))) :
    W p l e R s m args below meth c H locs cells slots Q (F0 m pc ls st0) :=
  cq_V (T := TMo) (N := 30) ⟨hx, hb, hml, hown, hts⟩ hM ⟨callB_of 2 hts (ck_gd0 kcMo_unwrap) rfl rfl rfl (hts _ knMo) (hts _ kmMo_189) ⟨by decide, by decide, by decide +kernel⟩ hR, hts _ kiMo_unwrap, hts _ keMo_unwrap⟩ hG hA hP hD hS hq rfl is hC hnd ha hn hsize hst hrm hdg hf kk
theorem kcMo_decrypt : Cond.code yMo_decrypt cMo_decrypt 11 none ∈ ckT := ck_m4 (List.mem_of_getElem? (i := 157) rfl) rfl
theorem kiMo_decrypt : Cond.instanceMethod yMo_decrypt ∈ ckT := ck_m4 (List.mem_of_getElem? (i := 156) rfl) rfl
theorem keMo_decrypt : Cond.selects "CoverKeysModel" yMo_decrypt yMo_decrypt ∈ ckT := ck_ms (List.mem_of_getElem? (i := 36) rfl) rfl
theorem kmMo_124 : Cond.methodLink "CoverKeysModel" 124 yMo_decrypt ∈ ckT := ck_m4 (List.mem_of_getElem? (i := 154) rfl) rfl
theorem clMo_124 (hx : p.tables.exec = Jvm.exec) (hb : c.code = cc) (hml : c.maxLocals = nL) (hown : s.vm.findClass "CoverKeysModel" = some m.cls) (hts : ∀ w ∈ ckT, w.before args s = true) (hM : Cq l G yMo_decrypt cMo_decrypt 11 none rm (.ref b :: As) wi φ r wo) (hG : gk G A s s.heap) (hA : ∀ q : Nat, s.heap.size ≤ q → A q) (hP : va_P G.1 vwCl ws H) (hD : va_D A ws) (hS : va_S A s.heap H locs) (q0 : Nat) (hq : ws[q0]? = some (oC b 8 fs)) (is : List Nat) (hC : is.map (fun i => ws[i]?) = wi.map some) (hnd : va_nd is = true) (ha : ∀ u, (wo u).map (·.1) = wi.map (·.1)) (hn : As.length = 4) (hsize : ls.size = nL) (hst : st0 = As.reverse ++ .ref b :: rest) (hrm : (rest.map fun v => v.category).sum ≤ 8) (hR : rm.frames + 1 ≤ R.frames ∧ 8 + (11 + 11) + rm.locals ≤ R.locals) (hf : cells + rm.cells ≤ R.cells ∧ slots + rm.slots ≤ R.slots) (hdg : decode cc pc = .ok (.invokevirtual 124, 3)) (kk : ∀ (u : S) (H1 : Heap) (locs1 : List Loc), φ u → va_P G.1 vwCl (ck_set ws is (wo u)) H1 → va_D A (ck_set ws is (wo u)) → va_S A s.heap H1 locs1 → W p l e R s m args below meth c H1 locs1 (cells + rm.cells) (slots + rm.slots) Q (F0 m (pc + 3) ls ((r u).toList ++ rest))) :
    W p l e R s m args below meth c H locs cells slots Q (F0 m pc ls st0) :=
  cq_V (T := TMo) (N := 30) ⟨hx, hb, hml, hown, hts⟩ hM ⟨callB_of 4 hts (ck_gd0 kcMo_decrypt) rfl rfl rfl (hts _ knMo) (hts _ kmMo_124) ⟨by decide, by decide, by decide +kernel⟩ hR, hts _ kiMo_decrypt, hts _ keMo_decrypt⟩ hG hA hP hD hS hq rfl is hC hnd ha hn hsize hst hrm hdg hf kk
theorem kcMo_stream : Cond.code yMo_stream cMo_stream 13 none ∈ ckT := ck_m4 (List.mem_of_getElem? (i := 169) rfl) rfl
theorem kiMo_stream : Cond.instanceMethod yMo_stream ∈ ckT := ck_m4 (List.mem_of_getElem? (i := 168) rfl) rfl
theorem keMo_stream : Cond.selects "CoverKeysModel" yMo_stream yMo_stream ∈ ckT := ck_ms (List.mem_of_getElem? (i := 37) rfl) rfl
theorem kmMo_201 : Cond.methodLink "CoverKeysModel" 201 yMo_stream ∈ ckT := ck_m4 (List.mem_of_getElem? (i := 166) rfl) rfl
theorem clMo_201 (hx : p.tables.exec = Jvm.exec) (hb : c.code = cc) (hml : c.maxLocals = nL) (hown : s.vm.findClass "CoverKeysModel" = some m.cls) (hts : ∀ w ∈ ckT, w.before args s = true) (hM : Cq l G yMo_stream cMo_stream 13 none rm (.ref b :: As) wi φ r wo) (hG : gk G A s s.heap) (hA : ∀ q : Nat, s.heap.size ≤ q → A q) (hP : va_P G.1 vwCl ws H) (hD : va_D A ws) (hS : va_S A s.heap H locs) (q0 : Nat) (hq : ws[q0]? = some (oC b 8 fs)) (is : List Nat) (hC : is.map (fun i => ws[i]?) = wi.map some) (hnd : va_nd is = true) (ha : ∀ u, (wo u).map (·.1) = wi.map (·.1)) (hn : As.length = 7) (hsize : ls.size = nL) (hst : st0 = As.reverse ++ .ref b :: rest) (hrm : (rest.map fun v => v.category).sum ≤ 8) (hR : rm.frames + 1 ≤ R.frames ∧ 8 + (13 + 11) + rm.locals ≤ R.locals) (hf : cells + rm.cells ≤ R.cells ∧ slots + rm.slots ≤ R.slots) (hdg : decode cc pc = .ok (.invokevirtual 201, 3)) (kk : ∀ (u : S) (H1 : Heap) (locs1 : List Loc), φ u → va_P G.1 vwCl (ck_set ws is (wo u)) H1 → va_D A (ck_set ws is (wo u)) → va_S A s.heap H1 locs1 → W p l e R s m args below meth c H1 locs1 (cells + rm.cells) (slots + rm.slots) Q (F0 m (pc + 3) ls ((r u).toList ++ rest))) :
    W p l e R s m args below meth c H locs cells slots Q (F0 m pc ls st0) :=
  cq_V (T := TMo) (N := 30) ⟨hx, hb, hml, hown, hts⟩ hM ⟨callB_of 7 hts (ck_gd0 kcMo_stream) rfl rfl rfl (hts _ knMo) (hts _ kmMo_201) ⟨by decide, by decide, by decide +kernel⟩ hR, hts _ kiMo_stream, hts _ keMo_stream⟩ hG hA hP hD hS hq rfl is hC hnd ha hn hsize hst hrm hdg hf kk
end CLL
