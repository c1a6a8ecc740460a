theorem dMo_makeCover_0 : decode cMo_makeCover 0 = .ok (.aload_n 0, 1) := by decide +kernel
theorem dMo_makeCover_1 : decode cMo_makeCover 1 = .ok (.invokevirtual 139, 3) := by decide +kernel
theorem dMo_makeCover_4 : decode cMo_makeCover 4 = .ok (.istore_n 2, 1) := by decide +kernel
theorem dMo_makeCover_5 : decode cMo_makeCover 5 = .ok (.iconst 2, 1) := by decide +kernel
theorem dMo_makeCover_6 : decode cMo_makeCover 6 = .ok (.iload_n 2, 1) := by decide +kernel
theorem dMo_makeCover_7 : decode cMo_makeCover 7 = .ok (.imul, 1) := by decide +kernel
theorem dMo_makeCover_8 : decode cMo_makeCover 8 = .ok (.iconst 1, 1) := by decide +kernel
theorem dMo_makeCover_9 : decode cMo_makeCover 9 = .ok (.isub, 1) := by decide +kernel
theorem dMo_makeCover_10 : decode cMo_makeCover 10 = .ok (.istore_n 3, 1) := by decide +kernel
theorem dMo_makeCover_11 : decode cMo_makeCover 11 = .ok (.iload_n 3, 1) := by decide +kernel
theorem dMo_makeCover_12 : decode cMo_makeCover 12 = .ok (.ifCond .le 74, 3) := by decide +kernel
theorem dMo_makeCover_15 : decode cMo_makeCover 15 = .ok (.aload_n 0, 1) := by decide +kernel
theorem dMo_makeCover_16 : decode cMo_makeCover 16 = .ok (.getfield 51, 3) := by decide +kernel
theorem dMo_makeCover_19 : decode cMo_makeCover 19 = .ok (.iload_n 3, 1) := by decide +kernel
theorem dMo_makeCover_20 : decode cMo_makeCover 20 = .ok (.iload_n 3, 1) := by decide +kernel
theorem dMo_makeCover_21 : decode cMo_makeCover 21 = .ok (.iload_n 2, 1) := by decide +kernel
theorem dMo_makeCover_22 : decode cMo_makeCover 22 = .ok (.if_icmp .lt 28, 3) := by decide +kernel
theorem dMo_makeCover_25 : decode cMo_makeCover 25 = .ok (.aload_n 0, 1) := by decide +kernel
theorem dMo_makeCover_26 : decode cMo_makeCover 26 = .ok (.getfield 29, 3) := by decide +kernel
theorem dMo_makeCover_29 : decode cMo_makeCover 29 = .ok (.sipush 256, 3) := by decide +kernel
theorem dMo_makeCover_32 : decode cMo_makeCover 32 = .ok (.iload_n 1, 1) := by decide +kernel
theorem dMo_makeCover_33 : decode cMo_makeCover 33 = .ok (.imul, 1) := by decide +kernel
theorem dMo_makeCover_34 : decode cMo_makeCover 34 = .ok (.iload_n 3, 1) := by decide +kernel
theorem dMo_makeCover_35 : decode cMo_makeCover 35 = .ok (.iadd, 1) := by decide +kernel
theorem dMo_makeCover_36 : decode cMo_makeCover 36 = .ok (.iload_n 2, 1) := by decide +kernel
theorem dMo_makeCover_37 : decode cMo_makeCover 37 = .ok (.isub, 1) := by decide +kernel
theorem dMo_makeCover_38 : decode cMo_makeCover 38 = .ok (.baload, 1) := by decide +kernel
theorem dMo_makeCover_39 : decode cMo_makeCover 39 = .ok (.ifCond .ne 7, 3) := by decide +kernel
theorem dMo_makeCover_42 : decode cMo_makeCover 42 = .ok (.iconst 1, 1) := by decide +kernel
theorem dMo_makeCover_43 : decode cMo_makeCover 43 = .ok (.goto 36, 3) := by decide +kernel
theorem dMo_makeCover_46 : decode cMo_makeCover 46 = .ok (.iconst 0, 1) := by decide +kernel
theorem dMo_makeCover_47 : decode cMo_makeCover 47 = .ok (.goto 32, 3) := by decide +kernel
theorem dMo_makeCover_50 : decode cMo_makeCover 50 = .ok (.aload_n 0, 1) := by decide +kernel
theorem dMo_makeCover_51 : decode cMo_makeCover 51 = .ok (.getfield 51, 3) := by decide +kernel
theorem dMo_makeCover_54 : decode cMo_makeCover 54 = .ok (.iconst 2, 1) := by decide +kernel
theorem dMo_makeCover_55 : decode cMo_makeCover 55 = .ok (.iload_n 3, 1) := by decide +kernel
theorem dMo_makeCover_56 : decode cMo_makeCover 56 = .ok (.imul, 1) := by decide +kernel
theorem dMo_makeCover_57 : decode cMo_makeCover 57 = .ok (.baload, 1) := by decide +kernel
theorem dMo_makeCover_58 : decode cMo_makeCover 58 = .ok (.ifCond .ne 16, 3) := by decide +kernel
theorem dMo_makeCover_61 : decode cMo_makeCover 61 = .ok (.aload_n 0, 1) := by decide +kernel
theorem dMo_makeCover_62 : decode cMo_makeCover 62 = .ok (.getfield 51, 3) := by decide +kernel
theorem dMo_makeCover_65 : decode cMo_makeCover 65 = .ok (.iconst 2, 1) := by decide +kernel
theorem dMo_makeCover_66 : decode cMo_makeCover 66 = .ok (.iload_n 3, 1) := by decide +kernel
theorem dMo_makeCover_67 : decode cMo_makeCover 67 = .ok (.imul, 1) := by decide +kernel
theorem dMo_makeCover_68 : decode cMo_makeCover 68 = .ok (.iconst 1, 1) := by decide +kernel
theorem dMo_makeCover_69 : decode cMo_makeCover 69 = .ok (.iadd, 1) := by decide +kernel
theorem dMo_makeCover_70 : decode cMo_makeCover 70 = .ok (.baload, 1) := by decide +kernel
theorem dMo_makeCover_71 : decode cMo_makeCover 71 = .ok (.ifCond .eq 7, 3) := by decide +kernel
theorem dMo_makeCover_74 : decode cMo_makeCover 74 = .ok (.iconst 1, 1) := by decide +kernel
theorem dMo_makeCover_75 : decode cMo_makeCover 75 = .ok (.goto 4, 3) := by decide +kernel
theorem dMo_makeCover_78 : decode cMo_makeCover 78 = .ok (.iconst 0, 1) := by decide +kernel
theorem dMo_makeCover_79 : decode cMo_makeCover 79 = .ok (.bastore, 1) := by decide +kernel
theorem dMo_makeCover_80 : decode cMo_makeCover 80 = .ok (.iinc 3 (-1), 3) := by decide +kernel
theorem dMo_makeCover_83 : decode cMo_makeCover 83 = .ok (.goto (-72), 3) := by decide +kernel
theorem dMo_makeCover_86 : decode cMo_makeCover 86 = .ok (.sipush 256, 3) := by decide +kernel
theorem dMo_makeCover_89 : decode cMo_makeCover 89 = .ok (.iload_n 1, 1) := by decide +kernel
theorem dMo_makeCover_90 : decode cMo_makeCover 90 = .ok (.imul, 1) := by decide +kernel
theorem dMo_makeCover_91 : decode cMo_makeCover 91 = .ok (.istore_n 3, 1) := by decide +kernel
theorem dMo_makeCover_92 : decode cMo_makeCover 92 = .ok (.iconst 0, 1) := by decide +kernel
theorem dMo_makeCover_93 : decode cMo_makeCover 93 = .ok (.istore 4, 2) := by decide +kernel
theorem dMo_makeCover_95 : decode cMo_makeCover 95 = .ok (.aload_n 0, 1) := by decide +kernel
theorem dMo_makeCover_96 : decode cMo_makeCover 96 = .ok (.getfield 51, 3) := by decide +kernel
theorem dMo_makeCover_99 : decode cMo_makeCover 99 = .ok (.iconst 1, 1) := by decide +kernel
theorem dMo_makeCover_100 : decode cMo_makeCover 100 = .ok (.baload, 1) := by decide +kernel
theorem dMo_makeCover_101 : decode cMo_makeCover 101 = .ok (.ifCond .ne 20, 3) := by decide +kernel
theorem dMo_makeCover_104 : decode cMo_makeCover 104 = .ok (.aload_n 0, 1) := by decide +kernel
theorem dMo_makeCover_105 : decode cMo_makeCover 105 = .ok (.getfield 45, 3) := by decide +kernel
theorem dMo_makeCover_108 : decode cMo_makeCover 108 = .ok (.iload_n 3, 1) := by decide +kernel
theorem dMo_makeCover_109 : decode cMo_makeCover 109 = .ok (.iconst 0, 1) := by decide +kernel
theorem dMo_makeCover_110 : decode cMo_makeCover 110 = .ok (.iastore, 1) := by decide +kernel
theorem dMo_makeCover_111 : decode cMo_makeCover 111 = .ok (.aload_n 0, 1) := by decide +kernel
theorem dMo_makeCover_112 : decode cMo_makeCover 112 = .ok (.getfield 48, 3) := by decide +kernel
theorem dMo_makeCover_115 : decode cMo_makeCover 115 = .ok (.iload_n 3, 1) := by decide +kernel
theorem dMo_makeCover_116 : decode cMo_makeCover 116 = .ok (.iconst 0, 1) := by decide +kernel
theorem dMo_makeCover_117 : decode cMo_makeCover 117 = .ok (.iastore, 1) := by decide +kernel
theorem dMo_makeCover_118 : decode cMo_makeCover 118 = .ok (.iconst 1, 1) := by decide +kernel
theorem dMo_makeCover_119 : decode cMo_makeCover 119 = .ok (.istore 4, 2) := by decide +kernel
theorem dMo_makeCover_121 : decode cMo_makeCover 121 = .ok (.iconst 1, 1) := by decide +kernel
theorem dMo_makeCover_122 : decode cMo_makeCover 122 = .ok (.istore 5, 2) := by decide +kernel
theorem dMo_makeCover_124 : decode cMo_makeCover 124 = .ok (.iload 5, 2) := by decide +kernel
theorem dMo_makeCover_126 : decode cMo_makeCover 126 = .ok (.iconst 2, 1) := by decide +kernel
theorem dMo_makeCover_127 : decode cMo_makeCover 127 = .ok (.iload_n 2, 1) := by decide +kernel
theorem dMo_makeCover_128 : decode cMo_makeCover 128 = .ok (.imul, 1) := by decide +kernel
theorem dMo_makeCover_129 : decode cMo_makeCover 129 = .ok (.if_icmp .ge 144, 3) := by decide +kernel
theorem dMo_makeCover_132 : decode cMo_makeCover 132 = .ok (.aload_n 0, 1) := by decide +kernel
theorem dMo_makeCover_133 : decode cMo_makeCover 133 = .ok (.getfield 51, 3) := by decide +kernel
theorem dMo_makeCover_136 : decode cMo_makeCover 136 = .ok (.iload 5, 2) := by decide +kernel
theorem dMo_makeCover_138 : decode cMo_makeCover 138 = .ok (.baload, 1) := by decide +kernel
theorem dMo_makeCover_139 : decode cMo_makeCover 139 = .ok (.ifCond .eq 25, 3) := by decide +kernel
theorem dMo_makeCover_142 : decode cMo_makeCover 142 = .ok (.iload 5, 2) := by decide +kernel
theorem dMo_makeCover_144 : decode cMo_makeCover 144 = .ok (.iconst 1, 1) := by decide +kernel
theorem dMo_makeCover_145 : decode cMo_makeCover 145 = .ok (.if_icmp .eq 15, 3) := by decide +kernel
theorem dMo_makeCover_148 : decode cMo_makeCover 148 = .ok (.aload_n 0, 1) := by decide +kernel
theorem dMo_makeCover_149 : decode cMo_makeCover 149 = .ok (.getfield 51, 3) := by decide +kernel
theorem dMo_makeCover_152 : decode cMo_makeCover 152 = .ok (.iload 5, 2) := by decide +kernel
theorem dMo_makeCover_154 : decode cMo_makeCover 154 = .ok (.iconst 1, 1) := by decide +kernel
theorem dMo_makeCover_155 : decode cMo_makeCover 155 = .ok (.ixor, 1) := by decide +kernel
theorem dMo_makeCover_156 : decode cMo_makeCover 156 = .ok (.baload, 1) := by decide +kernel
theorem dMo_makeCover_157 : decode cMo_makeCover 157 = .ok (.ifCond .eq 7, 3) := by decide +kernel
theorem dMo_makeCover_160 : decode cMo_makeCover 160 = .ok (.iconst 1, 1) := by decide +kernel
theorem dMo_makeCover_161 : decode cMo_makeCover 161 = .ok (.goto 4, 3) := by decide +kernel
theorem dMo_makeCover_164 : decode cMo_makeCover 164 = .ok (.iconst 0, 1) := by decide +kernel
theorem dMo_makeCover_165 : decode cMo_makeCover 165 = .ok (.istore 6, 2) := by decide +kernel
theorem dMo_makeCover_167 : decode cMo_makeCover 167 = .ok (.iload 5, 2) := by decide +kernel
theorem dMo_makeCover_169 : decode cMo_makeCover 169 = .ok (.istore 7, 2) := by decide +kernel
theorem dMo_makeCover_171 : decode cMo_makeCover 171 = .ok (.iload 6, 2) := by decide +kernel
theorem dMo_makeCover_173 : decode cMo_makeCover 173 = .ok (.ifCond .eq 62, 3) := by decide +kernel
theorem dMo_makeCover_176 : decode cMo_makeCover 176 = .ok (.iload 7, 2) := by decide +kernel
theorem dMo_makeCover_178 : decode cMo_makeCover 178 = .ok (.iload_n 2, 1) := by decide +kernel
theorem dMo_makeCover_179 : decode cMo_makeCover 179 = .ok (.if_icmp .ge 56, 3) := by decide +kernel
theorem dMo_makeCover_182 : decode cMo_makeCover 182 = .ok (.aload_n 0, 1) := by decide +kernel
theorem dMo_makeCover_183 : decode cMo_makeCover 183 = .ok (.getfield 51, 3) := by decide +kernel
theorem dMo_makeCover_186 : decode cMo_makeCover 186 = .ok (.iconst 2, 1) := by decide +kernel
theorem dMo_makeCover_187 : decode cMo_makeCover 187 = .ok (.iload 7, 2) := by decide +kernel
theorem dMo_makeCover_189 : decode cMo_makeCover 189 = .ok (.imul, 1) := by decide +kernel
theorem dMo_makeCover_190 : decode cMo_makeCover 190 = .ok (.baload, 1) := by decide +kernel
theorem dMo_makeCover_191 : decode cMo_makeCover 191 = .ok (.aload_n 0, 1) := by decide +kernel
theorem dMo_makeCover_192 : decode cMo_makeCover 192 = .ok (.getfield 51, 3) := by decide +kernel
theorem dMo_makeCover_195 : decode cMo_makeCover 195 = .ok (.iconst 2, 1) := by decide +kernel
theorem dMo_makeCover_196 : decode cMo_makeCover 196 = .ok (.iload 7, 2) := by decide +kernel
theorem dMo_makeCover_198 : decode cMo_makeCover 198 = .ok (.imul, 1) := by decide +kernel
theorem dMo_makeCover_199 : decode cMo_makeCover 199 = .ok (.iconst 1, 1) := by decide +kernel
theorem dMo_makeCover_200 : decode cMo_makeCover 200 = .ok (.iadd, 1) := by decide +kernel
theorem dMo_makeCover_201 : decode cMo_makeCover 201 = .ok (.baload, 1) := by decide +kernel
theorem dMo_makeCover_202 : decode cMo_makeCover 202 = .ok (.if_icmp .eq 33, 3) := by decide +kernel
theorem dMo_makeCover_205 : decode cMo_makeCover 205 = .ok (.aload_n 0, 1) := by decide +kernel
theorem dMo_makeCover_206 : decode cMo_makeCover 206 = .ok (.getfield 51, 3) := by decide +kernel
theorem dMo_makeCover_209 : decode cMo_makeCover 209 = .ok (.iconst 2, 1) := by decide +kernel
theorem dMo_makeCover_210 : decode cMo_makeCover 210 = .ok (.iload 7, 2) := by decide +kernel
theorem dMo_makeCover_212 : decode cMo_makeCover 212 = .ok (.imul, 1) := by decide +kernel
theorem dMo_makeCover_213 : decode cMo_makeCover 213 = .ok (.baload, 1) := by decide +kernel
theorem dMo_makeCover_214 : decode cMo_makeCover 214 = .ok (.ifCond .eq 10, 3) := by decide +kernel
theorem dMo_makeCover_217 : decode cMo_makeCover 217 = .ok (.iconst 2, 1) := by decide +kernel
theorem dMo_makeCover_218 : decode cMo_makeCover 218 = .ok (.iload 7, 2) := by decide +kernel
theorem dMo_makeCover_220 : decode cMo_makeCover 220 = .ok (.imul, 1) := by decide +kernel
theorem dMo_makeCover_221 : decode cMo_makeCover 221 = .ok (.goto 9, 3) := by decide +kernel
theorem dMo_makeCover_224 : decode cMo_makeCover 224 = .ok (.iconst 2, 1) := by decide +kernel
theorem dMo_makeCover_225 : decode cMo_makeCover 225 = .ok (.iload 7, 2) := by decide +kernel
theorem dMo_makeCover_227 : decode cMo_makeCover 227 = .ok (.imul, 1) := by decide +kernel
theorem dMo_makeCover_228 : decode cMo_makeCover 228 = .ok (.iconst 1, 1) := by decide +kernel
theorem dMo_makeCover_229 : decode cMo_makeCover 229 = .ok (.iadd, 1) := by decide +kernel
theorem dMo_makeCover_230 : decode cMo_makeCover 230 = .ok (.istore 7, 2) := by decide +kernel
theorem dMo_makeCover_232 : decode cMo_makeCover 232 = .ok (.goto (-61), 3) := by decide +kernel
theorem dMo_makeCover_235 : decode cMo_makeCover 235 = .ok (.iload 7, 2) := by decide +kernel
theorem dMo_makeCover_237 : decode cMo_makeCover 237 = .ok (.iload 5, 2) := by decide +kernel
theorem dMo_makeCover_239 : decode cMo_makeCover 239 = .ok (.if_icmp .eq 28, 3) := by decide +kernel
theorem dMo_makeCover_242 : decode cMo_makeCover 242 = .ok (.aload_n 0, 1) := by decide +kernel
theorem dMo_makeCover_243 : decode cMo_makeCover 243 = .ok (.getfield 45, 3) := by decide +kernel
theorem dMo_makeCover_246 : decode cMo_makeCover 246 = .ok (.iload_n 3, 1) := by decide +kernel
theorem dMo_makeCover_247 : decode cMo_makeCover 247 = .ok (.iload 4, 2) := by decide +kernel
theorem dMo_makeCover_249 : decode cMo_makeCover 249 = .ok (.iadd, 1) := by decide +kernel
theorem dMo_makeCover_250 : decode cMo_makeCover 250 = .ok (.iload 5, 2) := by decide +kernel
theorem dMo_makeCover_252 : decode cMo_makeCover 252 = .ok (.iastore, 1) := by decide +kernel
theorem dMo_makeCover_253 : decode cMo_makeCover 253 = .ok (.aload_n 0, 1) := by decide +kernel
theorem dMo_makeCover_254 : decode cMo_makeCover 254 = .ok (.getfield 48, 3) := by decide +kernel
theorem dMo_makeCover_257 : decode cMo_makeCover 257 = .ok (.iload_n 3, 1) := by decide +kernel
theorem dMo_makeCover_258 : decode cMo_makeCover 258 = .ok (.iload 4, 2) := by decide +kernel
theorem dMo_makeCover_260 : decode cMo_makeCover 260 = .ok (.iadd, 1) := by decide +kernel
theorem dMo_makeCover_261 : decode cMo_makeCover 261 = .ok (.iload 7, 2) := by decide +kernel
theorem dMo_makeCover_263 : decode cMo_makeCover 263 = .ok (.iastore, 1) := by decide +kernel
theorem dMo_makeCover_264 : decode cMo_makeCover 264 = .ok (.iinc 4 1, 3) := by decide +kernel
theorem dMo_makeCover_267 : decode cMo_makeCover 267 = .ok (.iinc 5 1, 3) := by decide +kernel
theorem dMo_makeCover_270 : decode cMo_makeCover 270 = .ok (.goto (-146), 3) := by decide +kernel
theorem dMo_makeCover_273 : decode cMo_makeCover 273 = .ok (.aload_n 0, 1) := by decide +kernel
theorem dMo_makeCover_274 : decode cMo_makeCover 274 = .ok (.getfield 42, 3) := by decide +kernel
theorem dMo_makeCover_277 : decode cMo_makeCover 277 = .ok (.iload_n 1, 1) := by decide +kernel
theorem dMo_makeCover_278 : decode cMo_makeCover 278 = .ok (.iload 4, 2) := by decide +kernel
theorem dMo_makeCover_280 : decode cMo_makeCover 280 = .ok (.iastore, 1) := by decide +kernel
theorem dMo_makeCover_281 : decode cMo_makeCover 281 = .ok (.return_, 1) := by decide +kernel
theorem dMo_packet_0 : decode cMo_packet 0 = .ok (.iload_n 1, 1) := by decide +kernel
theorem dMo_packet_1 : decode cMo_packet 1 = .ok (.invokestatic 162, 3) := by decide +kernel
theorem dMo_packet_4 : decode cMo_packet 4 = .ok (.ifCond .eq 16, 3) := by decide +kernel
theorem dMo_packet_7 : decode cMo_packet 7 = .ok (.aload_n 0, 1) := by decide +kernel
theorem dMo_packet_8 : decode cMo_packet 8 = .ok (.getfield 32, 3) := by decide +kernel
theorem dMo_packet_11 : decode cMo_packet 11 = .ok (.iload_n 1, 1) := by decide +kernel
theorem dMo_packet_12 : decode cMo_packet 12 = .ok (.iaload, 1) := by decide +kernel
theorem dMo_packet_13 : decode cMo_packet 13 = .ok (.ifCond .le 7, 3) := by decide +kernel
theorem dMo_packet_16 : decode cMo_packet 16 = .ok (.iconst 1, 1) := by decide +kernel
theorem dMo_packet_17 : decode cMo_packet 17 = .ok (.goto 4, 3) := by decide +kernel
theorem dMo_packet_20 : decode cMo_packet 20 = .ok (.iconst 0, 1) := by decide +kernel
theorem dMo_packet_21 : decode cMo_packet 21 = .ok (.istore_n 3, 1) := by decide +kernel
theorem dMo_packet_22 : decode cMo_packet 22 = .ok (.iload_n 3, 1) := by decide +kernel
theorem dMo_packet_23 : decode cMo_packet 23 = .ok (.ifCond .eq 27, 3) := by decide +kernel
theorem dMo_packet_26 : decode cMo_packet 26 = .ok (.aload_n 0, 1) := by decide +kernel
theorem dMo_packet_27 : decode cMo_packet 27 = .ok (.getfield 42, 3) := by decide +kernel
theorem dMo_packet_30 : decode cMo_packet 30 = .ok (.iload_n 1, 1) := by decide +kernel
theorem dMo_packet_31 : decode cMo_packet 31 = .ok (.iaload, 1) := by decide +kernel
theorem dMo_packet_32 : decode cMo_packet 32 = .ok (.ifCond .le 18, 3) := by decide +kernel
theorem dMo_packet_35 : decode cMo_packet 35 = .ok (.aload_n 0, 1) := by decide +kernel
theorem dMo_packet_36 : decode cMo_packet 36 = .ok (.getfield 42, 3) := by decide +kernel
theorem dMo_packet_39 : decode cMo_packet 39 = .ok (.iload_n 1, 1) := by decide +kernel
theorem dMo_packet_40 : decode cMo_packet 40 = .ok (.iaload, 1) := by decide +kernel
theorem dMo_packet_41 : decode cMo_packet 41 = .ok (.bipush 7, 2) := by decide +kernel
theorem dMo_packet_43 : decode cMo_packet 43 = .ok (.iadd, 1) := by decide +kernel
theorem dMo_packet_44 : decode cMo_packet 44 = .ok (.bipush 8, 2) := by decide +kernel
theorem dMo_packet_46 : decode cMo_packet 46 = .ok (.idiv, 1) := by decide +kernel
theorem dMo_packet_47 : decode cMo_packet 47 = .ok (.goto 4, 3) := by decide +kernel
theorem dMo_packet_50 : decode cMo_packet 50 = .ok (.iconst 1, 1) := by decide +kernel
theorem dMo_packet_51 : decode cMo_packet 51 = .ok (.istore 4, 2) := by decide +kernel
theorem dMo_packet_53 : decode cMo_packet 53 = .ok (.aload_n 0, 1) := by decide +kernel
theorem dMo_packet_54 : decode cMo_packet 54 = .ok (.iload_n 1, 1) := by decide +kernel
theorem dMo_packet_55 : decode cMo_packet 55 = .ok (.invokestatic 162, 3) := by decide +kernel
theorem dMo_packet_58 : decode cMo_packet 58 = .ok (.ifCond .ne 7, 3) := by decide +kernel
theorem dMo_packet_61 : decode cMo_packet 61 = .ok (.iconst 1, 1) := by decide +kernel
theorem dMo_packet_62 : decode cMo_packet 62 = .ok (.goto 26, 3) := by decide +kernel
theorem dMo_packet_65 : decode cMo_packet 65 = .ok (.iload_n 3, 1) := by decide +kernel
theorem dMo_packet_66 : decode cMo_packet 66 = .ok (.ifCond .ne 7, 3) := by decide +kernel
theorem dMo_packet_69 : decode cMo_packet 69 = .ok (.iconst 2, 1) := by decide +kernel
theorem dMo_packet_70 : decode cMo_packet 70 = .ok (.goto 18, 3) := by decide +kernel
theorem dMo_packet_73 : decode cMo_packet 73 = .ok (.iload_n 2, 1) := by decide +kernel
theorem dMo_packet_74 : decode cMo_packet 74 = .ok (.ifCond .lt 9, 3) := by decide +kernel
theorem dMo_packet_77 : decode cMo_packet 77 = .ok (.iload_n 2, 1) := by decide +kernel
theorem dMo_packet_78 : decode cMo_packet 78 = .ok (.iload 4, 2) := by decide +kernel
theorem dMo_packet_80 : decode cMo_packet 80 = .ok (.if_icmp .lt 7, 3) := by decide +kernel
theorem dMo_packet_83 : decode cMo_packet 83 = .ok (.iconst 3, 1) := by decide +kernel
theorem dMo_packet_84 : decode cMo_packet 84 = .ok (.goto 4, 3) := by decide +kernel
theorem dMo_packet_87 : decode cMo_packet 87 = .ok (.iconst 0, 1) := by decide +kernel
theorem dMo_packet_88 : decode cMo_packet 88 = .ok (.putfield 74, 3) := by decide +kernel
theorem dMo_packet_91 : decode cMo_packet 91 = .ok (.aload_n 0, 1) := by decide +kernel
theorem dMo_packet_92 : decode cMo_packet 92 = .ok (.getfield 74, 3) := by decide +kernel
theorem dMo_packet_95 : decode cMo_packet 95 = .ok (.ifCond .le 5, 3) := by decide +kernel
theorem dMo_packet_98 : decode cMo_packet 98 = .ok (.iconst 0, 1) := by decide +kernel
theorem dMo_packet_99 : decode cMo_packet 99 = .ok (.ireturn, 1) := by decide +kernel
theorem dMo_packet_100 : decode cMo_packet 100 = .ok (.aload_n 0, 1) := by decide +kernel
theorem dMo_packet_101 : decode cMo_packet 101 = .ok (.iconst 0, 1) := by decide +kernel
theorem dMo_packet_102 : decode cMo_packet 102 = .ok (.putfield 136, 3) := by decide +kernel
theorem dMo_packet_105 : decode cMo_packet 105 = .ok (.aload_n 0, 1) := by decide +kernel
theorem dMo_packet_106 : decode cMo_packet 106 = .ok (.iload_n 1, 1) := by decide +kernel
theorem dMo_packet_107 : decode cMo_packet 107 = .ok (.i2l, 1) := by decide +kernel
theorem dMo_packet_108 : decode cMo_packet 108 = .ok (.iconst 1, 1) := by decide +kernel
theorem dMo_packet_109 : decode cMo_packet 109 = .ok (.invokevirtual 168, 3) := by decide +kernel
theorem dMo_packet_112 : decode cMo_packet 112 = .ok (.aload_n 0, 1) := by decide +kernel
theorem dMo_packet_113 : decode cMo_packet 113 = .ok (.aload_n 0, 1) := by decide +kernel
theorem dMo_packet_114 : decode cMo_packet 114 = .ok (.getfield 32, 3) := by decide +kernel
theorem dMo_packet_117 : decode cMo_packet 117 = .ok (.iload_n 1, 1) := by decide +kernel
theorem dMo_packet_118 : decode cMo_packet 118 = .ok (.iaload, 1) := by decide +kernel
theorem dMo_packet_119 : decode cMo_packet 119 = .ok (.i2l, 1) := by decide +kernel
theorem dMo_packet_120 : decode cMo_packet 120 = .ok (.iconst 2, 1) := by decide +kernel
theorem dMo_packet_121 : decode cMo_packet 121 = .ok (.invokevirtual 168, 3) := by decide +kernel
theorem dMo_packet_124 : decode cMo_packet 124 = .ok (.aload_n 0, 1) := by decide +kernel
theorem dMo_packet_125 : decode cMo_packet 125 = .ok (.iload_n 2, 1) := by decide +kernel
theorem dMo_packet_126 : decode cMo_packet 126 = .ok (.i2l, 1) := by decide +kernel
theorem dMo_packet_127 : decode cMo_packet 127 = .ok (.iconst 1, 1) := by decide +kernel
theorem dMo_packet_128 : decode cMo_packet 128 = .ok (.invokevirtual 168, 3) := by decide +kernel
theorem dMo_packet_131 : decode cMo_packet 131 = .ok (.aload_n 0, 1) := by decide +kernel
theorem dMo_packet_132 : decode cMo_packet 132 = .ok (.iload 4, 2) := by decide +kernel
theorem dMo_packet_134 : decode cMo_packet 134 = .ok (.i2l, 1) := by decide +kernel
theorem dMo_packet_135 : decode cMo_packet 135 = .ok (.iconst 1, 1) := by decide +kernel
theorem dMo_packet_136 : decode cMo_packet 136 = .ok (.invokevirtual 168, 3) := by decide +kernel
theorem dMo_packet_139 : decode cMo_packet 139 = .ok (.bipush 8, 2) := by decide +kernel
theorem dMo_packet_141 : decode cMo_packet 141 = .ok (.iload_n 2, 1) := by decide +kernel
theorem dMo_packet_142 : decode cMo_packet 142 = .ok (.imul, 1) := by decide +kernel
theorem dMo_packet_143 : decode cMo_packet 143 = .ok (.istore 5, 2) := by decide +kernel
theorem dMo_packet_145 : decode cMo_packet 145 = .ok (.iload 5, 2) := by decide +kernel
theorem dMo_packet_147 : decode cMo_packet 147 = .ok (.bipush 8, 2) := by decide +kernel
theorem dMo_packet_149 : decode cMo_packet 149 = .ok (.iload_n 2, 1) := by decide +kernel
theorem dMo_packet_150 : decode cMo_packet 150 = .ok (.imul, 1) := by decide +kernel
theorem dMo_packet_151 : decode cMo_packet 151 = .ok (.bipush 8, 2) := by decide +kernel
theorem dMo_packet_153 : decode cMo_packet 153 = .ok (.iadd, 1) := by decide +kernel
theorem dMo_packet_154 : decode cMo_packet 154 = .ok (.if_icmp .ge 128, 3) := by decide +kernel
theorem dMo_packet_157 : decode cMo_packet 157 = .ok (.iload 5, 2) := by decide +kernel
theorem dMo_packet_159 : decode cMo_packet 159 = .ok (.aload_n 0, 1) := by decide +kernel
theorem dMo_packet_160 : decode cMo_packet 160 = .ok (.getfield 42, 3) := by decide +kernel
theorem dMo_packet_163 : decode cMo_packet 163 = .ok (.iload_n 1, 1) := by decide +kernel
theorem dMo_packet_164 : decode cMo_packet 164 = .ok (.iaload, 1) := by decide +kernel
theorem dMo_packet_165 : decode cMo_packet 165 = .ok (.if_icmp .ge 117, 3) := by decide +kernel
theorem dMo_packet_168 : decode cMo_packet 168 = .ok (.aload_n 0, 1) := by decide +kernel
theorem dMo_packet_169 : decode cMo_packet 169 = .ok (.getfield 45, 3) := by decide +kernel
theorem dMo_packet_172 : decode cMo_packet 172 = .ok (.sipush 256, 3) := by decide +kernel
theorem dMo_packet_175 : decode cMo_packet 175 = .ok (.iload_n 1, 1) := by decide +kernel
theorem dMo_packet_176 : decode cMo_packet 176 = .ok (.imul, 1) := by decide +kernel
theorem dMo_packet_177 : decode cMo_packet 177 = .ok (.iload 5, 2) := by decide +kernel
theorem dMo_packet_179 : decode cMo_packet 179 = .ok (.iadd, 1) := by decide +kernel
theorem dMo_packet_180 : decode cMo_packet 180 = .ok (.iaload, 1) := by decide +kernel
theorem dMo_packet_181 : decode cMo_packet 181 = .ok (.istore 6, 2) := by decide +kernel
theorem dMo_packet_183 : decode cMo_packet 183 = .ok (.aload_n 0, 1) := by decide +kernel
theorem dMo_packet_184 : decode cMo_packet 184 = .ok (.getfield 48, 3) := by decide +kernel
theorem dMo_packet_187 : decode cMo_packet 187 = .ok (.sipush 256, 3) := by decide +kernel
theorem dMo_packet_190 : decode cMo_packet 190 = .ok (.iload_n 1, 1) := by decide +kernel
theorem dMo_packet_191 : decode cMo_packet 191 = .ok (.imul, 1) := by decide +kernel
theorem dMo_packet_192 : decode cMo_packet 192 = .ok (.iload 5, 2) := by decide +kernel
theorem dMo_packet_194 : decode cMo_packet 194 = .ok (.iadd, 1) := by decide +kernel
theorem dMo_packet_195 : decode cMo_packet 195 = .ok (.iaload, 1) := by decide +kernel
theorem dMo_packet_196 : decode cMo_packet 196 = .ok (.istore 7, 2) := by decide +kernel
theorem dMo_packet_198 : decode cMo_packet 198 = .ok (.aload_n 0, 1) := by decide +kernel
theorem dMo_packet_199 : decode cMo_packet 199 = .ok (.iload 6, 2) := by decide +kernel
theorem dMo_packet_201 : decode cMo_packet 201 = .ok (.i2l, 1) := by decide +kernel
theorem dMo_packet_202 : decode cMo_packet 202 = .ok (.iconst 2, 1) := by decide +kernel
theorem dMo_packet_203 : decode cMo_packet 203 = .ok (.invokevirtual 168, 3) := by decide +kernel
theorem dMo_packet_206 : decode cMo_packet 206 = .ok (.aload_n 0, 1) := by decide +kernel
theorem dMo_packet_207 : decode cMo_packet 207 = .ok (.iload 7, 2) := by decide +kernel
theorem dMo_packet_209 : decode cMo_packet 209 = .ok (.i2l, 1) := by decide +kernel
theorem dMo_packet_210 : decode cMo_packet 210 = .ok (.iconst 2, 1) := by decide +kernel
theorem dMo_packet_211 : decode cMo_packet 211 = .ok (.invokevirtual 168, 3) := by decide +kernel
theorem dMo_packet_214 : decode cMo_packet 214 = .ok (.aload_n 0, 1) := by decide +kernel
theorem dMo_packet_215 : decode cMo_packet 215 = .ok (.iload 6, 2) := by decide +kernel
theorem dMo_packet_217 : decode cMo_packet 217 = .ok (.iload 7, 2) := by decide +kernel
theorem dMo_packet_219 : decode cMo_packet 219 = .ok (.invokevirtual 172, 3) := by decide +kernel
theorem dMo_packet_222 : decode cMo_packet 222 = .ok (.aload_n 0, 1) := by decide +kernel
theorem dMo_packet_223 : decode cMo_packet 223 = .ok (.aload_n 0, 1) := by decide +kernel
theorem dMo_packet_224 : decode cMo_packet 224 = .ok (.getfield 82, 3) := by decide +kernel
theorem dMo_packet_227 : decode cMo_packet 227 = .ok (.aload_n 0, 1) := by decide +kernel
theorem dMo_packet_228 : decode cMo_packet 228 = .ok (.getfield 86, 3) := by decide +kernel
theorem dMo_packet_231 : decode cMo_packet 231 = .ok (.aload_n 0, 1) := by decide +kernel
theorem dMo_packet_232 : decode cMo_packet 232 = .ok (.getfield 35, 3) := by decide +kernel
theorem dMo_packet_235 : decode cMo_packet 235 = .ok (.iload_n 1, 1) := by decide +kernel
theorem dMo_packet_236 : decode cMo_packet 236 = .ok (.laload, 1) := by decide +kernel
theorem dMo_packet_237 : decode cMo_packet 237 = .ok (.aload_n 0, 1) := by decide +kernel
theorem dMo_packet_238 : decode cMo_packet 238 = .ok (.getfield 39, 3) := by decide +kernel
theorem dMo_packet_241 : decode cMo_packet 241 = .ok (.iload_n 1, 1) := by decide +kernel
theorem dMo_packet_242 : decode cMo_packet 242 = .ok (.laload, 1) := by decide +kernel
theorem dMo_packet_243 : decode cMo_packet 243 = .ok (.invokevirtual 175, 3) := by decide +kernel
theorem dMo_packet_246 : decode cMo_packet 246 = .ok (.aload_n 0, 1) := by decide +kernel
theorem dMo_packet_247 : decode cMo_packet 247 = .ok (.aload_n 0, 1) := by decide +kernel
theorem dMo_packet_248 : decode cMo_packet 248 = .ok (.getfield 111, 3) := by decide +kernel
theorem dMo_packet_251 : decode cMo_packet 251 = .ok (.bipush 8, 2) := by decide +kernel
theorem dMo_packet_253 : decode cMo_packet 253 = .ok (.invokevirtual 168, 3) := by decide +kernel
theorem dMo_packet_256 : decode cMo_packet 256 = .ok (.aload_n 0, 1) := by decide +kernel
theorem dMo_packet_257 : decode cMo_packet 257 = .ok (.aload_n 0, 1) := by decide +kernel
theorem dMo_packet_258 : decode cMo_packet 258 = .ok (.getfield 114, 3) := by decide +kernel
theorem dMo_packet_261 : decode cMo_packet 261 = .ok (.bipush 8, 2) := by decide +kernel
theorem dMo_packet_263 : decode cMo_packet 263 = .ok (.invokevirtual 168, 3) := by decide +kernel
theorem dMo_packet_266 : decode cMo_packet 266 = .ok (.aload_n 0, 1) := by decide +kernel
theorem dMo_packet_267 : decode cMo_packet 267 = .ok (.aload_n 0, 1) := by decide +kernel
theorem dMo_packet_268 : decode cMo_packet 268 = .ok (.getfield 117, 3) := by decide +kernel
theorem dMo_packet_271 : decode cMo_packet 271 = .ok (.bipush 8, 2) := by decide +kernel
theorem dMo_packet_273 : decode cMo_packet 273 = .ok (.invokevirtual 168, 3) := by decide +kernel
theorem dMo_packet_276 : decode cMo_packet 276 = .ok (.iinc 5 1, 3) := by decide +kernel
theorem dMo_packet_279 : decode cMo_packet 279 = .ok (.goto (-134), 3) := by decide +kernel
theorem dMo_packet_282 : decode cMo_packet 282 = .ok (.aload_n 0, 1) := by decide +kernel
theorem dMo_packet_283 : decode cMo_packet 283 = .ok (.getfield 136, 3) := by decide +kernel
theorem dMo_packet_286 : decode cMo_packet 286 = .ok (.ireturn, 1) := by decide +kernel
theorem dMo_makeWords_0 : decode cMo_makeWords 0 = .ok (.iconst 0, 1) := by decide +kernel
theorem dMo_makeWords_1 : decode cMo_makeWords 1 = .ok (.istore 5, 2) := by decide +kernel
theorem dMo_makeWords_3 : decode cMo_makeWords 3 = .ok (.iload 5, 2) := by decide +kernel
theorem dMo_makeWords_5 : decode cMo_makeWords 5 = .ok (.bipush 16, 2) := by decide +kernel
theorem dMo_makeWords_7 : decode cMo_makeWords 7 = .ok (.if_icmp .ge 45, 3) := by decide +kernel
theorem dMo_makeWords_10 : decode cMo_makeWords 10 = .ok (.aload_n 0, 1) := by decide +kernel
theorem dMo_makeWords_11 : decode cMo_makeWords 11 = .ok (.getfield 16, 3) := by decide +kernel
theorem dMo_makeWords_14 : decode cMo_makeWords 14 = .ok (.iload 5, 2) := by decide +kernel
theorem dMo_makeWords_16 : decode cMo_makeWords 16 = .ok (.iload 5, 2) := by decide +kernel
theorem dMo_makeWords_18 : decode cMo_makeWords 18 = .ok (.bipush 8, 2) := by decide +kernel
theorem dMo_makeWords_20 : decode cMo_makeWords 20 = .ok (.if_icmp .ge 7, 3) := by decide +kernel
theorem dMo_makeWords_23 : decode cMo_makeWords 23 = .ok (.lload_n 1, 1) := by decide +kernel
theorem dMo_makeWords_24 : decode cMo_makeWords 24 = .ok (.goto 4, 3) := by decide +kernel
theorem dMo_makeWords_27 : decode cMo_makeWords 27 = .ok (.lload_n 3, 1) := by decide +kernel
theorem dMo_makeWords_28 : decode cMo_makeWords 28 = .ok (.bipush 56, 2) := by decide +kernel
theorem dMo_makeWords_30 : decode cMo_makeWords 30 = .ok (.bipush 8, 2) := by decide +kernel
theorem dMo_makeWords_32 : decode cMo_makeWords 32 = .ok (.iload 5, 2) := by decide +kernel
theorem dMo_makeWords_34 : decode cMo_makeWords 34 = .ok (.bipush 8, 2) := by decide +kernel
theorem dMo_makeWords_36 : decode cMo_makeWords 36 = .ok (.irem, 1) := by decide +kernel
theorem dMo_makeWords_37 : decode cMo_makeWords 37 = .ok (.imul, 1) := by decide +kernel
theorem dMo_makeWords_38 : decode cMo_makeWords 38 = .ok (.isub, 1) := by decide +kernel
theorem dMo_makeWords_39 : decode cMo_makeWords 39 = .ok (.lshr, 1) := by decide +kernel
theorem dMo_makeWords_40 : decode cMo_makeWords 40 = .ok (.l2i, 1) := by decide +kernel
theorem dMo_makeWords_41 : decode cMo_makeWords 41 = .ok (.sipush 255, 3) := by decide +kernel
theorem dMo_makeWords_44 : decode cMo_makeWords 44 = .ok (.iand, 1) := by decide +kernel
theorem dMo_makeWords_45 : decode cMo_makeWords 45 = .ok (.iastore, 1) := by decide +kernel
theorem dMo_makeWords_46 : decode cMo_makeWords 46 = .ok (.iinc 5 1, 3) := by decide +kernel
theorem dMo_makeWords_49 : decode cMo_makeWords 49 = .ok (.goto (-46), 3) := by decide +kernel
theorem dMo_makeWords_52 : decode cMo_makeWords 52 = .ok (.iconst 1, 1) := by decide +kernel
theorem dMo_makeWords_53 : decode cMo_makeWords 53 = .ok (.istore 5, 2) := by decide +kernel
theorem dMo_makeWords_55 : decode cMo_makeWords 55 = .ok (.iconst 4, 1) := by decide +kernel
theorem dMo_makeWords_56 : decode cMo_makeWords 56 = .ok (.istore 6, 2) := by decide +kernel
theorem dMo_makeWords_58 : decode cMo_makeWords 58 = .ok (.iload 6, 2) := by decide +kernel
theorem dMo_makeWords_60 : decode cMo_makeWords 60 = .ok (.bipush 44, 2) := by decide +kernel
theorem dMo_makeWords_62 : decode cMo_makeWords 62 = .ok (.if_icmp .ge 134, 3) := by decide +kernel
theorem dMo_makeWords_65 : decode cMo_makeWords 65 = .ok (.iconst 0, 1) := by decide +kernel
theorem dMo_makeWords_66 : decode cMo_makeWords 66 = .ok (.istore 7, 2) := by decide +kernel
theorem dMo_makeWords_68 : decode cMo_makeWords 68 = .ok (.iload 7, 2) := by decide +kernel
theorem dMo_makeWords_70 : decode cMo_makeWords 70 = .ok (.iconst 4, 1) := by decide +kernel
theorem dMo_makeWords_71 : decode cMo_makeWords 71 = .ok (.if_icmp .ge 99, 3) := by decide +kernel
theorem dMo_makeWords_74 : decode cMo_makeWords 74 = .ok (.aload_n 0, 1) := by decide +kernel
theorem dMo_makeWords_75 : decode cMo_makeWords 75 = .ok (.getfield 16, 3) := by decide +kernel
theorem dMo_makeWords_78 : decode cMo_makeWords 78 = .ok (.iconst 4, 1) := by decide +kernel
theorem dMo_makeWords_79 : decode cMo_makeWords 79 = .ok (.iload 6, 2) := by decide +kernel
theorem dMo_makeWords_81 : decode cMo_makeWords 81 = .ok (.imul, 1) := by decide +kernel
theorem dMo_makeWords_82 : decode cMo_makeWords 82 = .ok (.iconst 4, 1) := by decide +kernel
theorem dMo_makeWords_83 : decode cMo_makeWords 83 = .ok (.isub, 1) := by decide +kernel
theorem dMo_makeWords_84 : decode cMo_makeWords 84 = .ok (.iload 7, 2) := by decide +kernel
theorem dMo_makeWords_86 : decode cMo_makeWords 86 = .ok (.iadd, 1) := by decide +kernel
theorem dMo_makeWords_87 : decode cMo_makeWords 87 = .ok (.iaload, 1) := by decide +kernel
theorem dMo_makeWords_88 : decode cMo_makeWords 88 = .ok (.istore 8, 2) := by decide +kernel
theorem dMo_makeWords_90 : decode cMo_makeWords 90 = .ok (.iload 6, 2) := by decide +kernel
theorem dMo_makeWords_92 : decode cMo_makeWords 92 = .ok (.iconst 4, 1) := by decide +kernel
theorem dMo_makeWords_93 : decode cMo_makeWords 93 = .ok (.irem, 1) := by decide +kernel
theorem dMo_makeWords_94 : decode cMo_makeWords 94 = .ok (.ifCond .ne 40, 3) := by decide +kernel
theorem dMo_makeWords_97 : decode cMo_makeWords 97 = .ok (.aload_n 0, 1) := by decide +kernel
theorem dMo_makeWords_98 : decode cMo_makeWords 98 = .ok (.getfield 7, 3) := by decide +kernel
theorem dMo_makeWords_101 : decode cMo_makeWords 101 = .ok (.aload_n 0, 1) := by decide +kernel
theorem dMo_makeWords_102 : decode cMo_makeWords 102 = .ok (.getfield 16, 3) := by decide +kernel
theorem dMo_makeWords_105 : decode cMo_makeWords 105 = .ok (.iconst 4, 1) := by decide +kernel
theorem dMo_makeWords_106 : decode cMo_makeWords 106 = .ok (.iload 6, 2) := by decide +kernel
theorem dMo_makeWords_108 : decode cMo_makeWords 108 = .ok (.imul, 1) := by decide +kernel
theorem dMo_makeWords_109 : decode cMo_makeWords 109 = .ok (.iconst 4, 1) := by decide +kernel
theorem dMo_makeWords_110 : decode cMo_makeWords 110 = .ok (.isub, 1) := by decide +kernel
theorem dMo_makeWords_111 : decode cMo_makeWords 111 = .ok (.iload 7, 2) := by decide +kernel
theorem dMo_makeWords_113 : decode cMo_makeWords 113 = .ok (.iconst 1, 1) := by decide +kernel
theorem dMo_makeWords_114 : decode cMo_makeWords 114 = .ok (.iadd, 1) := by decide +kernel
theorem dMo_makeWords_115 : decode cMo_makeWords 115 = .ok (.iconst 4, 1) := by decide +kernel
theorem dMo_makeWords_116 : decode cMo_makeWords 116 = .ok (.irem, 1) := by decide +kernel
theorem dMo_makeWords_117 : decode cMo_makeWords 117 = .ok (.iadd, 1) := by decide +kernel
theorem dMo_makeWords_118 : decode cMo_makeWords 118 = .ok (.iaload, 1) := by decide +kernel
theorem dMo_makeWords_119 : decode cMo_makeWords 119 = .ok (.iaload, 1) := by decide +kernel
theorem dMo_makeWords_120 : decode cMo_makeWords 120 = .ok (.iload 7, 2) := by decide +kernel
theorem dMo_makeWords_122 : decode cMo_makeWords 122 = .ok (.ifCond .ne 8, 3) := by decide +kernel
theorem dMo_makeWords_125 : decode cMo_makeWords 125 = .ok (.iload 5, 2) := by decide +kernel
theorem dMo_makeWords_127 : decode cMo_makeWords 127 = .ok (.goto 4, 3) := by decide +kernel
theorem dMo_makeWords_130 : decode cMo_makeWords 130 = .ok (.iconst 0, 1) := by decide +kernel
theorem dMo_makeWords_131 : decode cMo_makeWords 131 = .ok (.ixor, 1) := by decide +kernel
theorem dMo_makeWords_132 : decode cMo_makeWords 132 = .ok (.istore 8, 2) := by decide +kernel
theorem dMo_makeWords_134 : decode cMo_makeWords 134 = .ok (.aload_n 0, 1) := by decide +kernel
theorem dMo_makeWords_135 : decode cMo_makeWords 135 = .ok (.getfield 16, 3) := by decide +kernel
theorem dMo_makeWords_138 : decode cMo_makeWords 138 = .ok (.iconst 4, 1) := by decide +kernel
theorem dMo_makeWords_139 : decode cMo_makeWords 139 = .ok (.iload 6, 2) := by decide +kernel
theorem dMo_makeWords_141 : decode cMo_makeWords 141 = .ok (.imul, 1) := by decide +kernel
theorem dMo_makeWords_142 : decode cMo_makeWords 142 = .ok (.iload 7, 2) := by decide +kernel
theorem dMo_makeWords_144 : decode cMo_makeWords 144 = .ok (.iadd, 1) := by decide +kernel
theorem dMo_makeWords_145 : decode cMo_makeWords 145 = .ok (.aload_n 0, 1) := by decide +kernel
theorem dMo_makeWords_146 : decode cMo_makeWords 146 = .ok (.getfield 16, 3) := by decide +kernel
theorem dMo_makeWords_149 : decode cMo_makeWords 149 = .ok (.iconst 4, 1) := by decide +kernel
theorem dMo_makeWords_150 : decode cMo_makeWords 150 = .ok (.iload 6, 2) := by decide +kernel
theorem dMo_makeWords_152 : decode cMo_makeWords 152 = .ok (.imul, 1) := by decide +kernel
theorem dMo_makeWords_153 : decode cMo_makeWords 153 = .ok (.bipush 16, 2) := by decide +kernel
theorem dMo_makeWords_155 : decode cMo_makeWords 155 = .ok (.isub, 1) := by decide +kernel
theorem dMo_makeWords_156 : decode cMo_makeWords 156 = .ok (.iload 7, 2) := by decide +kernel
theorem dMo_makeWords_158 : decode cMo_makeWords 158 = .ok (.iadd, 1) := by decide +kernel
theorem dMo_makeWords_159 : decode cMo_makeWords 159 = .ok (.iaload, 1) := by decide +kernel
theorem dMo_makeWords_160 : decode cMo_makeWords 160 = .ok (.iload 8, 2) := by decide +kernel
theorem dMo_makeWords_162 : decode cMo_makeWords 162 = .ok (.ixor, 1) := by decide +kernel
theorem dMo_makeWords_163 : decode cMo_makeWords 163 = .ok (.iastore, 1) := by decide +kernel
theorem dMo_makeWords_164 : decode cMo_makeWords 164 = .ok (.iinc 7 1, 3) := by decide +kernel
theorem dMo_makeWords_167 : decode cMo_makeWords 167 = .ok (.goto (-99), 3) := by decide +kernel
theorem dMo_makeWords_170 : decode cMo_makeWords 170 = .ok (.iload 6, 2) := by decide +kernel
theorem dMo_makeWords_172 : decode cMo_makeWords 172 = .ok (.iconst 4, 1) := by decide +kernel
theorem dMo_makeWords_173 : decode cMo_makeWords 173 = .ok (.irem, 1) := by decide +kernel
theorem dMo_makeWords_174 : decode cMo_makeWords 174 = .ok (.ifCond .ne 12, 3) := by decide +kernel
theorem dMo_makeWords_177 : decode cMo_makeWords 177 = .ok (.iload 5, 2) := by decide +kernel
theorem dMo_makeWords_179 : decode cMo_makeWords 179 = .ok (.iconst 2, 1) := by decide +kernel
theorem dMo_makeWords_180 : decode cMo_makeWords 180 = .ok (.invokestatic 78, 3) := by decide +kernel
theorem dMo_makeWords_183 : decode cMo_makeWords 183 = .ok (.goto 5, 3) := by decide +kernel
theorem dMo_makeWords_186 : decode cMo_makeWords 186 = .ok (.iload 5, 2) := by decide +kernel
theorem dMo_makeWords_188 : decode cMo_makeWords 188 = .ok (.istore 5, 2) := by decide +kernel
theorem dMo_makeWords_190 : decode cMo_makeWords 190 = .ok (.iinc 6 1, 3) := by decide +kernel
theorem dMo_makeWords_193 : decode cMo_makeWords 193 = .ok (.goto (-135), 3) := by decide +kernel
theorem dMo_makeWords_196 : decode cMo_makeWords 196 = .ok (.return_, 1) := by decide +kernel
theorem dMo_hear_0 : decode cMo_hear 0 = .ok (.aload_n 0, 1) := by decide +kernel
theorem dMo_hear_1 : decode cMo_hear 1 = .ok (.aload_n 0, 1) := by decide +kernel
theorem dMo_hear_2 : decode cMo_hear 2 = .ok (.iload_n 1, 1) := by decide +kernel
theorem dMo_hear_3 : decode cMo_hear 3 = .ok (.invokevirtual 158, 3) := by decide +kernel
theorem dMo_hear_6 : decode cMo_hear 6 = .ok (.ifCond .ne 7, 3) := by decide +kernel
theorem dMo_hear_9 : decode cMo_hear 9 = .ok (.iconst 1, 1) := by decide +kernel
theorem dMo_hear_10 : decode cMo_hear 10 = .ok (.goto 24, 3) := by decide +kernel
theorem dMo_hear_13 : decode cMo_hear 13 = .ok (.aload_n 0, 1) := by decide +kernel
theorem dMo_hear_14 : decode cMo_hear 14 = .ok (.getfield 25, 3) := by decide +kernel
theorem dMo_hear_17 : decode cMo_hear 17 = .ok (.iload_n 1, 1) := by decide +kernel
theorem dMo_hear_18 : decode cMo_hear 18 = .ok (.baload, 1) := by decide +kernel
theorem dMo_hear_19 : decode cMo_hear 19 = .ok (.ifCond .eq 10, 3) := by decide +kernel
theorem dMo_hear_22 : decode cMo_hear 22 = .ok (.aload_n 0, 1) := by decide +kernel
theorem dMo_hear_23 : decode cMo_hear 23 = .ok (.getfield 136, 3) := by decide +kernel
theorem dMo_hear_26 : decode cMo_hear 26 = .ok (.ifCond .ne 7, 3) := by decide +kernel
theorem dMo_hear_29 : decode cMo_hear 29 = .ok (.iconst 2, 1) := by decide +kernel
theorem dMo_hear_30 : decode cMo_hear 30 = .ok (.goto 4, 3) := by decide +kernel
theorem dMo_hear_33 : decode cMo_hear 33 = .ok (.iconst 0, 1) := by decide +kernel
theorem dMo_hear_34 : decode cMo_hear 34 = .ok (.putfield 74, 3) := by decide +kernel
theorem dMo_hear_37 : decode cMo_hear 37 = .ok (.aload_n 0, 1) := by decide +kernel
theorem dMo_hear_38 : decode cMo_hear 38 = .ok (.getfield 74, 3) := by decide +kernel
theorem dMo_hear_41 : decode cMo_hear 41 = .ok (.ifCond .gt 13, 3) := by decide +kernel
theorem dMo_hear_44 : decode cMo_hear 44 = .ok (.aload_n 0, 1) := by decide +kernel
theorem dMo_hear_45 : decode cMo_hear 45 = .ok (.getfield 54, 3) := by decide +kernel
theorem dMo_hear_48 : decode cMo_hear 48 = .ok (.iconst 0, 1) := by decide +kernel
theorem dMo_hear_49 : decode cMo_hear 49 = .ok (.iaload, 1) := by decide +kernel
theorem dMo_hear_50 : decode cMo_hear 50 = .ok (.iconst 3, 1) := by decide +kernel
theorem dMo_hear_51 : decode cMo_hear 51 = .ok (.if_icmp .le 5, 3) := by decide +kernel
theorem dMo_hear_54 : decode cMo_hear 54 = .ok (.iconst 0, 1) := by decide +kernel
theorem dMo_hear_55 : decode cMo_hear 55 = .ok (.ireturn, 1) := by decide +kernel
theorem dMo_hear_56 : decode cMo_hear 56 = .ok (.iconst 0, 1) := by decide +kernel
theorem dMo_hear_57 : decode cMo_hear 57 = .ok (.istore_n 2, 1) := by decide +kernel
theorem dMo_hear_58 : decode cMo_hear 58 = .ok (.iconst 5, 1) := by decide +kernel
theorem dMo_hear_59 : decode cMo_hear 59 = .ok (.istore_n 3, 1) := by decide +kernel
theorem dMo_hear_60 : decode cMo_hear 60 = .ok (.iload_n 3, 1) := by decide +kernel
theorem dMo_hear_61 : decode cMo_hear 61 = .ok (.aload_n 0, 1) := by decide +kernel
theorem dMo_hear_62 : decode cMo_hear 62 = .ok (.getfield 136, 3) := by decide +kernel
theorem dMo_hear_65 : decode cMo_hear 65 = .ok (.if_icmp .ge 186, 3) := by decide +kernel
theorem dMo_hear_68 : decode cMo_hear 68 = .ok (.aload_n 0, 1) := by decide +kernel
theorem dMo_hear_69 : decode cMo_hear 69 = .ok (.iload_n 3, 1) := by decide +kernel
theorem dMo_hear_70 : decode cMo_hear 70 = .ok (.iconst 2, 1) := by decide +kernel
theorem dMo_hear_71 : decode cMo_hear 71 = .ok (.invokevirtual 178, 3) := by decide +kernel
theorem dMo_hear_74 : decode cMo_hear 74 = .ok (.l2i, 1) := by decide +kernel
theorem dMo_hear_75 : decode cMo_hear 75 = .ok (.istore 4, 2) := by decide +kernel
theorem dMo_hear_77 : decode cMo_hear 77 = .ok (.aload_n 0, 1) := by decide +kernel
theorem dMo_hear_78 : decode cMo_hear 78 = .ok (.iload_n 3, 1) := by decide +kernel
theorem dMo_hear_79 : decode cMo_hear 79 = .ok (.iconst 2, 1) := by decide +kernel
theorem dMo_hear_80 : decode cMo_hear 80 = .ok (.iadd, 1) := by decide +kernel
theorem dMo_hear_81 : decode cMo_hear 81 = .ok (.iconst 2, 1) := by decide +kernel
theorem dMo_hear_82 : decode cMo_hear 82 = .ok (.invokevirtual 178, 3) := by decide +kernel
theorem dMo_hear_85 : decode cMo_hear 85 = .ok (.l2i, 1) := by decide +kernel
theorem dMo_hear_86 : decode cMo_hear 86 = .ok (.istore 5, 2) := by decide +kernel
theorem dMo_hear_88 : decode cMo_hear 88 = .ok (.aload_n 0, 1) := by decide +kernel
theorem dMo_hear_89 : decode cMo_hear 89 = .ok (.iload 4, 2) := by decide +kernel
theorem dMo_hear_91 : decode cMo_hear 91 = .ok (.iload 5, 2) := by decide +kernel
theorem dMo_hear_93 : decode cMo_hear 93 = .ok (.invokevirtual 182, 3) := by decide +kernel
theorem dMo_hear_96 : decode cMo_hear 96 = .ok (.ifCond .eq 149, 3) := by decide +kernel
theorem dMo_hear_99 : decode cMo_hear 99 = .ok (.aload_n 0, 1) := by decide +kernel
theorem dMo_hear_100 : decode cMo_hear 100 = .ok (.iload 4, 2) := by decide +kernel
theorem dMo_hear_102 : decode cMo_hear 102 = .ok (.iload 5, 2) := by decide +kernel
theorem dMo_hear_104 : decode cMo_hear 104 = .ok (.iload_n 1, 1) := by decide +kernel
theorem dMo_hear_105 : decode cMo_hear 105 = .ok (.invokevirtual 185, 3) := by decide +kernel
theorem dMo_hear_108 : decode cMo_hear 108 = .ok (.ifCond .eq 137, 3) := by decide +kernel
theorem dMo_hear_111 : decode cMo_hear 111 = .ok (.aload_n 0, 1) := by decide +kernel
theorem dMo_hear_112 : decode cMo_hear 112 = .ok (.aload_n 0, 1) := by decide +kernel
theorem dMo_hear_113 : decode cMo_hear 113 = .ok (.iload_n 3, 1) := by decide +kernel
theorem dMo_hear_114 : decode cMo_hear 114 = .ok (.iconst 4, 1) := by decide +kernel
theorem dMo_hear_115 : decode cMo_hear 115 = .ok (.iadd, 1) := by decide +kernel
theorem dMo_hear_116 : decode cMo_hear 116 = .ok (.bipush 8, 2) := by decide +kernel
theorem dMo_hear_118 : decode cMo_hear 118 = .ok (.invokevirtual 178, 3) := by decide +kernel
theorem dMo_hear_121 : decode cMo_hear 121 = .ok (.putfield 111, 3) := by decide +kernel
theorem dMo_hear_124 : decode cMo_hear 124 = .ok (.aload_n 0, 1) := by decide +kernel
theorem dMo_hear_125 : decode cMo_hear 125 = .ok (.aload_n 0, 1) := by decide +kernel
theorem dMo_hear_126 : decode cMo_hear 126 = .ok (.iload_n 3, 1) := by decide +kernel
theorem dMo_hear_127 : decode cMo_hear 127 = .ok (.bipush 12, 2) := by decide +kernel
theorem dMo_hear_129 : decode cMo_hear 129 = .ok (.iadd, 1) := by decide +kernel
theorem dMo_hear_130 : decode cMo_hear 130 = .ok (.bipush 8, 2) := by decide +kernel
theorem dMo_hear_132 : decode cMo_hear 132 = .ok (.invokevirtual 178, 3) := by decide +kernel
theorem dMo_hear_135 : decode cMo_hear 135 = .ok (.putfield 114, 3) := by decide +kernel
theorem dMo_hear_138 : decode cMo_hear 138 = .ok (.aload_n 0, 1) := by decide +kernel
theorem dMo_hear_139 : decode cMo_hear 139 = .ok (.aload_n 0, 1) := by decide +kernel
theorem dMo_hear_140 : decode cMo_hear 140 = .ok (.iload_n 3, 1) := by decide +kernel
theorem dMo_hear_141 : decode cMo_hear 141 = .ok (.bipush 20, 2) := by decide +kernel
theorem dMo_hear_143 : decode cMo_hear 143 = .ok (.iadd, 1) := by decide +kernel
theorem dMo_hear_144 : decode cMo_hear 144 = .ok (.bipush 8, 2) := by decide +kernel
theorem dMo_hear_146 : decode cMo_hear 146 = .ok (.invokevirtual 178, 3) := by decide +kernel
theorem dMo_hear_149 : decode cMo_hear 149 = .ok (.putfield 117, 3) := by decide +kernel
theorem dMo_hear_152 : decode cMo_hear 152 = .ok (.aload_n 0, 1) := by decide +kernel
theorem dMo_hear_153 : decode cMo_hear 153 = .ok (.iload 4, 2) := by decide +kernel
theorem dMo_hear_155 : decode cMo_hear 155 = .ok (.iload 5, 2) := by decide +kernel
theorem dMo_hear_157 : decode cMo_hear 157 = .ok (.invokevirtual 172, 3) := by decide +kernel
theorem dMo_hear_160 : decode cMo_hear 160 = .ok (.aload_n 0, 1) := by decide +kernel
theorem dMo_hear_161 : decode cMo_hear 161 = .ok (.aload_n 0, 1) := by decide +kernel
theorem dMo_hear_162 : decode cMo_hear 162 = .ok (.getfield 82, 3) := by decide +kernel
theorem dMo_hear_165 : decode cMo_hear 165 = .ok (.aload_n 0, 1) := by decide +kernel
theorem dMo_hear_166 : decode cMo_hear 166 = .ok (.getfield 86, 3) := by decide +kernel
theorem dMo_hear_169 : decode cMo_hear 169 = .ok (.invokevirtual 189, 3) := by decide +kernel
theorem dMo_hear_172 : decode cMo_hear 172 = .ok (.ifCond .eq 71, 3) := by decide +kernel
theorem dMo_hear_175 : decode cMo_hear 175 = .ok (.aload_n 0, 1) := by decide +kernel
theorem dMo_hear_176 : decode cMo_hear 176 = .ok (.getfield 57, 3) := by decide +kernel
theorem dMo_hear_179 : decode cMo_hear 179 = .ok (.sipush 256, 3) := by decide +kernel
theorem dMo_hear_182 : decode cMo_hear 182 = .ok (.aload_n 0, 1) := by decide +kernel
theorem dMo_hear_183 : decode cMo_hear 183 = .ok (.getfield 54, 3) := by decide +kernel
theorem dMo_hear_186 : decode cMo_hear 186 = .ok (.iconst 0, 1) := by decide +kernel
theorem dMo_hear_187 : decode cMo_hear 187 = .ok (.iaload, 1) := by decide +kernel
theorem dMo_hear_188 : decode cMo_hear 188 = .ok (.imul, 1) := by decide +kernel
theorem dMo_hear_189 : decode cMo_hear 189 = .ok (.iload_n 1, 1) := by decide +kernel
theorem dMo_hear_190 : decode cMo_hear 190 = .ok (.iadd, 1) := by decide +kernel
theorem dMo_hear_191 : decode cMo_hear 191 = .ok (.aload_n 0, 1) := by decide +kernel
theorem dMo_hear_192 : decode cMo_hear 192 = .ok (.iconst 1, 1) := by decide +kernel
theorem dMo_hear_193 : decode cMo_hear 193 = .ok (.iconst 2, 1) := by decide +kernel
theorem dMo_hear_194 : decode cMo_hear 194 = .ok (.invokevirtual 178, 3) := by decide +kernel
theorem dMo_hear_197 : decode cMo_hear 197 = .ok (.l2i, 1) := by decide +kernel
theorem dMo_hear_198 : decode cMo_hear 198 = .ok (.iastore, 1) := by decide +kernel
theorem dMo_hear_199 : decode cMo_hear 199 = .ok (.aload_n 0, 1) := by decide +kernel
theorem dMo_hear_200 : decode cMo_hear 200 = .ok (.getfield 60, 3) := by decide +kernel
theorem dMo_hear_203 : decode cMo_hear 203 = .ok (.sipush 256, 3) := by decide +kernel
theorem dMo_hear_206 : decode cMo_hear 206 = .ok (.aload_n 0, 1) := by decide +kernel
theorem dMo_hear_207 : decode cMo_hear 207 = .ok (.getfield 54, 3) := by decide +kernel
theorem dMo_hear_210 : decode cMo_hear 210 = .ok (.iconst 0, 1) := by decide +kernel
theorem dMo_hear_211 : decode cMo_hear 211 = .ok (.iaload, 1) := by decide +kernel
theorem dMo_hear_212 : decode cMo_hear 212 = .ok (.imul, 1) := by decide +kernel
theorem dMo_hear_213 : decode cMo_hear 213 = .ok (.iload_n 1, 1) := by decide +kernel
theorem dMo_hear_214 : decode cMo_hear 214 = .ok (.iadd, 1) := by decide +kernel
theorem dMo_hear_215 : decode cMo_hear 215 = .ok (.aload_n 0, 1) := by decide +kernel
theorem dMo_hear_216 : decode cMo_hear 216 = .ok (.getfield 114, 3) := by decide +kernel
theorem dMo_hear_219 : decode cMo_hear 219 = .ok (.lastore, 1) := by decide +kernel
theorem dMo_hear_220 : decode cMo_hear 220 = .ok (.aload_n 0, 1) := by decide +kernel
theorem dMo_hear_221 : decode cMo_hear 221 = .ok (.getfield 63, 3) := by decide +kernel
theorem dMo_hear_224 : decode cMo_hear 224 = .ok (.sipush 256, 3) := by decide +kernel
theorem dMo_hear_227 : decode cMo_hear 227 = .ok (.aload_n 0, 1) := by decide +kernel
theorem dMo_hear_228 : decode cMo_hear 228 = .ok (.getfield 54, 3) := by decide +kernel
theorem dMo_hear_231 : decode cMo_hear 231 = .ok (.iconst 0, 1) := by decide +kernel
theorem dMo_hear_232 : decode cMo_hear 232 = .ok (.iaload, 1) := by decide +kernel
theorem dMo_hear_233 : decode cMo_hear 233 = .ok (.imul, 1) := by decide +kernel
theorem dMo_hear_234 : decode cMo_hear 234 = .ok (.iload_n 1, 1) := by decide +kernel
theorem dMo_hear_235 : decode cMo_hear 235 = .ok (.iadd, 1) := by decide +kernel
theorem dMo_hear_236 : decode cMo_hear 236 = .ok (.aload_n 0, 1) := by decide +kernel
theorem dMo_hear_237 : decode cMo_hear 237 = .ok (.getfield 117, 3) := by decide +kernel
theorem dMo_hear_240 : decode cMo_hear 240 = .ok (.lastore, 1) := by decide +kernel
theorem dMo_hear_241 : decode cMo_hear 241 = .ok (.iconst 1, 1) := by decide +kernel
theorem dMo_hear_242 : decode cMo_hear 242 = .ok (.ireturn, 1) := by decide +kernel
theorem dMo_hear_243 : decode cMo_hear 243 = .ok (.iconst (-1), 1) := by decide +kernel
theorem dMo_hear_244 : decode cMo_hear 244 = .ok (.istore_n 2, 1) := by decide +kernel
theorem dMo_hear_245 : decode cMo_hear 245 = .ok (.iinc 3 28, 3) := by decide +kernel
theorem dMo_hear_248 : decode cMo_hear 248 = .ok (.goto (-188), 3) := by decide +kernel
theorem dMo_hear_251 : decode cMo_hear 251 = .ok (.iload_n 2, 1) := by decide +kernel
theorem dMo_hear_252 : decode cMo_hear 252 = .ok (.ireturn, 1) := by decide +kernel
theorem dMo_label_0 : decode cMo_label 0 = .ok (.aload_n 0, 1) := by decide +kernel
theorem dMo_label_1 : decode cMo_label 1 = .ok (.iload_n 1, 1) := by decide +kernel
theorem dMo_label_2 : decode cMo_label 2 = .ok (.invokevirtual 158, 3) := by decide +kernel
theorem dMo_label_5 : decode cMo_label 5 = .ok (.ifCond .eq 16, 3) := by decide +kernel
theorem dMo_label_8 : decode cMo_label 8 = .ok (.aload_n 0, 1) := by decide +kernel
theorem dMo_label_9 : decode cMo_label 9 = .ok (.getfield 25, 3) := by decide +kernel
theorem dMo_label_12 : decode cMo_label 12 = .ok (.iload_n 1, 1) := by decide +kernel
theorem dMo_label_13 : decode cMo_label 13 = .ok (.baload, 1) := by decide +kernel
theorem dMo_label_14 : decode cMo_label 14 = .ok (.ifCond .eq 7, 3) := by decide +kernel
theorem dMo_label_17 : decode cMo_label 17 = .ok (.iconst 1, 1) := by decide +kernel
theorem dMo_label_18 : decode cMo_label 18 = .ok (.goto 4, 3) := by decide +kernel
theorem dMo_label_21 : decode cMo_label 21 = .ok (.iconst 0, 1) := by decide +kernel
theorem dMo_label_22 : decode cMo_label 22 = .ok (.istore 4, 2) := by decide +kernel
theorem dMo_label_24 : decode cMo_label 24 = .ok (.aload_n 0, 1) := by decide +kernel
theorem dMo_label_25 : decode cMo_label 25 = .ok (.aload_n 0, 1) := by decide +kernel
theorem dMo_label_26 : decode cMo_label 26 = .ok (.iload_n 1, 1) := by decide +kernel
theorem dMo_label_27 : decode cMo_label 27 = .ok (.invokevirtual 158, 3) := by decide +kernel
theorem dMo_label_30 : decode cMo_label 30 = .ok (.ifCond .ne 7, 3) := by decide +kernel
theorem dMo_label_33 : decode cMo_label 33 = .ok (.iconst 1, 1) := by decide +kernel
theorem dMo_label_34 : decode cMo_label 34 = .ok (.goto 47, 3) := by decide +kernel
theorem dMo_label_37 : decode cMo_label 37 = .ok (.iload 4, 2) := by decide +kernel
theorem dMo_label_39 : decode cMo_label 39 = .ok (.ifCond .ne 7, 3) := by decide +kernel
theorem dMo_label_42 : decode cMo_label 42 = .ok (.iconst 2, 1) := by decide +kernel
theorem dMo_label_43 : decode cMo_label 43 = .ok (.goto 38, 3) := by decide +kernel
theorem dMo_label_46 : decode cMo_label 46 = .ok (.iload_n 3, 1) := by decide +kernel
theorem dMo_label_47 : decode cMo_label 47 = .ok (.ifCond .lt 29, 3) := by decide +kernel
theorem dMo_label_50 : decode cMo_label 50 = .ok (.iload_n 3, 1) := by decide +kernel
theorem dMo_label_51 : decode cMo_label 51 = .ok (.iconst 3, 1) := by decide +kernel
theorem dMo_label_52 : decode cMo_label 52 = .ok (.if_icmp .gt 24, 3) := by decide +kernel
theorem dMo_label_55 : decode cMo_label 55 = .ok (.iload_n 2, 1) := by decide +kernel
theorem dMo_label_56 : decode cMo_label 56 = .ok (.ifCond .lt 20, 3) := by decide +kernel
theorem dMo_label_59 : decode cMo_label 59 = .ok (.iload_n 2, 1) := by decide +kernel
theorem dMo_label_60 : decode cMo_label 60 = .ok (.aload_n 0, 1) := by decide +kernel
theorem dMo_label_61 : decode cMo_label 61 = .ok (.getfield 127, 3) := by decide +kernel
theorem dMo_label_64 : decode cMo_label 64 = .ok (.aload_n 0, 1) := by decide +kernel
theorem dMo_label_65 : decode cMo_label 65 = .ok (.getfield 127, 3) := by decide +kernel
theorem dMo_label_68 : decode cMo_label 68 = .ok (.iconst 1, 1) := by decide +kernel
theorem dMo_label_69 : decode cMo_label 69 = .ok (.iadd, 1) := by decide +kernel
theorem dMo_label_70 : decode cMo_label 70 = .ok (.imul, 1) := by decide +kernel
theorem dMo_label_71 : decode cMo_label 71 = .ok (.iconst 2, 1) := by decide +kernel
theorem dMo_label_72 : decode cMo_label 72 = .ok (.idiv, 1) := by decide +kernel
theorem dMo_label_73 : decode cMo_label 73 = .ok (.if_icmp .lt 7, 3) := by decide +kernel
theorem dMo_label_76 : decode cMo_label 76 = .ok (.iconst 3, 1) := by decide +kernel
theorem dMo_label_77 : decode cMo_label 77 = .ok (.goto 4, 3) := by decide +kernel
theorem dMo_label_80 : decode cMo_label 80 = .ok (.iconst 0, 1) := by decide +kernel
theorem dMo_label_81 : decode cMo_label 81 = .ok (.putfield 74, 3) := by decide +kernel
theorem dMo_label_84 : decode cMo_label 84 = .ok (.aload_n 0, 1) := by decide +kernel
theorem dMo_label_85 : decode cMo_label 85 = .ok (.getfield 74, 3) := by decide +kernel
theorem dMo_label_88 : decode cMo_label 88 = .ok (.ifCond .le 5, 3) := by decide +kernel
theorem dMo_label_91 : decode cMo_label 91 = .ok (.lconst 0, 1) := by decide +kernel
theorem dMo_label_92 : decode cMo_label 92 = .ok (.lreturn, 1) := by decide +kernel
theorem dMo_label_93 : decode cMo_label 93 = .ok (.aload_n 0, 1) := by decide +kernel
theorem dMo_label_94 : decode cMo_label 94 = .ok (.iload_n 1, 1) := by decide +kernel
theorem dMo_label_95 : decode cMo_label 95 = .ok (.invokevirtual 147, 3) := by decide +kernel
theorem dMo_label_98 : decode cMo_label 98 = .ok (.istore 5, 2) := by decide +kernel
theorem dMo_label_100 : decode cMo_label 100 = .ok (.iload_n 2, 1) := by decide +kernel
theorem dMo_label_101 : decode cMo_label 101 = .ok (.istore 6, 2) := by decide +kernel
theorem dMo_label_103 : decode cMo_label 103 = .ok (.iconst 0, 1) := by decide +kernel
theorem dMo_label_104 : decode cMo_label 104 = .ok (.istore 7, 2) := by decide +kernel
theorem dMo_label_106 : decode cMo_label 106 = .ok (.iload 6, 2) := by decide +kernel
theorem dMo_label_108 : decode cMo_label 108 = .ok (.aload_n 0, 1) := by decide +kernel
theorem dMo_label_109 : decode cMo_label 109 = .ok (.getfield 127, 3) := by decide +kernel
theorem dMo_label_112 : decode cMo_label 112 = .ok (.iload 7, 2) := by decide +kernel
theorem dMo_label_114 : decode cMo_label 114 = .ok (.isub, 1) := by decide +kernel
theorem dMo_label_115 : decode cMo_label 115 = .ok (.if_icmp .lt 21, 3) := by decide +kernel
theorem dMo_label_118 : decode cMo_label 118 = .ok (.iload 6, 2) := by decide +kernel
theorem dMo_label_120 : decode cMo_label 120 = .ok (.aload_n 0, 1) := by decide +kernel
theorem dMo_label_121 : decode cMo_label 121 = .ok (.getfield 127, 3) := by decide +kernel
theorem dMo_label_124 : decode cMo_label 124 = .ok (.iload 7, 2) := by decide +kernel
theorem dMo_label_126 : decode cMo_label 126 = .ok (.isub, 1) := by decide +kernel
theorem dMo_label_127 : decode cMo_label 127 = .ok (.isub, 1) := by decide +kernel
theorem dMo_label_128 : decode cMo_label 128 = .ok (.istore 6, 2) := by decide +kernel
theorem dMo_label_130 : decode cMo_label 130 = .ok (.iinc 7 1, 3) := by decide +kernel
theorem dMo_label_133 : decode cMo_label 133 = .ok (.goto (-27), 3) := by decide +kernel
theorem dMo_label_136 : decode cMo_label 136 = .ok (.iload 5, 2) := by decide +kernel
theorem dMo_label_138 : decode cMo_label 138 = .ok (.aload_n 0, 1) := by decide +kernel
theorem dMo_label_139 : decode cMo_label 139 = .ok (.getfield 127, 3) := by decide +kernel
theorem dMo_label_142 : decode cMo_label 142 = .ok (.iload 7, 2) := by decide +kernel
theorem dMo_label_144 : decode cMo_label 144 = .ok (.isub, 1) := by decide +kernel
theorem dMo_label_145 : decode cMo_label 145 = .ok (.ishr, 1) := by decide +kernel
theorem dMo_label_146 : decode cMo_label 146 = .ok (.istore 8, 2) := by decide +kernel
theorem dMo_label_148 : decode cMo_label 148 = .ok (.iload 5, 2) := by decide +kernel
theorem dMo_label_150 : decode cMo_label 150 = .ok (.aload_n 0, 1) := by decide +kernel
theorem dMo_label_151 : decode cMo_label 151 = .ok (.getfield 127, 3) := by decide +kernel
theorem dMo_label_154 : decode cMo_label 154 = .ok (.iload 7, 2) := by decide +kernel
theorem dMo_label_156 : decode cMo_label 156 = .ok (.isub, 1) := by decide +kernel
theorem dMo_label_157 : decode cMo_label 157 = .ok (.iconst 1, 1) := by decide +kernel
theorem dMo_label_158 : decode cMo_label 158 = .ok (.isub, 1) := by decide +kernel
theorem dMo_label_159 : decode cMo_label 159 = .ok (.iload 6, 2) := by decide +kernel
theorem dMo_label_161 : decode cMo_label 161 = .ok (.isub, 1) := by decide +kernel
theorem dMo_label_162 : decode cMo_label 162 = .ok (.ishr, 1) := by decide +kernel
theorem dMo_label_163 : decode cMo_label 163 = .ok (.iconst 1, 1) := by decide +kernel
theorem dMo_label_164 : decode cMo_label 164 = .ok (.ixor, 1) := by decide +kernel
theorem dMo_label_165 : decode cMo_label 165 = .ok (.istore 9, 2) := by decide +kernel
theorem dMo_label_167 : decode cMo_label 167 = .ok (.aload_n 0, 1) := by decide +kernel
theorem dMo_label_168 : decode cMo_label 168 = .ok (.iload 8, 2) := by decide +kernel
theorem dMo_label_170 : decode cMo_label 170 = .ok (.iload 9, 2) := by decide +kernel
theorem dMo_label_172 : decode cMo_label 172 = .ok (.invokevirtual 152, 3) := by decide +kernel
theorem dMo_label_175 : decode cMo_label 175 = .ok (.iload_n 3, 1) := by decide +kernel
theorem dMo_label_176 : decode cMo_label 176 = .ok (.ifCond .ne 9, 3) := by decide +kernel
theorem dMo_label_179 : decode cMo_label 179 = .ok (.iload 8, 2) := by decide +kernel
theorem dMo_label_181 : decode cMo_label 181 = .ok (.i2l, 1) := by decide +kernel
theorem dMo_label_182 : decode cMo_label 182 = .ok (.goto 30, 3) := by decide +kernel
theorem dMo_label_185 : decode cMo_label 185 = .ok (.iload_n 3, 1) := by decide +kernel
theorem dMo_label_186 : decode cMo_label 186 = .ok (.iconst 1, 1) := by decide +kernel
theorem dMo_label_187 : decode cMo_label 187 = .ok (.if_icmp .ne 9, 3) := by decide +kernel
theorem dMo_label_190 : decode cMo_label 190 = .ok (.iload 9, 2) := by decide +kernel
theorem dMo_label_192 : decode cMo_label 192 = .ok (.i2l, 1) := by decide +kernel
theorem dMo_label_193 : decode cMo_label 193 = .ok (.goto 19, 3) := by decide +kernel
theorem dMo_label_196 : decode cMo_label 196 = .ok (.iload_n 3, 1) := by decide +kernel
theorem dMo_label_197 : decode cMo_label 197 = .ok (.iconst 2, 1) := by decide +kernel
theorem dMo_label_198 : decode cMo_label 198 = .ok (.if_icmp .ne 10, 3) := by decide +kernel
theorem dMo_label_201 : decode cMo_label 201 = .ok (.aload_n 0, 1) := by decide +kernel
theorem dMo_label_202 : decode cMo_label 202 = .ok (.getfield 82, 3) := by decide +kernel
theorem dMo_label_205 : decode cMo_label 205 = .ok (.goto 7, 3) := by decide +kernel
theorem dMo_label_208 : decode cMo_label 208 = .ok (.aload_n 0, 1) := by decide +kernel
theorem dMo_label_209 : decode cMo_label 209 = .ok (.getfield 86, 3) := by decide +kernel
theorem dMo_label_212 : decode cMo_label 212 = .ok (.lreturn, 1) := by decide +kernel
