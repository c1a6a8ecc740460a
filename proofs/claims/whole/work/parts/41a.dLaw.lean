/-! the law's instructions -/
theorem dLa_law_0 : decode code 0 = .ok (.new 8, 3) := by decide +kernel
theorem dLa_law_3 : decode code 3 = .ok (.dup, 1) := by decide +kernel
theorem dLa_law_4 : decode code 4 = .ok (.invokespecial 76, 3) := by decide +kernel
theorem dLa_law_7 : decode code 7 = .ok (.astore_n 1, 1) := by decide +kernel
theorem dLa_law_8 : decode code 8 = .ok (.new 77, 3) := by decide +kernel
theorem dLa_law_11 : decode code 11 = .ok (.dup, 1) := by decide +kernel
theorem dLa_law_12 : decode code 12 = .ok (.invokespecial 79, 3) := by decide +kernel
theorem dLa_law_15 : decode code 15 = .ok (.astore_n 2, 1) := by decide +kernel
theorem dLa_law_16 : decode code 16 = .ok (.iconst 1, 1) := by decide +kernel
theorem dLa_law_17 : decode code 17 = .ok (.newarray .long, 2) := by decide +kernel
theorem dLa_law_19 : decode code 19 = .ok (.astore_n 3, 1) := by decide +kernel
theorem dLa_law_20 : decode code 20 = .ok (.iconst 0, 1) := by decide +kernel
theorem dLa_law_21 : decode code 21 = .ok (.istore 4, 2) := by decide +kernel
theorem dLa_law_23 : decode code 23 = .ok (.iload 4, 2) := by decide +kernel
theorem dLa_law_25 : decode code 25 = .ok (.aload_n 0, 1) := by decide +kernel
theorem dLa_law_26 : decode code 26 = .ok (.arraylength, 1) := by decide +kernel
theorem dLa_law_27 : decode code 27 = .ok (.bipush 9, 2) := by decide +kernel
theorem dLa_law_29 : decode code 29 = .ok (.isub, 1) := by decide +kernel
theorem dLa_law_30 : decode code 30 = .ok (.if_icmp .gt 1617, 3) := by decide +kernel
theorem dLa_law_33 : decode code 33 = .ok (.aload_n 0, 1) := by decide +kernel
theorem dLa_law_34 : decode code 34 = .ok (.iload 4, 2) := by decide +kernel
theorem dLa_law_36 : decode code 36 = .ok (.iaload, 1) := by decide +kernel
theorem dLa_law_37 : decode code 37 = .ok (.bipush 31, 2) := by decide +kernel
theorem dLa_law_39 : decode code 39 = .ok (.iand, 1) := by decide +kernel
theorem dLa_law_40 : decode code 40 = .ok (.tableswitch 1601 0 16 #[84, 208, 264, 367, 511, 579, 635, 683, 739, 807, 979, 1165, 1207, 1303, 1382, 1450, 1545], 84) := by decide +kernel
theorem dLa_law_124 : decode code 124 = .ok (.aload_n 1, 1) := by decide +kernel
theorem dLa_law_125 : decode code 125 = .ok (.aload_n 0, 1) := by decide +kernel
theorem dLa_law_126 : decode code 126 = .ok (.iload 4, 2) := by decide +kernel
theorem dLa_law_128 : decode code 128 = .ok (.iconst 1, 1) := by decide +kernel
theorem dLa_law_129 : decode code 129 = .ok (.iadd, 1) := by decide +kernel
theorem dLa_law_130 : decode code 130 = .ok (.iaload, 1) := by decide +kernel
theorem dLa_law_131 : decode code 131 = .ok (.aload_n 0, 1) := by decide +kernel
theorem dLa_law_132 : decode code 132 = .ok (.iload 4, 2) := by decide +kernel
theorem dLa_law_134 : decode code 134 = .ok (.iconst 2, 1) := by decide +kernel
theorem dLa_law_135 : decode code 135 = .ok (.iadd, 1) := by decide +kernel
theorem dLa_law_136 : decode code 136 = .ok (.iaload, 1) := by decide +kernel
theorem dLa_law_137 : decode code 137 = .ok (.i2l, 1) := by decide +kernel
theorem dLa_law_138 : decode code 138 = .ok (.bipush 32, 2) := by decide +kernel
theorem dLa_law_140 : decode code 140 = .ok (.lshl, 1) := by decide +kernel
theorem dLa_law_141 : decode code 141 = .ok (.aload_n 0, 1) := by decide +kernel
theorem dLa_law_142 : decode code 142 = .ok (.iload 4, 2) := by decide +kernel
theorem dLa_law_144 : decode code 144 = .ok (.iconst 3, 1) := by decide +kernel
theorem dLa_law_145 : decode code 145 = .ok (.iadd, 1) := by decide +kernel
theorem dLa_law_146 : decode code 146 = .ok (.iaload, 1) := by decide +kernel
theorem dLa_law_147 : decode code 147 = .ok (.i2l, 1) := by decide +kernel
theorem dLa_law_148 : decode code 148 = .ok (.ldc2_w 80, 3) := by decide +kernel
theorem dLa_law_151 : decode code 151 = .ok (.land, 1) := by decide +kernel
theorem dLa_law_152 : decode code 152 = .ok (.lor, 1) := by decide +kernel
theorem dLa_law_153 : decode code 153 = .ok (.aload_n 0, 1) := by decide +kernel
theorem dLa_law_154 : decode code 154 = .ok (.iload 4, 2) := by decide +kernel
theorem dLa_law_156 : decode code 156 = .ok (.iconst 4, 1) := by decide +kernel
theorem dLa_law_157 : decode code 157 = .ok (.iadd, 1) := by decide +kernel
theorem dLa_law_158 : decode code 158 = .ok (.iaload, 1) := by decide +kernel
theorem dLa_law_159 : decode code 159 = .ok (.i2l, 1) := by decide +kernel
theorem dLa_law_160 : decode code 160 = .ok (.bipush 32, 2) := by decide +kernel
theorem dLa_law_162 : decode code 162 = .ok (.lshl, 1) := by decide +kernel
theorem dLa_law_163 : decode code 163 = .ok (.aload_n 0, 1) := by decide +kernel
theorem dLa_law_164 : decode code 164 = .ok (.iload 4, 2) := by decide +kernel
theorem dLa_law_166 : decode code 166 = .ok (.iconst 5, 1) := by decide +kernel
theorem dLa_law_167 : decode code 167 = .ok (.iadd, 1) := by decide +kernel
theorem dLa_law_168 : decode code 168 = .ok (.iaload, 1) := by decide +kernel
theorem dLa_law_169 : decode code 169 = .ok (.i2l, 1) := by decide +kernel
theorem dLa_law_170 : decode code 170 = .ok (.ldc2_w 80, 3) := by decide +kernel
theorem dLa_law_173 : decode code 173 = .ok (.land, 1) := by decide +kernel
theorem dLa_law_174 : decode code 174 = .ok (.lor, 1) := by decide +kernel
theorem dLa_law_175 : decode code 175 = .ok (.invokestatic 82, 3) := by decide +kernel
theorem dLa_law_178 : decode code 178 = .ok (.istore 5, 2) := by decide +kernel
theorem dLa_law_180 : decode code 180 = .ok (.aload_n 2, 1) := by decide +kernel
theorem dLa_law_181 : decode code 181 = .ok (.aload_n 0, 1) := by decide +kernel
theorem dLa_law_182 : decode code 182 = .ok (.iload 4, 2) := by decide +kernel
theorem dLa_law_184 : decode code 184 = .ok (.iconst 1, 1) := by decide +kernel
theorem dLa_law_185 : decode code 185 = .ok (.iadd, 1) := by decide +kernel
theorem dLa_law_186 : decode code 186 = .ok (.iaload, 1) := by decide +kernel
theorem dLa_law_187 : decode code 187 = .ok (.aload_n 0, 1) := by decide +kernel
theorem dLa_law_188 : decode code 188 = .ok (.iload 4, 2) := by decide +kernel
theorem dLa_law_190 : decode code 190 = .ok (.iconst 2, 1) := by decide +kernel
theorem dLa_law_191 : decode code 191 = .ok (.iadd, 1) := by decide +kernel
theorem dLa_law_192 : decode code 192 = .ok (.iaload, 1) := by decide +kernel
theorem dLa_law_193 : decode code 193 = .ok (.i2l, 1) := by decide +kernel
theorem dLa_law_194 : decode code 194 = .ok (.bipush 32, 2) := by decide +kernel
theorem dLa_law_196 : decode code 196 = .ok (.lshl, 1) := by decide +kernel
theorem dLa_law_197 : decode code 197 = .ok (.aload_n 0, 1) := by decide +kernel
theorem dLa_law_198 : decode code 198 = .ok (.iload 4, 2) := by decide +kernel
theorem dLa_law_200 : decode code 200 = .ok (.iconst 3, 1) := by decide +kernel
theorem dLa_law_201 : decode code 201 = .ok (.iadd, 1) := by decide +kernel
theorem dLa_law_202 : decode code 202 = .ok (.iaload, 1) := by decide +kernel
theorem dLa_law_203 : decode code 203 = .ok (.i2l, 1) := by decide +kernel
theorem dLa_law_204 : decode code 204 = .ok (.ldc2_w 80, 3) := by decide +kernel
theorem dLa_law_207 : decode code 207 = .ok (.land, 1) := by decide +kernel
theorem dLa_law_208 : decode code 208 = .ok (.lor, 1) := by decide +kernel
theorem dLa_law_209 : decode code 209 = .ok (.aload_n 0, 1) := by decide +kernel
theorem dLa_law_210 : decode code 210 = .ok (.iload 4, 2) := by decide +kernel
theorem dLa_law_212 : decode code 212 = .ok (.iconst 4, 1) := by decide +kernel
theorem dLa_law_213 : decode code 213 = .ok (.iadd, 1) := by decide +kernel
theorem dLa_law_214 : decode code 214 = .ok (.iaload, 1) := by decide +kernel
theorem dLa_law_215 : decode code 215 = .ok (.i2l, 1) := by decide +kernel
theorem dLa_law_216 : decode code 216 = .ok (.bipush 32, 2) := by decide +kernel
theorem dLa_law_218 : decode code 218 = .ok (.lshl, 1) := by decide +kernel
theorem dLa_law_219 : decode code 219 = .ok (.aload_n 0, 1) := by decide +kernel
theorem dLa_law_220 : decode code 220 = .ok (.iload 4, 2) := by decide +kernel
theorem dLa_law_222 : decode code 222 = .ok (.iconst 5, 1) := by decide +kernel
theorem dLa_law_223 : decode code 223 = .ok (.iadd, 1) := by decide +kernel
theorem dLa_law_224 : decode code 224 = .ok (.iaload, 1) := by decide +kernel
theorem dLa_law_225 : decode code 225 = .ok (.i2l, 1) := by decide +kernel
theorem dLa_law_226 : decode code 226 = .ok (.ldc2_w 80, 3) := by decide +kernel
theorem dLa_law_229 : decode code 229 = .ok (.land, 1) := by decide +kernel
theorem dLa_law_230 : decode code 230 = .ok (.lor, 1) := by decide +kernel
theorem dLa_law_231 : decode code 231 = .ok (.invokevirtual 87, 3) := by decide +kernel
theorem dLa_law_234 : decode code 234 = .ok (.aload_n 2, 1) := by decide +kernel
theorem dLa_law_235 : decode code 235 = .ok (.invokevirtual 88, 3) := by decide +kernel
theorem dLa_law_238 : decode code 238 = .ok (.iload 5, 2) := by decide +kernel
theorem dLa_law_240 : decode code 240 = .ok (.if_icmp .eq 5, 3) := by decide +kernel
theorem dLa_law_243 : decode code 243 = .ok (.iconst 0, 1) := by decide +kernel
theorem dLa_law_244 : decode code 244 = .ok (.ireturn, 1) := by decide +kernel
theorem dLa_law_245 : decode code 245 = .ok (.goto 1396, 3) := by decide +kernel
theorem dLa_law_248 : decode code 248 = .ok (.aload_n 1, 1) := by decide +kernel
theorem dLa_law_249 : decode code 249 = .ok (.aload_n 0, 1) := by decide +kernel
theorem dLa_law_250 : decode code 250 = .ok (.iload 4, 2) := by decide +kernel
theorem dLa_law_252 : decode code 252 = .ok (.iconst 1, 1) := by decide +kernel
theorem dLa_law_253 : decode code 253 = .ok (.iadd, 1) := by decide +kernel
theorem dLa_law_254 : decode code 254 = .ok (.iaload, 1) := by decide +kernel
theorem dLa_law_255 : decode code 255 = .ok (.aload_n 3, 1) := by decide +kernel
theorem dLa_law_256 : decode code 256 = .ok (.invokestatic 92, 3) := by decide +kernel
theorem dLa_law_259 : decode code 259 = .ok (.istore 5, 2) := by decide +kernel
theorem dLa_law_261 : decode code 261 = .ok (.aload_n 2, 1) := by decide +kernel
theorem dLa_law_262 : decode code 262 = .ok (.aload_n 0, 1) := by decide +kernel
theorem dLa_law_263 : decode code 263 = .ok (.iload 4, 2) := by decide +kernel
theorem dLa_law_265 : decode code 265 = .ok (.iconst 1, 1) := by decide +kernel
theorem dLa_law_266 : decode code 266 = .ok (.iadd, 1) := by decide +kernel
theorem dLa_law_267 : decode code 267 = .ok (.iaload, 1) := by decide +kernel
theorem dLa_law_268 : decode code 268 = .ok (.invokevirtual 95, 3) := by decide +kernel
theorem dLa_law_271 : decode code 271 = .ok (.istore 6, 2) := by decide +kernel
theorem dLa_law_273 : decode code 273 = .ok (.aload_n 2, 1) := by decide +kernel
theorem dLa_law_274 : decode code 274 = .ok (.invokevirtual 88, 3) := by decide +kernel
theorem dLa_law_277 : decode code 277 = .ok (.iload 5, 2) := by decide +kernel
theorem dLa_law_279 : decode code 279 = .ok (.if_icmp .eq 5, 3) := by decide +kernel
theorem dLa_law_282 : decode code 282 = .ok (.iconst 0, 1) := by decide +kernel
theorem dLa_law_283 : decode code 283 = .ok (.ireturn, 1) := by decide +kernel
theorem dLa_law_284 : decode code 284 = .ok (.iload 5, 2) := by decide +kernel
theorem dLa_law_286 : decode code 286 = .ok (.ifCond .ne 15, 3) := by decide +kernel
theorem dLa_law_289 : decode code 289 = .ok (.aload_n 3, 1) := by decide +kernel
theorem dLa_law_290 : decode code 290 = .ok (.iconst 0, 1) := by decide +kernel
theorem dLa_law_291 : decode code 291 = .ok (.laload, 1) := by decide +kernel
theorem dLa_law_292 : decode code 292 = .ok (.iload 6, 2) := by decide +kernel
theorem dLa_law_294 : decode code 294 = .ok (.i2l, 1) := by decide +kernel
theorem dLa_law_295 : decode code 295 = .ok (.lcmp, 1) := by decide +kernel
theorem dLa_law_296 : decode code 296 = .ok (.ifCond .eq 5, 3) := by decide +kernel
theorem dLa_law_299 : decode code 299 = .ok (.iconst 0, 1) := by decide +kernel
theorem dLa_law_300 : decode code 300 = .ok (.ireturn, 1) := by decide +kernel
theorem dLa_law_301 : decode code 301 = .ok (.goto 1340, 3) := by decide +kernel
theorem dLa_law_304 : decode code 304 = .ok (.aload_n 1, 1) := by decide +kernel
theorem dLa_law_305 : decode code 305 = .ok (.aload_n 0, 1) := by decide +kernel
theorem dLa_law_306 : decode code 306 = .ok (.iload 4, 2) := by decide +kernel
theorem dLa_law_308 : decode code 308 = .ok (.iconst 1, 1) := by decide +kernel
theorem dLa_law_309 : decode code 309 = .ok (.iadd, 1) := by decide +kernel
theorem dLa_law_310 : decode code 310 = .ok (.iaload, 1) := by decide +kernel
theorem dLa_law_311 : decode code 311 = .ok (.aload_n 0, 1) := by decide +kernel
theorem dLa_law_312 : decode code 312 = .ok (.iload 4, 2) := by decide +kernel
theorem dLa_law_314 : decode code 314 = .ok (.iconst 2, 1) := by decide +kernel
theorem dLa_law_315 : decode code 315 = .ok (.iadd, 1) := by decide +kernel
theorem dLa_law_316 : decode code 316 = .ok (.iaload, 1) := by decide +kernel
theorem dLa_law_317 : decode code 317 = .ok (.aload_n 0, 1) := by decide +kernel
theorem dLa_law_318 : decode code 318 = .ok (.iload 4, 2) := by decide +kernel
theorem dLa_law_320 : decode code 320 = .ok (.iconst 3, 1) := by decide +kernel
theorem dLa_law_321 : decode code 321 = .ok (.iadd, 1) := by decide +kernel
theorem dLa_law_322 : decode code 322 = .ok (.iaload, 1) := by decide +kernel
theorem dLa_law_323 : decode code 323 = .ok (.ifCond .eq 7, 3) := by decide +kernel
theorem dLa_law_326 : decode code 326 = .ok (.iconst 1, 1) := by decide +kernel
theorem dLa_law_327 : decode code 327 = .ok (.goto 4, 3) := by decide +kernel
theorem dLa_law_330 : decode code 330 = .ok (.iconst 0, 1) := by decide +kernel
theorem dLa_law_331 : decode code 331 = .ok (.aload_n 3, 1) := by decide +kernel
theorem dLa_law_332 : decode code 332 = .ok (.invokestatic 96, 3) := by decide +kernel
theorem dLa_law_335 : decode code 335 = .ok (.istore 5, 2) := by decide +kernel
theorem dLa_law_337 : decode code 337 = .ok (.aload_n 2, 1) := by decide +kernel
theorem dLa_law_338 : decode code 338 = .ok (.aload_n 0, 1) := by decide +kernel
theorem dLa_law_339 : decode code 339 = .ok (.iload 4, 2) := by decide +kernel
theorem dLa_law_341 : decode code 341 = .ok (.iconst 1, 1) := by decide +kernel
theorem dLa_law_342 : decode code 342 = .ok (.iadd, 1) := by decide +kernel
theorem dLa_law_343 : decode code 343 = .ok (.iaload, 1) := by decide +kernel
theorem dLa_law_344 : decode code 344 = .ok (.aload_n 0, 1) := by decide +kernel
theorem dLa_law_345 : decode code 345 = .ok (.iload 4, 2) := by decide +kernel
theorem dLa_law_347 : decode code 347 = .ok (.iconst 2, 1) := by decide +kernel
theorem dLa_law_348 : decode code 348 = .ok (.iadd, 1) := by decide +kernel
theorem dLa_law_349 : decode code 349 = .ok (.iaload, 1) := by decide +kernel
theorem dLa_law_350 : decode code 350 = .ok (.aload_n 0, 1) := by decide +kernel
theorem dLa_law_351 : decode code 351 = .ok (.iload 4, 2) := by decide +kernel
theorem dLa_law_353 : decode code 353 = .ok (.iconst 3, 1) := by decide +kernel
theorem dLa_law_354 : decode code 354 = .ok (.iadd, 1) := by decide +kernel
theorem dLa_law_355 : decode code 355 = .ok (.iaload, 1) := by decide +kernel
theorem dLa_law_356 : decode code 356 = .ok (.ifCond .eq 7, 3) := by decide +kernel
theorem dLa_law_359 : decode code 359 = .ok (.iconst 1, 1) := by decide +kernel
theorem dLa_law_360 : decode code 360 = .ok (.goto 4, 3) := by decide +kernel
theorem dLa_law_363 : decode code 363 = .ok (.iconst 0, 1) := by decide +kernel
theorem dLa_law_364 : decode code 364 = .ok (.invokevirtual 99, 3) := by decide +kernel
theorem dLa_law_367 : decode code 367 = .ok (.istore 6, 2) := by decide +kernel
theorem dLa_law_369 : decode code 369 = .ok (.aload_n 2, 1) := by decide +kernel
theorem dLa_law_370 : decode code 370 = .ok (.invokevirtual 88, 3) := by decide +kernel
theorem dLa_law_373 : decode code 373 = .ok (.iload 5, 2) := by decide +kernel
theorem dLa_law_375 : decode code 375 = .ok (.if_icmp .eq 5, 3) := by decide +kernel
theorem dLa_law_378 : decode code 378 = .ok (.iconst 0, 1) := by decide +kernel
theorem dLa_law_379 : decode code 379 = .ok (.ireturn, 1) := by decide +kernel
theorem dLa_law_380 : decode code 380 = .ok (.iload 5, 2) := by decide +kernel
theorem dLa_law_382 : decode code 382 = .ok (.ifCond .ne 22, 3) := by decide +kernel
theorem dLa_law_385 : decode code 385 = .ok (.aload_n 3, 1) := by decide +kernel
theorem dLa_law_386 : decode code 386 = .ok (.iconst 0, 1) := by decide +kernel
theorem dLa_law_387 : decode code 387 = .ok (.laload, 1) := by decide +kernel
theorem dLa_law_388 : decode code 388 = .ok (.iload 6, 2) := by decide +kernel
theorem dLa_law_390 : decode code 390 = .ok (.ifCond .eq 7, 3) := by decide +kernel
theorem dLa_law_393 : decode code 393 = .ok (.lconst 1, 1) := by decide +kernel
theorem dLa_law_394 : decode code 394 = .ok (.goto 4, 3) := by decide +kernel
theorem dLa_law_397 : decode code 397 = .ok (.lconst 0, 1) := by decide +kernel
theorem dLa_law_398 : decode code 398 = .ok (.lcmp, 1) := by decide +kernel
theorem dLa_law_399 : decode code 399 = .ok (.ifCond .eq 5, 3) := by decide +kernel
theorem dLa_law_402 : decode code 402 = .ok (.iconst 0, 1) := by decide +kernel
theorem dLa_law_403 : decode code 403 = .ok (.ireturn, 1) := by decide +kernel
theorem dLa_law_404 : decode code 404 = .ok (.goto 1237, 3) := by decide +kernel
theorem dLa_law_407 : decode code 407 = .ok (.aload_n 1, 1) := by decide +kernel
theorem dLa_law_408 : decode code 408 = .ok (.aload_n 0, 1) := by decide +kernel
theorem dLa_law_409 : decode code 409 = .ok (.iload 4, 2) := by decide +kernel
theorem dLa_law_411 : decode code 411 = .ok (.iconst 1, 1) := by decide +kernel
theorem dLa_law_412 : decode code 412 = .ok (.iadd, 1) := by decide +kernel
theorem dLa_law_413 : decode code 413 = .ok (.iaload, 1) := by decide +kernel
theorem dLa_law_414 : decode code 414 = .ok (.aload_n 0, 1) := by decide +kernel
theorem dLa_law_415 : decode code 415 = .ok (.iload 4, 2) := by decide +kernel
theorem dLa_law_417 : decode code 417 = .ok (.iconst 2, 1) := by decide +kernel
theorem dLa_law_418 : decode code 418 = .ok (.iadd, 1) := by decide +kernel
theorem dLa_law_419 : decode code 419 = .ok (.iaload, 1) := by decide +kernel
theorem dLa_law_420 : decode code 420 = .ok (.i2l, 1) := by decide +kernel
theorem dLa_law_421 : decode code 421 = .ok (.bipush 32, 2) := by decide +kernel
theorem dLa_law_423 : decode code 423 = .ok (.lshl, 1) := by decide +kernel
theorem dLa_law_424 : decode code 424 = .ok (.aload_n 0, 1) := by decide +kernel
theorem dLa_law_425 : decode code 425 = .ok (.iload 4, 2) := by decide +kernel
theorem dLa_law_427 : decode code 427 = .ok (.iconst 3, 1) := by decide +kernel
theorem dLa_law_428 : decode code 428 = .ok (.iadd, 1) := by decide +kernel
theorem dLa_law_429 : decode code 429 = .ok (.iaload, 1) := by decide +kernel
theorem dLa_law_430 : decode code 430 = .ok (.i2l, 1) := by decide +kernel
theorem dLa_law_431 : decode code 431 = .ok (.ldc2_w 80, 3) := by decide +kernel
theorem dLa_law_434 : decode code 434 = .ok (.land, 1) := by decide +kernel
theorem dLa_law_435 : decode code 435 = .ok (.lor, 1) := by decide +kernel
theorem dLa_law_436 : decode code 436 = .ok (.aload_n 0, 1) := by decide +kernel
theorem dLa_law_437 : decode code 437 = .ok (.iload 4, 2) := by decide +kernel
theorem dLa_law_439 : decode code 439 = .ok (.iconst 4, 1) := by decide +kernel
theorem dLa_law_440 : decode code 440 = .ok (.iadd, 1) := by decide +kernel
theorem dLa_law_441 : decode code 441 = .ok (.iaload, 1) := by decide +kernel
theorem dLa_law_442 : decode code 442 = .ok (.i2l, 1) := by decide +kernel
theorem dLa_law_443 : decode code 443 = .ok (.bipush 32, 2) := by decide +kernel
theorem dLa_law_445 : decode code 445 = .ok (.lshl, 1) := by decide +kernel
theorem dLa_law_446 : decode code 446 = .ok (.aload_n 0, 1) := by decide +kernel
theorem dLa_law_447 : decode code 447 = .ok (.iload 4, 2) := by decide +kernel
theorem dLa_law_449 : decode code 449 = .ok (.iconst 5, 1) := by decide +kernel
theorem dLa_law_450 : decode code 450 = .ok (.iadd, 1) := by decide +kernel
theorem dLa_law_451 : decode code 451 = .ok (.iaload, 1) := by decide +kernel
theorem dLa_law_452 : decode code 452 = .ok (.i2l, 1) := by decide +kernel
theorem dLa_law_453 : decode code 453 = .ok (.ldc2_w 80, 3) := by decide +kernel
theorem dLa_law_456 : decode code 456 = .ok (.land, 1) := by decide +kernel
theorem dLa_law_457 : decode code 457 = .ok (.lor, 1) := by decide +kernel
theorem dLa_law_458 : decode code 458 = .ok (.aload_n 3, 1) := by decide +kernel
theorem dLa_law_459 : decode code 459 = .ok (.invokestatic 100, 3) := by decide +kernel
theorem dLa_law_462 : decode code 462 = .ok (.istore 5, 2) := by decide +kernel
theorem dLa_law_464 : decode code 464 = .ok (.aload_n 2, 1) := by decide +kernel
theorem dLa_law_465 : decode code 465 = .ok (.aload_n 0, 1) := by decide +kernel
theorem dLa_law_466 : decode code 466 = .ok (.iload 4, 2) := by decide +kernel
theorem dLa_law_468 : decode code 468 = .ok (.iconst 1, 1) := by decide +kernel
theorem dLa_law_469 : decode code 469 = .ok (.iadd, 1) := by decide +kernel
theorem dLa_law_470 : decode code 470 = .ok (.iaload, 1) := by decide +kernel
theorem dLa_law_471 : decode code 471 = .ok (.aload_n 0, 1) := by decide +kernel
theorem dLa_law_472 : decode code 472 = .ok (.iload 4, 2) := by decide +kernel
theorem dLa_law_474 : decode code 474 = .ok (.iconst 2, 1) := by decide +kernel
theorem dLa_law_475 : decode code 475 = .ok (.iadd, 1) := by decide +kernel
theorem dLa_law_476 : decode code 476 = .ok (.iaload, 1) := by decide +kernel
