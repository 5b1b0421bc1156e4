theorem dL_law_0 : decode cL_law 0 = .ok (.new 26, 3) := by decide +kernel
theorem dL_law_3 : decode cL_law 3 = .ok (.dup, 1) := by decide +kernel
theorem dL_law_4 : decode cL_law 4 = .ok (.invokespecial 102, 3) := by decide +kernel
theorem dL_law_7 : decode cL_law 7 = .ok (.astore_n 1, 1) := by decide +kernel
theorem dL_law_8 : decode cL_law 8 = .ok (.aload_n 1, 1) := by decide +kernel
theorem dL_law_9 : decode cL_law 9 = .ok (.aload_n 0, 1) := by decide +kernel
theorem dL_law_10 : decode cL_law 10 = .ok (.invokestatic 103, 3) := by decide +kernel
theorem dL_law_13 : decode cL_law 13 = .ok (.astore_n 2, 1) := by decide +kernel
theorem dL_law_14 : decode cL_law 14 = .ok (.aload_n 2, 1) := by decide +kernel
theorem dL_law_15 : decode cL_law 15 = .ok (.ifnonnull 5, 3) := by decide +kernel
theorem dL_law_18 : decode cL_law 18 = .ok (.iconst 0, 1) := by decide +kernel
theorem dL_law_19 : decode cL_law 19 = .ok (.ireturn, 1) := by decide +kernel
theorem dL_law_20 : decode cL_law 20 = .ok (.iconst 0, 1) := by decide +kernel
theorem dL_law_21 : decode cL_law 21 = .ok (.istore_n 3, 1) := by decide +kernel
theorem dL_law_22 : decode cL_law 22 = .ok (.iload_n 3, 1) := by decide +kernel
theorem dL_law_23 : decode cL_law 23 = .ok (.bipush 7, 2) := by decide +kernel
theorem dL_law_25 : decode cL_law 25 = .ok (.if_icmp .ge 1102, 3) := by decide +kernel
theorem dL_law_28 : decode cL_law 28 = .ok (.aload_n 0, 1) := by decide +kernel
theorem dL_law_29 : decode cL_law 29 = .ok (.iload_n 3, 1) := by decide +kernel
theorem dL_law_30 : decode cL_law 30 = .ok (.iconst 1, 1) := by decide +kernel
theorem dL_law_31 : decode cL_law 31 = .ok (.iadd, 1) := by decide +kernel
theorem dL_law_32 : decode cL_law 32 = .ok (.invokestatic 94, 3) := by decide +kernel
theorem dL_law_35 : decode cL_law 35 = .ok (.iconst 2, 1) := by decide +kernel
theorem dL_law_36 : decode cL_law 36 = .ok (.ishr, 1) := by decide +kernel
theorem dL_law_37 : decode cL_law 37 = .ok (.bipush 53, 2) := by decide +kernel
theorem dL_law_39 : decode cL_law 39 = .ok (.iload_n 3, 1) := by decide +kernel
theorem dL_law_40 : decode cL_law 40 = .ok (.imul, 1) := by decide +kernel
theorem dL_law_41 : decode cL_law 41 = .ok (.iadd, 1) := by decide +kernel
theorem dL_law_42 : decode cL_law 42 = .ok (.istore 4, 2) := by decide +kernel
theorem dL_law_44 : decode cL_law 44 = .ok (.iconst 0, 1) := by decide +kernel
theorem dL_law_45 : decode cL_law 45 = .ok (.istore 5, 2) := by decide +kernel
theorem dL_law_47 : decode cL_law 47 = .ok (.iload 5, 2) := by decide +kernel
theorem dL_law_49 : decode cL_law 49 = .ok (.iconst 3, 1) := by decide +kernel
theorem dL_law_50 : decode cL_law 50 = .ok (.if_icmp .ge 32, 3) := by decide +kernel
theorem dL_law_53 : decode cL_law 53 = .ok (.aload_n 1, 1) := by decide +kernel
theorem dL_law_54 : decode cL_law 54 = .ok (.aload_n 2, 1) := by decide +kernel
theorem dL_law_55 : decode cL_law 55 = .ok (.iload 4, 2) := by decide +kernel
theorem dL_law_57 : decode cL_law 57 = .ok (.iconst 3, 1) := by decide +kernel
theorem dL_law_58 : decode cL_law 58 = .ok (.iload 5, 2) := by decide +kernel
theorem dL_law_60 : decode cL_law 60 = .ok (.imul, 1) := by decide +kernel
theorem dL_law_61 : decode cL_law 61 = .ok (.ishr, 1) := by decide +kernel
theorem dL_law_62 : decode cL_law 62 = .ok (.bipush 29, 2) := by decide +kernel
theorem dL_law_64 : decode cL_law 64 = .ok (.iload 5, 2) := by decide +kernel
theorem dL_law_66 : decode cL_law 66 = .ok (.imul, 1) := by decide +kernel
theorem dL_law_67 : decode cL_law 67 = .ok (.iadd, 1) := by decide +kernel
theorem dL_law_68 : decode cL_law 68 = .ok (.invokestatic 98, 3) := by decide +kernel
theorem dL_law_71 : decode cL_law 71 = .ok (.ifCond .ne 5, 3) := by decide +kernel
theorem dL_law_74 : decode cL_law 74 = .ok (.iconst 0, 1) := by decide +kernel
theorem dL_law_75 : decode cL_law 75 = .ok (.ireturn, 1) := by decide +kernel
theorem dL_law_76 : decode cL_law 76 = .ok (.iinc 5 1, 3) := by decide +kernel
theorem dL_law_79 : decode cL_law 79 = .ok (.goto (-32), 3) := by decide +kernel
theorem dL_law_82 : decode cL_law 82 = .ok (.aload_n 1, 1) := by decide +kernel
theorem dL_law_83 : decode cL_law 83 = .ok (.invokevirtual 107, 3) := by decide +kernel
theorem dL_law_86 : decode cL_law 86 = .ok (.lstore 5, 2) := by decide +kernel
theorem dL_law_88 : decode cL_law 88 = .ok (.aload_n 1, 1) := by decide +kernel
theorem dL_law_89 : decode cL_law 89 = .ok (.invokevirtual 111, 3) := by decide +kernel
theorem dL_law_92 : decode cL_law 92 = .ok (.istore 7, 2) := by decide +kernel
theorem dL_law_94 : decode cL_law 94 = .ok (.iconst 0, 1) := by decide +kernel
theorem dL_law_95 : decode cL_law 95 = .ok (.istore 8, 2) := by decide +kernel
theorem dL_law_97 : decode cL_law 97 = .ok (.iconst 0, 1) := by decide +kernel
theorem dL_law_98 : decode cL_law 98 = .ok (.istore 9, 2) := by decide +kernel
theorem dL_law_100 : decode cL_law 100 = .ok (.iconst 0, 1) := by decide +kernel
theorem dL_law_101 : decode cL_law 101 = .ok (.istore 10, 2) := by decide +kernel
theorem dL_law_103 : decode cL_law 103 = .ok (.iconst 0, 1) := by decide +kernel
theorem dL_law_104 : decode cL_law 104 = .ok (.istore 11, 2) := by decide +kernel
theorem dL_law_106 : decode cL_law 106 = .ok (.iconst 0, 1) := by decide +kernel
theorem dL_law_107 : decode cL_law 107 = .ok (.istore 12, 2) := by decide +kernel
theorem dL_law_109 : decode cL_law 109 = .ok (.iload 12, 2) := by decide +kernel
theorem dL_law_111 : decode cL_law 111 = .ok (.sipush 360, 3) := by decide +kernel
theorem dL_law_114 : decode cL_law 114 = .ok (.if_icmp .ge 166, 3) := by decide +kernel
theorem dL_law_117 : decode cL_law 117 = .ok (.aload_n 1, 1) := by decide +kernel
theorem dL_law_118 : decode cL_law 118 = .ok (.iload 12, 2) := by decide +kernel
theorem dL_law_120 : decode cL_law 120 = .ok (.invokevirtual 113, 3) := by decide +kernel
theorem dL_law_123 : decode cL_law 123 = .ok (.istore 13, 2) := by decide +kernel
theorem dL_law_125 : decode cL_law 125 = .ok (.iconst 0, 1) := by decide +kernel
theorem dL_law_126 : decode cL_law 126 = .ok (.istore 14, 2) := by decide +kernel
theorem dL_law_128 : decode cL_law 128 = .ok (.iconst 0, 1) := by decide +kernel
theorem dL_law_129 : decode cL_law 129 = .ok (.istore 15, 2) := by decide +kernel
theorem dL_law_131 : decode cL_law 131 = .ok (.iload 15, 2) := by decide +kernel
theorem dL_law_133 : decode cL_law 133 = .ok (.aload_n 1, 1) := by decide +kernel
theorem dL_law_134 : decode cL_law 134 = .ok (.invokevirtual 117, 3) := by decide +kernel
theorem dL_law_137 : decode cL_law 137 = .ok (.if_icmp .ge 48, 3) := by decide +kernel
theorem dL_law_140 : decode cL_law 140 = .ok (.iload 14, 2) := by decide +kernel
theorem dL_law_142 : decode cL_law 142 = .ok (.iload 12, 2) := by decide +kernel
theorem dL_law_144 : decode cL_law 144 = .ok (.aload_n 1, 1) := by decide +kernel
theorem dL_law_145 : decode cL_law 145 = .ok (.iload 15, 2) := by decide +kernel
theorem dL_law_147 : decode cL_law 147 = .ok (.invokevirtual 119, 3) := by decide +kernel
theorem dL_law_150 : decode cL_law 150 = .ok (.if_icmp .lt 25, 3) := by decide +kernel
theorem dL_law_153 : decode cL_law 153 = .ok (.iload 12, 2) := by decide +kernel
theorem dL_law_155 : decode cL_law 155 = .ok (.aload_n 1, 1) := by decide +kernel
theorem dL_law_156 : decode cL_law 156 = .ok (.iload 15, 2) := by decide +kernel
theorem dL_law_158 : decode cL_law 158 = .ok (.invokevirtual 119, 3) := by decide +kernel
theorem dL_law_161 : decode cL_law 161 = .ok (.aload_n 1, 1) := by decide +kernel
theorem dL_law_162 : decode cL_law 162 = .ok (.iload 15, 2) := by decide +kernel
theorem dL_law_164 : decode cL_law 164 = .ok (.invokevirtual 122, 3) := by decide +kernel
theorem dL_law_167 : decode cL_law 167 = .ok (.iadd, 1) := by decide +kernel
theorem dL_law_168 : decode cL_law 168 = .ok (.if_icmp .ge 7, 3) := by decide +kernel
theorem dL_law_171 : decode cL_law 171 = .ok (.iconst 1, 1) := by decide +kernel
theorem dL_law_172 : decode cL_law 172 = .ok (.goto 4, 3) := by decide +kernel
theorem dL_law_175 : decode cL_law 175 = .ok (.iconst 0, 1) := by decide +kernel
theorem dL_law_176 : decode cL_law 176 = .ok (.iadd, 1) := by decide +kernel
theorem dL_law_177 : decode cL_law 177 = .ok (.istore 14, 2) := by decide +kernel
theorem dL_law_179 : decode cL_law 179 = .ok (.iinc 15 1, 3) := by decide +kernel
theorem dL_law_182 : decode cL_law 182 = .ok (.goto (-51), 3) := by decide +kernel
theorem dL_law_185 : decode cL_law 185 = .ok (.aload_n 1, 1) := by decide +kernel
theorem dL_law_186 : decode cL_law 186 = .ok (.iload 12, 2) := by decide +kernel
theorem dL_law_188 : decode cL_law 188 = .ok (.invokevirtual 125, 3) := by decide +kernel
theorem dL_law_191 : decode cL_law 191 = .ok (.iload 14, 2) := by decide +kernel
theorem dL_law_193 : decode cL_law 193 = .ok (.if_icmp .ne 18, 3) := by decide +kernel
theorem dL_law_196 : decode cL_law 196 = .ok (.iload 13, 2) := by decide +kernel
theorem dL_law_198 : decode cL_law 198 = .ok (.iload 14, 2) := by decide +kernel
theorem dL_law_200 : decode cL_law 200 = .ok (.ifCond .le 7, 3) := by decide +kernel
theorem dL_law_203 : decode cL_law 203 = .ok (.iconst 1, 1) := by decide +kernel
theorem dL_law_204 : decode cL_law 204 = .ok (.goto 4, 3) := by decide +kernel
theorem dL_law_207 : decode cL_law 207 = .ok (.iconst 0, 1) := by decide +kernel
theorem dL_law_208 : decode cL_law 208 = .ok (.if_icmp .eq 5, 3) := by decide +kernel
theorem dL_law_211 : decode cL_law 211 = .ok (.iconst 0, 1) := by decide +kernel
theorem dL_law_212 : decode cL_law 212 = .ok (.ireturn, 1) := by decide +kernel
theorem dL_law_213 : decode cL_law 213 = .ok (.iload 8, 2) := by decide +kernel
theorem dL_law_215 : decode cL_law 215 = .ok (.iload 13, 2) := by decide +kernel
theorem dL_law_217 : decode cL_law 217 = .ok (.ifCond .eq 14, 3) := by decide +kernel
theorem dL_law_220 : decode cL_law 220 = .ok (.iload 12, 2) := by decide +kernel
theorem dL_law_222 : decode cL_law 222 = .ok (.iload 7, 2) := by decide +kernel
theorem dL_law_224 : decode cL_law 224 = .ok (.if_icmp .ge 7, 3) := by decide +kernel
theorem dL_law_227 : decode cL_law 227 = .ok (.iconst 1, 1) := by decide +kernel
theorem dL_law_228 : decode cL_law 228 = .ok (.goto 4, 3) := by decide +kernel
theorem dL_law_231 : decode cL_law 231 = .ok (.iconst 0, 1) := by decide +kernel
theorem dL_law_232 : decode cL_law 232 = .ok (.iadd, 1) := by decide +kernel
theorem dL_law_233 : decode cL_law 233 = .ok (.istore 8, 2) := by decide +kernel
theorem dL_law_235 : decode cL_law 235 = .ok (.iload 11, 2) := by decide +kernel
theorem dL_law_237 : decode cL_law 237 = .ok (.iload 13, 2) := by decide +kernel
theorem dL_law_239 : decode cL_law 239 = .ok (.ifCond .eq 7, 3) := by decide +kernel
theorem dL_law_242 : decode cL_law 242 = .ok (.iconst 0, 1) := by decide +kernel
theorem dL_law_243 : decode cL_law 243 = .ok (.goto 4, 3) := by decide +kernel
theorem dL_law_246 : decode cL_law 246 = .ok (.iconst 1, 1) := by decide +kernel
theorem dL_law_247 : decode cL_law 247 = .ok (.iadd, 1) := by decide +kernel
theorem dL_law_248 : decode cL_law 248 = .ok (.istore 11, 2) := by decide +kernel
theorem dL_law_250 : decode cL_law 250 = .ok (.iload 13, 2) := by decide +kernel
theorem dL_law_252 : decode cL_law 252 = .ok (.ifCond .eq 7, 3) := by decide +kernel
theorem dL_law_255 : decode cL_law 255 = .ok (.iconst 0, 1) := by decide +kernel
theorem dL_law_256 : decode cL_law 256 = .ok (.goto 7, 3) := by decide +kernel
theorem dL_law_259 : decode cL_law 259 = .ok (.iload 10, 2) := by decide +kernel
theorem dL_law_261 : decode cL_law 261 = .ok (.iconst 1, 1) := by decide +kernel
theorem dL_law_262 : decode cL_law 262 = .ok (.iadd, 1) := by decide +kernel
theorem dL_law_263 : decode cL_law 263 = .ok (.istore 10, 2) := by decide +kernel
theorem dL_law_265 : decode cL_law 265 = .ok (.iload 9, 2) := by decide +kernel
theorem dL_law_267 : decode cL_law 267 = .ok (.iload 10, 2) := by decide +kernel
theorem dL_law_269 : decode cL_law 269 = .ok (.invokestatic 128, 3) := by decide +kernel
theorem dL_law_272 : decode cL_law 272 = .ok (.istore 9, 2) := by decide +kernel
theorem dL_law_274 : decode cL_law 274 = .ok (.iinc 12 1, 3) := by decide +kernel
theorem dL_law_277 : decode cL_law 277 = .ok (.goto (-168), 3) := by decide +kernel
theorem dL_law_280 : decode cL_law 280 = .ok (.aload_n 1, 1) := by decide +kernel
theorem dL_law_281 : decode cL_law 281 = .ok (.invokevirtual 131, 3) := by decide +kernel
theorem dL_law_284 : decode cL_law 284 = .ok (.iload 8, 2) := by decide +kernel
theorem dL_law_286 : decode cL_law 286 = .ok (.if_icmp .ne 24, 3) := by decide +kernel
theorem dL_law_289 : decode cL_law 289 = .ok (.aload_n 1, 1) := by decide +kernel
theorem dL_law_290 : decode cL_law 290 = .ok (.invokevirtual 134, 3) := by decide +kernel
theorem dL_law_293 : decode cL_law 293 = .ok (.iload 8, 2) := by decide +kernel
theorem dL_law_295 : decode cL_law 295 = .ok (.iadd, 1) := by decide +kernel
theorem dL_law_296 : decode cL_law 296 = .ok (.iload 7, 2) := by decide +kernel
theorem dL_law_298 : decode cL_law 298 = .ok (.if_icmp .ne 12, 3) := by decide +kernel
theorem dL_law_301 : decode cL_law 301 = .ok (.aload_n 1, 1) := by decide +kernel
theorem dL_law_302 : decode cL_law 302 = .ok (.invokevirtual 137, 3) := by decide +kernel
theorem dL_law_305 : decode cL_law 305 = .ok (.iload 9, 2) := by decide +kernel
theorem dL_law_307 : decode cL_law 307 = .ok (.if_icmp .eq 5, 3) := by decide +kernel
theorem dL_law_310 : decode cL_law 310 = .ok (.iconst 0, 1) := by decide +kernel
theorem dL_law_311 : decode cL_law 311 = .ok (.ireturn, 1) := by decide +kernel
theorem dL_law_312 : decode cL_law 312 = .ok (.iconst 0, 1) := by decide +kernel
theorem dL_law_313 : decode cL_law 313 = .ok (.istore 12, 2) := by decide +kernel
theorem dL_law_315 : decode cL_law 315 = .ok (.iload 12, 2) := by decide +kernel
theorem dL_law_317 : decode cL_law 317 = .ok (.aload_n 1, 1) := by decide +kernel
theorem dL_law_318 : decode cL_law 318 = .ok (.invokevirtual 140, 3) := by decide +kernel
theorem dL_law_321 : decode cL_law 321 = .ok (.if_icmp .ge 109, 3) := by decide +kernel
theorem dL_law_324 : decode cL_law 324 = .ok (.iload 4, 2) := by decide +kernel
theorem dL_law_326 : decode cL_law 326 = .ok (.iconst 4, 1) := by decide +kernel
theorem dL_law_327 : decode cL_law 327 = .ok (.ishr, 1) := by decide +kernel
theorem dL_law_328 : decode cL_law 328 = .ok (.sipush 359, 3) := by decide +kernel
theorem dL_law_331 : decode cL_law 331 = .ok (.invokestatic 9, 3) := by decide +kernel
theorem dL_law_334 : decode cL_law 334 = .ok (.istore 13, 2) := by decide +kernel
theorem dL_law_336 : decode cL_law 336 = .ok (.aload_n 1, 1) := by decide +kernel
theorem dL_law_337 : decode cL_law 337 = .ok (.iload 12, 2) := by decide +kernel
theorem dL_law_339 : decode cL_law 339 = .ok (.iload 13, 2) := by decide +kernel
theorem dL_law_341 : decode cL_law 341 = .ok (.invokevirtual 142, 3) := by decide +kernel
theorem dL_law_344 : decode cL_law 344 = .ok (.istore 14, 2) := by decide +kernel
theorem dL_law_346 : decode cL_law 346 = .ok (.aload_n 1, 1) := by decide +kernel
theorem dL_law_347 : decode cL_law 347 = .ok (.iload 12, 2) := by decide +kernel
theorem dL_law_349 : decode cL_law 349 = .ok (.iload 14, 2) := by decide +kernel
theorem dL_law_351 : decode cL_law 351 = .ok (.invokevirtual 145, 3) := by decide +kernel
theorem dL_law_354 : decode cL_law 354 = .ok (.istore 15, 2) := by decide +kernel
theorem dL_law_356 : decode cL_law 356 = .ok (.aload_n 1, 1) := by decide +kernel
theorem dL_law_357 : decode cL_law 357 = .ok (.iload 12, 2) := by decide +kernel
theorem dL_law_359 : decode cL_law 359 = .ok (.iload 13, 2) := by decide +kernel
theorem dL_law_361 : decode cL_law 361 = .ok (.iconst 1, 1) := by decide +kernel
theorem dL_law_362 : decode cL_law 362 = .ok (.iadd, 1) := by decide +kernel
theorem dL_law_363 : decode cL_law 363 = .ok (.invokevirtual 142, 3) := by decide +kernel
theorem dL_law_366 : decode cL_law 366 = .ok (.iload 14, 2) := by decide +kernel
theorem dL_law_368 : decode cL_law 368 = .ok (.if_icmp .lt 54, 3) := by decide +kernel
theorem dL_law_371 : decode cL_law 371 = .ok (.iload 15, 2) := by decide +kernel
theorem dL_law_373 : decode cL_law 373 = .ok (.iload 13, 2) := by decide +kernel
theorem dL_law_375 : decode cL_law 375 = .ok (.if_icmp .gt 47, 3) := by decide +kernel
theorem dL_law_378 : decode cL_law 378 = .ok (.aload_n 1, 1) := by decide +kernel
theorem dL_law_379 : decode cL_law 379 = .ok (.iload 12, 2) := by decide +kernel
theorem dL_law_381 : decode cL_law 381 = .ok (.iload 15, 2) := by decide +kernel
theorem dL_law_383 : decode cL_law 383 = .ok (.invokevirtual 142, 3) := by decide +kernel
theorem dL_law_386 : decode cL_law 386 = .ok (.iload 14, 2) := by decide +kernel
theorem dL_law_388 : decode cL_law 388 = .ok (.if_icmp .ne 34, 3) := by decide +kernel
theorem dL_law_391 : decode cL_law 391 = .ok (.iload 15, 2) := by decide +kernel
theorem dL_law_393 : decode cL_law 393 = .ok (.ifCond .le 18, 3) := by decide +kernel
theorem dL_law_396 : decode cL_law 396 = .ok (.aload_n 1, 1) := by decide +kernel
theorem dL_law_397 : decode cL_law 397 = .ok (.iload 12, 2) := by decide +kernel
theorem dL_law_399 : decode cL_law 399 = .ok (.iload 15, 2) := by decide +kernel
theorem dL_law_401 : decode cL_law 401 = .ok (.iconst 1, 1) := by decide +kernel
theorem dL_law_402 : decode cL_law 402 = .ok (.isub, 1) := by decide +kernel
theorem dL_law_403 : decode cL_law 403 = .ok (.invokevirtual 142, 3) := by decide +kernel
theorem dL_law_406 : decode cL_law 406 = .ok (.iload 14, 2) := by decide +kernel
theorem dL_law_408 : decode cL_law 408 = .ok (.if_icmp .ge 14, 3) := by decide +kernel
theorem dL_law_411 : decode cL_law 411 = .ok (.aload_n 1, 1) := by decide +kernel
theorem dL_law_412 : decode cL_law 412 = .ok (.iload 13, 2) := by decide +kernel
theorem dL_law_414 : decode cL_law 414 = .ok (.invokevirtual 148, 3) := by decide +kernel
theorem dL_law_417 : decode cL_law 417 = .ok (.iload 14, 2) := by decide +kernel
theorem dL_law_419 : decode cL_law 419 = .ok (.if_icmp .ge 5, 3) := by decide +kernel
theorem dL_law_422 : decode cL_law 422 = .ok (.iconst 0, 1) := by decide +kernel
theorem dL_law_423 : decode cL_law 423 = .ok (.ireturn, 1) := by decide +kernel
theorem dL_law_424 : decode cL_law 424 = .ok (.iinc 12 1, 3) := by decide +kernel
theorem dL_law_427 : decode cL_law 427 = .ok (.goto (-112), 3) := by decide +kernel
theorem dL_law_430 : decode cL_law 430 = .ok (.aload_n 1, 1) := by decide +kernel
theorem dL_law_431 : decode cL_law 431 = .ok (.invokevirtual 151, 3) := by decide +kernel
theorem dL_law_434 : decode cL_law 434 = .ok (.istore 12, 2) := by decide +kernel
theorem dL_law_436 : decode cL_law 436 = .ok (.iconst 0, 1) := by decide +kernel
theorem dL_law_437 : decode cL_law 437 = .ok (.istore 13, 2) := by decide +kernel
theorem dL_law_439 : decode cL_law 439 = .ok (.iload 13, 2) := by decide +kernel
theorem dL_law_441 : decode cL_law 441 = .ok (.aload_n 1, 1) := by decide +kernel
theorem dL_law_442 : decode cL_law 442 = .ok (.invokevirtual 117, 3) := by decide +kernel
theorem dL_law_445 : decode cL_law 445 = .ok (.if_icmp .ge 50, 3) := by decide +kernel
theorem dL_law_448 : decode cL_law 448 = .ok (.aload_n 1, 1) := by decide +kernel
theorem dL_law_449 : decode cL_law 449 = .ok (.iload 13, 2) := by decide +kernel
theorem dL_law_451 : decode cL_law 451 = .ok (.invokevirtual 154, 3) := by decide +kernel
theorem dL_law_454 : decode cL_law 454 = .ok (.ifCond .lt 33, 3) := by decide +kernel
theorem dL_law_457 : decode cL_law 457 = .ok (.aload_n 1, 1) := by decide +kernel
theorem dL_law_458 : decode cL_law 458 = .ok (.iload 13, 2) := by decide +kernel
theorem dL_law_460 : decode cL_law 460 = .ok (.invokevirtual 154, 3) := by decide +kernel
theorem dL_law_463 : decode cL_law 463 = .ok (.aload_n 1, 1) := by decide +kernel
theorem dL_law_464 : decode cL_law 464 = .ok (.iload 13, 2) := by decide +kernel
theorem dL_law_466 : decode cL_law 466 = .ok (.invokevirtual 122, 3) := by decide +kernel
theorem dL_law_469 : decode cL_law 469 = .ok (.if_icmp .gt 18, 3) := by decide +kernel
theorem dL_law_472 : decode cL_law 472 = .ok (.aload_n 1, 1) := by decide +kernel
theorem dL_law_473 : decode cL_law 473 = .ok (.iload 13, 2) := by decide +kernel
theorem dL_law_475 : decode cL_law 475 = .ok (.invokevirtual 154, 3) := by decide +kernel
theorem dL_law_478 : decode cL_law 478 = .ok (.aload_n 1, 1) := by decide +kernel
theorem dL_law_479 : decode cL_law 479 = .ok (.iload 12, 2) := by decide +kernel
theorem dL_law_481 : decode cL_law 481 = .ok (.invokevirtual 154, 3) := by decide +kernel
theorem dL_law_484 : decode cL_law 484 = .ok (.if_icmp .le 5, 3) := by decide +kernel
theorem dL_law_487 : decode cL_law 487 = .ok (.iconst 0, 1) := by decide +kernel
theorem dL_law_488 : decode cL_law 488 = .ok (.ireturn, 1) := by decide +kernel
theorem dL_law_489 : decode cL_law 489 = .ok (.iinc 13 1, 3) := by decide +kernel
theorem dL_law_492 : decode cL_law 492 = .ok (.goto (-53), 3) := by decide +kernel
theorem dL_law_495 : decode cL_law 495 = .ok (.aload_n 1, 1) := by decide +kernel
theorem dL_law_496 : decode cL_law 496 = .ok (.invokevirtual 157, 3) := by decide +kernel
theorem dL_law_499 : decode cL_law 499 = .ok (.istore 13, 2) := by decide +kernel
theorem dL_law_501 : decode cL_law 501 = .ok (.iconst 0, 1) := by decide +kernel
theorem dL_law_502 : decode cL_law 502 = .ok (.istore 14, 2) := by decide +kernel
theorem dL_law_504 : decode cL_law 504 = .ok (.iload 14, 2) := by decide +kernel
theorem dL_law_506 : decode cL_law 506 = .ok (.aload_n 1, 1) := by decide +kernel
theorem dL_law_507 : decode cL_law 507 = .ok (.invokevirtual 160, 3) := by decide +kernel
theorem dL_law_510 : decode cL_law 510 = .ok (.if_icmp .ge 143, 3) := by decide +kernel
theorem dL_law_513 : decode cL_law 513 = .ok (.aload_n 1, 1) := by decide +kernel
theorem dL_law_514 : decode cL_law 514 = .ok (.iload 14, 2) := by decide +kernel
theorem dL_law_516 : decode cL_law 516 = .ok (.invokevirtual 162, 3) := by decide +kernel
theorem dL_law_519 : decode cL_law 519 = .ok (.istore 15, 2) := by decide +kernel
theorem dL_law_521 : decode cL_law 521 = .ok (.aload_n 2, 1) := by decide +kernel
theorem dL_law_522 : decode cL_law 522 = .ok (.getfield 53, 3) := by decide +kernel
theorem dL_law_525 : decode cL_law 525 = .ok (.iload 14, 2) := by decide +kernel
theorem dL_law_527 : decode cL_law 527 = .ok (.aaload, 1) := by decide +kernel
theorem dL_law_528 : decode cL_law 528 = .ok (.iconst 0, 1) := by decide +kernel
theorem dL_law_529 : decode cL_law 529 = .ok (.iaload, 1) := by decide +kernel
theorem dL_law_530 : decode cL_law 530 = .ok (.istore 16, 2) := by decide +kernel
theorem dL_law_532 : decode cL_law 532 = .ok (.aload_n 1, 1) := by decide +kernel
theorem dL_law_533 : decode cL_law 533 = .ok (.iload 14, 2) := by decide +kernel
theorem dL_law_535 : decode cL_law 535 = .ok (.invokevirtual 165, 3) := by decide +kernel
theorem dL_law_538 : decode cL_law 538 = .ok (.aload_n 1, 1) := by decide +kernel
theorem dL_law_539 : decode cL_law 539 = .ok (.iload 14, 2) := by decide +kernel
theorem dL_law_541 : decode cL_law 541 = .ok (.invokevirtual 168, 3) := by decide +kernel
theorem dL_law_544 : decode cL_law 544 = .ok (.iload 16, 2) := by decide +kernel
theorem dL_law_546 : decode cL_law 546 = .ok (.imul, 1) := by decide +kernel
