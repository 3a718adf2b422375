theorem dL_step_345 : decode cL_step 345 = .ok (.aload_n 0, 1) := by decide +kernel
theorem dL_step_346 : decode cL_step 346 = .ok (.iload 8, 2) := by decide +kernel
theorem dL_step_348 : decode cL_step 348 = .ok (.iload 9, 2) := by decide +kernel
theorem dL_step_350 : decode cL_step 350 = .ok (.invokevirtual 131, 3) := by decide +kernel
theorem dL_step_353 : decode cL_step 353 = .ok (.bipush 8, 2) := by decide +kernel
theorem dL_step_355 : decode cL_step 355 = .ok (.aload 6, 2) := by decide +kernel
theorem dL_step_357 : decode cL_step 357 = .ok (.iconst 0, 1) := by decide +kernel
theorem dL_step_358 : decode cL_step 358 = .ok (.iaload, 1) := by decide +kernel
theorem dL_step_359 : decode cL_step 359 = .ok (.imul, 1) := by decide +kernel
theorem dL_step_360 : decode cL_step 360 = .ok (.aload 6, 2) := by decide +kernel
theorem dL_step_362 : decode cL_step 362 = .ok (.iconst 1, 1) := by decide +kernel
theorem dL_step_363 : decode cL_step 363 = .ok (.iaload, 1) := by decide +kernel
theorem dL_step_364 : decode cL_step 364 = .ok (.isub, 1) := by decide +kernel
theorem dL_step_365 : decode cL_step 365 = .ok (.aload_n 0, 1) := by decide +kernel
theorem dL_step_366 : decode cL_step 366 = .ok (.invokevirtual 89, 3) := by decide +kernel
theorem dL_step_369 : decode cL_step 369 = .ok (.isub, 1) := by decide +kernel
theorem dL_step_370 : decode cL_step 370 = .ok (.if_icmp .ne 7, 3) := by decide +kernel
theorem dL_step_373 : decode cL_step 373 = .ok (.iconst 1, 1) := by decide +kernel
theorem dL_step_374 : decode cL_step 374 = .ok (.goto 4, 3) := by decide +kernel
theorem dL_step_377 : decode cL_step 377 = .ok (.iconst 0, 1) := by decide +kernel
theorem dL_step_378 : decode cL_step 378 = .ok (.ireturn, 1) := by decide +kernel
theorem dL_step_379 : decode cL_step 379 = .ok (.aload_n 0, 1) := by decide +kernel
theorem dL_step_380 : decode cL_step 380 = .ok (.iload_n 2, 1) := by decide +kernel
theorem dL_step_381 : decode cL_step 381 = .ok (.iload_n 3, 1) := by decide +kernel
theorem dL_step_382 : decode cL_step 382 = .ok (.aload 7, 2) := by decide +kernel
theorem dL_step_384 : decode cL_step 384 = .ok (.invokestatic 134, 3) := by decide +kernel
theorem dL_step_387 : decode cL_step 387 = .ok (.ireturn, 1) := by decide +kernel
theorem dL_packer_0 : decode cL_packer 0 = .ok (.new 11, 3) := by decide +kernel
theorem dL_packer_3 : decode cL_packer 3 = .ok (.dup, 1) := by decide +kernel
theorem dL_packer_4 : decode cL_packer 4 = .ok (.invokespecial 138, 3) := by decide +kernel
theorem dL_packer_7 : decode cL_packer 7 = .ok (.astore_n 3, 1) := by decide +kernel
theorem dL_packer_8 : decode cL_packer 8 = .ok (.bipush 48, 2) := by decide +kernel
theorem dL_packer_10 : decode cL_packer 10 = .ok (.newarray .int, 2) := by decide +kernel
theorem dL_packer_12 : decode cL_packer 12 = .ok (.astore 4, 2) := by decide +kernel
theorem dL_packer_14 : decode cL_packer 14 = .ok (.iconst 4, 1) := by decide +kernel
theorem dL_packer_15 : decode cL_packer 15 = .ok (.newarray .long, 2) := by decide +kernel
theorem dL_packer_17 : decode cL_packer 17 = .ok (.astore 5, 2) := by decide +kernel
theorem dL_packer_19 : decode cL_packer 19 = .ok (.bipush 12, 2) := by decide +kernel
theorem dL_packer_21 : decode cL_packer 21 = .ok (.newarray .int, 2) := by decide +kernel
theorem dL_packer_23 : decode cL_packer 23 = .ok (.astore 6, 2) := by decide +kernel
theorem dL_packer_25 : decode cL_packer 25 = .ok (.iconst 4, 1) := by decide +kernel
theorem dL_packer_26 : decode cL_packer 26 = .ok (.newarray .int, 2) := by decide +kernel
theorem dL_packer_28 : decode cL_packer 28 = .ok (.astore 7, 2) := by decide +kernel
theorem dL_packer_30 : decode cL_packer 30 = .ok (.bipush 8, 2) := by decide +kernel
theorem dL_packer_32 : decode cL_packer 32 = .ok (.newarray .int, 2) := by decide +kernel
theorem dL_packer_34 : decode cL_packer 34 = .ok (.astore 8, 2) := by decide +kernel
theorem dL_packer_36 : decode cL_packer 36 = .ok (.aload 7, 2) := by decide +kernel
theorem dL_packer_38 : decode cL_packer 38 = .ok (.iconst 2, 1) := by decide +kernel
theorem dL_packer_39 : decode cL_packer 39 = .ok (.iconst (-1), 1) := by decide +kernel
theorem dL_packer_40 : decode cL_packer 40 = .ok (.iastore, 1) := by decide +kernel
theorem dL_packer_41 : decode cL_packer 41 = .ok (.iconst 1, 1) := by decide +kernel
theorem dL_packer_42 : decode cL_packer 42 = .ok (.istore 9, 2) := by decide +kernel
theorem dL_packer_44 : decode cL_packer 44 = .ok (.iconst 0, 1) := by decide +kernel
theorem dL_packer_45 : decode cL_packer 45 = .ok (.istore 10, 2) := by decide +kernel
theorem dL_packer_47 : decode cL_packer 47 = .ok (.iload 10, 2) := by decide +kernel
theorem dL_packer_49 : decode cL_packer 49 = .ok (.bipush 9, 2) := by decide +kernel
theorem dL_packer_51 : decode cL_packer 51 = .ok (.if_icmp .ge 102, 3) := by decide +kernel
theorem dL_packer_54 : decode cL_packer 54 = .ok (.iload 9, 2) := by decide +kernel
theorem dL_packer_56 : decode cL_packer 56 = .ok (.ifCond .eq 97, 3) := by decide +kernel
theorem dL_packer_59 : decode cL_packer 59 = .ok (.aload_n 3, 1) := by decide +kernel
theorem dL_packer_60 : decode cL_packer 60 = .ok (.aload_n 0, 1) := by decide +kernel
theorem dL_packer_61 : decode cL_packer 61 = .ok (.iload_n 1, 1) := by decide +kernel
theorem dL_packer_62 : decode cL_packer 62 = .ok (.iconst 2, 1) := by decide +kernel
theorem dL_packer_63 : decode cL_packer 63 = .ok (.iload 10, 2) := by decide +kernel
theorem dL_packer_65 : decode cL_packer 65 = .ok (.imul, 1) := by decide +kernel
theorem dL_packer_66 : decode cL_packer 66 = .ok (.iadd, 1) := by decide +kernel
theorem dL_packer_67 : decode cL_packer 67 = .ok (.ldc 139, 2) := by decide +kernel
theorem dL_packer_69 : decode cL_packer 69 = .ok (.invokestatic 140, 3) := by decide +kernel
theorem dL_packer_72 : decode cL_packer 72 = .ok (.aload_n 0, 1) := by decide +kernel
theorem dL_packer_73 : decode cL_packer 73 = .ok (.iload_n 1, 1) := by decide +kernel
theorem dL_packer_74 : decode cL_packer 74 = .ok (.iconst 2, 1) := by decide +kernel
theorem dL_packer_75 : decode cL_packer 75 = .ok (.iload 10, 2) := by decide +kernel
theorem dL_packer_77 : decode cL_packer 77 = .ok (.imul, 1) := by decide +kernel
theorem dL_packer_78 : decode cL_packer 78 = .ok (.iadd, 1) := by decide +kernel
theorem dL_packer_79 : decode cL_packer 79 = .ok (.iconst 1, 1) := by decide +kernel
theorem dL_packer_80 : decode cL_packer 80 = .ok (.iadd, 1) := by decide +kernel
theorem dL_packer_81 : decode cL_packer 81 = .ok (.ldc 139, 2) := by decide +kernel
theorem dL_packer_83 : decode cL_packer 83 = .ok (.invokestatic 140, 3) := by decide +kernel
theorem dL_packer_86 : decode cL_packer 86 = .ok (.aload 4, 2) := by decide +kernel
theorem dL_packer_88 : decode cL_packer 88 = .ok (.aload 5, 2) := by decide +kernel
theorem dL_packer_90 : decode cL_packer 90 = .ok (.aload 7, 2) := by decide +kernel
theorem dL_packer_92 : decode cL_packer 92 = .ok (.invokestatic 144, 3) := by decide +kernel
theorem dL_packer_95 : decode cL_packer 95 = .ok (.ifCond .eq 49, 3) := by decide +kernel
theorem dL_packer_98 : decode cL_packer 98 = .ok (.aload_n 3, 1) := by decide +kernel
theorem dL_packer_99 : decode cL_packer 99 = .ok (.invokevirtual 147, 3) := by decide +kernel
theorem dL_packer_102 : decode cL_packer 102 = .ok (.sipush 192, 3) := by decide +kernel
theorem dL_packer_105 : decode cL_packer 105 = .ok (.aload 5, 2) := by decide +kernel
theorem dL_packer_107 : decode cL_packer 107 = .ok (.iconst 0, 1) := by decide +kernel
theorem dL_packer_108 : decode cL_packer 108 = .ok (.laload, 1) := by decide +kernel
theorem dL_packer_109 : decode cL_packer 109 = .ok (.invokestatic 150, 3) := by decide +kernel
theorem dL_packer_112 : decode cL_packer 112 = .ok (.isub, 1) := by decide +kernel
theorem dL_packer_113 : decode cL_packer 113 = .ok (.aload 5, 2) := by decide +kernel
theorem dL_packer_115 : decode cL_packer 115 = .ok (.iconst 1, 1) := by decide +kernel
theorem dL_packer_116 : decode cL_packer 116 = .ok (.laload, 1) := by decide +kernel
theorem dL_packer_117 : decode cL_packer 117 = .ok (.invokestatic 150, 3) := by decide +kernel
theorem dL_packer_120 : decode cL_packer 120 = .ok (.isub, 1) := by decide +kernel
theorem dL_packer_121 : decode cL_packer 121 = .ok (.aload 5, 2) := by decide +kernel
theorem dL_packer_123 : decode cL_packer 123 = .ok (.iconst 2, 1) := by decide +kernel
theorem dL_packer_124 : decode cL_packer 124 = .ok (.laload, 1) := by decide +kernel
theorem dL_packer_125 : decode cL_packer 125 = .ok (.invokestatic 150, 3) := by decide +kernel
theorem dL_packer_128 : decode cL_packer 128 = .ok (.isub, 1) := by decide +kernel
theorem dL_packer_129 : decode cL_packer 129 = .ok (.aload 5, 2) := by decide +kernel
theorem dL_packer_131 : decode cL_packer 131 = .ok (.iconst 3, 1) := by decide +kernel
theorem dL_packer_132 : decode cL_packer 132 = .ok (.laload, 1) := by decide +kernel
theorem dL_packer_133 : decode cL_packer 133 = .ok (.invokestatic 150, 3) := by decide +kernel
theorem dL_packer_136 : decode cL_packer 136 = .ok (.isub, 1) := by decide +kernel
theorem dL_packer_137 : decode cL_packer 137 = .ok (.if_icmp .ne 7, 3) := by decide +kernel
theorem dL_packer_140 : decode cL_packer 140 = .ok (.iconst 1, 1) := by decide +kernel
theorem dL_packer_141 : decode cL_packer 141 = .ok (.goto 4, 3) := by decide +kernel
theorem dL_packer_144 : decode cL_packer 144 = .ok (.iconst 0, 1) := by decide +kernel
theorem dL_packer_145 : decode cL_packer 145 = .ok (.istore 9, 2) := by decide +kernel
theorem dL_packer_147 : decode cL_packer 147 = .ok (.iinc 10 1, 3) := by decide +kernel
theorem dL_packer_150 : decode cL_packer 150 = .ok (.goto (-103), 3) := by decide +kernel
theorem dL_packer_153 : decode cL_packer 153 = .ok (.iconst 0, 1) := by decide +kernel
theorem dL_packer_154 : decode cL_packer 154 = .ok (.istore 10, 2) := by decide +kernel
theorem dL_packer_156 : decode cL_packer 156 = .ok (.iload 10, 2) := by decide +kernel
theorem dL_packer_158 : decode cL_packer 158 = .ok (.bipush 36, 2) := by decide +kernel
theorem dL_packer_160 : decode cL_packer 160 = .ok (.if_icmp .ge 293, 3) := by decide +kernel
theorem dL_packer_163 : decode cL_packer 163 = .ok (.iload 9, 2) := by decide +kernel
theorem dL_packer_165 : decode cL_packer 165 = .ok (.ifCond .eq 288, 3) := by decide +kernel
theorem dL_packer_168 : decode cL_packer 168 = .ok (.aload_n 0, 1) := by decide +kernel
theorem dL_packer_169 : decode cL_packer 169 = .ok (.iload_n 1, 1) := by decide +kernel
theorem dL_packer_170 : decode cL_packer 170 = .ok (.iconst 3, 1) := by decide +kernel
theorem dL_packer_171 : decode cL_packer 171 = .ok (.iload 10, 2) := by decide +kernel
theorem dL_packer_173 : decode cL_packer 173 = .ok (.imul, 1) := by decide +kernel
theorem dL_packer_174 : decode cL_packer 174 = .ok (.iadd, 1) := by decide +kernel
theorem dL_packer_175 : decode cL_packer 175 = .ok (.bipush 19, 2) := by decide +kernel
theorem dL_packer_177 : decode cL_packer 177 = .ok (.iadd, 1) := by decide +kernel
theorem dL_packer_178 : decode cL_packer 178 = .ok (.ldc 139, 2) := by decide +kernel
theorem dL_packer_180 : decode cL_packer 180 = .ok (.invokestatic 140, 3) := by decide +kernel
theorem dL_packer_183 : decode cL_packer 183 = .ok (.istore 11, 2) := by decide +kernel
theorem dL_packer_185 : decode cL_packer 185 = .ok (.aload_n 0, 1) := by decide +kernel
theorem dL_packer_186 : decode cL_packer 186 = .ok (.iload_n 1, 1) := by decide +kernel
theorem dL_packer_187 : decode cL_packer 187 = .ok (.iconst 3, 1) := by decide +kernel
theorem dL_packer_188 : decode cL_packer 188 = .ok (.iload 10, 2) := by decide +kernel
theorem dL_packer_190 : decode cL_packer 190 = .ok (.imul, 1) := by decide +kernel
theorem dL_packer_191 : decode cL_packer 191 = .ok (.iadd, 1) := by decide +kernel
theorem dL_packer_192 : decode cL_packer 192 = .ok (.bipush 20, 2) := by decide +kernel
theorem dL_packer_194 : decode cL_packer 194 = .ok (.iadd, 1) := by decide +kernel
theorem dL_packer_195 : decode cL_packer 195 = .ok (.ldc 139, 2) := by decide +kernel
theorem dL_packer_197 : decode cL_packer 197 = .ok (.invokestatic 140, 3) := by decide +kernel
theorem dL_packer_200 : decode cL_packer 200 = .ok (.istore 12, 2) := by decide +kernel
theorem dL_packer_202 : decode cL_packer 202 = .ok (.iload_n 2, 1) := by decide +kernel
theorem dL_packer_203 : decode cL_packer 203 = .ok (.ifCond .eq 126, 3) := by decide +kernel
theorem dL_packer_206 : decode cL_packer 206 = .ok (.aload_n 3, 1) := by decide +kernel
theorem dL_packer_207 : decode cL_packer 207 = .ok (.iconst 0, 1) := by decide +kernel
theorem dL_packer_208 : decode cL_packer 208 = .ok (.iload 11, 2) := by decide +kernel
theorem dL_packer_210 : decode cL_packer 210 = .ok (.iload 12, 2) := by decide +kernel
theorem dL_packer_212 : decode cL_packer 212 = .ok (.aload 4, 2) := by decide +kernel
theorem dL_packer_214 : decode cL_packer 214 = .ok (.aload 6, 2) := by decide +kernel
theorem dL_packer_216 : decode cL_packer 216 = .ok (.aload 7, 2) := by decide +kernel
theorem dL_packer_218 : decode cL_packer 218 = .ok (.aload 8, 2) := by decide +kernel
theorem dL_packer_220 : decode cL_packer 220 = .ok (.invokestatic 154, 3) := by decide +kernel
theorem dL_packer_223 : decode cL_packer 223 = .ok (.ifCond .eq 27, 3) := by decide +kernel
theorem dL_packer_226 : decode cL_packer 226 = .ok (.aload_n 3, 1) := by decide +kernel
theorem dL_packer_227 : decode cL_packer 227 = .ok (.iconst 1, 1) := by decide +kernel
theorem dL_packer_228 : decode cL_packer 228 = .ok (.iload 12, 2) := by decide +kernel
theorem dL_packer_230 : decode cL_packer 230 = .ok (.iload 11, 2) := by decide +kernel
theorem dL_packer_232 : decode cL_packer 232 = .ok (.aload 4, 2) := by decide +kernel
theorem dL_packer_234 : decode cL_packer 234 = .ok (.aload 6, 2) := by decide +kernel
theorem dL_packer_236 : decode cL_packer 236 = .ok (.aload 7, 2) := by decide +kernel
theorem dL_packer_238 : decode cL_packer 238 = .ok (.aload 8, 2) := by decide +kernel
theorem dL_packer_240 : decode cL_packer 240 = .ok (.invokestatic 154, 3) := by decide +kernel
theorem dL_packer_243 : decode cL_packer 243 = .ok (.ifCond .eq 7, 3) := by decide +kernel
theorem dL_packer_246 : decode cL_packer 246 = .ok (.iconst 1, 1) := by decide +kernel
theorem dL_packer_247 : decode cL_packer 247 = .ok (.goto 4, 3) := by decide +kernel
theorem dL_packer_250 : decode cL_packer 250 = .ok (.iconst 0, 1) := by decide +kernel
theorem dL_packer_251 : decode cL_packer 251 = .ok (.istore 9, 2) := by decide +kernel
theorem dL_packer_253 : decode cL_packer 253 = .ok (.aload 7, 2) := by decide +kernel
theorem dL_packer_255 : decode cL_packer 255 = .ok (.iconst 0, 1) := by decide +kernel
theorem dL_packer_256 : decode cL_packer 256 = .ok (.dup2, 1) := by decide +kernel
theorem dL_packer_257 : decode cL_packer 257 = .ok (.iaload, 1) := by decide +kernel
theorem dL_packer_258 : decode cL_packer 258 = .ok (.bipush 8, 2) := by decide +kernel
theorem dL_packer_260 : decode cL_packer 260 = .ok (.iadd, 1) := by decide +kernel
theorem dL_packer_261 : decode cL_packer 261 = .ok (.iastore, 1) := by decide +kernel
theorem dL_packer_262 : decode cL_packer 262 = .ok (.iload 9, 2) := by decide +kernel
theorem dL_packer_264 : decode cL_packer 264 = .ok (.ifCond .eq 59, 3) := by decide +kernel
theorem dL_packer_267 : decode cL_packer 267 = .ok (.aload_n 3, 1) := by decide +kernel
theorem dL_packer_268 : decode cL_packer 268 = .ok (.bipush 8, 2) := by decide +kernel
theorem dL_packer_270 : decode cL_packer 270 = .ok (.invokevirtual 125, 3) := by decide +kernel
theorem dL_packer_273 : decode cL_packer 273 = .ok (.bipush 64, 2) := by decide +kernel
theorem dL_packer_275 : decode cL_packer 275 = .ok (.if_icmp .ne 48, 3) := by decide +kernel
theorem dL_packer_278 : decode cL_packer 278 = .ok (.aload_n 3, 1) := by decide +kernel
theorem dL_packer_279 : decode cL_packer 279 = .ok (.bipush 64, 2) := by decide +kernel
theorem dL_packer_281 : decode cL_packer 281 = .ok (.iload 11, 2) := by decide +kernel
theorem dL_packer_283 : decode cL_packer 283 = .ok (.bipush 9, 2) := by decide +kernel
theorem dL_packer_285 : decode cL_packer 285 = .ok (.irem, 1) := by decide +kernel
theorem dL_packer_286 : decode cL_packer 286 = .ok (.iadd, 1) := by decide +kernel
theorem dL_packer_287 : decode cL_packer 287 = .ok (.invokevirtual 128, 3) := by decide +kernel
theorem dL_packer_290 : decode cL_packer 290 = .ok (.iload 10, 2) := by decide +kernel
theorem dL_packer_292 : decode cL_packer 292 = .ok (.iconst 2, 1) := by decide +kernel
theorem dL_packer_293 : decode cL_packer 293 = .ok (.if_icmp .ge 7, 3) := by decide +kernel
theorem dL_packer_296 : decode cL_packer 296 = .ok (.iconst 0, 1) := by decide +kernel
theorem dL_packer_297 : decode cL_packer 297 = .ok (.goto 4, 3) := by decide +kernel
theorem dL_packer_300 : decode cL_packer 300 = .ok (.iconst 1, 1) := by decide +kernel
theorem dL_packer_301 : decode cL_packer 301 = .ok (.if_icmp .ne 22, 3) := by decide +kernel
theorem dL_packer_304 : decode cL_packer 304 = .ok (.aload_n 3, 1) := by decide +kernel
theorem dL_packer_305 : decode cL_packer 305 = .ok (.aload 4, 2) := by decide +kernel
theorem dL_packer_307 : decode cL_packer 307 = .ok (.aload 6, 2) := by decide +kernel
theorem dL_packer_309 : decode cL_packer 309 = .ok (.aload 7, 2) := by decide +kernel
theorem dL_packer_311 : decode cL_packer 311 = .ok (.iload 10, 2) := by decide +kernel
theorem dL_packer_313 : decode cL_packer 313 = .ok (.invokestatic 158, 3) := by decide +kernel
theorem dL_packer_316 : decode cL_packer 316 = .ok (.ifCond .eq 7, 3) := by decide +kernel
theorem dL_packer_319 : decode cL_packer 319 = .ok (.iconst 1, 1) := by decide +kernel
theorem dL_packer_320 : decode cL_packer 320 = .ok (.goto 4, 3) := by decide +kernel
theorem dL_packer_323 : decode cL_packer 323 = .ok (.iconst 0, 1) := by decide +kernel
theorem dL_packer_324 : decode cL_packer 324 = .ok (.istore 9, 2) := by decide +kernel
theorem dL_packer_326 : decode cL_packer 326 = .ok (.goto 46, 3) := by decide +kernel
theorem dL_packer_329 : decode cL_packer 329 = .ok (.aload_n 3, 1) := by decide +kernel
theorem dL_packer_330 : decode cL_packer 330 = .ok (.iload 10, 2) := by decide +kernel
theorem dL_packer_332 : decode cL_packer 332 = .ok (.iconst 3, 1) := by decide +kernel
theorem dL_packer_333 : decode cL_packer 333 = .ok (.if_icmp .ge 7, 3) := by decide +kernel
theorem dL_packer_336 : decode cL_packer 336 = .ok (.iconst 4, 1) := by decide +kernel
theorem dL_packer_337 : decode cL_packer 337 = .ok (.goto 18, 3) := by decide +kernel
theorem dL_packer_340 : decode cL_packer 340 = .ok (.aload_n 0, 1) := by decide +kernel
theorem dL_packer_341 : decode cL_packer 341 = .ok (.iload_n 1, 1) := by decide +kernel
theorem dL_packer_342 : decode cL_packer 342 = .ok (.iconst 3, 1) := by decide +kernel
theorem dL_packer_343 : decode cL_packer 343 = .ok (.iload 10, 2) := by decide +kernel
theorem dL_packer_345 : decode cL_packer 345 = .ok (.imul, 1) := by decide +kernel
theorem dL_packer_346 : decode cL_packer 346 = .ok (.iadd, 1) := by decide +kernel
theorem dL_packer_347 : decode cL_packer 347 = .ok (.bipush 18, 2) := by decide +kernel
theorem dL_packer_349 : decode cL_packer 349 = .ok (.iadd, 1) := by decide +kernel
theorem dL_packer_350 : decode cL_packer 350 = .ok (.bipush 14, 2) := by decide +kernel
theorem dL_packer_352 : decode cL_packer 352 = .ok (.invokestatic 140, 3) := by decide +kernel
theorem dL_packer_355 : decode cL_packer 355 = .ok (.iload 11, 2) := by decide +kernel
theorem dL_packer_357 : decode cL_packer 357 = .ok (.iload 12, 2) := by decide +kernel
theorem dL_packer_359 : decode cL_packer 359 = .ok (.aload 4, 2) := by decide +kernel
theorem dL_packer_361 : decode cL_packer 361 = .ok (.aload 6, 2) := by decide +kernel
theorem dL_packer_363 : decode cL_packer 363 = .ok (.aload 7, 2) := by decide +kernel
theorem dL_packer_365 : decode cL_packer 365 = .ok (.aload 8, 2) := by decide +kernel
theorem dL_packer_367 : decode cL_packer 367 = .ok (.invokestatic 154, 3) := by decide +kernel
theorem dL_packer_370 : decode cL_packer 370 = .ok (.istore 9, 2) := by decide +kernel
theorem dL_packer_372 : decode cL_packer 372 = .ok (.iload 9, 2) := by decide +kernel
theorem dL_packer_374 : decode cL_packer 374 = .ok (.ifCond .eq 70, 3) := by decide +kernel
theorem dL_packer_377 : decode cL_packer 377 = .ok (.aload_n 3, 1) := by decide +kernel
theorem dL_packer_378 : decode cL_packer 378 = .ok (.aload 4, 2) := by decide +kernel
theorem dL_packer_380 : decode cL_packer 380 = .ok (.aload 6, 2) := by decide +kernel
theorem dL_packer_382 : decode cL_packer 382 = .ok (.aload 7, 2) := by decide +kernel
theorem dL_packer_384 : decode cL_packer 384 = .ok (.invokestatic 162, 3) := by decide +kernel
theorem dL_packer_387 : decode cL_packer 387 = .ok (.ifCond .eq 57, 3) := by decide +kernel
theorem dL_packer_390 : decode cL_packer 390 = .ok (.aload_n 3, 1) := by decide +kernel
theorem dL_packer_391 : decode cL_packer 391 = .ok (.aload 7, 2) := by decide +kernel
theorem dL_packer_393 : decode cL_packer 393 = .ok (.iload 11, 2) := by decide +kernel
theorem dL_packer_395 : decode cL_packer 395 = .ok (.bipush 7, 2) := by decide +kernel
theorem dL_packer_397 : decode cL_packer 397 = .ok (.idiv, 1) := by decide +kernel
theorem dL_packer_398 : decode cL_packer 398 = .ok (.invokestatic 166, 3) := by decide +kernel
theorem dL_packer_401 : decode cL_packer 401 = .ok (.ifCond .eq 43, 3) := by decide +kernel
theorem dL_packer_404 : decode cL_packer 404 = .ok (.aload_n 3, 1) := by decide +kernel
theorem dL_packer_405 : decode cL_packer 405 = .ok (.aload 8, 2) := by decide +kernel
theorem dL_packer_407 : decode cL_packer 407 = .ok (.invokestatic 170, 3) := by decide +kernel
theorem dL_packer_410 : decode cL_packer 410 = .ok (.ifCond .eq 34, 3) := by decide +kernel
theorem dL_packer_413 : decode cL_packer 413 = .ok (.iload 10, 2) := by decide +kernel
theorem dL_packer_415 : decode cL_packer 415 = .ok (.bipush 9, 2) := by decide +kernel
theorem dL_packer_417 : decode cL_packer 417 = .ok (.irem, 1) := by decide +kernel
theorem dL_packer_418 : decode cL_packer 418 = .ok (.bipush 8, 2) := by decide +kernel
theorem dL_packer_420 : decode cL_packer 420 = .ok (.if_icmp .lt 20, 3) := by decide +kernel
theorem dL_packer_423 : decode cL_packer 423 = .ok (.aload_n 3, 1) := by decide +kernel
theorem dL_packer_424 : decode cL_packer 424 = .ok (.iload 11, 2) := by decide +kernel
theorem dL_packer_426 : decode cL_packer 426 = .ok (.iload 12, 2) := by decide +kernel
theorem dL_packer_428 : decode cL_packer 428 = .ok (.aload 4, 2) := by decide +kernel
theorem dL_packer_430 : decode cL_packer 430 = .ok (.aload 5, 2) := by decide +kernel
theorem dL_packer_432 : decode cL_packer 432 = .ok (.aload 7, 2) := by decide +kernel
theorem dL_packer_434 : decode cL_packer 434 = .ok (.invokestatic 144, 3) := by decide +kernel
theorem dL_packer_437 : decode cL_packer 437 = .ok (.ifCond .eq 7, 3) := by decide +kernel
theorem dL_packer_440 : decode cL_packer 440 = .ok (.iconst 1, 1) := by decide +kernel
theorem dL_packer_441 : decode cL_packer 441 = .ok (.goto 4, 3) := by decide +kernel
theorem dL_packer_444 : decode cL_packer 444 = .ok (.iconst 0, 1) := by decide +kernel
theorem dL_packer_445 : decode cL_packer 445 = .ok (.istore 9, 2) := by decide +kernel
theorem dL_packer_447 : decode cL_packer 447 = .ok (.iinc 10 1, 3) := by decide +kernel
theorem dL_packer_450 : decode cL_packer 450 = .ok (.goto (-294), 3) := by decide +kernel
theorem dL_packer_453 : decode cL_packer 453 = .ok (.iload 9, 2) := by decide +kernel
theorem dL_packer_455 : decode cL_packer 455 = .ok (.ireturn, 1) := by decide +kernel
theorem dL_law_0 : decode cL_law 0 = .ok (.aload_n 0, 1) := by decide +kernel
theorem dL_law_1 : decode cL_law 1 = .ok (.iconst 0, 1) := by decide +kernel
theorem dL_law_2 : decode cL_law 2 = .ok (.iconst 1, 1) := by decide +kernel
theorem dL_law_3 : decode cL_law 3 = .ok (.invokestatic 174, 3) := by decide +kernel
theorem dL_law_6 : decode cL_law 6 = .ok (.ifCond .eq 40, 3) := by decide +kernel
theorem dL_law_9 : decode cL_law 9 = .ok (.aload_n 0, 1) := by decide +kernel
theorem dL_law_10 : decode cL_law 10 = .ok (.sipush 130, 3) := by decide +kernel
theorem dL_law_13 : decode cL_law 13 = .ok (.iconst 0, 1) := by decide +kernel
theorem dL_law_14 : decode cL_law 14 = .ok (.invokestatic 174, 3) := by decide +kernel
theorem dL_law_17 : decode cL_law 17 = .ok (.ifCond .eq 29, 3) := by decide +kernel
theorem dL_law_20 : decode cL_law 20 = .ok (.aload_n 0, 1) := by decide +kernel
theorem dL_law_21 : decode cL_law 21 = .ok (.sipush 260, 3) := by decide +kernel
theorem dL_law_24 : decode cL_law 24 = .ok (.iconst 0, 1) := by decide +kernel
theorem dL_law_25 : decode cL_law 25 = .ok (.invokestatic 174, 3) := by decide +kernel
theorem dL_law_28 : decode cL_law 28 = .ok (.ifCond .eq 18, 3) := by decide +kernel
theorem dL_law_31 : decode cL_law 31 = .ok (.aload_n 0, 1) := by decide +kernel
theorem dL_law_32 : decode cL_law 32 = .ok (.sipush 390, 3) := by decide +kernel
theorem dL_law_35 : decode cL_law 35 = .ok (.iconst 0, 1) := by decide +kernel
theorem dL_law_36 : decode cL_law 36 = .ok (.invokestatic 174, 3) := by decide +kernel
theorem dL_law_39 : decode cL_law 39 = .ok (.ifCond .eq 7, 3) := by decide +kernel
theorem dL_law_42 : decode cL_law 42 = .ok (.iconst 1, 1) := by decide +kernel
theorem dL_law_43 : decode cL_law 43 = .ok (.goto 4, 3) := by decide +kernel
theorem dL_law_46 : decode cL_law 46 = .ok (.iconst 0, 1) := by decide +kernel
theorem dL_law_47 : decode cL_law 47 = .ok (.ireturn, 1) := by decide +kernel
