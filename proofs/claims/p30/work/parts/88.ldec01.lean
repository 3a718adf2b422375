theorem dL_isReceived_160 : decode cL_isReceived 160 = .ok (.iload 6, 2) := by decide +kernel
theorem dL_isReceived_162 : decode cL_isReceived 162 = .ok (.ifCond .eq 311, 3) := by decide +kernel
theorem dL_isReceived_165 : decode cL_isReceived 165 = .ok (.aload_n 0, 1) := by decide +kernel
theorem dL_isReceived_166 : decode cL_isReceived 166 = .ok (.iload 7, 2) := by decide +kernel
theorem dL_isReceived_168 : decode cL_isReceived 168 = .ok (.invokevirtual 55, 3) := by decide +kernel
theorem dL_isReceived_171 : decode cL_isReceived 171 = .ok (.istore 8, 2) := by decide +kernel
theorem dL_isReceived_173 : decode cL_isReceived 173 = .ok (.iconst 0, 1) := by decide +kernel
theorem dL_isReceived_174 : decode cL_isReceived 174 = .ok (.istore 9, 2) := by decide +kernel
theorem dL_isReceived_176 : decode cL_isReceived 176 = .ok (.aload_n 3, 1) := by decide +kernel
theorem dL_isReceived_177 : decode cL_isReceived 177 = .ok (.iconst 2, 1) := by decide +kernel
theorem dL_isReceived_178 : decode cL_isReceived 178 = .ok (.iaload, 1) := by decide +kernel
theorem dL_isReceived_179 : decode cL_isReceived 179 = .ok (.istore 10, 2) := by decide +kernel
theorem dL_isReceived_181 : decode cL_isReceived 181 = .ok (.iload 10, 2) := by decide +kernel
theorem dL_isReceived_183 : decode cL_isReceived 183 = .ok (.iload 4, 2) := by decide +kernel
theorem dL_isReceived_185 : decode cL_isReceived 185 = .ok (.if_icmp .gt 50, 3) := by decide +kernel
theorem dL_isReceived_188 : decode cL_isReceived 188 = .ok (.iload 5, 2) := by decide +kernel
theorem dL_isReceived_190 : decode cL_isReceived 190 = .ok (.ifCond .ne 45, 3) := by decide +kernel
theorem dL_isReceived_193 : decode cL_isReceived 193 = .ok (.iload 9, 2) := by decide +kernel
theorem dL_isReceived_195 : decode cL_isReceived 195 = .ok (.iload 10, 2) := by decide +kernel
theorem dL_isReceived_197 : decode cL_isReceived 197 = .ok (.aload_n 1, 1) := by decide +kernel
theorem dL_isReceived_198 : decode cL_isReceived 198 = .ok (.iconst 4, 1) := by decide +kernel
theorem dL_isReceived_199 : decode cL_isReceived 199 = .ok (.iload 7, 2) := by decide +kernel
theorem dL_isReceived_201 : decode cL_isReceived 201 = .ok (.imul, 1) := by decide +kernel
theorem dL_isReceived_202 : decode cL_isReceived 202 = .ok (.iconst 2, 1) := by decide +kernel
theorem dL_isReceived_203 : decode cL_isReceived 203 = .ok (.iadd, 1) := by decide +kernel
theorem dL_isReceived_204 : decode cL_isReceived 204 = .ok (.iaload, 1) := by decide +kernel
theorem dL_isReceived_205 : decode cL_isReceived 205 = .ok (.irem, 1) := by decide +kernel
theorem dL_isReceived_206 : decode cL_isReceived 206 = .ok (.iload 8, 2) := by decide +kernel
theorem dL_isReceived_208 : decode cL_isReceived 208 = .ok (.bipush 100, 2) := by decide +kernel
theorem dL_isReceived_210 : decode cL_isReceived 210 = .ok (.idiv, 1) := by decide +kernel
theorem dL_isReceived_211 : decode cL_isReceived 211 = .ok (.if_icmp .ne 14, 3) := by decide +kernel
theorem dL_isReceived_214 : decode cL_isReceived 214 = .ok (.aload_n 1, 1) := by decide +kernel
theorem dL_isReceived_215 : decode cL_isReceived 215 = .ok (.iconst 4, 1) := by decide +kernel
theorem dL_isReceived_216 : decode cL_isReceived 216 = .ok (.iload 7, 2) := by decide +kernel
theorem dL_isReceived_218 : decode cL_isReceived 218 = .ok (.imul, 1) := by decide +kernel
theorem dL_isReceived_219 : decode cL_isReceived 219 = .ok (.iconst 3, 1) := by decide +kernel
theorem dL_isReceived_220 : decode cL_isReceived 220 = .ok (.iadd, 1) := by decide +kernel
theorem dL_isReceived_221 : decode cL_isReceived 221 = .ok (.iaload, 1) := by decide +kernel
theorem dL_isReceived_222 : decode cL_isReceived 222 = .ok (.goto 4, 3) := by decide +kernel
theorem dL_isReceived_225 : decode cL_isReceived 225 = .ok (.iconst 0, 1) := by decide +kernel
theorem dL_isReceived_226 : decode cL_isReceived 226 = .ok (.iadd, 1) := by decide +kernel
theorem dL_isReceived_227 : decode cL_isReceived 227 = .ok (.istore 9, 2) := by decide +kernel
theorem dL_isReceived_229 : decode cL_isReceived 229 = .ok (.iinc 10 1, 3) := by decide +kernel
theorem dL_isReceived_232 : decode cL_isReceived 232 = .ok (.goto (-51), 3) := by decide +kernel
theorem dL_isReceived_235 : decode cL_isReceived 235 = .ok (.aload_n 0, 1) := by decide +kernel
theorem dL_isReceived_236 : decode cL_isReceived 236 = .ok (.iload 7, 2) := by decide +kernel
theorem dL_isReceived_238 : decode cL_isReceived 238 = .ok (.invokevirtual 70, 3) := by decide +kernel
theorem dL_isReceived_241 : decode cL_isReceived 241 = .ok (.istore 10, 2) := by decide +kernel
theorem dL_isReceived_243 : decode cL_isReceived 243 = .ok (.aload_n 0, 1) := by decide +kernel
theorem dL_isReceived_244 : decode cL_isReceived 244 = .ok (.iconst 1, 1) := by decide +kernel
theorem dL_isReceived_245 : decode cL_isReceived 245 = .ok (.iload 7, 2) := by decide +kernel
theorem dL_isReceived_247 : decode cL_isReceived 247 = .ok (.invokestatic 57, 3) := by decide +kernel
theorem dL_isReceived_250 : decode cL_isReceived 250 = .ok (.istore 11, 2) := by decide +kernel
theorem dL_isReceived_252 : decode cL_isReceived 252 = .ok (.aload_n 0, 1) := by decide +kernel
theorem dL_isReceived_253 : decode cL_isReceived 253 = .ok (.iconst 0, 1) := by decide +kernel
theorem dL_isReceived_254 : decode cL_isReceived 254 = .ok (.iload 7, 2) := by decide +kernel
theorem dL_isReceived_256 : decode cL_isReceived 256 = .ok (.invokestatic 57, 3) := by decide +kernel
theorem dL_isReceived_259 : decode cL_isReceived 259 = .ok (.istore 12, 2) := by decide +kernel
theorem dL_isReceived_261 : decode cL_isReceived 261 = .ok (.iload 10, 2) := by decide +kernel
theorem dL_isReceived_263 : decode cL_isReceived 263 = .ok (.aload_n 0, 1) := by decide +kernel
theorem dL_isReceived_264 : decode cL_isReceived 264 = .ok (.iload 7, 2) := by decide +kernel
theorem dL_isReceived_266 : decode cL_isReceived 266 = .ok (.invokevirtual 73, 3) := by decide +kernel
theorem dL_isReceived_269 : decode cL_isReceived 269 = .ok (.iadd, 1) := by decide +kernel
theorem dL_isReceived_270 : decode cL_isReceived 270 = .ok (.iload 9, 2) := by decide +kernel
theorem dL_isReceived_272 : decode cL_isReceived 272 = .ok (.if_icmp .ne 71, 3) := by decide +kernel
theorem dL_isReceived_275 : decode cL_isReceived 275 = .ok (.iload 10, 2) := by decide +kernel
theorem dL_isReceived_277 : decode cL_isReceived 277 = .ok (.ifCond .lt 66, 3) := by decide +kernel
theorem dL_isReceived_280 : decode cL_isReceived 280 = .ok (.aload_n 0, 1) := by decide +kernel
theorem dL_isReceived_281 : decode cL_isReceived 281 = .ok (.iload 7, 2) := by decide +kernel
theorem dL_isReceived_283 : decode cL_isReceived 283 = .ok (.invokevirtual 73, 3) := by decide +kernel
theorem dL_isReceived_286 : decode cL_isReceived 286 = .ok (.ifCond .lt 57, 3) := by decide +kernel
theorem dL_isReceived_289 : decode cL_isReceived 289 = .ok (.iload 10, 2) := by decide +kernel
theorem dL_isReceived_291 : decode cL_isReceived 291 = .ok (.ifCond .ne 7, 3) := by decide +kernel
theorem dL_isReceived_294 : decode cL_isReceived 294 = .ok (.iconst 1, 1) := by decide +kernel
theorem dL_isReceived_295 : decode cL_isReceived 295 = .ok (.goto 4, 3) := by decide +kernel
theorem dL_isReceived_298 : decode cL_isReceived 298 = .ok (.iconst 0, 1) := by decide +kernel
theorem dL_isReceived_299 : decode cL_isReceived 299 = .ok (.iload 11, 2) := by decide +kernel
theorem dL_isReceived_301 : decode cL_isReceived 301 = .ok (.ldc 31, 2) := by decide +kernel
theorem dL_isReceived_303 : decode cL_isReceived 303 = .ok (.if_icmp .ne 7, 3) := by decide +kernel
theorem dL_isReceived_306 : decode cL_isReceived 306 = .ok (.iconst 1, 1) := by decide +kernel
theorem dL_isReceived_307 : decode cL_isReceived 307 = .ok (.goto 4, 3) := by decide +kernel
theorem dL_isReceived_310 : decode cL_isReceived 310 = .ok (.iconst 0, 1) := by decide +kernel
theorem dL_isReceived_311 : decode cL_isReceived 311 = .ok (.if_icmp .ne 32, 3) := by decide +kernel
theorem dL_isReceived_314 : decode cL_isReceived 314 = .ok (.iload 10, 2) := by decide +kernel
theorem dL_isReceived_316 : decode cL_isReceived 316 = .ok (.ifCond .ne 7, 3) := by decide +kernel
theorem dL_isReceived_319 : decode cL_isReceived 319 = .ok (.iconst 1, 1) := by decide +kernel
theorem dL_isReceived_320 : decode cL_isReceived 320 = .ok (.goto 4, 3) := by decide +kernel
theorem dL_isReceived_323 : decode cL_isReceived 323 = .ok (.iconst 0, 1) := by decide +kernel
theorem dL_isReceived_324 : decode cL_isReceived 324 = .ok (.iload 12, 2) := by decide +kernel
theorem dL_isReceived_326 : decode cL_isReceived 326 = .ok (.ldc 31, 2) := by decide +kernel
theorem dL_isReceived_328 : decode cL_isReceived 328 = .ok (.if_icmp .ne 7, 3) := by decide +kernel
theorem dL_isReceived_331 : decode cL_isReceived 331 = .ok (.iconst 1, 1) := by decide +kernel
theorem dL_isReceived_332 : decode cL_isReceived 332 = .ok (.goto 4, 3) := by decide +kernel
theorem dL_isReceived_335 : decode cL_isReceived 335 = .ok (.iconst 0, 1) := by decide +kernel
theorem dL_isReceived_336 : decode cL_isReceived 336 = .ok (.if_icmp .ne 7, 3) := by decide +kernel
theorem dL_isReceived_339 : decode cL_isReceived 339 = .ok (.iconst 1, 1) := by decide +kernel
theorem dL_isReceived_340 : decode cL_isReceived 340 = .ok (.goto 4, 3) := by decide +kernel
theorem dL_isReceived_343 : decode cL_isReceived 343 = .ok (.iconst 0, 1) := by decide +kernel
theorem dL_isReceived_344 : decode cL_isReceived 344 = .ok (.istore 6, 2) := by decide +kernel
theorem dL_isReceived_346 : decode cL_isReceived 346 = .ok (.iload 10, 2) := by decide +kernel
theorem dL_isReceived_348 : decode cL_isReceived 348 = .ok (.ifCond .le 119, 3) := by decide +kernel
theorem dL_isReceived_351 : decode cL_isReceived 351 = .ok (.iload 11, 2) := by decide +kernel
theorem dL_isReceived_353 : decode cL_isReceived 353 = .ok (.bipush 64, 2) := by decide +kernel
theorem dL_isReceived_355 : decode cL_isReceived 355 = .ok (.irem, 1) := by decide +kernel
theorem dL_isReceived_356 : decode cL_isReceived 356 = .ok (.bipush 16, 2) := by decide +kernel
theorem dL_isReceived_358 : decode cL_isReceived 358 = .ok (.isub, 1) := by decide +kernel
theorem dL_isReceived_359 : decode cL_isReceived 359 = .ok (.aload_n 1, 1) := by decide +kernel
theorem dL_isReceived_360 : decode cL_isReceived 360 = .ok (.iconst 4, 1) := by decide +kernel
theorem dL_isReceived_361 : decode cL_isReceived 361 = .ok (.iload 7, 2) := by decide +kernel
theorem dL_isReceived_363 : decode cL_isReceived 363 = .ok (.imul, 1) := by decide +kernel
theorem dL_isReceived_364 : decode cL_isReceived 364 = .ok (.iconst 3, 1) := by decide +kernel
theorem dL_isReceived_365 : decode cL_isReceived 365 = .ok (.iadd, 1) := by decide +kernel
theorem dL_isReceived_366 : decode cL_isReceived 366 = .ok (.iaload, 1) := by decide +kernel
theorem dL_isReceived_367 : decode cL_isReceived 367 = .ok (.iconst 2, 1) := by decide +kernel
theorem dL_isReceived_368 : decode cL_isReceived 368 = .ok (.if_icmp .ne 8, 3) := by decide +kernel
theorem dL_isReceived_371 : decode cL_isReceived 371 = .ok (.bipush 24, 2) := by decide +kernel
theorem dL_isReceived_373 : decode cL_isReceived 373 = .ok (.goto 4, 3) := by decide +kernel
theorem dL_isReceived_376 : decode cL_isReceived 376 = .ok (.iconst 0, 1) := by decide +kernel
theorem dL_isReceived_377 : decode cL_isReceived 377 = .ok (.isub, 1) := by decide +kernel
theorem dL_isReceived_378 : decode cL_isReceived 378 = .ok (.istore 13, 2) := by decide +kernel
theorem dL_isReceived_380 : decode cL_isReceived 380 = .ok (.iload 6, 2) := by decide +kernel
theorem dL_isReceived_382 : decode cL_isReceived 382 = .ok (.ifCond .eq 82, 3) := by decide +kernel
theorem dL_isReceived_385 : decode cL_isReceived 385 = .ok (.iload 11, 2) := by decide +kernel
theorem dL_isReceived_387 : decode cL_isReceived 387 = .ok (.bipush 64, 2) := by decide +kernel
theorem dL_isReceived_389 : decode cL_isReceived 389 = .ok (.idiv, 1) := by decide +kernel
theorem dL_isReceived_390 : decode cL_isReceived 390 = .ok (.aload_n 3, 1) := by decide +kernel
theorem dL_isReceived_391 : decode cL_isReceived 391 = .ok (.iconst 2, 1) := by decide +kernel
theorem dL_isReceived_392 : decode cL_isReceived 392 = .ok (.iaload, 1) := by decide +kernel
theorem dL_isReceived_393 : decode cL_isReceived 393 = .ok (.if_icmp .lt 71, 3) := by decide +kernel
theorem dL_isReceived_396 : decode cL_isReceived 396 = .ok (.iload 11, 2) := by decide +kernel
theorem dL_isReceived_398 : decode cL_isReceived 398 = .ok (.bipush 64, 2) := by decide +kernel
theorem dL_isReceived_400 : decode cL_isReceived 400 = .ok (.idiv, 1) := by decide +kernel
theorem dL_isReceived_401 : decode cL_isReceived 401 = .ok (.iload 4, 2) := by decide +kernel
theorem dL_isReceived_403 : decode cL_isReceived 403 = .ok (.if_icmp .gt 61, 3) := by decide +kernel
theorem dL_isReceived_406 : decode cL_isReceived 406 = .ok (.iload 11, 2) := by decide +kernel
theorem dL_isReceived_408 : decode cL_isReceived 408 = .ok (.bipush 64, 2) := by decide +kernel
theorem dL_isReceived_410 : decode cL_isReceived 410 = .ok (.idiv, 1) := by decide +kernel
theorem dL_isReceived_411 : decode cL_isReceived 411 = .ok (.aload_n 1, 1) := by decide +kernel
theorem dL_isReceived_412 : decode cL_isReceived 412 = .ok (.iconst 4, 1) := by decide +kernel
theorem dL_isReceived_413 : decode cL_isReceived 413 = .ok (.iload 7, 2) := by decide +kernel
theorem dL_isReceived_415 : decode cL_isReceived 415 = .ok (.imul, 1) := by decide +kernel
theorem dL_isReceived_416 : decode cL_isReceived 416 = .ok (.iconst 2, 1) := by decide +kernel
theorem dL_isReceived_417 : decode cL_isReceived 417 = .ok (.iadd, 1) := by decide +kernel
theorem dL_isReceived_418 : decode cL_isReceived 418 = .ok (.iaload, 1) := by decide +kernel
theorem dL_isReceived_419 : decode cL_isReceived 419 = .ok (.irem, 1) := by decide +kernel
theorem dL_isReceived_420 : decode cL_isReceived 420 = .ok (.iload 8, 2) := by decide +kernel
theorem dL_isReceived_422 : decode cL_isReceived 422 = .ok (.bipush 100, 2) := by decide +kernel
theorem dL_isReceived_424 : decode cL_isReceived 424 = .ok (.idiv, 1) := by decide +kernel
theorem dL_isReceived_425 : decode cL_isReceived 425 = .ok (.if_icmp .ne 39, 3) := by decide +kernel
theorem dL_isReceived_428 : decode cL_isReceived 428 = .ok (.iload 13, 2) := by decide +kernel
theorem dL_isReceived_430 : decode cL_isReceived 430 = .ok (.iload 8, 2) := by decide +kernel
theorem dL_isReceived_432 : decode cL_isReceived 432 = .ok (.bipush 100, 2) := by decide +kernel
theorem dL_isReceived_434 : decode cL_isReceived 434 = .ok (.irem, 1) := by decide +kernel
theorem dL_isReceived_435 : decode cL_isReceived 435 = .ok (.if_icmp .ne 29, 3) := by decide +kernel
theorem dL_isReceived_438 : decode cL_isReceived 438 = .ok (.iload 12, 2) := by decide +kernel
theorem dL_isReceived_440 : decode cL_isReceived 440 = .ok (.aload_n 1, 1) := by decide +kernel
theorem dL_isReceived_441 : decode cL_isReceived 441 = .ok (.iload 7, 2) := by decide +kernel
theorem dL_isReceived_443 : decode cL_isReceived 443 = .ok (.invokestatic 76, 3) := by decide +kernel
theorem dL_isReceived_446 : decode cL_isReceived 446 = .ok (.if_icmp .lt 18, 3) := by decide +kernel
theorem dL_isReceived_449 : decode cL_isReceived 449 = .ok (.iload 12, 2) := by decide +kernel
theorem dL_isReceived_451 : decode cL_isReceived 451 = .ok (.aload_n 1, 1) := by decide +kernel
theorem dL_isReceived_452 : decode cL_isReceived 452 = .ok (.iload 7, 2) := by decide +kernel
theorem dL_isReceived_454 : decode cL_isReceived 454 = .ok (.invokestatic 80, 3) := by decide +kernel
theorem dL_isReceived_457 : decode cL_isReceived 457 = .ok (.if_icmp .gt 7, 3) := by decide +kernel
theorem dL_isReceived_460 : decode cL_isReceived 460 = .ok (.iconst 1, 1) := by decide +kernel
theorem dL_isReceived_461 : decode cL_isReceived 461 = .ok (.goto 4, 3) := by decide +kernel
theorem dL_isReceived_464 : decode cL_isReceived 464 = .ok (.iconst 0, 1) := by decide +kernel
theorem dL_isReceived_465 : decode cL_isReceived 465 = .ok (.istore 6, 2) := by decide +kernel
theorem dL_isReceived_467 : decode cL_isReceived 467 = .ok (.iinc 7 1, 3) := by decide +kernel
theorem dL_isReceived_470 : decode cL_isReceived 470 = .ok (.goto (-319), 3) := by decide +kernel
theorem dL_isReceived_473 : decode cL_isReceived 473 = .ok (.iload 6, 2) := by decide +kernel
theorem dL_isReceived_475 : decode cL_isReceived 475 = .ok (.ireturn, 1) := by decide +kernel
theorem dL_areBits_0 : decode cL_areBits 0 = .ok (.iconst 0, 1) := by decide +kernel
theorem dL_areBits_1 : decode cL_areBits 1 = .ok (.istore_n 3, 1) := by decide +kernel
theorem dL_areBits_2 : decode cL_areBits 2 = .ok (.iconst 0, 1) := by decide +kernel
theorem dL_areBits_3 : decode cL_areBits 3 = .ok (.istore 4, 2) := by decide +kernel
theorem dL_areBits_5 : decode cL_areBits 5 = .ok (.aload_n 0, 1) := by decide +kernel
theorem dL_areBits_6 : decode cL_areBits 6 = .ok (.invokevirtual 83, 3) := by decide +kernel
theorem dL_areBits_9 : decode cL_areBits 9 = .ok (.aload_n 1, 1) := by decide +kernel
theorem dL_areBits_10 : decode cL_areBits 10 = .ok (.iconst 0, 1) := by decide +kernel
theorem dL_areBits_11 : decode cL_areBits 11 = .ok (.iaload, 1) := by decide +kernel
theorem dL_areBits_12 : decode cL_areBits 12 = .ok (.if_icmp .ne 44, 3) := by decide +kernel
theorem dL_areBits_15 : decode cL_areBits 15 = .ok (.aload_n 0, 1) := by decide +kernel
theorem dL_areBits_16 : decode cL_areBits 16 = .ok (.invokevirtual 86, 3) := by decide +kernel
theorem dL_areBits_19 : decode cL_areBits 19 = .ok (.aload_n 0, 1) := by decide +kernel
theorem dL_areBits_20 : decode cL_areBits 20 = .ok (.invokevirtual 89, 3) := by decide +kernel
theorem dL_areBits_23 : decode cL_areBits 23 = .ok (.iadd, 1) := by decide +kernel
theorem dL_areBits_24 : decode cL_areBits 24 = .ok (.aload_n 1, 1) := by decide +kernel
theorem dL_areBits_25 : decode cL_areBits 25 = .ok (.iconst 1, 1) := by decide +kernel
theorem dL_areBits_26 : decode cL_areBits 26 = .ok (.iaload, 1) := by decide +kernel
theorem dL_areBits_27 : decode cL_areBits 27 = .ok (.iadd, 1) := by decide +kernel
theorem dL_areBits_28 : decode cL_areBits 28 = .ok (.bipush 8, 2) := by decide +kernel
theorem dL_areBits_30 : decode cL_areBits 30 = .ok (.aload_n 1, 1) := by decide +kernel
theorem dL_areBits_31 : decode cL_areBits 31 = .ok (.iconst 0, 1) := by decide +kernel
theorem dL_areBits_32 : decode cL_areBits 32 = .ok (.iaload, 1) := by decide +kernel
theorem dL_areBits_33 : decode cL_areBits 33 = .ok (.imul, 1) := by decide +kernel
theorem dL_areBits_34 : decode cL_areBits 34 = .ok (.if_icmp .ne 22, 3) := by decide +kernel
theorem dL_areBits_37 : decode cL_areBits 37 = .ok (.aload_n 0, 1) := by decide +kernel
theorem dL_areBits_38 : decode cL_areBits 38 = .ok (.invokevirtual 92, 3) := by decide +kernel
theorem dL_areBits_41 : decode cL_areBits 41 = .ok (.ifCond .lt 15, 3) := by decide +kernel
theorem dL_areBits_44 : decode cL_areBits 44 = .ok (.aload_n 0, 1) := by decide +kernel
theorem dL_areBits_45 : decode cL_areBits 45 = .ok (.invokevirtual 92, 3) := by decide +kernel
theorem dL_areBits_48 : decode cL_areBits 48 = .ok (.iconst 2, 1) := by decide +kernel
theorem dL_areBits_49 : decode cL_areBits 49 = .ok (.if_icmp .gt 7, 3) := by decide +kernel
theorem dL_areBits_52 : decode cL_areBits 52 = .ok (.iconst 1, 1) := by decide +kernel
theorem dL_areBits_53 : decode cL_areBits 53 = .ok (.goto 4, 3) := by decide +kernel
theorem dL_areBits_56 : decode cL_areBits 56 = .ok (.iconst 0, 1) := by decide +kernel
theorem dL_areBits_57 : decode cL_areBits 57 = .ok (.istore 5, 2) := by decide +kernel
theorem dL_areBits_59 : decode cL_areBits 59 = .ok (.iconst 0, 1) := by decide +kernel
theorem dL_areBits_60 : decode cL_areBits 60 = .ok (.istore 6, 2) := by decide +kernel
theorem dL_areBits_62 : decode cL_areBits 62 = .ok (.iload 6, 2) := by decide +kernel
theorem dL_areBits_64 : decode cL_areBits 64 = .ok (.bipush 64, 2) := by decide +kernel
theorem dL_areBits_66 : decode cL_areBits 66 = .ok (.if_icmp .ge 77, 3) := by decide +kernel
theorem dL_areBits_69 : decode cL_areBits 69 = .ok (.iload 5, 2) := by decide +kernel
theorem dL_areBits_71 : decode cL_areBits 71 = .ok (.ifCond .eq 72, 3) := by decide +kernel
theorem dL_areBits_74 : decode cL_areBits 74 = .ok (.aload_n 0, 1) := by decide +kernel
theorem dL_areBits_75 : decode cL_areBits 75 = .ok (.iload 6, 2) := by decide +kernel
theorem dL_areBits_77 : decode cL_areBits 77 = .ok (.invokevirtual 95, 3) := by decide +kernel
theorem dL_areBits_80 : decode cL_areBits 80 = .ok (.istore 7, 2) := by decide +kernel
theorem dL_areBits_82 : decode cL_areBits 82 = .ok (.iload 7, 2) := by decide +kernel
theorem dL_areBits_84 : decode cL_areBits 84 = .ok (.ifCond .lt 22, 3) := by decide +kernel
theorem dL_areBits_87 : decode cL_areBits 87 = .ok (.bipush 64, 2) := by decide +kernel
theorem dL_areBits_89 : decode cL_areBits 89 = .ok (.iload 7, 2) := by decide +kernel
theorem dL_areBits_91 : decode cL_areBits 91 = .ok (.imul, 1) := by decide +kernel
theorem dL_areBits_92 : decode cL_areBits 92 = .ok (.aload_n 0, 1) := by decide +kernel
theorem dL_areBits_93 : decode cL_areBits 93 = .ok (.invokevirtual 89, 3) := by decide +kernel
theorem dL_areBits_96 : decode cL_areBits 96 = .ok (.bipush 56, 2) := by decide +kernel
theorem dL_areBits_98 : decode cL_areBits 98 = .ok (.iadd, 1) := by decide +kernel
theorem dL_areBits_99 : decode cL_areBits 99 = .ok (.if_icmp .gt 7, 3) := by decide +kernel
theorem dL_areBits_102 : decode cL_areBits 102 = .ok (.iconst 1, 1) := by decide +kernel
theorem dL_areBits_103 : decode cL_areBits 103 = .ok (.goto 4, 3) := by decide +kernel
theorem dL_areBits_106 : decode cL_areBits 106 = .ok (.iconst 0, 1) := by decide +kernel
theorem dL_areBits_107 : decode cL_areBits 107 = .ok (.istore 5, 2) := by decide +kernel
theorem dL_areBits_109 : decode cL_areBits 109 = .ok (.iload 7, 2) := by decide +kernel
theorem dL_areBits_111 : decode cL_areBits 111 = .ok (.iload_n 3, 1) := by decide +kernel
theorem dL_areBits_112 : decode cL_areBits 112 = .ok (.if_icmp .le 8, 3) := by decide +kernel
theorem dL_areBits_115 : decode cL_areBits 115 = .ok (.iload 6, 2) := by decide +kernel
theorem dL_areBits_117 : decode cL_areBits 117 = .ok (.goto 5, 3) := by decide +kernel
theorem dL_areBits_120 : decode cL_areBits 120 = .ok (.iload 4, 2) := by decide +kernel
theorem dL_areBits_122 : decode cL_areBits 122 = .ok (.istore 4, 2) := by decide +kernel
theorem dL_areBits_124 : decode cL_areBits 124 = .ok (.iload 7, 2) := by decide +kernel
theorem dL_areBits_126 : decode cL_areBits 126 = .ok (.iload_n 3, 1) := by decide +kernel
theorem dL_areBits_127 : decode cL_areBits 127 = .ok (.if_icmp .le 8, 3) := by decide +kernel
theorem dL_areBits_130 : decode cL_areBits 130 = .ok (.iload 7, 2) := by decide +kernel
theorem dL_areBits_132 : decode cL_areBits 132 = .ok (.goto 4, 3) := by decide +kernel
theorem dL_areBits_135 : decode cL_areBits 135 = .ok (.iload_n 3, 1) := by decide +kernel
theorem dL_areBits_136 : decode cL_areBits 136 = .ok (.istore_n 3, 1) := by decide +kernel
theorem dL_areBits_137 : decode cL_areBits 137 = .ok (.iinc 6 1, 3) := by decide +kernel
theorem dL_areBits_140 : decode cL_areBits 140 = .ok (.goto (-78), 3) := by decide +kernel
theorem dL_areBits_143 : decode cL_areBits 143 = .ok (.iload 5, 2) := by decide +kernel
theorem dL_areBits_145 : decode cL_areBits 145 = .ok (.ifCond .eq 16, 3) := by decide +kernel
theorem dL_areBits_148 : decode cL_areBits 148 = .ok (.aload_n 0, 1) := by decide +kernel
theorem dL_areBits_149 : decode cL_areBits 149 = .ok (.invokevirtual 98, 3) := by decide +kernel
theorem dL_areBits_152 : decode cL_areBits 152 = .ok (.iload 4, 2) := by decide +kernel
theorem dL_areBits_154 : decode cL_areBits 154 = .ok (.if_icmp .ne 7, 3) := by decide +kernel
theorem dL_areBits_157 : decode cL_areBits 157 = .ok (.iconst 1, 1) := by decide +kernel
theorem dL_areBits_158 : decode cL_areBits 158 = .ok (.goto 4, 3) := by decide +kernel
theorem dL_areBits_161 : decode cL_areBits 161 = .ok (.iconst 0, 1) := by decide +kernel
theorem dL_areBits_162 : decode cL_areBits 162 = .ok (.istore 5, 2) := by decide +kernel
theorem dL_areBits_164 : decode cL_areBits 164 = .ok (.aload_n 0, 1) := by decide +kernel
theorem dL_areBits_165 : decode cL_areBits 165 = .ok (.invokevirtual 86, 3) := by decide +kernel
theorem dL_areBits_168 : decode cL_areBits 168 = .ok (.ifCond .le 79, 3) := by decide +kernel
theorem dL_areBits_171 : decode cL_areBits 171 = .ok (.iload 5, 2) := by decide +kernel
theorem dL_areBits_173 : decode cL_areBits 173 = .ok (.ifCond .eq 74, 3) := by decide +kernel
theorem dL_areBits_176 : decode cL_areBits 176 = .ok (.iload_n 2, 1) := by decide +kernel
theorem dL_areBits_177 : decode cL_areBits 177 = .ok (.aload_n 0, 1) := by decide +kernel
theorem dL_areBits_178 : decode cL_areBits 178 = .ok (.invokevirtual 86, 3) := by decide +kernel
theorem dL_areBits_181 : decode cL_areBits 181 = .ok (.irem, 1) := by decide +kernel
theorem dL_areBits_182 : decode cL_areBits 182 = .ok (.istore 6, 2) := by decide +kernel
theorem dL_areBits_184 : decode cL_areBits 184 = .ok (.aload_n 0, 1) := by decide +kernel
theorem dL_areBits_185 : decode cL_areBits 185 = .ok (.iload 6, 2) := by decide +kernel
theorem dL_areBits_187 : decode cL_areBits 187 = .ok (.invokevirtual 101, 3) := by decide +kernel
theorem dL_areBits_190 : decode cL_areBits 190 = .ok (.istore 7, 2) := by decide +kernel
theorem dL_areBits_192 : decode cL_areBits 192 = .ok (.iload 7, 2) := by decide +kernel
theorem dL_areBits_194 : decode cL_areBits 194 = .ok (.ifCond .eq 9, 3) := by decide +kernel
theorem dL_areBits_197 : decode cL_areBits 197 = .ok (.iload 7, 2) := by decide +kernel
theorem dL_areBits_199 : decode cL_areBits 199 = .ok (.iconst 1, 1) := by decide +kernel
theorem dL_areBits_200 : decode cL_areBits 200 = .ok (.if_icmp .ne 44, 3) := by decide +kernel
theorem dL_areBits_203 : decode cL_areBits 203 = .ok (.aload_n 0, 1) := by decide +kernel
theorem dL_areBits_204 : decode cL_areBits 204 = .ok (.iload 6, 2) := by decide +kernel
theorem dL_areBits_206 : decode cL_areBits 206 = .ok (.invokevirtual 104, 3) := by decide +kernel
theorem dL_areBits_209 : decode cL_areBits 209 = .ok (.iconst 1, 1) := by decide +kernel
theorem dL_areBits_210 : decode cL_areBits 210 = .ok (.iload 7, 2) := by decide +kernel
theorem dL_areBits_212 : decode cL_areBits 212 = .ok (.isub, 1) := by decide +kernel
theorem dL_areBits_213 : decode cL_areBits 213 = .ok (.if_icmp .ne 31, 3) := by decide +kernel
theorem dL_areBits_216 : decode cL_areBits 216 = .ok (.aload_n 0, 1) := by decide +kernel
theorem dL_areBits_217 : decode cL_areBits 217 = .ok (.iload 6, 2) := by decide +kernel
theorem dL_areBits_219 : decode cL_areBits 219 = .ok (.invokevirtual 101, 3) := by decide +kernel
theorem dL_areBits_222 : decode cL_areBits 222 = .ok (.iconst 1, 1) := by decide +kernel
theorem dL_areBits_223 : decode cL_areBits 223 = .ok (.iload 7, 2) := by decide +kernel
theorem dL_areBits_225 : decode cL_areBits 225 = .ok (.isub, 1) := by decide +kernel
theorem dL_areBits_226 : decode cL_areBits 226 = .ok (.if_icmp .ne 18, 3) := by decide +kernel
theorem dL_areBits_229 : decode cL_areBits 229 = .ok (.aload_n 0, 1) := by decide +kernel
theorem dL_areBits_230 : decode cL_areBits 230 = .ok (.iload 6, 2) := by decide +kernel
theorem dL_areBits_232 : decode cL_areBits 232 = .ok (.invokevirtual 104, 3) := by decide +kernel
theorem dL_areBits_235 : decode cL_areBits 235 = .ok (.iload 7, 2) := by decide +kernel
theorem dL_areBits_237 : decode cL_areBits 237 = .ok (.if_icmp .ne 7, 3) := by decide +kernel
theorem dL_areBits_240 : decode cL_areBits 240 = .ok (.iconst 1, 1) := by decide +kernel
theorem dL_areBits_241 : decode cL_areBits 241 = .ok (.goto 4, 3) := by decide +kernel
theorem dL_areBits_244 : decode cL_areBits 244 = .ok (.iconst 0, 1) := by decide +kernel
theorem dL_areBits_245 : decode cL_areBits 245 = .ok (.istore 5, 2) := by decide +kernel
theorem dL_areBits_247 : decode cL_areBits 247 = .ok (.iload 5, 2) := by decide +kernel
theorem dL_areBits_249 : decode cL_areBits 249 = .ok (.ireturn, 1) := by decide +kernel
theorem dL_isWhole_0 : decode cL_isWhole 0 = .ok (.aload_n 0, 1) := by decide +kernel
theorem dL_isWhole_1 : decode cL_isWhole 1 = .ok (.invokevirtual 64, 3) := by decide +kernel
theorem dL_isWhole_4 : decode cL_isWhole 4 = .ok (.ifCond .ne 65, 3) := by decide +kernel
theorem dL_isWhole_7 : decode cL_isWhole 7 = .ok (.aload_n 0, 1) := by decide +kernel
theorem dL_isWhole_8 : decode cL_isWhole 8 = .ok (.invokevirtual 67, 3) := by decide +kernel
theorem dL_isWhole_11 : decode cL_isWhole 11 = .ok (.ifCond .ne 58, 3) := by decide +kernel
theorem dL_isWhole_14 : decode cL_isWhole 14 = .ok (.aload_n 0, 1) := by decide +kernel
theorem dL_isWhole_15 : decode cL_isWhole 15 = .ok (.invokevirtual 61, 3) := by decide +kernel
theorem dL_isWhole_18 : decode cL_isWhole 18 = .ok (.iload 4, 2) := by decide +kernel
theorem dL_isWhole_20 : decode cL_isWhole 20 = .ok (.iconst 2, 1) := by decide +kernel
theorem dL_isWhole_21 : decode cL_isWhole 21 = .ok (.if_icmp .ge 7, 3) := by decide +kernel
theorem dL_isWhole_24 : decode cL_isWhole 24 = .ok (.iconst 0, 1) := by decide +kernel
theorem dL_isWhole_25 : decode cL_isWhole 25 = .ok (.goto 7, 3) := by decide +kernel
theorem dL_isWhole_28 : decode cL_isWhole 28 = .ok (.iload 4, 2) := by decide +kernel
theorem dL_isWhole_30 : decode cL_isWhole 30 = .ok (.iconst 1, 1) := by decide +kernel
theorem dL_isWhole_31 : decode cL_isWhole 31 = .ok (.isub, 1) := by decide +kernel
theorem dL_isWhole_32 : decode cL_isWhole 32 = .ok (.if_icmp .ne 37, 3) := by decide +kernel
theorem dL_isWhole_35 : decode cL_isWhole 35 = .ok (.aload_n 0, 1) := by decide +kernel
theorem dL_isWhole_36 : decode cL_isWhole 36 = .ok (.invokevirtual 92, 3) := by decide +kernel
theorem dL_isWhole_39 : decode cL_isWhole 39 = .ok (.iload 4, 2) := by decide +kernel
theorem dL_isWhole_41 : decode cL_isWhole 41 = .ok (.iconst 2, 1) := by decide +kernel
theorem dL_isWhole_42 : decode cL_isWhole 42 = .ok (.if_icmp .ge 7, 3) := by decide +kernel
theorem dL_isWhole_45 : decode cL_isWhole 45 = .ok (.iconst 1, 1) := by decide +kernel
theorem dL_isWhole_46 : decode cL_isWhole 46 = .ok (.goto 4, 3) := by decide +kernel
theorem dL_isWhole_49 : decode cL_isWhole 49 = .ok (.iconst 2, 1) := by decide +kernel
theorem dL_isWhole_50 : decode cL_isWhole 50 = .ok (.if_icmp .ne 19, 3) := by decide +kernel
theorem dL_isWhole_53 : decode cL_isWhole 53 = .ok (.aload_n 0, 1) := by decide +kernel
theorem dL_isWhole_54 : decode cL_isWhole 54 = .ok (.iconst 0, 1) := by decide +kernel
theorem dL_isWhole_55 : decode cL_isWhole 55 = .ok (.invokevirtual 95, 3) := by decide +kernel
theorem dL_isWhole_58 : decode cL_isWhole 58 = .ok (.iload 4, 2) := by decide +kernel
theorem dL_isWhole_60 : decode cL_isWhole 60 = .ok (.iconst 1, 1) := by decide +kernel
theorem dL_isWhole_61 : decode cL_isWhole 61 = .ok (.iadd, 1) := by decide +kernel
theorem dL_isWhole_62 : decode cL_isWhole 62 = .ok (.if_icmp .ne 7, 3) := by decide +kernel
theorem dL_isWhole_65 : decode cL_isWhole 65 = .ok (.iconst 1, 1) := by decide +kernel
theorem dL_isWhole_66 : decode cL_isWhole 66 = .ok (.goto 4, 3) := by decide +kernel
theorem dL_isWhole_69 : decode cL_isWhole 69 = .ok (.iconst 0, 1) := by decide +kernel
theorem dL_isWhole_70 : decode cL_isWhole 70 = .ok (.istore 5, 2) := by decide +kernel
theorem dL_isWhole_72 : decode cL_isWhole 72 = .ok (.iconst 0, 1) := by decide +kernel
theorem dL_isWhole_73 : decode cL_isWhole 73 = .ok (.istore 6, 2) := by decide +kernel
theorem dL_isWhole_75 : decode cL_isWhole 75 = .ok (.iload 6, 2) := by decide +kernel
theorem dL_isWhole_77 : decode cL_isWhole 77 = .ok (.aload_n 0, 1) := by decide +kernel
theorem dL_isWhole_78 : decode cL_isWhole 78 = .ok (.invokevirtual 42, 3) := by decide +kernel
theorem dL_isWhole_81 : decode cL_isWhole 81 = .ok (.if_icmp .ge 98, 3) := by decide +kernel
theorem dL_isWhole_84 : decode cL_isWhole 84 = .ok (.iload 5, 2) := by decide +kernel
theorem dL_isWhole_86 : decode cL_isWhole 86 = .ok (.ifCond .eq 93, 3) := by decide +kernel
theorem dL_isWhole_89 : decode cL_isWhole 89 = .ok (.iload 4, 2) := by decide +kernel
theorem dL_isWhole_91 : decode cL_isWhole 91 = .ok (.aload_n 1, 1) := by decide +kernel
theorem dL_isWhole_92 : decode cL_isWhole 92 = .ok (.iconst 4, 1) := by decide +kernel
theorem dL_isWhole_93 : decode cL_isWhole 93 = .ok (.iload 6, 2) := by decide +kernel
theorem dL_isWhole_95 : decode cL_isWhole 95 = .ok (.imul, 1) := by decide +kernel
theorem dL_isWhole_96 : decode cL_isWhole 96 = .ok (.iconst 2, 1) := by decide +kernel
theorem dL_isWhole_97 : decode cL_isWhole 97 = .ok (.iadd, 1) := by decide +kernel
theorem dL_isWhole_98 : decode cL_isWhole 98 = .ok (.iaload, 1) := by decide +kernel
theorem dL_isWhole_99 : decode cL_isWhole 99 = .ok (.irem, 1) := by decide +kernel
theorem dL_isWhole_100 : decode cL_isWhole 100 = .ok (.aload_n 0, 1) := by decide +kernel
theorem dL_isWhole_101 : decode cL_isWhole 101 = .ok (.iload 6, 2) := by decide +kernel
theorem dL_isWhole_103 : decode cL_isWhole 103 = .ok (.invokevirtual 55, 3) := by decide +kernel
theorem dL_isWhole_106 : decode cL_isWhole 106 = .ok (.bipush 100, 2) := by decide +kernel
theorem dL_isWhole_108 : decode cL_isWhole 108 = .ok (.idiv, 1) := by decide +kernel
theorem dL_isWhole_109 : decode cL_isWhole 109 = .ok (.if_icmp .ne 7, 3) := by decide +kernel
theorem dL_isWhole_112 : decode cL_isWhole 112 = .ok (.iconst 1, 1) := by decide +kernel
theorem dL_isWhole_113 : decode cL_isWhole 113 = .ok (.goto 4, 3) := by decide +kernel
theorem dL_isWhole_116 : decode cL_isWhole 116 = .ok (.iconst 0, 1) := by decide +kernel
theorem dL_isWhole_117 : decode cL_isWhole 117 = .ok (.istore 7, 2) := by decide +kernel
theorem dL_isWhole_119 : decode cL_isWhole 119 = .ok (.iload 4, 2) := by decide +kernel
theorem dL_isWhole_121 : decode cL_isWhole 121 = .ok (.iconst 2, 1) := by decide +kernel
theorem dL_isWhole_122 : decode cL_isWhole 122 = .ok (.if_icmp .lt 44, 3) := by decide +kernel
theorem dL_isWhole_125 : decode cL_isWhole 125 = .ok (.iload 7, 2) := by decide +kernel
theorem dL_isWhole_127 : decode cL_isWhole 127 = .ok (.ifCond .eq 39, 3) := by decide +kernel
theorem dL_isWhole_130 : decode cL_isWhole 130 = .ok (.aload_n 0, 1) := by decide +kernel
theorem dL_isWhole_131 : decode cL_isWhole 131 = .ok (.iload 6, 2) := by decide +kernel
theorem dL_isWhole_133 : decode cL_isWhole 133 = .ok (.invokevirtual 10, 3) := by decide +kernel
theorem dL_isWhole_136 : decode cL_isWhole 136 = .ok (.aload_n 2, 1) := by decide +kernel
theorem dL_isWhole_137 : decode cL_isWhole 137 = .ok (.iload 6, 2) := by decide +kernel
theorem dL_isWhole_139 : decode cL_isWhole 139 = .ok (.iaload, 1) := by decide +kernel
theorem dL_isWhole_140 : decode cL_isWhole 140 = .ok (.if_icmp .ne 30, 3) := by decide +kernel
theorem dL_isWhole_143 : decode cL_isWhole 143 = .ok (.aload_n 0, 1) := by decide +kernel
theorem dL_isWhole_144 : decode cL_isWhole 144 = .ok (.iload 6, 2) := by decide +kernel
theorem dL_isWhole_146 : decode cL_isWhole 146 = .ok (.invokevirtual 16, 3) := by decide +kernel
theorem dL_isWhole_149 : decode cL_isWhole 149 = .ok (.bipush 64, 2) := by decide +kernel
theorem dL_isWhole_151 : decode cL_isWhole 151 = .ok (.idiv, 1) := by decide +kernel
theorem dL_isWhole_152 : decode cL_isWhole 152 = .ok (.iload 4, 2) := by decide +kernel
theorem dL_isWhole_154 : decode cL_isWhole 154 = .ok (.if_icmp .ne 16, 3) := by decide +kernel
theorem dL_isWhole_157 : decode cL_isWhole 157 = .ok (.aload_n 0, 1) := by decide +kernel
theorem dL_isWhole_158 : decode cL_isWhole 158 = .ok (.iload 6, 2) := by decide +kernel
theorem dL_isWhole_160 : decode cL_isWhole 160 = .ok (.invokevirtual 73, 3) := by decide +kernel
theorem dL_isWhole_163 : decode cL_isWhole 163 = .ok (.ifCond .ne 7, 3) := by decide +kernel
theorem dL_isWhole_166 : decode cL_isWhole 166 = .ok (.iconst 1, 1) := by decide +kernel
theorem dL_isWhole_167 : decode cL_isWhole 167 = .ok (.goto 4, 3) := by decide +kernel
theorem dL_isWhole_170 : decode cL_isWhole 170 = .ok (.iconst 0, 1) := by decide +kernel
theorem dL_isWhole_171 : decode cL_isWhole 171 = .ok (.istore 5, 2) := by decide +kernel
theorem dL_isWhole_173 : decode cL_isWhole 173 = .ok (.iinc 6 1, 3) := by decide +kernel
theorem dL_isWhole_176 : decode cL_isWhole 176 = .ok (.goto (-101), 3) := by decide +kernel
theorem dL_isWhole_179 : decode cL_isWhole 179 = .ok (.iload 5, 2) := by decide +kernel
theorem dL_isWhole_181 : decode cL_isWhole 181 = .ok (.ireturn, 1) := by decide +kernel
theorem dL_reaches_0 : decode cL_reaches 0 = .ok (.iload_n 1, 1) := by decide +kernel
theorem dL_reaches_1 : decode cL_reaches 1 = .ok (.bipush 100, 2) := by decide +kernel
theorem dL_reaches_3 : decode cL_reaches 3 = .ok (.if_icmp .lt 12, 3) := by decide +kernel
theorem dL_reaches_6 : decode cL_reaches 6 = .ok (.iconst 1, 1) := by decide +kernel
theorem dL_reaches_7 : decode cL_reaches 7 = .ok (.iload_n 1, 1) := by decide +kernel
theorem dL_reaches_8 : decode cL_reaches 8 = .ok (.bipush 100, 2) := by decide +kernel
theorem dL_reaches_10 : decode cL_reaches 10 = .ok (.isub, 1) := by decide +kernel
theorem dL_reaches_11 : decode cL_reaches 11 = .ok (.ishl, 1) := by decide +kernel
theorem dL_reaches_12 : decode cL_reaches 12 = .ok (.goto 4, 3) := by decide +kernel
theorem dL_reaches_15 : decode cL_reaches 15 = .ok (.iconst 0, 1) := by decide +kernel
theorem dL_reaches_16 : decode cL_reaches 16 = .ok (.istore_n 3, 1) := by decide +kernel
theorem dL_reaches_17 : decode cL_reaches 17 = .ok (.iconst 0, 1) := by decide +kernel
theorem dL_reaches_18 : decode cL_reaches 18 = .ok (.istore 4, 2) := by decide +kernel
theorem dL_reaches_20 : decode cL_reaches 20 = .ok (.iload 4, 2) := by decide +kernel
theorem dL_reaches_22 : decode cL_reaches 22 = .ok (.bipush 8, 2) := by decide +kernel
theorem dL_reaches_24 : decode cL_reaches 24 = .ok (.if_icmp .ge 105, 3) := by decide +kernel
theorem dL_reaches_27 : decode cL_reaches 27 = .ok (.iconst 0, 1) := by decide +kernel
theorem dL_reaches_28 : decode cL_reaches 28 = .ok (.istore 5, 2) := by decide +kernel
theorem dL_reaches_30 : decode cL_reaches 30 = .ok (.iload 5, 2) := by decide +kernel
theorem dL_reaches_32 : decode cL_reaches 32 = .ok (.bipush 8, 2) := by decide +kernel
theorem dL_reaches_34 : decode cL_reaches 34 = .ok (.if_icmp .ge 89, 3) := by decide +kernel
theorem dL_reaches_37 : decode cL_reaches 37 = .ok (.iload_n 3, 1) := by decide +kernel
theorem dL_reaches_38 : decode cL_reaches 38 = .ok (.iload 5, 2) := by decide +kernel
theorem dL_reaches_40 : decode cL_reaches 40 = .ok (.ishr, 1) := by decide +kernel
theorem dL_reaches_41 : decode cL_reaches 41 = .ok (.iconst 1, 1) := by decide +kernel
theorem dL_reaches_42 : decode cL_reaches 42 = .ok (.iand, 1) := by decide +kernel
theorem dL_reaches_43 : decode cL_reaches 43 = .ok (.iconst 1, 1) := by decide +kernel
theorem dL_reaches_44 : decode cL_reaches 44 = .ok (.if_icmp .ne 73, 3) := by decide +kernel
theorem dL_reaches_47 : decode cL_reaches 47 = .ok (.aload_n 0, 1) := by decide +kernel
theorem dL_reaches_48 : decode cL_reaches 48 = .ok (.iload 5, 2) := by decide +kernel
theorem dL_reaches_50 : decode cL_reaches 50 = .ok (.iaload, 1) := by decide +kernel
theorem dL_reaches_51 : decode cL_reaches 51 = .ok (.ifCond .eq 66, 3) := by decide +kernel
theorem dL_reaches_54 : decode cL_reaches 54 = .ok (.aload_n 0, 1) := by decide +kernel
theorem dL_reaches_55 : decode cL_reaches 55 = .ok (.iload 5, 2) := by decide +kernel
theorem dL_reaches_57 : decode cL_reaches 57 = .ok (.iaload, 1) := by decide +kernel
theorem dL_reaches_58 : decode cL_reaches 58 = .ok (.bipush 10, 2) := by decide +kernel
theorem dL_reaches_60 : decode cL_reaches 60 = .ok (.ishr, 1) := by decide +kernel
theorem dL_reaches_61 : decode cL_reaches 61 = .ok (.sipush 1023, 3) := by decide +kernel
theorem dL_reaches_64 : decode cL_reaches 64 = .ok (.iand, 1) := by decide +kernel
theorem dL_reaches_65 : decode cL_reaches 65 = .ok (.istore 6, 2) := by decide +kernel
theorem dL_reaches_67 : decode cL_reaches 67 = .ok (.aload_n 0, 1) := by decide +kernel
theorem dL_reaches_68 : decode cL_reaches 68 = .ok (.iload 5, 2) := by decide +kernel
theorem dL_reaches_70 : decode cL_reaches 70 = .ok (.iaload, 1) := by decide +kernel
theorem dL_reaches_71 : decode cL_reaches 71 = .ok (.sipush 1023, 3) := by decide +kernel
theorem dL_reaches_74 : decode cL_reaches 74 = .ok (.iand, 1) := by decide +kernel
theorem dL_reaches_75 : decode cL_reaches 75 = .ok (.istore 7, 2) := by decide +kernel
theorem dL_reaches_77 : decode cL_reaches 77 = .ok (.iload_n 3, 1) := by decide +kernel
theorem dL_reaches_78 : decode cL_reaches 78 = .ok (.iload 6, 2) := by decide +kernel
theorem dL_reaches_80 : decode cL_reaches 80 = .ok (.bipush 100, 2) := by decide +kernel
theorem dL_reaches_82 : decode cL_reaches 82 = .ok (.if_icmp .lt 13, 3) := by decide +kernel
theorem dL_reaches_85 : decode cL_reaches 85 = .ok (.iconst 1, 1) := by decide +kernel
theorem dL_reaches_86 : decode cL_reaches 86 = .ok (.iload 6, 2) := by decide +kernel
theorem dL_reaches_88 : decode cL_reaches 88 = .ok (.bipush 100, 2) := by decide +kernel
theorem dL_reaches_90 : decode cL_reaches 90 = .ok (.isub, 1) := by decide +kernel
theorem dL_reaches_91 : decode cL_reaches 91 = .ok (.ishl, 1) := by decide +kernel
theorem dL_reaches_92 : decode cL_reaches 92 = .ok (.goto 4, 3) := by decide +kernel
theorem dL_reaches_95 : decode cL_reaches 95 = .ok (.iconst 0, 1) := by decide +kernel
theorem dL_reaches_96 : decode cL_reaches 96 = .ok (.iload 7, 2) := by decide +kernel
theorem dL_reaches_98 : decode cL_reaches 98 = .ok (.bipush 100, 2) := by decide +kernel
theorem dL_reaches_100 : decode cL_reaches 100 = .ok (.if_icmp .lt 13, 3) := by decide +kernel
theorem dL_reaches_103 : decode cL_reaches 103 = .ok (.iconst 1, 1) := by decide +kernel
theorem dL_reaches_104 : decode cL_reaches 104 = .ok (.iload 7, 2) := by decide +kernel
theorem dL_reaches_106 : decode cL_reaches 106 = .ok (.bipush 100, 2) := by decide +kernel
theorem dL_reaches_108 : decode cL_reaches 108 = .ok (.isub, 1) := by decide +kernel
theorem dL_reaches_109 : decode cL_reaches 109 = .ok (.ishl, 1) := by decide +kernel
theorem dL_reaches_110 : decode cL_reaches 110 = .ok (.goto 4, 3) := by decide +kernel
theorem dL_reaches_113 : decode cL_reaches 113 = .ok (.iconst 0, 1) := by decide +kernel
theorem dL_reaches_114 : decode cL_reaches 114 = .ok (.ior, 1) := by decide +kernel
theorem dL_reaches_115 : decode cL_reaches 115 = .ok (.ior, 1) := by decide +kernel
theorem dL_reaches_116 : decode cL_reaches 116 = .ok (.istore_n 3, 1) := by decide +kernel
theorem dL_reaches_117 : decode cL_reaches 117 = .ok (.iinc 5 1, 3) := by decide +kernel
theorem dL_reaches_120 : decode cL_reaches 120 = .ok (.goto (-90), 3) := by decide +kernel
theorem dL_reaches_123 : decode cL_reaches 123 = .ok (.iinc 4 1, 3) := by decide +kernel
theorem dL_reaches_126 : decode cL_reaches 126 = .ok (.goto (-106), 3) := by decide +kernel
theorem dL_reaches_129 : decode cL_reaches 129 = .ok (.iload_n 3, 1) := by decide +kernel
theorem dL_reaches_130 : decode cL_reaches 130 = .ok (.iload_n 2, 1) := by decide +kernel
theorem dL_reaches_131 : decode cL_reaches 131 = .ok (.ishr, 1) := by decide +kernel
theorem dL_reaches_132 : decode cL_reaches 132 = .ok (.iconst 1, 1) := by decide +kernel
theorem dL_reaches_133 : decode cL_reaches 133 = .ok (.iand, 1) := by decide +kernel
theorem dL_reaches_134 : decode cL_reaches 134 = .ok (.iconst 1, 1) := by decide +kernel
theorem dL_reaches_135 : decode cL_reaches 135 = .ok (.if_icmp .ne 7, 3) := by decide +kernel
theorem dL_reaches_138 : decode cL_reaches 138 = .ok (.iconst 1, 1) := by decide +kernel
theorem dL_reaches_139 : decode cL_reaches 139 = .ok (.goto 4, 3) := by decide +kernel
theorem dL_reaches_142 : decode cL_reaches 142 = .ok (.iconst 0, 1) := by decide +kernel
theorem dL_reaches_143 : decode cL_reaches 143 = .ok (.ireturn, 1) := by decide +kernel
theorem dL_derives_0 : decode cL_derives 0 = .ok (.iload_n 1, 1) := by decide +kernel
theorem dL_derives_1 : decode cL_derives 1 = .ok (.bipush 8, 2) := by decide +kernel
theorem dL_derives_3 : decode cL_derives 3 = .ok (.irem, 1) := by decide +kernel
theorem dL_derives_4 : decode cL_derives 4 = .ok (.istore 4, 2) := by decide +kernel
theorem dL_derives_6 : decode cL_derives 6 = .ok (.iload_n 2, 1) := by decide +kernel
theorem dL_derives_7 : decode cL_derives 7 = .ok (.iconst 5, 1) := by decide +kernel
theorem dL_derives_8 : decode cL_derives 8 = .ok (.irem, 1) := by decide +kernel
theorem dL_derives_9 : decode cL_derives 9 = .ok (.istore 5, 2) := by decide +kernel
theorem dL_derives_11 : decode cL_derives 11 = .ok (.iload_n 1, 1) := by decide +kernel
theorem dL_derives_12 : decode cL_derives 12 = .ok (.bipush 8, 2) := by decide +kernel
theorem dL_derives_14 : decode cL_derives 14 = .ok (.idiv, 1) := by decide +kernel
theorem dL_derives_15 : decode cL_derives 15 = .ok (.iconst 3, 1) := by decide +kernel
theorem dL_derives_16 : decode cL_derives 16 = .ok (.irem, 1) := by decide +kernel
theorem dL_derives_17 : decode cL_derives 17 = .ok (.ifCond .ne 16, 3) := by decide +kernel
theorem dL_derives_20 : decode cL_derives 20 = .ok (.bipush 100, 2) := by decide +kernel
theorem dL_derives_22 : decode cL_derives 22 = .ok (.iload_n 1, 1) := by decide +kernel
theorem dL_derives_23 : decode cL_derives 23 = .ok (.bipush 24, 2) := by decide +kernel
