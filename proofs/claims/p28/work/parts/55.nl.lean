theorem dL_below_0 : decode cL_below 0 = .ok (.iload_n 0, 1) := by decide +kernel
theorem dL_below_1 : decode cL_below 1 = .ok (.ldc 7, 2) := by decide +kernel
theorem dL_below_3 : decode cL_below 3 = .ok (.iand, 1) := by decide +kernel
theorem dL_below_4 : decode cL_below 4 = .ok (.iload_n 1, 1) := by decide +kernel
theorem dL_below_5 : decode cL_below 5 = .ok (.irem, 1) := by decide +kernel
theorem dL_below_6 : decode cL_below 6 = .ok (.ireturn, 1) := by decide +kernel
theorem dL_cell_0 : decode cL_cell 0 = .ok (.iload_n 1, 1) := by decide +kernel
theorem dL_cell_1 : decode cL_cell 1 = .ok (.aload_n 0, 1) := by decide +kernel
theorem dL_cell_2 : decode cL_cell 2 = .ok (.arraylength, 1) := by decide +kernel
theorem dL_cell_3 : decode cL_cell 3 = .ok (.if_icmp .ge 9, 3) := by decide +kernel
theorem dL_cell_6 : decode cL_cell 6 = .ok (.aload_n 0, 1) := by decide +kernel
theorem dL_cell_7 : decode cL_cell 7 = .ok (.iload_n 1, 1) := by decide +kernel
theorem dL_cell_8 : decode cL_cell 8 = .ok (.iaload, 1) := by decide +kernel
theorem dL_cell_9 : decode cL_cell 9 = .ok (.goto 9, 3) := by decide +kernel
theorem dL_cell_12 : decode cL_cell 12 = .ok (.ldc 8, 2) := by decide +kernel
theorem dL_cell_14 : decode cL_cell 14 = .ok (.iload_n 1, 1) := by decide +kernel
theorem dL_cell_15 : decode cL_cell 15 = .ok (.iconst 3, 1) := by decide +kernel
theorem dL_cell_16 : decode cL_cell 16 = .ok (.iadd, 1) := by decide +kernel
theorem dL_cell_17 : decode cL_cell 17 = .ok (.imul, 1) := by decide +kernel
theorem dL_cell_18 : decode cL_cell 18 = .ok (.ireturn, 1) := by decide +kernel
theorem dL_law_0 : decode cL_law 0 = .ok (.new 9, 3) := by decide +kernel
theorem dL_law_3 : decode cL_law 3 = .ok (.dup, 1) := by decide +kernel
theorem dL_law_4 : decode cL_law 4 = .ok (.invokespecial 11, 3) := by decide +kernel
theorem dL_law_7 : decode cL_law 7 = .ok (.astore_n 1, 1) := by decide +kernel
theorem dL_law_8 : decode cL_law 8 = .ok (.bipush 8, 2) := by decide +kernel
theorem dL_law_10 : decode cL_law 10 = .ok (.bipush 8, 2) := by decide +kernel
theorem dL_law_12 : decode cL_law 12 = .ok (.multianewarray 12 2, 4) := by decide +kernel
theorem dL_law_16 : decode cL_law 16 = .ok (.astore_n 2, 1) := by decide +kernel
theorem dL_law_17 : decode cL_law 17 = .ok (.iconst 0, 1) := by decide +kernel
theorem dL_law_18 : decode cL_law 18 = .ok (.istore_n 3, 1) := by decide +kernel
theorem dL_law_19 : decode cL_law 19 = .ok (.iconst 0, 1) := by decide +kernel
theorem dL_law_20 : decode cL_law 20 = .ok (.istore 4, 2) := by decide +kernel
theorem dL_law_22 : decode cL_law 22 = .ok (.iload 4, 2) := by decide +kernel
theorem dL_law_24 : decode cL_law 24 = .ok (.bipush 44, 2) := by decide +kernel
theorem dL_law_26 : decode cL_law 26 = .ok (.if_icmp .ge 611, 3) := by decide +kernel
theorem dL_law_29 : decode cL_law 29 = .ok (.aload_n 0, 1) := by decide +kernel
theorem dL_law_30 : decode cL_law 30 = .ok (.iload 4, 2) := by decide +kernel
theorem dL_law_32 : decode cL_law 32 = .ok (.bipush 16, 2) := by decide +kernel
theorem dL_law_34 : decode cL_law 34 = .ok (.irem, 1) := by decide +kernel
theorem dL_law_35 : decode cL_law 35 = .ok (.invokestatic 14, 3) := by decide +kernel
theorem dL_law_38 : decode cL_law 38 = .ok (.bipush 31, 2) := by decide +kernel
theorem dL_law_40 : decode cL_law 40 = .ok (.iload 4, 2) := by decide +kernel
theorem dL_law_42 : decode cL_law 42 = .ok (.imul, 1) := by decide +kernel
theorem dL_law_43 : decode cL_law 43 = .ok (.iadd, 1) := by decide +kernel
theorem dL_law_44 : decode cL_law 44 = .ok (.istore 5, 2) := by decide +kernel
theorem dL_law_46 : decode cL_law 46 = .ok (.aload_n 0, 1) := by decide +kernel
theorem dL_law_47 : decode cL_law 47 = .ok (.bipush 7, 2) := by decide +kernel
theorem dL_law_49 : decode cL_law 49 = .ok (.iload 4, 2) := by decide +kernel
theorem dL_law_51 : decode cL_law 51 = .ok (.imul, 1) := by decide +kernel
theorem dL_law_52 : decode cL_law 52 = .ok (.iconst 3, 1) := by decide +kernel
theorem dL_law_53 : decode cL_law 53 = .ok (.iadd, 1) := by decide +kernel
theorem dL_law_54 : decode cL_law 54 = .ok (.bipush 16, 2) := by decide +kernel
theorem dL_law_56 : decode cL_law 56 = .ok (.irem, 1) := by decide +kernel
theorem dL_law_57 : decode cL_law 57 = .ok (.invokestatic 14, 3) := by decide +kernel
theorem dL_law_60 : decode cL_law 60 = .ok (.iconst 5, 1) := by decide +kernel
theorem dL_law_61 : decode cL_law 61 = .ok (.iload 4, 2) := by decide +kernel
theorem dL_law_63 : decode cL_law 63 = .ok (.imul, 1) := by decide +kernel
theorem dL_law_64 : decode cL_law 64 = .ok (.iadd, 1) := by decide +kernel
theorem dL_law_65 : decode cL_law 65 = .ok (.istore 6, 2) := by decide +kernel
theorem dL_law_67 : decode cL_law 67 = .ok (.aload_n 1, 1) := by decide +kernel
theorem dL_law_68 : decode cL_law 68 = .ok (.iconst 0, 1) := by decide +kernel
theorem dL_law_69 : decode cL_law 69 = .ok (.invokevirtual 20, 3) := by decide +kernel
theorem dL_law_72 : decode cL_law 72 = .ok (.istore 7, 2) := by decide +kernel
theorem dL_law_74 : decode cL_law 74 = .ok (.aload_n 1, 1) := by decide +kernel
theorem dL_law_75 : decode cL_law 75 = .ok (.iconst 1, 1) := by decide +kernel
theorem dL_law_76 : decode cL_law 76 = .ok (.invokevirtual 20, 3) := by decide +kernel
theorem dL_law_79 : decode cL_law 79 = .ok (.istore 8, 2) := by decide +kernel
theorem dL_law_81 : decode cL_law 81 = .ok (.iload 6, 2) := by decide +kernel
theorem dL_law_83 : decode cL_law 83 = .ok (.iconst 1, 1) := by decide +kernel
theorem dL_law_84 : decode cL_law 84 = .ok (.iload 8, 2) := by decide +kernel
theorem dL_law_86 : decode cL_law 86 = .ok (.invokestatic 24, 3) := by decide +kernel
theorem dL_law_89 : decode cL_law 89 = .ok (.invokestatic 30, 3) := by decide +kernel
theorem dL_law_92 : decode cL_law 92 = .ok (.istore 9, 2) := by decide +kernel
theorem dL_law_94 : decode cL_law 94 = .ok (.iload 5, 2) := by decide +kernel
theorem dL_law_96 : decode cL_law 96 = .ok (.bipush 7, 2) := by decide +kernel
theorem dL_law_98 : decode cL_law 98 = .ok (.idiv, 1) := by decide +kernel
theorem dL_law_99 : decode cL_law 99 = .ok (.bipush 8, 2) := by decide +kernel
theorem dL_law_101 : decode cL_law 101 = .ok (.invokestatic 30, 3) := by decide +kernel
theorem dL_law_104 : decode cL_law 104 = .ok (.istore 10, 2) := by decide +kernel
theorem dL_law_106 : decode cL_law 106 = .ok (.iload 5, 2) := by decide +kernel
theorem dL_law_108 : decode cL_law 108 = .ok (.bipush 13, 2) := by decide +kernel
theorem dL_law_110 : decode cL_law 110 = .ok (.invokestatic 30, 3) := by decide +kernel
theorem dL_law_113 : decode cL_law 113 = .ok (.tableswitch 372 0 11 #[63, 107, 151, 151, 151, 207, 238, 238, 258, 310, 310, 310], 63) := by decide +kernel
theorem dL_law_176 : decode cL_law 176 = .ok (.iload 7, 2) := by decide +kernel
theorem dL_law_178 : decode cL_law 178 = .ok (.iconst 3, 1) := by decide +kernel
theorem dL_law_179 : decode cL_law 179 = .ok (.if_icmp .ge 326, 3) := by decide +kernel
theorem dL_law_182 : decode cL_law 182 = .ok (.aload_n 1, 1) := by decide +kernel
theorem dL_law_183 : decode cL_law 183 = .ok (.iload 6, 2) := by decide +kernel
theorem dL_law_185 : decode cL_law 185 = .ok (.bipush 8, 2) := by decide +kernel
theorem dL_law_187 : decode cL_law 187 = .ok (.invokestatic 30, 3) := by decide +kernel
theorem dL_law_190 : decode cL_law 190 = .ok (.iload 5, 2) := by decide +kernel
theorem dL_law_192 : decode cL_law 192 = .ok (.iconst 3, 1) := by decide +kernel
theorem dL_law_193 : decode cL_law 193 = .ok (.idiv, 1) := by decide +kernel
theorem dL_law_194 : decode cL_law 194 = .ok (.bipush 8, 2) := by decide +kernel
theorem dL_law_196 : decode cL_law 196 = .ok (.invokestatic 30, 3) := by decide +kernel
theorem dL_law_199 : decode cL_law 199 = .ok (.iconst 1, 1) := by decide +kernel
theorem dL_law_200 : decode cL_law 200 = .ok (.iload 6, 2) := by decide +kernel
theorem dL_law_202 : decode cL_law 202 = .ok (.iconst 3, 1) := by decide +kernel
theorem dL_law_203 : decode cL_law 203 = .ok (.idiv, 1) := by decide +kernel
theorem dL_law_204 : decode cL_law 204 = .ok (.bipush 9, 2) := by decide +kernel
theorem dL_law_206 : decode cL_law 206 = .ok (.invokestatic 30, 3) := by decide +kernel
theorem dL_law_209 : decode cL_law 209 = .ok (.iadd, 1) := by decide +kernel
theorem dL_law_210 : decode cL_law 210 = .ok (.invokevirtual 33, 3) := by decide +kernel
theorem dL_law_213 : decode cL_law 213 = .ok (.iload 7, 2) := by decide +kernel
theorem dL_law_215 : decode cL_law 215 = .ok (.if_icmp .eq 290, 3) := by decide +kernel
theorem dL_law_218 : decode cL_law 218 = .ok (.iconst 0, 1) := by decide +kernel
theorem dL_law_219 : decode cL_law 219 = .ok (.ireturn, 1) := by decide +kernel
theorem dL_law_220 : decode cL_law 220 = .ok (.iload 7, 2) := by decide +kernel
theorem dL_law_222 : decode cL_law 222 = .ok (.ifCond .le 283, 3) := by decide +kernel
theorem dL_law_225 : decode cL_law 225 = .ok (.aload_n 1, 1) := by decide +kernel
theorem dL_law_226 : decode cL_law 226 = .ok (.iload 6, 2) := by decide +kernel
theorem dL_law_228 : decode cL_law 228 = .ok (.iload 7, 2) := by decide +kernel
theorem dL_law_230 : decode cL_law 230 = .ok (.invokestatic 30, 3) := by decide +kernel
theorem dL_law_233 : decode cL_law 233 = .ok (.iload 10, 2) := by decide +kernel
theorem dL_law_235 : decode cL_law 235 = .ok (.iload 5, 2) := by decide +kernel
theorem dL_law_237 : decode cL_law 237 = .ok (.iconst 3, 1) := by decide +kernel
theorem dL_law_238 : decode cL_law 238 = .ok (.idiv, 1) := by decide +kernel
theorem dL_law_239 : decode cL_law 239 = .ok (.bipush 8, 2) := by decide +kernel
theorem dL_law_241 : decode cL_law 241 = .ok (.invokestatic 30, 3) := by decide +kernel
theorem dL_law_244 : decode cL_law 244 = .ok (.iconst 1, 1) := by decide +kernel
theorem dL_law_245 : decode cL_law 245 = .ok (.iload 6, 2) := by decide +kernel
theorem dL_law_247 : decode cL_law 247 = .ok (.iconst 3, 1) := by decide +kernel
theorem dL_law_248 : decode cL_law 248 = .ok (.idiv, 1) := by decide +kernel
theorem dL_law_249 : decode cL_law 249 = .ok (.bipush 9, 2) := by decide +kernel
theorem dL_law_251 : decode cL_law 251 = .ok (.invokestatic 30, 3) := by decide +kernel
theorem dL_law_254 : decode cL_law 254 = .ok (.iadd, 1) := by decide +kernel
theorem dL_law_255 : decode cL_law 255 = .ok (.invokevirtual 37, 3) := by decide +kernel
theorem dL_law_258 : decode cL_law 258 = .ok (.iconst 1, 1) := by decide +kernel
theorem dL_law_259 : decode cL_law 259 = .ok (.if_icmp .ge 246, 3) := by decide +kernel
theorem dL_law_262 : decode cL_law 262 = .ok (.iconst 0, 1) := by decide +kernel
theorem dL_law_263 : decode cL_law 263 = .ok (.ireturn, 1) := by decide +kernel
theorem dL_law_264 : decode cL_law 264 = .ok (.iload 6, 2) := by decide +kernel
theorem dL_law_266 : decode cL_law 266 = .ok (.bipush 13, 2) := by decide +kernel
theorem dL_law_268 : decode cL_law 268 = .ok (.invokestatic 30, 3) := by decide +kernel
theorem dL_law_271 : decode cL_law 271 = .ok (.bipush 10, 2) := by decide +kernel
theorem dL_law_273 : decode cL_law 273 = .ok (.if_icmp .le 8, 3) := by decide +kernel
theorem dL_law_276 : decode cL_law 276 = .ok (.bipush 7, 2) := by decide +kernel
theorem dL_law_278 : decode cL_law 278 = .ok (.goto 10, 3) := by decide +kernel
theorem dL_law_281 : decode cL_law 281 = .ok (.iload 6, 2) := by decide +kernel
theorem dL_law_283 : decode cL_law 283 = .ok (.bipush 13, 2) := by decide +kernel
theorem dL_law_285 : decode cL_law 285 = .ok (.invokestatic 30, 3) := by decide +kernel
theorem dL_law_288 : decode cL_law 288 = .ok (.istore 11, 2) := by decide +kernel
theorem dL_law_290 : decode cL_law 290 = .ok (.iload 8, 2) := by decide +kernel
theorem dL_law_292 : decode cL_law 292 = .ok (.bipush 8, 2) := by decide +kernel
theorem dL_law_294 : decode cL_law 294 = .ok (.if_icmp .ge 211, 3) := by decide +kernel
theorem dL_law_297 : decode cL_law 297 = .ok (.aload_n 1, 1) := by decide +kernel
theorem dL_law_298 : decode cL_law 298 = .ok (.iload 11, 2) := by decide +kernel
theorem dL_law_300 : decode cL_law 300 = .ok (.iload 11, 2) := by decide +kernel
theorem dL_law_302 : decode cL_law 302 = .ok (.iload 5, 2) := by decide +kernel
theorem dL_law_304 : decode cL_law 304 = .ok (.bipush 13, 2) := by decide +kernel
theorem dL_law_306 : decode cL_law 306 = .ok (.idiv, 1) := by decide +kernel
theorem dL_law_307 : decode cL_law 307 = .ok (.invokestatic 41, 3) := by decide +kernel
theorem dL_law_310 : decode cL_law 310 = .ok (.invokevirtual 44, 3) := by decide +kernel
theorem dL_law_313 : decode cL_law 313 = .ok (.iload 8, 2) := by decide +kernel
theorem dL_law_315 : decode cL_law 315 = .ok (.if_icmp .eq 190, 3) := by decide +kernel
theorem dL_law_318 : decode cL_law 318 = .ok (.iconst 0, 1) := by decide +kernel
theorem dL_law_319 : decode cL_law 319 = .ok (.ireturn, 1) := by decide +kernel
theorem dL_law_320 : decode cL_law 320 = .ok (.iload 8, 2) := by decide +kernel
theorem dL_law_322 : decode cL_law 322 = .ok (.ifCond .le 183, 3) := by decide +kernel
theorem dL_law_325 : decode cL_law 325 = .ok (.aload_n 1, 1) := by decide +kernel
theorem dL_law_326 : decode cL_law 326 = .ok (.iload 9, 2) := by decide +kernel
theorem dL_law_328 : decode cL_law 328 = .ok (.aload_n 1, 1) := by decide +kernel
theorem dL_law_329 : decode cL_law 329 = .ok (.iload 9, 2) := by decide +kernel
theorem dL_law_331 : decode cL_law 331 = .ok (.iconst 0, 1) := by decide +kernel
theorem dL_law_332 : decode cL_law 332 = .ok (.invokevirtual 47, 3) := by decide +kernel
theorem dL_law_335 : decode cL_law 335 = .ok (.iload 5, 2) := by decide +kernel
theorem dL_law_337 : decode cL_law 337 = .ok (.bipush 13, 2) := by decide +kernel
theorem dL_law_339 : decode cL_law 339 = .ok (.idiv, 1) := by decide +kernel
theorem dL_law_340 : decode cL_law 340 = .ok (.invokestatic 41, 3) := by decide +kernel
theorem dL_law_343 : decode cL_law 343 = .ok (.invokevirtual 50, 3) := by decide +kernel
theorem dL_law_346 : decode cL_law 346 = .ok (.ifCond .ge 159, 3) := by decide +kernel
theorem dL_law_349 : decode cL_law 349 = .ok (.iconst 0, 1) := by decide +kernel
theorem dL_law_350 : decode cL_law 350 = .ok (.ireturn, 1) := by decide +kernel
theorem dL_law_351 : decode cL_law 351 = .ok (.iload 8, 2) := by decide +kernel
theorem dL_law_353 : decode cL_law 353 = .ok (.ifCond .le 152, 3) := by decide +kernel
theorem dL_law_356 : decode cL_law 356 = .ok (.aload_n 1, 1) := by decide +kernel
theorem dL_law_357 : decode cL_law 357 = .ok (.iload 9, 2) := by decide +kernel
theorem dL_law_359 : decode cL_law 359 = .ok (.iload 10, 2) := by decide +kernel
theorem dL_law_361 : decode cL_law 361 = .ok (.iload 8, 2) := by decide +kernel
theorem dL_law_363 : decode cL_law 363 = .ok (.invokestatic 53, 3) := by decide +kernel
theorem dL_law_366 : decode cL_law 366 = .ok (.ifCond .ne 139, 3) := by decide +kernel
theorem dL_law_369 : decode cL_law 369 = .ok (.iconst 0, 1) := by decide +kernel
theorem dL_law_370 : decode cL_law 370 = .ok (.ireturn, 1) := by decide +kernel
theorem dL_law_371 : decode cL_law 371 = .ok (.iload 8, 2) := by decide +kernel
theorem dL_law_373 : decode cL_law 373 = .ok (.ifCond .le 132, 3) := by decide +kernel
theorem dL_law_376 : decode cL_law 376 = .ok (.aload_n 1, 1) := by decide +kernel
theorem dL_law_377 : decode cL_law 377 = .ok (.iload 9, 2) := by decide +kernel
theorem dL_law_379 : decode cL_law 379 = .ok (.iload 6, 2) := by decide +kernel
theorem dL_law_381 : decode cL_law 381 = .ok (.bipush 8, 2) := by decide +kernel
theorem dL_law_383 : decode cL_law 383 = .ok (.idiv, 1) := by decide +kernel
theorem dL_law_384 : decode cL_law 384 = .ok (.iconst 3, 1) := by decide +kernel
theorem dL_law_385 : decode cL_law 385 = .ok (.invokestatic 30, 3) := by decide +kernel
theorem dL_law_388 : decode cL_law 388 = .ok (.ifCond .le 7, 3) := by decide +kernel
theorem dL_law_391 : decode cL_law 391 = .ok (.iconst 0, 1) := by decide +kernel
theorem dL_law_392 : decode cL_law 392 = .ok (.goto 13, 3) := by decide +kernel
theorem dL_law_395 : decode cL_law 395 = .ok (.iload 5, 2) := by decide +kernel
theorem dL_law_397 : decode cL_law 397 = .ok (.iconst 3, 1) := by decide +kernel
theorem dL_law_398 : decode cL_law 398 = .ok (.idiv, 1) := by decide +kernel
theorem dL_law_399 : decode cL_law 399 = .ok (.sipush 256, 3) := by decide +kernel
theorem dL_law_402 : decode cL_law 402 = .ok (.invokestatic 30, 3) := by decide +kernel
theorem dL_law_405 : decode cL_law 405 = .ok (.invokevirtual 57, 3) := by decide +kernel
theorem dL_law_408 : decode cL_law 408 = .ok (.ifCond .lt 13, 3) := by decide +kernel
theorem dL_law_411 : decode cL_law 411 = .ok (.aload_n 1, 1) := by decide +kernel
theorem dL_law_412 : decode cL_law 412 = .ok (.iload 9, 2) := by decide +kernel
theorem dL_law_414 : decode cL_law 414 = .ok (.iconst 3, 1) := by decide +kernel
theorem dL_law_415 : decode cL_law 415 = .ok (.invokevirtual 47, 3) := by decide +kernel
theorem dL_law_418 : decode cL_law 418 = .ok (.ifCond .ge 87, 3) := by decide +kernel
theorem dL_law_421 : decode cL_law 421 = .ok (.iconst 0, 1) := by decide +kernel
theorem dL_law_422 : decode cL_law 422 = .ok (.ireturn, 1) := by decide +kernel
theorem dL_law_423 : decode cL_law 423 = .ok (.iload 8, 2) := by decide +kernel
theorem dL_law_425 : decode cL_law 425 = .ok (.ifCond .eq 80, 3) := by decide +kernel
theorem dL_law_428 : decode cL_law 428 = .ok (.aload_n 1, 1) := by decide +kernel
theorem dL_law_429 : decode cL_law 429 = .ok (.iload 9, 2) := by decide +kernel
theorem dL_law_431 : decode cL_law 431 = .ok (.iconst 0, 1) := by decide +kernel
theorem dL_law_432 : decode cL_law 432 = .ok (.invokevirtual 47, 3) := by decide +kernel
theorem dL_law_435 : decode cL_law 435 = .ok (.bipush 7, 2) := by decide +kernel
theorem dL_law_437 : decode cL_law 437 = .ok (.if_icmp .ne 68, 3) := by decide +kernel
theorem dL_law_440 : decode cL_law 440 = .ok (.aload_n 1, 1) := by decide +kernel
theorem dL_law_441 : decode cL_law 441 = .ok (.iload 9, 2) := by decide +kernel
theorem dL_law_443 : decode cL_law 443 = .ok (.iconst 2, 1) := by decide +kernel
theorem dL_law_444 : decode cL_law 444 = .ok (.invokevirtual 47, 3) := by decide +kernel
theorem dL_law_447 : decode cL_law 447 = .ok (.ifCond .ne 6, 3) := by decide +kernel
theorem dL_law_450 : decode cL_law 450 = .ok (.goto 55, 3) := by decide +kernel
theorem dL_law_453 : decode cL_law 453 = .ok (.iinc 3 1, 3) := by decide +kernel
theorem dL_law_456 : decode cL_law 456 = .ok (.aload_n 1, 1) := by decide +kernel
theorem dL_law_457 : decode cL_law 457 = .ok (.iload 9, 2) := by decide +kernel
theorem dL_law_459 : decode cL_law 459 = .ok (.iconst 1, 1) := by decide +kernel
theorem dL_law_460 : decode cL_law 460 = .ok (.iload 5, 2) := by decide +kernel
theorem dL_law_462 : decode cL_law 462 = .ok (.iconst 3, 1) := by decide +kernel
theorem dL_law_463 : decode cL_law 463 = .ok (.idiv, 1) := by decide +kernel
theorem dL_law_464 : decode cL_law 464 = .ok (.bipush 100, 2) := by decide +kernel
theorem dL_law_466 : decode cL_law 466 = .ok (.invokestatic 30, 3) := by decide +kernel
theorem dL_law_469 : decode cL_law 469 = .ok (.iadd, 1) := by decide +kernel
theorem dL_law_470 : decode cL_law 470 = .ok (.invokevirtual 60, 3) := by decide +kernel
theorem dL_law_473 : decode cL_law 473 = .ok (.aload_n 1, 1) := by decide +kernel
theorem dL_law_474 : decode cL_law 474 = .ok (.iload 9, 2) := by decide +kernel
theorem dL_law_476 : decode cL_law 476 = .ok (.iconst 4, 1) := by decide +kernel
theorem dL_law_477 : decode cL_law 477 = .ok (.invokevirtual 47, 3) := by decide +kernel
theorem dL_law_480 : decode cL_law 480 = .ok (.if_icmp .eq 25, 3) := by decide +kernel
theorem dL_law_483 : decode cL_law 483 = .ok (.iconst 0, 1) := by decide +kernel
theorem dL_law_484 : decode cL_law 484 = .ok (.ireturn, 1) := by decide +kernel
theorem dL_law_485 : decode cL_law 485 = .ok (.iload 8, 2) := by decide +kernel
theorem dL_law_487 : decode cL_law 487 = .ok (.ifCond .le 18, 3) := by decide +kernel
theorem dL_law_490 : decode cL_law 490 = .ok (.aload_n 1, 1) := by decide +kernel
theorem dL_law_491 : decode cL_law 491 = .ok (.iload 9, 2) := by decide +kernel
theorem dL_law_493 : decode cL_law 493 = .ok (.iload 10, 2) := by decide +kernel
theorem dL_law_495 : decode cL_law 495 = .ok (.iload 8, 2) := by decide +kernel
theorem dL_law_497 : decode cL_law 497 = .ok (.invokestatic 63, 3) := by decide +kernel
theorem dL_law_500 : decode cL_law 500 = .ok (.ifCond .ne 5, 3) := by decide +kernel
theorem dL_law_503 : decode cL_law 503 = .ok (.iconst 0, 1) := by decide +kernel
theorem dL_law_504 : decode cL_law 504 = .ok (.ireturn, 1) := by decide +kernel
theorem dL_law_505 : decode cL_law 505 = .ok (.iconst 0, 1) := by decide +kernel
theorem dL_law_506 : decode cL_law 506 = .ok (.istore 11, 2) := by decide +kernel
theorem dL_law_508 : decode cL_law 508 = .ok (.iload 11, 2) := by decide +kernel
theorem dL_law_510 : decode cL_law 510 = .ok (.aload_n 1, 1) := by decide +kernel
theorem dL_law_511 : decode cL_law 511 = .ok (.iconst 1, 1) := by decide +kernel
theorem dL_law_512 : decode cL_law 512 = .ok (.invokevirtual 20, 3) := by decide +kernel
theorem dL_law_515 : decode cL_law 515 = .ok (.if_icmp .ge 82, 3) := by decide +kernel
theorem dL_law_518 : decode cL_law 518 = .ok (.iconst 0, 1) := by decide +kernel
theorem dL_law_519 : decode cL_law 519 = .ok (.istore 12, 2) := by decide +kernel
theorem dL_law_521 : decode cL_law 521 = .ok (.iload 12, 2) := by decide +kernel
theorem dL_law_523 : decode cL_law 523 = .ok (.bipush 8, 2) := by decide +kernel
theorem dL_law_525 : decode cL_law 525 = .ok (.if_icmp .ge 66, 3) := by decide +kernel
theorem dL_law_528 : decode cL_law 528 = .ok (.aload_n 1, 1) := by decide +kernel
theorem dL_law_529 : decode cL_law 529 = .ok (.iload 11, 2) := by decide +kernel
theorem dL_law_531 : decode cL_law 531 = .ok (.iload 12, 2) := by decide +kernel
theorem dL_law_533 : decode cL_law 533 = .ok (.invokevirtual 66, 3) := by decide +kernel
theorem dL_law_536 : decode cL_law 536 = .ok (.istore 13, 2) := by decide +kernel
theorem dL_law_538 : decode cL_law 538 = .ok (.iload 13, 2) := by decide +kernel
theorem dL_law_540 : decode cL_law 540 = .ok (.aload_n 2, 1) := by decide +kernel
theorem dL_law_541 : decode cL_law 541 = .ok (.iload 11, 2) := by decide +kernel
theorem dL_law_543 : decode cL_law 543 = .ok (.aaload, 1) := by decide +kernel
theorem dL_law_544 : decode cL_law 544 = .ok (.iload 12, 2) := by decide +kernel
theorem dL_law_546 : decode cL_law 546 = .ok (.iaload, 1) := by decide +kernel
theorem dL_law_547 : decode cL_law 547 = .ok (.if_icmp .lt 27, 3) := by decide +kernel
theorem dL_law_550 : decode cL_law 550 = .ok (.iload 13, 2) := by decide +kernel
theorem dL_law_552 : decode cL_law 552 = .ok (.bipush 9, 2) := by decide +kernel
theorem dL_law_554 : decode cL_law 554 = .ok (.if_icmp .gt 20, 3) := by decide +kernel
theorem dL_law_557 : decode cL_law 557 = .ok (.iload 13, 2) := by decide +kernel
theorem dL_law_559 : decode cL_law 559 = .ok (.ifCond .le 17, 3) := by decide +kernel
theorem dL_law_562 : decode cL_law 562 = .ok (.aload_n 1, 1) := by decide +kernel
theorem dL_law_563 : decode cL_law 563 = .ok (.iload 11, 2) := by decide +kernel
theorem dL_law_565 : decode cL_law 565 = .ok (.iconst 0, 1) := by decide +kernel
theorem dL_law_566 : decode cL_law 566 = .ok (.invokevirtual 47, 3) := by decide +kernel
theorem dL_law_569 : decode cL_law 569 = .ok (.bipush 7, 2) := by decide +kernel
theorem dL_law_571 : decode cL_law 571 = .ok (.if_icmp .eq 5, 3) := by decide +kernel
theorem dL_law_574 : decode cL_law 574 = .ok (.iconst 0, 1) := by decide +kernel
theorem dL_law_575 : decode cL_law 575 = .ok (.ireturn, 1) := by decide +kernel
theorem dL_law_576 : decode cL_law 576 = .ok (.aload_n 2, 1) := by decide +kernel
theorem dL_law_577 : decode cL_law 577 = .ok (.iload 11, 2) := by decide +kernel
theorem dL_law_579 : decode cL_law 579 = .ok (.aaload, 1) := by decide +kernel
theorem dL_law_580 : decode cL_law 580 = .ok (.iload 12, 2) := by decide +kernel
theorem dL_law_582 : decode cL_law 582 = .ok (.iload 13, 2) := by decide +kernel
theorem dL_law_584 : decode cL_law 584 = .ok (.iastore, 1) := by decide +kernel
theorem dL_law_585 : decode cL_law 585 = .ok (.iinc 12 1, 3) := by decide +kernel
theorem dL_law_588 : decode cL_law 588 = .ok (.goto (-67), 3) := by decide +kernel
theorem dL_law_591 : decode cL_law 591 = .ok (.iinc 11 1, 3) := by decide +kernel
theorem dL_law_594 : decode cL_law 594 = .ok (.goto (-86), 3) := by decide +kernel
theorem dL_law_597 : decode cL_law 597 = .ok (.aload_n 1, 1) := by decide +kernel
theorem dL_law_598 : decode cL_law 598 = .ok (.iconst 4, 1) := by decide +kernel
theorem dL_law_599 : decode cL_law 599 = .ok (.invokevirtual 20, 3) := by decide +kernel
theorem dL_law_602 : decode cL_law 602 = .ok (.iload_n 3, 1) := by decide +kernel
theorem dL_law_603 : decode cL_law 603 = .ok (.if_icmp .ne 26, 3) := by decide +kernel
theorem dL_law_606 : decode cL_law 606 = .ok (.aload_n 1, 1) := by decide +kernel
theorem dL_law_607 : decode cL_law 607 = .ok (.iload 6, 2) := by decide +kernel
theorem dL_law_609 : decode cL_law 609 = .ok (.iconst 5, 1) := by decide +kernel
theorem dL_law_610 : decode cL_law 610 = .ok (.idiv, 1) := by decide +kernel
theorem dL_law_611 : decode cL_law 611 = .ok (.aload_n 1, 1) := by decide +kernel
theorem dL_law_612 : decode cL_law 612 = .ok (.iconst 1, 1) := by decide +kernel
theorem dL_law_613 : decode cL_law 613 = .ok (.invokevirtual 20, 3) := by decide +kernel
theorem dL_law_616 : decode cL_law 616 = .ok (.iconst 1, 1) := by decide +kernel
theorem dL_law_617 : decode cL_law 617 = .ok (.iadd, 1) := by decide +kernel
theorem dL_law_618 : decode cL_law 618 = .ok (.invokestatic 30, 3) := by decide +kernel
theorem dL_law_621 : decode cL_law 621 = .ok (.iconst 1, 1) := by decide +kernel
theorem dL_law_622 : decode cL_law 622 = .ok (.isub, 1) := by decide +kernel
theorem dL_law_623 : decode cL_law 623 = .ok (.invokestatic 69, 3) := by decide +kernel
theorem dL_law_626 : decode cL_law 626 = .ok (.ifCond .ne 5, 3) := by decide +kernel
theorem dL_law_629 : decode cL_law 629 = .ok (.iconst 0, 1) := by decide +kernel
theorem dL_law_630 : decode cL_law 630 = .ok (.ireturn, 1) := by decide +kernel
theorem dL_law_631 : decode cL_law 631 = .ok (.iinc 4 1, 3) := by decide +kernel
theorem dL_law_634 : decode cL_law 634 = .ok (.goto (-612), 3) := by decide +kernel
theorem dL_law_637 : decode cL_law 637 = .ok (.aload_n 1, 1) := by decide +kernel
theorem dL_law_638 : decode cL_law 638 = .ok (.invokevirtual 73, 3) := by decide +kernel
theorem dL_law_641 : decode cL_law 641 = .ok (.lstore 4, 2) := by decide +kernel
theorem dL_law_643 : decode cL_law 643 = .ok (.aload_n 1, 1) := by decide +kernel
theorem dL_law_644 : decode cL_law 644 = .ok (.iconst 1, 1) := by decide +kernel
theorem dL_law_645 : decode cL_law 645 = .ok (.invokevirtual 20, 3) := by decide +kernel
theorem dL_law_648 : decode cL_law 648 = .ok (.iconst 1, 1) := by decide +kernel
theorem dL_law_649 : decode cL_law 649 = .ok (.isub, 1) := by decide +kernel
theorem dL_law_650 : decode cL_law 650 = .ok (.istore 6, 2) := by decide +kernel
theorem dL_law_652 : decode cL_law 652 = .ok (.lconst 0, 1) := by decide +kernel
theorem dL_law_653 : decode cL_law 653 = .ok (.lstore 7, 2) := by decide +kernel
theorem dL_law_655 : decode cL_law 655 = .ok (.iconst 0, 1) := by decide +kernel
theorem dL_law_656 : decode cL_law 656 = .ok (.istore 9, 2) := by decide +kernel
theorem dL_law_658 : decode cL_law 658 = .ok (.iload 9, 2) := by decide +kernel
theorem dL_law_660 : decode cL_law 660 = .ok (.bipush 8, 2) := by decide +kernel
theorem dL_law_662 : decode cL_law 662 = .ok (.if_icmp .ge 22, 3) := by decide +kernel
theorem dL_law_665 : decode cL_law 665 = .ok (.lload 7, 2) := by decide +kernel
theorem dL_law_667 : decode cL_law 667 = .ok (.aload_n 1, 1) := by decide +kernel
theorem dL_law_668 : decode cL_law 668 = .ok (.iload 6, 2) := by decide +kernel
theorem dL_law_670 : decode cL_law 670 = .ok (.iload 9, 2) := by decide +kernel
theorem dL_law_672 : decode cL_law 672 = .ok (.invokevirtual 77, 3) := by decide +kernel
theorem dL_law_675 : decode cL_law 675 = .ok (.ladd, 1) := by decide +kernel
theorem dL_law_676 : decode cL_law 676 = .ok (.lstore 7, 2) := by decide +kernel
theorem dL_law_678 : decode cL_law 678 = .ok (.iinc 9 1, 3) := by decide +kernel
theorem dL_law_681 : decode cL_law 681 = .ok (.goto (-23), 3) := by decide +kernel
theorem dL_law_684 : decode cL_law 684 = .ok (.lload 7, 2) := by decide +kernel
theorem dL_law_686 : decode cL_law 686 = .ok (.aload_n 1, 1) := by decide +kernel
theorem dL_law_687 : decode cL_law 687 = .ok (.iload 6, 2) := by decide +kernel
theorem dL_law_689 : decode cL_law 689 = .ok (.iconst 0, 1) := by decide +kernel
theorem dL_law_690 : decode cL_law 690 = .ok (.invokevirtual 81, 3) := by decide +kernel
theorem dL_law_693 : decode cL_law 693 = .ok (.lcmp, 1) := by decide +kernel
theorem dL_law_694 : decode cL_law 694 = .ok (.ifCond .ne 28, 3) := by decide +kernel
theorem dL_law_697 : decode cL_law 697 = .ok (.aload_n 1, 1) := by decide +kernel
theorem dL_law_698 : decode cL_law 698 = .ok (.iload 6, 2) := by decide +kernel
theorem dL_law_700 : decode cL_law 700 = .ok (.invokevirtual 85, 3) := by decide +kernel
theorem dL_law_703 : decode cL_law 703 = .ok (.dconst 1, 1) := by decide +kernel
theorem dL_law_704 : decode cL_law 704 = .ok (.dcmp .g, 1) := by decide +kernel
theorem dL_law_705 : decode cL_law 705 = .ok (.ifCond .gt 17, 3) := by decide +kernel
theorem dL_law_708 : decode cL_law 708 = .ok (.aload_n 1, 1) := by decide +kernel
theorem dL_law_709 : decode cL_law 709 = .ok (.invokevirtual 73, 3) := by decide +kernel
theorem dL_law_712 : decode cL_law 712 = .ok (.lload 4, 2) := by decide +kernel
theorem dL_law_714 : decode cL_law 714 = .ok (.lcmp, 1) := by decide +kernel
theorem dL_law_715 : decode cL_law 715 = .ok (.ifCond .ne 7, 3) := by decide +kernel
theorem dL_law_718 : decode cL_law 718 = .ok (.iconst 1, 1) := by decide +kernel
theorem dL_law_719 : decode cL_law 719 = .ok (.goto 4, 3) := by decide +kernel
theorem dL_law_722 : decode cL_law 722 = .ok (.iconst 0, 1) := by decide +kernel
theorem dL_law_723 : decode cL_law 723 = .ok (.ireturn, 1) := by decide +kernel
set_option maxRecDepth 20000 in
theorem ggL_number_L_below : GoodIn wsL_number wsL_below := goodIn_r _ [6, 7] (by decide +kernel) (by decide +kernel)
set_option maxRecDepth 20000 in
theorem gL_number_L_below : GoodIn wsL_number (va_wsS RL 30 yL_below wsL_below) := goodIn_app (goodIn_of _ (by decide +kernel)) ggL_number_L_below
theorem dL_number_0 : decode cL_number 0 = .ok (.iload_n 0, 1) := by decide +kernel
theorem dL_number_1 : decode cL_number 1 = .ok (.ifCond .ne 13, 3) := by decide +kernel
theorem dL_number_4 : decode cL_number 4 = .ok (.iload_n 1, 1) := by decide +kernel
theorem dL_number_5 : decode cL_number 5 = .ok (.sipush 256, 3) := by decide +kernel
theorem dL_number_8 : decode cL_number 8 = .ok (.invokestatic 30, 3) := by decide +kernel
theorem dL_number_11 : decode cL_number 11 = .ok (.goto 73, 3) := by decide +kernel
theorem dL_number_14 : decode cL_number 14 = .ok (.iload_n 0, 1) := by decide +kernel
theorem dL_number_15 : decode cL_number 15 = .ok (.iconst 1, 1) := by decide +kernel
theorem dL_number_16 : decode cL_number 16 = .ok (.if_icmp .ne 17, 3) := by decide +kernel
theorem dL_number_19 : decode cL_number 19 = .ok (.iload_n 1, 1) := by decide +kernel
theorem dL_number_20 : decode cL_number 20 = .ok (.ldc 89, 2) := by decide +kernel
theorem dL_number_22 : decode cL_number 22 = .ok (.imul, 1) := by decide +kernel
theorem dL_number_23 : decode cL_number 23 = .ok (.iconst 5, 1) := by decide +kernel
theorem dL_number_24 : decode cL_number 24 = .ok (.iadd, 1) := by decide +kernel
theorem dL_number_25 : decode cL_number 25 = .ok (.ldc 90, 2) := by decide +kernel
theorem dL_number_27 : decode cL_number 27 = .ok (.invokestatic 30, 3) := by decide +kernel
theorem dL_number_30 : decode cL_number 30 = .ok (.goto 54, 3) := by decide +kernel
theorem dL_number_33 : decode cL_number 33 = .ok (.iload_n 0, 1) := by decide +kernel
theorem dL_number_34 : decode cL_number 34 = .ok (.iconst 4, 1) := by decide +kernel
theorem dL_number_35 : decode cL_number 35 = .ok (.if_icmp .eq 9, 3) := by decide +kernel
theorem dL_number_38 : decode cL_number 38 = .ok (.iload_n 0, 1) := by decide +kernel
theorem dL_number_39 : decode cL_number 39 = .ok (.bipush 8, 2) := by decide +kernel
theorem dL_number_41 : decode cL_number 41 = .ok (.if_icmp .ne 12, 3) := by decide +kernel
theorem dL_number_44 : decode cL_number 44 = .ok (.iload_n 1, 1) := by decide +kernel
theorem dL_number_45 : decode cL_number 45 = .ok (.bipush 8, 2) := by decide +kernel
theorem dL_number_47 : decode cL_number 47 = .ok (.invokestatic 30, 3) := by decide +kernel
theorem dL_number_50 : decode cL_number 50 = .ok (.goto 34, 3) := by decide +kernel
theorem dL_number_53 : decode cL_number 53 = .ok (.iload_n 0, 1) := by decide +kernel
theorem dL_number_54 : decode cL_number 54 = .ok (.bipush 6, 2) := by decide +kernel
theorem dL_number_56 : decode cL_number 56 = .ok (.if_icmp .ne 13, 3) := by decide +kernel
theorem dL_number_59 : decode cL_number 59 = .ok (.iconst 1, 1) := by decide +kernel
theorem dL_number_60 : decode cL_number 60 = .ok (.iload_n 1, 1) := by decide +kernel
theorem dL_number_61 : decode cL_number 61 = .ok (.iconst 3, 1) := by decide +kernel
theorem dL_number_62 : decode cL_number 62 = .ok (.invokestatic 30, 3) := by decide +kernel
theorem dL_number_65 : decode cL_number 65 = .ok (.iadd, 1) := by decide +kernel
theorem dL_number_66 : decode cL_number 66 = .ok (.goto 18, 3) := by decide +kernel
theorem dL_number_69 : decode cL_number 69 = .ok (.iload_n 0, 1) := by decide +kernel
theorem dL_number_70 : decode cL_number 70 = .ok (.bipush 10, 2) := by decide +kernel
theorem dL_number_72 : decode cL_number 72 = .ok (.if_icmp .ne 11, 3) := by decide +kernel
theorem dL_number_75 : decode cL_number 75 = .ok (.iload_n 1, 1) := by decide +kernel
theorem dL_number_76 : decode cL_number 76 = .ok (.iconst 4, 1) := by decide +kernel
theorem dL_number_77 : decode cL_number 77 = .ok (.invokestatic 30, 3) := by decide +kernel
theorem dL_number_80 : decode cL_number 80 = .ok (.goto 4, 3) := by decide +kernel
theorem dL_number_83 : decode cL_number 83 = .ok (.iconst 0, 1) := by decide +kernel
theorem dL_number_84 : decode cL_number 84 = .ok (.ireturn, 1) := by decide +kernel
set_option maxRecDepth 20000 in
theorem ggL_isPut_X4_without : GoodIn wsL_isPut wsX4_without := goodIn_ca (goodIn_r _ [5, 6, 7, 8, 9, 10, 11, 12, 13, 14, 4, 15, 16, 17, 18, 19, 20, 21, 22, 23, 24, 25, 26, 27, 28, 29, 30, 31, 32, 33, 34, 35, 36, 37, 38, 39, 40, 41, 42, 43, 44, 45, 46, 47, 48, 49, 50, 51, 52, 53, 54, 55, 56, 57, 58, 59, 60, 61, 62, 63, 64, 65, 66, 67, 68, 69, 70, 71, 72, 73, 74, 75, 76, 77, 78, 79, 80, 81, 82, 83, 84, 85, 86, 87, 88, 89, 90, 91, 92, 93, 94, 95, 96, 97, 98, 99, 100, 101, 102, 103, 104, 105, 106, 107, 108, 109, 110, 111, 112, 113, 114, 115, 116, 117, 118, 119, 120, 121, 122, 123, 124, 125, 126, 127, 128, 173, 174, 175, 176, 177, 178, 179, 180, 181, 182, 183, 184, 185, 186, 187, 188, 189, 190, 191] (by decide +kernel) (by decide +kernel)) (goodIn_sub (fun _ h => List.mem_cons_of_mem _ (List.mem_append_left _ (List.mem_append_right _ h))) (by decide +kernel))
set_option maxRecDepth 20000 in
theorem gL_isPut_X4_without : GoodIn wsL_isPut (wsV RL 91 RX4 yX4_without wsX4_without) := goodIn_app (goodIn_of _ (by decide +kernel)) ggL_isPut_X4_without
set_option maxRecDepth 20000 in
theorem ggL_isPut_X4_ofPart : GoodIn wsL_isPut wsX4_ofPart := goodIn_ca (goodIn_ca (goodIn_r _ [132, 6, 7, 133, 134, 135, 136, 8, 137, 138, 12, 13, 14, 4, 15, 9, 16, 139, 140, 141, 65, 142, 69, 173, 174, 175, 176, 177, 178, 179, 180, 181, 182, 183, 184] (by decide +kernel) (by decide +kernel)) (goodIn_sub (fun _ h => List.mem_cons_of_mem _ (List.mem_append_left _ (List.mem_append_right _ h))) (by decide +kernel))) (goodIn_sub (fun _ h => List.mem_cons_of_mem _ (List.mem_append_right _ h)) (by decide +kernel))
set_option maxRecDepth 20000 in
theorem gL_isPut_X4_ofPart : GoodIn wsL_isPut (wsV RL 47 RX4 yX4_ofPart wsX4_ofPart) := goodIn_app (goodIn_of _ (by decide +kernel)) ggL_isPut_X4_ofPart
set_option maxRecDepth 20000 in
theorem ggL_isPut_X4_put : GoodIn wsL_isPut wsX4_put := goodIn_ca (goodIn_r _ [146, 6, 7, 8, 12, 13, 14, 4, 15, 9, 16, 173, 174, 175, 176, 177, 178, 179, 180, 181, 182, 183, 184] (by decide +kernel) (by decide +kernel)) (goodIn_sub (fun _ h => List.mem_cons_of_mem _ (List.mem_append_left _ (List.mem_append_right _ h))) (by decide +kernel))
set_option maxRecDepth 20000 in
theorem gL_isPut_X4_put : GoodIn wsL_isPut (wsV RL 94 RX4 yX4_put wsX4_put) := goodIn_app (goodIn_of _ (by decide +kernel)) ggL_isPut_X4_put
set_option maxRecDepth 20000 in
theorem ggL_isPut_X4_whole : GoodIn wsL_isPut wsX4_whole := goodIn_ca (goodIn_r _ [150, 10, 11, 151, 152, 153, 4, 154, 6, 7, 9, 17, 18, 19, 20, 21, 22, 23, 24, 25, 26, 27, 28, 29, 30, 31, 32, 33, 34, 35, 36, 37, 38, 39, 40, 41, 42, 43, 44, 45, 46, 47, 48, 8, 49, 50, 51, 52, 53, 54, 55, 56, 57, 58, 59, 60, 61, 12, 13, 14, 15, 16, 62, 63, 64, 65, 66, 67, 68, 69, 70, 71, 72, 73, 74, 75, 76, 77, 78, 79, 80, 81, 82, 83, 84, 85, 86, 87, 88, 89, 90, 91, 92, 93, 94, 95, 96, 97, 98, 99, 100, 101, 102, 103, 104, 105, 106, 107, 108, 109, 110, 111, 112, 113, 114, 115, 116, 117, 118, 119, 120, 121, 122, 123, 124, 125, 126, 127, 128, 179, 180, 181, 182, 183, 184, 185, 186, 173, 174, 175, 176, 177, 178, 187, 188, 189, 190, 191] (by decide +kernel) (by decide +kernel)) (goodIn_sub (fun _ h => List.mem_cons_of_mem _ (List.mem_append_left _ (List.mem_append_right _ h))) (by decide +kernel))
set_option maxRecDepth 20000 in
theorem gL_isPut_X4_whole : GoodIn wsL_isPut (wsV RL 77 RX4 yX4_whole wsX4_whole) := goodIn_app (goodIn_of _ (by decide +kernel)) ggL_isPut_X4_whole
set_option maxRecDepth 20000 in
theorem ggL_isPut_X4_loses : GoodIn wsL_isPut wsX4_loses := goodIn_ca (goodIn_r _ [158, 6, 7, 8, 10, 12, 13, 14, 4, 15, 9, 16, 23, 24, 25, 26, 27, 28, 29, 30, 31, 32, 33, 34, 35, 36, 37, 38, 39, 40, 41, 42, 43, 44, 45, 46, 47, 48, 49, 50, 51, 52, 53, 54, 55, 56, 57, 58, 59, 60, 61, 62, 63, 64, 65, 66, 67, 68, 69, 70, 71, 72, 73, 74, 75, 76, 77, 78, 79, 80, 81, 82, 83, 84, 85, 86, 87, 88, 89, 90, 91, 92, 93, 94, 95, 96, 97, 98, 99, 100, 101, 102, 103, 104, 105, 106, 107, 108, 109, 110, 111, 112, 113, 114, 115, 116, 117, 118, 119, 120, 121, 122, 123, 124, 125, 126, 127, 128, 159, 160, 161, 162, 163, 164, 165, 166, 167, 168, 169, 170, 171, 172, 173, 174, 175, 176, 177, 178, 179, 180, 181, 182, 183, 184, 185, 186, 187, 188, 189, 190, 191] (by decide +kernel) (by decide +kernel)) (goodIn_sub (fun _ h => List.mem_cons_of_mem _ (List.mem_append_left _ (List.mem_append_right _ h))) (by decide +kernel))
set_option maxRecDepth 20000 in
theorem gL_isPut_X4_loses : GoodIn wsL_isPut (wsV RL 98 RX4 yX4_loses wsX4_loses) := goodIn_app (goodIn_of _ (by decide +kernel)) ggL_isPut_X4_loses
theorem dL_isPut_0 : decode cL_isPut 0 = .ok (.aload_n 0, 1) := by decide +kernel
theorem dL_isPut_1 : decode cL_isPut 1 = .ok (.iload_n 1, 1) := by decide +kernel
theorem dL_isPut_2 : decode cL_isPut 2 = .ok (.iload_n 2, 1) := by decide +kernel
theorem dL_isPut_3 : decode cL_isPut 3 = .ok (.invokevirtual 91, 3) := by decide +kernel
theorem dL_isPut_6 : decode cL_isPut 6 = .ok (.lstore 4, 2) := by decide +kernel
theorem dL_isPut_8 : decode cL_isPut 8 = .ok (.aload_n 0, 1) := by decide +kernel
theorem dL_isPut_9 : decode cL_isPut 9 = .ok (.iload_n 1, 1) := by decide +kernel
theorem dL_isPut_10 : decode cL_isPut 10 = .ok (.iconst 2, 1) := by decide +kernel
theorem dL_isPut_11 : decode cL_isPut 11 = .ok (.invokevirtual 47, 3) := by decide +kernel
theorem dL_isPut_14 : decode cL_isPut 14 = .ok (.iconst 1, 1) := by decide +kernel
theorem dL_isPut_15 : decode cL_isPut 15 = .ok (.if_icmp .ne 7, 3) := by decide +kernel
theorem dL_isPut_18 : decode cL_isPut 18 = .ok (.iconst 1, 1) := by decide +kernel
theorem dL_isPut_19 : decode cL_isPut 19 = .ok (.goto 4, 3) := by decide +kernel
theorem dL_isPut_22 : decode cL_isPut 22 = .ok (.iconst 0, 1) := by decide +kernel
theorem dL_isPut_23 : decode cL_isPut 23 = .ok (.istore 6, 2) := by decide +kernel
theorem dL_isPut_25 : decode cL_isPut 25 = .ok (.aload_n 0, 1) := by decide +kernel
theorem dL_isPut_26 : decode cL_isPut 26 = .ok (.iload_n 1, 1) := by decide +kernel
theorem dL_isPut_27 : decode cL_isPut 27 = .ok (.iload 6, 2) := by decide +kernel
theorem dL_isPut_29 : decode cL_isPut 29 = .ok (.ifCond .ne 7, 3) := by decide +kernel
theorem dL_isPut_32 : decode cL_isPut 32 = .ok (.iconst 1, 1) := by decide +kernel
theorem dL_isPut_33 : decode cL_isPut 33 = .ok (.goto 4, 3) := by decide +kernel
theorem dL_isPut_36 : decode cL_isPut 36 = .ok (.iconst 0, 1) := by decide +kernel
theorem dL_isPut_37 : decode cL_isPut 37 = .ok (.invokevirtual 94, 3) := by decide +kernel
theorem dL_isPut_40 : decode cL_isPut 40 = .ok (.iload 6, 2) := by decide +kernel
theorem dL_isPut_42 : decode cL_isPut 42 = .ok (.if_icmp .ne 67, 3) := by decide +kernel
theorem dL_isPut_45 : decode cL_isPut 45 = .ok (.aload_n 0, 1) := by decide +kernel
theorem dL_isPut_46 : decode cL_isPut 46 = .ok (.iload_n 3, 1) := by decide +kernel
theorem dL_isPut_47 : decode cL_isPut 47 = .ok (.iconst 1, 1) := by decide +kernel
theorem dL_isPut_48 : decode cL_isPut 48 = .ok (.isub, 1) := by decide +kernel
theorem dL_isPut_49 : decode cL_isPut 49 = .ok (.iload_n 2, 1) := by decide +kernel
theorem dL_isPut_50 : decode cL_isPut 50 = .ok (.invokevirtual 77, 3) := by decide +kernel
theorem dL_isPut_53 : decode cL_isPut 53 = .ok (.lload 4, 2) := by decide +kernel
theorem dL_isPut_55 : decode cL_isPut 55 = .ok (.lcmp, 1) := by decide +kernel
theorem dL_isPut_56 : decode cL_isPut 56 = .ok (.ifCond .ne 53, 3) := by decide +kernel
theorem dL_isPut_59 : decode cL_isPut 59 = .ok (.iload 6, 2) := by decide +kernel
theorem dL_isPut_61 : decode cL_isPut 61 = .ok (.ifCond .eq 34, 3) := by decide +kernel
theorem dL_isPut_64 : decode cL_isPut 64 = .ok (.aload_n 0, 1) := by decide +kernel
theorem dL_isPut_65 : decode cL_isPut 65 = .ok (.iload_n 1, 1) := by decide +kernel
theorem dL_isPut_66 : decode cL_isPut 66 = .ok (.invokevirtual 98, 3) := by decide +kernel
theorem dL_isPut_69 : decode cL_isPut 69 = .ok (.lconst 0, 1) := by decide +kernel
theorem dL_isPut_70 : decode cL_isPut 70 = .ok (.lcmp, 1) := by decide +kernel
theorem dL_isPut_71 : decode cL_isPut 71 = .ok (.ifCond .ne 38, 3) := by decide +kernel
theorem dL_isPut_74 : decode cL_isPut 74 = .ok (.aload_n 0, 1) := by decide +kernel
theorem dL_isPut_75 : decode cL_isPut 75 = .ok (.iload_n 1, 1) := by decide +kernel
theorem dL_isPut_76 : decode cL_isPut 76 = .ok (.iload_n 2, 1) := by decide +kernel
theorem dL_isPut_77 : decode cL_isPut 77 = .ok (.invokevirtual 77, 3) := by decide +kernel
theorem dL_isPut_80 : decode cL_isPut 80 = .ok (.aload_n 0, 1) := by decide +kernel
theorem dL_isPut_81 : decode cL_isPut 81 = .ok (.iload_n 1, 1) := by decide +kernel
theorem dL_isPut_82 : decode cL_isPut 82 = .ok (.iconst 1, 1) := by decide +kernel
theorem dL_isPut_83 : decode cL_isPut 83 = .ok (.isub, 1) := by decide +kernel
theorem dL_isPut_84 : decode cL_isPut 84 = .ok (.iload_n 2, 1) := by decide +kernel
theorem dL_isPut_85 : decode cL_isPut 85 = .ok (.invokevirtual 77, 3) := by decide +kernel
theorem dL_isPut_88 : decode cL_isPut 88 = .ok (.lcmp, 1) := by decide +kernel
theorem dL_isPut_89 : decode cL_isPut 89 = .ok (.ifCond .ne 20, 3) := by decide +kernel
theorem dL_isPut_92 : decode cL_isPut 92 = .ok (.goto 13, 3) := by decide +kernel
theorem dL_isPut_95 : decode cL_isPut 95 = .ok (.aload_n 0, 1) := by decide +kernel
theorem dL_isPut_96 : decode cL_isPut 96 = .ok (.iload_n 1, 1) := by decide +kernel
theorem dL_isPut_97 : decode cL_isPut 97 = .ok (.invokevirtual 98, 3) := by decide +kernel
theorem dL_isPut_100 : decode cL_isPut 100 = .ok (.lconst 0, 1) := by decide +kernel
theorem dL_isPut_101 : decode cL_isPut 101 = .ok (.lcmp, 1) := by decide +kernel
theorem dL_isPut_102 : decode cL_isPut 102 = .ok (.ifCond .lt 7, 3) := by decide +kernel
theorem dL_isPut_105 : decode cL_isPut 105 = .ok (.iconst 1, 1) := by decide +kernel
theorem dL_isPut_106 : decode cL_isPut 106 = .ok (.goto 4, 3) := by decide +kernel
theorem dL_isPut_109 : decode cL_isPut 109 = .ok (.iconst 0, 1) := by decide +kernel
theorem dL_isPut_110 : decode cL_isPut 110 = .ok (.ireturn, 1) := by decide +kernel
set_option maxRecDepth 20000 in
theorem ggL_isTold_X4_ofPart : GoodIn wsL_isTold wsX4_ofPart := goodIn_ca (goodIn_ca (goodIn_r _ [6, 7, 8, 9, 10, 11, 12, 13, 14, 15, 16, 17, 18, 5, 19, 20, 21, 22, 23, 24, 25, 26, 27, 197, 198, 199, 200, 201, 202, 203, 204, 205, 206, 207, 208] (by decide +kernel) (by decide +kernel)) (goodIn_sub (fun _ h => List.mem_cons_of_mem _ (List.mem_append_left _ (List.mem_append_right _ h))) (by decide +kernel))) (goodIn_sub (fun _ h => List.mem_cons_of_mem _ (List.mem_append_right _ h)) (by decide +kernel))
set_option maxRecDepth 20000 in
theorem gL_isTold_X4_ofPart : GoodIn wsL_isTold (wsV RL 47 RX4 yX4_ofPart wsX4_ofPart) := goodIn_app (goodIn_of _ (by decide +kernel)) ggL_isTold_X4_ofPart
set_option maxRecDepth 20000 in
theorem ggL_isTold_X4_best : GoodIn wsL_isTold wsX4_best := goodIn_ca (goodIn_r _ [31, 7, 8, 12, 11, 20, 32, 16, 17, 18, 5, 19, 21, 33, 34, 35, 36, 37, 38, 39, 40, 41, 25, 42, 43, 44, 45, 46, 47, 48, 49, 50, 51, 52, 53, 54, 55, 56, 57, 58, 59, 60, 61, 62, 63, 64, 65, 66, 67, 68, 69, 70, 71, 72, 73, 74, 75, 76, 77, 13, 78, 79, 80, 81, 82, 83, 84, 85, 86, 87, 88, 89, 90, 91, 92, 93, 94, 95, 27, 96, 97, 98, 99, 100, 101, 102, 103, 104, 105, 106, 107, 108, 109, 110, 111, 112, 113, 114, 115, 116, 117, 118, 119, 120, 121, 122, 123, 124, 125, 126, 127, 128, 129, 130, 131, 132, 133, 134, 135, 136, 137, 138, 139, 140, 141, 142, 143, 144, 145, 146, 147, 148, 149, 150, 151, 152, 153, 154, 155, 156, 157, 158, 159, 197, 198, 199, 200, 201, 202, 203, 204, 205, 206, 207, 208, 209, 210, 211, 212, 213, 214, 215] (by decide +kernel) (by decide +kernel)) (goodIn_sub (fun _ h => List.mem_cons_of_mem _ (List.mem_append_left _ (List.mem_append_right _ h))) (by decide +kernel))
set_option maxRecDepth 20000 in
theorem gL_isTold_X4_best : GoodIn wsL_isTold (wsV RL 102 RX4 yX4_best wsX4_best) := goodIn_app (goodIn_of _ (by decide +kernel)) ggL_isTold_X4_best
set_option maxRecDepth 20000 in
theorem ggL_isTold_X4_set : GoodIn wsL_isTold wsX4_set := goodIn_ca (goodIn_ca (goodIn_r _ [163, 7, 8, 9, 10, 11, 12, 16, 17, 18, 5, 19, 20, 21, 164, 165, 166, 48, 49, 50, 51, 44, 45, 46, 47, 197, 198, 199, 200, 201, 202, 203, 204, 205, 206, 207, 208] (by decide +kernel) (by decide +kernel)) (goodIn_sub (fun _ h => List.mem_cons_of_mem _ (List.mem_append_left _ (List.mem_append_right _ h))) (by decide +kernel))) (goodIn_sub (fun _ h => List.mem_cons_of_mem _ (List.mem_append_right _ h)) (by decide +kernel))
set_option maxRecDepth 20000 in
theorem gL_isTold_X4_set : GoodIn wsL_isTold (wsV RL 50 RX4 yX4_set wsX4_set) := goodIn_app (goodIn_of _ (by decide +kernel)) ggL_isTold_X4_set
set_option maxRecDepth 20000 in
theorem ggL_isTold_X4_whole : GoodIn wsL_isTold wsX4_whole := goodIn_ca (goodIn_r _ [170, 32, 171, 172, 173, 174, 5, 175, 7, 8, 20, 33, 34, 35, 36, 37, 38, 52, 53, 54, 55, 56, 57, 58, 59, 60, 61, 62, 63, 64, 65, 66, 67, 68, 69, 70, 71, 72, 73, 74, 75, 76, 77, 13, 78, 79, 80, 81, 82, 83, 84, 85, 86, 87, 88, 89, 90, 16, 17, 18, 19, 21, 91, 92, 93, 25, 94, 43, 95, 27, 96, 97, 98, 99, 100, 101, 102, 103, 104, 105, 106, 107, 108, 109, 110, 111, 112, 113, 114, 115, 116, 117, 118, 119, 120, 121, 122, 123, 124, 125, 126, 127, 128, 129, 130, 131, 132, 133, 134, 135, 136, 137, 138, 139, 140, 141, 142, 143, 144, 145, 146, 147, 148, 149, 150, 151, 152, 153, 154, 203, 204, 205, 206, 207, 208, 209, 210, 197, 198, 199, 200, 201, 202, 211, 212, 213, 214, 215] (by decide +kernel) (by decide +kernel)) (goodIn_sub (fun _ h => List.mem_cons_of_mem _ (List.mem_append_left _ (List.mem_append_right _ h))) (by decide +kernel))
set_option maxRecDepth 20000 in
theorem gL_isTold_X4_whole : GoodIn wsL_isTold (wsV RL 77 RX4 yX4_whole wsX4_whole) := goodIn_app (goodIn_of _ (by decide +kernel)) ggL_isTold_X4_whole
set_option maxRecDepth 20000 in
theorem ggL_isTold_X4_root : GoodIn wsL_isTold wsX4_root := goodIn_ca (goodIn_r _ [179, 32, 180, 172, 173, 174, 5, 175, 7, 8, 20, 33, 34, 35, 36, 37, 38, 52, 53, 54, 55, 56, 57, 58, 59, 60, 61, 62, 63, 64, 65, 66, 67, 68, 69, 70, 71, 72, 73, 74, 75, 76, 77, 13, 78, 79, 80, 81, 82, 83, 84, 85, 86, 87, 88, 89, 90, 16, 17, 18, 19, 21, 91, 92, 93, 25, 94, 43, 95, 27, 96, 97, 98, 99, 100, 101, 102, 103, 104, 105, 106, 107, 108, 109, 110, 111, 112, 113, 114, 115, 116, 117, 118, 119, 120, 121, 122, 123, 124, 125, 126, 127, 128, 129, 130, 131, 132, 133, 134, 135, 136, 137, 138, 139, 140, 141, 142, 143, 144, 145, 146, 147, 148, 149, 150, 151, 152, 153, 154, 203, 204, 205, 206, 207, 208, 209, 210, 197, 198, 199, 200, 201, 202, 211, 212, 213, 214, 215] (by decide +kernel) (by decide +kernel)) (goodIn_sub (fun _ h => List.mem_cons_of_mem _ (List.mem_append_left _ (List.mem_append_right _ h))) (by decide +kernel))
set_option maxRecDepth 20000 in
theorem gL_isTold_X4_root : GoodIn wsL_isTold (wsV RL 107 RX4 yX4_root wsX4_root) := goodIn_app (goodIn_of _ (by decide +kernel)) ggL_isTold_X4_root
set_option maxRecDepth 20000 in
theorem ggL_isTold_J9_floorMod_7cf53 : GoodIn wsL_isTold wsJ9_floorMod_7cf53 := goodIn_r _ [184] (by decide +kernel) (by decide +kernel)
set_option maxRecDepth 20000 in
theorem gL_isTold_J9_floorMod_7cf53 : GoodIn wsL_isTold (va_wsS RL 110 yJ9_floorMod_7cf53 wsJ9_floorMod_7cf53) := goodIn_app (goodIn_of _ (by decide +kernel)) ggL_isTold_J9_floorMod_7cf53
set_option maxRecDepth 20000 in
theorem ggL_isTold_X4_period : GoodIn wsL_isTold wsX4_period := goodIn_ca (goodIn_r _ [188, 32, 172, 173, 174, 5, 175, 7, 8, 20, 52, 53, 54, 55, 56, 57, 58, 59, 60, 61, 62, 63, 64, 65, 66, 67, 68, 69, 70, 71, 72, 73, 74, 75, 76, 77, 13, 78, 79, 80, 81, 82, 83, 84, 85, 86, 87, 88, 89, 90, 16, 17, 18, 19, 21, 91, 92, 93, 25, 94, 43, 95, 27, 96, 97, 98, 99, 100, 101, 102, 103, 104, 105, 106, 107, 108, 109, 110, 111, 112, 113, 114, 115, 116, 117, 118, 119, 120, 121, 122, 123, 124, 125, 126, 127, 128, 129, 130, 131, 132, 133, 134, 135, 136, 137, 138, 139, 140, 141, 142, 143, 144, 145, 146, 147, 148, 149, 150, 151, 152, 153, 154, 189, 190, 191, 192, 193, 194, 195, 196, 203, 204, 205, 206, 207, 208, 209, 210, 197, 198, 199, 200, 201, 202, 211, 212, 213, 214, 215] (by decide +kernel) (by decide +kernel)) (goodIn_sub (fun _ h => List.mem_cons_of_mem _ (List.mem_append_left _ (List.mem_append_right _ h))) (by decide +kernel))
set_option maxRecDepth 20000 in
theorem gL_isTold_X4_period : GoodIn wsL_isTold (wsV RL 113 RX4 yX4_period wsX4_period) := goodIn_app (goodIn_of _ (by decide +kernel)) ggL_isTold_X4_period
theorem dL_isTold_0 : decode cL_isTold 0 = .ok (.aload_n 0, 1) := by decide +kernel
theorem dL_isTold_1 : decode cL_isTold 1 = .ok (.iload_n 1, 1) := by decide +kernel
theorem dL_isTold_2 : decode cL_isTold 2 = .ok (.iconst 0, 1) := by decide +kernel
theorem dL_isTold_3 : decode cL_isTold 3 = .ok (.invokevirtual 47, 3) := by decide +kernel
theorem dL_isTold_6 : decode cL_isTold 6 = .ok (.istore 4, 2) := by decide +kernel
theorem dL_isTold_8 : decode cL_isTold 8 = .ok (.aload_n 0, 1) := by decide +kernel
theorem dL_isTold_9 : decode cL_isTold 9 = .ok (.iload_n 1, 1) := by decide +kernel
theorem dL_isTold_10 : decode cL_isTold 10 = .ok (.iload_n 2, 1) := by decide +kernel
theorem dL_isTold_11 : decode cL_isTold 11 = .ok (.invokevirtual 102, 3) := by decide +kernel
theorem dL_isTold_14 : decode cL_isTold 14 = .ok (.istore 5, 2) := by decide +kernel
theorem dL_isTold_16 : decode cL_isTold 16 = .ok (.iload 5, 2) := by decide +kernel
theorem dL_isTold_18 : decode cL_isTold 18 = .ok (.iconst (-1), 1) := by decide +kernel
theorem dL_isTold_19 : decode cL_isTold 19 = .ok (.if_icmp .ne 7, 3) := by decide +kernel
theorem dL_isTold_22 : decode cL_isTold 22 = .ok (.iconst 1, 1) := by decide +kernel
theorem dL_isTold_23 : decode cL_isTold 23 = .ok (.goto 4, 3) := by decide +kernel
theorem dL_isTold_26 : decode cL_isTold 26 = .ok (.iconst 0, 1) := by decide +kernel
theorem dL_isTold_27 : decode cL_isTold 27 = .ok (.iload 4, 2) := by decide +kernel
theorem dL_isTold_29 : decode cL_isTold 29 = .ok (.iconst 4, 1) := by decide +kernel
theorem dL_isTold_30 : decode cL_isTold 30 = .ok (.if_icmp .eq 24, 3) := by decide +kernel
theorem dL_isTold_33 : decode cL_isTold 33 = .ok (.iload 4, 2) := by decide +kernel
theorem dL_isTold_35 : decode cL_isTold 35 = .ok (.bipush 6, 2) := by decide +kernel
theorem dL_isTold_37 : decode cL_isTold 37 = .ok (.if_icmp .eq 17, 3) := by decide +kernel
theorem dL_isTold_40 : decode cL_isTold 40 = .ok (.iload 4, 2) := by decide +kernel
theorem dL_isTold_42 : decode cL_isTold 42 = .ok (.bipush 8, 2) := by decide +kernel
theorem dL_isTold_44 : decode cL_isTold 44 = .ok (.if_icmp .eq 10, 3) := by decide +kernel
theorem dL_isTold_47 : decode cL_isTold 47 = .ok (.iload 4, 2) := by decide +kernel
theorem dL_isTold_49 : decode cL_isTold 49 = .ok (.bipush 10, 2) := by decide +kernel
theorem dL_isTold_51 : decode cL_isTold 51 = .ok (.if_icmp .ne 7, 3) := by decide +kernel
theorem dL_isTold_54 : decode cL_isTold 54 = .ok (.iconst 1, 1) := by decide +kernel
theorem dL_isTold_55 : decode cL_isTold 55 = .ok (.goto 4, 3) := by decide +kernel
theorem dL_isTold_58 : decode cL_isTold 58 = .ok (.iconst 0, 1) := by decide +kernel
theorem dL_isTold_59 : decode cL_isTold 59 = .ok (.if_icmp .ne 5, 3) := by decide +kernel
theorem dL_isTold_62 : decode cL_isTold 62 = .ok (.iconst 0, 1) := by decide +kernel
theorem dL_isTold_63 : decode cL_isTold 63 = .ok (.ireturn, 1) := by decide +kernel
theorem dL_isTold_64 : decode cL_isTold 64 = .ok (.iload 5, 2) := by decide +kernel
theorem dL_isTold_66 : decode cL_isTold 66 = .ok (.ifCond .lt 76, 3) := by decide +kernel
theorem dL_isTold_69 : decode cL_isTold 69 = .ok (.aload_n 0, 1) := by decide +kernel
theorem dL_isTold_70 : decode cL_isTold 70 = .ok (.iload_n 1, 1) := by decide +kernel
theorem dL_isTold_71 : decode cL_isTold 71 = .ok (.iload 5, 2) := by decide +kernel
theorem dL_isTold_73 : decode cL_isTold 73 = .ok (.invokevirtual 50, 3) := by decide +kernel
theorem dL_isTold_76 : decode cL_isTold 76 = .ok (.istore 6, 2) := by decide +kernel
theorem dL_isTold_78 : decode cL_isTold 78 = .ok (.aload_n 0, 1) := by decide +kernel
theorem dL_isTold_79 : decode cL_isTold 79 = .ok (.iload_n 3, 1) := by decide +kernel
theorem dL_isTold_80 : decode cL_isTold 80 = .ok (.iconst 1, 1) := by decide +kernel
theorem dL_isTold_81 : decode cL_isTold 81 = .ok (.isub, 1) := by decide +kernel
theorem dL_isTold_82 : decode cL_isTold 82 = .ok (.iload_n 2, 1) := by decide +kernel
theorem dL_isTold_83 : decode cL_isTold 83 = .ok (.invokevirtual 77, 3) := by decide +kernel
theorem dL_isTold_86 : decode cL_isTold 86 = .ok (.l2d, 1) := by decide +kernel
theorem dL_isTold_87 : decode cL_isTold 87 = .ok (.ldc2_w 105, 3) := by decide +kernel
theorem dL_isTold_90 : decode cL_isTold 90 = .ok (.aload_n 0, 1) := by decide +kernel
theorem dL_isTold_91 : decode cL_isTold 91 = .ok (.iload_n 3, 1) := by decide +kernel
theorem dL_isTold_92 : decode cL_isTold 92 = .ok (.iconst 1, 1) := by decide +kernel
theorem dL_isTold_93 : decode cL_isTold 93 = .ok (.isub, 1) := by decide +kernel
theorem dL_isTold_94 : decode cL_isTold 94 = .ok (.iload_n 2, 1) := by decide +kernel
theorem dL_isTold_95 : decode cL_isTold 95 = .ok (.invokevirtual 107, 3) := by decide +kernel
theorem dL_isTold_98 : decode cL_isTold 98 = .ok (.l2d, 1) := by decide +kernel
theorem dL_isTold_99 : decode cL_isTold 99 = .ok (.dmul, 1) := by decide +kernel
theorem dL_isTold_100 : decode cL_isTold 100 = .ok (.dadd, 1) := by decide +kernel
theorem dL_isTold_101 : decode cL_isTold 101 = .ok (.dstore 7, 2) := by decide +kernel
theorem dL_isTold_103 : decode cL_isTold 103 = .ok (.aload_n 0, 1) := by decide +kernel
theorem dL_isTold_104 : decode cL_isTold 104 = .ok (.iload_n 1, 1) := by decide +kernel
theorem dL_isTold_105 : decode cL_isTold 105 = .ok (.iload 6, 2) := by decide +kernel
theorem dL_isTold_107 : decode cL_isTold 107 = .ok (.invokevirtual 50, 3) := by decide +kernel
theorem dL_isTold_110 : decode cL_isTold 110 = .ok (.pop, 1) := by decide +kernel
theorem dL_isTold_111 : decode cL_isTold 111 = .ok (.aload_n 0, 1) := by decide +kernel
theorem dL_isTold_112 : decode cL_isTold 112 = .ok (.iload_n 3, 1) := by decide +kernel
theorem dL_isTold_113 : decode cL_isTold 113 = .ok (.iconst 1, 1) := by decide +kernel
theorem dL_isTold_114 : decode cL_isTold 114 = .ok (.isub, 1) := by decide +kernel
theorem dL_isTold_115 : decode cL_isTold 115 = .ok (.iload_n 2, 1) := by decide +kernel
theorem dL_isTold_116 : decode cL_isTold 116 = .ok (.invokevirtual 77, 3) := by decide +kernel
theorem dL_isTold_119 : decode cL_isTold 119 = .ok (.l2d, 1) := by decide +kernel
theorem dL_isTold_120 : decode cL_isTold 120 = .ok (.ldc2_w 105, 3) := by decide +kernel
theorem dL_isTold_123 : decode cL_isTold 123 = .ok (.aload_n 0, 1) := by decide +kernel
theorem dL_isTold_124 : decode cL_isTold 124 = .ok (.iload_n 3, 1) := by decide +kernel
theorem dL_isTold_125 : decode cL_isTold 125 = .ok (.iconst 1, 1) := by decide +kernel
theorem dL_isTold_126 : decode cL_isTold 126 = .ok (.isub, 1) := by decide +kernel
theorem dL_isTold_127 : decode cL_isTold 127 = .ok (.iload_n 2, 1) := by decide +kernel
theorem dL_isTold_128 : decode cL_isTold 128 = .ok (.invokevirtual 107, 3) := by decide +kernel
theorem dL_isTold_131 : decode cL_isTold 131 = .ok (.l2d, 1) := by decide +kernel
theorem dL_isTold_132 : decode cL_isTold 132 = .ok (.dmul, 1) := by decide +kernel
theorem dL_isTold_133 : decode cL_isTold 133 = .ok (.dadd, 1) := by decide +kernel
theorem dL_isTold_134 : decode cL_isTold 134 = .ok (.dload 7, 2) := by decide +kernel
theorem dL_isTold_136 : decode cL_isTold 136 = .ok (.dcmp .l, 1) := by decide +kernel
theorem dL_isTold_137 : decode cL_isTold 137 = .ok (.ifCond .le 5, 3) := by decide +kernel
theorem dL_isTold_140 : decode cL_isTold 140 = .ok (.iconst 0, 1) := by decide +kernel
theorem dL_isTold_141 : decode cL_isTold 141 = .ok (.ireturn, 1) := by decide +kernel
theorem dL_isTold_142 : decode cL_isTold 142 = .ok (.aload_n 0, 1) := by decide +kernel
theorem dL_isTold_143 : decode cL_isTold 143 = .ok (.iload_n 1, 1) := by decide +kernel
theorem dL_isTold_144 : decode cL_isTold 144 = .ok (.iconst 3, 1) := by decide +kernel
theorem dL_isTold_145 : decode cL_isTold 145 = .ok (.invokevirtual 47, 3) := by decide +kernel
theorem dL_isTold_148 : decode cL_isTold 148 = .ok (.ifCond .ne 17, 3) := by decide +kernel
theorem dL_isTold_151 : decode cL_isTold 151 = .ok (.aload_n 0, 1) := by decide +kernel
theorem dL_isTold_152 : decode cL_isTold 152 = .ok (.iload_n 1, 1) := by decide +kernel
theorem dL_isTold_153 : decode cL_isTold 153 = .ok (.iconst 2, 1) := by decide +kernel
theorem dL_isTold_154 : decode cL_isTold 154 = .ok (.invokevirtual 47, 3) := by decide +kernel
theorem dL_isTold_157 : decode cL_isTold 157 = .ok (.iconst 1, 1) := by decide +kernel
theorem dL_isTold_158 : decode cL_isTold 158 = .ok (.if_icmp .ne 7, 3) := by decide +kernel
theorem dL_isTold_161 : decode cL_isTold 161 = .ok (.iconst 1, 1) := by decide +kernel
theorem dL_isTold_162 : decode cL_isTold 162 = .ok (.goto 4, 3) := by decide +kernel
theorem dL_isTold_165 : decode cL_isTold 165 = .ok (.iconst 0, 1) := by decide +kernel
theorem dL_isTold_166 : decode cL_isTold 166 = .ok (.istore 6, 2) := by decide +kernel
theorem dL_isTold_168 : decode cL_isTold 168 = .ok (.iload 4, 2) := by decide +kernel
theorem dL_isTold_170 : decode cL_isTold 170 = .ok (.iconst 4, 1) := by decide +kernel
theorem dL_isTold_171 : decode cL_isTold 171 = .ok (.if_icmp .ne 19, 3) := by decide +kernel
theorem dL_isTold_174 : decode cL_isTold 174 = .ok (.iload_n 2, 1) := by decide +kernel
theorem dL_isTold_175 : decode cL_isTold 175 = .ok (.aload_n 0, 1) := by decide +kernel
theorem dL_isTold_176 : decode cL_isTold 176 = .ok (.iload_n 1, 1) := by decide +kernel
theorem dL_isTold_177 : decode cL_isTold 177 = .ok (.iconst 1, 1) := by decide +kernel
theorem dL_isTold_178 : decode cL_isTold 178 = .ok (.invokevirtual 47, 3) := by decide +kernel
theorem dL_isTold_181 : decode cL_isTold 181 = .ok (.isub, 1) := by decide +kernel
theorem dL_isTold_182 : decode cL_isTold 182 = .ok (.bipush 8, 2) := by decide +kernel
theorem dL_isTold_184 : decode cL_isTold 184 = .ok (.invokestatic 110, 3) := by decide +kernel
theorem dL_isTold_187 : decode cL_isTold 187 = .ok (.goto 7, 3) := by decide +kernel
theorem dL_isTold_190 : decode cL_isTold 190 = .ok (.bipush 7, 2) := by decide +kernel
theorem dL_isTold_192 : decode cL_isTold 192 = .ok (.iload_n 2, 1) := by decide +kernel
theorem dL_isTold_193 : decode cL_isTold 193 = .ok (.isub, 1) := by decide +kernel
theorem dL_isTold_194 : decode cL_isTold 194 = .ok (.istore 7, 2) := by decide +kernel
theorem dL_isTold_196 : decode cL_isTold 196 = .ok (.iload 6, 2) := by decide +kernel
theorem dL_isTold_198 : decode cL_isTold 198 = .ok (.ifCond .eq 68, 3) := by decide +kernel
theorem dL_isTold_201 : decode cL_isTold 201 = .ok (.iload 4, 2) := by decide +kernel
theorem dL_isTold_203 : decode cL_isTold 203 = .ok (.iconst 4, 1) := by decide +kernel
theorem dL_isTold_204 : decode cL_isTold 204 = .ok (.if_icmp .eq 9, 3) := by decide +kernel
theorem dL_isTold_207 : decode cL_isTold 207 = .ok (.iload 4, 2) := by decide +kernel
theorem dL_isTold_209 : decode cL_isTold 209 = .ok (.iconst 5, 1) := by decide +kernel
theorem dL_isTold_210 : decode cL_isTold 210 = .ok (.if_icmp .ne 56, 3) := by decide +kernel
theorem dL_isTold_213 : decode cL_isTold 213 = .ok (.aload_n 0, 1) := by decide +kernel
theorem dL_isTold_214 : decode cL_isTold 214 = .ok (.iload_n 1, 1) := by decide +kernel
theorem dL_isTold_215 : decode cL_isTold 215 = .ok (.iload_n 2, 1) := by decide +kernel
theorem dL_isTold_216 : decode cL_isTold 216 = .ok (.invokevirtual 77, 3) := by decide +kernel
theorem dL_isTold_219 : decode cL_isTold 219 = .ok (.aload_n 0, 1) := by decide +kernel
theorem dL_isTold_220 : decode cL_isTold 220 = .ok (.iload_n 1, 1) := by decide +kernel
theorem dL_isTold_221 : decode cL_isTold 221 = .ok (.iconst 1, 1) := by decide +kernel
theorem dL_isTold_222 : decode cL_isTold 222 = .ok (.isub, 1) := by decide +kernel
theorem dL_isTold_223 : decode cL_isTold 223 = .ok (.iload 7, 2) := by decide +kernel
theorem dL_isTold_225 : decode cL_isTold 225 = .ok (.invokevirtual 77, 3) := by decide +kernel
theorem dL_isTold_228 : decode cL_isTold 228 = .ok (.lcmp, 1) := by decide +kernel
theorem dL_isTold_229 : decode cL_isTold 229 = .ok (.ifCond .ne 41, 3) := by decide +kernel
theorem dL_isTold_232 : decode cL_isTold 232 = .ok (.aload_n 0, 1) := by decide +kernel
theorem dL_isTold_233 : decode cL_isTold 233 = .ok (.iload_n 1, 1) := by decide +kernel
theorem dL_isTold_234 : decode cL_isTold 234 = .ok (.iload_n 2, 1) := by decide +kernel
theorem dL_isTold_235 : decode cL_isTold 235 = .ok (.invokevirtual 107, 3) := by decide +kernel
theorem dL_isTold_238 : decode cL_isTold 238 = .ok (.aload_n 0, 1) := by decide +kernel
theorem dL_isTold_239 : decode cL_isTold 239 = .ok (.iload_n 1, 1) := by decide +kernel
theorem dL_isTold_240 : decode cL_isTold 240 = .ok (.iconst 1, 1) := by decide +kernel
theorem dL_isTold_241 : decode cL_isTold 241 = .ok (.isub, 1) := by decide +kernel
theorem dL_isTold_242 : decode cL_isTold 242 = .ok (.iload 7, 2) := by decide +kernel
theorem dL_isTold_244 : decode cL_isTold 244 = .ok (.invokevirtual 107, 3) := by decide +kernel
theorem dL_isTold_247 : decode cL_isTold 247 = .ok (.lcmp, 1) := by decide +kernel
theorem dL_isTold_248 : decode cL_isTold 248 = .ok (.ifCond .ne 22, 3) := by decide +kernel
theorem dL_isTold_251 : decode cL_isTold 251 = .ok (.aload_n 0, 1) := by decide +kernel
theorem dL_isTold_252 : decode cL_isTold 252 = .ok (.iload_n 1, 1) := by decide +kernel
theorem dL_isTold_253 : decode cL_isTold 253 = .ok (.invokevirtual 113, 3) := by decide +kernel
theorem dL_isTold_256 : decode cL_isTold 256 = .ok (.aload_n 0, 1) := by decide +kernel
theorem dL_isTold_257 : decode cL_isTold 257 = .ok (.iload_n 1, 1) := by decide +kernel
theorem dL_isTold_258 : decode cL_isTold 258 = .ok (.iconst 1, 1) := by decide +kernel
theorem dL_isTold_259 : decode cL_isTold 259 = .ok (.isub, 1) := by decide +kernel
theorem dL_isTold_260 : decode cL_isTold 260 = .ok (.invokevirtual 113, 3) := by decide +kernel
theorem dL_isTold_263 : decode cL_isTold 263 = .ok (.if_icmp .ne 7, 3) := by decide +kernel
theorem dL_isTold_266 : decode cL_isTold 266 = .ok (.iconst 1, 1) := by decide +kernel
theorem dL_isTold_267 : decode cL_isTold 267 = .ok (.goto 4, 3) := by decide +kernel
theorem dL_isTold_270 : decode cL_isTold 270 = .ok (.iconst 0, 1) := by decide +kernel
theorem dL_isTold_271 : decode cL_isTold 271 = .ok (.ireturn, 1) := by decide +kernel
set_option maxRecDepth 20000 in
theorem ggL_isLight_X4_dark : GoodIn wsL_isLight wsX4_dark := goodIn_ca (goodIn_r _ [11, 12, 13, 14, 15, 10, 16, 17, 18, 19, 20, 21, 22, 23, 24, 25, 26, 27, 28, 29, 30, 31, 32, 33, 34, 35, 36, 37, 38, 39, 40, 41, 42, 43, 44, 45, 46, 47, 48, 49, 50, 51, 52, 53, 54, 55, 56, 57, 58, 59, 60, 61, 62, 63, 64, 65, 66, 67, 68, 69, 70, 71, 72, 73, 74, 75, 76, 77, 78, 79, 80, 81, 82, 83, 84, 85, 86, 87, 88, 89, 90, 91, 92, 93, 94, 95, 96, 97, 98, 99, 100, 101, 102, 103, 104, 105, 106, 107, 108, 109, 110, 111, 112, 113, 114, 115, 116, 117, 118, 119, 120, 121, 122, 123, 124, 125, 126, 127, 128, 129, 130, 131, 132, 133, 134, 135, 239, 240, 241, 242, 243, 244, 245, 246, 247, 248, 249, 250, 251, 252, 253, 254, 255, 256, 257] (by decide +kernel) (by decide +kernel)) (goodIn_sub (fun _ h => List.mem_cons_of_mem _ (List.mem_append_left _ (List.mem_append_right _ h))) (by decide +kernel))
set_option maxRecDepth 20000 in
theorem gL_isLight_X4_dark : GoodIn wsL_isLight (wsV RL 116 RX4 yX4_dark wsX4_dark) := goodIn_app (goodIn_of _ (by decide +kernel)) ggL_isLight_X4_dark
set_option maxRecDepth 20000 in
theorem ggL_isLight_X4_brightest : GoodIn wsL_isLight wsX4_brightest := goodIn_ca (goodIn_r _ [139, 12, 13, 14, 15, 10, 16, 17, 18, 19, 20, 21, 22, 23, 24, 25, 26, 27, 28, 29, 30, 31, 32, 33, 34, 35, 36, 37, 38, 39, 40, 41, 42, 43, 44, 45, 46, 47, 48, 49, 50, 51, 52, 53, 54, 55, 56, 57, 58, 59, 60, 61, 62, 63, 64, 65, 66, 67, 68, 69, 70, 71, 72, 73, 74, 75, 76, 77, 78, 79, 80, 81, 82, 83, 84, 85, 86, 87, 88, 89, 90, 91, 92, 93, 94, 95, 96, 97, 98, 99, 100, 101, 102, 103, 104, 105, 106, 107, 108, 109, 110, 111, 112, 113, 114, 115, 116, 117, 118, 119, 120, 121, 122, 123, 124, 125, 126, 127, 128, 129, 130, 131, 140, 141, 142, 143, 144, 145, 146, 147, 148, 239, 240, 241, 242, 243, 244, 245, 246, 247, 248, 249, 250, 251, 252, 253, 254, 255, 256, 257] (by decide +kernel) (by decide +kernel)) (goodIn_sub (fun _ h => List.mem_cons_of_mem _ (List.mem_append_left _ (List.mem_append_right _ h))) (by decide +kernel))
set_option maxRecDepth 20000 in
theorem gL_isLight_X4_brightest : GoodIn wsL_isLight (wsV RL 119 RX4 yX4_brightest wsX4_brightest) := goodIn_app (goodIn_of _ (by decide +kernel)) ggL_isLight_X4_brightest
set_option maxRecDepth 20000 in
theorem ggL_isLight_X4_whole : GoodIn wsL_isLight wsX4_whole := goodIn_ca (goodIn_r _ [152, 12, 153, 13, 14, 15, 10, 16, 17, 18, 19, 154, 155, 156, 157, 158, 159, 20, 21, 22, 23, 24, 25, 26, 27, 28, 29, 30, 31, 32, 33, 34, 35, 36, 37, 38, 39, 40, 41, 42, 43, 44, 45, 46, 47, 48, 49, 50, 51, 52, 53, 54, 55, 56, 57, 58, 59, 60, 61, 62, 63, 64, 65, 66, 67, 68, 69, 70, 71, 72, 73, 74, 75, 76, 77, 78, 79, 80, 81, 82, 83, 84, 85, 86, 87, 88, 89, 90, 91, 92, 93, 94, 95, 96, 97, 98, 99, 100, 101, 102, 103, 104, 105, 106, 107, 108, 109, 110, 111, 112, 113, 114, 115, 116, 117, 118, 119, 120, 121, 122, 123, 124, 125, 126, 127, 128, 129, 130, 131, 239, 240, 241, 242, 243, 244, 245, 246, 247, 248, 249, 250, 251, 252, 253, 254, 255, 256, 257] (by decide +kernel) (by decide +kernel)) (goodIn_sub (fun _ h => List.mem_cons_of_mem _ (List.mem_append_left _ (List.mem_append_right _ h))) (by decide +kernel))
set_option maxRecDepth 20000 in
theorem gL_isLight_X4_whole : GoodIn wsL_isLight (wsV RL 77 RX4 yX4_whole wsX4_whole) := goodIn_app (goodIn_of _ (by decide +kernel)) ggL_isLight_X4_whole
set_option maxRecDepth 20000 in
theorem ggL_isLight_X4_root : GoodIn wsL_isLight wsX4_root := goodIn_ca (goodIn_r _ [163, 12, 164, 13, 14, 15, 10, 16, 17, 18, 19, 154, 155, 156, 157, 158, 159, 20, 21, 22, 23, 24, 25, 26, 27, 28, 29, 30, 31, 32, 33, 34, 35, 36, 37, 38, 39, 40, 41, 42, 43, 44, 45, 46, 47, 48, 49, 50, 51, 52, 53, 54, 55, 56, 57, 58, 59, 60, 61, 62, 63, 64, 65, 66, 67, 68, 69, 70, 71, 72, 73, 74, 75, 76, 77, 78, 79, 80, 81, 82, 83, 84, 85, 86, 87, 88, 89, 90, 91, 92, 93, 94, 95, 96, 97, 98, 99, 100, 101, 102, 103, 104, 105, 106, 107, 108, 109, 110, 111, 112, 113, 114, 115, 116, 117, 118, 119, 120, 121, 122, 123, 124, 125, 126, 127, 128, 129, 130, 131, 239, 240, 241, 242, 243, 244, 245, 246, 247, 248, 249, 250, 251, 252, 253, 254, 255, 256, 257] (by decide +kernel) (by decide +kernel)) (goodIn_sub (fun _ h => List.mem_cons_of_mem _ (List.mem_append_left _ (List.mem_append_right _ h))) (by decide +kernel))
set_option maxRecDepth 20000 in
theorem gL_isLight_X4_root : GoodIn wsL_isLight (wsV RL 107 RX4 yX4_root wsX4_root) := goodIn_app (goodIn_of _ (by decide +kernel)) ggL_isLight_X4_root
set_option maxRecDepth 20000 in
theorem ggL_isLight_X4_tenths : GoodIn wsL_isLight wsX4_tenths := goodIn_ca (goodIn_r _ [168, 12, 13, 14, 15, 10, 16, 17, 18, 19, 154, 155, 156, 157, 158, 159, 20, 21, 22, 23, 24, 25, 26, 27, 28, 29, 30, 31, 32, 33, 34, 35, 36, 37, 38, 39, 40, 41, 42, 43, 44, 45, 46, 47, 48, 49, 50, 51, 52, 53, 54, 55, 56, 57, 58, 59, 60, 61, 62, 63, 64, 65, 66, 67, 68, 69, 70, 71, 72, 73, 74, 75, 76, 77, 78, 79, 80, 81, 82, 83, 84, 85, 86, 87, 88, 89, 90, 91, 92, 93, 94, 95, 96, 97, 98, 99, 100, 101, 102, 103, 104, 105, 106, 107, 108, 109, 110, 111, 112, 113, 114, 115, 116, 117, 118, 119, 120, 121, 122, 123, 124, 125, 126, 127, 128, 129, 130, 131, 169, 170, 171, 172, 173, 174, 175, 176, 177, 178, 141, 142, 143, 144, 145, 146, 147, 148, 179, 180, 181, 182, 183, 184, 185, 239, 240, 241, 242, 243, 244, 245, 246, 247, 248, 249, 250, 251, 252, 253, 254, 255, 256, 257] (by decide +kernel) (by decide +kernel)) (goodIn_sub (fun _ h => List.mem_cons_of_mem _ (List.mem_append_left _ (List.mem_append_right _ h))) (by decide +kernel))
set_option maxRecDepth 20000 in
theorem gL_isLight_X4_tenths : GoodIn wsL_isLight (wsV RL 122 RX4 yX4_tenths wsX4_tenths) := goodIn_app (goodIn_of _ (by decide +kernel)) ggL_isLight_X4_tenths
set_option maxRecDepth 20000 in
theorem ggL_isLight_X4_many : GoodIn wsL_isLight wsX4_many := goodIn_ca (goodIn_r _ [189, 190, 191, 24, 19, 192, 193, 194, 10, 195, 46, 60, 61, 62, 63, 64, 196, 197, 198, 199, 200, 201, 202, 68, 203, 73, 70, 71, 72, 204, 205, 206, 207, 208, 239, 240, 241, 242, 243, 244, 247, 248, 249, 250, 251, 252] (by decide +kernel) (by decide +kernel)) (goodIn_sub (fun _ h => List.mem_cons_of_mem _ (List.mem_append_right _ h)) (by decide +kernel))
set_option maxRecDepth 20000 in
theorem gL_isLight_X4_many : GoodIn wsL_isLight (wsV RL 20 RX4 yX4_many wsX4_many) := goodIn_app (goodIn_of _ (by decide +kernel)) ggL_isLight_X4_many
set_option maxRecDepth 20000 in
theorem ggL_isLight_X4_alone : GoodIn wsL_isLight wsX4_alone := goodIn_ca (goodIn_r _ [212, 17, 18, 19, 12, 25, 37, 38, 39, 10, 40, 24, 41, 42, 43, 44, 45, 46, 47, 48, 49, 50, 51, 52, 53, 54, 55, 56, 34, 35, 36, 57, 58, 59, 60, 61, 62, 63, 64, 65, 66, 67, 68, 69, 70, 71, 72, 73, 74, 75, 76, 77, 78, 79, 80, 81, 82, 83, 84, 85, 86, 87, 88, 89, 90, 91, 92, 93, 94, 95, 96, 97, 98, 99, 100, 101, 102, 103, 104, 105, 106, 107, 108, 109, 110, 111, 26, 27, 28, 29, 30, 31, 32, 33, 112, 113, 114, 115, 116, 117, 118, 119, 120, 121, 122, 123, 124, 125, 126, 127, 128, 129, 130, 131, 140, 141, 142, 143, 144, 145, 146, 147, 148, 239, 240, 241, 242, 243, 244, 247, 248, 249, 250, 251, 252, 253, 254, 255, 256, 257, 245, 246] (by decide +kernel) (by decide +kernel)) (goodIn_sub (fun _ h => List.mem_cons_of_mem _ (List.mem_append_left _ (List.mem_append_right _ h))) (by decide +kernel))
set_option maxRecDepth 20000 in
theorem gL_isLight_X4_alone : GoodIn wsL_isLight (wsV RL 132 RX4 yX4_alone wsX4_alone) := goodIn_app (goodIn_of _ (by decide +kernel)) ggL_isLight_X4_alone
set_option maxRecDepth 20000 in
theorem ggL_isLight_X4_power : GoodIn wsL_isLight wsX4_power := goodIn_ca (goodIn_r _ [216, 12, 13, 14, 15, 10, 16, 17, 18, 19, 20, 21, 22, 23, 24, 25, 26, 27, 28, 29, 30, 31, 32, 33, 34, 35, 36, 37, 38, 39, 40, 41, 42, 43, 44, 45, 46, 47, 48, 49, 50, 51, 52, 53, 54, 55, 56, 57, 58, 59, 60, 61, 62, 63, 64, 65, 66, 67, 68, 69, 70, 71, 72, 73, 74, 75, 76, 77, 78, 79, 80, 81, 82, 83, 84, 85, 86, 87, 88, 89, 90, 91, 92, 93, 94, 95, 96, 97, 98, 99, 100, 101, 102, 103, 104, 105, 106, 107, 108, 109, 110, 111, 112, 113, 114, 115, 116, 117, 118, 119, 120, 121, 122, 123, 124, 125, 126, 127, 128, 129, 130, 131, 217, 218, 219, 220, 221, 222, 223, 224, 225, 226, 227, 239, 240, 241, 242, 243, 244, 245, 246, 247, 248, 249, 250, 251, 252, 253, 254, 255, 256, 257] (by decide +kernel) (by decide +kernel)) (goodIn_sub (fun _ h => List.mem_cons_of_mem _ (List.mem_append_left _ (List.mem_append_right _ h))) (by decide +kernel))
set_option maxRecDepth 20000 in
theorem gL_isLight_X4_power : GoodIn wsL_isLight (wsV RL 81 RX4 yX4_power wsX4_power) := goodIn_app (goodIn_of _ (by decide +kernel)) ggL_isLight_X4_power
set_option maxRecDepth 20000 in
theorem ggL_isLight_X4_loses : GoodIn wsL_isLight wsX4_loses := goodIn_ca (goodIn_r _ [231, 17, 18, 46, 12, 60, 61, 62, 10, 63, 19, 64, 20, 21, 22, 23, 24, 25, 26, 27, 28, 29, 30, 31, 32, 33, 34, 35, 36, 37, 38, 39, 40, 41, 42, 43, 44, 45, 47, 48, 49, 50, 51, 52, 53, 54, 55, 56, 57, 58, 59, 65, 66, 67, 68, 69, 70, 71, 72, 73, 74, 75, 76, 77, 78, 79, 80, 81, 82, 83, 84, 85, 86, 87, 88, 89, 90, 91, 92, 93, 94, 95, 96, 97, 98, 99, 100, 101, 102, 103, 104, 105, 106, 107, 108, 109, 110, 111, 112, 113, 114, 115, 116, 117, 118, 119, 120, 121, 122, 123, 124, 125, 126, 127, 128, 129, 130, 131, 224, 225, 226, 227, 221, 222, 223, 232, 233, 234, 235, 236, 237, 238, 247, 248, 249, 250, 251, 252, 239, 240, 241, 242, 243, 244, 245, 246, 253, 254, 255, 256, 257] (by decide +kernel) (by decide +kernel)) (goodIn_sub (fun _ h => List.mem_cons_of_mem _ (List.mem_append_left _ (List.mem_append_right _ h))) (by decide +kernel))
set_option maxRecDepth 20000 in
theorem gL_isLight_X4_loses : GoodIn wsL_isLight (wsV RL 98 RX4 yX4_loses wsX4_loses) := goodIn_app (goodIn_of _ (by decide +kernel)) ggL_isLight_X4_loses
theorem dL_isLight_0 : decode cL_isLight 0 = .ok (.lconst 0, 1) := by decide +kernel
theorem dL_isLight_1 : decode cL_isLight 1 = .ok (.lstore_n 2, 1) := by decide +kernel
theorem dL_isLight_2 : decode cL_isLight 2 = .ok (.lconst 0, 1) := by decide +kernel
theorem dL_isLight_3 : decode cL_isLight 3 = .ok (.lstore 4, 2) := by decide +kernel
theorem dL_isLight_5 : decode cL_isLight 5 = .ok (.aload_n 0, 1) := by decide +kernel
theorem dL_isLight_6 : decode cL_isLight 6 = .ok (.iload_n 1, 1) := by decide +kernel
theorem dL_isLight_7 : decode cL_isLight 7 = .ok (.invokevirtual 116, 3) := by decide +kernel
theorem dL_isLight_10 : decode cL_isLight 10 = .ok (.istore 6, 2) := by decide +kernel
theorem dL_isLight_12 : decode cL_isLight 12 = .ok (.aload_n 0, 1) := by decide +kernel
theorem dL_isLight_13 : decode cL_isLight 13 = .ok (.iload_n 1, 1) := by decide +kernel
theorem dL_isLight_14 : decode cL_isLight 14 = .ok (.invokevirtual 119, 3) := by decide +kernel
theorem dL_isLight_17 : decode cL_isLight 17 = .ok (.istore 7, 2) := by decide +kernel
theorem dL_isLight_19 : decode cL_isLight 19 = .ok (.iconst 0, 1) := by decide +kernel
theorem dL_isLight_20 : decode cL_isLight 20 = .ok (.istore 8, 2) := by decide +kernel
theorem dL_isLight_22 : decode cL_isLight 22 = .ok (.iload 8, 2) := by decide +kernel
theorem dL_isLight_24 : decode cL_isLight 24 = .ok (.bipush 8, 2) := by decide +kernel
theorem dL_isLight_26 : decode cL_isLight 26 = .ok (.if_icmp .ge 147, 3) := by decide +kernel
theorem dL_isLight_29 : decode cL_isLight 29 = .ok (.aload_n 0, 1) := by decide +kernel
theorem dL_isLight_30 : decode cL_isLight 30 = .ok (.iload_n 1, 1) := by decide +kernel
theorem dL_isLight_31 : decode cL_isLight 31 = .ok (.iload 8, 2) := by decide +kernel
theorem dL_isLight_33 : decode cL_isLight 33 = .ok (.invokevirtual 77, 3) := by decide +kernel
theorem dL_isLight_36 : decode cL_isLight 36 = .ok (.lstore 9, 2) := by decide +kernel
theorem dL_isLight_38 : decode cL_isLight 38 = .ok (.aload_n 0, 1) := by decide +kernel
theorem dL_isLight_39 : decode cL_isLight 39 = .ok (.iload_n 1, 1) := by decide +kernel
theorem dL_isLight_40 : decode cL_isLight 40 = .ok (.iload 8, 2) := by decide +kernel
theorem dL_isLight_42 : decode cL_isLight 42 = .ok (.invokevirtual 107, 3) := by decide +kernel
theorem dL_isLight_45 : decode cL_isLight 45 = .ok (.lstore 11, 2) := by decide +kernel
theorem dL_isLight_47 : decode cL_isLight 47 = .ok (.lload_n 2, 1) := by decide +kernel
theorem dL_isLight_48 : decode cL_isLight 48 = .ok (.lload 9, 2) := by decide +kernel
theorem dL_isLight_50 : decode cL_isLight 50 = .ok (.ladd, 1) := by decide +kernel
theorem dL_isLight_51 : decode cL_isLight 51 = .ok (.lstore_n 2, 1) := by decide +kernel
theorem dL_isLight_52 : decode cL_isLight 52 = .ok (.lload 4, 2) := by decide +kernel
theorem dL_isLight_54 : decode cL_isLight 54 = .ok (.lload 11, 2) := by decide +kernel
theorem dL_isLight_56 : decode cL_isLight 56 = .ok (.ladd, 1) := by decide +kernel
theorem dL_isLight_57 : decode cL_isLight 57 = .ok (.lstore 4, 2) := by decide +kernel
theorem dL_isLight_59 : decode cL_isLight 59 = .ok (.aload_n 0, 1) := by decide +kernel
theorem dL_isLight_60 : decode cL_isLight 60 = .ok (.iload_n 1, 1) := by decide +kernel
theorem dL_isLight_61 : decode cL_isLight 61 = .ok (.iload 8, 2) := by decide +kernel
theorem dL_isLight_63 : decode cL_isLight 63 = .ok (.invokevirtual 122, 3) := by decide +kernel
theorem dL_isLight_66 : decode cL_isLight 66 = .ok (.dstore 13, 2) := by decide +kernel
theorem dL_isLight_68 : decode cL_isLight 68 = .ok (.lload 9, 2) := by decide +kernel
theorem dL_isLight_70 : decode cL_isLight 70 = .ok (.lconst 0, 1) := by decide +kernel
theorem dL_isLight_71 : decode cL_isLight 71 = .ok (.lcmp, 1) := by decide +kernel
theorem dL_isLight_72 : decode cL_isLight 72 = .ok (.ifCond .lt 93, 3) := by decide +kernel
theorem dL_isLight_75 : decode cL_isLight 75 = .ok (.lload 11, 2) := by decide +kernel
theorem dL_isLight_77 : decode cL_isLight 77 = .ok (.invokestatic 126, 3) := by decide +kernel
theorem dL_isLight_80 : decode cL_isLight 80 = .ok (.lload 9, 2) := by decide +kernel
theorem dL_isLight_82 : decode cL_isLight 82 = .ok (.lcmp, 1) := by decide +kernel
theorem dL_isLight_83 : decode cL_isLight 83 = .ok (.ifCond .gt 82, 3) := by decide +kernel
theorem dL_isLight_86 : decode cL_isLight 86 = .ok (.iload 6, 2) := by decide +kernel
theorem dL_isLight_88 : decode cL_isLight 88 = .ok (.iload 8, 2) := by decide +kernel
theorem dL_isLight_90 : decode cL_isLight 90 = .ok (.ishr, 1) := by decide +kernel
theorem dL_isLight_91 : decode cL_isLight 91 = .ok (.iconst 1, 1) := by decide +kernel
theorem dL_isLight_92 : decode cL_isLight 92 = .ok (.iand, 1) := by decide +kernel
theorem dL_isLight_93 : decode cL_isLight 93 = .ok (.iconst 1, 1) := by decide +kernel
theorem dL_isLight_94 : decode cL_isLight 94 = .ok (.if_icmp .ne 7, 3) := by decide +kernel
theorem dL_isLight_97 : decode cL_isLight 97 = .ok (.iconst 1, 1) := by decide +kernel
theorem dL_isLight_98 : decode cL_isLight 98 = .ok (.goto 4, 3) := by decide +kernel
theorem dL_isLight_101 : decode cL_isLight 101 = .ok (.iconst 0, 1) := by decide +kernel
theorem dL_isLight_102 : decode cL_isLight 102 = .ok (.lload 9, 2) := by decide +kernel
theorem dL_isLight_104 : decode cL_isLight 104 = .ok (.lconst 0, 1) := by decide +kernel
theorem dL_isLight_105 : decode cL_isLight 105 = .ok (.lcmp, 1) := by decide +kernel
theorem dL_isLight_106 : decode cL_isLight 106 = .ok (.ifCond .ne 14, 3) := by decide +kernel
theorem dL_isLight_109 : decode cL_isLight 109 = .ok (.lload 11, 2) := by decide +kernel
theorem dL_isLight_111 : decode cL_isLight 111 = .ok (.lconst 0, 1) := by decide +kernel
theorem dL_isLight_112 : decode cL_isLight 112 = .ok (.lcmp, 1) := by decide +kernel
theorem dL_isLight_113 : decode cL_isLight 113 = .ok (.ifCond .ne 7, 3) := by decide +kernel
theorem dL_isLight_116 : decode cL_isLight 116 = .ok (.iconst 1, 1) := by decide +kernel
theorem dL_isLight_117 : decode cL_isLight 117 = .ok (.goto 4, 3) := by decide +kernel
theorem dL_isLight_120 : decode cL_isLight 120 = .ok (.iconst 0, 1) := by decide +kernel
theorem dL_isLight_121 : decode cL_isLight 121 = .ok (.if_icmp .ne 44, 3) := by decide +kernel
theorem dL_isLight_124 : decode cL_isLight 124 = .ok (.dload 13, 2) := by decide +kernel
theorem dL_isLight_126 : decode cL_isLight 126 = .ok (.ldc2_w 130, 3) := by decide +kernel
theorem dL_isLight_129 : decode cL_isLight 129 = .ok (.dcmp .l, 1) := by decide +kernel
theorem dL_isLight_130 : decode cL_isLight 130 = .ok (.ifCond .gt 35, 3) := by decide +kernel
theorem dL_isLight_133 : decode cL_isLight 133 = .ok (.iload 8, 2) := by decide +kernel
theorem dL_isLight_135 : decode cL_isLight 135 = .ok (.iload 7, 2) := by decide +kernel
theorem dL_isLight_137 : decode cL_isLight 137 = .ok (.if_icmp .ne 30, 3) := by decide +kernel
theorem dL_isLight_140 : decode cL_isLight 140 = .ok (.dload 13, 2) := by decide +kernel
theorem dL_isLight_142 : decode cL_isLight 142 = .ok (.ldc2_w 130, 3) := by decide +kernel
theorem dL_isLight_145 : decode cL_isLight 145 = .ok (.dcmp .l, 1) := by decide +kernel
theorem dL_isLight_146 : decode cL_isLight 146 = .ok (.ifCond .eq 21, 3) := by decide +kernel
theorem dL_isLight_149 : decode cL_isLight 149 = .ok (.lload 9, 2) := by decide +kernel
theorem dL_isLight_151 : decode cL_isLight 151 = .ok (.l2d, 1) := by decide +kernel
theorem dL_isLight_152 : decode cL_isLight 152 = .ok (.ldc2_w 105, 3) := by decide +kernel
theorem dL_isLight_155 : decode cL_isLight 155 = .ok (.lload 11, 2) := by decide +kernel
theorem dL_isLight_157 : decode cL_isLight 157 = .ok (.l2d, 1) := by decide +kernel
theorem dL_isLight_158 : decode cL_isLight 158 = .ok (.dmul, 1) := by decide +kernel
theorem dL_isLight_159 : decode cL_isLight 159 = .ok (.dadd, 1) := by decide +kernel
theorem dL_isLight_160 : decode cL_isLight 160 = .ok (.dconst 0, 1) := by decide +kernel
theorem dL_isLight_161 : decode cL_isLight 161 = .ok (.dcmp .l, 1) := by decide +kernel
theorem dL_isLight_162 : decode cL_isLight 162 = .ok (.ifCond .le 5, 3) := by decide +kernel
theorem dL_isLight_165 : decode cL_isLight 165 = .ok (.iconst 0, 1) := by decide +kernel
theorem dL_isLight_166 : decode cL_isLight 166 = .ok (.ireturn, 1) := by decide +kernel
theorem dL_isLight_167 : decode cL_isLight 167 = .ok (.iinc 8 1, 3) := by decide +kernel
theorem dL_isLight_170 : decode cL_isLight 170 = .ok (.goto (-148), 3) := by decide +kernel
theorem dL_isLight_173 : decode cL_isLight 173 = .ok (.iconst 0, 1) := by decide +kernel
theorem dL_isLight_174 : decode cL_isLight 174 = .ok (.istore 8, 2) := by decide +kernel
theorem dL_isLight_176 : decode cL_isLight 176 = .ok (.iload 8, 2) := by decide +kernel
theorem dL_isLight_178 : decode cL_isLight 178 = .ok (.aload_n 0, 1) := by decide +kernel
theorem dL_isLight_179 : decode cL_isLight 179 = .ok (.iconst 0, 1) := by decide +kernel
theorem dL_isLight_180 : decode cL_isLight 180 = .ok (.invokevirtual 20, 3) := by decide +kernel
theorem dL_isLight_183 : decode cL_isLight 183 = .ok (.if_icmp .ge 24, 3) := by decide +kernel
theorem dL_isLight_186 : decode cL_isLight 186 = .ok (.iload_n 1, 1) := by decide +kernel
theorem dL_isLight_187 : decode cL_isLight 187 = .ok (.ifCond .lt 20, 3) := by decide +kernel
theorem dL_isLight_190 : decode cL_isLight 190 = .ok (.aload_n 0, 1) := by decide +kernel
theorem dL_isLight_191 : decode cL_isLight 191 = .ok (.iload 8, 2) := by decide +kernel
theorem dL_isLight_193 : decode cL_isLight 193 = .ok (.invokevirtual 132, 3) := by decide +kernel
theorem dL_isLight_196 : decode cL_isLight 196 = .ok (.ifCond .ge 5, 3) := by decide +kernel
theorem dL_isLight_199 : decode cL_isLight 199 = .ok (.iconst 0, 1) := by decide +kernel
theorem dL_isLight_200 : decode cL_isLight 200 = .ok (.ireturn, 1) := by decide +kernel
theorem dL_isLight_201 : decode cL_isLight 201 = .ok (.iinc 8 1, 3) := by decide +kernel
theorem dL_isLight_204 : decode cL_isLight 204 = .ok (.goto (-28), 3) := by decide +kernel
theorem dL_isLight_207 : decode cL_isLight 207 = .ok (.lload_n 2, 1) := by decide +kernel
theorem dL_isLight_208 : decode cL_isLight 208 = .ok (.aload_n 0, 1) := by decide +kernel
theorem dL_isLight_209 : decode cL_isLight 209 = .ok (.iload_n 1, 1) := by decide +kernel
theorem dL_isLight_210 : decode cL_isLight 210 = .ok (.iconst 0, 1) := by decide +kernel
theorem dL_isLight_211 : decode cL_isLight 211 = .ok (.invokevirtual 81, 3) := by decide +kernel
theorem dL_isLight_214 : decode cL_isLight 214 = .ok (.lcmp, 1) := by decide +kernel
theorem dL_isLight_215 : decode cL_isLight 215 = .ok (.ifCond .ne 33, 3) := by decide +kernel
theorem dL_isLight_218 : decode cL_isLight 218 = .ok (.lload 4, 2) := by decide +kernel
theorem dL_isLight_220 : decode cL_isLight 220 = .ok (.aload_n 0, 1) := by decide +kernel
theorem dL_isLight_221 : decode cL_isLight 221 = .ok (.iload_n 1, 1) := by decide +kernel
theorem dL_isLight_222 : decode cL_isLight 222 = .ok (.iconst 1, 1) := by decide +kernel
theorem dL_isLight_223 : decode cL_isLight 223 = .ok (.invokevirtual 81, 3) := by decide +kernel
theorem dL_isLight_226 : decode cL_isLight 226 = .ok (.lcmp, 1) := by decide +kernel
theorem dL_isLight_227 : decode cL_isLight 227 = .ok (.ifCond .ne 21, 3) := by decide +kernel
theorem dL_isLight_230 : decode cL_isLight 230 = .ok (.iload_n 1, 1) := by decide +kernel
theorem dL_isLight_231 : decode cL_isLight 231 = .ok (.ifCond .lt 13, 3) := by decide +kernel
theorem dL_isLight_234 : decode cL_isLight 234 = .ok (.aload_n 0, 1) := by decide +kernel
theorem dL_isLight_235 : decode cL_isLight 235 = .ok (.iload_n 1, 1) := by decide +kernel
theorem dL_isLight_236 : decode cL_isLight 236 = .ok (.invokevirtual 98, 3) := by decide +kernel
theorem dL_isLight_239 : decode cL_isLight 239 = .ok (.lconst 0, 1) := by decide +kernel
theorem dL_isLight_240 : decode cL_isLight 240 = .ok (.lcmp, 1) := by decide +kernel
theorem dL_isLight_241 : decode cL_isLight 241 = .ok (.ifCond .lt 7, 3) := by decide +kernel
theorem dL_isLight_244 : decode cL_isLight 244 = .ok (.iconst 1, 1) := by decide +kernel
theorem dL_isLight_245 : decode cL_isLight 245 = .ok (.goto 4, 3) := by decide +kernel
theorem dL_isLight_248 : decode cL_isLight 248 = .ok (.iconst 0, 1) := by decide +kernel
theorem dL_isLight_249 : decode cL_isLight 249 = .ok (.ireturn, 1) := by decide +kernel
