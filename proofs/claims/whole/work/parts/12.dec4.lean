theorem dX12_worked_117 : decode cX12_worked 117 = .ok (.goto 20, 3) := by decide +kernel
theorem dX12_worked_120 : decode cX12_worked 120 = .ok (.aload_n 0, 1) := by decide +kernel
theorem dX12_worked_121 : decode cX12_worked 121 = .ok (.getfield 111, 3) := by decide +kernel
theorem dX12_worked_124 : decode cX12_worked 124 = .ok (.iload 4, 2) := by decide +kernel
theorem dX12_worked_126 : decode cX12_worked 126 = .ok (.iconst 1, 1) := by decide +kernel
theorem dX12_worked_127 : decode cX12_worked 127 = .ok (.isub, 1) := by decide +kernel
theorem dX12_worked_128 : decode cX12_worked 128 = .ok (.iaload, 1) := by decide +kernel
theorem dX12_worked_129 : decode cX12_worked 129 = .ok (.ifCond .ne 7, 3) := by decide +kernel
theorem dX12_worked_132 : decode cX12_worked 132 = .ok (.iconst 1, 1) := by decide +kernel
theorem dX12_worked_133 : decode cX12_worked 133 = .ok (.goto 4, 3) := by decide +kernel
theorem dX12_worked_136 : decode cX12_worked 136 = .ok (.iconst 0, 1) := by decide +kernel
theorem dX12_worked_137 : decode cX12_worked 137 = .ok (.iastore, 1) := by decide +kernel
theorem dX12_worked_138 : decode cX12_worked 138 = .ok (.goto 274, 3) := by decide +kernel
theorem dX12_worked_141 : decode cX12_worked 141 = .ok (.iinc 4 (-1), 3) := by decide +kernel
theorem dX12_worked_144 : decode cX12_worked 144 = .ok (.aload_n 0, 1) := by decide +kernel
theorem dX12_worked_145 : decode cX12_worked 145 = .ok (.getfield 111, 3) := by decide +kernel
theorem dX12_worked_148 : decode cX12_worked 148 = .ok (.iload 4, 2) := by decide +kernel
theorem dX12_worked_150 : decode cX12_worked 150 = .ok (.iconst 1, 1) := by decide +kernel
theorem dX12_worked_151 : decode cX12_worked 151 = .ok (.isub, 1) := by decide +kernel
theorem dX12_worked_152 : decode cX12_worked 152 = .ok (.iaload, 1) := by decide +kernel
theorem dX12_worked_153 : decode cX12_worked 153 = .ok (.istore 7, 2) := by decide +kernel
theorem dX12_worked_155 : decode cX12_worked 155 = .ok (.aload_n 0, 1) := by decide +kernel
theorem dX12_worked_156 : decode cX12_worked 156 = .ok (.getfield 111, 3) := by decide +kernel
theorem dX12_worked_159 : decode cX12_worked 159 = .ok (.iload 4, 2) := by decide +kernel
theorem dX12_worked_161 : decode cX12_worked 161 = .ok (.iaload, 1) := by decide +kernel
theorem dX12_worked_162 : decode cX12_worked 162 = .ok (.istore 8, 2) := by decide +kernel
theorem dX12_worked_164 : decode cX12_worked 164 = .ok (.iload 6, 2) := by decide +kernel
theorem dX12_worked_166 : decode cX12_worked 166 = .ok (.tableswitch 223 41 48 #[46, 73, 100, 124, 148, 172, 189, 206], 46) := by decide +kernel
theorem dX12_worked_212 : decode cX12_worked 212 = .ok (.aload_n 0, 1) := by decide +kernel
theorem dX12_worked_213 : decode cX12_worked 213 = .ok (.getfield 111, 3) := by decide +kernel
theorem dX12_worked_216 : decode cX12_worked 216 = .ok (.iload 4, 2) := by decide +kernel
theorem dX12_worked_218 : decode cX12_worked 218 = .ok (.iconst 1, 1) := by decide +kernel
theorem dX12_worked_219 : decode cX12_worked 219 = .ok (.isub, 1) := by decide +kernel
theorem dX12_worked_220 : decode cX12_worked 220 = .ok (.iload 7, 2) := by decide +kernel
theorem dX12_worked_222 : decode cX12_worked 222 = .ok (.ifCond .ne 8, 3) := by decide +kernel
theorem dX12_worked_225 : decode cX12_worked 225 = .ok (.iload 8, 2) := by decide +kernel
theorem dX12_worked_227 : decode cX12_worked 227 = .ok (.ifCond .eq 7, 3) := by decide +kernel
theorem dX12_worked_230 : decode cX12_worked 230 = .ok (.iconst 1, 1) := by decide +kernel
theorem dX12_worked_231 : decode cX12_worked 231 = .ok (.goto 4, 3) := by decide +kernel
theorem dX12_worked_234 : decode cX12_worked 234 = .ok (.iconst 0, 1) := by decide +kernel
theorem dX12_worked_235 : decode cX12_worked 235 = .ok (.iastore, 1) := by decide +kernel
theorem dX12_worked_236 : decode cX12_worked 236 = .ok (.goto 176, 3) := by decide +kernel
theorem dX12_worked_239 : decode cX12_worked 239 = .ok (.aload_n 0, 1) := by decide +kernel
theorem dX12_worked_240 : decode cX12_worked 240 = .ok (.getfield 111, 3) := by decide +kernel
theorem dX12_worked_243 : decode cX12_worked 243 = .ok (.iload 4, 2) := by decide +kernel
theorem dX12_worked_245 : decode cX12_worked 245 = .ok (.iconst 1, 1) := by decide +kernel
theorem dX12_worked_246 : decode cX12_worked 246 = .ok (.isub, 1) := by decide +kernel
theorem dX12_worked_247 : decode cX12_worked 247 = .ok (.iload 7, 2) := by decide +kernel
theorem dX12_worked_249 : decode cX12_worked 249 = .ok (.ifCond .eq 12, 3) := by decide +kernel
theorem dX12_worked_252 : decode cX12_worked 252 = .ok (.iload 8, 2) := by decide +kernel
theorem dX12_worked_254 : decode cX12_worked 254 = .ok (.ifCond .eq 7, 3) := by decide +kernel
theorem dX12_worked_257 : decode cX12_worked 257 = .ok (.iconst 1, 1) := by decide +kernel
theorem dX12_worked_258 : decode cX12_worked 258 = .ok (.goto 4, 3) := by decide +kernel
theorem dX12_worked_261 : decode cX12_worked 261 = .ok (.iconst 0, 1) := by decide +kernel
theorem dX12_worked_262 : decode cX12_worked 262 = .ok (.iastore, 1) := by decide +kernel
theorem dX12_worked_263 : decode cX12_worked 263 = .ok (.goto 149, 3) := by decide +kernel
theorem dX12_worked_266 : decode cX12_worked 266 = .ok (.aload_n 0, 1) := by decide +kernel
theorem dX12_worked_267 : decode cX12_worked 267 = .ok (.getfield 111, 3) := by decide +kernel
theorem dX12_worked_270 : decode cX12_worked 270 = .ok (.iload 4, 2) := by decide +kernel
theorem dX12_worked_272 : decode cX12_worked 272 = .ok (.iconst 1, 1) := by decide +kernel
theorem dX12_worked_273 : decode cX12_worked 273 = .ok (.isub, 1) := by decide +kernel
theorem dX12_worked_274 : decode cX12_worked 274 = .ok (.iload 7, 2) := by decide +kernel
theorem dX12_worked_276 : decode cX12_worked 276 = .ok (.iload 8, 2) := by decide +kernel
theorem dX12_worked_278 : decode cX12_worked 278 = .ok (.if_icmp .ne 7, 3) := by decide +kernel
theorem dX12_worked_281 : decode cX12_worked 281 = .ok (.iconst 1, 1) := by decide +kernel
theorem dX12_worked_282 : decode cX12_worked 282 = .ok (.goto 4, 3) := by decide +kernel
theorem dX12_worked_285 : decode cX12_worked 285 = .ok (.iconst 0, 1) := by decide +kernel
theorem dX12_worked_286 : decode cX12_worked 286 = .ok (.iastore, 1) := by decide +kernel
theorem dX12_worked_287 : decode cX12_worked 287 = .ok (.goto 125, 3) := by decide +kernel
theorem dX12_worked_290 : decode cX12_worked 290 = .ok (.aload_n 0, 1) := by decide +kernel
theorem dX12_worked_291 : decode cX12_worked 291 = .ok (.getfield 111, 3) := by decide +kernel
theorem dX12_worked_294 : decode cX12_worked 294 = .ok (.iload 4, 2) := by decide +kernel
theorem dX12_worked_296 : decode cX12_worked 296 = .ok (.iconst 1, 1) := by decide +kernel
theorem dX12_worked_297 : decode cX12_worked 297 = .ok (.isub, 1) := by decide +kernel
theorem dX12_worked_298 : decode cX12_worked 298 = .ok (.iload 7, 2) := by decide +kernel
theorem dX12_worked_300 : decode cX12_worked 300 = .ok (.iload 8, 2) := by decide +kernel
theorem dX12_worked_302 : decode cX12_worked 302 = .ok (.if_icmp .ge 7, 3) := by decide +kernel
theorem dX12_worked_305 : decode cX12_worked 305 = .ok (.iconst 1, 1) := by decide +kernel
theorem dX12_worked_306 : decode cX12_worked 306 = .ok (.goto 4, 3) := by decide +kernel
theorem dX12_worked_309 : decode cX12_worked 309 = .ok (.iconst 0, 1) := by decide +kernel
theorem dX12_worked_310 : decode cX12_worked 310 = .ok (.iastore, 1) := by decide +kernel
theorem dX12_worked_311 : decode cX12_worked 311 = .ok (.goto 101, 3) := by decide +kernel
theorem dX12_worked_314 : decode cX12_worked 314 = .ok (.aload_n 0, 1) := by decide +kernel
theorem dX12_worked_315 : decode cX12_worked 315 = .ok (.getfield 111, 3) := by decide +kernel
theorem dX12_worked_318 : decode cX12_worked 318 = .ok (.iload 4, 2) := by decide +kernel
theorem dX12_worked_320 : decode cX12_worked 320 = .ok (.iconst 1, 1) := by decide +kernel
theorem dX12_worked_321 : decode cX12_worked 321 = .ok (.isub, 1) := by decide +kernel
theorem dX12_worked_322 : decode cX12_worked 322 = .ok (.iload 7, 2) := by decide +kernel
theorem dX12_worked_324 : decode cX12_worked 324 = .ok (.iload 8, 2) := by decide +kernel
theorem dX12_worked_326 : decode cX12_worked 326 = .ok (.if_icmp .le 7, 3) := by decide +kernel
theorem dX12_worked_329 : decode cX12_worked 329 = .ok (.iconst 1, 1) := by decide +kernel
theorem dX12_worked_330 : decode cX12_worked 330 = .ok (.goto 4, 3) := by decide +kernel
theorem dX12_worked_333 : decode cX12_worked 333 = .ok (.iconst 0, 1) := by decide +kernel
theorem dX12_worked_334 : decode cX12_worked 334 = .ok (.iastore, 1) := by decide +kernel
theorem dX12_worked_335 : decode cX12_worked 335 = .ok (.goto 77, 3) := by decide +kernel
theorem dX12_worked_338 : decode cX12_worked 338 = .ok (.aload_n 0, 1) := by decide +kernel
theorem dX12_worked_339 : decode cX12_worked 339 = .ok (.getfield 111, 3) := by decide +kernel
theorem dX12_worked_342 : decode cX12_worked 342 = .ok (.iload 4, 2) := by decide +kernel
theorem dX12_worked_344 : decode cX12_worked 344 = .ok (.iconst 1, 1) := by decide +kernel
theorem dX12_worked_345 : decode cX12_worked 345 = .ok (.isub, 1) := by decide +kernel
theorem dX12_worked_346 : decode cX12_worked 346 = .ok (.iload 7, 2) := by decide +kernel
theorem dX12_worked_348 : decode cX12_worked 348 = .ok (.iload 8, 2) := by decide +kernel
theorem dX12_worked_350 : decode cX12_worked 350 = .ok (.iadd, 1) := by decide +kernel
theorem dX12_worked_351 : decode cX12_worked 351 = .ok (.iastore, 1) := by decide +kernel
theorem dX12_worked_352 : decode cX12_worked 352 = .ok (.goto 60, 3) := by decide +kernel
theorem dX12_worked_355 : decode cX12_worked 355 = .ok (.aload_n 0, 1) := by decide +kernel
theorem dX12_worked_356 : decode cX12_worked 356 = .ok (.getfield 111, 3) := by decide +kernel
theorem dX12_worked_359 : decode cX12_worked 359 = .ok (.iload 4, 2) := by decide +kernel
theorem dX12_worked_361 : decode cX12_worked 361 = .ok (.iconst 1, 1) := by decide +kernel
theorem dX12_worked_362 : decode cX12_worked 362 = .ok (.isub, 1) := by decide +kernel
theorem dX12_worked_363 : decode cX12_worked 363 = .ok (.iload 7, 2) := by decide +kernel
theorem dX12_worked_365 : decode cX12_worked 365 = .ok (.iload 8, 2) := by decide +kernel
theorem dX12_worked_367 : decode cX12_worked 367 = .ok (.isub, 1) := by decide +kernel
theorem dX12_worked_368 : decode cX12_worked 368 = .ok (.iastore, 1) := by decide +kernel
theorem dX12_worked_369 : decode cX12_worked 369 = .ok (.goto 43, 3) := by decide +kernel
theorem dX12_worked_372 : decode cX12_worked 372 = .ok (.aload_n 0, 1) := by decide +kernel
theorem dX12_worked_373 : decode cX12_worked 373 = .ok (.getfield 111, 3) := by decide +kernel
theorem dX12_worked_376 : decode cX12_worked 376 = .ok (.iload 4, 2) := by decide +kernel
theorem dX12_worked_378 : decode cX12_worked 378 = .ok (.iconst 1, 1) := by decide +kernel
theorem dX12_worked_379 : decode cX12_worked 379 = .ok (.isub, 1) := by decide +kernel
theorem dX12_worked_380 : decode cX12_worked 380 = .ok (.iload 7, 2) := by decide +kernel
theorem dX12_worked_382 : decode cX12_worked 382 = .ok (.iload 8, 2) := by decide +kernel
theorem dX12_worked_384 : decode cX12_worked 384 = .ok (.imul, 1) := by decide +kernel
theorem dX12_worked_385 : decode cX12_worked 385 = .ok (.iastore, 1) := by decide +kernel
theorem dX12_worked_386 : decode cX12_worked 386 = .ok (.goto 26, 3) := by decide +kernel
theorem dX12_worked_389 : decode cX12_worked 389 = .ok (.aload_n 0, 1) := by decide +kernel
theorem dX12_worked_390 : decode cX12_worked 390 = .ok (.getfield 111, 3) := by decide +kernel
theorem dX12_worked_393 : decode cX12_worked 393 = .ok (.iload 4, 2) := by decide +kernel
theorem dX12_worked_395 : decode cX12_worked 395 = .ok (.iconst 1, 1) := by decide +kernel
theorem dX12_worked_396 : decode cX12_worked 396 = .ok (.isub, 1) := by decide +kernel
theorem dX12_worked_397 : decode cX12_worked 397 = .ok (.iload 8, 2) := by decide +kernel
theorem dX12_worked_399 : decode cX12_worked 399 = .ok (.ifCond .ne 7, 3) := by decide +kernel
theorem dX12_worked_402 : decode cX12_worked 402 = .ok (.iconst 0, 1) := by decide +kernel
theorem dX12_worked_403 : decode cX12_worked 403 = .ok (.goto 8, 3) := by decide +kernel
theorem dX12_worked_406 : decode cX12_worked 406 = .ok (.iload 7, 2) := by decide +kernel
theorem dX12_worked_408 : decode cX12_worked 408 = .ok (.iload 8, 2) := by decide +kernel
theorem dX12_worked_410 : decode cX12_worked 410 = .ok (.idiv, 1) := by decide +kernel
theorem dX12_worked_411 : decode cX12_worked 411 = .ok (.iastore, 1) := by decide +kernel
theorem dX12_worked_412 : decode cX12_worked 412 = .ok (.iinc 5 1, 3) := by decide +kernel
theorem dX12_worked_415 : decode cX12_worked 415 = .ok (.goto (-403), 3) := by decide +kernel
theorem dX12_worked_418 : decode cX12_worked 418 = .ok (.aload_n 0, 1) := by decide +kernel
theorem dX12_worked_419 : decode cX12_worked 419 = .ok (.getfield 111, 3) := by decide +kernel
theorem dX12_worked_422 : decode cX12_worked 422 = .ok (.iconst 0, 1) := by decide +kernel
theorem dX12_worked_423 : decode cX12_worked 423 = .ok (.iaload, 1) := by decide +kernel
theorem dX12_worked_424 : decode cX12_worked 424 = .ok (.ireturn, 1) := by decide +kernel
theorem dX12_price_0 : decode cX12_price 0 = .ok (.aload_n 0, 1) := by decide +kernel
theorem dX12_price_1 : decode cX12_price 1 = .ok (.iload_n 1, 1) := by decide +kernel
theorem dX12_price_2 : decode cX12_price 2 = .ok (.invokevirtual 166, 3) := by decide +kernel
theorem dX12_price_5 : decode cX12_price 5 = .ok (.ifCond .eq 14, 3) := by decide +kernel
theorem dX12_price_8 : decode cX12_price 8 = .ok (.iload_n 2, 1) := by decide +kernel
theorem dX12_price_9 : decode cX12_price 9 = .ok (.ifCond .lt 10, 3) := by decide +kernel
theorem dX12_price_12 : decode cX12_price 12 = .ok (.iload_n 2, 1) := by decide +kernel
theorem dX12_price_13 : decode cX12_price 13 = .ok (.sipush 1000, 3) := by decide +kernel
theorem dX12_price_16 : decode cX12_price 16 = .ok (.if_icmp .le 5, 3) := by decide +kernel
theorem dX12_price_19 : decode cX12_price 19 = .ok (.iconst 0, 1) := by decide +kernel
theorem dX12_price_20 : decode cX12_price 20 = .ok (.ireturn, 1) := by decide +kernel
theorem dX12_price_21 : decode cX12_price 21 = .ok (.aload_n 0, 1) := by decide +kernel
theorem dX12_price_22 : decode cX12_price 22 = .ok (.getfield 114, 3) := by decide +kernel
theorem dX12_price_25 : decode cX12_price 25 = .ok (.iconst 0, 1) := by decide +kernel
theorem dX12_price_26 : decode cX12_price 26 = .ok (.aload_n 0, 1) := by decide +kernel
theorem dX12_price_27 : decode cX12_price 27 = .ok (.getfield 39, 3) := by decide +kernel
theorem dX12_price_30 : decode cX12_price 30 = .ok (.iload_n 1, 1) := by decide +kernel
theorem dX12_price_31 : decode cX12_price 31 = .ok (.iaload, 1) := by decide +kernel
theorem dX12_price_32 : decode cX12_price 32 = .ok (.iastore, 1) := by decide +kernel
theorem dX12_price_33 : decode cX12_price 33 = .ok (.aload_n 0, 1) := by decide +kernel
theorem dX12_price_34 : decode cX12_price 34 = .ok (.getfield 114, 3) := by decide +kernel
theorem dX12_price_37 : decode cX12_price 37 = .ok (.iconst 1, 1) := by decide +kernel
theorem dX12_price_38 : decode cX12_price 38 = .ok (.aload_n 0, 1) := by decide +kernel
theorem dX12_price_39 : decode cX12_price 39 = .ok (.iload_n 1, 1) := by decide +kernel
theorem dX12_price_40 : decode cX12_price 40 = .ok (.invokevirtual 175, 3) := by decide +kernel
theorem dX12_price_43 : decode cX12_price 43 = .ok (.iastore, 1) := by decide +kernel
theorem dX12_price_44 : decode cX12_price 44 = .ok (.aload_n 0, 1) := by decide +kernel
theorem dX12_price_45 : decode cX12_price 45 = .ok (.getfield 114, 3) := by decide +kernel
theorem dX12_price_48 : decode cX12_price 48 = .ok (.iconst 2, 1) := by decide +kernel
theorem dX12_price_49 : decode cX12_price 49 = .ok (.aload_n 0, 1) := by decide +kernel
theorem dX12_price_50 : decode cX12_price 50 = .ok (.getfield 51, 3) := by decide +kernel
theorem dX12_price_53 : decode cX12_price 53 = .ok (.iload_n 1, 1) := by decide +kernel
theorem dX12_price_54 : decode cX12_price 54 = .ok (.iaload, 1) := by decide +kernel
theorem dX12_price_55 : decode cX12_price 55 = .ok (.iastore, 1) := by decide +kernel
theorem dX12_price_56 : decode cX12_price 56 = .ok (.aload_n 0, 1) := by decide +kernel
theorem dX12_price_57 : decode cX12_price 57 = .ok (.getfield 114, 3) := by decide +kernel
theorem dX12_price_60 : decode cX12_price 60 = .ok (.iconst 3, 1) := by decide +kernel
theorem dX12_price_61 : decode cX12_price 61 = .ok (.aload_n 0, 1) := by decide +kernel
theorem dX12_price_62 : decode cX12_price 62 = .ok (.getfield 48, 3) := by decide +kernel
theorem dX12_price_65 : decode cX12_price 65 = .ok (.iload_n 1, 1) := by decide +kernel
theorem dX12_price_66 : decode cX12_price 66 = .ok (.iaload, 1) := by decide +kernel
theorem dX12_price_67 : decode cX12_price 67 = .ok (.iastore, 1) := by decide +kernel
theorem dX12_price_68 : decode cX12_price 68 = .ok (.aload_n 0, 1) := by decide +kernel
theorem dX12_price_69 : decode cX12_price 69 = .ok (.getfield 114, 3) := by decide +kernel
theorem dX12_price_72 : decode cX12_price 72 = .ok (.iconst 4, 1) := by decide +kernel
theorem dX12_price_73 : decode cX12_price 73 = .ok (.aload_n 0, 1) := by decide +kernel
theorem dX12_price_74 : decode cX12_price 74 = .ok (.getfield 54, 3) := by decide +kernel
theorem dX12_price_77 : decode cX12_price 77 = .ok (.iload_n 1, 1) := by decide +kernel
theorem dX12_price_78 : decode cX12_price 78 = .ok (.iaload, 1) := by decide +kernel
theorem dX12_price_79 : decode cX12_price 79 = .ok (.iastore, 1) := by decide +kernel
theorem dX12_price_80 : decode cX12_price 80 = .ok (.aload_n 0, 1) := by decide +kernel
theorem dX12_price_81 : decode cX12_price 81 = .ok (.getfield 114, 3) := by decide +kernel
theorem dX12_price_84 : decode cX12_price 84 = .ok (.iconst 5, 1) := by decide +kernel
theorem dX12_price_85 : decode cX12_price 85 = .ok (.iload_n 2, 1) := by decide +kernel
theorem dX12_price_86 : decode cX12_price 86 = .ok (.iastore, 1) := by decide +kernel
theorem dX12_price_87 : decode cX12_price 87 = .ok (.iconst 0, 1) := by decide +kernel
theorem dX12_price_88 : decode cX12_price 88 = .ok (.istore_n 3, 1) := by decide +kernel
theorem dX12_price_89 : decode cX12_price 89 = .ok (.iload_n 3, 1) := by decide +kernel
theorem dX12_price_90 : decode cX12_price 90 = .ok (.aload_n 0, 1) := by decide +kernel
theorem dX12_price_91 : decode cX12_price 91 = .ok (.getfield 72, 3) := by decide +kernel
theorem dX12_price_94 : decode cX12_price 94 = .ok (.iload_n 1, 1) := by decide +kernel
theorem dX12_price_95 : decode cX12_price 95 = .ok (.iaload, 1) := by decide +kernel
theorem dX12_price_96 : decode cX12_price 96 = .ok (.if_icmp .ge 83, 3) := by decide +kernel
theorem dX12_price_99 : decode cX12_price 99 = .ok (.aload_n 0, 1) := by decide +kernel
theorem dX12_price_100 : decode cX12_price 100 = .ok (.getfield 69, 3) := by decide +kernel
theorem dX12_price_103 : decode cX12_price 103 = .ok (.bipush 22, 2) := by decide +kernel
theorem dX12_price_105 : decode cX12_price 105 = .ok (.iload_n 1, 1) := by decide +kernel
theorem dX12_price_106 : decode cX12_price 106 = .ok (.imul, 1) := by decide +kernel
theorem dX12_price_107 : decode cX12_price 107 = .ok (.iconst 2, 1) := by decide +kernel
theorem dX12_price_108 : decode cX12_price 108 = .ok (.iload_n 3, 1) := by decide +kernel
theorem dX12_price_109 : decode cX12_price 109 = .ok (.imul, 1) := by decide +kernel
theorem dX12_price_110 : decode cX12_price 110 = .ok (.iadd, 1) := by decide +kernel
theorem dX12_price_111 : decode cX12_price 111 = .ok (.iaload, 1) := by decide +kernel
theorem dX12_price_112 : decode cX12_price 112 = .ok (.istore 4, 2) := by decide +kernel
theorem dX12_price_114 : decode cX12_price 114 = .ok (.aload_n 0, 1) := by decide +kernel
theorem dX12_price_115 : decode cX12_price 115 = .ok (.getfield 69, 3) := by decide +kernel
theorem dX12_price_118 : decode cX12_price 118 = .ok (.bipush 22, 2) := by decide +kernel
theorem dX12_price_120 : decode cX12_price 120 = .ok (.iload_n 1, 1) := by decide +kernel
theorem dX12_price_121 : decode cX12_price 121 = .ok (.imul, 1) := by decide +kernel
theorem dX12_price_122 : decode cX12_price 122 = .ok (.iconst 2, 1) := by decide +kernel
theorem dX12_price_123 : decode cX12_price 123 = .ok (.iload_n 3, 1) := by decide +kernel
theorem dX12_price_124 : decode cX12_price 124 = .ok (.imul, 1) := by decide +kernel
theorem dX12_price_125 : decode cX12_price 125 = .ok (.iadd, 1) := by decide +kernel
theorem dX12_price_126 : decode cX12_price 126 = .ok (.iconst 1, 1) := by decide +kernel
theorem dX12_price_127 : decode cX12_price 127 = .ok (.iadd, 1) := by decide +kernel
theorem dX12_price_128 : decode cX12_price 128 = .ok (.iaload, 1) := by decide +kernel
theorem dX12_price_129 : decode cX12_price 129 = .ok (.istore 5, 2) := by decide +kernel
theorem dX12_price_131 : decode cX12_price 131 = .ok (.iload 4, 2) := by decide +kernel
theorem dX12_price_133 : decode cX12_price 133 = .ok (.iload 5, 2) := by decide +kernel
theorem dX12_price_135 : decode cX12_price 135 = .ok (.if_icmp .eq 15, 3) := by decide +kernel
theorem dX12_price_138 : decode cX12_price 138 = .ok (.aload_n 0, 1) := by decide +kernel
theorem dX12_price_139 : decode cX12_price 139 = .ok (.iload_n 1, 1) := by decide +kernel
theorem dX12_price_140 : decode cX12_price 140 = .ok (.iload 4, 2) := by decide +kernel
theorem dX12_price_142 : decode cX12_price 142 = .ok (.iload 5, 2) := by decide +kernel
theorem dX12_price_144 : decode cX12_price 144 = .ok (.invokevirtual 333, 3) := by decide +kernel
theorem dX12_price_147 : decode cX12_price 147 = .ok (.ifCond .eq 26, 3) := by decide +kernel
theorem dX12_price_150 : decode cX12_price 150 = .ok (.aload_n 0, 1) := by decide +kernel
theorem dX12_price_151 : decode cX12_price 151 = .ok (.iload_n 1, 1) := by decide +kernel
theorem dX12_price_152 : decode cX12_price 152 = .ok (.iload 5, 2) := by decide +kernel
theorem dX12_price_154 : decode cX12_price 154 = .ok (.aload_n 0, 1) := by decide +kernel
theorem dX12_price_155 : decode cX12_price 155 = .ok (.getfield 69, 3) := by decide +kernel
theorem dX12_price_158 : decode cX12_price 158 = .ok (.bipush 22, 2) := by decide +kernel
theorem dX12_price_160 : decode cX12_price 160 = .ok (.iload_n 1, 1) := by decide +kernel
theorem dX12_price_161 : decode cX12_price 161 = .ok (.imul, 1) := by decide +kernel
theorem dX12_price_162 : decode cX12_price 162 = .ok (.iconst 2, 1) := by decide +kernel
theorem dX12_price_163 : decode cX12_price 163 = .ok (.iload_n 3, 1) := by decide +kernel
theorem dX12_price_164 : decode cX12_price 164 = .ok (.imul, 1) := by decide +kernel
theorem dX12_price_165 : decode cX12_price 165 = .ok (.iadd, 1) := by decide +kernel
theorem dX12_price_166 : decode cX12_price 166 = .ok (.iconst 2, 1) := by decide +kernel
theorem dX12_price_167 : decode cX12_price 167 = .ok (.iadd, 1) := by decide +kernel
theorem dX12_price_168 : decode cX12_price 168 = .ok (.iaload, 1) := by decide +kernel
theorem dX12_price_169 : decode cX12_price 169 = .ok (.invokevirtual 333, 3) := by decide +kernel
theorem dX12_price_172 : decode cX12_price 172 = .ok (.ireturn, 1) := by decide +kernel
theorem dX12_price_173 : decode cX12_price 173 = .ok (.iinc 3 1, 3) := by decide +kernel
theorem dX12_price_176 : decode cX12_price 176 = .ok (.goto (-87), 3) := by decide +kernel
theorem dX12_price_179 : decode cX12_price 179 = .ok (.iconst 0, 1) := by decide +kernel
theorem dX12_price_180 : decode cX12_price 180 = .ok (.ireturn, 1) := by decide +kernel
theorem dX12_broken_0 : decode cX12_broken 0 = .ok (.aload_n 0, 1) := by decide +kernel
theorem dX12_broken_1 : decode cX12_broken 1 = .ok (.getfield 337, 3) := by decide +kernel
theorem dX12_broken_4 : decode cX12_broken 4 = .ok (.bipush 40, 2) := by decide +kernel
theorem dX12_broken_6 : decode cX12_broken 6 = .ok (.if_icmp .eq 48, 3) := by decide +kernel
theorem dX12_broken_9 : decode cX12_broken 9 = .ok (.iload_n 1, 1) := by decide +kernel
theorem dX12_broken_10 : decode cX12_broken 10 = .ok (.ifCond .lt 44, 3) := by decide +kernel
theorem dX12_broken_13 : decode cX12_broken 13 = .ok (.iload_n 1, 1) := by decide +kernel
theorem dX12_broken_14 : decode cX12_broken 14 = .ok (.iconst 5, 1) := by decide +kernel
theorem dX12_broken_15 : decode cX12_broken 15 = .ok (.if_icmp .gt 39, 3) := by decide +kernel
theorem dX12_broken_18 : decode cX12_broken 18 = .ok (.iload_n 2, 1) := by decide +kernel
theorem dX12_broken_19 : decode cX12_broken 19 = .ok (.ifCond .lt 35, 3) := by decide +kernel
theorem dX12_broken_22 : decode cX12_broken 22 = .ok (.iload_n 2, 1) := by decide +kernel
theorem dX12_broken_23 : decode cX12_broken 23 = .ok (.sipush 2000, 3) := by decide +kernel
theorem dX12_broken_26 : decode cX12_broken 26 = .ok (.if_icmp .gt 28, 3) := by decide +kernel
theorem dX12_broken_29 : decode cX12_broken 29 = .ok (.iload_n 3, 1) := by decide +kernel
theorem dX12_broken_30 : decode cX12_broken 30 = .ok (.iload_n 2, 1) := by decide +kernel
theorem dX12_broken_31 : decode cX12_broken 31 = .ok (.if_icmp .le 23, 3) := by decide +kernel
theorem dX12_broken_34 : decode cX12_broken 34 = .ok (.iload_n 3, 1) := by decide +kernel
theorem dX12_broken_35 : decode cX12_broken 35 = .ok (.sipush 3000, 3) := by decide +kernel
theorem dX12_broken_38 : decode cX12_broken 38 = .ok (.if_icmp .gt 16, 3) := by decide +kernel
theorem dX12_broken_41 : decode cX12_broken 41 = .ok (.iload 4, 2) := by decide +kernel
theorem dX12_broken_43 : decode cX12_broken 43 = .ok (.ifCond .lt 11, 3) := by decide +kernel
theorem dX12_broken_46 : decode cX12_broken 46 = .ok (.iload 4, 2) := by decide +kernel
theorem dX12_broken_48 : decode cX12_broken 48 = .ok (.sipush 5000, 3) := by decide +kernel
theorem dX12_broken_51 : decode cX12_broken 51 = .ok (.if_icmp .le 5, 3) := by decide +kernel
theorem dX12_broken_54 : decode cX12_broken 54 = .ok (.iconst (-1), 1) := by decide +kernel
theorem dX12_broken_55 : decode cX12_broken 55 = .ok (.ireturn, 1) := by decide +kernel
theorem dX12_broken_56 : decode cX12_broken 56 = .ok (.aload_n 0, 1) := by decide +kernel
theorem dX12_broken_57 : decode cX12_broken 57 = .ok (.getfield 117, 3) := by decide +kernel
theorem dX12_broken_60 : decode cX12_broken 60 = .ok (.aload_n 0, 1) := by decide +kernel
theorem dX12_broken_61 : decode cX12_broken 61 = .ok (.getfield 337, 3) := by decide +kernel
theorem dX12_broken_64 : decode cX12_broken 64 = .ok (.iload_n 1, 1) := by decide +kernel
theorem dX12_broken_65 : decode cX12_broken 65 = .ok (.iastore, 1) := by decide +kernel
theorem dX12_broken_66 : decode cX12_broken 66 = .ok (.aload_n 0, 1) := by decide +kernel
theorem dX12_broken_67 : decode cX12_broken 67 = .ok (.getfield 120, 3) := by decide +kernel
theorem dX12_broken_70 : decode cX12_broken 70 = .ok (.aload_n 0, 1) := by decide +kernel
theorem dX12_broken_71 : decode cX12_broken 71 = .ok (.getfield 337, 3) := by decide +kernel
theorem dX12_broken_74 : decode cX12_broken 74 = .ok (.iload_n 2, 1) := by decide +kernel
theorem dX12_broken_75 : decode cX12_broken 75 = .ok (.iastore, 1) := by decide +kernel
theorem dX12_broken_76 : decode cX12_broken 76 = .ok (.aload_n 0, 1) := by decide +kernel
theorem dX12_broken_77 : decode cX12_broken 77 = .ok (.getfield 123, 3) := by decide +kernel
theorem dX12_broken_80 : decode cX12_broken 80 = .ok (.aload_n 0, 1) := by decide +kernel
theorem dX12_broken_81 : decode cX12_broken 81 = .ok (.getfield 337, 3) := by decide +kernel
theorem dX12_broken_84 : decode cX12_broken 84 = .ok (.iload_n 3, 1) := by decide +kernel
theorem dX12_broken_85 : decode cX12_broken 85 = .ok (.iastore, 1) := by decide +kernel
theorem dX12_broken_86 : decode cX12_broken 86 = .ok (.aload_n 0, 1) := by decide +kernel
theorem dX12_broken_87 : decode cX12_broken 87 = .ok (.getfield 126, 3) := by decide +kernel
theorem dX12_broken_90 : decode cX12_broken 90 = .ok (.aload_n 0, 1) := by decide +kernel
theorem dX12_broken_91 : decode cX12_broken 91 = .ok (.getfield 337, 3) := by decide +kernel
theorem dX12_broken_94 : decode cX12_broken 94 = .ok (.iload 4, 2) := by decide +kernel
theorem dX12_broken_96 : decode cX12_broken 96 = .ok (.iastore, 1) := by decide +kernel
theorem dX12_broken_97 : decode cX12_broken 97 = .ok (.aload_n 0, 1) := by decide +kernel
theorem dX12_broken_98 : decode cX12_broken 98 = .ok (.getfield 129, 3) := by decide +kernel
theorem dX12_broken_101 : decode cX12_broken 101 = .ok (.aload_n 0, 1) := by decide +kernel
theorem dX12_broken_102 : decode cX12_broken 102 = .ok (.getfield 337, 3) := by decide +kernel
theorem dX12_broken_105 : decode cX12_broken 105 = .ok (.iconst (-1), 1) := by decide +kernel
theorem dX12_broken_106 : decode cX12_broken 106 = .ok (.iastore, 1) := by decide +kernel
theorem dX12_broken_107 : decode cX12_broken 107 = .ok (.aload_n 0, 1) := by decide +kernel
theorem dX12_broken_108 : decode cX12_broken 108 = .ok (.dup, 1) := by decide +kernel
theorem dX12_broken_109 : decode cX12_broken 109 = .ok (.getfield 337, 3) := by decide +kernel
theorem dX12_broken_112 : decode cX12_broken 112 = .ok (.iconst 1, 1) := by decide +kernel
theorem dX12_broken_113 : decode cX12_broken 113 = .ok (.iadd, 1) := by decide +kernel
theorem dX12_broken_114 : decode cX12_broken 114 = .ok (.putfield 337, 3) := by decide +kernel
theorem dX12_broken_117 : decode cX12_broken 117 = .ok (.aload_n 0, 1) := by decide +kernel
theorem dX12_broken_118 : decode cX12_broken 118 = .ok (.getfield 337, 3) := by decide +kernel
theorem dX12_broken_121 : decode cX12_broken 121 = .ok (.iconst 1, 1) := by decide +kernel
theorem dX12_broken_122 : decode cX12_broken 122 = .ok (.isub, 1) := by decide +kernel
theorem dX12_broken_123 : decode cX12_broken 123 = .ok (.ireturn, 1) := by decide +kernel
theorem dX12_untell_0 : decode cX12_untell 0 = .ok (.iload_n 1, 1) := by decide +kernel
theorem dX12_untell_1 : decode cX12_untell 1 = .ok (.ifCond .lt 37, 3) := by decide +kernel
theorem dX12_untell_4 : decode cX12_untell 4 = .ok (.iload_n 1, 1) := by decide +kernel
theorem dX12_untell_5 : decode cX12_untell 5 = .ok (.aload_n 0, 1) := by decide +kernel
theorem dX12_untell_6 : decode cX12_untell 6 = .ok (.getfield 337, 3) := by decide +kernel
theorem dX12_untell_9 : decode cX12_untell 9 = .ok (.if_icmp .ge 29, 3) := by decide +kernel
theorem dX12_untell_12 : decode cX12_untell 12 = .ok (.aload_n 0, 1) := by decide +kernel
theorem dX12_untell_13 : decode cX12_untell 13 = .ok (.getfield 129, 3) := by decide +kernel
theorem dX12_untell_16 : decode cX12_untell 16 = .ok (.iload_n 1, 1) := by decide +kernel
theorem dX12_untell_17 : decode cX12_untell 17 = .ok (.iaload, 1) := by decide +kernel
theorem dX12_untell_18 : decode cX12_untell 18 = .ok (.ifCond .ge 20, 3) := by decide +kernel
theorem dX12_untell_21 : decode cX12_untell 21 = .ok (.iload_n 2, 1) := by decide +kernel
theorem dX12_untell_22 : decode cX12_untell 22 = .ok (.aload_n 0, 1) := by decide +kernel
theorem dX12_untell_23 : decode cX12_untell 23 = .ok (.getfield 126, 3) := by decide +kernel
theorem dX12_untell_26 : decode cX12_untell 26 = .ok (.iload_n 1, 1) := by decide +kernel
theorem dX12_untell_27 : decode cX12_untell 27 = .ok (.iaload, 1) := by decide +kernel
theorem dX12_untell_28 : decode cX12_untell 28 = .ok (.if_icmp .lt 10, 3) := by decide +kernel
theorem dX12_untell_31 : decode cX12_untell 31 = .ok (.iload_n 2, 1) := by decide +kernel
theorem dX12_untell_32 : decode cX12_untell 32 = .ok (.sipush 5000, 3) := by decide +kernel
theorem dX12_untell_35 : decode cX12_untell 35 = .ok (.if_icmp .le 5, 3) := by decide +kernel
theorem dX12_untell_38 : decode cX12_untell 38 = .ok (.iconst 0, 1) := by decide +kernel
theorem dX12_untell_39 : decode cX12_untell 39 = .ok (.ireturn, 1) := by decide +kernel
theorem dX12_untell_40 : decode cX12_untell 40 = .ok (.aload_n 0, 1) := by decide +kernel
theorem dX12_untell_41 : decode cX12_untell 41 = .ok (.getfield 129, 3) := by decide +kernel
theorem dX12_untell_44 : decode cX12_untell 44 = .ok (.iload_n 1, 1) := by decide +kernel
theorem dX12_untell_45 : decode cX12_untell 45 = .ok (.iload_n 2, 1) := by decide +kernel
theorem dX12_untell_46 : decode cX12_untell 46 = .ok (.iastore, 1) := by decide +kernel
theorem dX12_untell_47 : decode cX12_untell 47 = .ok (.iconst 1, 1) := by decide +kernel
theorem dX12_untell_48 : decode cX12_untell 48 = .ok (.ireturn, 1) := by decide +kernel
theorem dX12_isWhole_0 : decode cX12_isWhole 0 = .ok (.iconst 1, 1) := by decide +kernel
theorem dX12_isWhole_1 : decode cX12_isWhole 1 = .ok (.istore 4, 2) := by decide +kernel
theorem dX12_isWhole_3 : decode cX12_isWhole 3 = .ok (.iconst 0, 1) := by decide +kernel
theorem dX12_isWhole_4 : decode cX12_isWhole 4 = .ok (.istore 5, 2) := by decide +kernel
theorem dX12_isWhole_6 : decode cX12_isWhole 6 = .ok (.iload 5, 2) := by decide +kernel
theorem dX12_isWhole_8 : decode cX12_isWhole 8 = .ok (.aload_n 0, 1) := by decide +kernel
theorem dX12_isWhole_9 : decode cX12_isWhole 9 = .ok (.getfield 337, 3) := by decide +kernel
theorem dX12_isWhole_12 : decode cX12_isWhole 12 = .ok (.if_icmp .ge 86, 3) := by decide +kernel
theorem dX12_isWhole_15 : decode cX12_isWhole 15 = .ok (.iload 4, 2) := by decide +kernel
theorem dX12_isWhole_17 : decode cX12_isWhole 17 = .ok (.ifCond .eq 81, 3) := by decide +kernel
theorem dX12_isWhole_20 : decode cX12_isWhole 20 = .ok (.aload_n 0, 1) := by decide +kernel
theorem dX12_isWhole_21 : decode cX12_isWhole 21 = .ok (.getfield 117, 3) := by decide +kernel
theorem dX12_isWhole_24 : decode cX12_isWhole 24 = .ok (.iload 5, 2) := by decide +kernel
theorem dX12_isWhole_26 : decode cX12_isWhole 26 = .ok (.iaload, 1) := by decide +kernel
theorem dX12_isWhole_27 : decode cX12_isWhole 27 = .ok (.iload_n 1, 1) := by decide +kernel
theorem dX12_isWhole_28 : decode cX12_isWhole 28 = .ok (.if_icmp .ne 57, 3) := by decide +kernel
theorem dX12_isWhole_31 : decode cX12_isWhole 31 = .ok (.aload_n 0, 1) := by decide +kernel
theorem dX12_isWhole_32 : decode cX12_isWhole 32 = .ok (.getfield 126, 3) := by decide +kernel
theorem dX12_isWhole_35 : decode cX12_isWhole 35 = .ok (.iload 5, 2) := by decide +kernel
theorem dX12_isWhole_37 : decode cX12_isWhole 37 = .ok (.iaload, 1) := by decide +kernel
theorem dX12_isWhole_38 : decode cX12_isWhole 38 = .ok (.iload_n 3, 1) := by decide +kernel
theorem dX12_isWhole_39 : decode cX12_isWhole 39 = .ok (.if_icmp .gt 46, 3) := by decide +kernel
theorem dX12_isWhole_42 : decode cX12_isWhole 42 = .ok (.aload_n 0, 1) := by decide +kernel
theorem dX12_isWhole_43 : decode cX12_isWhole 43 = .ok (.getfield 129, 3) := by decide +kernel
theorem dX12_isWhole_46 : decode cX12_isWhole 46 = .ok (.iload 5, 2) := by decide +kernel
theorem dX12_isWhole_48 : decode cX12_isWhole 48 = .ok (.iaload, 1) := by decide +kernel
theorem dX12_isWhole_49 : decode cX12_isWhole 49 = .ok (.ifCond .lt 14, 3) := by decide +kernel
theorem dX12_isWhole_52 : decode cX12_isWhole 52 = .ok (.aload_n 0, 1) := by decide +kernel
theorem dX12_isWhole_53 : decode cX12_isWhole 53 = .ok (.getfield 129, 3) := by decide +kernel
theorem dX12_isWhole_56 : decode cX12_isWhole 56 = .ok (.iload 5, 2) := by decide +kernel
theorem dX12_isWhole_58 : decode cX12_isWhole 58 = .ok (.iaload, 1) := by decide +kernel
theorem dX12_isWhole_59 : decode cX12_isWhole 59 = .ok (.iload_n 3, 1) := by decide +kernel
theorem dX12_isWhole_60 : decode cX12_isWhole 60 = .ok (.if_icmp .le 25, 3) := by decide +kernel
theorem dX12_isWhole_63 : decode cX12_isWhole 63 = .ok (.iload_n 2, 1) := by decide +kernel
theorem dX12_isWhole_64 : decode cX12_isWhole 64 = .ok (.aload_n 0, 1) := by decide +kernel
theorem dX12_isWhole_65 : decode cX12_isWhole 65 = .ok (.getfield 120, 3) := by decide +kernel
theorem dX12_isWhole_68 : decode cX12_isWhole 68 = .ok (.iload 5, 2) := by decide +kernel
theorem dX12_isWhole_70 : decode cX12_isWhole 70 = .ok (.iaload, 1) := by decide +kernel
theorem dX12_isWhole_71 : decode cX12_isWhole 71 = .ok (.if_icmp .lt 14, 3) := by decide +kernel
theorem dX12_isWhole_74 : decode cX12_isWhole 74 = .ok (.iload_n 2, 1) := by decide +kernel
theorem dX12_isWhole_75 : decode cX12_isWhole 75 = .ok (.aload_n 0, 1) := by decide +kernel
theorem dX12_isWhole_76 : decode cX12_isWhole 76 = .ok (.getfield 123, 3) := by decide +kernel
theorem dX12_isWhole_79 : decode cX12_isWhole 79 = .ok (.iload 5, 2) := by decide +kernel
theorem dX12_isWhole_81 : decode cX12_isWhole 81 = .ok (.iaload, 1) := by decide +kernel
theorem dX12_isWhole_82 : decode cX12_isWhole 82 = .ok (.if_icmp .lt 7, 3) := by decide +kernel
theorem dX12_isWhole_85 : decode cX12_isWhole 85 = .ok (.iconst 1, 1) := by decide +kernel
theorem dX12_isWhole_86 : decode cX12_isWhole 86 = .ok (.goto 4, 3) := by decide +kernel
theorem dX12_isWhole_89 : decode cX12_isWhole 89 = .ok (.iconst 0, 1) := by decide +kernel
theorem dX12_isWhole_90 : decode cX12_isWhole 90 = .ok (.istore 4, 2) := by decide +kernel
theorem dX12_isWhole_92 : decode cX12_isWhole 92 = .ok (.iinc 5 1, 3) := by decide +kernel
theorem dX12_isWhole_95 : decode cX12_isWhole 95 = .ok (.goto (-89), 3) := by decide +kernel
theorem dX12_isWhole_98 : decode cX12_isWhole 98 = .ok (.iload 4, 2) := by decide +kernel
theorem dX12_isWhole_100 : decode cX12_isWhole 100 = .ok (.ireturn, 1) := by decide +kernel
theorem dX12_whole_0 : decode cX12_whole 0 = .ok (.iload_n 1, 1) := by decide +kernel
theorem dX12_whole_1 : decode cX12_whole 1 = .ok (.ifCond .lt 8, 3) := by decide +kernel
theorem dX12_whole_4 : decode cX12_whole 4 = .ok (.iload_n 1, 1) := by decide +kernel
theorem dX12_whole_5 : decode cX12_whole 5 = .ok (.iconst 5, 1) := by decide +kernel
theorem dX12_whole_6 : decode cX12_whole 6 = .ok (.if_icmp .le 7, 3) := by decide +kernel
theorem dX12_whole_9 : decode cX12_whole 9 = .ok (.iconst (-1), 1) := by decide +kernel
theorem dX12_whole_10 : decode cX12_whole 10 = .ok (.goto 18, 3) := by decide +kernel
theorem dX12_whole_13 : decode cX12_whole 13 = .ok (.aload_n 0, 1) := by decide +kernel
theorem dX12_whole_14 : decode cX12_whole 14 = .ok (.iload_n 1, 1) := by decide +kernel
theorem dX12_whole_15 : decode cX12_whole 15 = .ok (.iload_n 2, 1) := by decide +kernel
theorem dX12_whole_16 : decode cX12_whole 16 = .ok (.iload_n 3, 1) := by decide +kernel
theorem dX12_whole_17 : decode cX12_whole 17 = .ok (.invokevirtual 340, 3) := by decide +kernel
theorem dX12_whole_20 : decode cX12_whole 20 = .ok (.ifCond .eq 7, 3) := by decide +kernel
theorem dX12_whole_23 : decode cX12_whole 23 = .ok (.iconst 1, 1) := by decide +kernel
theorem dX12_whole_24 : decode cX12_whole 24 = .ok (.goto 4, 3) := by decide +kernel
theorem dX12_whole_27 : decode cX12_whole 27 = .ok (.iconst 0, 1) := by decide +kernel
theorem dX12_whole_28 : decode cX12_whole 28 = .ok (.ireturn, 1) := by decide +kernel
theorem dX12_free_0 : decode cX12_free 0 = .ok (.iload_n 1, 1) := by decide +kernel
theorem dX12_free_1 : decode cX12_free 1 = .ok (.ifCond .lt 31, 3) := by decide +kernel
theorem dX12_free_4 : decode cX12_free 4 = .ok (.iload_n 1, 1) := by decide +kernel
theorem dX12_free_5 : decode cX12_free 5 = .ok (.iconst 5, 1) := by decide +kernel
theorem dX12_free_6 : decode cX12_free 6 = .ok (.if_icmp .gt 26, 3) := by decide +kernel
theorem dX12_free_9 : decode cX12_free 9 = .ok (.iload_n 2, 1) := by decide +kernel
theorem dX12_free_10 : decode cX12_free 10 = .ok (.ifCond .lt 22, 3) := by decide +kernel
theorem dX12_free_13 : decode cX12_free 13 = .ok (.iload_n 2, 1) := by decide +kernel
theorem dX12_free_14 : decode cX12_free 14 = .ok (.sipush 3000, 3) := by decide +kernel
theorem dX12_free_17 : decode cX12_free 17 = .ok (.if_icmp .gt 15, 3) := by decide +kernel
theorem dX12_free_20 : decode cX12_free 20 = .ok (.iload_n 3, 1) := by decide +kernel
theorem dX12_free_21 : decode cX12_free 21 = .ok (.iconst 1, 1) := by decide +kernel
theorem dX12_free_22 : decode cX12_free 22 = .ok (.if_icmp .lt 10, 3) := by decide +kernel
theorem dX12_free_25 : decode cX12_free 25 = .ok (.iload_n 3, 1) := by decide +kernel
theorem dX12_free_26 : decode cX12_free 26 = .ok (.sipush 500, 3) := by decide +kernel
theorem dX12_free_29 : decode cX12_free 29 = .ok (.if_icmp .le 5, 3) := by decide +kernel
theorem dX12_free_32 : decode cX12_free 32 = .ok (.iconst (-1), 1) := by decide +kernel
theorem dX12_free_33 : decode cX12_free 33 = .ok (.ireturn, 1) := by decide +kernel
theorem dX12_free_34 : decode cX12_free 34 = .ok (.iload_n 2, 1) := by decide +kernel
theorem dX12_free_35 : decode cX12_free 35 = .ok (.istore 5, 2) := by decide +kernel
theorem dX12_free_37 : decode cX12_free 37 = .ok (.iconst 0, 1) := by decide +kernel
theorem dX12_free_38 : decode cX12_free 38 = .ok (.istore 6, 2) := by decide +kernel
theorem dX12_free_40 : decode cX12_free 40 = .ok (.iload 6, 2) := by decide +kernel
theorem dX12_free_42 : decode cX12_free 42 = .ok (.iload_n 3, 1) := by decide +kernel
theorem dX12_free_43 : decode cX12_free 43 = .ok (.if_icmp .ge 47, 3) := by decide +kernel
theorem dX12_free_46 : decode cX12_free 46 = .ok (.iload 5, 2) := by decide +kernel
theorem dX12_free_48 : decode cX12_free 48 = .ok (.sipush 3000, 3) := by decide +kernel
theorem dX12_free_51 : decode cX12_free 51 = .ok (.if_icmp .gt 39, 3) := by decide +kernel
theorem dX12_free_54 : decode cX12_free 54 = .ok (.aload_n 0, 1) := by decide +kernel
theorem dX12_free_55 : decode cX12_free 55 = .ok (.iload_n 1, 1) := by decide +kernel
theorem dX12_free_56 : decode cX12_free 56 = .ok (.iload 5, 2) := by decide +kernel
theorem dX12_free_58 : decode cX12_free 58 = .ok (.iload 6, 2) := by decide +kernel
theorem dX12_free_60 : decode cX12_free 60 = .ok (.iadd, 1) := by decide +kernel
theorem dX12_free_61 : decode cX12_free 61 = .ok (.iload 4, 2) := by decide +kernel
theorem dX12_free_63 : decode cX12_free 63 = .ok (.invokevirtual 340, 3) := by decide +kernel
theorem dX12_free_66 : decode cX12_free 66 = .ok (.ifCond .eq 9, 3) := by decide +kernel
theorem dX12_free_69 : decode cX12_free 69 = .ok (.iinc 6 1, 3) := by decide +kernel
theorem dX12_free_72 : decode cX12_free 72 = .ok (.goto (-32), 3) := by decide +kernel
theorem dX12_free_75 : decode cX12_free 75 = .ok (.iload 5, 2) := by decide +kernel
theorem dX12_free_77 : decode cX12_free 77 = .ok (.iload 6, 2) := by decide +kernel
theorem dX12_free_79 : decode cX12_free 79 = .ok (.iconst 1, 1) := by decide +kernel
theorem dX12_free_80 : decode cX12_free 80 = .ok (.iadd, 1) := by decide +kernel
theorem dX12_free_81 : decode cX12_free 81 = .ok (.iadd, 1) := by decide +kernel
theorem dX12_free_82 : decode cX12_free 82 = .ok (.istore 5, 2) := by decide +kernel
theorem dX12_free_84 : decode cX12_free 84 = .ok (.iconst 0, 1) := by decide +kernel
theorem dX12_free_85 : decode cX12_free 85 = .ok (.istore 6, 2) := by decide +kernel
theorem dX12_free_87 : decode cX12_free 87 = .ok (.goto (-47), 3) := by decide +kernel
theorem dX12_free_90 : decode cX12_free 90 = .ok (.iload 5, 2) := by decide +kernel
theorem dX12_free_92 : decode cX12_free 92 = .ok (.ireturn, 1) := by decide +kernel
theorem dX12_about_0 : decode cX12_about 0 = .ok (.iload_n 1, 1) := by decide +kernel
theorem dX12_about_1 : decode cX12_about 1 = .ok (.tableswitch 72 0 5 #[39, 44, 49, 54, 62, 67], 39) := by decide +kernel
theorem dX12_about_40 : decode cX12_about 40 = .ok (.aload_n 0, 1) := by decide +kernel
theorem dX12_about_41 : decode cX12_about 41 = .ok (.getfield 132, 3) := by decide +kernel
theorem dX12_about_44 : decode cX12_about 44 = .ok (.ireturn, 1) := by decide +kernel
theorem dX12_about_45 : decode cX12_about 45 = .ok (.aload_n 0, 1) := by decide +kernel
theorem dX12_about_46 : decode cX12_about 46 = .ok (.getfield 159, 3) := by decide +kernel
theorem dX12_about_49 : decode cX12_about 49 = .ok (.ireturn, 1) := by decide +kernel
theorem dX12_about_50 : decode cX12_about 50 = .ok (.aload_n 0, 1) := by decide +kernel
theorem dX12_about_51 : decode cX12_about 51 = .ok (.getfield 16, 3) := by decide +kernel
theorem dX12_about_54 : decode cX12_about 54 = .ok (.ireturn, 1) := by decide +kernel
theorem dX12_about_55 : decode cX12_about 55 = .ok (.aload_n 0, 1) := by decide +kernel
theorem dX12_about_56 : decode cX12_about 56 = .ok (.getfield 72, 3) := by decide +kernel
theorem dX12_about_59 : decode cX12_about 59 = .ok (.bipush 10, 2) := by decide +kernel
theorem dX12_about_61 : decode cX12_about 61 = .ok (.iaload, 1) := by decide +kernel
theorem dX12_about_62 : decode cX12_about 62 = .ok (.ireturn, 1) := by decide +kernel
theorem dX12_about_63 : decode cX12_about 63 = .ok (.aload_n 0, 1) := by decide +kernel
theorem dX12_about_64 : decode cX12_about 64 = .ok (.getfield 337, 3) := by decide +kernel
theorem dX12_about_67 : decode cX12_about 67 = .ok (.ireturn, 1) := by decide +kernel
theorem dX12_about_68 : decode cX12_about 68 = .ok (.aload_n 0, 1) := by decide +kernel
theorem dX12_about_69 : decode cX12_about 69 = .ok (.getfield 213, 3) := by decide +kernel
theorem dX12_about_72 : decode cX12_about 72 = .ok (.ireturn, 1) := by decide +kernel
theorem dX12_about_73 : decode cX12_about 73 = .ok (.iconst (-1), 1) := by decide +kernel
theorem dX12_about_74 : decode cX12_about 74 = .ok (.ireturn, 1) := by decide +kernel
theorem dJ6_bitCount_0f7a4_0 : decode cJ6_bitCount_0f7a4 0 = .ok (.iload_n 0, 1) := by decide +kernel
theorem dJ6_bitCount_0f7a4_1 : decode cJ6_bitCount_0f7a4 1 = .ok (.iload_n 0, 1) := by decide +kernel
theorem dJ6_bitCount_0f7a4_2 : decode cJ6_bitCount_0f7a4 2 = .ok (.iconst 1, 1) := by decide +kernel
theorem dJ6_bitCount_0f7a4_3 : decode cJ6_bitCount_0f7a4 3 = .ok (.iushr, 1) := by decide +kernel
theorem dJ6_bitCount_0f7a4_4 : decode cJ6_bitCount_0f7a4 4 = .ok (.ldc_w 265, 3) := by decide +kernel
theorem dJ6_bitCount_0f7a4_7 : decode cJ6_bitCount_0f7a4 7 = .ok (.iand, 1) := by decide +kernel
theorem dJ6_bitCount_0f7a4_8 : decode cJ6_bitCount_0f7a4 8 = .ok (.isub, 1) := by decide +kernel
theorem dJ6_bitCount_0f7a4_9 : decode cJ6_bitCount_0f7a4 9 = .ok (.istore_n 0, 1) := by decide +kernel
theorem dJ6_bitCount_0f7a4_10 : decode cJ6_bitCount_0f7a4 10 = .ok (.iload_n 0, 1) := by decide +kernel
theorem dJ6_bitCount_0f7a4_11 : decode cJ6_bitCount_0f7a4 11 = .ok (.ldc_w 266, 3) := by decide +kernel
theorem dJ6_bitCount_0f7a4_14 : decode cJ6_bitCount_0f7a4 14 = .ok (.iand, 1) := by decide +kernel
theorem dJ6_bitCount_0f7a4_15 : decode cJ6_bitCount_0f7a4 15 = .ok (.iload_n 0, 1) := by decide +kernel
theorem dJ6_bitCount_0f7a4_16 : decode cJ6_bitCount_0f7a4 16 = .ok (.iconst 2, 1) := by decide +kernel
theorem dJ6_bitCount_0f7a4_17 : decode cJ6_bitCount_0f7a4 17 = .ok (.iushr, 1) := by decide +kernel
theorem dJ6_bitCount_0f7a4_18 : decode cJ6_bitCount_0f7a4 18 = .ok (.ldc_w 266, 3) := by decide +kernel
theorem dJ6_bitCount_0f7a4_21 : decode cJ6_bitCount_0f7a4 21 = .ok (.iand, 1) := by decide +kernel
theorem dJ6_bitCount_0f7a4_22 : decode cJ6_bitCount_0f7a4 22 = .ok (.iadd, 1) := by decide +kernel
theorem dJ6_bitCount_0f7a4_23 : decode cJ6_bitCount_0f7a4 23 = .ok (.istore_n 0, 1) := by decide +kernel
theorem dJ6_bitCount_0f7a4_24 : decode cJ6_bitCount_0f7a4 24 = .ok (.iload_n 0, 1) := by decide +kernel
theorem dJ6_bitCount_0f7a4_25 : decode cJ6_bitCount_0f7a4 25 = .ok (.iload_n 0, 1) := by decide +kernel
theorem dJ6_bitCount_0f7a4_26 : decode cJ6_bitCount_0f7a4 26 = .ok (.iconst 4, 1) := by decide +kernel
theorem dJ6_bitCount_0f7a4_27 : decode cJ6_bitCount_0f7a4 27 = .ok (.iushr, 1) := by decide +kernel
theorem dJ6_bitCount_0f7a4_28 : decode cJ6_bitCount_0f7a4 28 = .ok (.iadd, 1) := by decide +kernel
theorem dJ6_bitCount_0f7a4_29 : decode cJ6_bitCount_0f7a4 29 = .ok (.ldc_w 267, 3) := by decide +kernel
theorem dJ6_bitCount_0f7a4_32 : decode cJ6_bitCount_0f7a4 32 = .ok (.iand, 1) := by decide +kernel
theorem dJ6_bitCount_0f7a4_33 : decode cJ6_bitCount_0f7a4 33 = .ok (.istore_n 0, 1) := by decide +kernel
theorem dJ6_bitCount_0f7a4_34 : decode cJ6_bitCount_0f7a4 34 = .ok (.iload_n 0, 1) := by decide +kernel
theorem dJ6_bitCount_0f7a4_35 : decode cJ6_bitCount_0f7a4 35 = .ok (.iload_n 0, 1) := by decide +kernel
theorem dJ6_bitCount_0f7a4_36 : decode cJ6_bitCount_0f7a4 36 = .ok (.bipush 8, 2) := by decide +kernel
theorem dJ6_bitCount_0f7a4_38 : decode cJ6_bitCount_0f7a4 38 = .ok (.iushr, 1) := by decide +kernel
theorem dJ6_bitCount_0f7a4_39 : decode cJ6_bitCount_0f7a4 39 = .ok (.iadd, 1) := by decide +kernel
theorem dJ6_bitCount_0f7a4_40 : decode cJ6_bitCount_0f7a4 40 = .ok (.istore_n 0, 1) := by decide +kernel
theorem dJ6_bitCount_0f7a4_41 : decode cJ6_bitCount_0f7a4 41 = .ok (.iload_n 0, 1) := by decide +kernel
theorem dJ6_bitCount_0f7a4_42 : decode cJ6_bitCount_0f7a4 42 = .ok (.iload_n 0, 1) := by decide +kernel
theorem dJ6_bitCount_0f7a4_43 : decode cJ6_bitCount_0f7a4 43 = .ok (.bipush 16, 2) := by decide +kernel
theorem dJ6_bitCount_0f7a4_45 : decode cJ6_bitCount_0f7a4 45 = .ok (.iushr, 1) := by decide +kernel
theorem dJ6_bitCount_0f7a4_46 : decode cJ6_bitCount_0f7a4 46 = .ok (.iadd, 1) := by decide +kernel
theorem dJ6_bitCount_0f7a4_47 : decode cJ6_bitCount_0f7a4 47 = .ok (.istore_n 0, 1) := by decide +kernel
theorem dJ6_bitCount_0f7a4_48 : decode cJ6_bitCount_0f7a4 48 = .ok (.iload_n 0, 1) := by decide +kernel
theorem dJ6_bitCount_0f7a4_49 : decode cJ6_bitCount_0f7a4 49 = .ok (.bipush 63, 2) := by decide +kernel
theorem dJ6_bitCount_0f7a4_51 : decode cJ6_bitCount_0f7a4 51 = .ok (.iand, 1) := by decide +kernel
theorem dJ6_bitCount_0f7a4_52 : decode cJ6_bitCount_0f7a4 52 = .ok (.ireturn, 1) := by decide +kernel
theorem dJ9_abs_0f7a4_0 : decode cJ9_abs_0f7a4 0 = .ok (.iload_n 0, 1) := by decide +kernel
theorem dJ9_abs_0f7a4_1 : decode cJ9_abs_0f7a4 1 = .ok (.ifCond .ge 8, 3) := by decide +kernel
theorem dJ9_abs_0f7a4_4 : decode cJ9_abs_0f7a4 4 = .ok (.iload_n 0, 1) := by decide +kernel
theorem dJ9_abs_0f7a4_5 : decode cJ9_abs_0f7a4 5 = .ok (.ineg, 1) := by decide +kernel
theorem dJ9_abs_0f7a4_6 : decode cJ9_abs_0f7a4 6 = .ok (.goto 4, 3) := by decide +kernel
theorem dJ9_abs_0f7a4_9 : decode cJ9_abs_0f7a4 9 = .ok (.iload_n 0, 1) := by decide +kernel
theorem dJ9_abs_0f7a4_10 : decode cJ9_abs_0f7a4 10 = .ok (.ireturn, 1) := by decide +kernel
theorem dJ9_max_7cf53_0 : decode cJ9_max_7cf53 0 = .ok (.iload_n 0, 1) := by decide +kernel
theorem dJ9_max_7cf53_1 : decode cJ9_max_7cf53 1 = .ok (.iload_n 1, 1) := by decide +kernel
theorem dJ9_max_7cf53_2 : decode cJ9_max_7cf53 2 = .ok (.if_icmp .lt 7, 3) := by decide +kernel
theorem dJ9_max_7cf53_5 : decode cJ9_max_7cf53 5 = .ok (.iload_n 0, 1) := by decide +kernel
theorem dJ9_max_7cf53_6 : decode cJ9_max_7cf53 6 = .ok (.goto 4, 3) := by decide +kernel
theorem dJ9_max_7cf53_9 : decode cJ9_max_7cf53 9 = .ok (.iload_n 1, 1) := by decide +kernel
theorem dJ9_max_7cf53_10 : decode cJ9_max_7cf53 10 = .ok (.ireturn, 1) := by decide +kernel
theorem dJ9_min_7cf53_0 : decode cJ9_min_7cf53 0 = .ok (.iload_n 0, 1) := by decide +kernel
theorem dJ9_min_7cf53_1 : decode cJ9_min_7cf53 1 = .ok (.iload_n 1, 1) := by decide +kernel
theorem dJ9_min_7cf53_2 : decode cJ9_min_7cf53 2 = .ok (.if_icmp .gt 7, 3) := by decide +kernel
theorem dJ9_min_7cf53_5 : decode cJ9_min_7cf53 5 = .ok (.iload_n 0, 1) := by decide +kernel
theorem dJ9_min_7cf53_6 : decode cJ9_min_7cf53 6 = .ok (.goto 4, 3) := by decide +kernel
theorem dJ9_min_7cf53_9 : decode cJ9_min_7cf53 9 = .ok (.iload_n 1, 1) := by decide +kernel
theorem dJ9_min_7cf53_10 : decode cJ9_min_7cf53 10 = .ok (.ireturn, 1) := by decide +kernel
theorem dJ9_min_f86c9_0 : decode cJ9_min_f86c9 0 = .ok (.lload_n 0, 1) := by decide +kernel
theorem dJ9_min_f86c9_1 : decode cJ9_min_f86c9 1 = .ok (.lload_n 2, 1) := by decide +kernel
theorem dJ9_min_f86c9_2 : decode cJ9_min_f86c9 2 = .ok (.lcmp, 1) := by decide +kernel
theorem dJ9_min_f86c9_3 : decode cJ9_min_f86c9 3 = .ok (.ifCond .gt 7, 3) := by decide +kernel
theorem dJ9_min_f86c9_6 : decode cJ9_min_f86c9 6 = .ok (.lload_n 0, 1) := by decide +kernel
theorem dJ9_min_f86c9_7 : decode cJ9_min_f86c9 7 = .ok (.goto 4, 3) := by decide +kernel
theorem dJ9_min_f86c9_10 : decode cJ9_min_f86c9 10 = .ok (.lload_n 2, 1) := by decide +kernel
theorem dJ9_min_f86c9_11 : decode cJ9_min_f86c9 11 = .ok (.lreturn, 1) := by decide +kernel
theorem dJ7_fill_53178_0 : decode cJ7_fill_53178 0 = .ok (.iconst 0, 1) := by decide +kernel
theorem dJ7_fill_53178_1 : decode cJ7_fill_53178 1 = .ok (.istore_n 2, 1) := by decide +kernel
theorem dJ7_fill_53178_2 : decode cJ7_fill_53178 2 = .ok (.aload_n 0, 1) := by decide +kernel
theorem dJ7_fill_53178_3 : decode cJ7_fill_53178 3 = .ok (.arraylength, 1) := by decide +kernel
theorem dJ7_fill_53178_4 : decode cJ7_fill_53178 4 = .ok (.istore_n 3, 1) := by decide +kernel
theorem dJ7_fill_53178_5 : decode cJ7_fill_53178 5 = .ok (.iload_n 2, 1) := by decide +kernel
theorem dJ7_fill_53178_6 : decode cJ7_fill_53178 6 = .ok (.iload_n 3, 1) := by decide +kernel
theorem dJ7_fill_53178_7 : decode cJ7_fill_53178 7 = .ok (.if_icmp .ge 13, 3) := by decide +kernel
theorem dJ7_fill_53178_10 : decode cJ7_fill_53178 10 = .ok (.aload_n 0, 1) := by decide +kernel
theorem dJ7_fill_53178_11 : decode cJ7_fill_53178 11 = .ok (.iload_n 2, 1) := by decide +kernel
theorem dJ7_fill_53178_12 : decode cJ7_fill_53178 12 = .ok (.iload_n 1, 1) := by decide +kernel
theorem dJ7_fill_53178_13 : decode cJ7_fill_53178 13 = .ok (.iastore, 1) := by decide +kernel
theorem dJ7_fill_53178_14 : decode cJ7_fill_53178 14 = .ok (.iinc 2 1, 3) := by decide +kernel
theorem dJ7_fill_53178_17 : decode cJ7_fill_53178 17 = .ok (.goto (-12), 3) := by decide +kernel
theorem dJ7_fill_53178_20 : decode cJ7_fill_53178 20 = .ok (.return_, 1) := by decide +kernel
theorem dJ7_copyOf_59c91_0 : decode cJ7_copyOf_59c91 0 = .ok (.iload_n 1, 1) := by decide +kernel
theorem dJ7_copyOf_59c91_1 : decode cJ7_copyOf_59c91 1 = .ok (.aload_n 0, 1) := by decide +kernel
theorem dJ7_copyOf_59c91_2 : decode cJ7_copyOf_59c91 2 = .ok (.arraylength, 1) := by decide +kernel
theorem dJ7_copyOf_59c91_3 : decode cJ7_copyOf_59c91 3 = .ok (.if_icmp .ne 11, 3) := by decide +kernel
theorem dJ7_copyOf_59c91_6 : decode cJ7_copyOf_59c91 6 = .ok (.aload_n 0, 1) := by decide +kernel
theorem dJ7_copyOf_59c91_7 : decode cJ7_copyOf_59c91 7 = .ok (.invokevirtual 316, 3) := by decide +kernel
theorem dJ7_copyOf_59c91_10 : decode cJ7_copyOf_59c91 10 = .ok (.checkcast 317, 3) := by decide +kernel
theorem dJ7_copyOf_59c91_13 : decode cJ7_copyOf_59c91 13 = .ok (.areturn, 1) := by decide +kernel
theorem dJ7_copyOf_59c91_14 : decode cJ7_copyOf_59c91 14 = .ok (.iload_n 1, 1) := by decide +kernel
theorem dJ7_copyOf_59c91_15 : decode cJ7_copyOf_59c91 15 = .ok (.newarray .int, 2) := by decide +kernel
theorem dJ7_copyOf_59c91_17 : decode cJ7_copyOf_59c91 17 = .ok (.astore_n 2, 1) := by decide +kernel
theorem dJ7_copyOf_59c91_18 : decode cJ7_copyOf_59c91 18 = .ok (.aload_n 0, 1) := by decide +kernel
theorem dJ7_copyOf_59c91_19 : decode cJ7_copyOf_59c91 19 = .ok (.iconst 0, 1) := by decide +kernel
theorem dJ7_copyOf_59c91_20 : decode cJ7_copyOf_59c91 20 = .ok (.aload_n 2, 1) := by decide +kernel
theorem dJ7_copyOf_59c91_21 : decode cJ7_copyOf_59c91 21 = .ok (.iconst 0, 1) := by decide +kernel
theorem dJ7_copyOf_59c91_22 : decode cJ7_copyOf_59c91 22 = .ok (.aload_n 0, 1) := by decide +kernel
theorem dJ7_copyOf_59c91_23 : decode cJ7_copyOf_59c91 23 = .ok (.arraylength, 1) := by decide +kernel
theorem dJ7_copyOf_59c91_24 : decode cJ7_copyOf_59c91 24 = .ok (.iload_n 1, 1) := by decide +kernel
theorem dJ7_copyOf_59c91_25 : decode cJ7_copyOf_59c91 25 = .ok (.invokestatic 304, 3) := by decide +kernel
theorem dJ7_copyOf_59c91_28 : decode cJ7_copyOf_59c91 28 = .ok (.invokestatic 150, 3) := by decide +kernel
theorem dJ7_copyOf_59c91_31 : decode cJ7_copyOf_59c91 31 = .ok (.aload_n 2, 1) := by decide +kernel
theorem dJ7_copyOf_59c91_32 : decode cJ7_copyOf_59c91 32 = .ok (.areturn, 1) := by decide +kernel
theorem dL_law_0 : decode cL_law 0 = .ok (.new 7, 3) := by decide +kernel
theorem dL_law_3 : decode cL_law 3 = .ok (.dup, 1) := by decide +kernel
theorem dL_law_4 : decode cL_law 4 = .ok (.invokespecial 9, 3) := by decide +kernel
theorem dL_law_7 : decode cL_law 7 = .ok (.astore_n 1, 1) := by decide +kernel
theorem dL_law_8 : decode cL_law 8 = .ok (.new 10, 3) := by decide +kernel
theorem dL_law_11 : decode cL_law 11 = .ok (.dup, 1) := by decide +kernel
theorem dL_law_12 : decode cL_law 12 = .ok (.invokespecial 12, 3) := by decide +kernel
theorem dL_law_15 : decode cL_law 15 = .ok (.astore_n 2, 1) := by decide +kernel
theorem dL_law_16 : decode cL_law 16 = .ok (.iconst 0, 1) := by decide +kernel
theorem dL_law_17 : decode cL_law 17 = .ok (.istore_n 3, 1) := by decide +kernel
theorem dL_law_18 : decode cL_law 18 = .ok (.iload_n 3, 1) := by decide +kernel
theorem dL_law_19 : decode cL_law 19 = .ok (.aload_n 0, 1) := by decide +kernel
theorem dL_law_20 : decode cL_law 20 = .ok (.arraylength, 1) := by decide +kernel
theorem dL_law_21 : decode cL_law 21 = .ok (.bipush 7, 2) := by decide +kernel
theorem dL_law_23 : decode cL_law 23 = .ok (.isub, 1) := by decide +kernel
theorem dL_law_24 : decode cL_law 24 = .ok (.if_icmp .gt 1111, 3) := by decide +kernel
theorem dL_law_27 : decode cL_law 27 = .ok (.aload_n 0, 1) := by decide +kernel
theorem dL_law_28 : decode cL_law 28 = .ok (.iload_n 3, 1) := by decide +kernel
theorem dL_law_29 : decode cL_law 29 = .ok (.iaload, 1) := by decide +kernel
theorem dL_law_30 : decode cL_law 30 = .ok (.bipush 31, 2) := by decide +kernel
theorem dL_law_32 : decode cL_law 32 = .ok (.iand, 1) := by decide +kernel
theorem dL_law_33 : decode cL_law 33 = .ok (.tableswitch 1096 0 28 #[131, 184, 233, 266, 309, 332, 355, 378, 401, 476, 499, 532, 565, 578, 591, 614, 647, 670, 703, 736, 799, 822, 835, 858, 891, 944, 977, 1020, 1073], 131) := by decide +kernel
theorem dL_law_164 : decode cL_law 164 = .ok (.aload_n 1, 1) := by decide +kernel
theorem dL_law_165 : decode cL_law 165 = .ok (.aload_n 0, 1) := by decide +kernel
theorem dL_law_166 : decode cL_law 166 = .ok (.iload_n 3, 1) := by decide +kernel
theorem dL_law_167 : decode cL_law 167 = .ok (.iconst 1, 1) := by decide +kernel
theorem dL_law_168 : decode cL_law 168 = .ok (.iadd, 1) := by decide +kernel
theorem dL_law_169 : decode cL_law 169 = .ok (.iaload, 1) := by decide +kernel
theorem dL_law_170 : decode cL_law 170 = .ok (.aload_n 0, 1) := by decide +kernel
theorem dL_law_171 : decode cL_law 171 = .ok (.iload_n 3, 1) := by decide +kernel
theorem dL_law_172 : decode cL_law 172 = .ok (.iconst 2, 1) := by decide +kernel
theorem dL_law_173 : decode cL_law 173 = .ok (.iadd, 1) := by decide +kernel
theorem dL_law_174 : decode cL_law 174 = .ok (.iaload, 1) := by decide +kernel
theorem dL_law_175 : decode cL_law 175 = .ok (.aload_n 0, 1) := by decide +kernel
theorem dL_law_176 : decode cL_law 176 = .ok (.iload_n 3, 1) := by decide +kernel
theorem dL_law_177 : decode cL_law 177 = .ok (.iconst 3, 1) := by decide +kernel
theorem dL_law_178 : decode cL_law 178 = .ok (.iadd, 1) := by decide +kernel
theorem dL_law_179 : decode cL_law 179 = .ok (.iaload, 1) := by decide +kernel
theorem dL_law_180 : decode cL_law 180 = .ok (.aload_n 0, 1) := by decide +kernel
theorem dL_law_181 : decode cL_law 181 = .ok (.iload_n 3, 1) := by decide +kernel
theorem dL_law_182 : decode cL_law 182 = .ok (.iconst 4, 1) := by decide +kernel
theorem dL_law_183 : decode cL_law 183 = .ok (.iadd, 1) := by decide +kernel
theorem dL_law_184 : decode cL_law 184 = .ok (.iaload, 1) := by decide +kernel
theorem dL_law_185 : decode cL_law 185 = .ok (.invokevirtual 13, 3) := by decide +kernel
theorem dL_law_188 : decode cL_law 188 = .ok (.aload_n 2, 1) := by decide +kernel
theorem dL_law_189 : decode cL_law 189 = .ok (.aload_n 0, 1) := by decide +kernel
theorem dL_law_190 : decode cL_law 190 = .ok (.iload_n 3, 1) := by decide +kernel
theorem dL_law_191 : decode cL_law 191 = .ok (.iconst 1, 1) := by decide +kernel
theorem dL_law_192 : decode cL_law 192 = .ok (.iadd, 1) := by decide +kernel
theorem dL_law_193 : decode cL_law 193 = .ok (.iaload, 1) := by decide +kernel
theorem dL_law_194 : decode cL_law 194 = .ok (.aload_n 0, 1) := by decide +kernel
theorem dL_law_195 : decode cL_law 195 = .ok (.iload_n 3, 1) := by decide +kernel
theorem dL_law_196 : decode cL_law 196 = .ok (.iconst 2, 1) := by decide +kernel
theorem dL_law_197 : decode cL_law 197 = .ok (.iadd, 1) := by decide +kernel
theorem dL_law_198 : decode cL_law 198 = .ok (.iaload, 1) := by decide +kernel
theorem dL_law_199 : decode cL_law 199 = .ok (.aload_n 0, 1) := by decide +kernel
theorem dL_law_200 : decode cL_law 200 = .ok (.iload_n 3, 1) := by decide +kernel
theorem dL_law_201 : decode cL_law 201 = .ok (.iconst 3, 1) := by decide +kernel
theorem dL_law_202 : decode cL_law 202 = .ok (.iadd, 1) := by decide +kernel
theorem dL_law_203 : decode cL_law 203 = .ok (.iaload, 1) := by decide +kernel
theorem dL_law_204 : decode cL_law 204 = .ok (.aload_n 0, 1) := by decide +kernel
theorem dL_law_205 : decode cL_law 205 = .ok (.iload_n 3, 1) := by decide +kernel
theorem dL_law_206 : decode cL_law 206 = .ok (.iconst 4, 1) := by decide +kernel
theorem dL_law_207 : decode cL_law 207 = .ok (.iadd, 1) := by decide +kernel
theorem dL_law_208 : decode cL_law 208 = .ok (.iaload, 1) := by decide +kernel
theorem dL_law_209 : decode cL_law 209 = .ok (.invokevirtual 17, 3) := by decide +kernel
theorem dL_law_212 : decode cL_law 212 = .ok (.if_icmp .eq 917, 3) := by decide +kernel
theorem dL_law_215 : decode cL_law 215 = .ok (.iconst 0, 1) := by decide +kernel
theorem dL_law_216 : decode cL_law 216 = .ok (.ireturn, 1) := by decide +kernel
theorem dL_law_217 : decode cL_law 217 = .ok (.aload_n 1, 1) := by decide +kernel
theorem dL_law_218 : decode cL_law 218 = .ok (.aload_n 0, 1) := by decide +kernel
theorem dL_law_219 : decode cL_law 219 = .ok (.iload_n 3, 1) := by decide +kernel
theorem dL_law_220 : decode cL_law 220 = .ok (.iconst 1, 1) := by decide +kernel
theorem dL_law_221 : decode cL_law 221 = .ok (.iadd, 1) := by decide +kernel
theorem dL_law_222 : decode cL_law 222 = .ok (.iaload, 1) := by decide +kernel
theorem dL_law_223 : decode cL_law 223 = .ok (.aload_n 0, 1) := by decide +kernel
theorem dL_law_224 : decode cL_law 224 = .ok (.iload_n 3, 1) := by decide +kernel
theorem dL_law_225 : decode cL_law 225 = .ok (.iconst 2, 1) := by decide +kernel
theorem dL_law_226 : decode cL_law 226 = .ok (.iadd, 1) := by decide +kernel
theorem dL_law_227 : decode cL_law 227 = .ok (.iaload, 1) := by decide +kernel
theorem dL_law_228 : decode cL_law 228 = .ok (.ifCond .eq 7, 3) := by decide +kernel
theorem dL_law_231 : decode cL_law 231 = .ok (.iconst 1, 1) := by decide +kernel
theorem dL_law_232 : decode cL_law 232 = .ok (.goto 4, 3) := by decide +kernel
theorem dL_law_235 : decode cL_law 235 = .ok (.iconst 0, 1) := by decide +kernel
theorem dL_law_236 : decode cL_law 236 = .ok (.invokevirtual 18, 3) := by decide +kernel
theorem dL_law_239 : decode cL_law 239 = .ok (.aload_n 2, 1) := by decide +kernel
theorem dL_law_240 : decode cL_law 240 = .ok (.aload_n 0, 1) := by decide +kernel
theorem dL_law_241 : decode cL_law 241 = .ok (.iload_n 3, 1) := by decide +kernel
theorem dL_law_242 : decode cL_law 242 = .ok (.iconst 1, 1) := by decide +kernel
theorem dL_law_243 : decode cL_law 243 = .ok (.iadd, 1) := by decide +kernel
theorem dL_law_244 : decode cL_law 244 = .ok (.iaload, 1) := by decide +kernel
theorem dL_law_245 : decode cL_law 245 = .ok (.aload_n 0, 1) := by decide +kernel
theorem dL_law_246 : decode cL_law 246 = .ok (.iload_n 3, 1) := by decide +kernel
theorem dL_law_247 : decode cL_law 247 = .ok (.iconst 2, 1) := by decide +kernel
theorem dL_law_248 : decode cL_law 248 = .ok (.iadd, 1) := by decide +kernel
theorem dL_law_249 : decode cL_law 249 = .ok (.iaload, 1) := by decide +kernel
theorem dL_law_250 : decode cL_law 250 = .ok (.ifCond .eq 7, 3) := by decide +kernel
theorem dL_law_253 : decode cL_law 253 = .ok (.iconst 1, 1) := by decide +kernel
theorem dL_law_254 : decode cL_law 254 = .ok (.goto 4, 3) := by decide +kernel
theorem dL_law_257 : decode cL_law 257 = .ok (.iconst 0, 1) := by decide +kernel
theorem dL_law_258 : decode cL_law 258 = .ok (.invokevirtual 22, 3) := by decide +kernel
theorem dL_law_261 : decode cL_law 261 = .ok (.if_icmp .eq 868, 3) := by decide +kernel
theorem dL_law_264 : decode cL_law 264 = .ok (.iconst 0, 1) := by decide +kernel
theorem dL_law_265 : decode cL_law 265 = .ok (.ireturn, 1) := by decide +kernel
theorem dL_law_266 : decode cL_law 266 = .ok (.aload_n 1, 1) := by decide +kernel
theorem dL_law_267 : decode cL_law 267 = .ok (.aload_n 0, 1) := by decide +kernel
theorem dL_law_268 : decode cL_law 268 = .ok (.iload_n 3, 1) := by decide +kernel
theorem dL_law_269 : decode cL_law 269 = .ok (.iconst 1, 1) := by decide +kernel
theorem dL_law_270 : decode cL_law 270 = .ok (.iadd, 1) := by decide +kernel
theorem dL_law_271 : decode cL_law 271 = .ok (.iaload, 1) := by decide +kernel
theorem dL_law_272 : decode cL_law 272 = .ok (.aload_n 0, 1) := by decide +kernel
theorem dL_law_273 : decode cL_law 273 = .ok (.iload_n 3, 1) := by decide +kernel
theorem dL_law_274 : decode cL_law 274 = .ok (.iconst 2, 1) := by decide +kernel
theorem dL_law_275 : decode cL_law 275 = .ok (.iadd, 1) := by decide +kernel
theorem dL_law_276 : decode cL_law 276 = .ok (.iaload, 1) := by decide +kernel
theorem dL_law_277 : decode cL_law 277 = .ok (.invokevirtual 23, 3) := by decide +kernel
theorem dL_law_280 : decode cL_law 280 = .ok (.aload_n 2, 1) := by decide +kernel
theorem dL_law_281 : decode cL_law 281 = .ok (.aload_n 0, 1) := by decide +kernel
theorem dL_law_282 : decode cL_law 282 = .ok (.iload_n 3, 1) := by decide +kernel
theorem dL_law_283 : decode cL_law 283 = .ok (.iconst 1, 1) := by decide +kernel
theorem dL_law_284 : decode cL_law 284 = .ok (.iadd, 1) := by decide +kernel
theorem dL_law_285 : decode cL_law 285 = .ok (.iaload, 1) := by decide +kernel
theorem dL_law_286 : decode cL_law 286 = .ok (.aload_n 0, 1) := by decide +kernel
theorem dL_law_287 : decode cL_law 287 = .ok (.iload_n 3, 1) := by decide +kernel
theorem dL_law_288 : decode cL_law 288 = .ok (.iconst 2, 1) := by decide +kernel
theorem dL_law_289 : decode cL_law 289 = .ok (.iadd, 1) := by decide +kernel
theorem dL_law_290 : decode cL_law 290 = .ok (.iaload, 1) := by decide +kernel
theorem dL_law_291 : decode cL_law 291 = .ok (.invokevirtual 27, 3) := by decide +kernel
theorem dL_law_294 : decode cL_law 294 = .ok (.if_icmp .eq 835, 3) := by decide +kernel
theorem dL_law_297 : decode cL_law 297 = .ok (.iconst 0, 1) := by decide +kernel
theorem dL_law_298 : decode cL_law 298 = .ok (.ireturn, 1) := by decide +kernel
theorem dL_law_299 : decode cL_law 299 = .ok (.aload_n 1, 1) := by decide +kernel
theorem dL_law_300 : decode cL_law 300 = .ok (.aload_n 0, 1) := by decide +kernel
theorem dL_law_301 : decode cL_law 301 = .ok (.iload_n 3, 1) := by decide +kernel
theorem dL_law_302 : decode cL_law 302 = .ok (.iconst 1, 1) := by decide +kernel
theorem dL_law_303 : decode cL_law 303 = .ok (.iadd, 1) := by decide +kernel
theorem dL_law_304 : decode cL_law 304 = .ok (.iaload, 1) := by decide +kernel
theorem dL_law_305 : decode cL_law 305 = .ok (.aload_n 0, 1) := by decide +kernel
theorem dL_law_306 : decode cL_law 306 = .ok (.iload_n 3, 1) := by decide +kernel
theorem dL_law_307 : decode cL_law 307 = .ok (.iconst 2, 1) := by decide +kernel
theorem dL_law_308 : decode cL_law 308 = .ok (.iadd, 1) := by decide +kernel
theorem dL_law_309 : decode cL_law 309 = .ok (.iaload, 1) := by decide +kernel
theorem dL_law_310 : decode cL_law 310 = .ok (.aload_n 0, 1) := by decide +kernel
theorem dL_law_311 : decode cL_law 311 = .ok (.iload_n 3, 1) := by decide +kernel
theorem dL_law_312 : decode cL_law 312 = .ok (.iconst 3, 1) := by decide +kernel
theorem dL_law_313 : decode cL_law 313 = .ok (.iadd, 1) := by decide +kernel
theorem dL_law_314 : decode cL_law 314 = .ok (.iaload, 1) := by decide +kernel
theorem dL_law_315 : decode cL_law 315 = .ok (.invokevirtual 28, 3) := by decide +kernel
theorem dL_law_318 : decode cL_law 318 = .ok (.aload_n 2, 1) := by decide +kernel
theorem dL_law_319 : decode cL_law 319 = .ok (.aload_n 0, 1) := by decide +kernel
theorem dL_law_320 : decode cL_law 320 = .ok (.iload_n 3, 1) := by decide +kernel
theorem dL_law_321 : decode cL_law 321 = .ok (.iconst 1, 1) := by decide +kernel
theorem dL_law_322 : decode cL_law 322 = .ok (.iadd, 1) := by decide +kernel
theorem dL_law_323 : decode cL_law 323 = .ok (.iaload, 1) := by decide +kernel
theorem dL_law_324 : decode cL_law 324 = .ok (.aload_n 0, 1) := by decide +kernel
theorem dL_law_325 : decode cL_law 325 = .ok (.iload_n 3, 1) := by decide +kernel
theorem dL_law_326 : decode cL_law 326 = .ok (.iconst 2, 1) := by decide +kernel
theorem dL_law_327 : decode cL_law 327 = .ok (.iadd, 1) := by decide +kernel
theorem dL_law_328 : decode cL_law 328 = .ok (.iaload, 1) := by decide +kernel
theorem dL_law_329 : decode cL_law 329 = .ok (.aload_n 0, 1) := by decide +kernel
theorem dL_law_330 : decode cL_law 330 = .ok (.iload_n 3, 1) := by decide +kernel
theorem dL_law_331 : decode cL_law 331 = .ok (.iconst 3, 1) := by decide +kernel
theorem dL_law_332 : decode cL_law 332 = .ok (.iadd, 1) := by decide +kernel
theorem dL_law_333 : decode cL_law 333 = .ok (.iaload, 1) := by decide +kernel
theorem dL_law_334 : decode cL_law 334 = .ok (.invokevirtual 32, 3) := by decide +kernel
theorem dL_law_337 : decode cL_law 337 = .ok (.if_icmp .eq 792, 3) := by decide +kernel
theorem dL_law_340 : decode cL_law 340 = .ok (.iconst 0, 1) := by decide +kernel
theorem dL_law_341 : decode cL_law 341 = .ok (.ireturn, 1) := by decide +kernel
theorem dL_law_342 : decode cL_law 342 = .ok (.aload_n 1, 1) := by decide +kernel
theorem dL_law_343 : decode cL_law 343 = .ok (.aload_n 0, 1) := by decide +kernel
theorem dL_law_344 : decode cL_law 344 = .ok (.iload_n 3, 1) := by decide +kernel
theorem dL_law_345 : decode cL_law 345 = .ok (.iconst 1, 1) := by decide +kernel
theorem dL_law_346 : decode cL_law 346 = .ok (.iadd, 1) := by decide +kernel
theorem dL_law_347 : decode cL_law 347 = .ok (.iaload, 1) := by decide +kernel
theorem dL_law_348 : decode cL_law 348 = .ok (.invokevirtual 33, 3) := by decide +kernel
theorem dL_law_351 : decode cL_law 351 = .ok (.aload_n 2, 1) := by decide +kernel
theorem dL_law_352 : decode cL_law 352 = .ok (.aload_n 0, 1) := by decide +kernel
theorem dL_law_353 : decode cL_law 353 = .ok (.iload_n 3, 1) := by decide +kernel
theorem dL_law_354 : decode cL_law 354 = .ok (.iconst 1, 1) := by decide +kernel
theorem dL_law_355 : decode cL_law 355 = .ok (.iadd, 1) := by decide +kernel
theorem dL_law_356 : decode cL_law 356 = .ok (.iaload, 1) := by decide +kernel
theorem dL_law_357 : decode cL_law 357 = .ok (.invokevirtual 37, 3) := by decide +kernel
theorem dL_law_360 : decode cL_law 360 = .ok (.if_icmp .eq 769, 3) := by decide +kernel
theorem dL_law_363 : decode cL_law 363 = .ok (.iconst 0, 1) := by decide +kernel
theorem dL_law_364 : decode cL_law 364 = .ok (.ireturn, 1) := by decide +kernel
theorem dL_law_365 : decode cL_law 365 = .ok (.aload_n 1, 1) := by decide +kernel
theorem dL_law_366 : decode cL_law 366 = .ok (.aload_n 0, 1) := by decide +kernel
theorem dL_law_367 : decode cL_law 367 = .ok (.iload_n 3, 1) := by decide +kernel
theorem dL_law_368 : decode cL_law 368 = .ok (.iconst 1, 1) := by decide +kernel
theorem dL_law_369 : decode cL_law 369 = .ok (.iadd, 1) := by decide +kernel
theorem dL_law_370 : decode cL_law 370 = .ok (.iaload, 1) := by decide +kernel
theorem dL_law_371 : decode cL_law 371 = .ok (.invokevirtual 38, 3) := by decide +kernel
theorem dL_law_374 : decode cL_law 374 = .ok (.aload_n 2, 1) := by decide +kernel
theorem dL_law_375 : decode cL_law 375 = .ok (.aload_n 0, 1) := by decide +kernel
theorem dL_law_376 : decode cL_law 376 = .ok (.iload_n 3, 1) := by decide +kernel
theorem dL_law_377 : decode cL_law 377 = .ok (.iconst 1, 1) := by decide +kernel
theorem dL_law_378 : decode cL_law 378 = .ok (.iadd, 1) := by decide +kernel
theorem dL_law_379 : decode cL_law 379 = .ok (.iaload, 1) := by decide +kernel
theorem dL_law_380 : decode cL_law 380 = .ok (.invokevirtual 41, 3) := by decide +kernel
theorem dL_law_383 : decode cL_law 383 = .ok (.if_icmp .eq 746, 3) := by decide +kernel
theorem dL_law_386 : decode cL_law 386 = .ok (.iconst 0, 1) := by decide +kernel
theorem dL_law_387 : decode cL_law 387 = .ok (.ireturn, 1) := by decide +kernel
theorem dL_law_388 : decode cL_law 388 = .ok (.aload_n 1, 1) := by decide +kernel
theorem dL_law_389 : decode cL_law 389 = .ok (.aload_n 0, 1) := by decide +kernel
theorem dL_law_390 : decode cL_law 390 = .ok (.iload_n 3, 1) := by decide +kernel
theorem dL_law_391 : decode cL_law 391 = .ok (.iconst 1, 1) := by decide +kernel
theorem dL_law_392 : decode cL_law 392 = .ok (.iadd, 1) := by decide +kernel
theorem dL_law_393 : decode cL_law 393 = .ok (.iaload, 1) := by decide +kernel
theorem dL_law_394 : decode cL_law 394 = .ok (.invokevirtual 42, 3) := by decide +kernel
theorem dL_law_397 : decode cL_law 397 = .ok (.aload_n 2, 1) := by decide +kernel
theorem dL_law_398 : decode cL_law 398 = .ok (.aload_n 0, 1) := by decide +kernel
theorem dL_law_399 : decode cL_law 399 = .ok (.iload_n 3, 1) := by decide +kernel
theorem dL_law_400 : decode cL_law 400 = .ok (.iconst 1, 1) := by decide +kernel
theorem dL_law_401 : decode cL_law 401 = .ok (.iadd, 1) := by decide +kernel
theorem dL_law_402 : decode cL_law 402 = .ok (.iaload, 1) := by decide +kernel
theorem dL_law_403 : decode cL_law 403 = .ok (.invokevirtual 45, 3) := by decide +kernel
theorem dL_law_406 : decode cL_law 406 = .ok (.if_icmp .eq 723, 3) := by decide +kernel
theorem dL_law_409 : decode cL_law 409 = .ok (.iconst 0, 1) := by decide +kernel
theorem dL_law_410 : decode cL_law 410 = .ok (.ireturn, 1) := by decide +kernel
theorem dL_law_411 : decode cL_law 411 = .ok (.aload_n 1, 1) := by decide +kernel
theorem dL_law_412 : decode cL_law 412 = .ok (.aload_n 0, 1) := by decide +kernel
theorem dL_law_413 : decode cL_law 413 = .ok (.iload_n 3, 1) := by decide +kernel
theorem dL_law_414 : decode cL_law 414 = .ok (.iconst 1, 1) := by decide +kernel
theorem dL_law_415 : decode cL_law 415 = .ok (.iadd, 1) := by decide +kernel
theorem dL_law_416 : decode cL_law 416 = .ok (.iaload, 1) := by decide +kernel
theorem dL_law_417 : decode cL_law 417 = .ok (.invokevirtual 46, 3) := by decide +kernel
theorem dL_law_420 : decode cL_law 420 = .ok (.aload_n 2, 1) := by decide +kernel
theorem dL_law_421 : decode cL_law 421 = .ok (.aload_n 0, 1) := by decide +kernel
theorem dL_law_422 : decode cL_law 422 = .ok (.iload_n 3, 1) := by decide +kernel
theorem dL_law_423 : decode cL_law 423 = .ok (.iconst 1, 1) := by decide +kernel
theorem dL_law_424 : decode cL_law 424 = .ok (.iadd, 1) := by decide +kernel
theorem dL_law_425 : decode cL_law 425 = .ok (.iaload, 1) := by decide +kernel
theorem dL_law_426 : decode cL_law 426 = .ok (.invokevirtual 50, 3) := by decide +kernel
theorem dL_law_429 : decode cL_law 429 = .ok (.if_icmp .eq 700, 3) := by decide +kernel
theorem dL_law_432 : decode cL_law 432 = .ok (.iconst 0, 1) := by decide +kernel
theorem dL_law_433 : decode cL_law 433 = .ok (.ireturn, 1) := by decide +kernel
theorem dL_law_434 : decode cL_law 434 = .ok (.aload_n 1, 1) := by decide +kernel
theorem dL_law_435 : decode cL_law 435 = .ok (.aload_n 0, 1) := by decide +kernel
theorem dL_law_436 : decode cL_law 436 = .ok (.iload_n 3, 1) := by decide +kernel
theorem dL_law_437 : decode cL_law 437 = .ok (.iconst 1, 1) := by decide +kernel
theorem dL_law_438 : decode cL_law 438 = .ok (.iadd, 1) := by decide +kernel
theorem dL_law_439 : decode cL_law 439 = .ok (.iaload, 1) := by decide +kernel
theorem dL_law_440 : decode cL_law 440 = .ok (.aload_n 0, 1) := by decide +kernel
theorem dL_law_441 : decode cL_law 441 = .ok (.iload_n 3, 1) := by decide +kernel
theorem dL_law_442 : decode cL_law 442 = .ok (.iconst 2, 1) := by decide +kernel
theorem dL_law_443 : decode cL_law 443 = .ok (.iadd, 1) := by decide +kernel
theorem dL_law_444 : decode cL_law 444 = .ok (.iaload, 1) := by decide +kernel
theorem dL_law_445 : decode cL_law 445 = .ok (.aload_n 0, 1) := by decide +kernel
theorem dL_law_446 : decode cL_law 446 = .ok (.iload_n 3, 1) := by decide +kernel
theorem dL_law_447 : decode cL_law 447 = .ok (.iconst 3, 1) := by decide +kernel
theorem dL_law_448 : decode cL_law 448 = .ok (.iadd, 1) := by decide +kernel
theorem dL_law_449 : decode cL_law 449 = .ok (.iaload, 1) := by decide +kernel
theorem dL_law_450 : decode cL_law 450 = .ok (.aload_n 0, 1) := by decide +kernel
theorem dL_law_451 : decode cL_law 451 = .ok (.iload_n 3, 1) := by decide +kernel
theorem dL_law_452 : decode cL_law 452 = .ok (.iconst 4, 1) := by decide +kernel
theorem dL_law_453 : decode cL_law 453 = .ok (.iadd, 1) := by decide +kernel
theorem dL_law_454 : decode cL_law 454 = .ok (.iaload, 1) := by decide +kernel
theorem dL_law_455 : decode cL_law 455 = .ok (.aload_n 0, 1) := by decide +kernel
theorem dL_law_456 : decode cL_law 456 = .ok (.iload_n 3, 1) := by decide +kernel
theorem dL_law_457 : decode cL_law 457 = .ok (.iconst 5, 1) := by decide +kernel
theorem dL_law_458 : decode cL_law 458 = .ok (.iadd, 1) := by decide +kernel
theorem dL_law_459 : decode cL_law 459 = .ok (.iaload, 1) := by decide +kernel
theorem dL_law_460 : decode cL_law 460 = .ok (.aload_n 0, 1) := by decide +kernel
theorem dL_law_461 : decode cL_law 461 = .ok (.iload_n 3, 1) := by decide +kernel
theorem dL_law_462 : decode cL_law 462 = .ok (.bipush 6, 2) := by decide +kernel
theorem dL_law_464 : decode cL_law 464 = .ok (.iadd, 1) := by decide +kernel
theorem dL_law_465 : decode cL_law 465 = .ok (.iaload, 1) := by decide +kernel
theorem dL_law_466 : decode cL_law 466 = .ok (.invokevirtual 51, 3) := by decide +kernel
theorem dL_law_469 : decode cL_law 469 = .ok (.aload_n 2, 1) := by decide +kernel
theorem dL_law_470 : decode cL_law 470 = .ok (.aload_n 0, 1) := by decide +kernel
theorem dL_law_471 : decode cL_law 471 = .ok (.iload_n 3, 1) := by decide +kernel
theorem dL_law_472 : decode cL_law 472 = .ok (.iconst 1, 1) := by decide +kernel
theorem dL_law_473 : decode cL_law 473 = .ok (.iadd, 1) := by decide +kernel
theorem dL_law_474 : decode cL_law 474 = .ok (.iaload, 1) := by decide +kernel
theorem dL_law_475 : decode cL_law 475 = .ok (.aload_n 0, 1) := by decide +kernel
theorem dL_law_476 : decode cL_law 476 = .ok (.iload_n 3, 1) := by decide +kernel
theorem dL_law_477 : decode cL_law 477 = .ok (.iconst 2, 1) := by decide +kernel
theorem dL_law_478 : decode cL_law 478 = .ok (.iadd, 1) := by decide +kernel
theorem dL_law_479 : decode cL_law 479 = .ok (.iaload, 1) := by decide +kernel
theorem dL_law_480 : decode cL_law 480 = .ok (.aload_n 0, 1) := by decide +kernel
theorem dL_law_481 : decode cL_law 481 = .ok (.iload_n 3, 1) := by decide +kernel
theorem dL_law_482 : decode cL_law 482 = .ok (.iconst 3, 1) := by decide +kernel
theorem dL_law_483 : decode cL_law 483 = .ok (.iadd, 1) := by decide +kernel
theorem dL_law_484 : decode cL_law 484 = .ok (.iaload, 1) := by decide +kernel
theorem dL_law_485 : decode cL_law 485 = .ok (.aload_n 0, 1) := by decide +kernel
theorem dL_law_486 : decode cL_law 486 = .ok (.iload_n 3, 1) := by decide +kernel
theorem dL_law_487 : decode cL_law 487 = .ok (.iconst 4, 1) := by decide +kernel
theorem dL_law_488 : decode cL_law 488 = .ok (.iadd, 1) := by decide +kernel
theorem dL_law_489 : decode cL_law 489 = .ok (.iaload, 1) := by decide +kernel
theorem dL_law_490 : decode cL_law 490 = .ok (.aload_n 0, 1) := by decide +kernel
theorem dL_law_491 : decode cL_law 491 = .ok (.iload_n 3, 1) := by decide +kernel
theorem dL_law_492 : decode cL_law 492 = .ok (.iconst 5, 1) := by decide +kernel
theorem dL_law_493 : decode cL_law 493 = .ok (.iadd, 1) := by decide +kernel
theorem dL_law_494 : decode cL_law 494 = .ok (.iaload, 1) := by decide +kernel
theorem dL_law_495 : decode cL_law 495 = .ok (.aload_n 0, 1) := by decide +kernel
theorem dL_law_496 : decode cL_law 496 = .ok (.iload_n 3, 1) := by decide +kernel
theorem dL_law_497 : decode cL_law 497 = .ok (.bipush 6, 2) := by decide +kernel
theorem dL_law_499 : decode cL_law 499 = .ok (.iadd, 1) := by decide +kernel
theorem dL_law_500 : decode cL_law 500 = .ok (.iaload, 1) := by decide +kernel
theorem dL_law_501 : decode cL_law 501 = .ok (.invokevirtual 55, 3) := by decide +kernel
theorem dL_law_504 : decode cL_law 504 = .ok (.if_icmp .eq 625, 3) := by decide +kernel
theorem dL_law_507 : decode cL_law 507 = .ok (.iconst 0, 1) := by decide +kernel
theorem dL_law_508 : decode cL_law 508 = .ok (.ireturn, 1) := by decide +kernel
theorem dL_law_509 : decode cL_law 509 = .ok (.aload_n 1, 1) := by decide +kernel
theorem dL_law_510 : decode cL_law 510 = .ok (.aload_n 0, 1) := by decide +kernel
theorem dL_law_511 : decode cL_law 511 = .ok (.iload_n 3, 1) := by decide +kernel
theorem dL_law_512 : decode cL_law 512 = .ok (.iconst 1, 1) := by decide +kernel
theorem dL_law_513 : decode cL_law 513 = .ok (.iadd, 1) := by decide +kernel
theorem dL_law_514 : decode cL_law 514 = .ok (.iaload, 1) := by decide +kernel
theorem dL_law_515 : decode cL_law 515 = .ok (.invokevirtual 56, 3) := by decide +kernel
theorem dL_law_518 : decode cL_law 518 = .ok (.aload_n 2, 1) := by decide +kernel
theorem dL_law_519 : decode cL_law 519 = .ok (.aload_n 0, 1) := by decide +kernel
theorem dL_law_520 : decode cL_law 520 = .ok (.iload_n 3, 1) := by decide +kernel
theorem dL_law_521 : decode cL_law 521 = .ok (.iconst 1, 1) := by decide +kernel
theorem dL_law_522 : decode cL_law 522 = .ok (.iadd, 1) := by decide +kernel
theorem dL_law_523 : decode cL_law 523 = .ok (.iaload, 1) := by decide +kernel
theorem dL_law_524 : decode cL_law 524 = .ok (.invokevirtual 59, 3) := by decide +kernel
theorem dL_law_527 : decode cL_law 527 = .ok (.if_icmp .eq 602, 3) := by decide +kernel
theorem dL_law_530 : decode cL_law 530 = .ok (.iconst 0, 1) := by decide +kernel
theorem dL_law_531 : decode cL_law 531 = .ok (.ireturn, 1) := by decide +kernel
theorem dL_law_532 : decode cL_law 532 = .ok (.aload_n 1, 1) := by decide +kernel
theorem dL_law_533 : decode cL_law 533 = .ok (.aload_n 0, 1) := by decide +kernel
theorem dL_law_534 : decode cL_law 534 = .ok (.iload_n 3, 1) := by decide +kernel
theorem dL_law_535 : decode cL_law 535 = .ok (.iconst 1, 1) := by decide +kernel
theorem dL_law_536 : decode cL_law 536 = .ok (.iadd, 1) := by decide +kernel
theorem dL_law_537 : decode cL_law 537 = .ok (.iaload, 1) := by decide +kernel
theorem dL_law_538 : decode cL_law 538 = .ok (.aload_n 0, 1) := by decide +kernel
theorem dL_law_539 : decode cL_law 539 = .ok (.iload_n 3, 1) := by decide +kernel
theorem dL_law_540 : decode cL_law 540 = .ok (.iconst 2, 1) := by decide +kernel
theorem dL_law_541 : decode cL_law 541 = .ok (.iadd, 1) := by decide +kernel
theorem dL_law_542 : decode cL_law 542 = .ok (.iaload, 1) := by decide +kernel
theorem dL_law_543 : decode cL_law 543 = .ok (.invokevirtual 60, 3) := by decide +kernel
theorem dL_law_546 : decode cL_law 546 = .ok (.aload_n 2, 1) := by decide +kernel
theorem dL_law_547 : decode cL_law 547 = .ok (.aload_n 0, 1) := by decide +kernel
theorem dL_law_548 : decode cL_law 548 = .ok (.iload_n 3, 1) := by decide +kernel
theorem dL_law_549 : decode cL_law 549 = .ok (.iconst 1, 1) := by decide +kernel
theorem dL_law_550 : decode cL_law 550 = .ok (.iadd, 1) := by decide +kernel
theorem dL_law_551 : decode cL_law 551 = .ok (.iaload, 1) := by decide +kernel
theorem dL_law_552 : decode cL_law 552 = .ok (.aload_n 0, 1) := by decide +kernel
theorem dL_law_553 : decode cL_law 553 = .ok (.iload_n 3, 1) := by decide +kernel
theorem dL_law_554 : decode cL_law 554 = .ok (.iconst 2, 1) := by decide +kernel
theorem dL_law_555 : decode cL_law 555 = .ok (.iadd, 1) := by decide +kernel
theorem dL_law_556 : decode cL_law 556 = .ok (.iaload, 1) := by decide +kernel
theorem dL_law_557 : decode cL_law 557 = .ok (.invokevirtual 64, 3) := by decide +kernel
theorem dL_law_560 : decode cL_law 560 = .ok (.if_icmp .eq 569, 3) := by decide +kernel
theorem dL_law_563 : decode cL_law 563 = .ok (.iconst 0, 1) := by decide +kernel
theorem dL_law_564 : decode cL_law 564 = .ok (.ireturn, 1) := by decide +kernel
theorem dL_law_565 : decode cL_law 565 = .ok (.aload_n 1, 1) := by decide +kernel
theorem dL_law_566 : decode cL_law 566 = .ok (.aload_n 0, 1) := by decide +kernel
theorem dL_law_567 : decode cL_law 567 = .ok (.iload_n 3, 1) := by decide +kernel
theorem dL_law_568 : decode cL_law 568 = .ok (.iconst 1, 1) := by decide +kernel
theorem dL_law_569 : decode cL_law 569 = .ok (.iadd, 1) := by decide +kernel
theorem dL_law_570 : decode cL_law 570 = .ok (.iaload, 1) := by decide +kernel
theorem dL_law_571 : decode cL_law 571 = .ok (.aload_n 0, 1) := by decide +kernel
theorem dL_law_572 : decode cL_law 572 = .ok (.iload_n 3, 1) := by decide +kernel
theorem dL_law_573 : decode cL_law 573 = .ok (.iconst 2, 1) := by decide +kernel
theorem dL_law_574 : decode cL_law 574 = .ok (.iadd, 1) := by decide +kernel
theorem dL_law_575 : decode cL_law 575 = .ok (.iaload, 1) := by decide +kernel
theorem dL_law_576 : decode cL_law 576 = .ok (.invokevirtual 65, 3) := by decide +kernel
theorem dL_law_579 : decode cL_law 579 = .ok (.aload_n 2, 1) := by decide +kernel
theorem dL_law_580 : decode cL_law 580 = .ok (.aload_n 0, 1) := by decide +kernel
theorem dL_law_581 : decode cL_law 581 = .ok (.iload_n 3, 1) := by decide +kernel
theorem dL_law_582 : decode cL_law 582 = .ok (.iconst 1, 1) := by decide +kernel
theorem dL_law_583 : decode cL_law 583 = .ok (.iadd, 1) := by decide +kernel
theorem dL_law_584 : decode cL_law 584 = .ok (.iaload, 1) := by decide +kernel
theorem dL_law_585 : decode cL_law 585 = .ok (.aload_n 0, 1) := by decide +kernel
theorem dL_law_586 : decode cL_law 586 = .ok (.iload_n 3, 1) := by decide +kernel
theorem dL_law_587 : decode cL_law 587 = .ok (.iconst 2, 1) := by decide +kernel
theorem dL_law_588 : decode cL_law 588 = .ok (.iadd, 1) := by decide +kernel
theorem dL_law_589 : decode cL_law 589 = .ok (.iaload, 1) := by decide +kernel
theorem dL_law_590 : decode cL_law 590 = .ok (.invokevirtual 68, 3) := by decide +kernel
theorem dL_law_593 : decode cL_law 593 = .ok (.if_icmp .eq 536, 3) := by decide +kernel
theorem dL_law_596 : decode cL_law 596 = .ok (.iconst 0, 1) := by decide +kernel
theorem dL_law_597 : decode cL_law 597 = .ok (.ireturn, 1) := by decide +kernel
theorem dL_law_598 : decode cL_law 598 = .ok (.aload_n 1, 1) := by decide +kernel
theorem dL_law_599 : decode cL_law 599 = .ok (.invokevirtual 69, 3) := by decide +kernel
theorem dL_law_602 : decode cL_law 602 = .ok (.aload_n 2, 1) := by decide +kernel
theorem dL_law_603 : decode cL_law 603 = .ok (.invokevirtual 73, 3) := by decide +kernel
theorem dL_law_606 : decode cL_law 606 = .ok (.if_icmp .eq 523, 3) := by decide +kernel
theorem dL_law_609 : decode cL_law 609 = .ok (.iconst 0, 1) := by decide +kernel
theorem dL_law_610 : decode cL_law 610 = .ok (.ireturn, 1) := by decide +kernel
theorem dL_law_611 : decode cL_law 611 = .ok (.aload_n 1, 1) := by decide +kernel
theorem dL_law_612 : decode cL_law 612 = .ok (.invokevirtual 74, 3) := by decide +kernel
theorem dL_law_615 : decode cL_law 615 = .ok (.aload_n 2, 1) := by decide +kernel
theorem dL_law_616 : decode cL_law 616 = .ok (.invokevirtual 77, 3) := by decide +kernel
theorem dL_law_619 : decode cL_law 619 = .ok (.if_icmp .eq 510, 3) := by decide +kernel
theorem dL_law_622 : decode cL_law 622 = .ok (.iconst 0, 1) := by decide +kernel
theorem dL_law_623 : decode cL_law 623 = .ok (.ireturn, 1) := by decide +kernel
theorem dL_law_624 : decode cL_law 624 = .ok (.aload_n 1, 1) := by decide +kernel
theorem dL_law_625 : decode cL_law 625 = .ok (.aload_n 0, 1) := by decide +kernel
theorem dL_law_626 : decode cL_law 626 = .ok (.iload_n 3, 1) := by decide +kernel
theorem dL_law_627 : decode cL_law 627 = .ok (.iconst 1, 1) := by decide +kernel
theorem dL_law_628 : decode cL_law 628 = .ok (.iadd, 1) := by decide +kernel
theorem dL_law_629 : decode cL_law 629 = .ok (.iaload, 1) := by decide +kernel
theorem dL_law_630 : decode cL_law 630 = .ok (.invokevirtual 78, 3) := by decide +kernel
theorem dL_law_633 : decode cL_law 633 = .ok (.aload_n 2, 1) := by decide +kernel
theorem dL_law_634 : decode cL_law 634 = .ok (.aload_n 0, 1) := by decide +kernel
theorem dL_law_635 : decode cL_law 635 = .ok (.iload_n 3, 1) := by decide +kernel
theorem dL_law_636 : decode cL_law 636 = .ok (.iconst 1, 1) := by decide +kernel
theorem dL_law_637 : decode cL_law 637 = .ok (.iadd, 1) := by decide +kernel
theorem dL_law_638 : decode cL_law 638 = .ok (.iaload, 1) := by decide +kernel
theorem dL_law_639 : decode cL_law 639 = .ok (.invokevirtual 81, 3) := by decide +kernel
theorem dL_law_642 : decode cL_law 642 = .ok (.if_icmp .eq 487, 3) := by decide +kernel
theorem dL_law_645 : decode cL_law 645 = .ok (.iconst 0, 1) := by decide +kernel
theorem dL_law_646 : decode cL_law 646 = .ok (.ireturn, 1) := by decide +kernel
theorem dL_law_647 : decode cL_law 647 = .ok (.aload_n 1, 1) := by decide +kernel
theorem dL_law_648 : decode cL_law 648 = .ok (.aload_n 0, 1) := by decide +kernel
theorem dL_law_649 : decode cL_law 649 = .ok (.iload_n 3, 1) := by decide +kernel
theorem dL_law_650 : decode cL_law 650 = .ok (.iconst 1, 1) := by decide +kernel
theorem dL_law_651 : decode cL_law 651 = .ok (.iadd, 1) := by decide +kernel
theorem dL_law_652 : decode cL_law 652 = .ok (.iaload, 1) := by decide +kernel
theorem dL_law_653 : decode cL_law 653 = .ok (.aload_n 0, 1) := by decide +kernel
theorem dL_law_654 : decode cL_law 654 = .ok (.iload_n 3, 1) := by decide +kernel
theorem dL_law_655 : decode cL_law 655 = .ok (.iconst 2, 1) := by decide +kernel
theorem dL_law_656 : decode cL_law 656 = .ok (.iadd, 1) := by decide +kernel
theorem dL_law_657 : decode cL_law 657 = .ok (.iaload, 1) := by decide +kernel
theorem dL_law_658 : decode cL_law 658 = .ok (.invokevirtual 82, 3) := by decide +kernel
theorem dL_law_661 : decode cL_law 661 = .ok (.aload_n 2, 1) := by decide +kernel
theorem dL_law_662 : decode cL_law 662 = .ok (.aload_n 0, 1) := by decide +kernel
theorem dL_law_663 : decode cL_law 663 = .ok (.iload_n 3, 1) := by decide +kernel
theorem dL_law_664 : decode cL_law 664 = .ok (.iconst 1, 1) := by decide +kernel
theorem dL_law_665 : decode cL_law 665 = .ok (.iadd, 1) := by decide +kernel
theorem dL_law_666 : decode cL_law 666 = .ok (.iaload, 1) := by decide +kernel
theorem dL_law_667 : decode cL_law 667 = .ok (.aload_n 0, 1) := by decide +kernel
theorem dL_law_668 : decode cL_law 668 = .ok (.iload_n 3, 1) := by decide +kernel
theorem dL_law_669 : decode cL_law 669 = .ok (.iconst 2, 1) := by decide +kernel
theorem dL_law_670 : decode cL_law 670 = .ok (.iadd, 1) := by decide +kernel
theorem dL_law_671 : decode cL_law 671 = .ok (.iaload, 1) := by decide +kernel
theorem dL_law_672 : decode cL_law 672 = .ok (.invokevirtual 85, 3) := by decide +kernel
theorem dL_law_675 : decode cL_law 675 = .ok (.if_icmp .eq 454, 3) := by decide +kernel
theorem dL_law_678 : decode cL_law 678 = .ok (.iconst 0, 1) := by decide +kernel
theorem dL_law_679 : decode cL_law 679 = .ok (.ireturn, 1) := by decide +kernel
theorem dL_law_680 : decode cL_law 680 = .ok (.aload_n 1, 1) := by decide +kernel
theorem dL_law_681 : decode cL_law 681 = .ok (.aload_n 0, 1) := by decide +kernel
theorem dL_law_682 : decode cL_law 682 = .ok (.iload_n 3, 1) := by decide +kernel
theorem dL_law_683 : decode cL_law 683 = .ok (.iconst 1, 1) := by decide +kernel
theorem dL_law_684 : decode cL_law 684 = .ok (.iadd, 1) := by decide +kernel
theorem dL_law_685 : decode cL_law 685 = .ok (.iaload, 1) := by decide +kernel
theorem dL_law_686 : decode cL_law 686 = .ok (.invokevirtual 86, 3) := by decide +kernel
theorem dL_law_689 : decode cL_law 689 = .ok (.aload_n 2, 1) := by decide +kernel
theorem dL_law_690 : decode cL_law 690 = .ok (.aload_n 0, 1) := by decide +kernel
theorem dL_law_691 : decode cL_law 691 = .ok (.iload_n 3, 1) := by decide +kernel
theorem dL_law_692 : decode cL_law 692 = .ok (.iconst 1, 1) := by decide +kernel
theorem dL_law_693 : decode cL_law 693 = .ok (.iadd, 1) := by decide +kernel
theorem dL_law_694 : decode cL_law 694 = .ok (.iaload, 1) := by decide +kernel
theorem dL_law_695 : decode cL_law 695 = .ok (.invokevirtual 89, 3) := by decide +kernel
theorem dL_law_698 : decode cL_law 698 = .ok (.if_icmp .eq 431, 3) := by decide +kernel
theorem dL_law_701 : decode cL_law 701 = .ok (.iconst 0, 1) := by decide +kernel
theorem dL_law_702 : decode cL_law 702 = .ok (.ireturn, 1) := by decide +kernel
theorem dL_law_703 : decode cL_law 703 = .ok (.aload_n 1, 1) := by decide +kernel
theorem dL_law_704 : decode cL_law 704 = .ok (.aload_n 0, 1) := by decide +kernel
theorem dL_law_705 : decode cL_law 705 = .ok (.iload_n 3, 1) := by decide +kernel
theorem dL_law_706 : decode cL_law 706 = .ok (.iconst 1, 1) := by decide +kernel
theorem dL_law_707 : decode cL_law 707 = .ok (.iadd, 1) := by decide +kernel
theorem dL_law_708 : decode cL_law 708 = .ok (.iaload, 1) := by decide +kernel
theorem dL_law_709 : decode cL_law 709 = .ok (.aload_n 0, 1) := by decide +kernel
theorem dL_law_710 : decode cL_law 710 = .ok (.iload_n 3, 1) := by decide +kernel
theorem dL_law_711 : decode cL_law 711 = .ok (.iconst 2, 1) := by decide +kernel
theorem dL_law_712 : decode cL_law 712 = .ok (.iadd, 1) := by decide +kernel
theorem dL_law_713 : decode cL_law 713 = .ok (.iaload, 1) := by decide +kernel
theorem dL_law_714 : decode cL_law 714 = .ok (.invokevirtual 90, 3) := by decide +kernel
theorem dL_law_717 : decode cL_law 717 = .ok (.aload_n 2, 1) := by decide +kernel
theorem dL_law_718 : decode cL_law 718 = .ok (.aload_n 0, 1) := by decide +kernel
theorem dL_law_719 : decode cL_law 719 = .ok (.iload_n 3, 1) := by decide +kernel
theorem dL_law_720 : decode cL_law 720 = .ok (.iconst 1, 1) := by decide +kernel
theorem dL_law_721 : decode cL_law 721 = .ok (.iadd, 1) := by decide +kernel
theorem dL_law_722 : decode cL_law 722 = .ok (.iaload, 1) := by decide +kernel
theorem dL_law_723 : decode cL_law 723 = .ok (.aload_n 0, 1) := by decide +kernel
theorem dL_law_724 : decode cL_law 724 = .ok (.iload_n 3, 1) := by decide +kernel
theorem dL_law_725 : decode cL_law 725 = .ok (.iconst 2, 1) := by decide +kernel
theorem dL_law_726 : decode cL_law 726 = .ok (.iadd, 1) := by decide +kernel
theorem dL_law_727 : decode cL_law 727 = .ok (.iaload, 1) := by decide +kernel
theorem dL_law_728 : decode cL_law 728 = .ok (.invokevirtual 93, 3) := by decide +kernel
theorem dL_law_731 : decode cL_law 731 = .ok (.if_icmp .eq 398, 3) := by decide +kernel
theorem dL_law_734 : decode cL_law 734 = .ok (.iconst 0, 1) := by decide +kernel
theorem dL_law_735 : decode cL_law 735 = .ok (.ireturn, 1) := by decide +kernel
theorem dL_law_736 : decode cL_law 736 = .ok (.aload_n 1, 1) := by decide +kernel
theorem dL_law_737 : decode cL_law 737 = .ok (.aload_n 0, 1) := by decide +kernel
theorem dL_law_738 : decode cL_law 738 = .ok (.iload_n 3, 1) := by decide +kernel
theorem dL_law_739 : decode cL_law 739 = .ok (.iconst 1, 1) := by decide +kernel
theorem dL_law_740 : decode cL_law 740 = .ok (.iadd, 1) := by decide +kernel
theorem dL_law_741 : decode cL_law 741 = .ok (.iaload, 1) := by decide +kernel
theorem dL_law_742 : decode cL_law 742 = .ok (.aload_n 0, 1) := by decide +kernel
theorem dL_law_743 : decode cL_law 743 = .ok (.iload_n 3, 1) := by decide +kernel
theorem dL_law_744 : decode cL_law 744 = .ok (.iconst 2, 1) := by decide +kernel
theorem dL_law_745 : decode cL_law 745 = .ok (.iadd, 1) := by decide +kernel
theorem dL_law_746 : decode cL_law 746 = .ok (.iaload, 1) := by decide +kernel
theorem dL_law_747 : decode cL_law 747 = .ok (.invokevirtual 94, 3) := by decide +kernel
theorem dL_law_750 : decode cL_law 750 = .ok (.aload_n 2, 1) := by decide +kernel
theorem dL_law_751 : decode cL_law 751 = .ok (.aload_n 0, 1) := by decide +kernel
theorem dL_law_752 : decode cL_law 752 = .ok (.iload_n 3, 1) := by decide +kernel
theorem dL_law_753 : decode cL_law 753 = .ok (.iconst 1, 1) := by decide +kernel
theorem dL_law_754 : decode cL_law 754 = .ok (.iadd, 1) := by decide +kernel
theorem dL_law_755 : decode cL_law 755 = .ok (.iaload, 1) := by decide +kernel
theorem dL_law_756 : decode cL_law 756 = .ok (.aload_n 0, 1) := by decide +kernel
theorem dL_law_757 : decode cL_law 757 = .ok (.iload_n 3, 1) := by decide +kernel
theorem dL_law_758 : decode cL_law 758 = .ok (.iconst 2, 1) := by decide +kernel
theorem dL_law_759 : decode cL_law 759 = .ok (.iadd, 1) := by decide +kernel
theorem dL_law_760 : decode cL_law 760 = .ok (.iaload, 1) := by decide +kernel
theorem dL_law_761 : decode cL_law 761 = .ok (.invokevirtual 97, 3) := by decide +kernel
theorem dL_law_764 : decode cL_law 764 = .ok (.if_icmp .eq 365, 3) := by decide +kernel
theorem dL_law_767 : decode cL_law 767 = .ok (.iconst 0, 1) := by decide +kernel
theorem dL_law_768 : decode cL_law 768 = .ok (.ireturn, 1) := by decide +kernel
theorem dL_law_769 : decode cL_law 769 = .ok (.aload_n 1, 1) := by decide +kernel
theorem dL_law_770 : decode cL_law 770 = .ok (.aload_n 0, 1) := by decide +kernel
theorem dL_law_771 : decode cL_law 771 = .ok (.iload_n 3, 1) := by decide +kernel
theorem dL_law_772 : decode cL_law 772 = .ok (.iconst 1, 1) := by decide +kernel
theorem dL_law_773 : decode cL_law 773 = .ok (.iadd, 1) := by decide +kernel
theorem dL_law_774 : decode cL_law 774 = .ok (.iaload, 1) := by decide +kernel
theorem dL_law_775 : decode cL_law 775 = .ok (.aload_n 0, 1) := by decide +kernel
theorem dL_law_776 : decode cL_law 776 = .ok (.iload_n 3, 1) := by decide +kernel
theorem dL_law_777 : decode cL_law 777 = .ok (.iconst 2, 1) := by decide +kernel
theorem dL_law_778 : decode cL_law 778 = .ok (.iadd, 1) := by decide +kernel
theorem dL_law_779 : decode cL_law 779 = .ok (.iaload, 1) := by decide +kernel
theorem dL_law_780 : decode cL_law 780 = .ok (.aload_n 0, 1) := by decide +kernel
theorem dL_law_781 : decode cL_law 781 = .ok (.iload_n 3, 1) := by decide +kernel
theorem dL_law_782 : decode cL_law 782 = .ok (.iconst 3, 1) := by decide +kernel
theorem dL_law_783 : decode cL_law 783 = .ok (.iadd, 1) := by decide +kernel
theorem dL_law_784 : decode cL_law 784 = .ok (.iaload, 1) := by decide +kernel
theorem dL_law_785 : decode cL_law 785 = .ok (.aload_n 0, 1) := by decide +kernel
theorem dL_law_786 : decode cL_law 786 = .ok (.iload_n 3, 1) := by decide +kernel
theorem dL_law_787 : decode cL_law 787 = .ok (.iconst 4, 1) := by decide +kernel
theorem dL_law_788 : decode cL_law 788 = .ok (.iadd, 1) := by decide +kernel
theorem dL_law_789 : decode cL_law 789 = .ok (.iaload, 1) := by decide +kernel
theorem dL_law_790 : decode cL_law 790 = .ok (.aload_n 0, 1) := by decide +kernel
theorem dL_law_791 : decode cL_law 791 = .ok (.iload_n 3, 1) := by decide +kernel
theorem dL_law_792 : decode cL_law 792 = .ok (.iconst 5, 1) := by decide +kernel
theorem dL_law_793 : decode cL_law 793 = .ok (.iadd, 1) := by decide +kernel
theorem dL_law_794 : decode cL_law 794 = .ok (.iaload, 1) := by decide +kernel
theorem dL_law_795 : decode cL_law 795 = .ok (.invokevirtual 98, 3) := by decide +kernel
theorem dL_law_798 : decode cL_law 798 = .ok (.aload_n 2, 1) := by decide +kernel
theorem dL_law_799 : decode cL_law 799 = .ok (.aload_n 0, 1) := by decide +kernel
theorem dL_law_800 : decode cL_law 800 = .ok (.iload_n 3, 1) := by decide +kernel
theorem dL_law_801 : decode cL_law 801 = .ok (.iconst 1, 1) := by decide +kernel
theorem dL_law_802 : decode cL_law 802 = .ok (.iadd, 1) := by decide +kernel
theorem dL_law_803 : decode cL_law 803 = .ok (.iaload, 1) := by decide +kernel
theorem dL_law_804 : decode cL_law 804 = .ok (.aload_n 0, 1) := by decide +kernel
theorem dL_law_805 : decode cL_law 805 = .ok (.iload_n 3, 1) := by decide +kernel
theorem dL_law_806 : decode cL_law 806 = .ok (.iconst 2, 1) := by decide +kernel
theorem dL_law_807 : decode cL_law 807 = .ok (.iadd, 1) := by decide +kernel
theorem dL_law_808 : decode cL_law 808 = .ok (.iaload, 1) := by decide +kernel
theorem dL_law_809 : decode cL_law 809 = .ok (.aload_n 0, 1) := by decide +kernel
theorem dL_law_810 : decode cL_law 810 = .ok (.iload_n 3, 1) := by decide +kernel
theorem dL_law_811 : decode cL_law 811 = .ok (.iconst 3, 1) := by decide +kernel
theorem dL_law_812 : decode cL_law 812 = .ok (.iadd, 1) := by decide +kernel
theorem dL_law_813 : decode cL_law 813 = .ok (.iaload, 1) := by decide +kernel
theorem dL_law_814 : decode cL_law 814 = .ok (.aload_n 0, 1) := by decide +kernel
theorem dL_law_815 : decode cL_law 815 = .ok (.iload_n 3, 1) := by decide +kernel
theorem dL_law_816 : decode cL_law 816 = .ok (.iconst 4, 1) := by decide +kernel
theorem dL_law_817 : decode cL_law 817 = .ok (.iadd, 1) := by decide +kernel
theorem dL_law_818 : decode cL_law 818 = .ok (.iaload, 1) := by decide +kernel
theorem dL_law_819 : decode cL_law 819 = .ok (.aload_n 0, 1) := by decide +kernel
theorem dL_law_820 : decode cL_law 820 = .ok (.iload_n 3, 1) := by decide +kernel
theorem dL_law_821 : decode cL_law 821 = .ok (.iconst 5, 1) := by decide +kernel
theorem dL_law_822 : decode cL_law 822 = .ok (.iadd, 1) := by decide +kernel
theorem dL_law_823 : decode cL_law 823 = .ok (.iaload, 1) := by decide +kernel
theorem dL_law_824 : decode cL_law 824 = .ok (.invokevirtual 102, 3) := by decide +kernel
theorem dL_law_827 : decode cL_law 827 = .ok (.if_icmp .eq 302, 3) := by decide +kernel
theorem dL_law_830 : decode cL_law 830 = .ok (.iconst 0, 1) := by decide +kernel
theorem dL_law_831 : decode cL_law 831 = .ok (.ireturn, 1) := by decide +kernel
theorem dL_law_832 : decode cL_law 832 = .ok (.aload_n 1, 1) := by decide +kernel
theorem dL_law_833 : decode cL_law 833 = .ok (.aload_n 0, 1) := by decide +kernel
theorem dL_law_834 : decode cL_law 834 = .ok (.iload_n 3, 1) := by decide +kernel
theorem dL_law_835 : decode cL_law 835 = .ok (.iconst 1, 1) := by decide +kernel
theorem dL_law_836 : decode cL_law 836 = .ok (.iadd, 1) := by decide +kernel
theorem dL_law_837 : decode cL_law 837 = .ok (.iaload, 1) := by decide +kernel
theorem dL_law_838 : decode cL_law 838 = .ok (.invokevirtual 103, 3) := by decide +kernel
theorem dL_law_841 : decode cL_law 841 = .ok (.aload_n 2, 1) := by decide +kernel
theorem dL_law_842 : decode cL_law 842 = .ok (.aload_n 0, 1) := by decide +kernel
theorem dL_law_843 : decode cL_law 843 = .ok (.iload_n 3, 1) := by decide +kernel
theorem dL_law_844 : decode cL_law 844 = .ok (.iconst 1, 1) := by decide +kernel
theorem dL_law_845 : decode cL_law 845 = .ok (.iadd, 1) := by decide +kernel
theorem dL_law_846 : decode cL_law 846 = .ok (.iaload, 1) := by decide +kernel
theorem dL_law_847 : decode cL_law 847 = .ok (.invokevirtual 106, 3) := by decide +kernel
theorem dL_law_850 : decode cL_law 850 = .ok (.if_icmp .eq 279, 3) := by decide +kernel
theorem dL_law_853 : decode cL_law 853 = .ok (.iconst 0, 1) := by decide +kernel
theorem dL_law_854 : decode cL_law 854 = .ok (.ireturn, 1) := by decide +kernel
theorem dL_law_855 : decode cL_law 855 = .ok (.aload_n 1, 1) := by decide +kernel
theorem dL_law_856 : decode cL_law 856 = .ok (.invokevirtual 107, 3) := by decide +kernel
theorem dL_law_859 : decode cL_law 859 = .ok (.aload_n 2, 1) := by decide +kernel
theorem dL_law_860 : decode cL_law 860 = .ok (.invokevirtual 110, 3) := by decide +kernel
theorem dL_law_863 : decode cL_law 863 = .ok (.if_icmp .eq 266, 3) := by decide +kernel
theorem dL_law_866 : decode cL_law 866 = .ok (.iconst 0, 1) := by decide +kernel
theorem dL_law_867 : decode cL_law 867 = .ok (.ireturn, 1) := by decide +kernel
theorem dL_law_868 : decode cL_law 868 = .ok (.aload_n 1, 1) := by decide +kernel
theorem dL_law_869 : decode cL_law 869 = .ok (.aload_n 0, 1) := by decide +kernel
theorem dL_law_870 : decode cL_law 870 = .ok (.iload_n 3, 1) := by decide +kernel
theorem dL_law_871 : decode cL_law 871 = .ok (.iconst 1, 1) := by decide +kernel
theorem dL_law_872 : decode cL_law 872 = .ok (.iadd, 1) := by decide +kernel
theorem dL_law_873 : decode cL_law 873 = .ok (.iaload, 1) := by decide +kernel
theorem dL_law_874 : decode cL_law 874 = .ok (.invokevirtual 111, 3) := by decide +kernel
theorem dL_law_877 : decode cL_law 877 = .ok (.aload_n 2, 1) := by decide +kernel
theorem dL_law_878 : decode cL_law 878 = .ok (.aload_n 0, 1) := by decide +kernel
theorem dL_law_879 : decode cL_law 879 = .ok (.iload_n 3, 1) := by decide +kernel
theorem dL_law_880 : decode cL_law 880 = .ok (.iconst 1, 1) := by decide +kernel
theorem dL_law_881 : decode cL_law 881 = .ok (.iadd, 1) := by decide +kernel
theorem dL_law_882 : decode cL_law 882 = .ok (.iaload, 1) := by decide +kernel
theorem dL_law_883 : decode cL_law 883 = .ok (.invokevirtual 114, 3) := by decide +kernel
theorem dL_law_886 : decode cL_law 886 = .ok (.if_icmp .eq 243, 3) := by decide +kernel
theorem dL_law_889 : decode cL_law 889 = .ok (.iconst 0, 1) := by decide +kernel
theorem dL_law_890 : decode cL_law 890 = .ok (.ireturn, 1) := by decide +kernel
theorem dL_law_891 : decode cL_law 891 = .ok (.aload_n 1, 1) := by decide +kernel
theorem dL_law_892 : decode cL_law 892 = .ok (.aload_n 0, 1) := by decide +kernel
theorem dL_law_893 : decode cL_law 893 = .ok (.iload_n 3, 1) := by decide +kernel
theorem dL_law_894 : decode cL_law 894 = .ok (.iconst 1, 1) := by decide +kernel
theorem dL_law_895 : decode cL_law 895 = .ok (.iadd, 1) := by decide +kernel
theorem dL_law_896 : decode cL_law 896 = .ok (.iaload, 1) := by decide +kernel
theorem dL_law_897 : decode cL_law 897 = .ok (.aload_n 0, 1) := by decide +kernel
theorem dL_law_898 : decode cL_law 898 = .ok (.iload_n 3, 1) := by decide +kernel
theorem dL_law_899 : decode cL_law 899 = .ok (.iconst 2, 1) := by decide +kernel
theorem dL_law_900 : decode cL_law 900 = .ok (.iadd, 1) := by decide +kernel
theorem dL_law_901 : decode cL_law 901 = .ok (.iaload, 1) := by decide +kernel
theorem dL_law_902 : decode cL_law 902 = .ok (.invokevirtual 115, 3) := by decide +kernel
theorem dL_law_905 : decode cL_law 905 = .ok (.aload_n 2, 1) := by decide +kernel
theorem dL_law_906 : decode cL_law 906 = .ok (.aload_n 0, 1) := by decide +kernel
theorem dL_law_907 : decode cL_law 907 = .ok (.iload_n 3, 1) := by decide +kernel
theorem dL_law_908 : decode cL_law 908 = .ok (.iconst 1, 1) := by decide +kernel
theorem dL_law_909 : decode cL_law 909 = .ok (.iadd, 1) := by decide +kernel
theorem dL_law_910 : decode cL_law 910 = .ok (.iaload, 1) := by decide +kernel
theorem dL_law_911 : decode cL_law 911 = .ok (.aload_n 0, 1) := by decide +kernel
theorem dL_law_912 : decode cL_law 912 = .ok (.iload_n 3, 1) := by decide +kernel
theorem dL_law_913 : decode cL_law 913 = .ok (.iconst 2, 1) := by decide +kernel
theorem dL_law_914 : decode cL_law 914 = .ok (.iadd, 1) := by decide +kernel
theorem dL_law_915 : decode cL_law 915 = .ok (.iaload, 1) := by decide +kernel
theorem dL_law_916 : decode cL_law 916 = .ok (.invokevirtual 118, 3) := by decide +kernel
theorem dL_law_919 : decode cL_law 919 = .ok (.if_icmp .eq 210, 3) := by decide +kernel
theorem dL_law_922 : decode cL_law 922 = .ok (.iconst 0, 1) := by decide +kernel
theorem dL_law_923 : decode cL_law 923 = .ok (.ireturn, 1) := by decide +kernel
theorem dL_law_924 : decode cL_law 924 = .ok (.aload_n 1, 1) := by decide +kernel
theorem dL_law_925 : decode cL_law 925 = .ok (.aload_n 0, 1) := by decide +kernel
theorem dL_law_926 : decode cL_law 926 = .ok (.iload_n 3, 1) := by decide +kernel
theorem dL_law_927 : decode cL_law 927 = .ok (.iconst 1, 1) := by decide +kernel
theorem dL_law_928 : decode cL_law 928 = .ok (.iadd, 1) := by decide +kernel
theorem dL_law_929 : decode cL_law 929 = .ok (.iaload, 1) := by decide +kernel
theorem dL_law_930 : decode cL_law 930 = .ok (.aload_n 0, 1) := by decide +kernel
theorem dL_law_931 : decode cL_law 931 = .ok (.iload_n 3, 1) := by decide +kernel
theorem dL_law_932 : decode cL_law 932 = .ok (.iconst 2, 1) := by decide +kernel
theorem dL_law_933 : decode cL_law 933 = .ok (.iadd, 1) := by decide +kernel
theorem dL_law_934 : decode cL_law 934 = .ok (.iaload, 1) := by decide +kernel
theorem dL_law_935 : decode cL_law 935 = .ok (.aload_n 0, 1) := by decide +kernel
theorem dL_law_936 : decode cL_law 936 = .ok (.iload_n 3, 1) := by decide +kernel
theorem dL_law_937 : decode cL_law 937 = .ok (.iconst 3, 1) := by decide +kernel
theorem dL_law_938 : decode cL_law 938 = .ok (.iadd, 1) := by decide +kernel
theorem dL_law_939 : decode cL_law 939 = .ok (.iaload, 1) := by decide +kernel
theorem dL_law_940 : decode cL_law 940 = .ok (.aload_n 0, 1) := by decide +kernel
theorem dL_law_941 : decode cL_law 941 = .ok (.iload_n 3, 1) := by decide +kernel
theorem dL_law_942 : decode cL_law 942 = .ok (.iconst 4, 1) := by decide +kernel
theorem dL_law_943 : decode cL_law 943 = .ok (.iadd, 1) := by decide +kernel
theorem dL_law_944 : decode cL_law 944 = .ok (.iaload, 1) := by decide +kernel
theorem dL_law_945 : decode cL_law 945 = .ok (.invokevirtual 119, 3) := by decide +kernel
theorem dL_law_948 : decode cL_law 948 = .ok (.aload_n 2, 1) := by decide +kernel
theorem dL_law_949 : decode cL_law 949 = .ok (.aload_n 0, 1) := by decide +kernel
theorem dL_law_950 : decode cL_law 950 = .ok (.iload_n 3, 1) := by decide +kernel
theorem dL_law_951 : decode cL_law 951 = .ok (.iconst 1, 1) := by decide +kernel
theorem dL_law_952 : decode cL_law 952 = .ok (.iadd, 1) := by decide +kernel
theorem dL_law_953 : decode cL_law 953 = .ok (.iaload, 1) := by decide +kernel
theorem dL_law_954 : decode cL_law 954 = .ok (.aload_n 0, 1) := by decide +kernel
theorem dL_law_955 : decode cL_law 955 = .ok (.iload_n 3, 1) := by decide +kernel
theorem dL_law_956 : decode cL_law 956 = .ok (.iconst 2, 1) := by decide +kernel
theorem dL_law_957 : decode cL_law 957 = .ok (.iadd, 1) := by decide +kernel
theorem dL_law_958 : decode cL_law 958 = .ok (.iaload, 1) := by decide +kernel
theorem dL_law_959 : decode cL_law 959 = .ok (.aload_n 0, 1) := by decide +kernel
theorem dL_law_960 : decode cL_law 960 = .ok (.iload_n 3, 1) := by decide +kernel
theorem dL_law_961 : decode cL_law 961 = .ok (.iconst 3, 1) := by decide +kernel
theorem dL_law_962 : decode cL_law 962 = .ok (.iadd, 1) := by decide +kernel
theorem dL_law_963 : decode cL_law 963 = .ok (.iaload, 1) := by decide +kernel
theorem dL_law_964 : decode cL_law 964 = .ok (.aload_n 0, 1) := by decide +kernel
theorem dL_law_965 : decode cL_law 965 = .ok (.iload_n 3, 1) := by decide +kernel
theorem dL_law_966 : decode cL_law 966 = .ok (.iconst 4, 1) := by decide +kernel
theorem dL_law_967 : decode cL_law 967 = .ok (.iadd, 1) := by decide +kernel
theorem dL_law_968 : decode cL_law 968 = .ok (.iaload, 1) := by decide +kernel
theorem dL_law_969 : decode cL_law 969 = .ok (.invokevirtual 122, 3) := by decide +kernel
theorem dL_law_972 : decode cL_law 972 = .ok (.if_icmp .eq 157, 3) := by decide +kernel
theorem dL_law_975 : decode cL_law 975 = .ok (.iconst 0, 1) := by decide +kernel
theorem dL_law_976 : decode cL_law 976 = .ok (.ireturn, 1) := by decide +kernel
theorem dL_law_977 : decode cL_law 977 = .ok (.aload_n 1, 1) := by decide +kernel
theorem dL_law_978 : decode cL_law 978 = .ok (.aload_n 0, 1) := by decide +kernel
theorem dL_law_979 : decode cL_law 979 = .ok (.iload_n 3, 1) := by decide +kernel
theorem dL_law_980 : decode cL_law 980 = .ok (.iconst 1, 1) := by decide +kernel
theorem dL_law_981 : decode cL_law 981 = .ok (.iadd, 1) := by decide +kernel
theorem dL_law_982 : decode cL_law 982 = .ok (.iaload, 1) := by decide +kernel
theorem dL_law_983 : decode cL_law 983 = .ok (.aload_n 0, 1) := by decide +kernel
theorem dL_law_984 : decode cL_law 984 = .ok (.iload_n 3, 1) := by decide +kernel
theorem dL_law_985 : decode cL_law 985 = .ok (.iconst 2, 1) := by decide +kernel
theorem dL_law_986 : decode cL_law 986 = .ok (.iadd, 1) := by decide +kernel
theorem dL_law_987 : decode cL_law 987 = .ok (.iaload, 1) := by decide +kernel
theorem dL_law_988 : decode cL_law 988 = .ok (.invokevirtual 123, 3) := by decide +kernel
theorem dL_law_991 : decode cL_law 991 = .ok (.aload_n 2, 1) := by decide +kernel
theorem dL_law_992 : decode cL_law 992 = .ok (.aload_n 0, 1) := by decide +kernel
theorem dL_law_993 : decode cL_law 993 = .ok (.iload_n 3, 1) := by decide +kernel
theorem dL_law_994 : decode cL_law 994 = .ok (.iconst 1, 1) := by decide +kernel
theorem dL_law_995 : decode cL_law 995 = .ok (.iadd, 1) := by decide +kernel
theorem dL_law_996 : decode cL_law 996 = .ok (.iaload, 1) := by decide +kernel
theorem dL_law_997 : decode cL_law 997 = .ok (.aload_n 0, 1) := by decide +kernel
theorem dL_law_998 : decode cL_law 998 = .ok (.iload_n 3, 1) := by decide +kernel
theorem dL_law_999 : decode cL_law 999 = .ok (.iconst 2, 1) := by decide +kernel
theorem dL_law_1000 : decode cL_law 1000 = .ok (.iadd, 1) := by decide +kernel
theorem dL_law_1001 : decode cL_law 1001 = .ok (.iaload, 1) := by decide +kernel
theorem dL_law_1002 : decode cL_law 1002 = .ok (.invokevirtual 126, 3) := by decide +kernel
theorem dL_law_1005 : decode cL_law 1005 = .ok (.if_icmp .eq 124, 3) := by decide +kernel
theorem dL_law_1008 : decode cL_law 1008 = .ok (.iconst 0, 1) := by decide +kernel
theorem dL_law_1009 : decode cL_law 1009 = .ok (.ireturn, 1) := by decide +kernel
theorem dL_law_1010 : decode cL_law 1010 = .ok (.aload_n 1, 1) := by decide +kernel
theorem dL_law_1011 : decode cL_law 1011 = .ok (.aload_n 0, 1) := by decide +kernel
theorem dL_law_1012 : decode cL_law 1012 = .ok (.iload_n 3, 1) := by decide +kernel
theorem dL_law_1013 : decode cL_law 1013 = .ok (.iconst 1, 1) := by decide +kernel
theorem dL_law_1014 : decode cL_law 1014 = .ok (.iadd, 1) := by decide +kernel
theorem dL_law_1015 : decode cL_law 1015 = .ok (.iaload, 1) := by decide +kernel
theorem dL_law_1016 : decode cL_law 1016 = .ok (.aload_n 0, 1) := by decide +kernel
theorem dL_law_1017 : decode cL_law 1017 = .ok (.iload_n 3, 1) := by decide +kernel
theorem dL_law_1018 : decode cL_law 1018 = .ok (.iconst 2, 1) := by decide +kernel
theorem dL_law_1019 : decode cL_law 1019 = .ok (.iadd, 1) := by decide +kernel
theorem dL_law_1020 : decode cL_law 1020 = .ok (.iaload, 1) := by decide +kernel
theorem dL_law_1021 : decode cL_law 1021 = .ok (.aload_n 0, 1) := by decide +kernel
theorem dL_law_1022 : decode cL_law 1022 = .ok (.iload_n 3, 1) := by decide +kernel
theorem dL_law_1023 : decode cL_law 1023 = .ok (.iconst 3, 1) := by decide +kernel
theorem dL_law_1024 : decode cL_law 1024 = .ok (.iadd, 1) := by decide +kernel
theorem dL_law_1025 : decode cL_law 1025 = .ok (.iaload, 1) := by decide +kernel
theorem dL_law_1026 : decode cL_law 1026 = .ok (.invokevirtual 127, 3) := by decide +kernel
theorem dL_law_1029 : decode cL_law 1029 = .ok (.aload_n 2, 1) := by decide +kernel
theorem dL_law_1030 : decode cL_law 1030 = .ok (.aload_n 0, 1) := by decide +kernel
theorem dL_law_1031 : decode cL_law 1031 = .ok (.iload_n 3, 1) := by decide +kernel
theorem dL_law_1032 : decode cL_law 1032 = .ok (.iconst 1, 1) := by decide +kernel
theorem dL_law_1033 : decode cL_law 1033 = .ok (.iadd, 1) := by decide +kernel
theorem dL_law_1034 : decode cL_law 1034 = .ok (.iaload, 1) := by decide +kernel
theorem dL_law_1035 : decode cL_law 1035 = .ok (.aload_n 0, 1) := by decide +kernel
theorem dL_law_1036 : decode cL_law 1036 = .ok (.iload_n 3, 1) := by decide +kernel
theorem dL_law_1037 : decode cL_law 1037 = .ok (.iconst 2, 1) := by decide +kernel
theorem dL_law_1038 : decode cL_law 1038 = .ok (.iadd, 1) := by decide +kernel
theorem dL_law_1039 : decode cL_law 1039 = .ok (.iaload, 1) := by decide +kernel
theorem dL_law_1040 : decode cL_law 1040 = .ok (.aload_n 0, 1) := by decide +kernel
theorem dL_law_1041 : decode cL_law 1041 = .ok (.iload_n 3, 1) := by decide +kernel
theorem dL_law_1042 : decode cL_law 1042 = .ok (.iconst 3, 1) := by decide +kernel
theorem dL_law_1043 : decode cL_law 1043 = .ok (.iadd, 1) := by decide +kernel
theorem dL_law_1044 : decode cL_law 1044 = .ok (.iaload, 1) := by decide +kernel
theorem dL_law_1045 : decode cL_law 1045 = .ok (.invokevirtual 131, 3) := by decide +kernel
theorem dL_law_1048 : decode cL_law 1048 = .ok (.if_icmp .eq 81, 3) := by decide +kernel
theorem dL_law_1051 : decode cL_law 1051 = .ok (.iconst 0, 1) := by decide +kernel
theorem dL_law_1052 : decode cL_law 1052 = .ok (.ireturn, 1) := by decide +kernel
theorem dL_law_1053 : decode cL_law 1053 = .ok (.aload_n 1, 1) := by decide +kernel
theorem dL_law_1054 : decode cL_law 1054 = .ok (.aload_n 0, 1) := by decide +kernel
theorem dL_law_1055 : decode cL_law 1055 = .ok (.iload_n 3, 1) := by decide +kernel
theorem dL_law_1056 : decode cL_law 1056 = .ok (.iconst 1, 1) := by decide +kernel
theorem dL_law_1057 : decode cL_law 1057 = .ok (.iadd, 1) := by decide +kernel
theorem dL_law_1058 : decode cL_law 1058 = .ok (.iaload, 1) := by decide +kernel
theorem dL_law_1059 : decode cL_law 1059 = .ok (.aload_n 0, 1) := by decide +kernel
theorem dL_law_1060 : decode cL_law 1060 = .ok (.iload_n 3, 1) := by decide +kernel
theorem dL_law_1061 : decode cL_law 1061 = .ok (.iconst 2, 1) := by decide +kernel
theorem dL_law_1062 : decode cL_law 1062 = .ok (.iadd, 1) := by decide +kernel
theorem dL_law_1063 : decode cL_law 1063 = .ok (.iaload, 1) := by decide +kernel
theorem dL_law_1064 : decode cL_law 1064 = .ok (.aload_n 0, 1) := by decide +kernel
theorem dL_law_1065 : decode cL_law 1065 = .ok (.iload_n 3, 1) := by decide +kernel
theorem dL_law_1066 : decode cL_law 1066 = .ok (.iconst 3, 1) := by decide +kernel
theorem dL_law_1067 : decode cL_law 1067 = .ok (.iadd, 1) := by decide +kernel
theorem dL_law_1068 : decode cL_law 1068 = .ok (.iaload, 1) := by decide +kernel
theorem dL_law_1069 : decode cL_law 1069 = .ok (.aload_n 0, 1) := by decide +kernel
theorem dL_law_1070 : decode cL_law 1070 = .ok (.iload_n 3, 1) := by decide +kernel
theorem dL_law_1071 : decode cL_law 1071 = .ok (.iconst 4, 1) := by decide +kernel
theorem dL_law_1072 : decode cL_law 1072 = .ok (.iadd, 1) := by decide +kernel
theorem dL_law_1073 : decode cL_law 1073 = .ok (.iaload, 1) := by decide +kernel
theorem dL_law_1074 : decode cL_law 1074 = .ok (.invokevirtual 132, 3) := by decide +kernel
theorem dL_law_1077 : decode cL_law 1077 = .ok (.aload_n 2, 1) := by decide +kernel
theorem dL_law_1078 : decode cL_law 1078 = .ok (.aload_n 0, 1) := by decide +kernel
theorem dL_law_1079 : decode cL_law 1079 = .ok (.iload_n 3, 1) := by decide +kernel
theorem dL_law_1080 : decode cL_law 1080 = .ok (.iconst 1, 1) := by decide +kernel
theorem dL_law_1081 : decode cL_law 1081 = .ok (.iadd, 1) := by decide +kernel
theorem dL_law_1082 : decode cL_law 1082 = .ok (.iaload, 1) := by decide +kernel
theorem dL_law_1083 : decode cL_law 1083 = .ok (.aload_n 0, 1) := by decide +kernel
theorem dL_law_1084 : decode cL_law 1084 = .ok (.iload_n 3, 1) := by decide +kernel
theorem dL_law_1085 : decode cL_law 1085 = .ok (.iconst 2, 1) := by decide +kernel
theorem dL_law_1086 : decode cL_law 1086 = .ok (.iadd, 1) := by decide +kernel
theorem dL_law_1087 : decode cL_law 1087 = .ok (.iaload, 1) := by decide +kernel
theorem dL_law_1088 : decode cL_law 1088 = .ok (.aload_n 0, 1) := by decide +kernel
theorem dL_law_1089 : decode cL_law 1089 = .ok (.iload_n 3, 1) := by decide +kernel
theorem dL_law_1090 : decode cL_law 1090 = .ok (.iconst 3, 1) := by decide +kernel
theorem dL_law_1091 : decode cL_law 1091 = .ok (.iadd, 1) := by decide +kernel
theorem dL_law_1092 : decode cL_law 1092 = .ok (.iaload, 1) := by decide +kernel
theorem dL_law_1093 : decode cL_law 1093 = .ok (.aload_n 0, 1) := by decide +kernel
theorem dL_law_1094 : decode cL_law 1094 = .ok (.iload_n 3, 1) := by decide +kernel
theorem dL_law_1095 : decode cL_law 1095 = .ok (.iconst 4, 1) := by decide +kernel
theorem dL_law_1096 : decode cL_law 1096 = .ok (.iadd, 1) := by decide +kernel
theorem dL_law_1097 : decode cL_law 1097 = .ok (.iaload, 1) := by decide +kernel
theorem dL_law_1098 : decode cL_law 1098 = .ok (.invokevirtual 135, 3) := by decide +kernel
theorem dL_law_1101 : decode cL_law 1101 = .ok (.if_icmp .eq 28, 3) := by decide +kernel
theorem dL_law_1104 : decode cL_law 1104 = .ok (.iconst 0, 1) := by decide +kernel
theorem dL_law_1105 : decode cL_law 1105 = .ok (.ireturn, 1) := by decide +kernel
theorem dL_law_1106 : decode cL_law 1106 = .ok (.aload_n 1, 1) := by decide +kernel
theorem dL_law_1107 : decode cL_law 1107 = .ok (.aload_n 0, 1) := by decide +kernel
theorem dL_law_1108 : decode cL_law 1108 = .ok (.iload_n 3, 1) := by decide +kernel
theorem dL_law_1109 : decode cL_law 1109 = .ok (.iconst 1, 1) := by decide +kernel
theorem dL_law_1110 : decode cL_law 1110 = .ok (.iadd, 1) := by decide +kernel
theorem dL_law_1111 : decode cL_law 1111 = .ok (.iaload, 1) := by decide +kernel
theorem dL_law_1112 : decode cL_law 1112 = .ok (.invokevirtual 136, 3) := by decide +kernel
theorem dL_law_1115 : decode cL_law 1115 = .ok (.aload_n 2, 1) := by decide +kernel
theorem dL_law_1116 : decode cL_law 1116 = .ok (.aload_n 0, 1) := by decide +kernel
theorem dL_law_1117 : decode cL_law 1117 = .ok (.iload_n 3, 1) := by decide +kernel
theorem dL_law_1118 : decode cL_law 1118 = .ok (.iconst 1, 1) := by decide +kernel
theorem dL_law_1119 : decode cL_law 1119 = .ok (.iadd, 1) := by decide +kernel
theorem dL_law_1120 : decode cL_law 1120 = .ok (.iaload, 1) := by decide +kernel
theorem dL_law_1121 : decode cL_law 1121 = .ok (.invokevirtual 139, 3) := by decide +kernel
theorem dL_law_1124 : decode cL_law 1124 = .ok (.if_icmp .eq 5, 3) := by decide +kernel
theorem dL_law_1127 : decode cL_law 1127 = .ok (.iconst 0, 1) := by decide +kernel
theorem dL_law_1128 : decode cL_law 1128 = .ok (.ireturn, 1) := by decide +kernel
theorem dL_law_1129 : decode cL_law 1129 = .ok (.iinc 3 7, 3) := by decide +kernel
theorem dL_law_1132 : decode cL_law 1132 = .ok (.goto (-1114), 3) := by decide +kernel
theorem dL_law_1135 : decode cL_law 1135 = .ok (.iconst 1, 1) := by decide +kernel
theorem dL_law_1136 : decode cL_law 1136 = .ok (.ireturn, 1) := by decide +kernel
