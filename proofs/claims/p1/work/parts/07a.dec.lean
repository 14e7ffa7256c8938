abbrev cX11_init : ByteArray := prog_13_method_1_code
def yX11_init : MethodName := ⟨RX11, "<init>", "()V"⟩
theorem dX11_init_0 : decode cX11_init 0 = .ok (.aload_n 0, 1) := by decide +kernel
theorem dX11_init_1 : decode cX11_init 1 = .ok (.invokespecial 1, 3) := by decide +kernel
theorem dX11_init_4 : decode cX11_init 4 = .ok (.aload_n 0, 1) := by decide +kernel
theorem dX11_init_5 : decode cX11_init 5 = .ok (.sipush 400, 3) := by decide +kernel
theorem dX11_init_8 : decode cX11_init 8 = .ok (.newarray .int, 2) := by decide +kernel
theorem dX11_init_10 : decode cX11_init 10 = .ok (.putfield 7, 3) := by decide +kernel
theorem dX11_init_13 : decode cX11_init 13 = .ok (.aload_n 0, 1) := by decide +kernel
theorem dX11_init_14 : decode cX11_init 14 = .ok (.iconst (-1), 1) := by decide +kernel
theorem dX11_init_15 : decode cX11_init 15 = .ok (.putfield 13, 3) := by decide +kernel
theorem dX11_init_18 : decode cX11_init 18 = .ok (.aload_n 0, 1) := by decide +kernel
theorem dX11_init_19 : decode cX11_init 19 = .ok (.bipush 23, 2) := by decide +kernel
theorem dX11_init_21 : decode cX11_init 21 = .ok (.newarray .int, 2) := by decide +kernel
theorem dX11_init_23 : decode cX11_init 23 = .ok (.putfield 17, 3) := by decide +kernel
theorem dX11_init_26 : decode cX11_init 26 = .ok (.aload_n 0, 1) := by decide +kernel
theorem dX11_init_27 : decode cX11_init 27 = .ok (.bipush 92, 2) := by decide +kernel
theorem dX11_init_29 : decode cX11_init 29 = .ok (.newarray .int, 2) := by decide +kernel
theorem dX11_init_31 : decode cX11_init 31 = .ok (.putfield 20, 3) := by decide +kernel
theorem dX11_init_34 : decode cX11_init 34 = .ok (.aload_n 0, 1) := by decide +kernel
theorem dX11_init_35 : decode cX11_init 35 = .ok (.bipush 48, 2) := by decide +kernel
theorem dX11_init_37 : decode cX11_init 37 = .ok (.newarray .int, 2) := by decide +kernel
theorem dX11_init_39 : decode cX11_init 39 = .ok (.putfield 23, 3) := by decide +kernel
theorem dX11_init_42 : decode cX11_init 42 = .ok (.aload_n 0, 1) := by decide +kernel
theorem dX11_init_43 : decode cX11_init 43 = .ok (.iconst 4, 1) := by decide +kernel
theorem dX11_init_44 : decode cX11_init 44 = .ok (.newarray .int, 2) := by decide +kernel
theorem dX11_init_46 : decode cX11_init 46 = .ok (.putfield 26, 3) := by decide +kernel
theorem dX11_init_49 : decode cX11_init 49 = .ok (.aload_n 0, 1) := by decide +kernel
theorem dX11_init_50 : decode cX11_init 50 = .ok (.iconst 4, 1) := by decide +kernel
theorem dX11_init_51 : decode cX11_init 51 = .ok (.newarray .boolean, 2) := by decide +kernel
theorem dX11_init_53 : decode cX11_init 53 = .ok (.putfield 29, 3) := by decide +kernel
theorem dX11_init_56 : decode cX11_init 56 = .ok (.aload_n 0, 1) := by decide +kernel
theorem dX11_init_57 : decode cX11_init 57 = .ok (.iconst 4, 1) := by decide +kernel
theorem dX11_init_58 : decode cX11_init 58 = .ok (.newarray .int, 2) := by decide +kernel
theorem dX11_init_60 : decode cX11_init 60 = .ok (.putfield 33, 3) := by decide +kernel
theorem dX11_init_63 : decode cX11_init 63 = .ok (.aload_n 0, 1) := by decide +kernel
theorem dX11_init_64 : decode cX11_init 64 = .ok (.iconst 4, 1) := by decide +kernel
theorem dX11_init_65 : decode cX11_init 65 = .ok (.newarray .int, 2) := by decide +kernel
theorem dX11_init_67 : decode cX11_init 67 = .ok (.putfield 36, 3) := by decide +kernel
theorem dX11_init_70 : decode cX11_init 70 = .ok (.aload_n 0, 1) := by decide +kernel
theorem dX11_init_71 : decode cX11_init 71 = .ok (.bipush 12, 2) := by decide +kernel
theorem dX11_init_73 : decode cX11_init 73 = .ok (.newarray .int, 2) := by decide +kernel
theorem dX11_init_75 : decode cX11_init 75 = .ok (.putfield 39, 3) := by decide +kernel
theorem dX11_init_78 : decode cX11_init 78 = .ok (.aload_n 0, 1) := by decide +kernel
theorem dX11_init_79 : decode cX11_init 79 = .ok (.bipush 12, 2) := by decide +kernel
theorem dX11_init_81 : decode cX11_init 81 = .ok (.newarray .int, 2) := by decide +kernel
theorem dX11_init_83 : decode cX11_init 83 = .ok (.putfield 42, 3) := by decide +kernel
theorem dX11_init_86 : decode cX11_init 86 = .ok (.aload_n 0, 1) := by decide +kernel
theorem dX11_init_87 : decode cX11_init 87 = .ok (.sipush 300, 3) := by decide +kernel
theorem dX11_init_90 : decode cX11_init 90 = .ok (.newarray .int, 2) := by decide +kernel
theorem dX11_init_92 : decode cX11_init 92 = .ok (.putfield 45, 3) := by decide +kernel
theorem dX11_init_95 : decode cX11_init 95 = .ok (.aload_n 0, 1) := by decide +kernel
theorem dX11_init_96 : decode cX11_init 96 = .ok (.sipush 300, 3) := by decide +kernel
theorem dX11_init_99 : decode cX11_init 99 = .ok (.newarray .int, 2) := by decide +kernel
theorem dX11_init_101 : decode cX11_init 101 = .ok (.putfield 48, 3) := by decide +kernel
theorem dX11_init_104 : decode cX11_init 104 = .ok (.aload_n 0, 1) := by decide +kernel
theorem dX11_init_105 : decode cX11_init 105 = .ok (.sipush 300, 3) := by decide +kernel
theorem dX11_init_108 : decode cX11_init 108 = .ok (.newarray .int, 2) := by decide +kernel
theorem dX11_init_110 : decode cX11_init 110 = .ok (.putfield 51, 3) := by decide +kernel
theorem dX11_init_113 : decode cX11_init 113 = .ok (.aload_n 0, 1) := by decide +kernel
theorem dX11_init_114 : decode cX11_init 114 = .ok (.sipush 300, 3) := by decide +kernel
theorem dX11_init_117 : decode cX11_init 117 = .ok (.newarray .int, 2) := by decide +kernel
theorem dX11_init_119 : decode cX11_init 119 = .ok (.putfield 54, 3) := by decide +kernel
theorem dX11_init_122 : decode cX11_init 122 = .ok (.aload_n 0, 1) := by decide +kernel
theorem dX11_init_123 : decode cX11_init 123 = .ok (.bipush 8, 2) := by decide +kernel
theorem dX11_init_125 : decode cX11_init 125 = .ok (.newarray .int, 2) := by decide +kernel
theorem dX11_init_127 : decode cX11_init 127 = .ok (.putfield 57, 3) := by decide +kernel
theorem dX11_init_130 : decode cX11_init 130 = .ok (.aload_n 0, 1) := by decide +kernel
theorem dX11_init_131 : decode cX11_init 131 = .ok (.bipush 8, 2) := by decide +kernel
theorem dX11_init_133 : decode cX11_init 133 = .ok (.newarray .int, 2) := by decide +kernel
theorem dX11_init_135 : decode cX11_init 135 = .ok (.putfield 60, 3) := by decide +kernel
theorem dX11_init_138 : decode cX11_init 138 = .ok (.aload_n 0, 1) := by decide +kernel
theorem dX11_init_139 : decode cX11_init 139 = .ok (.bipush 50, 2) := by decide +kernel
theorem dX11_init_141 : decode cX11_init 141 = .ok (.newarray .int, 2) := by decide +kernel
theorem dX11_init_143 : decode cX11_init 143 = .ok (.putfield 63, 3) := by decide +kernel
theorem dX11_init_146 : decode cX11_init 146 = .ok (.aload_n 0, 1) := by decide +kernel
theorem dX11_init_147 : decode cX11_init 147 = .ok (.bipush 50, 2) := by decide +kernel
theorem dX11_init_149 : decode cX11_init 149 = .ok (.newarray .int, 2) := by decide +kernel
theorem dX11_init_151 : decode cX11_init 151 = .ok (.putfield 66, 3) := by decide +kernel
theorem dX11_init_154 : decode cX11_init 154 = .ok (.aload_n 0, 1) := by decide +kernel
theorem dX11_init_155 : decode cX11_init 155 = .ok (.bipush 50, 2) := by decide +kernel
theorem dX11_init_157 : decode cX11_init 157 = .ok (.newarray .int, 2) := by decide +kernel
theorem dX11_init_159 : decode cX11_init 159 = .ok (.putfield 69, 3) := by decide +kernel
theorem dX11_init_162 : decode cX11_init 162 = .ok (.aload_n 0, 1) := by decide +kernel
theorem dX11_init_163 : decode cX11_init 163 = .ok (.bipush 50, 2) := by decide +kernel
theorem dX11_init_165 : decode cX11_init 165 = .ok (.newarray .int, 2) := by decide +kernel
theorem dX11_init_167 : decode cX11_init 167 = .ok (.putfield 72, 3) := by decide +kernel
theorem dX11_init_170 : decode cX11_init 170 = .ok (.aload_n 0, 1) := by decide +kernel
theorem dX11_init_171 : decode cX11_init 171 = .ok (.sipush 400, 3) := by decide +kernel
theorem dX11_init_174 : decode cX11_init 174 = .ok (.newarray .int, 2) := by decide +kernel
theorem dX11_init_176 : decode cX11_init 176 = .ok (.putfield 75, 3) := by decide +kernel
theorem dX11_init_179 : decode cX11_init 179 = .ok (.aload_n 0, 1) := by decide +kernel
theorem dX11_init_180 : decode cX11_init 180 = .ok (.sipush 400, 3) := by decide +kernel
theorem dX11_init_183 : decode cX11_init 183 = .ok (.newarray .int, 2) := by decide +kernel
theorem dX11_init_185 : decode cX11_init 185 = .ok (.putfield 78, 3) := by decide +kernel
theorem dX11_init_188 : decode cX11_init 188 = .ok (.aload_n 0, 1) := by decide +kernel
theorem dX11_init_189 : decode cX11_init 189 = .ok (.sipush 400, 3) := by decide +kernel
theorem dX11_init_192 : decode cX11_init 192 = .ok (.newarray .int, 2) := by decide +kernel
theorem dX11_init_194 : decode cX11_init 194 = .ok (.putfield 81, 3) := by decide +kernel
theorem dX11_init_197 : decode cX11_init 197 = .ok (.aload_n 0, 1) := by decide +kernel
theorem dX11_init_198 : decode cX11_init 198 = .ok (.sipush 400, 3) := by decide +kernel
theorem dX11_init_201 : decode cX11_init 201 = .ok (.newarray .int, 2) := by decide +kernel
theorem dX11_init_203 : decode cX11_init 203 = .ok (.putfield 84, 3) := by decide +kernel
theorem dX11_init_206 : decode cX11_init 206 = .ok (.aload_n 0, 1) := by decide +kernel
theorem dX11_init_207 : decode cX11_init 207 = .ok (.sipush 400, 3) := by decide +kernel
theorem dX11_init_210 : decode cX11_init 210 = .ok (.newarray .int, 2) := by decide +kernel
theorem dX11_init_212 : decode cX11_init 212 = .ok (.putfield 87, 3) := by decide +kernel
theorem dX11_init_215 : decode cX11_init 215 = .ok (.aload_n 0, 1) := by decide +kernel
theorem dX11_init_216 : decode cX11_init 216 = .ok (.sipush 400, 3) := by decide +kernel
theorem dX11_init_219 : decode cX11_init 219 = .ok (.newarray .int, 2) := by decide +kernel
theorem dX11_init_221 : decode cX11_init 221 = .ok (.putfield 90, 3) := by decide +kernel
theorem dX11_init_224 : decode cX11_init 224 = .ok (.aload_n 0, 1) := by decide +kernel
theorem dX11_init_225 : decode cX11_init 225 = .ok (.sipush 400, 3) := by decide +kernel
theorem dX11_init_228 : decode cX11_init 228 = .ok (.newarray .int, 2) := by decide +kernel
theorem dX11_init_230 : decode cX11_init 230 = .ok (.putfield 93, 3) := by decide +kernel
theorem dX11_init_233 : decode cX11_init 233 = .ok (.aload_n 0, 1) := by decide +kernel
theorem dX11_init_234 : decode cX11_init 234 = .ok (.sipush 400, 3) := by decide +kernel
theorem dX11_init_237 : decode cX11_init 237 = .ok (.newarray .int, 2) := by decide +kernel
theorem dX11_init_239 : decode cX11_init 239 = .ok (.putfield 96, 3) := by decide +kernel
theorem dX11_init_242 : decode cX11_init 242 = .ok (.aload_n 0, 1) := by decide +kernel
theorem dX11_init_243 : decode cX11_init 243 = .ok (.sipush 400, 3) := by decide +kernel
theorem dX11_init_246 : decode cX11_init 246 = .ok (.newarray .int, 2) := by decide +kernel
theorem dX11_init_248 : decode cX11_init 248 = .ok (.putfield 99, 3) := by decide +kernel
theorem dX11_init_251 : decode cX11_init 251 = .ok (.aload_n 0, 1) := by decide +kernel
theorem dX11_init_252 : decode cX11_init 252 = .ok (.sipush 800, 3) := by decide +kernel
theorem dX11_init_255 : decode cX11_init 255 = .ok (.newarray .int, 2) := by decide +kernel
theorem dX11_init_257 : decode cX11_init 257 = .ok (.putfield 102, 3) := by decide +kernel
theorem dX11_init_260 : decode cX11_init 260 = .ok (.aload_n 0, 1) := by decide +kernel
theorem dX11_init_261 : decode cX11_init 261 = .ok (.sipush 8000, 3) := by decide +kernel
theorem dX11_init_264 : decode cX11_init 264 = .ok (.newarray .int, 2) := by decide +kernel
theorem dX11_init_266 : decode cX11_init 266 = .ok (.putfield 105, 3) := by decide +kernel
theorem dX11_init_269 : decode cX11_init 269 = .ok (.aload_n 0, 1) := by decide +kernel
theorem dX11_init_270 : decode cX11_init 270 = .ok (.sipush 8000, 3) := by decide +kernel
theorem dX11_init_273 : decode cX11_init 273 = .ok (.newarray .int, 2) := by decide +kernel
theorem dX11_init_275 : decode cX11_init 275 = .ok (.putfield 108, 3) := by decide +kernel
theorem dX11_init_278 : decode cX11_init 278 = .ok (.aload_n 0, 1) := by decide +kernel
theorem dX11_init_279 : decode cX11_init 279 = .ok (.sipush 8000, 3) := by decide +kernel
theorem dX11_init_282 : decode cX11_init 282 = .ok (.newarray .int, 2) := by decide +kernel
theorem dX11_init_284 : decode cX11_init 284 = .ok (.putfield 111, 3) := by decide +kernel
theorem dX11_init_287 : decode cX11_init 287 = .ok (.aload_n 0, 1) := by decide +kernel
theorem dX11_init_288 : decode cX11_init 288 = .ok (.sipush 8000, 3) := by decide +kernel
theorem dX11_init_291 : decode cX11_init 291 = .ok (.newarray .boolean, 2) := by decide +kernel
theorem dX11_init_293 : decode cX11_init 293 = .ok (.putfield 114, 3) := by decide +kernel
theorem dX11_init_296 : decode cX11_init 296 = .ok (.aload_n 0, 1) := by decide +kernel
theorem dX11_init_297 : decode cX11_init 297 = .ok (.sipush 800, 3) := by decide +kernel
theorem dX11_init_300 : decode cX11_init 300 = .ok (.newarray .int, 2) := by decide +kernel
theorem dX11_init_302 : decode cX11_init 302 = .ok (.putfield 117, 3) := by decide +kernel
theorem dX11_init_305 : decode cX11_init 305 = .ok (.aload_n 0, 1) := by decide +kernel
theorem dX11_init_306 : decode cX11_init 306 = .ok (.sipush 4800, 3) := by decide +kernel
theorem dX11_init_309 : decode cX11_init 309 = .ok (.newarray .int, 2) := by decide +kernel
theorem dX11_init_311 : decode cX11_init 311 = .ok (.putfield 120, 3) := by decide +kernel
theorem dX11_init_314 : decode cX11_init 314 = .ok (.aload_n 0, 1) := by decide +kernel
theorem dX11_init_315 : decode cX11_init 315 = .ok (.sipush 3200, 3) := by decide +kernel
theorem dX11_init_318 : decode cX11_init 318 = .ok (.newarray .int, 2) := by decide +kernel
theorem dX11_init_320 : decode cX11_init 320 = .ok (.putfield 123, 3) := by decide +kernel
theorem dX11_init_323 : decode cX11_init 323 = .ok (.aload_n 0, 1) := by decide +kernel
theorem dX11_init_324 : decode cX11_init 324 = .ok (.sipush 3000, 3) := by decide +kernel
theorem dX11_init_327 : decode cX11_init 327 = .ok (.newarray .int, 2) := by decide +kernel
theorem dX11_init_329 : decode cX11_init 329 = .ok (.putfield 126, 3) := by decide +kernel
theorem dX11_init_332 : decode cX11_init 332 = .ok (.aload_n 0, 1) := by decide +kernel
theorem dX11_init_333 : decode cX11_init 333 = .ok (.sipush 3000, 3) := by decide +kernel
theorem dX11_init_336 : decode cX11_init 336 = .ok (.newarray .int, 2) := by decide +kernel
theorem dX11_init_338 : decode cX11_init 338 = .ok (.putfield 129, 3) := by decide +kernel
theorem dX11_init_341 : decode cX11_init 341 = .ok (.aload_n 0, 1) := by decide +kernel
theorem dX11_init_342 : decode cX11_init 342 = .ok (.sipush 3000, 3) := by decide +kernel
theorem dX11_init_345 : decode cX11_init 345 = .ok (.newarray .int, 2) := by decide +kernel
theorem dX11_init_347 : decode cX11_init 347 = .ok (.putfield 132, 3) := by decide +kernel
theorem dX11_init_350 : decode cX11_init 350 = .ok (.aload_n 0, 1) := by decide +kernel
theorem dX11_init_351 : decode cX11_init 351 = .ok (.sipush 3000, 3) := by decide +kernel
theorem dX11_init_354 : decode cX11_init 354 = .ok (.newarray .int, 2) := by decide +kernel
theorem dX11_init_356 : decode cX11_init 356 = .ok (.putfield 135, 3) := by decide +kernel
theorem dX11_init_359 : decode cX11_init 359 = .ok (.aload_n 0, 1) := by decide +kernel
theorem dX11_init_360 : decode cX11_init 360 = .ok (.sipush 3000, 3) := by decide +kernel
theorem dX11_init_363 : decode cX11_init 363 = .ok (.newarray .int, 2) := by decide +kernel
theorem dX11_init_365 : decode cX11_init 365 = .ok (.putfield 138, 3) := by decide +kernel
theorem dX11_init_368 : decode cX11_init 368 = .ok (.aload_n 0, 1) := by decide +kernel
theorem dX11_init_369 : decode cX11_init 369 = .ok (.sipush 400, 3) := by decide +kernel
theorem dX11_init_372 : decode cX11_init 372 = .ok (.newarray .int, 2) := by decide +kernel
theorem dX11_init_374 : decode cX11_init 374 = .ok (.putfield 141, 3) := by decide +kernel
theorem dX11_init_377 : decode cX11_init 377 = .ok (.aload_n 0, 1) := by decide +kernel
theorem dX11_init_378 : decode cX11_init 378 = .ok (.sipush 400, 3) := by decide +kernel
theorem dX11_init_381 : decode cX11_init 381 = .ok (.newarray .int, 2) := by decide +kernel
theorem dX11_init_383 : decode cX11_init 383 = .ok (.putfield 144, 3) := by decide +kernel
theorem dX11_init_386 : decode cX11_init 386 = .ok (.aload_n 0, 1) := by decide +kernel
theorem dX11_init_387 : decode cX11_init 387 = .ok (.sipush 400, 3) := by decide +kernel
theorem dX11_init_390 : decode cX11_init 390 = .ok (.newarray .int, 2) := by decide +kernel
theorem dX11_init_392 : decode cX11_init 392 = .ok (.putfield 147, 3) := by decide +kernel
theorem dX11_init_395 : decode cX11_init 395 = .ok (.aload_n 0, 1) := by decide +kernel
theorem dX11_init_396 : decode cX11_init 396 = .ok (.sipush 400, 3) := by decide +kernel
theorem dX11_init_399 : decode cX11_init 399 = .ok (.newarray .int, 2) := by decide +kernel
theorem dX11_init_401 : decode cX11_init 401 = .ok (.putfield 150, 3) := by decide +kernel
theorem dX11_init_404 : decode cX11_init 404 = .ok (.aload_n 0, 1) := by decide +kernel
theorem dX11_init_405 : decode cX11_init 405 = .ok (.bipush 82, 2) := by decide +kernel
theorem dX11_init_407 : decode cX11_init 407 = .ok (.newarray .int, 2) := by decide +kernel
theorem dX11_init_409 : decode cX11_init 409 = .ok (.dup, 1) := by decide +kernel
theorem dX11_init_410 : decode cX11_init 410 = .ok (.iconst 0, 1) := by decide +kernel
theorem dX11_init_411 : decode cX11_init 411 = .ok (.bipush 115, 2) := by decide +kernel
theorem dX11_init_413 : decode cX11_init 413 = .ok (.iastore, 1) := by decide +kernel
theorem dX11_init_414 : decode cX11_init 414 = .ok (.dup, 1) := by decide +kernel
theorem dX11_init_415 : decode cX11_init 415 = .ok (.iconst 1, 1) := by decide +kernel
theorem dX11_init_416 : decode cX11_init 416 = .ok (.bipush 112, 2) := by decide +kernel
theorem dX11_init_418 : decode cX11_init 418 = .ok (.iastore, 1) := by decide +kernel
theorem dX11_init_419 : decode cX11_init 419 = .ok (.dup, 1) := by decide +kernel
theorem dX11_init_420 : decode cX11_init 420 = .ok (.iconst 2, 1) := by decide +kernel
theorem dX11_init_421 : decode cX11_init 421 = .ok (.bipush 111, 2) := by decide +kernel
theorem dX11_init_423 : decode cX11_init 423 = .ok (.iastore, 1) := by decide +kernel
theorem dX11_init_424 : decode cX11_init 424 = .ok (.dup, 1) := by decide +kernel
theorem dX11_init_425 : decode cX11_init 425 = .ok (.iconst 3, 1) := by decide +kernel
theorem dX11_init_426 : decode cX11_init 426 = .ok (.bipush 114, 2) := by decide +kernel
theorem dX11_init_428 : decode cX11_init 428 = .ok (.iastore, 1) := by decide +kernel
theorem dX11_init_429 : decode cX11_init 429 = .ok (.dup, 1) := by decide +kernel
theorem dX11_init_430 : decode cX11_init 430 = .ok (.iconst 4, 1) := by decide +kernel
theorem dX11_init_431 : decode cX11_init 431 = .ok (.bipush 116, 2) := by decide +kernel
theorem dX11_init_433 : decode cX11_init 433 = .ok (.iastore, 1) := by decide +kernel
theorem dX11_init_434 : decode cX11_init 434 = .ok (.dup, 1) := by decide +kernel
theorem dX11_init_435 : decode cX11_init 435 = .ok (.iconst 5, 1) := by decide +kernel
theorem dX11_init_436 : decode cX11_init 436 = .ok (.bipush 32, 2) := by decide +kernel
theorem dX11_init_438 : decode cX11_init 438 = .ok (.iastore, 1) := by decide +kernel
theorem dX11_init_439 : decode cX11_init 439 = .ok (.dup, 1) := by decide +kernel
theorem dX11_init_440 : decode cX11_init 440 = .ok (.bipush 6, 2) := by decide +kernel
theorem dX11_init_442 : decode cX11_init 442 = .ok (.bipush 112, 2) := by decide +kernel
theorem dX11_init_444 : decode cX11_init 444 = .ok (.iastore, 1) := by decide +kernel
theorem dX11_init_445 : decode cX11_init 445 = .ok (.dup, 1) := by decide +kernel
theorem dX11_init_446 : decode cX11_init 446 = .ok (.bipush 7, 2) := by decide +kernel
theorem dX11_init_448 : decode cX11_init 448 = .ok (.bipush 111, 2) := by decide +kernel
theorem dX11_init_450 : decode cX11_init 450 = .ok (.iastore, 1) := by decide +kernel
theorem dX11_init_451 : decode cX11_init 451 = .ok (.dup, 1) := by decide +kernel
theorem dX11_init_452 : decode cX11_init 452 = .ok (.bipush 8, 2) := by decide +kernel
theorem dX11_init_454 : decode cX11_init 454 = .ok (.bipush 105, 2) := by decide +kernel
theorem dX11_init_456 : decode cX11_init 456 = .ok (.iastore, 1) := by decide +kernel
theorem dX11_init_457 : decode cX11_init 457 = .ok (.dup, 1) := by decide +kernel
theorem dX11_init_458 : decode cX11_init 458 = .ok (.bipush 9, 2) := by decide +kernel
theorem dX11_init_460 : decode cX11_init 460 = .ok (.bipush 110, 2) := by decide +kernel
theorem dX11_init_462 : decode cX11_init 462 = .ok (.iastore, 1) := by decide +kernel
theorem dX11_init_463 : decode cX11_init 463 = .ok (.dup, 1) := by decide +kernel
theorem dX11_init_464 : decode cX11_init 464 = .ok (.bipush 10, 2) := by decide +kernel
theorem dX11_init_466 : decode cX11_init 466 = .ok (.bipush 116, 2) := by decide +kernel
theorem dX11_init_468 : decode cX11_init 468 = .ok (.iastore, 1) := by decide +kernel
theorem dX11_init_469 : decode cX11_init 469 = .ok (.dup, 1) := by decide +kernel
theorem dX11_init_470 : decode cX11_init 470 = .ok (.bipush 11, 2) := by decide +kernel
theorem dX11_init_472 : decode cX11_init 472 = .ok (.bipush 115, 2) := by decide +kernel
theorem dX11_init_474 : decode cX11_init 474 = .ok (.iastore, 1) := by decide +kernel
theorem dX11_init_475 : decode cX11_init 475 = .ok (.dup, 1) := by decide +kernel
theorem dX11_init_476 : decode cX11_init 476 = .ok (.bipush 12, 2) := by decide +kernel
theorem dX11_init_478 : decode cX11_init 478 = .ok (.bipush 32, 2) := by decide +kernel
theorem dX11_init_480 : decode cX11_init 480 = .ok (.iastore, 1) := by decide +kernel
theorem dX11_init_481 : decode cX11_init 481 = .ok (.dup, 1) := by decide +kernel
theorem dX11_init_482 : decode cX11_init 482 = .ok (.bipush 13, 2) := by decide +kernel
theorem dX11_init_484 : decode cX11_init 484 = .ok (.bipush 111, 2) := by decide +kernel
theorem dX11_init_486 : decode cX11_init 486 = .ok (.iastore, 1) := by decide +kernel
theorem dX11_init_487 : decode cX11_init 487 = .ok (.dup, 1) := by decide +kernel
theorem dX11_init_488 : decode cX11_init 488 = .ok (.bipush 14, 2) := by decide +kernel
theorem dX11_init_490 : decode cX11_init 490 = .ok (.bipush 114, 2) := by decide +kernel
theorem dX11_init_492 : decode cX11_init 492 = .ok (.iastore, 1) := by decide +kernel
theorem dX11_init_493 : decode cX11_init 493 = .ok (.dup, 1) := by decide +kernel
theorem dX11_init_494 : decode cX11_init 494 = .ok (.bipush 15, 2) := by decide +kernel
theorem dX11_init_496 : decode cX11_init 496 = .ok (.bipush 100, 2) := by decide +kernel
theorem dX11_init_498 : decode cX11_init 498 = .ok (.iastore, 1) := by decide +kernel
theorem dX11_init_499 : decode cX11_init 499 = .ok (.dup, 1) := by decide +kernel
theorem dX11_init_500 : decode cX11_init 500 = .ok (.bipush 16, 2) := by decide +kernel
theorem dX11_init_502 : decode cX11_init 502 = .ok (.bipush 101, 2) := by decide +kernel
theorem dX11_init_504 : decode cX11_init 504 = .ok (.iastore, 1) := by decide +kernel
theorem dX11_init_505 : decode cX11_init 505 = .ok (.dup, 1) := by decide +kernel
theorem dX11_init_506 : decode cX11_init 506 = .ok (.bipush 17, 2) := by decide +kernel
theorem dX11_init_508 : decode cX11_init 508 = .ok (.bipush 114, 2) := by decide +kernel
theorem dX11_init_510 : decode cX11_init 510 = .ok (.iastore, 1) := by decide +kernel
theorem dX11_init_511 : decode cX11_init 511 = .ok (.dup, 1) := by decide +kernel
theorem dX11_init_512 : decode cX11_init 512 = .ok (.bipush 18, 2) := by decide +kernel
theorem dX11_init_514 : decode cX11_init 514 = .ok (.bipush 32, 2) := by decide +kernel
theorem dX11_init_516 : decode cX11_init 516 = .ok (.iastore, 1) := by decide +kernel
theorem dX11_init_517 : decode cX11_init 517 = .ok (.dup, 1) := by decide +kernel
theorem dX11_init_518 : decode cX11_init 518 = .ok (.bipush 19, 2) := by decide +kernel
theorem dX11_init_520 : decode cX11_init 520 = .ok (.bipush 114, 2) := by decide +kernel
theorem dX11_init_522 : decode cX11_init 522 = .ok (.iastore, 1) := by decide +kernel
theorem dX11_init_523 : decode cX11_init 523 = .ok (.dup, 1) := by decide +kernel
theorem dX11_init_524 : decode cX11_init 524 = .ok (.bipush 20, 2) := by decide +kernel
theorem dX11_init_526 : decode cX11_init 526 = .ok (.bipush 101, 2) := by decide +kernel
theorem dX11_init_528 : decode cX11_init 528 = .ok (.iastore, 1) := by decide +kernel
theorem dX11_init_529 : decode cX11_init 529 = .ok (.dup, 1) := by decide +kernel
theorem dX11_init_530 : decode cX11_init 530 = .ok (.bipush 21, 2) := by decide +kernel
theorem dX11_init_532 : decode cX11_init 532 = .ok (.bipush 100, 2) := by decide +kernel
theorem dX11_init_534 : decode cX11_init 534 = .ok (.iastore, 1) := by decide +kernel
theorem dX11_init_535 : decode cX11_init 535 = .ok (.dup, 1) := by decide +kernel
theorem dX11_init_536 : decode cX11_init 536 = .ok (.bipush 22, 2) := by decide +kernel
theorem dX11_init_538 : decode cX11_init 538 = .ok (.bipush 111, 2) := by decide +kernel
theorem dX11_init_540 : decode cX11_init 540 = .ok (.iastore, 1) := by decide +kernel
theorem dX11_init_541 : decode cX11_init 541 = .ok (.dup, 1) := by decide +kernel
theorem dX11_init_542 : decode cX11_init 542 = .ok (.bipush 23, 2) := by decide +kernel
theorem dX11_init_544 : decode cX11_init 544 = .ok (.bipush 32, 2) := by decide +kernel
theorem dX11_init_546 : decode cX11_init 546 = .ok (.iastore, 1) := by decide +kernel
theorem dX11_init_547 : decode cX11_init 547 = .ok (.dup, 1) := by decide +kernel
theorem dX11_init_548 : decode cX11_init 548 = .ok (.bipush 24, 2) := by decide +kernel
theorem dX11_init_550 : decode cX11_init 550 = .ok (.bipush 108, 2) := by decide +kernel
theorem dX11_init_552 : decode cX11_init 552 = .ok (.iastore, 1) := by decide +kernel
theorem dX11_init_553 : decode cX11_init 553 = .ok (.dup, 1) := by decide +kernel
theorem dX11_init_554 : decode cX11_init 554 = .ok (.bipush 25, 2) := by decide +kernel
theorem dX11_init_556 : decode cX11_init 556 = .ok (.bipush 101, 2) := by decide +kernel
theorem dX11_init_558 : decode cX11_init 558 = .ok (.iastore, 1) := by decide +kernel
theorem dX11_init_559 : decode cX11_init 559 = .ok (.dup, 1) := by decide +kernel
theorem dX11_init_560 : decode cX11_init 560 = .ok (.bipush 26, 2) := by decide +kernel
theorem dX11_init_562 : decode cX11_init 562 = .ok (.bipush 103, 2) := by decide +kernel
theorem dX11_init_564 : decode cX11_init 564 = .ok (.iastore, 1) := by decide +kernel
theorem dX11_init_565 : decode cX11_init 565 = .ok (.dup, 1) := by decide +kernel
theorem dX11_init_566 : decode cX11_init 566 = .ok (.bipush 27, 2) := by decide +kernel
theorem dX11_init_568 : decode cX11_init 568 = .ok (.bipush 115, 2) := by decide +kernel
theorem dX11_init_570 : decode cX11_init 570 = .ok (.iastore, 1) := by decide +kernel
theorem dX11_init_571 : decode cX11_init 571 = .ok (.dup, 1) := by decide +kernel
theorem dX11_init_572 : decode cX11_init 572 = .ok (.bipush 28, 2) := by decide +kernel
theorem dX11_init_574 : decode cX11_init 574 = .ok (.bipush 32, 2) := by decide +kernel
theorem dX11_init_576 : decode cX11_init 576 = .ok (.iastore, 1) := by decide +kernel
theorem dX11_init_577 : decode cX11_init 577 = .ok (.dup, 1) := by decide +kernel
theorem dX11_init_578 : decode cX11_init 578 = .ok (.bipush 29, 2) := by decide +kernel
theorem dX11_init_580 : decode cX11_init 580 = .ok (.bipush 101, 2) := by decide +kernel
theorem dX11_init_582 : decode cX11_init 582 = .ok (.iastore, 1) := by decide +kernel
theorem dX11_init_583 : decode cX11_init 583 = .ok (.dup, 1) := by decide +kernel
theorem dX11_init_584 : decode cX11_init 584 = .ok (.bipush 30, 2) := by decide +kernel
theorem dX11_init_586 : decode cX11_init 586 = .ok (.bipush 118, 2) := by decide +kernel
theorem dX11_init_588 : decode cX11_init 588 = .ok (.iastore, 1) := by decide +kernel
theorem dX11_init_589 : decode cX11_init 589 = .ok (.dup, 1) := by decide +kernel
theorem dX11_init_590 : decode cX11_init 590 = .ok (.bipush 31, 2) := by decide +kernel
theorem dX11_init_592 : decode cX11_init 592 = .ok (.bipush 101, 2) := by decide +kernel
theorem dX11_init_594 : decode cX11_init 594 = .ok (.iastore, 1) := by decide +kernel
theorem dX11_init_595 : decode cX11_init 595 = .ok (.dup, 1) := by decide +kernel
theorem dX11_init_596 : decode cX11_init 596 = .ok (.bipush 32, 2) := by decide +kernel
theorem dX11_init_598 : decode cX11_init 598 = .ok (.bipush 114, 2) := by decide +kernel
theorem dX11_init_600 : decode cX11_init 600 = .ok (.iastore, 1) := by decide +kernel
theorem dX11_init_601 : decode cX11_init 601 = .ok (.dup, 1) := by decide +kernel
theorem dX11_init_602 : decode cX11_init 602 = .ok (.bipush 33, 2) := by decide +kernel
theorem dX11_init_604 : decode cX11_init 604 = .ok (.bipush 121, 2) := by decide +kernel
theorem dX11_init_606 : decode cX11_init 606 = .ok (.iastore, 1) := by decide +kernel
theorem dX11_init_607 : decode cX11_init 607 = .ok (.dup, 1) := by decide +kernel
theorem dX11_init_608 : decode cX11_init 608 = .ok (.bipush 34, 2) := by decide +kernel
theorem dX11_init_610 : decode cX11_init 610 = .ok (.bipush 32, 2) := by decide +kernel
theorem dX11_init_612 : decode cX11_init 612 = .ok (.iastore, 1) := by decide +kernel
theorem dX11_init_613 : decode cX11_init 613 = .ok (.dup, 1) := by decide +kernel
theorem dX11_init_614 : decode cX11_init 614 = .ok (.bipush 35, 2) := by decide +kernel
theorem dX11_init_616 : decode cX11_init 616 = .ok (.bipush 114, 2) := by decide +kernel
theorem dX11_init_618 : decode cX11_init 618 = .ok (.iastore, 1) := by decide +kernel
theorem dX11_init_619 : decode cX11_init 619 = .ok (.dup, 1) := by decide +kernel
theorem dX11_init_620 : decode cX11_init 620 = .ok (.bipush 36, 2) := by decide +kernel
theorem dX11_init_622 : decode cX11_init 622 = .ok (.bipush 101, 2) := by decide +kernel
theorem dX11_init_624 : decode cX11_init 624 = .ok (.iastore, 1) := by decide +kernel
theorem dX11_init_625 : decode cX11_init 625 = .ok (.dup, 1) := by decide +kernel
theorem dX11_init_626 : decode cX11_init 626 = .ok (.bipush 37, 2) := by decide +kernel
theorem dX11_init_628 : decode cX11_init 628 = .ok (.bipush 115, 2) := by decide +kernel
theorem dX11_init_630 : decode cX11_init 630 = .ok (.iastore, 1) := by decide +kernel
theorem dX11_init_631 : decode cX11_init 631 = .ok (.dup, 1) := by decide +kernel
theorem dX11_init_632 : decode cX11_init 632 = .ok (.bipush 38, 2) := by decide +kernel
theorem dX11_init_634 : decode cX11_init 634 = .ok (.bipush 116, 2) := by decide +kernel
theorem dX11_init_636 : decode cX11_init 636 = .ok (.iastore, 1) := by decide +kernel
theorem dX11_init_637 : decode cX11_init 637 = .ok (.dup, 1) := by decide +kernel
theorem dX11_init_638 : decode cX11_init 638 = .ok (.bipush 39, 2) := by decide +kernel
theorem dX11_init_640 : decode cX11_init 640 = .ok (.bipush 32, 2) := by decide +kernel
theorem dX11_init_642 : decode cX11_init 642 = .ok (.iastore, 1) := by decide +kernel
theorem dX11_init_643 : decode cX11_init 643 = .ok (.dup, 1) := by decide +kernel
theorem dX11_init_644 : decode cX11_init 644 = .ok (.bipush 40, 2) := by decide +kernel
theorem dX11_init_646 : decode cX11_init 646 = .ok (.bipush 102, 2) := by decide +kernel
theorem dX11_init_648 : decode cX11_init 648 = .ok (.iastore, 1) := by decide +kernel
theorem dX11_init_649 : decode cX11_init 649 = .ok (.dup, 1) := by decide +kernel
theorem dX11_init_650 : decode cX11_init 650 = .ok (.bipush 41, 2) := by decide +kernel
theorem dX11_init_652 : decode cX11_init 652 = .ok (.bipush 105, 2) := by decide +kernel
theorem dX11_init_654 : decode cX11_init 654 = .ok (.iastore, 1) := by decide +kernel
theorem dX11_init_655 : decode cX11_init 655 = .ok (.dup, 1) := by decide +kernel
theorem dX11_init_656 : decode cX11_init 656 = .ok (.bipush 42, 2) := by decide +kernel
theorem dX11_init_658 : decode cX11_init 658 = .ok (.bipush 101, 2) := by decide +kernel
theorem dX11_init_660 : decode cX11_init 660 = .ok (.iastore, 1) := by decide +kernel
theorem dX11_init_661 : decode cX11_init 661 = .ok (.dup, 1) := by decide +kernel
theorem dX11_init_662 : decode cX11_init 662 = .ok (.bipush 43, 2) := by decide +kernel
theorem dX11_init_664 : decode cX11_init 664 = .ok (.bipush 108, 2) := by decide +kernel
theorem dX11_init_666 : decode cX11_init 666 = .ok (.iastore, 1) := by decide +kernel
theorem dX11_init_667 : decode cX11_init 667 = .ok (.dup, 1) := by decide +kernel
theorem dX11_init_668 : decode cX11_init 668 = .ok (.bipush 44, 2) := by decide +kernel
theorem dX11_init_670 : decode cX11_init 670 = .ok (.bipush 100, 2) := by decide +kernel
theorem dX11_init_672 : decode cX11_init 672 = .ok (.iastore, 1) := by decide +kernel
theorem dX11_init_673 : decode cX11_init 673 = .ok (.dup, 1) := by decide +kernel
theorem dX11_init_674 : decode cX11_init 674 = .ok (.bipush 45, 2) := by decide +kernel
theorem dX11_init_676 : decode cX11_init 676 = .ok (.bipush 32, 2) := by decide +kernel
theorem dX11_init_678 : decode cX11_init 678 = .ok (.iastore, 1) := by decide +kernel
theorem dX11_init_679 : decode cX11_init 679 = .ok (.dup, 1) := by decide +kernel
theorem dX11_init_680 : decode cX11_init 680 = .ok (.bipush 46, 2) := by decide +kernel
theorem dX11_init_682 : decode cX11_init 682 = .ok (.bipush 115, 2) := by decide +kernel
theorem dX11_init_684 : decode cX11_init 684 = .ok (.iastore, 1) := by decide +kernel
theorem dX11_init_685 : decode cX11_init 685 = .ok (.dup, 1) := by decide +kernel
theorem dX11_init_686 : decode cX11_init 686 = .ok (.bipush 47, 2) := by decide +kernel
theorem dX11_init_688 : decode cX11_init 688 = .ok (.bipush 117, 2) := by decide +kernel
theorem dX11_init_690 : decode cX11_init 690 = .ok (.iastore, 1) := by decide +kernel
theorem dX11_init_691 : decode cX11_init 691 = .ok (.dup, 1) := by decide +kernel
theorem dX11_init_692 : decode cX11_init 692 = .ok (.bipush 48, 2) := by decide +kernel
theorem dX11_init_694 : decode cX11_init 694 = .ok (.bipush 98, 2) := by decide +kernel
theorem dX11_init_696 : decode cX11_init 696 = .ok (.iastore, 1) := by decide +kernel
theorem dX11_init_697 : decode cX11_init 697 = .ok (.dup, 1) := by decide +kernel
theorem dX11_init_698 : decode cX11_init 698 = .ok (.bipush 49, 2) := by decide +kernel
theorem dX11_init_700 : decode cX11_init 700 = .ok (.bipush 115, 2) := by decide +kernel
theorem dX11_init_702 : decode cX11_init 702 = .ok (.iastore, 1) := by decide +kernel
theorem dX11_init_703 : decode cX11_init 703 = .ok (.dup, 1) := by decide +kernel
theorem dX11_init_704 : decode cX11_init 704 = .ok (.bipush 50, 2) := by decide +kernel
theorem dX11_init_706 : decode cX11_init 706 = .ok (.bipush 32, 2) := by decide +kernel
theorem dX11_init_708 : decode cX11_init 708 = .ok (.iastore, 1) := by decide +kernel
theorem dX11_init_709 : decode cX11_init 709 = .ok (.dup, 1) := by decide +kernel
theorem dX11_init_710 : decode cX11_init 710 = .ok (.bipush 51, 2) := by decide +kernel
theorem dX11_init_712 : decode cX11_init 712 = .ok (.bipush 116, 2) := by decide +kernel
theorem dX11_init_714 : decode cX11_init 714 = .ok (.iastore, 1) := by decide +kernel
theorem dX11_init_715 : decode cX11_init 715 = .ok (.dup, 1) := by decide +kernel
theorem dX11_init_716 : decode cX11_init 716 = .ok (.bipush 52, 2) := by decide +kernel
theorem dX11_init_718 : decode cX11_init 718 = .ok (.bipush 97, 2) := by decide +kernel
theorem dX11_init_720 : decode cX11_init 720 = .ok (.iastore, 1) := by decide +kernel
theorem dX11_init_721 : decode cX11_init 721 = .ok (.dup, 1) := by decide +kernel
theorem dX11_init_722 : decode cX11_init 722 = .ok (.bipush 53, 2) := by decide +kernel
theorem dX11_init_724 : decode cX11_init 724 = .ok (.bipush 114, 2) := by decide +kernel
theorem dX11_init_726 : decode cX11_init 726 = .ok (.iastore, 1) := by decide +kernel
theorem dX11_init_727 : decode cX11_init 727 = .ok (.dup, 1) := by decide +kernel
theorem dX11_init_728 : decode cX11_init 728 = .ok (.bipush 54, 2) := by decide +kernel
theorem dX11_init_730 : decode cX11_init 730 = .ok (.bipush 103, 2) := by decide +kernel
theorem dX11_init_732 : decode cX11_init 732 = .ok (.iastore, 1) := by decide +kernel
theorem dX11_init_733 : decode cX11_init 733 = .ok (.dup, 1) := by decide +kernel
theorem dX11_init_734 : decode cX11_init 734 = .ok (.bipush 55, 2) := by decide +kernel
theorem dX11_init_736 : decode cX11_init 736 = .ok (.bipush 101, 2) := by decide +kernel
theorem dX11_init_738 : decode cX11_init 738 = .ok (.iastore, 1) := by decide +kernel
theorem dX11_init_739 : decode cX11_init 739 = .ok (.dup, 1) := by decide +kernel
theorem dX11_init_740 : decode cX11_init 740 = .ok (.bipush 56, 2) := by decide +kernel
theorem dX11_init_742 : decode cX11_init 742 = .ok (.bipush 116, 2) := by decide +kernel
theorem dX11_init_744 : decode cX11_init 744 = .ok (.iastore, 1) := by decide +kernel
theorem dX11_init_745 : decode cX11_init 745 = .ok (.dup, 1) := by decide +kernel
theorem dX11_init_746 : decode cX11_init 746 = .ok (.bipush 57, 2) := by decide +kernel
theorem dX11_init_748 : decode cX11_init 748 = .ok (.bipush 32, 2) := by decide +kernel
theorem dX11_init_750 : decode cX11_init 750 = .ok (.iastore, 1) := by decide +kernel
theorem dX11_init_751 : decode cX11_init 751 = .ok (.dup, 1) := by decide +kernel
theorem dX11_init_752 : decode cX11_init 752 = .ok (.bipush 58, 2) := by decide +kernel
theorem dX11_init_754 : decode cX11_init 754 = .ok (.bipush 119, 2) := by decide +kernel
theorem dX11_init_756 : decode cX11_init 756 = .ok (.iastore, 1) := by decide +kernel
theorem dX11_init_757 : decode cX11_init 757 = .ok (.dup, 1) := by decide +kernel
theorem dX11_init_758 : decode cX11_init 758 = .ok (.bipush 59, 2) := by decide +kernel
theorem dX11_init_760 : decode cX11_init 760 = .ok (.bipush 97, 2) := by decide +kernel
theorem dX11_init_762 : decode cX11_init 762 = .ok (.iastore, 1) := by decide +kernel
theorem dX11_init_763 : decode cX11_init 763 = .ok (.dup, 1) := by decide +kernel
theorem dX11_init_764 : decode cX11_init 764 = .ok (.bipush 60, 2) := by decide +kernel
theorem dX11_init_766 : decode cX11_init 766 = .ok (.bipush 108, 2) := by decide +kernel
theorem dX11_init_768 : decode cX11_init 768 = .ok (.iastore, 1) := by decide +kernel
theorem dX11_init_769 : decode cX11_init 769 = .ok (.dup, 1) := by decide +kernel
theorem dX11_init_770 : decode cX11_init 770 = .ok (.bipush 61, 2) := by decide +kernel
theorem dX11_init_772 : decode cX11_init 772 = .ok (.bipush 107, 2) := by decide +kernel
theorem dX11_init_774 : decode cX11_init 774 = .ok (.iastore, 1) := by decide +kernel
theorem dX11_init_775 : decode cX11_init 775 = .ok (.dup, 1) := by decide +kernel
theorem dX11_init_776 : decode cX11_init 776 = .ok (.bipush 62, 2) := by decide +kernel
theorem dX11_init_778 : decode cX11_init 778 = .ok (.bipush 111, 2) := by decide +kernel
theorem dX11_init_780 : decode cX11_init 780 = .ok (.iastore, 1) := by decide +kernel
theorem dX11_init_781 : decode cX11_init 781 = .ok (.dup, 1) := by decide +kernel
theorem dX11_init_782 : decode cX11_init 782 = .ok (.bipush 63, 2) := by decide +kernel
theorem dX11_init_784 : decode cX11_init 784 = .ok (.bipush 118, 2) := by decide +kernel
theorem dX11_init_786 : decode cX11_init 786 = .ok (.iastore, 1) := by decide +kernel
theorem dX11_init_787 : decode cX11_init 787 = .ok (.dup, 1) := by decide +kernel
theorem dX11_init_788 : decode cX11_init 788 = .ok (.bipush 64, 2) := by decide +kernel
theorem dX11_init_790 : decode cX11_init 790 = .ok (.bipush 101, 2) := by decide +kernel
theorem dX11_init_792 : decode cX11_init 792 = .ok (.iastore, 1) := by decide +kernel
theorem dX11_init_793 : decode cX11_init 793 = .ok (.dup, 1) := by decide +kernel
theorem dX11_init_794 : decode cX11_init 794 = .ok (.bipush 65, 2) := by decide +kernel
theorem dX11_init_796 : decode cX11_init 796 = .ok (.bipush 114, 2) := by decide +kernel
theorem dX11_init_798 : decode cX11_init 798 = .ok (.iastore, 1) := by decide +kernel
theorem dX11_init_799 : decode cX11_init 799 = .ok (.dup, 1) := by decide +kernel
theorem dX11_init_800 : decode cX11_init 800 = .ok (.bipush 66, 2) := by decide +kernel
theorem dX11_init_802 : decode cX11_init 802 = .ok (.bipush 32, 2) := by decide +kernel
theorem dX11_init_804 : decode cX11_init 804 = .ok (.iastore, 1) := by decide +kernel
theorem dX11_init_805 : decode cX11_init 805 = .ok (.dup, 1) := by decide +kernel
theorem dX11_init_806 : decode cX11_init 806 = .ok (.bipush 67, 2) := by decide +kernel
theorem dX11_init_808 : decode cX11_init 808 = .ok (.bipush 99, 2) := by decide +kernel
theorem dX11_init_810 : decode cX11_init 810 = .ok (.iastore, 1) := by decide +kernel
theorem dX11_init_811 : decode cX11_init 811 = .ok (.dup, 1) := by decide +kernel
theorem dX11_init_812 : decode cX11_init 812 = .ok (.bipush 68, 2) := by decide +kernel
theorem dX11_init_814 : decode cX11_init 814 = .ok (.bipush 97, 2) := by decide +kernel
theorem dX11_init_816 : decode cX11_init 816 = .ok (.iastore, 1) := by decide +kernel
theorem dX11_init_817 : decode cX11_init 817 = .ok (.dup, 1) := by decide +kernel
theorem dX11_init_818 : decode cX11_init 818 = .ok (.bipush 69, 2) := by decide +kernel
theorem dX11_init_820 : decode cX11_init 820 = .ok (.bipush 114, 2) := by decide +kernel
theorem dX11_init_822 : decode cX11_init 822 = .ok (.iastore, 1) := by decide +kernel
theorem dX11_init_823 : decode cX11_init 823 = .ok (.dup, 1) := by decide +kernel
theorem dX11_init_824 : decode cX11_init 824 = .ok (.bipush 70, 2) := by decide +kernel
theorem dX11_init_826 : decode cX11_init 826 = .ok (.bipush 100, 2) := by decide +kernel
theorem dX11_init_828 : decode cX11_init 828 = .ok (.iastore, 1) := by decide +kernel
theorem dX11_init_829 : decode cX11_init 829 = .ok (.dup, 1) := by decide +kernel
theorem dX11_init_830 : decode cX11_init 830 = .ok (.bipush 71, 2) := by decide +kernel
theorem dX11_init_832 : decode cX11_init 832 = .ok (.bipush 115, 2) := by decide +kernel
theorem dX11_init_834 : decode cX11_init 834 = .ok (.iastore, 1) := by decide +kernel
theorem dX11_init_835 : decode cX11_init 835 = .ok (.dup, 1) := by decide +kernel
theorem dX11_init_836 : decode cX11_init 836 = .ok (.bipush 72, 2) := by decide +kernel
theorem dX11_init_838 : decode cX11_init 838 = .ok (.bipush 32, 2) := by decide +kernel
theorem dX11_init_840 : decode cX11_init 840 = .ok (.iastore, 1) := by decide +kernel
theorem dX11_init_841 : decode cX11_init 841 = .ok (.dup, 1) := by decide +kernel
theorem dX11_init_842 : decode cX11_init 842 = .ok (.bipush 73, 2) := by decide +kernel
theorem dX11_init_844 : decode cX11_init 844 = .ok (.bipush 114, 2) := by decide +kernel
theorem dX11_init_846 : decode cX11_init 846 = .ok (.iastore, 1) := by decide +kernel
theorem dX11_init_847 : decode cX11_init 847 = .ok (.dup, 1) := by decide +kernel
theorem dX11_init_848 : decode cX11_init 848 = .ok (.bipush 74, 2) := by decide +kernel
theorem dX11_init_850 : decode cX11_init 850 = .ok (.bipush 101, 2) := by decide +kernel
theorem dX11_init_852 : decode cX11_init 852 = .ok (.iastore, 1) := by decide +kernel
theorem dX11_init_853 : decode cX11_init 853 = .ok (.dup, 1) := by decide +kernel
theorem dX11_init_854 : decode cX11_init 854 = .ok (.bipush 75, 2) := by decide +kernel
theorem dX11_init_856 : decode cX11_init 856 = .ok (.bipush 100, 2) := by decide +kernel
theorem dX11_init_858 : decode cX11_init 858 = .ok (.iastore, 1) := by decide +kernel
theorem dX11_init_859 : decode cX11_init 859 = .ok (.dup, 1) := by decide +kernel
theorem dX11_init_860 : decode cX11_init 860 = .ok (.bipush 76, 2) := by decide +kernel
theorem dX11_init_862 : decode cX11_init 862 = .ok (.bipush 32, 2) := by decide +kernel
theorem dX11_init_864 : decode cX11_init 864 = .ok (.iastore, 1) := by decide +kernel
theorem dX11_init_865 : decode cX11_init 865 = .ok (.dup, 1) := by decide +kernel
theorem dX11_init_866 : decode cX11_init 866 = .ok (.bipush 77, 2) := by decide +kernel
theorem dX11_init_868 : decode cX11_init 868 = .ok (.bipush 115, 2) := by decide +kernel
theorem dX11_init_870 : decode cX11_init 870 = .ok (.iastore, 1) := by decide +kernel
theorem dX11_init_871 : decode cX11_init 871 = .ok (.dup, 1) := by decide +kernel
theorem dX11_init_872 : decode cX11_init 872 = .ok (.bipush 78, 2) := by decide +kernel
theorem dX11_init_874 : decode cX11_init 874 = .ok (.bipush 101, 2) := by decide +kernel
theorem dX11_init_876 : decode cX11_init 876 = .ok (.iastore, 1) := by decide +kernel
theorem dX11_init_877 : decode cX11_init 877 = .ok (.dup, 1) := by decide +kernel
theorem dX11_init_878 : decode cX11_init 878 = .ok (.bipush 79, 2) := by decide +kernel
theorem dX11_init_880 : decode cX11_init 880 = .ok (.bipush 101, 2) := by decide +kernel
theorem dX11_init_882 : decode cX11_init 882 = .ok (.iastore, 1) := by decide +kernel
