/-! The law's instructions -/
theorem dW_0 : decode code 0 = .ok (.new 8, 3) := by decide +kernel
theorem dW_3 : decode code 3 = .ok (.dup, 1) := by decide +kernel
theorem dW_4 : decode code 4 = .ok (.invokespecial 74, 3) := by decide +kernel
theorem dW_7 : decode code 7 = .ok (.astore_n 1, 1) := by decide +kernel
theorem dW_8 : decode code 8 = .ok (.new 75, 3) := by decide +kernel
theorem dW_11 : decode code 11 = .ok (.dup, 1) := by decide +kernel
theorem dW_12 : decode code 12 = .ok (.invokespecial 77, 3) := by decide +kernel
theorem dW_15 : decode code 15 = .ok (.astore_n 2, 1) := by decide +kernel
theorem dW_16 : decode code 16 = .ok (.iconst 1, 1) := by decide +kernel
theorem dW_17 : decode code 17 = .ok (.newarray .long, 2) := by decide +kernel
theorem dW_19 : decode code 19 = .ok (.astore_n 3, 1) := by decide +kernel
theorem dW_20 : decode code 20 = .ok (.iconst 0, 1) := by decide +kernel
theorem dW_21 : decode code 21 = .ok (.istore 4, 2) := by decide +kernel
theorem dW_23 : decode code 23 = .ok (.iload 4, 2) := by decide +kernel
theorem dW_25 : decode code 25 = .ok (.aload_n 0, 1) := by decide +kernel
theorem dW_26 : decode code 26 = .ok (.arraylength, 1) := by decide +kernel
theorem dW_27 : decode code 27 = .ok (.bipush 6, 2) := by decide +kernel
theorem dW_29 : decode code 29 = .ok (.isub, 1) := by decide +kernel
theorem dW_30 : decode code 30 = .ok (.if_icmp .gt 1123, 3) := by decide +kernel
theorem dW_33 : decode code 33 = .ok (.aload_n 0, 1) := by decide +kernel
theorem dW_34 : decode code 34 = .ok (.iload 4, 2) := by decide +kernel
theorem dW_36 : decode code 36 = .ok (.iaload, 1) := by decide +kernel
theorem dW_37 : decode code 37 = .ok (.bipush 31, 2) := by decide +kernel
theorem dW_39 : decode code 39 = .ok (.iand, 1) := by decide +kernel
theorem dW_40 : decode code 40 = .ok (.tableswitch 1107 0 19 #[96, 164, 178, 192, 284, 408, 463, 519, 575, 631, 687, 742, 797, 852, 907, 920, 963, 1006, 1019, 1063], 96) := by decide +kernel
theorem dW_136 : decode code 136 = .ok (.aload_n 1, 1) := by decide +kernel
theorem dW_137 : decode code 137 = .ok (.aload_n 0, 1) := by decide +kernel
theorem dW_138 : decode code 138 = .ok (.iload 4, 2) := by decide +kernel
theorem dW_140 : decode code 140 = .ok (.iconst 1, 1) := by decide +kernel
theorem dW_141 : decode code 141 = .ok (.iadd, 1) := by decide +kernel
theorem dW_142 : decode code 142 = .ok (.iaload, 1) := by decide +kernel
theorem dW_143 : decode code 143 = .ok (.i2l, 1) := by decide +kernel
theorem dW_144 : decode code 144 = .ok (.bipush 32, 2) := by decide +kernel
theorem dW_146 : decode code 146 = .ok (.lshl, 1) := by decide +kernel
theorem dW_147 : decode code 147 = .ok (.aload_n 0, 1) := by decide +kernel
theorem dW_148 : decode code 148 = .ok (.iload 4, 2) := by decide +kernel
theorem dW_150 : decode code 150 = .ok (.iconst 2, 1) := by decide +kernel
theorem dW_151 : decode code 151 = .ok (.iadd, 1) := by decide +kernel
theorem dW_152 : decode code 152 = .ok (.iaload, 1) := by decide +kernel
theorem dW_153 : decode code 153 = .ok (.i2l, 1) := by decide +kernel
theorem dW_154 : decode code 154 = .ok (.ldc2_w 78, 3) := by decide +kernel
theorem dW_157 : decode code 157 = .ok (.land, 1) := by decide +kernel
theorem dW_158 : decode code 158 = .ok (.lor, 1) := by decide +kernel
theorem dW_159 : decode code 159 = .ok (.invokestatic 80, 3) := by decide +kernel
theorem dW_162 : decode code 162 = .ok (.istore 5, 2) := by decide +kernel
theorem dW_164 : decode code 164 = .ok (.aload_n 2, 1) := by decide +kernel
theorem dW_165 : decode code 165 = .ok (.aload_n 0, 1) := by decide +kernel
theorem dW_166 : decode code 166 = .ok (.iload 4, 2) := by decide +kernel
theorem dW_168 : decode code 168 = .ok (.iconst 1, 1) := by decide +kernel
theorem dW_169 : decode code 169 = .ok (.iadd, 1) := by decide +kernel
theorem dW_170 : decode code 170 = .ok (.iaload, 1) := by decide +kernel
theorem dW_171 : decode code 171 = .ok (.i2l, 1) := by decide +kernel
theorem dW_172 : decode code 172 = .ok (.bipush 32, 2) := by decide +kernel
theorem dW_174 : decode code 174 = .ok (.lshl, 1) := by decide +kernel
theorem dW_175 : decode code 175 = .ok (.aload_n 0, 1) := by decide +kernel
theorem dW_176 : decode code 176 = .ok (.iload 4, 2) := by decide +kernel
theorem dW_178 : decode code 178 = .ok (.iconst 2, 1) := by decide +kernel
theorem dW_179 : decode code 179 = .ok (.iadd, 1) := by decide +kernel
theorem dW_180 : decode code 180 = .ok (.iaload, 1) := by decide +kernel
theorem dW_181 : decode code 181 = .ok (.i2l, 1) := by decide +kernel
theorem dW_182 : decode code 182 = .ok (.ldc2_w 78, 3) := by decide +kernel
theorem dW_185 : decode code 185 = .ok (.land, 1) := by decide +kernel
theorem dW_186 : decode code 186 = .ok (.lor, 1) := by decide +kernel
theorem dW_187 : decode code 187 = .ok (.invokevirtual 85, 3) := by decide +kernel
theorem dW_190 : decode code 190 = .ok (.aload_n 2, 1) := by decide +kernel
theorem dW_191 : decode code 191 = .ok (.invokevirtual 86, 3) := by decide +kernel
theorem dW_194 : decode code 194 = .ok (.iload 5, 2) := by decide +kernel
theorem dW_196 : decode code 196 = .ok (.if_icmp .eq 5, 3) := by decide +kernel
theorem dW_199 : decode code 199 = .ok (.iconst 0, 1) := by decide +kernel
theorem dW_200 : decode code 200 = .ok (.ireturn, 1) := by decide +kernel
theorem dW_201 : decode code 201 = .ok (.goto 946, 3) := by decide +kernel
theorem dW_204 : decode code 204 = .ok (.aload_n 1, 1) := by decide +kernel
theorem dW_205 : decode code 205 = .ok (.invokevirtual 89, 3) := by decide +kernel
theorem dW_208 : decode code 208 = .ok (.aload_n 2, 1) := by decide +kernel
theorem dW_209 : decode code 209 = .ok (.invokevirtual 92, 3) := by decide +kernel
theorem dW_212 : decode code 212 = .ok (.lcmp, 1) := by decide +kernel
theorem dW_213 : decode code 213 = .ok (.ifCond .eq 934, 3) := by decide +kernel
theorem dW_216 : decode code 216 = .ok (.iconst 0, 1) := by decide +kernel
theorem dW_217 : decode code 217 = .ok (.ireturn, 1) := by decide +kernel
theorem dW_218 : decode code 218 = .ok (.aload_n 1, 1) := by decide +kernel
theorem dW_219 : decode code 219 = .ok (.invokevirtual 93, 3) := by decide +kernel
theorem dW_222 : decode code 222 = .ok (.aload_n 2, 1) := by decide +kernel
theorem dW_223 : decode code 223 = .ok (.invokevirtual 96, 3) := by decide +kernel
theorem dW_226 : decode code 226 = .ok (.lcmp, 1) := by decide +kernel
theorem dW_227 : decode code 227 = .ok (.ifCond .eq 920, 3) := by decide +kernel
theorem dW_230 : decode code 230 = .ok (.iconst 0, 1) := by decide +kernel
theorem dW_231 : decode code 231 = .ok (.ireturn, 1) := by decide +kernel
theorem dW_232 : decode code 232 = .ok (.aload_n 1, 1) := by decide +kernel
theorem dW_233 : decode code 233 = .ok (.aload_n 0, 1) := by decide +kernel
theorem dW_234 : decode code 234 = .ok (.iload 4, 2) := by decide +kernel
theorem dW_236 : decode code 236 = .ok (.iconst 1, 1) := by decide +kernel
theorem dW_237 : decode code 237 = .ok (.iadd, 1) := by decide +kernel
theorem dW_238 : decode code 238 = .ok (.iaload, 1) := by decide +kernel
theorem dW_239 : decode code 239 = .ok (.aload_n 0, 1) := by decide +kernel
theorem dW_240 : decode code 240 = .ok (.iload 4, 2) := by decide +kernel
theorem dW_242 : decode code 242 = .ok (.iconst 2, 1) := by decide +kernel
theorem dW_243 : decode code 243 = .ok (.iadd, 1) := by decide +kernel
theorem dW_244 : decode code 244 = .ok (.iaload, 1) := by decide +kernel
theorem dW_245 : decode code 245 = .ok (.i2l, 1) := by decide +kernel
theorem dW_246 : decode code 246 = .ok (.bipush 32, 2) := by decide +kernel
theorem dW_248 : decode code 248 = .ok (.lshl, 1) := by decide +kernel
theorem dW_249 : decode code 249 = .ok (.aload_n 0, 1) := by decide +kernel
theorem dW_250 : decode code 250 = .ok (.iload 4, 2) := by decide +kernel
theorem dW_252 : decode code 252 = .ok (.iconst 3, 1) := by decide +kernel
theorem dW_253 : decode code 253 = .ok (.iadd, 1) := by decide +kernel
theorem dW_254 : decode code 254 = .ok (.iaload, 1) := by decide +kernel
theorem dW_255 : decode code 255 = .ok (.i2l, 1) := by decide +kernel
theorem dW_256 : decode code 256 = .ok (.ldc2_w 78, 3) := by decide +kernel
theorem dW_259 : decode code 259 = .ok (.land, 1) := by decide +kernel
theorem dW_260 : decode code 260 = .ok (.lor, 1) := by decide +kernel
theorem dW_261 : decode code 261 = .ok (.aload_n 0, 1) := by decide +kernel
theorem dW_262 : decode code 262 = .ok (.iload 4, 2) := by decide +kernel
theorem dW_264 : decode code 264 = .ok (.iconst 4, 1) := by decide +kernel
theorem dW_265 : decode code 265 = .ok (.iadd, 1) := by decide +kernel
theorem dW_266 : decode code 266 = .ok (.iaload, 1) := by decide +kernel
theorem dW_267 : decode code 267 = .ok (.invokestatic 97, 3) := by decide +kernel
theorem dW_270 : decode code 270 = .ok (.istore 5, 2) := by decide +kernel
theorem dW_272 : decode code 272 = .ok (.aload_n 2, 1) := by decide +kernel
theorem dW_273 : decode code 273 = .ok (.aload_n 0, 1) := by decide +kernel
theorem dW_274 : decode code 274 = .ok (.iload 4, 2) := by decide +kernel
theorem dW_276 : decode code 276 = .ok (.iconst 1, 1) := by decide +kernel
theorem dW_277 : decode code 277 = .ok (.iadd, 1) := by decide +kernel
theorem dW_278 : decode code 278 = .ok (.iaload, 1) := by decide +kernel
theorem dW_279 : decode code 279 = .ok (.aload_n 0, 1) := by decide +kernel
theorem dW_280 : decode code 280 = .ok (.iload 4, 2) := by decide +kernel
theorem dW_282 : decode code 282 = .ok (.iconst 2, 1) := by decide +kernel
theorem dW_283 : decode code 283 = .ok (.iadd, 1) := by decide +kernel
theorem dW_284 : decode code 284 = .ok (.iaload, 1) := by decide +kernel
theorem dW_285 : decode code 285 = .ok (.i2l, 1) := by decide +kernel
theorem dW_286 : decode code 286 = .ok (.bipush 32, 2) := by decide +kernel
theorem dW_288 : decode code 288 = .ok (.lshl, 1) := by decide +kernel
theorem dW_289 : decode code 289 = .ok (.aload_n 0, 1) := by decide +kernel
theorem dW_290 : decode code 290 = .ok (.iload 4, 2) := by decide +kernel
theorem dW_292 : decode code 292 = .ok (.iconst 3, 1) := by decide +kernel
theorem dW_293 : decode code 293 = .ok (.iadd, 1) := by decide +kernel
theorem dW_294 : decode code 294 = .ok (.iaload, 1) := by decide +kernel
theorem dW_295 : decode code 295 = .ok (.i2l, 1) := by decide +kernel
theorem dW_296 : decode code 296 = .ok (.ldc2_w 78, 3) := by decide +kernel
theorem dW_299 : decode code 299 = .ok (.land, 1) := by decide +kernel
theorem dW_300 : decode code 300 = .ok (.lor, 1) := by decide +kernel
theorem dW_301 : decode code 301 = .ok (.aload_n 0, 1) := by decide +kernel
theorem dW_302 : decode code 302 = .ok (.iload 4, 2) := by decide +kernel
theorem dW_304 : decode code 304 = .ok (.iconst 4, 1) := by decide +kernel
theorem dW_305 : decode code 305 = .ok (.iadd, 1) := by decide +kernel
theorem dW_306 : decode code 306 = .ok (.iaload, 1) := by decide +kernel
theorem dW_307 : decode code 307 = .ok (.invokevirtual 100, 3) := by decide +kernel
theorem dW_310 : decode code 310 = .ok (.aload_n 2, 1) := by decide +kernel
theorem dW_311 : decode code 311 = .ok (.invokevirtual 86, 3) := by decide +kernel
theorem dW_314 : decode code 314 = .ok (.iload 5, 2) := by decide +kernel
theorem dW_316 : decode code 316 = .ok (.if_icmp .eq 5, 3) := by decide +kernel
theorem dW_319 : decode code 319 = .ok (.iconst 0, 1) := by decide +kernel
theorem dW_320 : decode code 320 = .ok (.ireturn, 1) := by decide +kernel
theorem dW_321 : decode code 321 = .ok (.goto 826, 3) := by decide +kernel
theorem dW_324 : decode code 324 = .ok (.aload_n 1, 1) := by decide +kernel
theorem dW_325 : decode code 325 = .ok (.aload_n 0, 1) := by decide +kernel
theorem dW_326 : decode code 326 = .ok (.iload 4, 2) := by decide +kernel
theorem dW_328 : decode code 328 = .ok (.iconst 1, 1) := by decide +kernel
theorem dW_329 : decode code 329 = .ok (.iadd, 1) := by decide +kernel
theorem dW_330 : decode code 330 = .ok (.iaload, 1) := by decide +kernel
theorem dW_331 : decode code 331 = .ok (.aload_n 0, 1) := by decide +kernel
theorem dW_332 : decode code 332 = .ok (.iload 4, 2) := by decide +kernel
theorem dW_334 : decode code 334 = .ok (.iconst 2, 1) := by decide +kernel
theorem dW_335 : decode code 335 = .ok (.iadd, 1) := by decide +kernel
theorem dW_336 : decode code 336 = .ok (.iaload, 1) := by decide +kernel
theorem dW_337 : decode code 337 = .ok (.i2l, 1) := by decide +kernel
theorem dW_338 : decode code 338 = .ok (.bipush 32, 2) := by decide +kernel
theorem dW_340 : decode code 340 = .ok (.lshl, 1) := by decide +kernel
theorem dW_341 : decode code 341 = .ok (.aload_n 0, 1) := by decide +kernel
theorem dW_342 : decode code 342 = .ok (.iload 4, 2) := by decide +kernel
theorem dW_344 : decode code 344 = .ok (.iconst 3, 1) := by decide +kernel
theorem dW_345 : decode code 345 = .ok (.iadd, 1) := by decide +kernel
theorem dW_346 : decode code 346 = .ok (.iaload, 1) := by decide +kernel
theorem dW_347 : decode code 347 = .ok (.i2l, 1) := by decide +kernel
theorem dW_348 : decode code 348 = .ok (.ldc2_w 78, 3) := by decide +kernel
theorem dW_351 : decode code 351 = .ok (.land, 1) := by decide +kernel
theorem dW_352 : decode code 352 = .ok (.lor, 1) := by decide +kernel
theorem dW_353 : decode code 353 = .ok (.aload_n 0, 1) := by decide +kernel
theorem dW_354 : decode code 354 = .ok (.iload 4, 2) := by decide +kernel
theorem dW_356 : decode code 356 = .ok (.iconst 4, 1) := by decide +kernel
theorem dW_357 : decode code 357 = .ok (.iadd, 1) := by decide +kernel
theorem dW_358 : decode code 358 = .ok (.iaload, 1) := by decide +kernel
theorem dW_359 : decode code 359 = .ok (.i2l, 1) := by decide +kernel
theorem dW_360 : decode code 360 = .ok (.bipush 32, 2) := by decide +kernel
theorem dW_362 : decode code 362 = .ok (.lshl, 1) := by decide +kernel
theorem dW_363 : decode code 363 = .ok (.aload_n 0, 1) := by decide +kernel
theorem dW_364 : decode code 364 = .ok (.iload 4, 2) := by decide +kernel
theorem dW_366 : decode code 366 = .ok (.iconst 5, 1) := by decide +kernel
theorem dW_367 : decode code 367 = .ok (.iadd, 1) := by decide +kernel
theorem dW_368 : decode code 368 = .ok (.iaload, 1) := by decide +kernel
theorem dW_369 : decode code 369 = .ok (.i2l, 1) := by decide +kernel
theorem dW_370 : decode code 370 = .ok (.ldc2_w 78, 3) := by decide +kernel
theorem dW_373 : decode code 373 = .ok (.land, 1) := by decide +kernel
theorem dW_374 : decode code 374 = .ok (.lor, 1) := by decide +kernel
theorem dW_375 : decode code 375 = .ok (.invokestatic 101, 3) := by decide +kernel
theorem dW_378 : decode code 378 = .ok (.istore 5, 2) := by decide +kernel
theorem dW_380 : decode code 380 = .ok (.aload_n 2, 1) := by decide +kernel
theorem dW_381 : decode code 381 = .ok (.aload_n 0, 1) := by decide +kernel
theorem dW_382 : decode code 382 = .ok (.iload 4, 2) := by decide +kernel
theorem dW_384 : decode code 384 = .ok (.iconst 1, 1) := by decide +kernel
theorem dW_385 : decode code 385 = .ok (.iadd, 1) := by decide +kernel
theorem dW_386 : decode code 386 = .ok (.iaload, 1) := by decide +kernel
theorem dW_387 : decode code 387 = .ok (.aload_n 0, 1) := by decide +kernel
theorem dW_388 : decode code 388 = .ok (.iload 4, 2) := by decide +kernel
theorem dW_390 : decode code 390 = .ok (.iconst 2, 1) := by decide +kernel
theorem dW_391 : decode code 391 = .ok (.iadd, 1) := by decide +kernel
theorem dW_392 : decode code 392 = .ok (.iaload, 1) := by decide +kernel
theorem dW_393 : decode code 393 = .ok (.i2l, 1) := by decide +kernel
theorem dW_394 : decode code 394 = .ok (.bipush 32, 2) := by decide +kernel
theorem dW_396 : decode code 396 = .ok (.lshl, 1) := by decide +kernel
theorem dW_397 : decode code 397 = .ok (.aload_n 0, 1) := by decide +kernel
theorem dW_398 : decode code 398 = .ok (.iload 4, 2) := by decide +kernel
theorem dW_400 : decode code 400 = .ok (.iconst 3, 1) := by decide +kernel
theorem dW_401 : decode code 401 = .ok (.iadd, 1) := by decide +kernel
theorem dW_402 : decode code 402 = .ok (.iaload, 1) := by decide +kernel
theorem dW_403 : decode code 403 = .ok (.i2l, 1) := by decide +kernel
theorem dW_404 : decode code 404 = .ok (.ldc2_w 78, 3) := by decide +kernel
theorem dW_407 : decode code 407 = .ok (.land, 1) := by decide +kernel
theorem dW_408 : decode code 408 = .ok (.lor, 1) := by decide +kernel
theorem dW_409 : decode code 409 = .ok (.aload_n 0, 1) := by decide +kernel
theorem dW_410 : decode code 410 = .ok (.iload 4, 2) := by decide +kernel
theorem dW_412 : decode code 412 = .ok (.iconst 4, 1) := by decide +kernel
theorem dW_413 : decode code 413 = .ok (.iadd, 1) := by decide +kernel
theorem dW_414 : decode code 414 = .ok (.iaload, 1) := by decide +kernel
theorem dW_415 : decode code 415 = .ok (.i2l, 1) := by decide +kernel
theorem dW_416 : decode code 416 = .ok (.bipush 32, 2) := by decide +kernel
theorem dW_418 : decode code 418 = .ok (.lshl, 1) := by decide +kernel
theorem dW_419 : decode code 419 = .ok (.aload_n 0, 1) := by decide +kernel
theorem dW_420 : decode code 420 = .ok (.iload 4, 2) := by decide +kernel
theorem dW_422 : decode code 422 = .ok (.iconst 5, 1) := by decide +kernel
theorem dW_423 : decode code 423 = .ok (.iadd, 1) := by decide +kernel
theorem dW_424 : decode code 424 = .ok (.iaload, 1) := by decide +kernel
theorem dW_425 : decode code 425 = .ok (.i2l, 1) := by decide +kernel
theorem dW_426 : decode code 426 = .ok (.ldc2_w 78, 3) := by decide +kernel
theorem dW_429 : decode code 429 = .ok (.land, 1) := by decide +kernel
theorem dW_430 : decode code 430 = .ok (.lor, 1) := by decide +kernel
theorem dW_431 : decode code 431 = .ok (.invokevirtual 104, 3) := by decide +kernel
theorem dW_434 : decode code 434 = .ok (.aload_n 2, 1) := by decide +kernel
theorem dW_435 : decode code 435 = .ok (.invokevirtual 86, 3) := by decide +kernel
theorem dW_438 : decode code 438 = .ok (.iload 5, 2) := by decide +kernel
theorem dW_440 : decode code 440 = .ok (.if_icmp .eq 5, 3) := by decide +kernel
theorem dW_443 : decode code 443 = .ok (.iconst 0, 1) := by decide +kernel
theorem dW_444 : decode code 444 = .ok (.ireturn, 1) := by decide +kernel
theorem dW_445 : decode code 445 = .ok (.goto 702, 3) := by decide +kernel
theorem dW_448 : decode code 448 = .ok (.aload_n 1, 1) := by decide +kernel
theorem dW_449 : decode code 449 = .ok (.aload_n 0, 1) := by decide +kernel
theorem dW_450 : decode code 450 = .ok (.iload 4, 2) := by decide +kernel
theorem dW_452 : decode code 452 = .ok (.iconst 1, 1) := by decide +kernel
theorem dW_453 : decode code 453 = .ok (.iadd, 1) := by decide +kernel
theorem dW_454 : decode code 454 = .ok (.iaload, 1) := by decide +kernel
theorem dW_455 : decode code 455 = .ok (.aload_n 3, 1) := by decide +kernel
theorem dW_456 : decode code 456 = .ok (.invokestatic 105, 3) := by decide +kernel
theorem dW_459 : decode code 459 = .ok (.istore 5, 2) := by decide +kernel
theorem dW_461 : decode code 461 = .ok (.aload_n 2, 1) := by decide +kernel
theorem dW_462 : decode code 462 = .ok (.aload_n 0, 1) := by decide +kernel
theorem dW_463 : decode code 463 = .ok (.iload 4, 2) := by decide +kernel
theorem dW_465 : decode code 465 = .ok (.iconst 1, 1) := by decide +kernel
theorem dW_466 : decode code 466 = .ok (.iadd, 1) := by decide +kernel
theorem dW_467 : decode code 467 = .ok (.iaload, 1) := by decide +kernel
theorem dW_468 : decode code 468 = .ok (.invokevirtual 108, 3) := by decide +kernel
theorem dW_471 : decode code 471 = .ok (.lstore 6, 2) := by decide +kernel
theorem dW_473 : decode code 473 = .ok (.aload_n 2, 1) := by decide +kernel
theorem dW_474 : decode code 474 = .ok (.invokevirtual 86, 3) := by decide +kernel
theorem dW_477 : decode code 477 = .ok (.iload 5, 2) := by decide +kernel
theorem dW_479 : decode code 479 = .ok (.if_icmp .eq 5, 3) := by decide +kernel
theorem dW_482 : decode code 482 = .ok (.iconst 0, 1) := by decide +kernel
theorem dW_483 : decode code 483 = .ok (.ireturn, 1) := by decide +kernel
theorem dW_484 : decode code 484 = .ok (.iload 5, 2) := by decide +kernel
theorem dW_486 : decode code 486 = .ok (.ifCond .ne 14, 3) := by decide +kernel
theorem dW_489 : decode code 489 = .ok (.aload_n 3, 1) := by decide +kernel
theorem dW_490 : decode code 490 = .ok (.iconst 0, 1) := by decide +kernel
theorem dW_491 : decode code 491 = .ok (.laload, 1) := by decide +kernel
theorem dW_492 : decode code 492 = .ok (.lload 6, 2) := by decide +kernel
theorem dW_494 : decode code 494 = .ok (.lcmp, 1) := by decide +kernel
theorem dW_495 : decode code 495 = .ok (.ifCond .eq 5, 3) := by decide +kernel
theorem dW_498 : decode code 498 = .ok (.iconst 0, 1) := by decide +kernel
theorem dW_499 : decode code 499 = .ok (.ireturn, 1) := by decide +kernel
theorem dW_500 : decode code 500 = .ok (.goto 647, 3) := by decide +kernel
theorem dW_503 : decode code 503 = .ok (.aload_n 1, 1) := by decide +kernel
theorem dW_504 : decode code 504 = .ok (.aload_n 0, 1) := by decide +kernel
theorem dW_505 : decode code 505 = .ok (.iload 4, 2) := by decide +kernel
theorem dW_507 : decode code 507 = .ok (.iconst 1, 1) := by decide +kernel
theorem dW_508 : decode code 508 = .ok (.iadd, 1) := by decide +kernel
theorem dW_509 : decode code 509 = .ok (.iaload, 1) := by decide +kernel
theorem dW_510 : decode code 510 = .ok (.aload_n 3, 1) := by decide +kernel
theorem dW_511 : decode code 511 = .ok (.invokestatic 109, 3) := by decide +kernel
theorem dW_514 : decode code 514 = .ok (.istore 5, 2) := by decide +kernel
theorem dW_516 : decode code 516 = .ok (.aload_n 2, 1) := by decide +kernel
theorem dW_517 : decode code 517 = .ok (.aload_n 0, 1) := by decide +kernel
theorem dW_518 : decode code 518 = .ok (.iload 4, 2) := by decide +kernel
theorem dW_520 : decode code 520 = .ok (.iconst 1, 1) := by decide +kernel
theorem dW_521 : decode code 521 = .ok (.iadd, 1) := by decide +kernel
theorem dW_522 : decode code 522 = .ok (.iaload, 1) := by decide +kernel
theorem dW_523 : decode code 523 = .ok (.invokevirtual 111, 3) := by decide +kernel
theorem dW_526 : decode code 526 = .ok (.istore 6, 2) := by decide +kernel
theorem dW_528 : decode code 528 = .ok (.aload_n 2, 1) := by decide +kernel
theorem dW_529 : decode code 529 = .ok (.invokevirtual 86, 3) := by decide +kernel
theorem dW_532 : decode code 532 = .ok (.iload 5, 2) := by decide +kernel
theorem dW_534 : decode code 534 = .ok (.if_icmp .eq 5, 3) := by decide +kernel
theorem dW_537 : decode code 537 = .ok (.iconst 0, 1) := by decide +kernel
theorem dW_538 : decode code 538 = .ok (.ireturn, 1) := by decide +kernel
theorem dW_539 : decode code 539 = .ok (.iload 5, 2) := by decide +kernel
theorem dW_541 : decode code 541 = .ok (.ifCond .ne 15, 3) := by decide +kernel
theorem dW_544 : decode code 544 = .ok (.aload_n 3, 1) := by decide +kernel
theorem dW_545 : decode code 545 = .ok (.iconst 0, 1) := by decide +kernel
theorem dW_546 : decode code 546 = .ok (.laload, 1) := by decide +kernel
theorem dW_547 : decode code 547 = .ok (.iload 6, 2) := by decide +kernel
theorem dW_549 : decode code 549 = .ok (.i2l, 1) := by decide +kernel
theorem dW_550 : decode code 550 = .ok (.lcmp, 1) := by decide +kernel
theorem dW_551 : decode code 551 = .ok (.ifCond .eq 5, 3) := by decide +kernel
theorem dW_554 : decode code 554 = .ok (.iconst 0, 1) := by decide +kernel
theorem dW_555 : decode code 555 = .ok (.ireturn, 1) := by decide +kernel
theorem dW_556 : decode code 556 = .ok (.goto 591, 3) := by decide +kernel
theorem dW_559 : decode code 559 = .ok (.aload_n 1, 1) := by decide +kernel
theorem dW_560 : decode code 560 = .ok (.aload_n 0, 1) := by decide +kernel
theorem dW_561 : decode code 561 = .ok (.iload 4, 2) := by decide +kernel
theorem dW_563 : decode code 563 = .ok (.iconst 1, 1) := by decide +kernel
theorem dW_564 : decode code 564 = .ok (.iadd, 1) := by decide +kernel
theorem dW_565 : decode code 565 = .ok (.iaload, 1) := by decide +kernel
theorem dW_566 : decode code 566 = .ok (.aload_n 3, 1) := by decide +kernel
theorem dW_567 : decode code 567 = .ok (.invokestatic 112, 3) := by decide +kernel
theorem dW_570 : decode code 570 = .ok (.istore 5, 2) := by decide +kernel
theorem dW_572 : decode code 572 = .ok (.aload_n 2, 1) := by decide +kernel
theorem dW_573 : decode code 573 = .ok (.aload_n 0, 1) := by decide +kernel
theorem dW_574 : decode code 574 = .ok (.iload 4, 2) := by decide +kernel
theorem dW_576 : decode code 576 = .ok (.iconst 1, 1) := by decide +kernel
theorem dW_577 : decode code 577 = .ok (.iadd, 1) := by decide +kernel
theorem dW_578 : decode code 578 = .ok (.iaload, 1) := by decide +kernel
theorem dW_579 : decode code 579 = .ok (.invokevirtual 114, 3) := by decide +kernel
theorem dW_582 : decode code 582 = .ok (.istore 6, 2) := by decide +kernel
theorem dW_584 : decode code 584 = .ok (.aload_n 2, 1) := by decide +kernel
theorem dW_585 : decode code 585 = .ok (.invokevirtual 86, 3) := by decide +kernel
theorem dW_588 : decode code 588 = .ok (.iload 5, 2) := by decide +kernel
theorem dW_590 : decode code 590 = .ok (.if_icmp .eq 5, 3) := by decide +kernel
theorem dW_593 : decode code 593 = .ok (.iconst 0, 1) := by decide +kernel
theorem dW_594 : decode code 594 = .ok (.ireturn, 1) := by decide +kernel
theorem dW_595 : decode code 595 = .ok (.iload 5, 2) := by decide +kernel
theorem dW_597 : decode code 597 = .ok (.ifCond .ne 15, 3) := by decide +kernel
theorem dW_600 : decode code 600 = .ok (.aload_n 3, 1) := by decide +kernel
theorem dW_601 : decode code 601 = .ok (.iconst 0, 1) := by decide +kernel
theorem dW_602 : decode code 602 = .ok (.laload, 1) := by decide +kernel
theorem dW_603 : decode code 603 = .ok (.iload 6, 2) := by decide +kernel
theorem dW_605 : decode code 605 = .ok (.i2l, 1) := by decide +kernel
theorem dW_606 : decode code 606 = .ok (.lcmp, 1) := by decide +kernel
theorem dW_607 : decode code 607 = .ok (.ifCond .eq 5, 3) := by decide +kernel
theorem dW_610 : decode code 610 = .ok (.iconst 0, 1) := by decide +kernel
theorem dW_611 : decode code 611 = .ok (.ireturn, 1) := by decide +kernel
theorem dW_612 : decode code 612 = .ok (.goto 535, 3) := by decide +kernel
theorem dW_615 : decode code 615 = .ok (.aload_n 1, 1) := by decide +kernel
theorem dW_616 : decode code 616 = .ok (.aload_n 0, 1) := by decide +kernel
theorem dW_617 : decode code 617 = .ok (.iload 4, 2) := by decide +kernel
theorem dW_619 : decode code 619 = .ok (.iconst 1, 1) := by decide +kernel
theorem dW_620 : decode code 620 = .ok (.iadd, 1) := by decide +kernel
theorem dW_621 : decode code 621 = .ok (.iaload, 1) := by decide +kernel
theorem dW_622 : decode code 622 = .ok (.aload_n 3, 1) := by decide +kernel
theorem dW_623 : decode code 623 = .ok (.invokestatic 115, 3) := by decide +kernel
theorem dW_626 : decode code 626 = .ok (.istore 5, 2) := by decide +kernel
theorem dW_628 : decode code 628 = .ok (.aload_n 2, 1) := by decide +kernel
theorem dW_629 : decode code 629 = .ok (.aload_n 0, 1) := by decide +kernel
theorem dW_630 : decode code 630 = .ok (.iload 4, 2) := by decide +kernel
theorem dW_632 : decode code 632 = .ok (.iconst 1, 1) := by decide +kernel
theorem dW_633 : decode code 633 = .ok (.iadd, 1) := by decide +kernel
theorem dW_634 : decode code 634 = .ok (.iaload, 1) := by decide +kernel
theorem dW_635 : decode code 635 = .ok (.invokevirtual 117, 3) := by decide +kernel
theorem dW_638 : decode code 638 = .ok (.istore 6, 2) := by decide +kernel
theorem dW_640 : decode code 640 = .ok (.aload_n 2, 1) := by decide +kernel
theorem dW_641 : decode code 641 = .ok (.invokevirtual 86, 3) := by decide +kernel
theorem dW_644 : decode code 644 = .ok (.iload 5, 2) := by decide +kernel
theorem dW_646 : decode code 646 = .ok (.if_icmp .eq 5, 3) := by decide +kernel
theorem dW_649 : decode code 649 = .ok (.iconst 0, 1) := by decide +kernel
theorem dW_650 : decode code 650 = .ok (.ireturn, 1) := by decide +kernel
theorem dW_651 : decode code 651 = .ok (.iload 5, 2) := by decide +kernel
theorem dW_653 : decode code 653 = .ok (.ifCond .ne 15, 3) := by decide +kernel
theorem dW_656 : decode code 656 = .ok (.aload_n 3, 1) := by decide +kernel
theorem dW_657 : decode code 657 = .ok (.iconst 0, 1) := by decide +kernel
theorem dW_658 : decode code 658 = .ok (.laload, 1) := by decide +kernel
theorem dW_659 : decode code 659 = .ok (.iload 6, 2) := by decide +kernel
theorem dW_661 : decode code 661 = .ok (.i2l, 1) := by decide +kernel
theorem dW_662 : decode code 662 = .ok (.lcmp, 1) := by decide +kernel
theorem dW_663 : decode code 663 = .ok (.ifCond .eq 5, 3) := by decide +kernel
theorem dW_666 : decode code 666 = .ok (.iconst 0, 1) := by decide +kernel
theorem dW_667 : decode code 667 = .ok (.ireturn, 1) := by decide +kernel
theorem dW_668 : decode code 668 = .ok (.goto 479, 3) := by decide +kernel
theorem dW_671 : decode code 671 = .ok (.aload_n 1, 1) := by decide +kernel
theorem dW_672 : decode code 672 = .ok (.aload_n 0, 1) := by decide +kernel
theorem dW_673 : decode code 673 = .ok (.iload 4, 2) := by decide +kernel
theorem dW_675 : decode code 675 = .ok (.iconst 1, 1) := by decide +kernel
theorem dW_676 : decode code 676 = .ok (.iadd, 1) := by decide +kernel
theorem dW_677 : decode code 677 = .ok (.iaload, 1) := by decide +kernel
theorem dW_678 : decode code 678 = .ok (.aload_n 3, 1) := by decide +kernel
theorem dW_679 : decode code 679 = .ok (.invokestatic 118, 3) := by decide +kernel
theorem dW_682 : decode code 682 = .ok (.istore 5, 2) := by decide +kernel
theorem dW_684 : decode code 684 = .ok (.aload_n 2, 1) := by decide +kernel
theorem dW_685 : decode code 685 = .ok (.aload_n 0, 1) := by decide +kernel
theorem dW_686 : decode code 686 = .ok (.iload 4, 2) := by decide +kernel
theorem dW_688 : decode code 688 = .ok (.iconst 1, 1) := by decide +kernel
theorem dW_689 : decode code 689 = .ok (.iadd, 1) := by decide +kernel
theorem dW_690 : decode code 690 = .ok (.iaload, 1) := by decide +kernel
theorem dW_691 : decode code 691 = .ok (.invokevirtual 120, 3) := by decide +kernel
theorem dW_694 : decode code 694 = .ok (.istore 6, 2) := by decide +kernel
theorem dW_696 : decode code 696 = .ok (.aload_n 2, 1) := by decide +kernel
theorem dW_697 : decode code 697 = .ok (.invokevirtual 86, 3) := by decide +kernel
theorem dW_700 : decode code 700 = .ok (.iload 5, 2) := by decide +kernel
theorem dW_702 : decode code 702 = .ok (.if_icmp .eq 5, 3) := by decide +kernel
theorem dW_705 : decode code 705 = .ok (.iconst 0, 1) := by decide +kernel
theorem dW_706 : decode code 706 = .ok (.ireturn, 1) := by decide +kernel
theorem dW_707 : decode code 707 = .ok (.iload 5, 2) := by decide +kernel
theorem dW_709 : decode code 709 = .ok (.ifCond .ne 15, 3) := by decide +kernel
theorem dW_712 : decode code 712 = .ok (.aload_n 3, 1) := by decide +kernel
theorem dW_713 : decode code 713 = .ok (.iconst 0, 1) := by decide +kernel
theorem dW_714 : decode code 714 = .ok (.laload, 1) := by decide +kernel
theorem dW_715 : decode code 715 = .ok (.iload 6, 2) := by decide +kernel
theorem dW_717 : decode code 717 = .ok (.i2l, 1) := by decide +kernel
theorem dW_718 : decode code 718 = .ok (.lcmp, 1) := by decide +kernel
theorem dW_719 : decode code 719 = .ok (.ifCond .eq 5, 3) := by decide +kernel
theorem dW_722 : decode code 722 = .ok (.iconst 0, 1) := by decide +kernel
theorem dW_723 : decode code 723 = .ok (.ireturn, 1) := by decide +kernel
theorem dW_724 : decode code 724 = .ok (.goto 423, 3) := by decide +kernel
theorem dW_727 : decode code 727 = .ok (.aload_n 1, 1) := by decide +kernel
theorem dW_728 : decode code 728 = .ok (.aload_n 0, 1) := by decide +kernel
theorem dW_729 : decode code 729 = .ok (.iload 4, 2) := by decide +kernel
theorem dW_731 : decode code 731 = .ok (.iconst 1, 1) := by decide +kernel
theorem dW_732 : decode code 732 = .ok (.iadd, 1) := by decide +kernel
theorem dW_733 : decode code 733 = .ok (.iaload, 1) := by decide +kernel
theorem dW_734 : decode code 734 = .ok (.aload_n 3, 1) := by decide +kernel
theorem dW_735 : decode code 735 = .ok (.invokestatic 121, 3) := by decide +kernel
theorem dW_738 : decode code 738 = .ok (.istore 5, 2) := by decide +kernel
theorem dW_740 : decode code 740 = .ok (.aload_n 2, 1) := by decide +kernel
theorem dW_741 : decode code 741 = .ok (.aload_n 0, 1) := by decide +kernel
theorem dW_742 : decode code 742 = .ok (.iload 4, 2) := by decide +kernel
theorem dW_744 : decode code 744 = .ok (.iconst 1, 1) := by decide +kernel
theorem dW_745 : decode code 745 = .ok (.iadd, 1) := by decide +kernel
theorem dW_746 : decode code 746 = .ok (.iaload, 1) := by decide +kernel
theorem dW_747 : decode code 747 = .ok (.invokevirtual 123, 3) := by decide +kernel
theorem dW_750 : decode code 750 = .ok (.lstore 6, 2) := by decide +kernel
theorem dW_752 : decode code 752 = .ok (.aload_n 2, 1) := by decide +kernel
theorem dW_753 : decode code 753 = .ok (.invokevirtual 86, 3) := by decide +kernel
theorem dW_756 : decode code 756 = .ok (.iload 5, 2) := by decide +kernel
theorem dW_758 : decode code 758 = .ok (.if_icmp .eq 5, 3) := by decide +kernel
theorem dW_761 : decode code 761 = .ok (.iconst 0, 1) := by decide +kernel
theorem dW_762 : decode code 762 = .ok (.ireturn, 1) := by decide +kernel
theorem dW_763 : decode code 763 = .ok (.iload 5, 2) := by decide +kernel
theorem dW_765 : decode code 765 = .ok (.ifCond .ne 14, 3) := by decide +kernel
theorem dW_768 : decode code 768 = .ok (.aload_n 3, 1) := by decide +kernel
theorem dW_769 : decode code 769 = .ok (.iconst 0, 1) := by decide +kernel
theorem dW_770 : decode code 770 = .ok (.laload, 1) := by decide +kernel
theorem dW_771 : decode code 771 = .ok (.lload 6, 2) := by decide +kernel
theorem dW_773 : decode code 773 = .ok (.lcmp, 1) := by decide +kernel
theorem dW_774 : decode code 774 = .ok (.ifCond .eq 5, 3) := by decide +kernel
theorem dW_777 : decode code 777 = .ok (.iconst 0, 1) := by decide +kernel
theorem dW_778 : decode code 778 = .ok (.ireturn, 1) := by decide +kernel
theorem dW_779 : decode code 779 = .ok (.goto 368, 3) := by decide +kernel
theorem dW_782 : decode code 782 = .ok (.aload_n 1, 1) := by decide +kernel
theorem dW_783 : decode code 783 = .ok (.aload_n 0, 1) := by decide +kernel
theorem dW_784 : decode code 784 = .ok (.iload 4, 2) := by decide +kernel
theorem dW_786 : decode code 786 = .ok (.iconst 1, 1) := by decide +kernel
theorem dW_787 : decode code 787 = .ok (.iadd, 1) := by decide +kernel
theorem dW_788 : decode code 788 = .ok (.iaload, 1) := by decide +kernel
theorem dW_789 : decode code 789 = .ok (.aload_n 3, 1) := by decide +kernel
theorem dW_790 : decode code 790 = .ok (.invokestatic 124, 3) := by decide +kernel
theorem dW_793 : decode code 793 = .ok (.istore 5, 2) := by decide +kernel
theorem dW_795 : decode code 795 = .ok (.aload_n 2, 1) := by decide +kernel
theorem dW_796 : decode code 796 = .ok (.aload_n 0, 1) := by decide +kernel
theorem dW_797 : decode code 797 = .ok (.iload 4, 2) := by decide +kernel
theorem dW_799 : decode code 799 = .ok (.iconst 1, 1) := by decide +kernel
theorem dW_800 : decode code 800 = .ok (.iadd, 1) := by decide +kernel
theorem dW_801 : decode code 801 = .ok (.iaload, 1) := by decide +kernel
theorem dW_802 : decode code 802 = .ok (.invokevirtual 126, 3) := by decide +kernel
theorem dW_805 : decode code 805 = .ok (.lstore 6, 2) := by decide +kernel
theorem dW_807 : decode code 807 = .ok (.aload_n 2, 1) := by decide +kernel
theorem dW_808 : decode code 808 = .ok (.invokevirtual 86, 3) := by decide +kernel
theorem dW_811 : decode code 811 = .ok (.iload 5, 2) := by decide +kernel
theorem dW_813 : decode code 813 = .ok (.if_icmp .eq 5, 3) := by decide +kernel
theorem dW_816 : decode code 816 = .ok (.iconst 0, 1) := by decide +kernel
theorem dW_817 : decode code 817 = .ok (.ireturn, 1) := by decide +kernel
theorem dW_818 : decode code 818 = .ok (.iload 5, 2) := by decide +kernel
theorem dW_820 : decode code 820 = .ok (.ifCond .ne 14, 3) := by decide +kernel
theorem dW_823 : decode code 823 = .ok (.aload_n 3, 1) := by decide +kernel
theorem dW_824 : decode code 824 = .ok (.iconst 0, 1) := by decide +kernel
theorem dW_825 : decode code 825 = .ok (.laload, 1) := by decide +kernel
theorem dW_826 : decode code 826 = .ok (.lload 6, 2) := by decide +kernel
theorem dW_828 : decode code 828 = .ok (.lcmp, 1) := by decide +kernel
theorem dW_829 : decode code 829 = .ok (.ifCond .eq 5, 3) := by decide +kernel
theorem dW_832 : decode code 832 = .ok (.iconst 0, 1) := by decide +kernel
theorem dW_833 : decode code 833 = .ok (.ireturn, 1) := by decide +kernel
theorem dW_834 : decode code 834 = .ok (.goto 313, 3) := by decide +kernel
theorem dW_837 : decode code 837 = .ok (.aload_n 1, 1) := by decide +kernel
theorem dW_838 : decode code 838 = .ok (.aload_n 0, 1) := by decide +kernel
theorem dW_839 : decode code 839 = .ok (.iload 4, 2) := by decide +kernel
theorem dW_841 : decode code 841 = .ok (.iconst 1, 1) := by decide +kernel
theorem dW_842 : decode code 842 = .ok (.iadd, 1) := by decide +kernel
theorem dW_843 : decode code 843 = .ok (.iaload, 1) := by decide +kernel
theorem dW_844 : decode code 844 = .ok (.aload_n 3, 1) := by decide +kernel
theorem dW_845 : decode code 845 = .ok (.invokestatic 127, 3) := by decide +kernel
theorem dW_848 : decode code 848 = .ok (.istore 5, 2) := by decide +kernel
theorem dW_850 : decode code 850 = .ok (.aload_n 2, 1) := by decide +kernel
theorem dW_851 : decode code 851 = .ok (.aload_n 0, 1) := by decide +kernel
theorem dW_852 : decode code 852 = .ok (.iload 4, 2) := by decide +kernel
theorem dW_854 : decode code 854 = .ok (.iconst 1, 1) := by decide +kernel
theorem dW_855 : decode code 855 = .ok (.iadd, 1) := by decide +kernel
theorem dW_856 : decode code 856 = .ok (.iaload, 1) := by decide +kernel
theorem dW_857 : decode code 857 = .ok (.invokevirtual 129, 3) := by decide +kernel
theorem dW_860 : decode code 860 = .ok (.lstore 6, 2) := by decide +kernel
theorem dW_862 : decode code 862 = .ok (.aload_n 2, 1) := by decide +kernel
theorem dW_863 : decode code 863 = .ok (.invokevirtual 86, 3) := by decide +kernel
theorem dW_866 : decode code 866 = .ok (.iload 5, 2) := by decide +kernel
theorem dW_868 : decode code 868 = .ok (.if_icmp .eq 5, 3) := by decide +kernel
theorem dW_871 : decode code 871 = .ok (.iconst 0, 1) := by decide +kernel
theorem dW_872 : decode code 872 = .ok (.ireturn, 1) := by decide +kernel
theorem dW_873 : decode code 873 = .ok (.iload 5, 2) := by decide +kernel
theorem dW_875 : decode code 875 = .ok (.ifCond .ne 14, 3) := by decide +kernel
theorem dW_878 : decode code 878 = .ok (.aload_n 3, 1) := by decide +kernel
theorem dW_879 : decode code 879 = .ok (.iconst 0, 1) := by decide +kernel
theorem dW_880 : decode code 880 = .ok (.laload, 1) := by decide +kernel
theorem dW_881 : decode code 881 = .ok (.lload 6, 2) := by decide +kernel
theorem dW_883 : decode code 883 = .ok (.lcmp, 1) := by decide +kernel
theorem dW_884 : decode code 884 = .ok (.ifCond .eq 5, 3) := by decide +kernel
theorem dW_887 : decode code 887 = .ok (.iconst 0, 1) := by decide +kernel
theorem dW_888 : decode code 888 = .ok (.ireturn, 1) := by decide +kernel
theorem dW_889 : decode code 889 = .ok (.goto 258, 3) := by decide +kernel
theorem dW_892 : decode code 892 = .ok (.aload_n 1, 1) := by decide +kernel
theorem dW_893 : decode code 893 = .ok (.aload_n 0, 1) := by decide +kernel
theorem dW_894 : decode code 894 = .ok (.iload 4, 2) := by decide +kernel
theorem dW_896 : decode code 896 = .ok (.iconst 1, 1) := by decide +kernel
theorem dW_897 : decode code 897 = .ok (.iadd, 1) := by decide +kernel
theorem dW_898 : decode code 898 = .ok (.iaload, 1) := by decide +kernel
theorem dW_899 : decode code 899 = .ok (.aload_n 3, 1) := by decide +kernel
theorem dW_900 : decode code 900 = .ok (.invokestatic 130, 3) := by decide +kernel
theorem dW_903 : decode code 903 = .ok (.istore 5, 2) := by decide +kernel
theorem dW_905 : decode code 905 = .ok (.aload_n 2, 1) := by decide +kernel
theorem dW_906 : decode code 906 = .ok (.aload_n 0, 1) := by decide +kernel
theorem dW_907 : decode code 907 = .ok (.iload 4, 2) := by decide +kernel
theorem dW_909 : decode code 909 = .ok (.iconst 1, 1) := by decide +kernel
theorem dW_910 : decode code 910 = .ok (.iadd, 1) := by decide +kernel
theorem dW_911 : decode code 911 = .ok (.iaload, 1) := by decide +kernel
theorem dW_912 : decode code 912 = .ok (.invokevirtual 132, 3) := by decide +kernel
theorem dW_915 : decode code 915 = .ok (.lstore 6, 2) := by decide +kernel
theorem dW_917 : decode code 917 = .ok (.aload_n 2, 1) := by decide +kernel
theorem dW_918 : decode code 918 = .ok (.invokevirtual 86, 3) := by decide +kernel
theorem dW_921 : decode code 921 = .ok (.iload 5, 2) := by decide +kernel
theorem dW_923 : decode code 923 = .ok (.if_icmp .eq 5, 3) := by decide +kernel
theorem dW_926 : decode code 926 = .ok (.iconst 0, 1) := by decide +kernel
theorem dW_927 : decode code 927 = .ok (.ireturn, 1) := by decide +kernel
theorem dW_928 : decode code 928 = .ok (.iload 5, 2) := by decide +kernel
theorem dW_930 : decode code 930 = .ok (.ifCond .ne 14, 3) := by decide +kernel
theorem dW_933 : decode code 933 = .ok (.aload_n 3, 1) := by decide +kernel
theorem dW_934 : decode code 934 = .ok (.iconst 0, 1) := by decide +kernel
theorem dW_935 : decode code 935 = .ok (.laload, 1) := by decide +kernel
theorem dW_936 : decode code 936 = .ok (.lload 6, 2) := by decide +kernel
theorem dW_938 : decode code 938 = .ok (.lcmp, 1) := by decide +kernel
theorem dW_939 : decode code 939 = .ok (.ifCond .eq 5, 3) := by decide +kernel
theorem dW_942 : decode code 942 = .ok (.iconst 0, 1) := by decide +kernel
theorem dW_943 : decode code 943 = .ok (.ireturn, 1) := by decide +kernel
theorem dW_944 : decode code 944 = .ok (.goto 203, 3) := by decide +kernel
theorem dW_947 : decode code 947 = .ok (.aload_n 1, 1) := by decide +kernel
theorem dW_948 : decode code 948 = .ok (.invokevirtual 133, 3) := by decide +kernel
theorem dW_951 : decode code 951 = .ok (.aload_n 2, 1) := by decide +kernel
theorem dW_952 : decode code 952 = .ok (.invokevirtual 136, 3) := by decide +kernel
theorem dW_955 : decode code 955 = .ok (.if_icmp .eq 192, 3) := by decide +kernel
theorem dW_958 : decode code 958 = .ok (.iconst 0, 1) := by decide +kernel
theorem dW_959 : decode code 959 = .ok (.ireturn, 1) := by decide +kernel
theorem dW_960 : decode code 960 = .ok (.aload_n 1, 1) := by decide +kernel
theorem dW_961 : decode code 961 = .ok (.aload_n 3, 1) := by decide +kernel
theorem dW_962 : decode code 962 = .ok (.invokestatic 137, 3) := by decide +kernel
theorem dW_965 : decode code 965 = .ok (.istore 5, 2) := by decide +kernel
theorem dW_967 : decode code 967 = .ok (.aload_n 2, 1) := by decide +kernel
theorem dW_968 : decode code 968 = .ok (.invokevirtual 140, 3) := by decide +kernel
theorem dW_971 : decode code 971 = .ok (.lstore 6, 2) := by decide +kernel
theorem dW_973 : decode code 973 = .ok (.aload_n 2, 1) := by decide +kernel
theorem dW_974 : decode code 974 = .ok (.invokevirtual 86, 3) := by decide +kernel
theorem dW_977 : decode code 977 = .ok (.iload 5, 2) := by decide +kernel
theorem dW_979 : decode code 979 = .ok (.if_icmp .eq 5, 3) := by decide +kernel
theorem dW_982 : decode code 982 = .ok (.iconst 0, 1) := by decide +kernel
theorem dW_983 : decode code 983 = .ok (.ireturn, 1) := by decide +kernel
theorem dW_984 : decode code 984 = .ok (.iload 5, 2) := by decide +kernel
theorem dW_986 : decode code 986 = .ok (.ifCond .ne 14, 3) := by decide +kernel
theorem dW_989 : decode code 989 = .ok (.aload_n 3, 1) := by decide +kernel
theorem dW_990 : decode code 990 = .ok (.iconst 0, 1) := by decide +kernel
theorem dW_991 : decode code 991 = .ok (.laload, 1) := by decide +kernel
theorem dW_992 : decode code 992 = .ok (.lload 6, 2) := by decide +kernel
theorem dW_994 : decode code 994 = .ok (.lcmp, 1) := by decide +kernel
theorem dW_995 : decode code 995 = .ok (.ifCond .eq 5, 3) := by decide +kernel
theorem dW_998 : decode code 998 = .ok (.iconst 0, 1) := by decide +kernel
theorem dW_999 : decode code 999 = .ok (.ireturn, 1) := by decide +kernel
theorem dW_1000 : decode code 1000 = .ok (.goto 147, 3) := by decide +kernel
theorem dW_1003 : decode code 1003 = .ok (.aload_n 1, 1) := by decide +kernel
theorem dW_1004 : decode code 1004 = .ok (.aload_n 3, 1) := by decide +kernel
theorem dW_1005 : decode code 1005 = .ok (.invokestatic 141, 3) := by decide +kernel
theorem dW_1008 : decode code 1008 = .ok (.istore 5, 2) := by decide +kernel
theorem dW_1010 : decode code 1010 = .ok (.aload_n 2, 1) := by decide +kernel
theorem dW_1011 : decode code 1011 = .ok (.invokevirtual 143, 3) := by decide +kernel
theorem dW_1014 : decode code 1014 = .ok (.lstore 6, 2) := by decide +kernel
theorem dW_1016 : decode code 1016 = .ok (.aload_n 2, 1) := by decide +kernel
theorem dW_1017 : decode code 1017 = .ok (.invokevirtual 86, 3) := by decide +kernel
theorem dW_1020 : decode code 1020 = .ok (.iload 5, 2) := by decide +kernel
theorem dW_1022 : decode code 1022 = .ok (.if_icmp .eq 5, 3) := by decide +kernel
theorem dW_1025 : decode code 1025 = .ok (.iconst 0, 1) := by decide +kernel
theorem dW_1026 : decode code 1026 = .ok (.ireturn, 1) := by decide +kernel
theorem dW_1027 : decode code 1027 = .ok (.iload 5, 2) := by decide +kernel
theorem dW_1029 : decode code 1029 = .ok (.ifCond .ne 14, 3) := by decide +kernel
theorem dW_1032 : decode code 1032 = .ok (.aload_n 3, 1) := by decide +kernel
theorem dW_1033 : decode code 1033 = .ok (.iconst 0, 1) := by decide +kernel
theorem dW_1034 : decode code 1034 = .ok (.laload, 1) := by decide +kernel
theorem dW_1035 : decode code 1035 = .ok (.lload 6, 2) := by decide +kernel
theorem dW_1037 : decode code 1037 = .ok (.lcmp, 1) := by decide +kernel
theorem dW_1038 : decode code 1038 = .ok (.ifCond .eq 5, 3) := by decide +kernel
theorem dW_1041 : decode code 1041 = .ok (.iconst 0, 1) := by decide +kernel
theorem dW_1042 : decode code 1042 = .ok (.ireturn, 1) := by decide +kernel
theorem dW_1043 : decode code 1043 = .ok (.goto 104, 3) := by decide +kernel
theorem dW_1046 : decode code 1046 = .ok (.aload_n 1, 1) := by decide +kernel
theorem dW_1047 : decode code 1047 = .ok (.invokevirtual 144, 3) := by decide +kernel
theorem dW_1050 : decode code 1050 = .ok (.aload_n 2, 1) := by decide +kernel
theorem dW_1051 : decode code 1051 = .ok (.invokevirtual 147, 3) := by decide +kernel
theorem dW_1054 : decode code 1054 = .ok (.if_icmp .eq 93, 3) := by decide +kernel
theorem dW_1057 : decode code 1057 = .ok (.iconst 0, 1) := by decide +kernel
theorem dW_1058 : decode code 1058 = .ok (.ireturn, 1) := by decide +kernel
theorem dW_1059 : decode code 1059 = .ok (.aload_n 1, 1) := by decide +kernel
theorem dW_1060 : decode code 1060 = .ok (.aload_n 3, 1) := by decide +kernel
theorem dW_1061 : decode code 1061 = .ok (.invokestatic 148, 3) := by decide +kernel
theorem dW_1064 : decode code 1064 = .ok (.istore 5, 2) := by decide +kernel
theorem dW_1066 : decode code 1066 = .ok (.aload_n 2, 1) := by decide +kernel
theorem dW_1067 : decode code 1067 = .ok (.invokevirtual 150, 3) := by decide +kernel
theorem dW_1070 : decode code 1070 = .ok (.istore 6, 2) := by decide +kernel
theorem dW_1072 : decode code 1072 = .ok (.aload_n 2, 1) := by decide +kernel
theorem dW_1073 : decode code 1073 = .ok (.invokevirtual 86, 3) := by decide +kernel
theorem dW_1076 : decode code 1076 = .ok (.iload 5, 2) := by decide +kernel
theorem dW_1078 : decode code 1078 = .ok (.if_icmp .eq 5, 3) := by decide +kernel
theorem dW_1081 : decode code 1081 = .ok (.iconst 0, 1) := by decide +kernel
theorem dW_1082 : decode code 1082 = .ok (.ireturn, 1) := by decide +kernel
theorem dW_1083 : decode code 1083 = .ok (.iload 5, 2) := by decide +kernel
theorem dW_1085 : decode code 1085 = .ok (.ifCond .ne 15, 3) := by decide +kernel
theorem dW_1088 : decode code 1088 = .ok (.aload_n 3, 1) := by decide +kernel
theorem dW_1089 : decode code 1089 = .ok (.iconst 0, 1) := by decide +kernel
theorem dW_1090 : decode code 1090 = .ok (.laload, 1) := by decide +kernel
theorem dW_1091 : decode code 1091 = .ok (.iload 6, 2) := by decide +kernel
theorem dW_1093 : decode code 1093 = .ok (.i2l, 1) := by decide +kernel
theorem dW_1094 : decode code 1094 = .ok (.lcmp, 1) := by decide +kernel
theorem dW_1095 : decode code 1095 = .ok (.ifCond .eq 5, 3) := by decide +kernel
theorem dW_1098 : decode code 1098 = .ok (.iconst 0, 1) := by decide +kernel
theorem dW_1099 : decode code 1099 = .ok (.ireturn, 1) := by decide +kernel
theorem dW_1100 : decode code 1100 = .ok (.goto 47, 3) := by decide +kernel
theorem dW_1103 : decode code 1103 = .ok (.aload_n 1, 1) := by decide +kernel
theorem dW_1104 : decode code 1104 = .ok (.aload_n 3, 1) := by decide +kernel
theorem dW_1105 : decode code 1105 = .ok (.invokestatic 151, 3) := by decide +kernel
theorem dW_1108 : decode code 1108 = .ok (.istore 5, 2) := by decide +kernel
theorem dW_1110 : decode code 1110 = .ok (.aload_n 2, 1) := by decide +kernel
theorem dW_1111 : decode code 1111 = .ok (.invokevirtual 153, 3) := by decide +kernel
theorem dW_1114 : decode code 1114 = .ok (.istore 6, 2) := by decide +kernel
theorem dW_1116 : decode code 1116 = .ok (.aload_n 2, 1) := by decide +kernel
theorem dW_1117 : decode code 1117 = .ok (.invokevirtual 86, 3) := by decide +kernel
theorem dW_1120 : decode code 1120 = .ok (.iload 5, 2) := by decide +kernel
theorem dW_1122 : decode code 1122 = .ok (.if_icmp .eq 5, 3) := by decide +kernel
theorem dW_1125 : decode code 1125 = .ok (.iconst 0, 1) := by decide +kernel
theorem dW_1126 : decode code 1126 = .ok (.ireturn, 1) := by decide +kernel
theorem dW_1127 : decode code 1127 = .ok (.iload 5, 2) := by decide +kernel
theorem dW_1129 : decode code 1129 = .ok (.ifCond .ne 15, 3) := by decide +kernel
theorem dW_1132 : decode code 1132 = .ok (.aload_n 3, 1) := by decide +kernel
theorem dW_1133 : decode code 1133 = .ok (.iconst 0, 1) := by decide +kernel
theorem dW_1134 : decode code 1134 = .ok (.laload, 1) := by decide +kernel
theorem dW_1135 : decode code 1135 = .ok (.iload 6, 2) := by decide +kernel
theorem dW_1137 : decode code 1137 = .ok (.i2l, 1) := by decide +kernel
theorem dW_1138 : decode code 1138 = .ok (.lcmp, 1) := by decide +kernel
theorem dW_1139 : decode code 1139 = .ok (.ifCond .eq 5, 3) := by decide +kernel
theorem dW_1142 : decode code 1142 = .ok (.iconst 0, 1) := by decide +kernel
theorem dW_1143 : decode code 1143 = .ok (.ireturn, 1) := by decide +kernel
theorem dW_1144 : decode code 1144 = .ok (.goto 3, 3) := by decide +kernel
theorem dW_1147 : decode code 1147 = .ok (.iinc 4 6, 3) := by decide +kernel
theorem dW_1150 : decode code 1150 = .ok (.goto (-1127), 3) := by decide +kernel
theorem dW_1153 : decode code 1153 = .ok (.iconst 1, 1) := by decide +kernel
theorem dW_1154 : decode code 1154 = .ok (.ireturn, 1) := by decide +kernel
