theorem dM_receive_0 : decode cM_receive 0 = .ok (.aload_n 0, 1) := by decide +kernel
theorem dM_receive_1 : decode cM_receive 1 = .ok (.getfield 7, 3) := by decide +kernel
theorem dM_receive_4 : decode cM_receive 4 = .ok (.iconst 0, 1) := by decide +kernel
theorem dM_receive_5 : decode cM_receive 5 = .ok (.iaload, 1) := by decide +kernel
theorem dM_receive_6 : decode cM_receive 6 = .ok (.bipush 8, 2) := by decide +kernel
theorem dM_receive_8 : decode cM_receive 8 = .ok (.idiv, 1) := by decide +kernel
theorem dM_receive_9 : decode cM_receive 9 = .ok (.bipush 8, 2) := by decide +kernel
theorem dM_receive_11 : decode cM_receive 11 = .ok (.irem, 1) := by decide +kernel
theorem dM_receive_12 : decode cM_receive 12 = .ok (.iconst 4, 1) := by decide +kernel
theorem dM_receive_13 : decode cM_receive 13 = .ok (.if_icmp .ne 33, 3) := by decide +kernel
theorem dM_receive_16 : decode cM_receive 16 = .ok (.aload_n 0, 1) := by decide +kernel
theorem dM_receive_17 : decode cM_receive 17 = .ok (.getfield 7, 3) := by decide +kernel
theorem dM_receive_20 : decode cM_receive 20 = .ok (.iconst 0, 1) := by decide +kernel
theorem dM_receive_21 : decode cM_receive 21 = .ok (.iaload, 1) := by decide +kernel
theorem dM_receive_22 : decode cM_receive 22 = .ok (.bipush 8, 2) := by decide +kernel
theorem dM_receive_24 : decode cM_receive 24 = .ok (.irem, 1) := by decide +kernel
theorem dM_receive_25 : decode cM_receive 25 = .ok (.iconst 4, 1) := by decide +kernel
theorem dM_receive_26 : decode cM_receive 26 = .ok (.if_icmp .ne 20, 3) := by decide +kernel
theorem dM_receive_29 : decode cM_receive 29 = .ok (.aload_n 0, 1) := by decide +kernel
theorem dM_receive_30 : decode cM_receive 30 = .ok (.bipush 40, 2) := by decide +kernel
theorem dM_receive_32 : decode cM_receive 32 = .ok (.bipush 8, 2) := by decide +kernel
theorem dM_receive_34 : decode cM_receive 34 = .ok (.invokevirtual 79, 3) := by decide +kernel
theorem dM_receive_37 : decode cM_receive 37 = .ok (.lconst 0, 1) := by decide +kernel
theorem dM_receive_38 : decode cM_receive 38 = .ok (.lcmp, 1) := by decide +kernel
theorem dM_receive_39 : decode cM_receive 39 = .ok (.ifCond .eq 7, 3) := by decide +kernel
theorem dM_receive_42 : decode cM_receive 42 = .ok (.iconst 1, 1) := by decide +kernel
theorem dM_receive_43 : decode cM_receive 43 = .ok (.goto 4, 3) := by decide +kernel
theorem dM_receive_46 : decode cM_receive 46 = .ok (.iconst 0, 1) := by decide +kernel
theorem dM_receive_47 : decode cM_receive 47 = .ok (.istore_n 2, 1) := by decide +kernel
theorem dM_receive_48 : decode cM_receive 48 = .ok (.aload_n 0, 1) := by decide +kernel
theorem dM_receive_49 : decode cM_receive 49 = .ok (.iload_n 1, 1) := by decide +kernel
theorem dM_receive_50 : decode cM_receive 50 = .ok (.invokestatic 75, 3) := by decide +kernel
theorem dM_receive_53 : decode cM_receive 53 = .ok (.ifCond .ne 7, 3) := by decide +kernel
theorem dM_receive_56 : decode cM_receive 56 = .ok (.iconst 1, 1) := by decide +kernel
theorem dM_receive_57 : decode cM_receive 57 = .ok (.goto 52, 3) := by decide +kernel
theorem dM_receive_60 : decode cM_receive 60 = .ok (.iload_n 2, 1) := by decide +kernel
theorem dM_receive_61 : decode cM_receive 61 = .ok (.ifCond .ne 7, 3) := by decide +kernel
theorem dM_receive_64 : decode cM_receive 64 = .ok (.iconst 2, 1) := by decide +kernel
theorem dM_receive_65 : decode cM_receive 65 = .ok (.goto 44, 3) := by decide +kernel
theorem dM_receive_68 : decode cM_receive 68 = .ok (.aload_n 0, 1) := by decide +kernel
theorem dM_receive_69 : decode cM_receive 69 = .ok (.getfield 13, 3) := by decide +kernel
theorem dM_receive_72 : decode cM_receive 72 = .ok (.iload_n 1, 1) := by decide +kernel
theorem dM_receive_73 : decode cM_receive 73 = .ok (.baload, 1) := by decide +kernel
theorem dM_receive_74 : decode cM_receive 74 = .ok (.ifCond .ne 30, 3) := by decide +kernel
theorem dM_receive_77 : decode cM_receive 77 = .ok (.aload_n 0, 1) := by decide +kernel
theorem dM_receive_78 : decode cM_receive 78 = .ok (.getfield 23, 3) := by decide +kernel
theorem dM_receive_81 : decode cM_receive 81 = .ok (.iload_n 1, 1) := by decide +kernel
theorem dM_receive_82 : decode cM_receive 82 = .ok (.baload, 1) := by decide +kernel
theorem dM_receive_83 : decode cM_receive 83 = .ok (.ifCond .eq 21, 3) := by decide +kernel
theorem dM_receive_86 : decode cM_receive 86 = .ok (.aload_n 0, 1) := by decide +kernel
theorem dM_receive_87 : decode cM_receive 87 = .ok (.getfield 26, 3) := by decide +kernel
theorem dM_receive_90 : decode cM_receive 90 = .ok (.iload_n 1, 1) := by decide +kernel
theorem dM_receive_91 : decode cM_receive 91 = .ok (.laload, 1) := by decide +kernel
theorem dM_receive_92 : decode cM_receive 92 = .ok (.aload_n 0, 1) := by decide +kernel
theorem dM_receive_93 : decode cM_receive 93 = .ok (.bipush 24, 2) := by decide +kernel
theorem dM_receive_95 : decode cM_receive 95 = .ok (.bipush 8, 2) := by decide +kernel
theorem dM_receive_97 : decode cM_receive 97 = .ok (.invokevirtual 79, 3) := by decide +kernel
theorem dM_receive_100 : decode cM_receive 100 = .ok (.lcmp, 1) := by decide +kernel
theorem dM_receive_101 : decode cM_receive 101 = .ok (.ifCond .eq 7, 3) := by decide +kernel
theorem dM_receive_104 : decode cM_receive 104 = .ok (.iconst 3, 1) := by decide +kernel
theorem dM_receive_105 : decode cM_receive 105 = .ok (.goto 4, 3) := by decide +kernel
theorem dM_receive_108 : decode cM_receive 108 = .ok (.iconst 0, 1) := by decide +kernel
theorem dM_receive_109 : decode cM_receive 109 = .ok (.putfield 54, 3) := by decide +kernel
theorem dM_receive_112 : decode cM_receive 112 = .ok (.aload_n 0, 1) := by decide +kernel
theorem dM_receive_113 : decode cM_receive 113 = .ok (.getfield 54, 3) := by decide +kernel
theorem dM_receive_116 : decode cM_receive 116 = .ok (.ifCond .le 5, 3) := by decide +kernel
theorem dM_receive_119 : decode cM_receive 119 = .ok (.iconst 0, 1) := by decide +kernel
theorem dM_receive_120 : decode cM_receive 120 = .ok (.ireturn, 1) := by decide +kernel
theorem dM_receive_121 : decode cM_receive 121 = .ok (.aload_n 0, 1) := by decide +kernel
theorem dM_receive_122 : decode cM_receive 122 = .ok (.getfield 26, 3) := by decide +kernel
theorem dM_receive_125 : decode cM_receive 125 = .ok (.iload_n 1, 1) := by decide +kernel
theorem dM_receive_126 : decode cM_receive 126 = .ok (.laload, 1) := by decide +kernel
theorem dM_receive_127 : decode cM_receive 127 = .ok (.lstore_n 3, 1) := by decide +kernel
theorem dM_receive_128 : decode cM_receive 128 = .ok (.aload_n 0, 1) := by decide +kernel
theorem dM_receive_129 : decode cM_receive 129 = .ok (.getfield 23, 3) := by decide +kernel
theorem dM_receive_132 : decode cM_receive 132 = .ok (.iload_n 1, 1) := by decide +kernel
theorem dM_receive_133 : decode cM_receive 133 = .ok (.iconst 0, 1) := by decide +kernel
theorem dM_receive_134 : decode cM_receive 134 = .ok (.bastore, 1) := by decide +kernel
theorem dM_receive_135 : decode cM_receive 135 = .ok (.aload_n 0, 1) := by decide +kernel
theorem dM_receive_136 : decode cM_receive 136 = .ok (.getfield 7, 3) := by decide +kernel
theorem dM_receive_139 : decode cM_receive 139 = .ok (.iconst 1, 1) := by decide +kernel
theorem dM_receive_140 : decode cM_receive 140 = .ok (.iaload, 1) := by decide +kernel
theorem dM_receive_141 : decode cM_receive 141 = .ok (.ifCond .ne 9, 3) := by decide +kernel
theorem dM_receive_144 : decode cM_receive 144 = .ok (.aload_n 0, 1) := by decide +kernel
theorem dM_receive_145 : decode cM_receive 145 = .ok (.iload_n 1, 1) := by decide +kernel
theorem dM_receive_146 : decode cM_receive 146 = .ok (.invokevirtual 89, 3) := by decide +kernel
theorem dM_receive_149 : decode cM_receive 149 = .ok (.ireturn, 1) := by decide +kernel
theorem dM_receive_150 : decode cM_receive 150 = .ok (.aload_n 0, 1) := by decide +kernel
theorem dM_receive_151 : decode cM_receive 151 = .ok (.getfield 7, 3) := by decide +kernel
theorem dM_receive_154 : decode cM_receive 154 = .ok (.iconst 0, 1) := by decide +kernel
theorem dM_receive_155 : decode cM_receive 155 = .ok (.iaload, 1) := by decide +kernel
theorem dM_receive_156 : decode cM_receive 156 = .ok (.bipush 64, 2) := by decide +kernel
theorem dM_receive_158 : decode cM_receive 158 = .ok (.idiv, 1) := by decide +kernel
theorem dM_receive_159 : decode cM_receive 159 = .ok (.iconst 3, 1) := by decide +kernel
theorem dM_receive_160 : decode cM_receive 160 = .ok (.if_icmp .eq 14, 3) := by decide +kernel
theorem dM_receive_163 : decode cM_receive 163 = .ok (.aload_n 0, 1) := by decide +kernel
theorem dM_receive_164 : decode cM_receive 164 = .ok (.getfield 7, 3) := by decide +kernel
theorem dM_receive_167 : decode cM_receive 167 = .ok (.iconst 1, 1) := by decide +kernel
theorem dM_receive_168 : decode cM_receive 168 = .ok (.iaload, 1) := by decide +kernel
theorem dM_receive_169 : decode cM_receive 169 = .ok (.bipush 15, 2) := by decide +kernel
theorem dM_receive_171 : decode cM_receive 171 = .ok (.if_icmp .le 5, 3) := by decide +kernel
theorem dM_receive_174 : decode cM_receive 174 = .ok (.iconst 1, 1) := by decide +kernel
theorem dM_receive_175 : decode cM_receive 175 = .ok (.ireturn, 1) := by decide +kernel
theorem dM_receive_176 : decode cM_receive 176 = .ok (.aload_n 0, 1) := by decide +kernel
theorem dM_receive_177 : decode cM_receive 177 = .ok (.bipush 32, 2) := by decide +kernel
theorem dM_receive_179 : decode cM_receive 179 = .ok (.bipush 8, 2) := by decide +kernel
theorem dM_receive_181 : decode cM_receive 181 = .ok (.invokevirtual 79, 3) := by decide +kernel
theorem dM_receive_184 : decode cM_receive 184 = .ok (.lstore 5, 2) := by decide +kernel
theorem dM_receive_186 : decode cM_receive 186 = .ok (.aload_n 0, 1) := by decide +kernel
theorem dM_receive_187 : decode cM_receive 187 = .ok (.bipush 40, 2) := by decide +kernel
theorem dM_receive_189 : decode cM_receive 189 = .ok (.bipush 8, 2) := by decide +kernel
theorem dM_receive_191 : decode cM_receive 191 = .ok (.invokevirtual 79, 3) := by decide +kernel
theorem dM_receive_194 : decode cM_receive 194 = .ok (.lstore 7, 2) := by decide +kernel
theorem dM_receive_196 : decode cM_receive 196 = .ok (.lload 5, 2) := by decide +kernel
theorem dM_receive_198 : decode cM_receive 198 = .ok (.lload_n 3, 1) := by decide +kernel
theorem dM_receive_199 : decode cM_receive 199 = .ok (.lsub, 1) := by decide +kernel
theorem dM_receive_200 : decode cM_receive 200 = .ok (.lload 7, 2) := by decide +kernel
theorem dM_receive_202 : decode cM_receive 202 = .ok (.aload_n 0, 1) := by decide +kernel
theorem dM_receive_203 : decode cM_receive 203 = .ok (.getfield 66, 3) := by decide +kernel
theorem dM_receive_206 : decode cM_receive 206 = .ok (.lsub, 1) := by decide +kernel
theorem dM_receive_207 : decode cM_receive 207 = .ok (.invokestatic 93, 3) := by decide +kernel
theorem dM_receive_210 : decode cM_receive 210 = .ok (.lstore 9, 2) := by decide +kernel
theorem dM_receive_212 : decode cM_receive 212 = .ok (.aload_n 0, 1) := by decide +kernel
theorem dM_receive_213 : decode cM_receive 213 = .ok (.getfield 66, 3) := by decide +kernel
theorem dM_receive_216 : decode cM_receive 216 = .ok (.lload_n 3, 1) := by decide +kernel
theorem dM_receive_217 : decode cM_receive 217 = .ok (.lsub, 1) := by decide +kernel
theorem dM_receive_218 : decode cM_receive 218 = .ok (.lload 7, 2) := by decide +kernel
theorem dM_receive_220 : decode cM_receive 220 = .ok (.lload 5, 2) := by decide +kernel
theorem dM_receive_222 : decode cM_receive 222 = .ok (.lsub, 1) := by decide +kernel
theorem dM_receive_223 : decode cM_receive 223 = .ok (.lsub, 1) := by decide +kernel
theorem dM_receive_224 : decode cM_receive 224 = .ok (.lstore 11, 2) := by decide +kernel
theorem dM_receive_226 : decode cM_receive 226 = .ok (.lload 11, 2) := by decide +kernel
theorem dM_receive_228 : decode cM_receive 228 = .ok (.ldc2_w 97, 3) := by decide +kernel
theorem dM_receive_231 : decode cM_receive 231 = .ok (.lcmp, 1) := by decide +kernel
theorem dM_receive_232 : decode cM_receive 232 = .ok (.ifCond .ge 9, 3) := by decide +kernel
theorem dM_receive_235 : decode cM_receive 235 = .ok (.ldc2_w 97, 3) := by decide +kernel
theorem dM_receive_238 : decode cM_receive 238 = .ok (.goto 5, 3) := by decide +kernel
theorem dM_receive_241 : decode cM_receive 241 = .ok (.lload 11, 2) := by decide +kernel
theorem dM_receive_243 : decode cM_receive 243 = .ok (.lstore 11, 2) := by decide +kernel
theorem dM_receive_245 : decode cM_receive 245 = .ok (.ldc2_w 99, 3) := by decide +kernel
theorem dM_receive_248 : decode cM_receive 248 = .ok (.lstore 13, 2) := by decide +kernel
theorem dM_receive_250 : decode cM_receive 250 = .ok (.lload 9, 2) := by decide +kernel
theorem dM_receive_252 : decode cM_receive 252 = .ok (.lload 13, 2) := by decide +kernel
theorem dM_receive_254 : decode cM_receive 254 = .ok (.lneg, 1) := by decide +kernel
theorem dM_receive_255 : decode cM_receive 255 = .ok (.lcmp, 1) := by decide +kernel
theorem dM_receive_256 : decode cM_receive 256 = .ok (.ifCond .lt 19, 3) := by decide +kernel
theorem dM_receive_259 : decode cM_receive 259 = .ok (.lload 9, 2) := by decide +kernel
theorem dM_receive_261 : decode cM_receive 261 = .ok (.lload 13, 2) := by decide +kernel
theorem dM_receive_263 : decode cM_receive 263 = .ok (.lcmp, 1) := by decide +kernel
theorem dM_receive_264 : decode cM_receive 264 = .ok (.ifCond .gt 11, 3) := by decide +kernel
theorem dM_receive_267 : decode cM_receive 267 = .ok (.lload 11, 2) := by decide +kernel
theorem dM_receive_269 : decode cM_receive 269 = .ok (.lload 13, 2) := by decide +kernel
theorem dM_receive_271 : decode cM_receive 271 = .ok (.lcmp, 1) := by decide +kernel
theorem dM_receive_272 : decode cM_receive 272 = .ok (.ifCond .le 5, 3) := by decide +kernel
theorem dM_receive_275 : decode cM_receive 275 = .ok (.iconst 3, 1) := by decide +kernel
theorem dM_receive_276 : decode cM_receive 276 = .ok (.ireturn, 1) := by decide +kernel
theorem dM_receive_277 : decode cM_receive 277 = .ok (.aload_n 0, 1) := by decide +kernel
theorem dM_receive_278 : decode cM_receive 278 = .ok (.getfield 30, 3) := by decide +kernel
theorem dM_receive_281 : decode cM_receive 281 = .ok (.iload_n 1, 1) := by decide +kernel
theorem dM_receive_282 : decode cM_receive 282 = .ok (.aload_n 0, 1) := by decide +kernel
theorem dM_receive_283 : decode cM_receive 283 = .ok (.getfield 7, 3) := by decide +kernel
theorem dM_receive_286 : decode cM_receive 286 = .ok (.iconst 1, 1) := by decide +kernel
theorem dM_receive_287 : decode cM_receive 287 = .ok (.iaload, 1) := by decide +kernel
theorem dM_receive_288 : decode cM_receive 288 = .ok (.iastore, 1) := by decide +kernel
theorem dM_receive_289 : decode cM_receive 289 = .ok (.aload_n 0, 1) := by decide +kernel
theorem dM_receive_290 : decode cM_receive 290 = .ok (.getfield 33, 3) := by decide +kernel
theorem dM_receive_293 : decode cM_receive 293 = .ok (.iload_n 1, 1) := by decide +kernel
theorem dM_receive_294 : decode cM_receive 294 = .ok (.aload_n 0, 1) := by decide +kernel
theorem dM_receive_295 : decode cM_receive 295 = .ok (.iconst 4, 1) := by decide +kernel
theorem dM_receive_296 : decode cM_receive 296 = .ok (.iconst 4, 1) := by decide +kernel
theorem dM_receive_297 : decode cM_receive 297 = .ok (.invokevirtual 79, 3) := by decide +kernel
theorem dM_receive_300 : decode cM_receive 300 = .ok (.ldc2_w 101, 3) := by decide +kernel
theorem dM_receive_303 : decode cM_receive 303 = .ok (.lmul, 1) := by decide +kernel
theorem dM_receive_304 : decode cM_receive 304 = .ok (.lastore, 1) := by decide +kernel
theorem dM_receive_305 : decode cM_receive 305 = .ok (.aload_n 0, 1) := by decide +kernel
theorem dM_receive_306 : decode cM_receive 306 = .ok (.getfield 36, 3) := by decide +kernel
theorem dM_receive_309 : decode cM_receive 309 = .ok (.iload_n 1, 1) := by decide +kernel
theorem dM_receive_310 : decode cM_receive 310 = .ok (.aload_n 0, 1) := by decide +kernel
theorem dM_receive_311 : decode cM_receive 311 = .ok (.bipush 8, 2) := by decide +kernel
theorem dM_receive_313 : decode cM_receive 313 = .ok (.iconst 4, 1) := by decide +kernel
theorem dM_receive_314 : decode cM_receive 314 = .ok (.invokevirtual 79, 3) := by decide +kernel
theorem dM_receive_317 : decode cM_receive 317 = .ok (.ldc2_w 101, 3) := by decide +kernel
theorem dM_receive_320 : decode cM_receive 320 = .ok (.lmul, 1) := by decide +kernel
theorem dM_receive_321 : decode cM_receive 321 = .ok (.lastore, 1) := by decide +kernel
theorem dM_receive_322 : decode cM_receive 322 = .ok (.aload_n 0, 1) := by decide +kernel
theorem dM_receive_323 : decode cM_receive 323 = .ok (.getfield 17, 3) := by decide +kernel
theorem dM_receive_326 : decode cM_receive 326 = .ok (.iload_n 1, 1) := by decide +kernel
theorem dM_receive_327 : decode cM_receive 327 = .ok (.aload_n 0, 1) := by decide +kernel
theorem dM_receive_328 : decode cM_receive 328 = .ok (.getfield 17, 3) := by decide +kernel
theorem dM_receive_331 : decode cM_receive 331 = .ok (.iload_n 1, 1) := by decide +kernel
theorem dM_receive_332 : decode cM_receive 332 = .ok (.iaload, 1) := by decide +kernel
theorem dM_receive_333 : decode cM_receive 333 = .ok (.iconst 2, 1) := by decide +kernel
theorem dM_receive_334 : decode cM_receive 334 = .ok (.irem, 1) := by decide +kernel
theorem dM_receive_335 : decode cM_receive 335 = .ok (.ifCond .ne 14, 3) := by decide +kernel
theorem dM_receive_338 : decode cM_receive 338 = .ok (.aload_n 0, 1) := by decide +kernel
theorem dM_receive_339 : decode cM_receive 339 = .ok (.getfield 17, 3) := by decide +kernel
theorem dM_receive_342 : decode cM_receive 342 = .ok (.iload_n 1, 1) := by decide +kernel
theorem dM_receive_343 : decode cM_receive 343 = .ok (.iaload, 1) := by decide +kernel
theorem dM_receive_344 : decode cM_receive 344 = .ok (.iconst 1, 1) := by decide +kernel
theorem dM_receive_345 : decode cM_receive 345 = .ok (.iadd, 1) := by decide +kernel
theorem dM_receive_346 : decode cM_receive 346 = .ok (.goto 9, 3) := by decide +kernel
theorem dM_receive_349 : decode cM_receive 349 = .ok (.aload_n 0, 1) := by decide +kernel
theorem dM_receive_350 : decode cM_receive 350 = .ok (.getfield 17, 3) := by decide +kernel
theorem dM_receive_353 : decode cM_receive 353 = .ok (.iload_n 1, 1) := by decide +kernel
theorem dM_receive_354 : decode cM_receive 354 = .ok (.iaload, 1) := by decide +kernel
theorem dM_receive_355 : decode cM_receive 355 = .ok (.iastore, 1) := by decide +kernel
theorem dM_receive_356 : decode cM_receive 356 = .ok (.bipush 7, 2) := by decide +kernel
theorem dM_receive_358 : decode cM_receive 358 = .ok (.istore 15, 2) := by decide +kernel
theorem dM_receive_360 : decode cM_receive 360 = .ok (.iload 15, 2) := by decide +kernel
theorem dM_receive_362 : decode cM_receive 362 = .ok (.ifCond .le 87, 3) := by decide +kernel
theorem dM_receive_365 : decode cM_receive 365 = .ok (.aload_n 0, 1) := by decide +kernel
theorem dM_receive_366 : decode cM_receive 366 = .ok (.getfield 42, 3) := by decide +kernel
theorem dM_receive_369 : decode cM_receive 369 = .ok (.bipush 8, 2) := by decide +kernel
theorem dM_receive_371 : decode cM_receive 371 = .ok (.iload_n 1, 1) := by decide +kernel
theorem dM_receive_372 : decode cM_receive 372 = .ok (.imul, 1) := by decide +kernel
theorem dM_receive_373 : decode cM_receive 373 = .ok (.iload 15, 2) := by decide +kernel
theorem dM_receive_375 : decode cM_receive 375 = .ok (.iadd, 1) := by decide +kernel
theorem dM_receive_376 : decode cM_receive 376 = .ok (.aload_n 0, 1) := by decide +kernel
theorem dM_receive_377 : decode cM_receive 377 = .ok (.getfield 42, 3) := by decide +kernel
theorem dM_receive_380 : decode cM_receive 380 = .ok (.bipush 8, 2) := by decide +kernel
theorem dM_receive_382 : decode cM_receive 382 = .ok (.iload_n 1, 1) := by decide +kernel
theorem dM_receive_383 : decode cM_receive 383 = .ok (.imul, 1) := by decide +kernel
theorem dM_receive_384 : decode cM_receive 384 = .ok (.iload 15, 2) := by decide +kernel
theorem dM_receive_386 : decode cM_receive 386 = .ok (.iadd, 1) := by decide +kernel
theorem dM_receive_387 : decode cM_receive 387 = .ok (.iconst 1, 1) := by decide +kernel
theorem dM_receive_388 : decode cM_receive 388 = .ok (.isub, 1) := by decide +kernel
theorem dM_receive_389 : decode cM_receive 389 = .ok (.laload, 1) := by decide +kernel
theorem dM_receive_390 : decode cM_receive 390 = .ok (.lastore, 1) := by decide +kernel
theorem dM_receive_391 : decode cM_receive 391 = .ok (.aload_n 0, 1) := by decide +kernel
theorem dM_receive_392 : decode cM_receive 392 = .ok (.getfield 45, 3) := by decide +kernel
theorem dM_receive_395 : decode cM_receive 395 = .ok (.bipush 8, 2) := by decide +kernel
theorem dM_receive_397 : decode cM_receive 397 = .ok (.iload_n 1, 1) := by decide +kernel
theorem dM_receive_398 : decode cM_receive 398 = .ok (.imul, 1) := by decide +kernel
theorem dM_receive_399 : decode cM_receive 399 = .ok (.iload 15, 2) := by decide +kernel
theorem dM_receive_401 : decode cM_receive 401 = .ok (.iadd, 1) := by decide +kernel
theorem dM_receive_402 : decode cM_receive 402 = .ok (.aload_n 0, 1) := by decide +kernel
theorem dM_receive_403 : decode cM_receive 403 = .ok (.getfield 45, 3) := by decide +kernel
theorem dM_receive_406 : decode cM_receive 406 = .ok (.bipush 8, 2) := by decide +kernel
theorem dM_receive_408 : decode cM_receive 408 = .ok (.iload_n 1, 1) := by decide +kernel
theorem dM_receive_409 : decode cM_receive 409 = .ok (.imul, 1) := by decide +kernel
theorem dM_receive_410 : decode cM_receive 410 = .ok (.iload 15, 2) := by decide +kernel
theorem dM_receive_412 : decode cM_receive 412 = .ok (.iadd, 1) := by decide +kernel
theorem dM_receive_413 : decode cM_receive 413 = .ok (.iconst 1, 1) := by decide +kernel
theorem dM_receive_414 : decode cM_receive 414 = .ok (.isub, 1) := by decide +kernel
theorem dM_receive_415 : decode cM_receive 415 = .ok (.laload, 1) := by decide +kernel
theorem dM_receive_416 : decode cM_receive 416 = .ok (.lastore, 1) := by decide +kernel
theorem dM_receive_417 : decode cM_receive 417 = .ok (.aload_n 0, 1) := by decide +kernel
theorem dM_receive_418 : decode cM_receive 418 = .ok (.getfield 48, 3) := by decide +kernel
theorem dM_receive_421 : decode cM_receive 421 = .ok (.bipush 8, 2) := by decide +kernel
theorem dM_receive_423 : decode cM_receive 423 = .ok (.iload_n 1, 1) := by decide +kernel
theorem dM_receive_424 : decode cM_receive 424 = .ok (.imul, 1) := by decide +kernel
theorem dM_receive_425 : decode cM_receive 425 = .ok (.iload 15, 2) := by decide +kernel
theorem dM_receive_427 : decode cM_receive 427 = .ok (.iadd, 1) := by decide +kernel
theorem dM_receive_428 : decode cM_receive 428 = .ok (.aload_n 0, 1) := by decide +kernel
theorem dM_receive_429 : decode cM_receive 429 = .ok (.getfield 48, 3) := by decide +kernel
theorem dM_receive_432 : decode cM_receive 432 = .ok (.bipush 8, 2) := by decide +kernel
theorem dM_receive_434 : decode cM_receive 434 = .ok (.iload_n 1, 1) := by decide +kernel
theorem dM_receive_435 : decode cM_receive 435 = .ok (.imul, 1) := by decide +kernel
theorem dM_receive_436 : decode cM_receive 436 = .ok (.iload 15, 2) := by decide +kernel
theorem dM_receive_438 : decode cM_receive 438 = .ok (.iadd, 1) := by decide +kernel
theorem dM_receive_439 : decode cM_receive 439 = .ok (.iconst 1, 1) := by decide +kernel
theorem dM_receive_440 : decode cM_receive 440 = .ok (.isub, 1) := by decide +kernel
theorem dM_receive_441 : decode cM_receive 441 = .ok (.laload, 1) := by decide +kernel
theorem dM_receive_442 : decode cM_receive 442 = .ok (.lastore, 1) := by decide +kernel
theorem dM_receive_443 : decode cM_receive 443 = .ok (.iinc 15 (-1), 3) := by decide +kernel
theorem dM_receive_446 : decode cM_receive 446 = .ok (.goto (-86), 3) := by decide +kernel
theorem dM_receive_449 : decode cM_receive 449 = .ok (.aload_n 0, 1) := by decide +kernel
theorem dM_receive_450 : decode cM_receive 450 = .ok (.getfield 42, 3) := by decide +kernel
theorem dM_receive_453 : decode cM_receive 453 = .ok (.bipush 8, 2) := by decide +kernel
theorem dM_receive_455 : decode cM_receive 455 = .ok (.iload_n 1, 1) := by decide +kernel
theorem dM_receive_456 : decode cM_receive 456 = .ok (.imul, 1) := by decide +kernel
theorem dM_receive_457 : decode cM_receive 457 = .ok (.lload 9, 2) := by decide +kernel
theorem dM_receive_459 : decode cM_receive 459 = .ok (.lastore, 1) := by decide +kernel
theorem dM_receive_460 : decode cM_receive 460 = .ok (.aload_n 0, 1) := by decide +kernel
theorem dM_receive_461 : decode cM_receive 461 = .ok (.getfield 45, 3) := by decide +kernel
theorem dM_receive_464 : decode cM_receive 464 = .ok (.bipush 8, 2) := by decide +kernel
theorem dM_receive_466 : decode cM_receive 466 = .ok (.iload_n 1, 1) := by decide +kernel
theorem dM_receive_467 : decode cM_receive 467 = .ok (.imul, 1) := by decide +kernel
theorem dM_receive_468 : decode cM_receive 468 = .ok (.lload 11, 2) := by decide +kernel
theorem dM_receive_470 : decode cM_receive 470 = .ok (.lastore, 1) := by decide +kernel
theorem dM_receive_471 : decode cM_receive 471 = .ok (.aload_n 0, 1) := by decide +kernel
theorem dM_receive_472 : decode cM_receive 472 = .ok (.getfield 48, 3) := by decide +kernel
theorem dM_receive_475 : decode cM_receive 475 = .ok (.bipush 8, 2) := by decide +kernel
theorem dM_receive_477 : decode cM_receive 477 = .ok (.iload_n 1, 1) := by decide +kernel
theorem dM_receive_478 : decode cM_receive 478 = .ok (.imul, 1) := by decide +kernel
theorem dM_receive_479 : decode cM_receive 479 = .ok (.aload_n 0, 1) := by decide +kernel
theorem dM_receive_480 : decode cM_receive 480 = .ok (.getfield 66, 3) := by decide +kernel
theorem dM_receive_483 : decode cM_receive 483 = .ok (.lastore, 1) := by decide +kernel
theorem dM_receive_484 : decode cM_receive 484 = .ok (.aload_n 0, 1) := by decide +kernel
theorem dM_receive_485 : decode cM_receive 485 = .ok (.getfield 39, 3) := by decide +kernel
theorem dM_receive_488 : decode cM_receive 488 = .ok (.iload_n 1, 1) := by decide +kernel
theorem dM_receive_489 : decode cM_receive 489 = .ok (.aload_n 0, 1) := by decide +kernel
theorem dM_receive_490 : decode cM_receive 490 = .ok (.getfield 39, 3) := by decide +kernel
theorem dM_receive_493 : decode cM_receive 493 = .ok (.iload_n 1, 1) := by decide +kernel
theorem dM_receive_494 : decode cM_receive 494 = .ok (.iaload, 1) := by decide +kernel
theorem dM_receive_495 : decode cM_receive 495 = .ok (.bipush 8, 2) := by decide +kernel
theorem dM_receive_497 : decode cM_receive 497 = .ok (.if_icmp .ge 14, 3) := by decide +kernel
theorem dM_receive_500 : decode cM_receive 500 = .ok (.aload_n 0, 1) := by decide +kernel
theorem dM_receive_501 : decode cM_receive 501 = .ok (.getfield 39, 3) := by decide +kernel
theorem dM_receive_504 : decode cM_receive 504 = .ok (.iload_n 1, 1) := by decide +kernel
theorem dM_receive_505 : decode cM_receive 505 = .ok (.iaload, 1) := by decide +kernel
theorem dM_receive_506 : decode cM_receive 506 = .ok (.iconst 1, 1) := by decide +kernel
theorem dM_receive_507 : decode cM_receive 507 = .ok (.iadd, 1) := by decide +kernel
theorem dM_receive_508 : decode cM_receive 508 = .ok (.goto 5, 3) := by decide +kernel
theorem dM_receive_511 : decode cM_receive 511 = .ok (.bipush 8, 2) := by decide +kernel
theorem dM_receive_513 : decode cM_receive 513 = .ok (.iastore, 1) := by decide +kernel
theorem dM_receive_514 : decode cM_receive 514 = .ok (.iconst 0, 1) := by decide +kernel
theorem dM_receive_515 : decode cM_receive 515 = .ok (.ireturn, 1) := by decide +kernel
theorem dM_read_0 : decode cM_read 0 = .ok (.lconst 0, 1) := by decide +kernel
theorem dM_read_1 : decode cM_read 1 = .ok (.lstore_n 3, 1) := by decide +kernel
theorem dM_read_2 : decode cM_read 2 = .ok (.iconst 0, 1) := by decide +kernel
theorem dM_read_3 : decode cM_read 3 = .ok (.istore 5, 2) := by decide +kernel
theorem dM_read_5 : decode cM_read 5 = .ok (.iload 5, 2) := by decide +kernel
theorem dM_read_7 : decode cM_read 7 = .ok (.iload_n 2, 1) := by decide +kernel
theorem dM_read_8 : decode cM_read 8 = .ok (.if_icmp .ge 25, 3) := by decide +kernel
theorem dM_read_11 : decode cM_read 11 = .ok (.lload_n 3, 1) := by decide +kernel
theorem dM_read_12 : decode cM_read 12 = .ok (.bipush 8, 2) := by decide +kernel
theorem dM_read_14 : decode cM_read 14 = .ok (.lshl, 1) := by decide +kernel
theorem dM_read_15 : decode cM_read 15 = .ok (.aload_n 0, 1) := by decide +kernel
theorem dM_read_16 : decode cM_read 16 = .ok (.getfield 7, 3) := by decide +kernel
theorem dM_read_19 : decode cM_read 19 = .ok (.iload_n 1, 1) := by decide +kernel
theorem dM_read_20 : decode cM_read 20 = .ok (.iload 5, 2) := by decide +kernel
theorem dM_read_22 : decode cM_read 22 = .ok (.iadd, 1) := by decide +kernel
theorem dM_read_23 : decode cM_read 23 = .ok (.iaload, 1) := by decide +kernel
theorem dM_read_24 : decode cM_read 24 = .ok (.i2l, 1) := by decide +kernel
theorem dM_read_25 : decode cM_read 25 = .ok (.lor, 1) := by decide +kernel
theorem dM_read_26 : decode cM_read 26 = .ok (.lstore_n 3, 1) := by decide +kernel
theorem dM_read_27 : decode cM_read 27 = .ok (.iinc 5 1, 3) := by decide +kernel
theorem dM_read_30 : decode cM_read 30 = .ok (.goto (-25), 3) := by decide +kernel
theorem dM_read_33 : decode cM_read 33 = .ok (.lload_n 3, 1) := by decide +kernel
theorem dM_read_34 : decode cM_read 34 = .ok (.lreturn, 1) := by decide +kernel
theorem dM_kiss_0 : decode cM_kiss 0 = .ok (.aload_n 0, 1) := by decide +kernel
theorem dM_kiss_1 : decode cM_kiss 1 = .ok (.bipush 12, 2) := by decide +kernel
theorem dM_kiss_3 : decode cM_kiss 3 = .ok (.iconst 4, 1) := by decide +kernel
theorem dM_kiss_4 : decode cM_kiss 4 = .ok (.invokevirtual 79, 3) := by decide +kernel
theorem dM_kiss_7 : decode cM_kiss 7 = .ok (.lstore_n 2, 1) := by decide +kernel
theorem dM_kiss_8 : decode cM_kiss 8 = .ok (.lload_n 2, 1) := by decide +kernel
theorem dM_kiss_9 : decode cM_kiss 9 = .ok (.ldc2_w 83, 3) := by decide +kernel
theorem dM_kiss_12 : decode cM_kiss 12 = .ok (.lcmp, 1) := by decide +kernel
theorem dM_kiss_13 : decode cM_kiss 13 = .ok (.ifCond .eq 11, 3) := by decide +kernel
theorem dM_kiss_16 : decode cM_kiss 16 = .ok (.lload_n 2, 1) := by decide +kernel
theorem dM_kiss_17 : decode cM_kiss 17 = .ok (.ldc2_w 85, 3) := by decide +kernel
theorem dM_kiss_20 : decode cM_kiss 20 = .ok (.lcmp, 1) := by decide +kernel
theorem dM_kiss_21 : decode cM_kiss 21 = .ok (.ifCond .ne 10, 3) := by decide +kernel
theorem dM_kiss_24 : decode cM_kiss 24 = .ok (.aload_n 0, 1) := by decide +kernel
theorem dM_kiss_25 : decode cM_kiss 25 = .ok (.getfield 13, 3) := by decide +kernel
theorem dM_kiss_28 : decode cM_kiss 28 = .ok (.iload_n 1, 1) := by decide +kernel
theorem dM_kiss_29 : decode cM_kiss 29 = .ok (.iconst 1, 1) := by decide +kernel
theorem dM_kiss_30 : decode cM_kiss 30 = .ok (.bastore, 1) := by decide +kernel
theorem dM_kiss_31 : decode cM_kiss 31 = .ok (.lload_n 2, 1) := by decide +kernel
theorem dM_kiss_32 : decode cM_kiss 32 = .ok (.ldc2_w 87, 3) := by decide +kernel
theorem dM_kiss_35 : decode cM_kiss 35 = .ok (.lcmp, 1) := by decide +kernel
theorem dM_kiss_36 : decode cM_kiss 36 = .ok (.ifCond .ne 24, 3) := by decide +kernel
theorem dM_kiss_39 : decode cM_kiss 39 = .ok (.aload_n 0, 1) := by decide +kernel
theorem dM_kiss_40 : decode cM_kiss 40 = .ok (.getfield 20, 3) := by decide +kernel
theorem dM_kiss_43 : decode cM_kiss 43 = .ok (.iload_n 1, 1) := by decide +kernel
theorem dM_kiss_44 : decode cM_kiss 44 = .ok (.iaload, 1) := by decide +kernel
theorem dM_kiss_45 : decode cM_kiss 45 = .ok (.bipush 10, 2) := by decide +kernel
theorem dM_kiss_47 : decode cM_kiss 47 = .ok (.if_icmp .ge 13, 3) := by decide +kernel
theorem dM_kiss_50 : decode cM_kiss 50 = .ok (.aload_n 0, 1) := by decide +kernel
theorem dM_kiss_51 : decode cM_kiss 51 = .ok (.getfield 20, 3) := by decide +kernel
theorem dM_kiss_54 : decode cM_kiss 54 = .ok (.iload_n 1, 1) := by decide +kernel
theorem dM_kiss_55 : decode cM_kiss 55 = .ok (.dup2, 1) := by decide +kernel
theorem dM_kiss_56 : decode cM_kiss 56 = .ok (.iaload, 1) := by decide +kernel
theorem dM_kiss_57 : decode cM_kiss 57 = .ok (.iconst 1, 1) := by decide +kernel
theorem dM_kiss_58 : decode cM_kiss 58 = .ok (.iadd, 1) := by decide +kernel
theorem dM_kiss_59 : decode cM_kiss 59 = .ok (.iastore, 1) := by decide +kernel
theorem dM_kiss_60 : decode cM_kiss 60 = .ok (.iconst 2, 1) := by decide +kernel
theorem dM_kiss_61 : decode cM_kiss 61 = .ok (.ireturn, 1) := by decide +kernel
theorem dM_half_0 : decode cM_half 0 = .ok (.lload_n 0, 1) := by decide +kernel
theorem dM_half_1 : decode cM_half 1 = .ok (.iconst 1, 1) := by decide +kernel
theorem dM_half_2 : decode cM_half 2 = .ok (.lshr, 1) := by decide +kernel
theorem dM_half_3 : decode cM_half 3 = .ok (.lload_n 2, 1) := by decide +kernel
theorem dM_half_4 : decode cM_half 4 = .ok (.iconst 1, 1) := by decide +kernel
theorem dM_half_5 : decode cM_half 5 = .ok (.lshr, 1) := by decide +kernel
theorem dM_half_6 : decode cM_half 6 = .ok (.ladd, 1) := by decide +kernel
theorem dM_half_7 : decode cM_half 7 = .ok (.lload_n 0, 1) := by decide +kernel
theorem dM_half_8 : decode cM_half 8 = .ok (.lload_n 2, 1) := by decide +kernel
theorem dM_half_9 : decode cM_half 9 = .ok (.land, 1) := by decide +kernel
theorem dM_half_10 : decode cM_half 10 = .ok (.lconst 1, 1) := by decide +kernel
theorem dM_half_11 : decode cM_half 11 = .ok (.land, 1) := by decide +kernel
theorem dM_half_12 : decode cM_half 12 = .ok (.ladd, 1) := by decide +kernel
theorem dM_half_13 : decode cM_half 13 = .ok (.lreturn, 1) := by decide +kernel
theorem dM_reach_0 : decode cM_reach 0 = .ok (.aload_n 0, 1) := by decide +kernel
theorem dM_reach_1 : decode cM_reach 1 = .ok (.iload_n 1, 1) := by decide +kernel
theorem dM_reach_2 : decode cM_reach 2 = .ok (.invokestatic 75, 3) := by decide +kernel
theorem dM_reach_5 : decode cM_reach 5 = .ok (.ifCond .eq 7, 3) := by decide +kernel
theorem dM_reach_8 : decode cM_reach 8 = .ok (.iconst 0, 1) := by decide +kernel
theorem dM_reach_9 : decode cM_reach 9 = .ok (.goto 4, 3) := by decide +kernel
theorem dM_reach_12 : decode cM_reach 12 = .ok (.iconst 1, 1) := by decide +kernel
theorem dM_reach_13 : decode cM_reach 13 = .ok (.putfield 54, 3) := by decide +kernel
theorem dM_reach_16 : decode cM_reach 16 = .ok (.aload_n 0, 1) := by decide +kernel
theorem dM_reach_17 : decode cM_reach 17 = .ok (.getfield 54, 3) := by decide +kernel
theorem dM_reach_20 : decode cM_reach 20 = .ok (.ifCond .le 7, 3) := by decide +kernel
theorem dM_reach_23 : decode cM_reach 23 = .ok (.iconst 0, 1) := by decide +kernel
theorem dM_reach_24 : decode cM_reach 24 = .ok (.goto 31, 3) := by decide +kernel
theorem dM_reach_27 : decode cM_reach 27 = .ok (.aload_n 0, 1) := by decide +kernel
theorem dM_reach_28 : decode cM_reach 28 = .ok (.getfield 13, 3) := by decide +kernel
theorem dM_reach_31 : decode cM_reach 31 = .ok (.iload_n 1, 1) := by decide +kernel
theorem dM_reach_32 : decode cM_reach 32 = .ok (.baload, 1) := by decide +kernel
theorem dM_reach_33 : decode cM_reach 33 = .ok (.ifCond .eq 16, 3) := by decide +kernel
theorem dM_reach_36 : decode cM_reach 36 = .ok (.aload_n 0, 1) := by decide +kernel
theorem dM_reach_37 : decode cM_reach 37 = .ok (.getfield 17, 3) := by decide +kernel
theorem dM_reach_40 : decode cM_reach 40 = .ok (.iload_n 1, 1) := by decide +kernel
theorem dM_reach_41 : decode cM_reach 41 = .ok (.iaload, 1) := by decide +kernel
theorem dM_reach_42 : decode cM_reach 42 = .ok (.sipush 256, 3) := by decide +kernel
theorem dM_reach_45 : decode cM_reach 45 = .ok (.iadd, 1) := by decide +kernel
theorem dM_reach_46 : decode cM_reach 46 = .ok (.goto 9, 3) := by decide +kernel
theorem dM_reach_49 : decode cM_reach 49 = .ok (.aload_n 0, 1) := by decide +kernel
theorem dM_reach_50 : decode cM_reach 50 = .ok (.getfield 17, 3) := by decide +kernel
theorem dM_reach_53 : decode cM_reach 53 = .ok (.iload_n 1, 1) := by decide +kernel
theorem dM_reach_54 : decode cM_reach 54 = .ok (.iaload, 1) := by decide +kernel
theorem dM_reach_55 : decode cM_reach 55 = .ok (.ireturn, 1) := by decide +kernel
theorem dM_poll_0 : decode cM_poll 0 = .ok (.aload_n 0, 1) := by decide +kernel
theorem dM_poll_1 : decode cM_poll 1 = .ok (.iload_n 1, 1) := by decide +kernel
theorem dM_poll_2 : decode cM_poll 2 = .ok (.invokestatic 75, 3) := by decide +kernel
theorem dM_poll_5 : decode cM_poll 5 = .ok (.ifCond .eq 7, 3) := by decide +kernel
theorem dM_poll_8 : decode cM_poll 8 = .ok (.iconst 0, 1) := by decide +kernel
theorem dM_poll_9 : decode cM_poll 9 = .ok (.goto 4, 3) := by decide +kernel
theorem dM_poll_12 : decode cM_poll 12 = .ok (.iconst 1, 1) := by decide +kernel
theorem dM_poll_13 : decode cM_poll 13 = .ok (.putfield 54, 3) := by decide +kernel
theorem dM_poll_16 : decode cM_poll 16 = .ok (.aload_n 0, 1) := by decide +kernel
theorem dM_poll_17 : decode cM_poll 17 = .ok (.getfield 54, 3) := by decide +kernel
theorem dM_poll_20 : decode cM_poll 20 = .ok (.ifCond .le 7, 3) := by decide +kernel
theorem dM_poll_23 : decode cM_poll 23 = .ok (.iconst 0, 1) := by decide +kernel
theorem dM_poll_24 : decode cM_poll 24 = .ok (.goto 9, 3) := by decide +kernel
theorem dM_poll_27 : decode cM_poll 27 = .ok (.aload_n 0, 1) := by decide +kernel
theorem dM_poll_28 : decode cM_poll 28 = .ok (.getfield 20, 3) := by decide +kernel
theorem dM_poll_31 : decode cM_poll 31 = .ok (.iload_n 1, 1) := by decide +kernel
theorem dM_poll_32 : decode cM_poll 32 = .ok (.iaload, 1) := by decide +kernel
theorem dM_poll_33 : decode cM_poll 33 = .ok (.ireturn, 1) := by decide +kernel
theorem dM_samples_0 : decode cM_samples 0 = .ok (.aload_n 0, 1) := by decide +kernel
theorem dM_samples_1 : decode cM_samples 1 = .ok (.iload_n 1, 1) := by decide +kernel
theorem dM_samples_2 : decode cM_samples 2 = .ok (.invokestatic 75, 3) := by decide +kernel
theorem dM_samples_5 : decode cM_samples 5 = .ok (.ifCond .eq 7, 3) := by decide +kernel
theorem dM_samples_8 : decode cM_samples 8 = .ok (.iconst 0, 1) := by decide +kernel
theorem dM_samples_9 : decode cM_samples 9 = .ok (.goto 4, 3) := by decide +kernel
theorem dM_samples_12 : decode cM_samples 12 = .ok (.iconst 1, 1) := by decide +kernel
theorem dM_samples_13 : decode cM_samples 13 = .ok (.putfield 54, 3) := by decide +kernel
theorem dM_samples_16 : decode cM_samples 16 = .ok (.aload_n 0, 1) := by decide +kernel
theorem dM_samples_17 : decode cM_samples 17 = .ok (.getfield 54, 3) := by decide +kernel
theorem dM_samples_20 : decode cM_samples 20 = .ok (.ifCond .le 7, 3) := by decide +kernel
theorem dM_samples_23 : decode cM_samples 23 = .ok (.iconst 0, 1) := by decide +kernel
theorem dM_samples_24 : decode cM_samples 24 = .ok (.goto 9, 3) := by decide +kernel
theorem dM_samples_27 : decode cM_samples 27 = .ok (.aload_n 0, 1) := by decide +kernel
theorem dM_samples_28 : decode cM_samples 28 = .ok (.getfield 39, 3) := by decide +kernel
theorem dM_samples_31 : decode cM_samples 31 = .ok (.iload_n 1, 1) := by decide +kernel
theorem dM_samples_32 : decode cM_samples 32 = .ok (.iaload, 1) := by decide +kernel
theorem dM_samples_33 : decode cM_samples 33 = .ok (.ireturn, 1) := by decide +kernel
theorem dM_offset_0 : decode cM_offset 0 = .ok (.aload_n 0, 1) := by decide +kernel
theorem dM_offset_1 : decode cM_offset 1 = .ok (.iload_n 1, 1) := by decide +kernel
theorem dM_offset_2 : decode cM_offset 2 = .ok (.invokevirtual 119, 3) := by decide +kernel
theorem dM_offset_5 : decode cM_offset 5 = .ok (.ifCond .eq 11, 3) := by decide +kernel
theorem dM_offset_8 : decode cM_offset 8 = .ok (.aload_n 0, 1) := by decide +kernel
theorem dM_offset_9 : decode cM_offset 9 = .ok (.iload_n 1, 1) := by decide +kernel
theorem dM_offset_10 : decode cM_offset 10 = .ok (.invokevirtual 122, 3) := by decide +kernel
theorem dM_offset_13 : decode cM_offset 13 = .ok (.goto 4, 3) := by decide +kernel
theorem dM_offset_16 : decode cM_offset 16 = .ok (.lconst 0, 1) := by decide +kernel
theorem dM_offset_17 : decode cM_offset 17 = .ok (.lreturn, 1) := by decide +kernel
theorem dM_shows_0 : decode cM_shows 0 = .ok (.aload_n 0, 1) := by decide +kernel
theorem dM_shows_1 : decode cM_shows 1 = .ok (.iload_n 1, 1) := by decide +kernel
theorem dM_shows_2 : decode cM_shows 2 = .ok (.invokestatic 75, 3) := by decide +kernel
theorem dM_shows_5 : decode cM_shows 5 = .ok (.ifCond .ne 7, 3) := by decide +kernel
theorem dM_shows_8 : decode cM_shows 8 = .ok (.iconst 1, 1) := by decide +kernel
theorem dM_shows_9 : decode cM_shows 9 = .ok (.goto 17, 3) := by decide +kernel
theorem dM_shows_12 : decode cM_shows 12 = .ok (.aload_n 0, 1) := by decide +kernel
theorem dM_shows_13 : decode cM_shows 13 = .ok (.getfield 39, 3) := by decide +kernel
theorem dM_shows_16 : decode cM_shows 16 = .ok (.iload_n 1, 1) := by decide +kernel
theorem dM_shows_17 : decode cM_shows 17 = .ok (.iaload, 1) := by decide +kernel
theorem dM_shows_18 : decode cM_shows 18 = .ok (.ifCond .ne 7, 3) := by decide +kernel
theorem dM_shows_21 : decode cM_shows 21 = .ok (.iconst 2, 1) := by decide +kernel
theorem dM_shows_22 : decode cM_shows 22 = .ok (.goto 4, 3) := by decide +kernel
theorem dM_shows_25 : decode cM_shows 25 = .ok (.iconst 0, 1) := by decide +kernel
theorem dM_shows_26 : decode cM_shows 26 = .ok (.putfield 54, 3) := by decide +kernel
theorem dM_shows_29 : decode cM_shows 29 = .ok (.aload_n 0, 1) := by decide +kernel
theorem dM_shows_30 : decode cM_shows 30 = .ok (.getfield 54, 3) := by decide +kernel
theorem dM_shows_33 : decode cM_shows 33 = .ok (.ifCond .ne 7, 3) := by decide +kernel
theorem dM_shows_36 : decode cM_shows 36 = .ok (.iconst 1, 1) := by decide +kernel
theorem dM_shows_37 : decode cM_shows 37 = .ok (.goto 4, 3) := by decide +kernel
theorem dM_shows_40 : decode cM_shows 40 = .ok (.iconst 0, 1) := by decide +kernel
theorem dM_shows_41 : decode cM_shows 41 = .ok (.ireturn, 1) := by decide +kernel
theorem dM_offsetOf_0 : decode cM_offsetOf 0 = .ok (.aload_n 0, 1) := by decide +kernel
theorem dM_offsetOf_1 : decode cM_offsetOf 1 = .ok (.getfield 42, 3) := by decide +kernel
theorem dM_offsetOf_4 : decode cM_offsetOf 4 = .ok (.aload_n 0, 1) := by decide +kernel
theorem dM_offsetOf_5 : decode cM_offsetOf 5 = .ok (.iload_n 1, 1) := by decide +kernel
theorem dM_offsetOf_6 : decode cM_offsetOf 6 = .ok (.invokevirtual 109, 3) := by decide +kernel
theorem dM_offsetOf_9 : decode cM_offsetOf 9 = .ok (.laload, 1) := by decide +kernel
theorem dM_offsetOf_10 : decode cM_offsetOf 10 = .ok (.lreturn, 1) := by decide +kernel
theorem dM_best_0 : decode cM_best 0 = .ok (.bipush 8, 2) := by decide +kernel
theorem dM_best_2 : decode cM_best 2 = .ok (.iload_n 1, 1) := by decide +kernel
theorem dM_best_3 : decode cM_best 3 = .ok (.imul, 1) := by decide +kernel
theorem dM_best_4 : decode cM_best 4 = .ok (.istore_n 2, 1) := by decide +kernel
theorem dM_best_5 : decode cM_best 5 = .ok (.bipush 8, 2) := by decide +kernel
theorem dM_best_7 : decode cM_best 7 = .ok (.iload_n 1, 1) := by decide +kernel
theorem dM_best_8 : decode cM_best 8 = .ok (.imul, 1) := by decide +kernel
theorem dM_best_9 : decode cM_best 9 = .ok (.istore_n 3, 1) := by decide +kernel
theorem dM_best_10 : decode cM_best 10 = .ok (.iload_n 3, 1) := by decide +kernel
theorem dM_best_11 : decode cM_best 11 = .ok (.bipush 8, 2) := by decide +kernel
theorem dM_best_13 : decode cM_best 13 = .ok (.iload_n 1, 1) := by decide +kernel
theorem dM_best_14 : decode cM_best 14 = .ok (.imul, 1) := by decide +kernel
theorem dM_best_15 : decode cM_best 15 = .ok (.aload_n 0, 1) := by decide +kernel
theorem dM_best_16 : decode cM_best 16 = .ok (.getfield 39, 3) := by decide +kernel
theorem dM_best_19 : decode cM_best 19 = .ok (.iload_n 1, 1) := by decide +kernel
theorem dM_best_20 : decode cM_best 20 = .ok (.iaload, 1) := by decide +kernel
theorem dM_best_21 : decode cM_best 21 = .ok (.iadd, 1) := by decide +kernel
theorem dM_best_22 : decode cM_best 22 = .ok (.if_icmp .ge 63, 3) := by decide +kernel
theorem dM_best_25 : decode cM_best 25 = .ok (.aload_n 0, 1) := by decide +kernel
theorem dM_best_26 : decode cM_best 26 = .ok (.getfield 45, 3) := by decide +kernel
theorem dM_best_29 : decode cM_best 29 = .ok (.iload_n 3, 1) := by decide +kernel
theorem dM_best_30 : decode cM_best 30 = .ok (.laload, 1) := by decide +kernel
theorem dM_best_31 : decode cM_best 31 = .ok (.ldc2_w 103, 3) := by decide +kernel
theorem dM_best_34 : decode cM_best 34 = .ok (.ldiv, 1) := by decide +kernel
theorem dM_best_35 : decode cM_best 35 = .ok (.aload_n 0, 1) := by decide +kernel
theorem dM_best_36 : decode cM_best 36 = .ok (.iload_n 3, 1) := by decide +kernel
theorem dM_best_37 : decode cM_best 37 = .ok (.invokevirtual 105, 3) := by decide +kernel
theorem dM_best_40 : decode cM_best 40 = .ok (.ladd, 1) := by decide +kernel
theorem dM_best_41 : decode cM_best 41 = .ok (.aload_n 0, 1) := by decide +kernel
theorem dM_best_42 : decode cM_best 42 = .ok (.getfield 45, 3) := by decide +kernel
theorem dM_best_45 : decode cM_best 45 = .ok (.iload_n 2, 1) := by decide +kernel
theorem dM_best_46 : decode cM_best 46 = .ok (.laload, 1) := by decide +kernel
theorem dM_best_47 : decode cM_best 47 = .ok (.ldc2_w 103, 3) := by decide +kernel
theorem dM_best_50 : decode cM_best 50 = .ok (.ldiv, 1) := by decide +kernel
theorem dM_best_51 : decode cM_best 51 = .ok (.aload_n 0, 1) := by decide +kernel
theorem dM_best_52 : decode cM_best 52 = .ok (.iload_n 2, 1) := by decide +kernel
theorem dM_best_53 : decode cM_best 53 = .ok (.invokevirtual 105, 3) := by decide +kernel
theorem dM_best_56 : decode cM_best 56 = .ok (.ladd, 1) := by decide +kernel
theorem dM_best_57 : decode cM_best 57 = .ok (.lcmp, 1) := by decide +kernel
theorem dM_best_58 : decode cM_best 58 = .ok (.ifCond .ge 7, 3) := by decide +kernel
theorem dM_best_61 : decode cM_best 61 = .ok (.iconst 1, 1) := by decide +kernel
theorem dM_best_62 : decode cM_best 62 = .ok (.goto 4, 3) := by decide +kernel
theorem dM_best_65 : decode cM_best 65 = .ok (.iconst 0, 1) := by decide +kernel
theorem dM_best_66 : decode cM_best 66 = .ok (.istore 4, 2) := by decide +kernel
theorem dM_best_68 : decode cM_best 68 = .ok (.iload 4, 2) := by decide +kernel
theorem dM_best_70 : decode cM_best 70 = .ok (.ifCond .eq 7, 3) := by decide +kernel
theorem dM_best_73 : decode cM_best 73 = .ok (.iload_n 3, 1) := by decide +kernel
theorem dM_best_74 : decode cM_best 74 = .ok (.goto 4, 3) := by decide +kernel
theorem dM_best_77 : decode cM_best 77 = .ok (.iload_n 2, 1) := by decide +kernel
theorem dM_best_78 : decode cM_best 78 = .ok (.istore_n 2, 1) := by decide +kernel
theorem dM_best_79 : decode cM_best 79 = .ok (.iinc 3 1, 3) := by decide +kernel
theorem dM_best_82 : decode cM_best 82 = .ok (.goto (-72), 3) := by decide +kernel
theorem dM_best_85 : decode cM_best 85 = .ok (.iload_n 2, 1) := by decide +kernel
theorem dM_best_86 : decode cM_best 86 = .ok (.ireturn, 1) := by decide +kernel
theorem dM_dispersion_0 : decode cM_dispersion 0 = .ok (.ldc2_w 101, 3) := by decide +kernel
theorem dM_dispersion_3 : decode cM_dispersion 3 = .ok (.aload_n 0, 1) := by decide +kernel
theorem dM_dispersion_4 : decode cM_dispersion 4 = .ok (.getfield 66, 3) := by decide +kernel
theorem dM_dispersion_7 : decode cM_dispersion 7 = .ok (.aload_n 0, 1) := by decide +kernel
theorem dM_dispersion_8 : decode cM_dispersion 8 = .ok (.getfield 48, 3) := by decide +kernel
theorem dM_dispersion_11 : decode cM_dispersion 11 = .ok (.iload_n 1, 1) := by decide +kernel
theorem dM_dispersion_12 : decode cM_dispersion 12 = .ok (.laload, 1) := by decide +kernel
theorem dM_dispersion_13 : decode cM_dispersion 13 = .ok (.lsub, 1) := by decide +kernel
theorem dM_dispersion_14 : decode cM_dispersion 14 = .ok (.ldc2_w 101, 3) := by decide +kernel
theorem dM_dispersion_17 : decode cM_dispersion 17 = .ok (.ldiv, 1) := by decide +kernel
theorem dM_dispersion_18 : decode cM_dispersion 18 = .ok (.ladd, 1) := by decide +kernel
theorem dM_dispersion_19 : decode cM_dispersion 19 = .ok (.lreturn, 1) := by decide +kernel
theorem dM_delay_0 : decode cM_delay 0 = .ok (.aload_n 0, 1) := by decide +kernel
theorem dM_delay_1 : decode cM_delay 1 = .ok (.iload_n 1, 1) := by decide +kernel
theorem dM_delay_2 : decode cM_delay 2 = .ok (.invokevirtual 119, 3) := by decide +kernel
theorem dM_delay_5 : decode cM_delay 5 = .ok (.ifCond .eq 16, 3) := by decide +kernel
theorem dM_delay_8 : decode cM_delay 8 = .ok (.aload_n 0, 1) := by decide +kernel
theorem dM_delay_9 : decode cM_delay 9 = .ok (.getfield 45, 3) := by decide +kernel
theorem dM_delay_12 : decode cM_delay 12 = .ok (.aload_n 0, 1) := by decide +kernel
theorem dM_delay_13 : decode cM_delay 13 = .ok (.iload_n 1, 1) := by decide +kernel
theorem dM_delay_14 : decode cM_delay 14 = .ok (.invokevirtual 109, 3) := by decide +kernel
theorem dM_delay_17 : decode cM_delay 17 = .ok (.laload, 1) := by decide +kernel
theorem dM_delay_18 : decode cM_delay 18 = .ok (.goto 4, 3) := by decide +kernel
theorem dM_delay_21 : decode cM_delay 21 = .ok (.lconst 0, 1) := by decide +kernel
theorem dM_delay_22 : decode cM_delay 22 = .ok (.lreturn, 1) := by decide +kernel
theorem dM_jitter_0 : decode cM_jitter 0 = .ok (.aload_n 0, 1) := by decide +kernel
theorem dM_jitter_1 : decode cM_jitter 1 = .ok (.iload_n 1, 1) := by decide +kernel
theorem dM_jitter_2 : decode cM_jitter 2 = .ok (.invokevirtual 119, 3) := by decide +kernel
theorem dM_jitter_5 : decode cM_jitter 5 = .ok (.ifCond .eq 11, 3) := by decide +kernel
theorem dM_jitter_8 : decode cM_jitter 8 = .ok (.aload_n 0, 1) := by decide +kernel
theorem dM_jitter_9 : decode cM_jitter 9 = .ok (.iload_n 1, 1) := by decide +kernel
theorem dM_jitter_10 : decode cM_jitter 10 = .ok (.invokevirtual 116, 3) := by decide +kernel
theorem dM_jitter_13 : decode cM_jitter 13 = .ok (.goto 4, 3) := by decide +kernel
theorem dM_jitter_16 : decode cM_jitter 16 = .ok (.lconst 0, 1) := by decide +kernel
theorem dM_jitter_17 : decode cM_jitter 17 = .ok (.lreturn, 1) := by decide +kernel
