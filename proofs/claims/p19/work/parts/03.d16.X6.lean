theorem dX6_sweep_159 : decode cX6_sweep 159 = .ok (.aload_n 0, 1) := by decide +kernel
theorem dX6_sweep_160 : decode cX6_sweep 160 = .ok (.getfield 7, 3) := by decide +kernel
theorem dX6_sweep_163 : decode cX6_sweep 163 = .ok (.bipush 31, 2) := by decide +kernel
theorem dX6_sweep_165 : decode cX6_sweep 165 = .ok (.iaload, 1) := by decide +kernel
theorem dX6_sweep_166 : decode cX6_sweep 166 = .ok (.if_icmp .ge 202, 3) := by decide +kernel
theorem dX6_sweep_169 : decode cX6_sweep 169 = .ok (.sipush 3100, 3) := by decide +kernel
theorem dX6_sweep_172 : decode cX6_sweep 172 = .ok (.iload_n 2, 1) := by decide +kernel
theorem dX6_sweep_173 : decode cX6_sweep 173 = .ok (.iadd, 1) := by decide +kernel
theorem dX6_sweep_174 : decode cX6_sweep 174 = .ok (.istore_n 3, 1) := by decide +kernel
theorem dX6_sweep_175 : decode cX6_sweep 175 = .ok (.aload_n 0, 1) := by decide +kernel
theorem dX6_sweep_176 : decode cX6_sweep 176 = .ok (.getfield 64, 3) := by decide +kernel
theorem dX6_sweep_179 : decode cX6_sweep 179 = .ok (.iload_n 2, 1) := by decide +kernel
theorem dX6_sweep_180 : decode cX6_sweep 180 = .ok (.baload, 1) := by decide +kernel
theorem dX6_sweep_181 : decode cX6_sweep 181 = .ok (.ifCond .eq 47, 3) := by decide +kernel
theorem dX6_sweep_184 : decode cX6_sweep 184 = .ok (.aload_n 0, 1) := by decide +kernel
theorem dX6_sweep_185 : decode cX6_sweep 185 = .ok (.getfield 16, 3) := by decide +kernel
theorem dX6_sweep_188 : decode cX6_sweep 188 = .ok (.iload_n 3, 1) := by decide +kernel
theorem dX6_sweep_189 : decode cX6_sweep 189 = .ok (.baload, 1) := by decide +kernel
theorem dX6_sweep_190 : decode cX6_sweep 190 = .ok (.ifCond .eq 38, 3) := by decide +kernel
theorem dX6_sweep_193 : decode cX6_sweep 193 = .ok (.aload_n 0, 1) := by decide +kernel
theorem dX6_sweep_194 : decode cX6_sweep 194 = .ok (.dup, 1) := by decide +kernel
theorem dX6_sweep_195 : decode cX6_sweep 195 = .ok (.getfield 133, 3) := by decide +kernel
theorem dX6_sweep_198 : decode cX6_sweep 198 = .ok (.aload_n 0, 1) := by decide +kernel
theorem dX6_sweep_199 : decode cX6_sweep 199 = .ok (.getfield 48, 3) := by decide +kernel
theorem dX6_sweep_202 : decode cX6_sweep 202 = .ok (.iload_n 2, 1) := by decide +kernel
theorem dX6_sweep_203 : decode cX6_sweep 203 = .ok (.baload, 1) := by decide +kernel
theorem dX6_sweep_204 : decode cX6_sweep 204 = .ok (.ifCond .ne 12, 3) := by decide +kernel
theorem dX6_sweep_207 : decode cX6_sweep 207 = .ok (.aload_n 0, 1) := by decide +kernel
theorem dX6_sweep_208 : decode cX6_sweep 208 = .ok (.getfield 51, 3) := by decide +kernel
theorem dX6_sweep_211 : decode cX6_sweep 211 = .ok (.iload_n 2, 1) := by decide +kernel
theorem dX6_sweep_212 : decode cX6_sweep 212 = .ok (.iaload, 1) := by decide +kernel
theorem dX6_sweep_213 : decode cX6_sweep 213 = .ok (.ifCond .le 7, 3) := by decide +kernel
theorem dX6_sweep_216 : decode cX6_sweep 216 = .ok (.iconst 1, 1) := by decide +kernel
theorem dX6_sweep_217 : decode cX6_sweep 217 = .ok (.goto 4, 3) := by decide +kernel
theorem dX6_sweep_220 : decode cX6_sweep 220 = .ok (.iconst 0, 1) := by decide +kernel
theorem dX6_sweep_221 : decode cX6_sweep 221 = .ok (.iadd, 1) := by decide +kernel
theorem dX6_sweep_222 : decode cX6_sweep 222 = .ok (.putfield 133, 3) := by decide +kernel
theorem dX6_sweep_225 : decode cX6_sweep 225 = .ok (.goto 137, 3) := by decide +kernel
theorem dX6_sweep_228 : decode cX6_sweep 228 = .ok (.aload_n 0, 1) := by decide +kernel
theorem dX6_sweep_229 : decode cX6_sweep 229 = .ok (.getfield 64, 3) := by decide +kernel
theorem dX6_sweep_232 : decode cX6_sweep 232 = .ok (.iload_n 2, 1) := by decide +kernel
theorem dX6_sweep_233 : decode cX6_sweep 233 = .ok (.baload, 1) := by decide +kernel
theorem dX6_sweep_234 : decode cX6_sweep 234 = .ok (.ifCond .eq 128, 3) := by decide +kernel
theorem dX6_sweep_237 : decode cX6_sweep 237 = .ok (.aload_n 0, 1) := by decide +kernel
theorem dX6_sweep_238 : decode cX6_sweep 238 = .ok (.dup, 1) := by decide +kernel
theorem dX6_sweep_239 : decode cX6_sweep 239 = .ok (.getfield 133, 3) := by decide +kernel
theorem dX6_sweep_242 : decode cX6_sweep 242 = .ok (.aload_n 0, 1) := by decide +kernel
theorem dX6_sweep_243 : decode cX6_sweep 243 = .ok (.getfield 48, 3) := by decide +kernel
theorem dX6_sweep_246 : decode cX6_sweep 246 = .ok (.iload_n 2, 1) := by decide +kernel
theorem dX6_sweep_247 : decode cX6_sweep 247 = .ok (.baload, 1) := by decide +kernel
theorem dX6_sweep_248 : decode cX6_sweep 248 = .ok (.ifCond .ne 12, 3) := by decide +kernel
theorem dX6_sweep_251 : decode cX6_sweep 251 = .ok (.aload_n 0, 1) := by decide +kernel
theorem dX6_sweep_252 : decode cX6_sweep 252 = .ok (.getfield 54, 3) := by decide +kernel
theorem dX6_sweep_255 : decode cX6_sweep 255 = .ok (.iload_n 2, 1) := by decide +kernel
theorem dX6_sweep_256 : decode cX6_sweep 256 = .ok (.baload, 1) := by decide +kernel
theorem dX6_sweep_257 : decode cX6_sweep 257 = .ok (.ifCond .eq 7, 3) := by decide +kernel
theorem dX6_sweep_260 : decode cX6_sweep 260 = .ok (.iconst 1, 1) := by decide +kernel
theorem dX6_sweep_261 : decode cX6_sweep 261 = .ok (.goto 4, 3) := by decide +kernel
theorem dX6_sweep_264 : decode cX6_sweep 264 = .ok (.iconst 0, 1) := by decide +kernel
theorem dX6_sweep_265 : decode cX6_sweep 265 = .ok (.iadd, 1) := by decide +kernel
theorem dX6_sweep_266 : decode cX6_sweep 266 = .ok (.putfield 133, 3) := by decide +kernel
theorem dX6_sweep_269 : decode cX6_sweep 269 = .ok (.iconst 0, 1) := by decide +kernel
theorem dX6_sweep_270 : decode cX6_sweep 270 = .ok (.istore 4, 2) := by decide +kernel
theorem dX6_sweep_272 : decode cX6_sweep 272 = .ok (.iload 4, 2) := by decide +kernel
theorem dX6_sweep_274 : decode cX6_sweep 274 = .ok (.aload_n 0, 1) := by decide +kernel
theorem dX6_sweep_275 : decode cX6_sweep 275 = .ok (.getfield 24, 3) := by decide +kernel
theorem dX6_sweep_278 : decode cX6_sweep 278 = .ok (.iload_n 3, 1) := by decide +kernel
theorem dX6_sweep_279 : decode cX6_sweep 279 = .ok (.iaload, 1) := by decide +kernel
theorem dX6_sweep_280 : decode cX6_sweep 280 = .ok (.if_icmp .ge 82, 3) := by decide +kernel
theorem dX6_sweep_283 : decode cX6_sweep 283 = .ok (.iload 4, 2) := by decide +kernel
theorem dX6_sweep_285 : decode cX6_sweep 285 = .ok (.bipush 8, 2) := by decide +kernel
theorem dX6_sweep_287 : decode cX6_sweep 287 = .ok (.iadd, 1) := by decide +kernel
theorem dX6_sweep_288 : decode cX6_sweep 288 = .ok (.aload_n 0, 1) := by decide +kernel
theorem dX6_sweep_289 : decode cX6_sweep 289 = .ok (.getfield 24, 3) := by decide +kernel
theorem dX6_sweep_292 : decode cX6_sweep 292 = .ok (.iload_n 3, 1) := by decide +kernel
theorem dX6_sweep_293 : decode cX6_sweep 293 = .ok (.iaload, 1) := by decide +kernel
theorem dX6_sweep_294 : decode cX6_sweep 294 = .ok (.if_icmp .ge 11, 3) := by decide +kernel
theorem dX6_sweep_297 : decode cX6_sweep 297 = .ok (.iload 4, 2) := by decide +kernel
theorem dX6_sweep_299 : decode cX6_sweep 299 = .ok (.bipush 8, 2) := by decide +kernel
theorem dX6_sweep_301 : decode cX6_sweep 301 = .ok (.iadd, 1) := by decide +kernel
theorem dX6_sweep_302 : decode cX6_sweep 302 = .ok (.goto 9, 3) := by decide +kernel
theorem dX6_sweep_305 : decode cX6_sweep 305 = .ok (.aload_n 0, 1) := by decide +kernel
theorem dX6_sweep_306 : decode cX6_sweep 306 = .ok (.getfield 24, 3) := by decide +kernel
theorem dX6_sweep_309 : decode cX6_sweep 309 = .ok (.iload_n 3, 1) := by decide +kernel
theorem dX6_sweep_310 : decode cX6_sweep 310 = .ok (.iaload, 1) := by decide +kernel
theorem dX6_sweep_311 : decode cX6_sweep 311 = .ok (.istore 5, 2) := by decide +kernel
theorem dX6_sweep_313 : decode cX6_sweep 313 = .ok (.aload_n 0, 1) := by decide +kernel
theorem dX6_sweep_314 : decode cX6_sweep 314 = .ok (.dup, 1) := by decide +kernel
theorem dX6_sweep_315 : decode cX6_sweep 315 = .ok (.getfield 133, 3) := by decide +kernel
theorem dX6_sweep_318 : decode cX6_sweep 318 = .ok (.aload_n 0, 1) := by decide +kernel
theorem dX6_sweep_319 : decode cX6_sweep 319 = .ok (.getfield 57, 3) := by decide +kernel
theorem dX6_sweep_322 : decode cX6_sweep 322 = .ok (.iload_n 2, 1) := by decide +kernel
theorem dX6_sweep_323 : decode cX6_sweep 323 = .ok (.laload, 1) := by decide +kernel
theorem dX6_sweep_324 : decode cX6_sweep 324 = .ok (.iload 4, 2) := by decide +kernel
theorem dX6_sweep_326 : decode cX6_sweep 326 = .ok (.lushr, 1) := by decide +kernel
theorem dX6_sweep_327 : decode cX6_sweep 327 = .ok (.ldc2_w 136, 3) := by decide +kernel
theorem dX6_sweep_330 : decode cX6_sweep 330 = .ok (.land, 1) := by decide +kernel
theorem dX6_sweep_331 : decode cX6_sweep 331 = .ok (.lconst 0, 1) := by decide +kernel
theorem dX6_sweep_332 : decode cX6_sweep 332 = .ok (.lcmp, 1) := by decide +kernel
theorem dX6_sweep_333 : decode cX6_sweep 333 = .ok (.ifCond .ne 14, 3) := by decide +kernel
theorem dX6_sweep_336 : decode cX6_sweep 336 = .ok (.iload 5, 2) := by decide +kernel
theorem dX6_sweep_338 : decode cX6_sweep 338 = .ok (.aload_n 0, 1) := by decide +kernel
theorem dX6_sweep_339 : decode cX6_sweep 339 = .ok (.getfield 61, 3) := by decide +kernel
theorem dX6_sweep_342 : decode cX6_sweep 342 = .ok (.iload_n 2, 1) := by decide +kernel
theorem dX6_sweep_343 : decode cX6_sweep 343 = .ok (.iaload, 1) := by decide +kernel
theorem dX6_sweep_344 : decode cX6_sweep 344 = .ok (.if_icmp .le 7, 3) := by decide +kernel
theorem dX6_sweep_347 : decode cX6_sweep 347 = .ok (.iconst 1, 1) := by decide +kernel
theorem dX6_sweep_348 : decode cX6_sweep 348 = .ok (.goto 4, 3) := by decide +kernel
theorem dX6_sweep_351 : decode cX6_sweep 351 = .ok (.iconst 0, 1) := by decide +kernel
theorem dX6_sweep_352 : decode cX6_sweep 352 = .ok (.iadd, 1) := by decide +kernel
theorem dX6_sweep_353 : decode cX6_sweep 353 = .ok (.putfield 133, 3) := by decide +kernel
theorem dX6_sweep_356 : decode cX6_sweep 356 = .ok (.iinc 4 8, 3) := by decide +kernel
theorem dX6_sweep_359 : decode cX6_sweep 359 = .ok (.goto (-87), 3) := by decide +kernel
theorem dX6_sweep_362 : decode cX6_sweep 362 = .ok (.iinc 2 1, 3) := by decide +kernel
theorem dX6_sweep_365 : decode cX6_sweep 365 = .ok (.goto (-207), 3) := by decide +kernel
theorem dX6_sweep_368 : decode cX6_sweep 368 = .ok (.iconst 0, 1) := by decide +kernel
theorem dX6_sweep_369 : decode cX6_sweep 369 = .ok (.istore_n 2, 1) := by decide +kernel
theorem dX6_sweep_370 : decode cX6_sweep 370 = .ok (.iconst 0, 1) := by decide +kernel
theorem dX6_sweep_371 : decode cX6_sweep 371 = .ok (.istore_n 3, 1) := by decide +kernel
theorem dX6_sweep_372 : decode cX6_sweep 372 = .ok (.iload_n 3, 1) := by decide +kernel
theorem dX6_sweep_373 : decode cX6_sweep 373 = .ok (.aload_n 0, 1) := by decide +kernel
theorem dX6_sweep_374 : decode cX6_sweep 374 = .ok (.getfield 7, 3) := by decide +kernel
theorem dX6_sweep_377 : decode cX6_sweep 377 = .ok (.bipush 31, 2) := by decide +kernel
theorem dX6_sweep_379 : decode cX6_sweep 379 = .ok (.iaload, 1) := by decide +kernel
theorem dX6_sweep_380 : decode cX6_sweep 380 = .ok (.if_icmp .ge 35, 3) := by decide +kernel
theorem dX6_sweep_383 : decode cX6_sweep 383 = .ok (.aload_n 0, 1) := by decide +kernel
theorem dX6_sweep_384 : decode cX6_sweep 384 = .ok (.getfield 64, 3) := by decide +kernel
theorem dX6_sweep_387 : decode cX6_sweep 387 = .ok (.iload_n 3, 1) := by decide +kernel
theorem dX6_sweep_388 : decode cX6_sweep 388 = .ok (.baload, 1) := by decide +kernel
theorem dX6_sweep_389 : decode cX6_sweep 389 = .ok (.ifCond .eq 20, 3) := by decide +kernel
theorem dX6_sweep_392 : decode cX6_sweep 392 = .ok (.aload_n 0, 1) := by decide +kernel
theorem dX6_sweep_393 : decode cX6_sweep 393 = .ok (.sipush 3100, 3) := by decide +kernel
theorem dX6_sweep_396 : decode cX6_sweep 396 = .ok (.iload_n 2, 1) := by decide +kernel
theorem dX6_sweep_397 : decode cX6_sweep 397 = .ok (.iadd, 1) := by decide +kernel
theorem dX6_sweep_398 : decode cX6_sweep 398 = .ok (.sipush 3100, 3) := by decide +kernel
theorem dX6_sweep_401 : decode cX6_sweep 401 = .ok (.iload_n 3, 1) := by decide +kernel
theorem dX6_sweep_402 : decode cX6_sweep 402 = .ok (.iadd, 1) := by decide +kernel
theorem dX6_sweep_403 : decode cX6_sweep 403 = .ok (.invokevirtual 70, 3) := by decide +kernel
theorem dX6_sweep_406 : decode cX6_sweep 406 = .ok (.iinc 2 1, 3) := by decide +kernel
theorem dX6_sweep_409 : decode cX6_sweep 409 = .ok (.iinc 3 1, 3) := by decide +kernel
theorem dX6_sweep_412 : decode cX6_sweep 412 = .ok (.goto (-40), 3) := by decide +kernel
theorem dX6_sweep_415 : decode cX6_sweep 415 = .ok (.aload_n 0, 1) := by decide +kernel
theorem dX6_sweep_416 : decode cX6_sweep 416 = .ok (.getfield 7, 3) := by decide +kernel
theorem dX6_sweep_419 : decode cX6_sweep 419 = .ok (.bipush 31, 2) := by decide +kernel
theorem dX6_sweep_421 : decode cX6_sweep 421 = .ok (.iload_n 2, 1) := by decide +kernel
theorem dX6_sweep_422 : decode cX6_sweep 422 = .ok (.iastore, 1) := by decide +kernel
theorem dX6_sweep_423 : decode cX6_sweep 423 = .ok (.return_, 1) := by decide +kernel
theorem dX6_blocks_0 : decode cX6_blocks 0 = .ok (.iconst 0, 1) := by decide +kernel
theorem dX6_blocks_1 : decode cX6_blocks 1 = .ok (.istore_n 2, 1) := by decide +kernel
theorem dX6_blocks_2 : decode cX6_blocks 2 = .ok (.bipush 100, 2) := by decide +kernel
theorem dX6_blocks_4 : decode cX6_blocks 4 = .ok (.iload_n 1, 1) := by decide +kernel
theorem dX6_blocks_5 : decode cX6_blocks 5 = .ok (.imul, 1) := by decide +kernel
theorem dX6_blocks_6 : decode cX6_blocks 6 = .ok (.istore_n 3, 1) := by decide +kernel
theorem dX6_blocks_7 : decode cX6_blocks 7 = .ok (.iload_n 3, 1) := by decide +kernel
theorem dX6_blocks_8 : decode cX6_blocks 8 = .ok (.bipush 100, 2) := by decide +kernel
theorem dX6_blocks_10 : decode cX6_blocks 10 = .ok (.iload_n 1, 1) := by decide +kernel
theorem dX6_blocks_11 : decode cX6_blocks 11 = .ok (.imul, 1) := by decide +kernel
theorem dX6_blocks_12 : decode cX6_blocks 12 = .ok (.aload_n 0, 1) := by decide +kernel
theorem dX6_blocks_13 : decode cX6_blocks 13 = .ok (.getfield 7, 3) := by decide +kernel
theorem dX6_blocks_16 : decode cX6_blocks 16 = .ok (.iload_n 1, 1) := by decide +kernel
theorem dX6_blocks_17 : decode cX6_blocks 17 = .ok (.iaload, 1) := by decide +kernel
theorem dX6_blocks_18 : decode cX6_blocks 18 = .ok (.iadd, 1) := by decide +kernel
theorem dX6_blocks_19 : decode cX6_blocks 19 = .ok (.if_icmp .ge 39, 3) := by decide +kernel
theorem dX6_blocks_22 : decode cX6_blocks 22 = .ok (.iload_n 2, 1) := by decide +kernel
theorem dX6_blocks_23 : decode cX6_blocks 23 = .ok (.aload_n 0, 1) := by decide +kernel
theorem dX6_blocks_24 : decode cX6_blocks 24 = .ok (.getfield 16, 3) := by decide +kernel
theorem dX6_blocks_27 : decode cX6_blocks 27 = .ok (.iload_n 3, 1) := by decide +kernel
theorem dX6_blocks_28 : decode cX6_blocks 28 = .ok (.baload, 1) := by decide +kernel
theorem dX6_blocks_29 : decode cX6_blocks 29 = .ok (.ifCond .eq 7, 3) := by decide +kernel
theorem dX6_blocks_32 : decode cX6_blocks 32 = .ok (.iconst 1, 1) := by decide +kernel
theorem dX6_blocks_33 : decode cX6_blocks 33 = .ok (.goto 17, 3) := by decide +kernel
theorem dX6_blocks_36 : decode cX6_blocks 36 = .ok (.iconst 1, 1) := by decide +kernel
theorem dX6_blocks_37 : decode cX6_blocks 37 = .ok (.aload_n 0, 1) := by decide +kernel
theorem dX6_blocks_38 : decode cX6_blocks 38 = .ok (.getfield 24, 3) := by decide +kernel
theorem dX6_blocks_41 : decode cX6_blocks 41 = .ok (.iload_n 3, 1) := by decide +kernel
theorem dX6_blocks_42 : decode cX6_blocks 42 = .ok (.iaload, 1) := by decide +kernel
theorem dX6_blocks_43 : decode cX6_blocks 43 = .ok (.bipush 7, 2) := by decide +kernel
theorem dX6_blocks_45 : decode cX6_blocks 45 = .ok (.iadd, 1) := by decide +kernel
theorem dX6_blocks_46 : decode cX6_blocks 46 = .ok (.bipush 8, 2) := by decide +kernel
theorem dX6_blocks_48 : decode cX6_blocks 48 = .ok (.idiv, 1) := by decide +kernel
theorem dX6_blocks_49 : decode cX6_blocks 49 = .ok (.iadd, 1) := by decide +kernel
theorem dX6_blocks_50 : decode cX6_blocks 50 = .ok (.iadd, 1) := by decide +kernel
theorem dX6_blocks_51 : decode cX6_blocks 51 = .ok (.istore_n 2, 1) := by decide +kernel
theorem dX6_blocks_52 : decode cX6_blocks 52 = .ok (.iinc 3 1, 3) := by decide +kernel
theorem dX6_blocks_55 : decode cX6_blocks 55 = .ok (.goto (-48), 3) := by decide +kernel
theorem dX6_blocks_58 : decode cX6_blocks 58 = .ok (.iload_n 2, 1) := by decide +kernel
theorem dX6_blocks_59 : decode cX6_blocks 59 = .ok (.ireturn, 1) := by decide +kernel
theorem dX6_wouldBe_0 : decode cX6_wouldBe 0 = .ok (.aload_n 0, 1) := by decide +kernel
theorem dX6_wouldBe_1 : decode cX6_wouldBe 1 = .ok (.iload_n 1, 1) := by decide +kernel
theorem dX6_wouldBe_2 : decode cX6_wouldBe 2 = .ok (.invokevirtual 138, 3) := by decide +kernel
theorem dX6_wouldBe_5 : decode cX6_wouldBe 5 = .ok (.ifCond .eq 6, 3) := by decide +kernel
theorem dX6_wouldBe_8 : decode cX6_wouldBe 8 = .ok (.bipush (-2), 2) := by decide +kernel
theorem dX6_wouldBe_10 : decode cX6_wouldBe 10 = .ok (.ireturn, 1) := by decide +kernel
theorem dX6_wouldBe_11 : decode cX6_wouldBe 11 = .ok (.aload_n 0, 1) := by decide +kernel
theorem dX6_wouldBe_12 : decode cX6_wouldBe 12 = .ok (.iload_n 1, 1) := by decide +kernel
theorem dX6_wouldBe_13 : decode cX6_wouldBe 13 = .ok (.invokevirtual 141, 3) := by decide +kernel
theorem dX6_wouldBe_16 : decode cX6_wouldBe 16 = .ok (.aload_n 0, 1) := by decide +kernel
theorem dX6_wouldBe_17 : decode cX6_wouldBe 17 = .ok (.getfield 7, 3) := by decide +kernel
theorem dX6_wouldBe_20 : decode cX6_wouldBe 20 = .ok (.bipush 31, 2) := by decide +kernel
theorem dX6_wouldBe_22 : decode cX6_wouldBe 22 = .ok (.iaload, 1) := by decide +kernel
theorem dX6_wouldBe_23 : decode cX6_wouldBe 23 = .ok (.bipush 40, 2) := by decide +kernel
theorem dX6_wouldBe_25 : decode cX6_wouldBe 25 = .ok (.if_icmp .gt 23, 3) := by decide +kernel
theorem dX6_wouldBe_28 : decode cX6_wouldBe 28 = .ok (.aload_n 0, 1) := by decide +kernel
theorem dX6_wouldBe_29 : decode cX6_wouldBe 29 = .ok (.bipush 31, 2) := by decide +kernel
theorem dX6_wouldBe_31 : decode cX6_wouldBe 31 = .ok (.invokevirtual 145, 3) := by decide +kernel
theorem dX6_wouldBe_34 : decode cX6_wouldBe 34 = .ok (.bipush 90, 2) := by decide +kernel
theorem dX6_wouldBe_36 : decode cX6_wouldBe 36 = .ok (.if_icmp .gt 12, 3) := by decide +kernel
theorem dX6_wouldBe_39 : decode cX6_wouldBe 39 = .ok (.aload_n 0, 1) := by decide +kernel
theorem dX6_wouldBe_40 : decode cX6_wouldBe 40 = .ok (.getfield 118, 3) := by decide +kernel
theorem dX6_wouldBe_43 : decode cX6_wouldBe 43 = .ok (.bipush 124, 2) := by decide +kernel
theorem dX6_wouldBe_45 : decode cX6_wouldBe 45 = .ok (.if_icmp .le 8, 3) := by decide +kernel
theorem dX6_wouldBe_48 : decode cX6_wouldBe 48 = .ok (.bipush (-3), 2) := by decide +kernel
theorem dX6_wouldBe_50 : decode cX6_wouldBe 50 = .ok (.goto 4, 3) := by decide +kernel
theorem dX6_wouldBe_53 : decode cX6_wouldBe 53 = .ok (.iconst 0, 1) := by decide +kernel
theorem dX6_wouldBe_54 : decode cX6_wouldBe 54 = .ok (.ireturn, 1) := by decide +kernel
theorem dX6_check_0 : decode cX6_check 0 = .ok (.aload_n 0, 1) := by decide +kernel
theorem dX6_check_1 : decode cX6_check 1 = .ok (.aload_n 0, 1) := by decide +kernel
theorem dX6_check_2 : decode cX6_check 2 = .ok (.iload_n 1, 1) := by decide +kernel
theorem dX6_check_3 : decode cX6_check 3 = .ok (.invokevirtual 98, 3) := by decide +kernel
theorem dX6_check_6 : decode cX6_check 6 = .ok (.ifCond .eq 7, 3) := by decide +kernel
theorem dX6_check_9 : decode cX6_check 9 = .ok (.iconst 0, 1) := by decide +kernel
theorem dX6_check_10 : decode cX6_check 10 = .ok (.goto 4, 3) := by decide +kernel
theorem dX6_check_13 : decode cX6_check 13 = .ok (.iconst 1, 1) := by decide +kernel
theorem dX6_check_14 : decode cX6_check 14 = .ok (.invokevirtual 102, 3) := by decide +kernel
theorem dX6_check_17 : decode cX6_check 17 = .ok (.ifCond .eq 7, 3) := by decide +kernel
theorem dX6_check_20 : decode cX6_check 20 = .ok (.iconst 0, 1) := by decide +kernel
theorem dX6_check_21 : decode cX6_check 21 = .ok (.goto 8, 3) := by decide +kernel
theorem dX6_check_24 : decode cX6_check 24 = .ok (.aload_n 0, 1) := by decide +kernel
theorem dX6_check_25 : decode cX6_check 25 = .ok (.iload_n 1, 1) := by decide +kernel
theorem dX6_check_26 : decode cX6_check 26 = .ok (.invokevirtual 148, 3) := by decide +kernel
theorem dX6_check_29 : decode cX6_check 29 = .ok (.ireturn, 1) := by decide +kernel
theorem dX6_writes_0 : decode cX6_writes 0 = .ok (.iconst 0, 1) := by decide +kernel
theorem dX6_writes_1 : decode cX6_writes 1 = .ok (.istore_n 2, 1) := by decide +kernel
theorem dX6_writes_2 : decode cX6_writes 2 = .ok (.iload_n 2, 1) := by decide +kernel
theorem dX6_writes_3 : decode cX6_writes 3 = .ok (.iload_n 1, 1) := by decide +kernel
theorem dX6_writes_4 : decode cX6_writes 4 = .ok (.if_icmp .ge 80, 3) := by decide +kernel
theorem dX6_writes_7 : decode cX6_writes 7 = .ok (.aload_n 0, 1) := by decide +kernel
theorem dX6_writes_8 : decode cX6_writes 8 = .ok (.getfield 45, 3) := by decide +kernel
theorem dX6_writes_11 : decode cX6_writes 11 = .ok (.ifCond .ne 36, 3) := by decide +kernel
theorem dX6_writes_14 : decode cX6_writes 14 = .ok (.aload_n 0, 1) := by decide +kernel
theorem dX6_writes_15 : decode cX6_writes 15 = .ok (.iconst (-1), 1) := by decide +kernel
theorem dX6_writes_16 : decode cX6_writes 16 = .ok (.putfield 45, 3) := by decide +kernel
theorem dX6_writes_19 : decode cX6_writes 19 = .ok (.aload_n 0, 1) := by decide +kernel
theorem dX6_writes_20 : decode cX6_writes 20 = .ok (.iconst 1, 1) := by decide +kernel
theorem dX6_writes_21 : decode cX6_writes 21 = .ok (.putfield 94, 3) := by decide +kernel
theorem dX6_writes_24 : decode cX6_writes 24 = .ok (.iconst 0, 1) := by decide +kernel
theorem dX6_writes_25 : decode cX6_writes 25 = .ok (.istore_n 3, 1) := by decide +kernel
theorem dX6_writes_26 : decode cX6_writes 26 = .ok (.iload_n 3, 1) := by decide +kernel
theorem dX6_writes_27 : decode cX6_writes 27 = .ok (.bipush 6, 2) := by decide +kernel
theorem dX6_writes_29 : decode cX6_writes 29 = .ok (.if_icmp .ge 16, 3) := by decide +kernel
theorem dX6_writes_32 : decode cX6_writes 32 = .ok (.aload_n 0, 1) := by decide +kernel
theorem dX6_writes_33 : decode cX6_writes 33 = .ok (.getfield 35, 3) := by decide +kernel
theorem dX6_writes_36 : decode cX6_writes 36 = .ok (.iload_n 3, 1) := by decide +kernel
theorem dX6_writes_37 : decode cX6_writes 37 = .ok (.iconst 0, 1) := by decide +kernel
theorem dX6_writes_38 : decode cX6_writes 38 = .ok (.bastore, 1) := by decide +kernel
theorem dX6_writes_39 : decode cX6_writes 39 = .ok (.iinc 3 1, 3) := by decide +kernel
theorem dX6_writes_42 : decode cX6_writes 42 = .ok (.goto (-16), 3) := by decide +kernel
theorem dX6_writes_45 : decode cX6_writes 45 = .ok (.iconst 0, 1) := by decide +kernel
theorem dX6_writes_46 : decode cX6_writes 46 = .ok (.ireturn, 1) := by decide +kernel
theorem dX6_writes_47 : decode cX6_writes 47 = .ok (.aload_n 0, 1) := by decide +kernel
theorem dX6_writes_48 : decode cX6_writes 48 = .ok (.dup, 1) := by decide +kernel
theorem dX6_writes_49 : decode cX6_writes 49 = .ok (.getfield 45, 3) := by decide +kernel
theorem dX6_writes_52 : decode cX6_writes 52 = .ok (.aload_n 0, 1) := by decide +kernel
theorem dX6_writes_53 : decode cX6_writes 53 = .ok (.getfield 45, 3) := by decide +kernel
theorem dX6_writes_56 : decode cX6_writes 56 = .ok (.ifCond .le 7, 3) := by decide +kernel
theorem dX6_writes_59 : decode cX6_writes 59 = .ok (.iconst 1, 1) := by decide +kernel
theorem dX6_writes_60 : decode cX6_writes 60 = .ok (.goto 4, 3) := by decide +kernel
theorem dX6_writes_63 : decode cX6_writes 63 = .ok (.iconst 0, 1) := by decide +kernel
theorem dX6_writes_64 : decode cX6_writes 64 = .ok (.isub, 1) := by decide +kernel
theorem dX6_writes_65 : decode cX6_writes 65 = .ok (.putfield 45, 3) := by decide +kernel
theorem dX6_writes_68 : decode cX6_writes 68 = .ok (.aload_n 0, 1) := by decide +kernel
theorem dX6_writes_69 : decode cX6_writes 69 = .ok (.dup, 1) := by decide +kernel
theorem dX6_writes_70 : decode cX6_writes 70 = .ok (.getfield 151, 3) := by decide +kernel
theorem dX6_writes_73 : decode cX6_writes 73 = .ok (.iconst 1, 1) := by decide +kernel
theorem dX6_writes_74 : decode cX6_writes 74 = .ok (.iadd, 1) := by decide +kernel
theorem dX6_writes_75 : decode cX6_writes 75 = .ok (.putfield 151, 3) := by decide +kernel
theorem dX6_writes_78 : decode cX6_writes 78 = .ok (.iinc 2 1, 3) := by decide +kernel
theorem dX6_writes_81 : decode cX6_writes 81 = .ok (.goto (-79), 3) := by decide +kernel
theorem dX6_writes_84 : decode cX6_writes 84 = .ok (.iconst 1, 1) := by decide +kernel
theorem dX6_writes_85 : decode cX6_writes 85 = .ok (.ireturn, 1) := by decide +kernel
theorem dX6_commit_0 : decode cX6_commit 0 = .ok (.aload_n 0, 1) := by decide +kernel
theorem dX6_commit_1 : decode cX6_commit 1 = .ok (.aload_n 0, 1) := by decide +kernel
theorem dX6_commit_2 : decode cX6_commit 2 = .ok (.iload_n 1, 1) := by decide +kernel
theorem dX6_commit_3 : decode cX6_commit 3 = .ok (.invokevirtual 98, 3) := by decide +kernel
theorem dX6_commit_6 : decode cX6_commit 6 = .ok (.ifCond .eq 7, 3) := by decide +kernel
theorem dX6_commit_9 : decode cX6_commit 9 = .ok (.iconst 0, 1) := by decide +kernel
theorem dX6_commit_10 : decode cX6_commit 10 = .ok (.goto 4, 3) := by decide +kernel
theorem dX6_commit_13 : decode cX6_commit 13 = .ok (.iconst 1, 1) := by decide +kernel
theorem dX6_commit_14 : decode cX6_commit 14 = .ok (.invokevirtual 102, 3) := by decide +kernel
theorem dX6_commit_17 : decode cX6_commit 17 = .ok (.ifCond .eq 5, 3) := by decide +kernel
theorem dX6_commit_20 : decode cX6_commit 20 = .ok (.iconst 0, 1) := by decide +kernel
theorem dX6_commit_21 : decode cX6_commit 21 = .ok (.ireturn, 1) := by decide +kernel
theorem dX6_commit_22 : decode cX6_commit 22 = .ok (.aload_n 0, 1) := by decide +kernel
theorem dX6_commit_23 : decode cX6_commit 23 = .ok (.iload_n 1, 1) := by decide +kernel
theorem dX6_commit_24 : decode cX6_commit 24 = .ok (.invokevirtual 148, 3) := by decide +kernel
theorem dX6_commit_27 : decode cX6_commit 27 = .ok (.istore_n 2, 1) := by decide +kernel
theorem dX6_commit_28 : decode cX6_commit 28 = .ok (.iload_n 2, 1) := by decide +kernel
theorem dX6_commit_29 : decode cX6_commit 29 = .ok (.bipush (-3), 2) := by decide +kernel
theorem dX6_commit_31 : decode cX6_commit 31 = .ok (.if_icmp .ne 6, 3) := by decide +kernel
theorem dX6_commit_34 : decode cX6_commit 34 = .ok (.bipush (-3), 2) := by decide +kernel
theorem dX6_commit_36 : decode cX6_commit 36 = .ok (.ireturn, 1) := by decide +kernel
theorem dX6_commit_37 : decode cX6_commit 37 = .ok (.aload_n 0, 1) := by decide +kernel
theorem dX6_commit_38 : decode cX6_commit 38 = .ok (.getfield 35, 3) := by decide +kernel
theorem dX6_commit_41 : decode cX6_commit 41 = .ok (.iload_n 1, 1) := by decide +kernel
theorem dX6_commit_42 : decode cX6_commit 42 = .ok (.iconst 0, 1) := by decide +kernel
theorem dX6_commit_43 : decode cX6_commit 43 = .ok (.bastore, 1) := by decide +kernel
theorem dX6_commit_44 : decode cX6_commit 44 = .ok (.iload_n 2, 1) := by decide +kernel
theorem dX6_commit_45 : decode cX6_commit 45 = .ok (.bipush (-2), 2) := by decide +kernel
theorem dX6_commit_47 : decode cX6_commit 47 = .ok (.if_icmp .ne 6, 3) := by decide +kernel
theorem dX6_commit_50 : decode cX6_commit 50 = .ok (.bipush (-2), 2) := by decide +kernel
theorem dX6_commit_52 : decode cX6_commit 52 = .ok (.ireturn, 1) := by decide +kernel
theorem dX6_commit_53 : decode cX6_commit 53 = .ok (.aload_n 0, 1) := by decide +kernel
theorem dX6_commit_54 : decode cX6_commit 54 = .ok (.getfield 118, 3) := by decide +kernel
theorem dX6_commit_57 : decode cX6_commit 57 = .ok (.ifCond .le 71, 3) := by decide +kernel
theorem dX6_commit_60 : decode cX6_commit 60 = .ok (.aload_n 0, 1) := by decide +kernel
theorem dX6_commit_61 : decode cX6_commit 61 = .ok (.aload_n 0, 1) := by decide +kernel
theorem dX6_commit_62 : decode cX6_commit 62 = .ok (.getfield 118, 3) := by decide +kernel
theorem dX6_commit_65 : decode cX6_commit 65 = .ok (.iconst 3, 1) := by decide +kernel
theorem dX6_commit_66 : decode cX6_commit 66 = .ok (.iadd, 1) := by decide +kernel
theorem dX6_commit_67 : decode cX6_commit 67 = .ok (.iconst 4, 1) := by decide +kernel
theorem dX6_commit_68 : decode cX6_commit 68 = .ok (.idiv, 1) := by decide +kernel
theorem dX6_commit_69 : decode cX6_commit 69 = .ok (.iconst 1, 1) := by decide +kernel
theorem dX6_commit_70 : decode cX6_commit 70 = .ok (.iadd, 1) := by decide +kernel
theorem dX6_commit_71 : decode cX6_commit 71 = .ok (.invokevirtual 154, 3) := by decide +kernel
theorem dX6_commit_74 : decode cX6_commit 74 = .ok (.ifCond .ne 6, 3) := by decide +kernel
theorem dX6_commit_77 : decode cX6_commit 77 = .ok (.bipush (-4), 2) := by decide +kernel
theorem dX6_commit_79 : decode cX6_commit 79 = .ok (.ireturn, 1) := by decide +kernel
theorem dX6_commit_80 : decode cX6_commit 80 = .ok (.aload_n 0, 1) := by decide +kernel
theorem dX6_commit_81 : decode cX6_commit 81 = .ok (.dup, 1) := by decide +kernel
theorem dX6_commit_82 : decode cX6_commit 82 = .ok (.getfield 157, 3) := by decide +kernel
theorem dX6_commit_85 : decode cX6_commit 85 = .ok (.iconst 1, 1) := by decide +kernel
theorem dX6_commit_86 : decode cX6_commit 86 = .ok (.iadd, 1) := by decide +kernel
theorem dX6_commit_87 : decode cX6_commit 87 = .ok (.putfield 157, 3) := by decide +kernel
theorem dX6_commit_90 : decode cX6_commit 90 = .ok (.aload_n 0, 1) := by decide +kernel
theorem dX6_commit_91 : decode cX6_commit 91 = .ok (.iconst 1, 1) := by decide +kernel
theorem dX6_commit_92 : decode cX6_commit 92 = .ok (.putfield 160, 3) := by decide +kernel
theorem dX6_commit_95 : decode cX6_commit 95 = .ok (.aload_n 0, 1) := by decide +kernel
theorem dX6_commit_96 : decode cX6_commit 96 = .ok (.aload_n 0, 1) := by decide +kernel
theorem dX6_commit_97 : decode cX6_commit 97 = .ok (.getfield 133, 3) := by decide +kernel
theorem dX6_commit_100 : decode cX6_commit 100 = .ok (.iconst 1, 1) := by decide +kernel
theorem dX6_commit_101 : decode cX6_commit 101 = .ok (.iadd, 1) := by decide +kernel
theorem dX6_commit_102 : decode cX6_commit 102 = .ok (.invokevirtual 154, 3) := by decide +kernel
theorem dX6_commit_105 : decode cX6_commit 105 = .ok (.ifCond .ne 6, 3) := by decide +kernel
theorem dX6_commit_108 : decode cX6_commit 108 = .ok (.bipush (-4), 2) := by decide +kernel
theorem dX6_commit_110 : decode cX6_commit 110 = .ok (.ireturn, 1) := by decide +kernel
theorem dX6_commit_111 : decode cX6_commit 111 = .ok (.aload_n 0, 1) := by decide +kernel
theorem dX6_commit_112 : decode cX6_commit 112 = .ok (.iconst 0, 1) := by decide +kernel
theorem dX6_commit_113 : decode cX6_commit 113 = .ok (.putfield 160, 3) := by decide +kernel
theorem dX6_commit_116 : decode cX6_commit 116 = .ok (.aload_n 0, 1) := by decide +kernel
theorem dX6_commit_117 : decode cX6_commit 117 = .ok (.iconst 0, 1) := by decide +kernel
theorem dX6_commit_118 : decode cX6_commit 118 = .ok (.bipush 31, 2) := by decide +kernel
theorem dX6_commit_120 : decode cX6_commit 120 = .ok (.invokevirtual 105, 3) := by decide +kernel
theorem dX6_commit_123 : decode cX6_commit 123 = .ok (.aload_n 0, 1) := by decide +kernel
theorem dX6_commit_124 : decode cX6_commit 124 = .ok (.getfield 157, 3) := by decide +kernel
theorem dX6_commit_127 : decode cX6_commit 127 = .ok (.ireturn, 1) := by decide +kernel
theorem dX6_commit_128 : decode cX6_commit 128 = .ok (.aload_n 0, 1) := by decide +kernel
theorem dX6_commit_129 : decode cX6_commit 129 = .ok (.dup, 1) := by decide +kernel
theorem dX6_commit_130 : decode cX6_commit 130 = .ok (.getfield 157, 3) := by decide +kernel
theorem dX6_commit_133 : decode cX6_commit 133 = .ok (.iconst 1, 1) := by decide +kernel
theorem dX6_commit_134 : decode cX6_commit 134 = .ok (.iadd, 1) := by decide +kernel
theorem dX6_commit_135 : decode cX6_commit 135 = .ok (.putfield 157, 3) := by decide +kernel
theorem dX6_commit_138 : decode cX6_commit 138 = .ok (.aload_n 0, 1) := by decide +kernel
theorem dX6_commit_139 : decode cX6_commit 139 = .ok (.getfield 157, 3) := by decide +kernel
theorem dX6_commit_142 : decode cX6_commit 142 = .ok (.ireturn, 1) := by decide +kernel
theorem dX6_power_0 : decode cX6_power 0 = .ok (.aload_n 0, 1) := by decide +kernel
theorem dX6_power_1 : decode cX6_power 1 = .ok (.iload_n 1, 1) := by decide +kernel
theorem dX6_power_2 : decode cX6_power 2 = .ok (.iconst (-1), 1) := by decide +kernel
theorem dX6_power_3 : decode cX6_power 3 = .ok (.if_icmp .lt 10, 3) := by decide +kernel
theorem dX6_power_6 : decode cX6_power 6 = .ok (.iload_n 1, 1) := by decide +kernel
theorem dX6_power_7 : decode cX6_power 7 = .ok (.sipush 1000, 3) := by decide +kernel
theorem dX6_power_10 : decode cX6_power 10 = .ok (.if_icmp .le 7, 3) := by decide +kernel
theorem dX6_power_13 : decode cX6_power 13 = .ok (.iconst 1, 1) := by decide +kernel
theorem dX6_power_14 : decode cX6_power 14 = .ok (.goto 4, 3) := by decide +kernel
theorem dX6_power_17 : decode cX6_power 17 = .ok (.iconst 0, 1) := by decide +kernel
theorem dX6_power_18 : decode cX6_power 18 = .ok (.invokevirtual 102, 3) := by decide +kernel
theorem dX6_power_21 : decode cX6_power 21 = .ok (.ifCond .ne 8, 3) := by decide +kernel
theorem dX6_power_24 : decode cX6_power 24 = .ok (.aload_n 0, 1) := by decide +kernel
theorem dX6_power_25 : decode cX6_power 25 = .ok (.iload_n 1, 1) := by decide +kernel
theorem dX6_power_26 : decode cX6_power 26 = .ok (.putfield 45, 3) := by decide +kernel
theorem dX6_power_29 : decode cX6_power 29 = .ok (.return_, 1) := by decide +kernel
theorem dX6_recover_0 : decode cX6_recover 0 = .ok (.aload_n 0, 1) := by decide +kernel
theorem dX6_recover_1 : decode cX6_recover 1 = .ok (.aload_n 0, 1) := by decide +kernel
theorem dX6_recover_2 : decode cX6_recover 2 = .ok (.getfield 94, 3) := by decide +kernel
theorem dX6_recover_5 : decode cX6_recover 5 = .ok (.ifCond .eq 7, 3) := by decide +kernel
theorem dX6_recover_8 : decode cX6_recover 8 = .ok (.iconst 0, 1) := by decide +kernel
theorem dX6_recover_9 : decode cX6_recover 9 = .ok (.goto 4, 3) := by decide +kernel
theorem dX6_recover_12 : decode cX6_recover 12 = .ok (.iconst 1, 1) := by decide +kernel
theorem dX6_recover_13 : decode cX6_recover 13 = .ok (.invokevirtual 102, 3) := by decide +kernel
theorem dX6_recover_16 : decode cX6_recover 16 = .ok (.ifCond .eq 5, 3) := by decide +kernel
theorem dX6_recover_19 : decode cX6_recover 19 = .ok (.iconst 0, 1) := by decide +kernel
theorem dX6_recover_20 : decode cX6_recover 20 = .ok (.ireturn, 1) := by decide +kernel
theorem dX6_recover_21 : decode cX6_recover 21 = .ok (.iconst 0, 1) := by decide +kernel
theorem dX6_recover_22 : decode cX6_recover 22 = .ok (.istore_n 1, 1) := by decide +kernel
theorem dX6_recover_23 : decode cX6_recover 23 = .ok (.aload_n 0, 1) := by decide +kernel
theorem dX6_recover_24 : decode cX6_recover 24 = .ok (.getfield 160, 3) := by decide +kernel
theorem dX6_recover_27 : decode cX6_recover 27 = .ok (.ifCond .eq 33, 3) := by decide +kernel
theorem dX6_recover_30 : decode cX6_recover 30 = .ok (.aload_n 0, 1) := by decide +kernel
theorem dX6_recover_31 : decode cX6_recover 31 = .ok (.getfield 133, 3) := by decide +kernel
theorem dX6_recover_34 : decode cX6_recover 34 = .ok (.iconst 1, 1) := by decide +kernel
theorem dX6_recover_35 : decode cX6_recover 35 = .ok (.iadd, 1) := by decide +kernel
theorem dX6_recover_36 : decode cX6_recover 36 = .ok (.istore_n 1, 1) := by decide +kernel
theorem dX6_recover_37 : decode cX6_recover 37 = .ok (.aload_n 0, 1) := by decide +kernel
theorem dX6_recover_38 : decode cX6_recover 38 = .ok (.iload_n 1, 1) := by decide +kernel
theorem dX6_recover_39 : decode cX6_recover 39 = .ok (.invokevirtual 154, 3) := by decide +kernel
theorem dX6_recover_42 : decode cX6_recover 42 = .ok (.ifCond .ne 6, 3) := by decide +kernel
theorem dX6_recover_45 : decode cX6_recover 45 = .ok (.bipush (-4), 2) := by decide +kernel
theorem dX6_recover_47 : decode cX6_recover 47 = .ok (.ireturn, 1) := by decide +kernel
theorem dX6_recover_48 : decode cX6_recover 48 = .ok (.aload_n 0, 1) := by decide +kernel
theorem dX6_recover_49 : decode cX6_recover 49 = .ok (.iconst 0, 1) := by decide +kernel
theorem dX6_recover_50 : decode cX6_recover 50 = .ok (.putfield 160, 3) := by decide +kernel
theorem dX6_recover_53 : decode cX6_recover 53 = .ok (.aload_n 0, 1) := by decide +kernel
theorem dX6_recover_54 : decode cX6_recover 54 = .ok (.iconst 0, 1) := by decide +kernel
theorem dX6_recover_55 : decode cX6_recover 55 = .ok (.bipush 31, 2) := by decide +kernel
theorem dX6_recover_57 : decode cX6_recover 57 = .ok (.invokevirtual 105, 3) := by decide +kernel
theorem dX6_recover_60 : decode cX6_recover 60 = .ok (.aload_n 0, 1) := by decide +kernel
theorem dX6_recover_61 : decode cX6_recover 61 = .ok (.iconst 0, 1) := by decide +kernel
theorem dX6_recover_62 : decode cX6_recover 62 = .ok (.putfield 94, 3) := by decide +kernel
theorem dX6_recover_65 : decode cX6_recover 65 = .ok (.iload_n 1, 1) := by decide +kernel
theorem dX6_recover_66 : decode cX6_recover 66 = .ok (.ireturn, 1) := by decide +kernel
theorem dX6_count_0 : decode cX6_count 0 = .ok (.aload_n 0, 1) := by decide +kernel
theorem dX6_count_1 : decode cX6_count 1 = .ok (.iload_n 1, 1) := by decide +kernel
theorem dX6_count_2 : decode cX6_count 2 = .ok (.ifCond .lt 8, 3) := by decide +kernel
theorem dX6_count_5 : decode cX6_count 5 = .ok (.iload_n 1, 1) := by decide +kernel
theorem dX6_count_6 : decode cX6_count 6 = .ok (.iconst 5, 1) := by decide +kernel
theorem dX6_count_7 : decode cX6_count 7 = .ok (.if_icmp .le 7, 3) := by decide +kernel
theorem dX6_count_10 : decode cX6_count 10 = .ok (.iconst 1, 1) := by decide +kernel
theorem dX6_count_11 : decode cX6_count 11 = .ok (.goto 4, 3) := by decide +kernel
theorem dX6_count_14 : decode cX6_count 14 = .ok (.iconst 0, 1) := by decide +kernel
theorem dX6_count_15 : decode cX6_count 15 = .ok (.invokevirtual 102, 3) := by decide +kernel
theorem dX6_count_18 : decode cX6_count 18 = .ok (.ifCond .eq 5, 3) := by decide +kernel
theorem dX6_count_21 : decode cX6_count 21 = .ok (.iconst 0, 1) := by decide +kernel
theorem dX6_count_22 : decode cX6_count 22 = .ok (.ireturn, 1) := by decide +kernel
theorem dX6_count_23 : decode cX6_count 23 = .ok (.iconst 0, 1) := by decide +kernel
theorem dX6_count_24 : decode cX6_count 24 = .ok (.istore_n 2, 1) := by decide +kernel
theorem dX6_count_25 : decode cX6_count 25 = .ok (.iconst 0, 1) := by decide +kernel
theorem dX6_count_26 : decode cX6_count 26 = .ok (.istore_n 3, 1) := by decide +kernel
theorem dX6_count_27 : decode cX6_count 27 = .ok (.iload_n 3, 1) := by decide +kernel
theorem dX6_count_28 : decode cX6_count 28 = .ok (.bipush 6, 2) := by decide +kernel
theorem dX6_count_30 : decode cX6_count 30 = .ok (.if_icmp .ge 26, 3) := by decide +kernel
theorem dX6_count_33 : decode cX6_count 33 = .ok (.iload_n 2, 1) := by decide +kernel
theorem dX6_count_34 : decode cX6_count 34 = .ok (.aload_n 0, 1) := by decide +kernel
theorem dX6_count_35 : decode cX6_count 35 = .ok (.getfield 35, 3) := by decide +kernel
theorem dX6_count_38 : decode cX6_count 38 = .ok (.iload_n 3, 1) := by decide +kernel
theorem dX6_count_39 : decode cX6_count 39 = .ok (.baload, 1) := by decide +kernel
theorem dX6_count_40 : decode cX6_count 40 = .ok (.ifCond .eq 7, 3) := by decide +kernel
theorem dX6_count_43 : decode cX6_count 43 = .ok (.iconst 1, 1) := by decide +kernel
theorem dX6_count_44 : decode cX6_count 44 = .ok (.goto 4, 3) := by decide +kernel
theorem dX6_count_47 : decode cX6_count 47 = .ok (.iconst 0, 1) := by decide +kernel
theorem dX6_count_48 : decode cX6_count 48 = .ok (.iadd, 1) := by decide +kernel
theorem dX6_count_49 : decode cX6_count 49 = .ok (.istore_n 2, 1) := by decide +kernel
