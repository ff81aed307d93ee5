theorem dX12_others_181 : decode cX12_others 181 = .ok (.invokevirtual 642, 3) := by decide +kernel
theorem dX12_others_184 : decode cX12_others 184 = .ok (.aload_n 0, 1) := by decide +kernel
theorem dX12_others_185 : decode cX12_others 185 = .ok (.getfield 213, 3) := by decide +kernel
theorem dX12_others_188 : decode cX12_others 188 = .ok (.aload_n 0, 1) := by decide +kernel
theorem dX12_others_189 : decode cX12_others 189 = .ok (.getfield 90, 3) := by decide +kernel
theorem dX12_others_192 : decode cX12_others 192 = .ok (.iload_n 1, 1) := by decide +kernel
theorem dX12_others_193 : decode cX12_others 193 = .ok (.iaload, 1) := by decide +kernel
theorem dX12_others_194 : decode cX12_others 194 = .ok (.aload_n 0, 1) := by decide +kernel
theorem dX12_others_195 : decode cX12_others 195 = .ok (.getfield 240, 3) := by decide +kernel
theorem dX12_others_198 : decode cX12_others 198 = .ok (.aload_n 0, 1) := by decide +kernel
theorem dX12_others_199 : decode cX12_others 199 = .ok (.getfield 249, 3) := by decide +kernel
theorem dX12_others_202 : decode cX12_others 202 = .ok (.iload_n 3, 1) := by decide +kernel
theorem dX12_others_203 : decode cX12_others 203 = .ok (.iaload, 1) := by decide +kernel
theorem dX12_others_204 : decode cX12_others 204 = .ok (.iaload, 1) := by decide +kernel
theorem dX12_others_205 : decode cX12_others 205 = .ok (.iastore, 1) := by decide +kernel
theorem dX12_others_206 : decode cX12_others 206 = .ok (.aload_n 0, 1) := by decide +kernel
theorem dX12_others_207 : decode cX12_others 207 = .ok (.getfield 249, 3) := by decide +kernel
theorem dX12_others_210 : decode cX12_others 210 = .ok (.iload_n 3, 1) := by decide +kernel
theorem dX12_others_211 : decode cX12_others 211 = .ok (.dup2, 1) := by decide +kernel
theorem dX12_others_212 : decode cX12_others 212 = .ok (.iaload, 1) := by decide +kernel
theorem dX12_others_213 : decode cX12_others 213 = .ok (.iconst 1, 1) := by decide +kernel
theorem dX12_others_214 : decode cX12_others 214 = .ok (.iadd, 1) := by decide +kernel
theorem dX12_others_215 : decode cX12_others 215 = .ok (.iastore, 1) := by decide +kernel
theorem dX12_others_216 : decode cX12_others 216 = .ok (.goto 225, 3) := by decide +kernel
theorem dX12_others_219 : decode cX12_others 219 = .ok (.aload_n 0, 1) := by decide +kernel
theorem dX12_others_220 : decode cX12_others 220 = .ok (.aload_n 0, 1) := by decide +kernel
theorem dX12_others_221 : decode cX12_others 221 = .ok (.getfield 246, 3) := by decide +kernel
theorem dX12_others_224 : decode cX12_others 224 = .ok (.iload_n 3, 1) := by decide +kernel
theorem dX12_others_225 : decode cX12_others 225 = .ok (.iaload, 1) := by decide +kernel
theorem dX12_others_226 : decode cX12_others 226 = .ok (.putfield 621, 3) := by decide +kernel
theorem dX12_others_229 : decode cX12_others 229 = .ok (.aload_n 0, 1) := by decide +kernel
theorem dX12_others_230 : decode cX12_others 230 = .ok (.dup, 1) := by decide +kernel
theorem dX12_others_231 : decode cX12_others 231 = .ok (.getfield 586, 3) := by decide +kernel
theorem dX12_others_234 : decode cX12_others 234 = .ok (.iconst 1, 1) := by decide +kernel
theorem dX12_others_235 : decode cX12_others 235 = .ok (.isub, 1) := by decide +kernel
theorem dX12_others_236 : decode cX12_others 236 = .ok (.putfield 586, 3) := by decide +kernel
theorem dX12_others_239 : decode cX12_others 239 = .ok (.goto 202, 3) := by decide +kernel
theorem dX12_others_242 : decode cX12_others 242 = .ok (.aload_n 0, 1) := by decide +kernel
theorem dX12_others_243 : decode cX12_others 243 = .ok (.iconst 4, 1) := by decide +kernel
theorem dX12_others_244 : decode cX12_others 244 = .ok (.iload_n 2, 1) := by decide +kernel
theorem dX12_others_245 : decode cX12_others 245 = .ok (.iconst 0, 1) := by decide +kernel
theorem dX12_others_246 : decode cX12_others 246 = .ok (.aload_n 0, 1) := by decide +kernel
theorem dX12_others_247 : decode cX12_others 247 = .ok (.getfield 600, 3) := by decide +kernel
theorem dX12_others_250 : decode cX12_others 250 = .ok (.invokevirtual 658, 3) := by decide +kernel
theorem dX12_others_253 : decode cX12_others 253 = .ok (.pop, 1) := by decide +kernel
theorem dX12_others_254 : decode cX12_others 254 = .ok (.goto 187, 3) := by decide +kernel
theorem dX12_others_257 : decode cX12_others 257 = .ok (.aload_n 0, 1) := by decide +kernel
theorem dX12_others_258 : decode cX12_others 258 = .ok (.getfield 24, 3) := by decide +kernel
theorem dX12_others_261 : decode cX12_others 261 = .ok (.iload_n 2, 1) := by decide +kernel
theorem dX12_others_262 : decode cX12_others 262 = .ok (.iaload, 1) := by decide +kernel
theorem dX12_others_263 : decode cX12_others 263 = .ok (.ifCond .le 23, 3) := by decide +kernel
theorem dX12_others_266 : decode cX12_others 266 = .ok (.aload_n 0, 1) := by decide +kernel
theorem dX12_others_267 : decode cX12_others 267 = .ok (.aload_n 0, 1) := by decide +kernel
theorem dX12_others_268 : decode cX12_others 268 = .ok (.getfield 24, 3) := by decide +kernel
theorem dX12_others_271 : decode cX12_others 271 = .ok (.iload_n 2, 1) := by decide +kernel
theorem dX12_others_272 : decode cX12_others 272 = .ok (.iaload, 1) := by decide +kernel
theorem dX12_others_273 : decode cX12_others 273 = .ok (.iconst 1, 1) := by decide +kernel
theorem dX12_others_274 : decode cX12_others 274 = .ok (.isub, 1) := by decide +kernel
theorem dX12_others_275 : decode cX12_others 275 = .ok (.iload_n 2, 1) := by decide +kernel
theorem dX12_others_276 : decode cX12_others 276 = .ok (.invokevirtual 606, 3) := by decide +kernel
theorem dX12_others_279 : decode cX12_others 279 = .ok (.aload_n 0, 1) := by decide +kernel
theorem dX12_others_280 : decode cX12_others 280 = .ok (.invokevirtual 648, 3) := by decide +kernel
theorem dX12_others_283 : decode cX12_others 283 = .ok (.goto 158, 3) := by decide +kernel
theorem dX12_others_286 : decode cX12_others 286 = .ok (.aload_n 0, 1) := by decide +kernel
theorem dX12_others_287 : decode cX12_others 287 = .ok (.getfield 20, 3) := by decide +kernel
theorem dX12_others_290 : decode cX12_others 290 = .ok (.iload_n 2, 1) := by decide +kernel
theorem dX12_others_291 : decode cX12_others 291 = .ok (.baload, 1) := by decide +kernel
theorem dX12_others_292 : decode cX12_others 292 = .ok (.ifCond .ne 149, 3) := by decide +kernel
theorem dX12_others_295 : decode cX12_others 295 = .ok (.aload_n 0, 1) := by decide +kernel
theorem dX12_others_296 : decode cX12_others 296 = .ok (.iconst 1, 1) := by decide +kernel
theorem dX12_others_297 : decode cX12_others 297 = .ok (.iload_n 2, 1) := by decide +kernel
theorem dX12_others_298 : decode cX12_others 298 = .ok (.invokevirtual 603, 3) := by decide +kernel
theorem dX12_others_301 : decode cX12_others 301 = .ok (.aload_n 0, 1) := by decide +kernel
theorem dX12_others_302 : decode cX12_others 302 = .ok (.getfield 237, 3) := by decide +kernel
theorem dX12_others_305 : decode cX12_others 305 = .ok (.aload_n 0, 1) := by decide +kernel
theorem dX12_others_306 : decode cX12_others 306 = .ok (.getfield 600, 3) := by decide +kernel
theorem dX12_others_309 : decode cX12_others 309 = .ok (.iload_n 2, 1) := by decide +kernel
theorem dX12_others_310 : decode cX12_others 310 = .ok (.iastore, 1) := by decide +kernel
theorem dX12_others_311 : decode cX12_others 311 = .ok (.aload_n 0, 1) := by decide +kernel
theorem dX12_others_312 : decode cX12_others 312 = .ok (.dup, 1) := by decide +kernel
theorem dX12_others_313 : decode cX12_others 313 = .ok (.getfield 600, 3) := by decide +kernel
theorem dX12_others_316 : decode cX12_others 316 = .ok (.iconst 1, 1) := by decide +kernel
theorem dX12_others_317 : decode cX12_others 317 = .ok (.iadd, 1) := by decide +kernel
theorem dX12_others_318 : decode cX12_others 318 = .ok (.putfield 600, 3) := by decide +kernel
theorem dX12_others_321 : decode cX12_others 321 = .ok (.goto 120, 3) := by decide +kernel
theorem dX12_others_324 : decode cX12_others 324 = .ok (.aload_n 0, 1) := by decide +kernel
theorem dX12_others_325 : decode cX12_others 325 = .ok (.iconst 0, 1) := by decide +kernel
theorem dX12_others_326 : decode cX12_others 326 = .ok (.putfield 597, 3) := by decide +kernel
theorem dX12_others_329 : decode cX12_others 329 = .ok (.aload_n 0, 1) := by decide +kernel
theorem dX12_others_330 : decode cX12_others 330 = .ok (.iload_n 3, 1) := by decide +kernel
theorem dX12_others_331 : decode cX12_others 331 = .ok (.invokevirtual 624, 3) := by decide +kernel
theorem dX12_others_334 : decode cX12_others 334 = .ok (.aload_n 0, 1) := by decide +kernel
theorem dX12_others_335 : decode cX12_others 335 = .ok (.getfield 597, 3) := by decide +kernel
theorem dX12_others_338 : decode cX12_others 338 = .ok (.iconst 3, 1) := by decide +kernel
theorem dX12_others_339 : decode cX12_others 339 = .ok (.if_icmp .ne 10, 3) := by decide +kernel
theorem dX12_others_342 : decode cX12_others 342 = .ok (.aload_n 0, 1) := by decide +kernel
theorem dX12_others_343 : decode cX12_others 343 = .ok (.invokevirtual 648, 3) := by decide +kernel
theorem dX12_others_346 : decode cX12_others 346 = .ok (.goto 95, 3) := by decide +kernel
theorem dX12_others_349 : decode cX12_others 349 = .ok (.aload_n 0, 1) := by decide +kernel
theorem dX12_others_350 : decode cX12_others 350 = .ok (.iload_n 3, 1) := by decide +kernel
theorem dX12_others_351 : decode cX12_others 351 = .ok (.invokevirtual 668, 3) := by decide +kernel
theorem dX12_others_354 : decode cX12_others 354 = .ok (.goto 87, 3) := by decide +kernel
theorem dX12_others_357 : decode cX12_others 357 = .ok (.aload_n 0, 1) := by decide +kernel
theorem dX12_others_358 : decode cX12_others 358 = .ok (.iconst 0, 1) := by decide +kernel
theorem dX12_others_359 : decode cX12_others 359 = .ok (.putfield 597, 3) := by decide +kernel
theorem dX12_others_362 : decode cX12_others 362 = .ok (.aload_n 0, 1) := by decide +kernel
theorem dX12_others_363 : decode cX12_others 363 = .ok (.iload_n 3, 1) := by decide +kernel
theorem dX12_others_364 : decode cX12_others 364 = .ok (.invokevirtual 668, 3) := by decide +kernel
theorem dX12_others_367 : decode cX12_others 367 = .ok (.goto 74, 3) := by decide +kernel
theorem dX12_others_370 : decode cX12_others 370 = .ok (.aload_n 0, 1) := by decide +kernel
theorem dX12_others_371 : decode cX12_others 371 = .ok (.aload_n 0, 1) := by decide +kernel
theorem dX12_others_372 : decode cX12_others 372 = .ok (.getfield 258, 3) := by decide +kernel
theorem dX12_others_375 : decode cX12_others 375 = .ok (.iload_n 3, 1) := by decide +kernel
theorem dX12_others_376 : decode cX12_others 376 = .ok (.iaload, 1) := by decide +kernel
theorem dX12_others_377 : decode cX12_others 377 = .ok (.putfield 597, 3) := by decide +kernel
theorem dX12_others_380 : decode cX12_others 380 = .ok (.aload_n 0, 1) := by decide +kernel
theorem dX12_others_381 : decode cX12_others 381 = .ok (.aload_n 0, 1) := by decide +kernel
theorem dX12_others_382 : decode cX12_others 382 = .ok (.getfield 261, 3) := by decide +kernel
theorem dX12_others_385 : decode cX12_others 385 = .ok (.iload_n 3, 1) := by decide +kernel
theorem dX12_others_386 : decode cX12_others 386 = .ok (.iaload, 1) := by decide +kernel
theorem dX12_others_387 : decode cX12_others 387 = .ok (.putfield 609, 3) := by decide +kernel
theorem dX12_others_390 : decode cX12_others 390 = .ok (.aload_n 0, 1) := by decide +kernel
theorem dX12_others_391 : decode cX12_others 391 = .ok (.aload_n 0, 1) := by decide +kernel
theorem dX12_others_392 : decode cX12_others 392 = .ok (.getfield 264, 3) := by decide +kernel
theorem dX12_others_395 : decode cX12_others 395 = .ok (.iload_n 3, 1) := by decide +kernel
theorem dX12_others_396 : decode cX12_others 396 = .ok (.iaload, 1) := by decide +kernel
theorem dX12_others_397 : decode cX12_others 397 = .ok (.putfield 612, 3) := by decide +kernel
theorem dX12_others_400 : decode cX12_others 400 = .ok (.aload_n 0, 1) := by decide +kernel
theorem dX12_others_401 : decode cX12_others 401 = .ok (.aload_n 0, 1) := by decide +kernel
theorem dX12_others_402 : decode cX12_others 402 = .ok (.getfield 267, 3) := by decide +kernel
theorem dX12_others_405 : decode cX12_others 405 = .ok (.iload_n 3, 1) := by decide +kernel
theorem dX12_others_406 : decode cX12_others 406 = .ok (.iaload, 1) := by decide +kernel
theorem dX12_others_407 : decode cX12_others 407 = .ok (.putfield 615, 3) := by decide +kernel
theorem dX12_others_410 : decode cX12_others 410 = .ok (.aload_n 0, 1) := by decide +kernel
theorem dX12_others_411 : decode cX12_others 411 = .ok (.aload_n 0, 1) := by decide +kernel
theorem dX12_others_412 : decode cX12_others 412 = .ok (.getfield 270, 3) := by decide +kernel
theorem dX12_others_415 : decode cX12_others 415 = .ok (.iload_n 3, 1) := by decide +kernel
theorem dX12_others_416 : decode cX12_others 416 = .ok (.iaload, 1) := by decide +kernel
theorem dX12_others_417 : decode cX12_others 417 = .ok (.putfield 595, 3) := by decide +kernel
theorem dX12_others_420 : decode cX12_others 420 = .ok (.aload_n 0, 1) := by decide +kernel
theorem dX12_others_421 : decode cX12_others 421 = .ok (.dup, 1) := by decide +kernel
theorem dX12_others_422 : decode cX12_others 422 = .ok (.getfield 586, 3) := by decide +kernel
theorem dX12_others_425 : decode cX12_others 425 = .ok (.iconst 1, 1) := by decide +kernel
theorem dX12_others_426 : decode cX12_others 426 = .ok (.isub, 1) := by decide +kernel
theorem dX12_others_427 : decode cX12_others 427 = .ok (.putfield 586, 3) := by decide +kernel
theorem dX12_others_430 : decode cX12_others 430 = .ok (.aload_n 0, 1) := by decide +kernel
theorem dX12_others_431 : decode cX12_others 431 = .ok (.getfield 597, 3) := by decide +kernel
theorem dX12_others_434 : decode cX12_others 434 = .ok (.ifCond .eq 7, 3) := by decide +kernel
theorem dX12_others_437 : decode cX12_others 437 = .ok (.aload_n 0, 1) := by decide +kernel
theorem dX12_others_438 : decode cX12_others 438 = .ok (.invokevirtual 648, 3) := by decide +kernel
theorem dX12_others_441 : decode cX12_others 441 = .ok (.return_, 1) := by decide +kernel
theorem dX12_goOn_0 : decode cX12_goOn 0 = .ok (.aload_n 0, 1) := by decide +kernel
theorem dX12_goOn_1 : decode cX12_goOn 1 = .ok (.iload_n 1, 1) := by decide +kernel
theorem dX12_goOn_2 : decode cX12_goOn 2 = .ok (.invokevirtual 630, 3) := by decide +kernel
theorem dX12_goOn_5 : decode cX12_goOn 5 = .ok (.ifCond .ne 28, 3) := by decide +kernel
theorem dX12_goOn_8 : decode cX12_goOn 8 = .ok (.aload_n 0, 1) := by decide +kernel
theorem dX12_goOn_9 : decode cX12_goOn 9 = .ok (.dup, 1) := by decide +kernel
theorem dX12_goOn_10 : decode cX12_goOn 10 = .ok (.getfield 586, 3) := by decide +kernel
theorem dX12_goOn_13 : decode cX12_goOn 13 = .ok (.iconst 1, 1) := by decide +kernel
theorem dX12_goOn_14 : decode cX12_goOn 14 = .ok (.isub, 1) := by decide +kernel
theorem dX12_goOn_15 : decode cX12_goOn 15 = .ok (.putfield 586, 3) := by decide +kernel
theorem dX12_goOn_18 : decode cX12_goOn 18 = .ok (.aload_n 0, 1) := by decide +kernel
theorem dX12_goOn_19 : decode cX12_goOn 19 = .ok (.aload_n 0, 1) := by decide +kernel
theorem dX12_goOn_20 : decode cX12_goOn 20 = .ok (.getfield 111, 3) := by decide +kernel
theorem dX12_goOn_23 : decode cX12_goOn 23 = .ok (.aload_n 0, 1) := by decide +kernel
theorem dX12_goOn_24 : decode cX12_goOn 24 = .ok (.getfield 246, 3) := by decide +kernel
theorem dX12_goOn_27 : decode cX12_goOn 27 = .ok (.iload_n 1, 1) := by decide +kernel
theorem dX12_goOn_28 : decode cX12_goOn 28 = .ok (.iaload, 1) := by decide +kernel
theorem dX12_goOn_29 : decode cX12_goOn 29 = .ok (.iaload, 1) := by decide +kernel
theorem dX12_goOn_30 : decode cX12_goOn 30 = .ok (.putfield 618, 3) := by decide +kernel
theorem dX12_goOn_33 : decode cX12_goOn 33 = .ok (.return_, 1) := by decide +kernel
theorem dX12_run_0 : decode cX12_run 0 = .ok (.aload_n 0, 1) := by decide +kernel
theorem dX12_run_1 : decode cX12_run 1 = .ok (.iconst 0, 1) := by decide +kernel
theorem dX12_run_2 : decode cX12_run 2 = .ok (.putfield 273, 3) := by decide +kernel
theorem dX12_run_5 : decode cX12_run 5 = .ok (.aload_n 0, 1) := by decide +kernel
theorem dX12_run_6 : decode cX12_run 6 = .ok (.getfield 577, 3) := by decide +kernel
theorem dX12_run_9 : decode cX12_run 9 = .ok (.ifCond .ne 6, 3) := by decide +kernel
theorem dX12_run_12 : decode cX12_run 12 = .ok (.bipush (-3), 2) := by decide +kernel
theorem dX12_run_14 : decode cX12_run 14 = .ok (.ireturn, 1) := by decide +kernel
theorem dX12_run_15 : decode cX12_run 15 = .ok (.iconst 0, 1) := by decide +kernel
theorem dX12_run_16 : decode cX12_run 16 = .ok (.istore_n 3, 1) := by decide +kernel
theorem dX12_run_17 : decode cX12_run 17 = .ok (.iload_n 3, 1) := by decide +kernel
theorem dX12_run_18 : decode cX12_run 18 = .ok (.sipush 460, 3) := by decide +kernel
theorem dX12_run_21 : decode cX12_run 21 = .ok (.if_icmp .ge 16, 3) := by decide +kernel
theorem dX12_run_24 : decode cX12_run 24 = .ok (.aload_n 0, 1) := by decide +kernel
theorem dX12_run_25 : decode cX12_run 25 = .ok (.getfield 213, 3) := by decide +kernel
theorem dX12_run_28 : decode cX12_run 28 = .ok (.iload_n 3, 1) := by decide +kernel
theorem dX12_run_29 : decode cX12_run 29 = .ok (.iconst 0, 1) := by decide +kernel
theorem dX12_run_30 : decode cX12_run 30 = .ok (.iastore, 1) := by decide +kernel
theorem dX12_run_31 : decode cX12_run 31 = .ok (.iinc 3 1, 3) := by decide +kernel
theorem dX12_run_34 : decode cX12_run 34 = .ok (.goto (-17), 3) := by decide +kernel
theorem dX12_run_37 : decode cX12_run 37 = .ok (.iconst 0, 1) := by decide +kernel
theorem dX12_run_38 : decode cX12_run 38 = .ok (.istore_n 3, 1) := by decide +kernel
theorem dX12_run_39 : decode cX12_run 39 = .ok (.iload_n 3, 1) := by decide +kernel
theorem dX12_run_40 : decode cX12_run 40 = .ok (.bipush 8, 2) := by decide +kernel
theorem dX12_run_42 : decode cX12_run 42 = .ok (.if_icmp .ge 16, 3) := by decide +kernel
theorem dX12_run_45 : decode cX12_run 45 = .ok (.aload_n 0, 1) := by decide +kernel
theorem dX12_run_46 : decode cX12_run 46 = .ok (.getfield 231, 3) := by decide +kernel
theorem dX12_run_49 : decode cX12_run 49 = .ok (.iload_n 3, 1) := by decide +kernel
theorem dX12_run_50 : decode cX12_run 50 = .ok (.iconst 0, 1) := by decide +kernel
theorem dX12_run_51 : decode cX12_run 51 = .ok (.iastore, 1) := by decide +kernel
theorem dX12_run_52 : decode cX12_run 52 = .ok (.iinc 3 1, 3) := by decide +kernel
theorem dX12_run_55 : decode cX12_run 55 = .ok (.goto (-16), 3) := by decide +kernel
theorem dX12_run_58 : decode cX12_run 58 = .ok (.aload_n 0, 1) := by decide +kernel
theorem dX12_run_59 : decode cX12_run 59 = .ok (.getfield 213, 3) := by decide +kernel
theorem dX12_run_62 : decode cX12_run 62 = .ok (.iconst 0, 1) := by decide +kernel
theorem dX12_run_63 : decode cX12_run 63 = .ok (.iload_n 1, 1) := by decide +kernel
theorem dX12_run_64 : decode cX12_run 64 = .ok (.iastore, 1) := by decide +kernel
theorem dX12_run_65 : decode cX12_run 65 = .ok (.aload_n 0, 1) := by decide +kernel
theorem dX12_run_66 : decode cX12_run 66 = .ok (.getfield 213, 3) := by decide +kernel
theorem dX12_run_69 : decode cX12_run 69 = .ok (.iconst 1, 1) := by decide +kernel
theorem dX12_run_70 : decode cX12_run 70 = .ok (.iload_n 2, 1) := by decide +kernel
theorem dX12_run_71 : decode cX12_run 71 = .ok (.iastore, 1) := by decide +kernel
theorem dX12_run_72 : decode cX12_run 72 = .ok (.aload_n 0, 1) := by decide +kernel
theorem dX12_run_73 : decode cX12_run 73 = .ok (.iconst 0, 1) := by decide +kernel
theorem dX12_run_74 : decode cX12_run 74 = .ok (.putfield 639, 3) := by decide +kernel
theorem dX12_run_77 : decode cX12_run 77 = .ok (.aload_n 0, 1) := by decide +kernel
theorem dX12_run_78 : decode cX12_run 78 = .ok (.iconst 0, 1) := by decide +kernel
theorem dX12_run_79 : decode cX12_run 79 = .ok (.putfield 583, 3) := by decide +kernel
theorem dX12_run_82 : decode cX12_run 82 = .ok (.aload_n 0, 1) := by decide +kernel
theorem dX12_run_83 : decode cX12_run 83 = .ok (.iconst 0, 1) := by decide +kernel
theorem dX12_run_84 : decode cX12_run 84 = .ok (.putfield 592, 3) := by decide +kernel
theorem dX12_run_87 : decode cX12_run 87 = .ok (.aload_n 0, 1) := by decide +kernel
theorem dX12_run_88 : decode cX12_run 88 = .ok (.iconst 0, 1) := by decide +kernel
theorem dX12_run_89 : decode cX12_run 89 = .ok (.putfield 600, 3) := by decide +kernel
theorem dX12_run_92 : decode cX12_run 92 = .ok (.aload_n 0, 1) := by decide +kernel
theorem dX12_run_93 : decode cX12_run 93 = .ok (.iconst 0, 1) := by decide +kernel
theorem dX12_run_94 : decode cX12_run 94 = .ok (.putfield 621, 3) := by decide +kernel
theorem dX12_run_97 : decode cX12_run 97 = .ok (.aload_n 0, 1) := by decide +kernel
theorem dX12_run_98 : decode cX12_run 98 = .ok (.iconst 0, 1) := by decide +kernel
theorem dX12_run_99 : decode cX12_run 99 = .ok (.putfield 586, 3) := by decide +kernel
theorem dX12_run_102 : decode cX12_run 102 = .ok (.aload_n 0, 1) := by decide +kernel
theorem dX12_run_103 : decode cX12_run 103 = .ok (.iconst 0, 1) := by decide +kernel
theorem dX12_run_104 : decode cX12_run 104 = .ok (.putfield 589, 3) := by decide +kernel
theorem dX12_run_107 : decode cX12_run 107 = .ok (.aload_n 0, 1) := by decide +kernel
theorem dX12_run_108 : decode cX12_run 108 = .ok (.iconst 1, 1) := by decide +kernel
theorem dX12_run_109 : decode cX12_run 109 = .ok (.putfield 580, 3) := by decide +kernel
theorem dX12_run_112 : decode cX12_run 112 = .ok (.aload_n 0, 1) := by decide +kernel
theorem dX12_run_113 : decode cX12_run 113 = .ok (.iconst 0, 1) := by decide +kernel
theorem dX12_run_114 : decode cX12_run 114 = .ok (.putfield 636, 3) := by decide +kernel
theorem dX12_run_117 : decode cX12_run 117 = .ok (.aload_n 0, 1) := by decide +kernel
theorem dX12_run_118 : decode cX12_run 118 = .ok (.iconst 0, 1) := by decide +kernel
theorem dX12_run_119 : decode cX12_run 119 = .ok (.putfield 618, 3) := by decide +kernel
theorem dX12_run_122 : decode cX12_run 122 = .ok (.aload_n 0, 1) := by decide +kernel
theorem dX12_run_123 : decode cX12_run 123 = .ok (.getfield 618, 3) := by decide +kernel
theorem dX12_run_126 : decode cX12_run 126 = .ok (.ifCond .lt 37, 3) := by decide +kernel
theorem dX12_run_129 : decode cX12_run 129 = .ok (.aload_n 0, 1) := by decide +kernel
theorem dX12_run_130 : decode cX12_run 130 = .ok (.getfield 618, 3) := by decide +kernel
theorem dX12_run_133 : decode cX12_run 133 = .ok (.aload_n 0, 1) := by decide +kernel
theorem dX12_run_134 : decode cX12_run 134 = .ok (.getfield 358, 3) := by decide +kernel
theorem dX12_run_137 : decode cX12_run 137 = .ok (.if_icmp .ge 26, 3) := by decide +kernel
theorem dX12_run_140 : decode cX12_run 140 = .ok (.aload_n 0, 1) := by decide +kernel
theorem dX12_run_141 : decode cX12_run 141 = .ok (.getfield 618, 3) := by decide +kernel
theorem dX12_run_144 : decode cX12_run 144 = .ok (.istore_n 3, 1) := by decide +kernel
theorem dX12_run_145 : decode cX12_run 145 = .ok (.aload_n 0, 1) := by decide +kernel
theorem dX12_run_146 : decode cX12_run 146 = .ok (.dup, 1) := by decide +kernel
theorem dX12_run_147 : decode cX12_run 147 = .ok (.getfield 618, 3) := by decide +kernel
theorem dX12_run_150 : decode cX12_run 150 = .ok (.iconst 1, 1) := by decide +kernel
theorem dX12_run_151 : decode cX12_run 151 = .ok (.iadd, 1) := by decide +kernel
theorem dX12_run_152 : decode cX12_run 152 = .ok (.putfield 618, 3) := by decide +kernel
theorem dX12_run_155 : decode cX12_run 155 = .ok (.aload_n 0, 1) := by decide +kernel
theorem dX12_run_156 : decode cX12_run 156 = .ok (.iload_n 3, 1) := by decide +kernel
theorem dX12_run_157 : decode cX12_run 157 = .ok (.invokevirtual 671, 3) := by decide +kernel
theorem dX12_run_160 : decode cX12_run 160 = .ok (.goto (-38), 3) := by decide +kernel
theorem dX12_run_163 : decode cX12_run 163 = .ok (.aload_n 0, 1) := by decide +kernel
theorem dX12_run_164 : decode cX12_run 164 = .ok (.getfield 636, 3) := by decide +kernel
theorem dX12_run_167 : decode cX12_run 167 = .ok (.iconst 2, 1) := by decide +kernel
theorem dX12_run_168 : decode cX12_run 168 = .ok (.if_icmp .ne 7, 3) := by decide +kernel
theorem dX12_run_171 : decode cX12_run 171 = .ok (.iconst 1, 1) := by decide +kernel
theorem dX12_run_172 : decode cX12_run 172 = .ok (.goto 28, 3) := by decide +kernel
theorem dX12_run_175 : decode cX12_run 175 = .ok (.aload_n 0, 1) := by decide +kernel
theorem dX12_run_176 : decode cX12_run 176 = .ok (.getfield 636, 3) := by decide +kernel
theorem dX12_run_179 : decode cX12_run 179 = .ok (.iconst 3, 1) := by decide +kernel
theorem dX12_run_180 : decode cX12_run 180 = .ok (.if_icmp .ne 7, 3) := by decide +kernel
theorem dX12_run_183 : decode cX12_run 183 = .ok (.iconst 2, 1) := by decide +kernel
theorem dX12_run_184 : decode cX12_run 184 = .ok (.goto 16, 3) := by decide +kernel
theorem dX12_run_187 : decode cX12_run 187 = .ok (.aload_n 0, 1) := by decide +kernel
theorem dX12_run_188 : decode cX12_run 188 = .ok (.getfield 636, 3) := by decide +kernel
theorem dX12_run_191 : decode cX12_run 191 = .ok (.iconst 5, 1) := by decide +kernel
theorem dX12_run_192 : decode cX12_run 192 = .ok (.if_icmp .ne 7, 3) := by decide +kernel
theorem dX12_run_195 : decode cX12_run 195 = .ok (.iconst 3, 1) := by decide +kernel
theorem dX12_run_196 : decode cX12_run 196 = .ok (.goto 4, 3) := by decide +kernel
theorem dX12_run_199 : decode cX12_run 199 = .ok (.iconst 0, 1) := by decide +kernel
theorem dX12_run_200 : decode cX12_run 200 = .ok (.ireturn, 1) := by decide +kernel
theorem dX12_ran_0 : decode cX12_ran 0 = .ok (.aload_n 0, 1) := by decide +kernel
theorem dX12_ran_1 : decode cX12_ran 1 = .ok (.iconst 0, 1) := by decide +kernel
theorem dX12_ran_2 : decode cX12_ran 2 = .ok (.putfield 273, 3) := by decide +kernel
theorem dX12_ran_5 : decode cX12_ran 5 = .ok (.iload_n 1, 1) := by decide +kernel
theorem dX12_ran_6 : decode cX12_ran 6 = .ok (.iconst 0, 1) := by decide +kernel
theorem dX12_ran_7 : decode cX12_ran 7 = .ok (.bipush 6, 2) := by decide +kernel
theorem dX12_ran_9 : decode cX12_ran 9 = .ok (.invokestatic 279, 3) := by decide +kernel
theorem dX12_ran_12 : decode cX12_ran 12 = .ok (.ifCond .ne 5, 3) := by decide +kernel
theorem dX12_ran_15 : decode cX12_ran 15 = .ok (.iconst (-1), 1) := by decide +kernel
theorem dX12_ran_16 : decode cX12_ran 16 = .ok (.ireturn, 1) := by decide +kernel
theorem dX12_ran_17 : decode cX12_ran 17 = .ok (.aload_n 0, 1) := by decide +kernel
theorem dX12_ran_18 : decode cX12_ran 18 = .ok (.getfield 580, 3) := by decide +kernel
theorem dX12_ran_21 : decode cX12_ran 21 = .ok (.ifCond .ne 6, 3) := by decide +kernel
theorem dX12_ran_24 : decode cX12_ran 24 = .ok (.bipush (-3), 2) := by decide +kernel
theorem dX12_ran_26 : decode cX12_ran 26 = .ok (.ireturn, 1) := by decide +kernel
theorem dX12_ran_27 : decode cX12_ran 27 = .ok (.aload_n 0, 1) := by decide +kernel
theorem dX12_ran_28 : decode cX12_ran 28 = .ok (.getfield 636, 3) := by decide +kernel
theorem dX12_ran_31 : decode cX12_ran 31 = .ok (.iconst 3, 1) := by decide +kernel
theorem dX12_ran_32 : decode cX12_ran 32 = .ok (.if_icmp .ne 7, 3) := by decide +kernel
theorem dX12_ran_35 : decode cX12_ran 35 = .ok (.iconst 1, 1) := by decide +kernel
theorem dX12_ran_36 : decode cX12_ran 36 = .ok (.goto 4, 3) := by decide +kernel
theorem dX12_ran_39 : decode cX12_ran 39 = .ok (.iconst 0, 1) := by decide +kernel
theorem dX12_ran_40 : decode cX12_ran 40 = .ok (.istore_n 2, 1) := by decide +kernel
theorem dX12_ran_41 : decode cX12_ran 41 = .ok (.iconst 0, 1) := by decide +kernel
theorem dX12_ran_42 : decode cX12_ran 42 = .ok (.istore_n 3, 1) := by decide +kernel
theorem dX12_ran_43 : decode cX12_ran 43 = .ok (.iload_n 1, 1) := by decide +kernel
theorem dX12_ran_44 : decode cX12_ran 44 = .ok (.tableswitch 121 0 5 #[40, 45, 50, 67, 85, 103], 40) := by decide +kernel
theorem dX12_ran_84 : decode cX12_ran 84 = .ok (.aload_n 0, 1) := by decide +kernel
theorem dX12_ran_85 : decode cX12_ran 85 = .ok (.getfield 639, 3) := by decide +kernel
theorem dX12_ran_88 : decode cX12_ran 88 = .ok (.ireturn, 1) := by decide +kernel
theorem dX12_ran_89 : decode cX12_ran 89 = .ok (.aload_n 0, 1) := by decide +kernel
theorem dX12_ran_90 : decode cX12_ran 90 = .ok (.getfield 583, 3) := by decide +kernel
theorem dX12_ran_93 : decode cX12_ran 93 = .ok (.ireturn, 1) := by decide +kernel
theorem dX12_ran_94 : decode cX12_ran 94 = .ok (.aload_n 0, 1) := by decide +kernel
theorem dX12_ran_95 : decode cX12_ran 95 = .ok (.getfield 636, 3) := by decide +kernel
theorem dX12_ran_98 : decode cX12_ran 98 = .ok (.iconst 2, 1) := by decide +kernel
theorem dX12_ran_99 : decode cX12_ran 99 = .ok (.if_icmp .ne 10, 3) := by decide +kernel
theorem dX12_ran_102 : decode cX12_ran 102 = .ok (.aload_n 0, 1) := by decide +kernel
theorem dX12_ran_103 : decode cX12_ran 103 = .ok (.getfield 615, 3) := by decide +kernel
theorem dX12_ran_106 : decode cX12_ran 106 = .ok (.goto 4, 3) := by decide +kernel
theorem dX12_ran_109 : decode cX12_ran 109 = .ok (.iconst 0, 1) := by decide +kernel
theorem dX12_ran_110 : decode cX12_ran 110 = .ok (.ireturn, 1) := by decide +kernel
theorem dX12_ran_111 : decode cX12_ran 111 = .ok (.iload_n 2, 1) := by decide +kernel
theorem dX12_ran_112 : decode cX12_ran 112 = .ok (.ifCond .eq 15, 3) := by decide +kernel
theorem dX12_ran_115 : decode cX12_ran 115 = .ok (.aload_n 0, 1) := by decide +kernel
theorem dX12_ran_116 : decode cX12_ran 116 = .ok (.getfield 216, 3) := by decide +kernel
theorem dX12_ran_119 : decode cX12_ran 119 = .ok (.aload_n 0, 1) := by decide +kernel
theorem dX12_ran_120 : decode cX12_ran 120 = .ok (.getfield 595, 3) := by decide +kernel
theorem dX12_ran_123 : decode cX12_ran 123 = .ok (.iaload, 1) := by decide +kernel
theorem dX12_ran_124 : decode cX12_ran 124 = .ok (.goto 4, 3) := by decide +kernel
theorem dX12_ran_127 : decode cX12_ran 127 = .ok (.iconst (-1), 1) := by decide +kernel
theorem dX12_ran_128 : decode cX12_ran 128 = .ok (.ireturn, 1) := by decide +kernel
theorem dX12_ran_129 : decode cX12_ran 129 = .ok (.iload_n 2, 1) := by decide +kernel
theorem dX12_ran_130 : decode cX12_ran 130 = .ok (.ifCond .eq 15, 3) := by decide +kernel
theorem dX12_ran_133 : decode cX12_ran 133 = .ok (.aload_n 0, 1) := by decide +kernel
theorem dX12_ran_134 : decode cX12_ran 134 = .ok (.getfield 219, 3) := by decide +kernel
theorem dX12_ran_137 : decode cX12_ran 137 = .ok (.aload_n 0, 1) := by decide +kernel
theorem dX12_ran_138 : decode cX12_ran 138 = .ok (.getfield 595, 3) := by decide +kernel
theorem dX12_ran_141 : decode cX12_ran 141 = .ok (.iaload, 1) := by decide +kernel
theorem dX12_ran_142 : decode cX12_ran 142 = .ok (.goto 4, 3) := by decide +kernel
theorem dX12_ran_145 : decode cX12_ran 145 = .ok (.iconst 0, 1) := by decide +kernel
theorem dX12_ran_146 : decode cX12_ran 146 = .ok (.ireturn, 1) := by decide +kernel
theorem dX12_ran_147 : decode cX12_ran 147 = .ok (.iload_n 2, 1) := by decide +kernel
theorem dX12_ran_148 : decode cX12_ran 148 = .ok (.ifCond .eq 15, 3) := by decide +kernel
theorem dX12_ran_151 : decode cX12_ran 151 = .ok (.aload_n 0, 1) := by decide +kernel
theorem dX12_ran_152 : decode cX12_ran 152 = .ok (.getfield 222, 3) := by decide +kernel
theorem dX12_ran_155 : decode cX12_ran 155 = .ok (.aload_n 0, 1) := by decide +kernel
theorem dX12_ran_156 : decode cX12_ran 156 = .ok (.getfield 595, 3) := by decide +kernel
theorem dX12_ran_159 : decode cX12_ran 159 = .ok (.iaload, 1) := by decide +kernel
theorem dX12_ran_160 : decode cX12_ran 160 = .ok (.goto 4, 3) := by decide +kernel
theorem dX12_ran_163 : decode cX12_ran 163 = .ok (.iconst 0, 1) := by decide +kernel
theorem dX12_ran_164 : decode cX12_ran 164 = .ok (.ireturn, 1) := by decide +kernel
theorem dX12_ran_165 : decode cX12_ran 165 = .ok (.iconst 0, 1) := by decide +kernel
theorem dX12_ran_166 : decode cX12_ran 166 = .ok (.istore 4, 2) := by decide +kernel
theorem dX12_ran_168 : decode cX12_ran 168 = .ok (.iload 4, 2) := by decide +kernel
theorem dX12_ran_170 : decode cX12_ran 170 = .ok (.bipush 8, 2) := by decide +kernel
theorem dX12_ran_172 : decode cX12_ran 172 = .ok (.if_icmp .ge 19, 3) := by decide +kernel
theorem dX12_ran_175 : decode cX12_ran 175 = .ok (.iload_n 3, 1) := by decide +kernel
theorem dX12_ran_176 : decode cX12_ran 176 = .ok (.aload_n 0, 1) := by decide +kernel
theorem dX12_ran_177 : decode cX12_ran 177 = .ok (.getfield 231, 3) := by decide +kernel
theorem dX12_ran_180 : decode cX12_ran 180 = .ok (.iload 4, 2) := by decide +kernel
theorem dX12_ran_182 : decode cX12_ran 182 = .ok (.iaload, 1) := by decide +kernel
theorem dX12_ran_183 : decode cX12_ran 183 = .ok (.iadd, 1) := by decide +kernel
theorem dX12_ran_184 : decode cX12_ran 184 = .ok (.istore_n 3, 1) := by decide +kernel
theorem dX12_ran_185 : decode cX12_ran 185 = .ok (.iinc 4 1, 3) := by decide +kernel
theorem dX12_ran_188 : decode cX12_ran 188 = .ok (.goto (-20), 3) := by decide +kernel
theorem dX12_ran_191 : decode cX12_ran 191 = .ok (.iload_n 3, 1) := by decide +kernel
theorem dX12_ran_192 : decode cX12_ran 192 = .ok (.ireturn, 1) := by decide +kernel
theorem dX12_trace_0 : decode cX12_trace 0 = .ok (.aload_n 0, 1) := by decide +kernel
theorem dX12_trace_1 : decode cX12_trace 1 = .ok (.iconst 0, 1) := by decide +kernel
theorem dX12_trace_2 : decode cX12_trace 2 = .ok (.putfield 273, 3) := by decide +kernel
theorem dX12_trace_5 : decode cX12_trace 5 = .ok (.aload_n 0, 1) := by decide +kernel
theorem dX12_trace_6 : decode cX12_trace 6 = .ok (.getfield 580, 3) := by decide +kernel
theorem dX12_trace_9 : decode cX12_trace 9 = .ok (.ifCond .eq 26, 3) := by decide +kernel
theorem dX12_trace_12 : decode cX12_trace 12 = .ok (.iload_n 1, 1) := by decide +kernel
theorem dX12_trace_13 : decode cX12_trace 13 = .ok (.iconst 0, 1) := by decide +kernel
theorem dX12_trace_14 : decode cX12_trace 14 = .ok (.aload_n 0, 1) := by decide +kernel
theorem dX12_trace_15 : decode cX12_trace 15 = .ok (.getfield 583, 3) := by decide +kernel
theorem dX12_trace_18 : decode cX12_trace 18 = .ok (.iconst 1, 1) := by decide +kernel
theorem dX12_trace_19 : decode cX12_trace 19 = .ok (.isub, 1) := by decide +kernel
theorem dX12_trace_20 : decode cX12_trace 20 = .ok (.invokestatic 279, 3) := by decide +kernel
theorem dX12_trace_23 : decode cX12_trace 23 = .ok (.ifCond .eq 12, 3) := by decide +kernel
theorem dX12_trace_26 : decode cX12_trace 26 = .ok (.iload_n 2, 1) := by decide +kernel
theorem dX12_trace_27 : decode cX12_trace 27 = .ok (.iconst 0, 1) := by decide +kernel
theorem dX12_trace_28 : decode cX12_trace 28 = .ok (.iconst 1, 1) := by decide +kernel
theorem dX12_trace_29 : decode cX12_trace 29 = .ok (.invokestatic 279, 3) := by decide +kernel
theorem dX12_trace_32 : decode cX12_trace 32 = .ok (.ifCond .ne 5, 3) := by decide +kernel
theorem dX12_trace_35 : decode cX12_trace 35 = .ok (.iconst (-1), 1) := by decide +kernel
theorem dX12_trace_36 : decode cX12_trace 36 = .ok (.ireturn, 1) := by decide +kernel
theorem dX12_trace_37 : decode cX12_trace 37 = .ok (.iload_n 2, 1) := by decide +kernel
theorem dX12_trace_38 : decode cX12_trace 38 = .ok (.ifCond .ne 12, 3) := by decide +kernel
theorem dX12_trace_41 : decode cX12_trace 41 = .ok (.aload_n 0, 1) := by decide +kernel
theorem dX12_trace_42 : decode cX12_trace 42 = .ok (.getfield 207, 3) := by decide +kernel
theorem dX12_trace_45 : decode cX12_trace 45 = .ok (.iload_n 1, 1) := by decide +kernel
theorem dX12_trace_46 : decode cX12_trace 46 = .ok (.iaload, 1) := by decide +kernel
theorem dX12_trace_47 : decode cX12_trace 47 = .ok (.goto 9, 3) := by decide +kernel
theorem dX12_trace_50 : decode cX12_trace 50 = .ok (.aload_n 0, 1) := by decide +kernel
theorem dX12_trace_51 : decode cX12_trace 51 = .ok (.getfield 210, 3) := by decide +kernel
theorem dX12_trace_54 : decode cX12_trace 54 = .ok (.iload_n 1, 1) := by decide +kernel
theorem dX12_trace_55 : decode cX12_trace 55 = .ok (.iaload, 1) := by decide +kernel
theorem dX12_trace_56 : decode cX12_trace 56 = .ok (.ireturn, 1) := by decide +kernel
theorem dX12_suppressed_0 : decode cX12_suppressed 0 = .ok (.aload_n 0, 1) := by decide +kernel
theorem dX12_suppressed_1 : decode cX12_suppressed 1 = .ok (.iconst 0, 1) := by decide +kernel
theorem dX12_suppressed_2 : decode cX12_suppressed 2 = .ok (.putfield 273, 3) := by decide +kernel
theorem dX12_suppressed_5 : decode cX12_suppressed 5 = .ok (.aload_n 0, 1) := by decide +kernel
theorem dX12_suppressed_6 : decode cX12_suppressed 6 = .ok (.getfield 580, 3) := by decide +kernel
theorem dX12_suppressed_9 : decode cX12_suppressed 9 = .ok (.ifCond .eq 39, 3) := by decide +kernel
theorem dX12_suppressed_12 : decode cX12_suppressed 12 = .ok (.aload_n 0, 1) := by decide +kernel
theorem dX12_suppressed_13 : decode cX12_suppressed 13 = .ok (.getfield 636, 3) := by decide +kernel
theorem dX12_suppressed_16 : decode cX12_suppressed 16 = .ok (.iconst 3, 1) := by decide +kernel
theorem dX12_suppressed_17 : decode cX12_suppressed 17 = .ok (.if_icmp .ne 31, 3) := by decide +kernel
theorem dX12_suppressed_20 : decode cX12_suppressed 20 = .ok (.iload_n 1, 1) := by decide +kernel
theorem dX12_suppressed_21 : decode cX12_suppressed 21 = .ok (.iconst 0, 1) := by decide +kernel
theorem dX12_suppressed_22 : decode cX12_suppressed 22 = .ok (.aload_n 0, 1) := by decide +kernel
theorem dX12_suppressed_23 : decode cX12_suppressed 23 = .ok (.getfield 222, 3) := by decide +kernel
theorem dX12_suppressed_26 : decode cX12_suppressed 26 = .ok (.aload_n 0, 1) := by decide +kernel
theorem dX12_suppressed_27 : decode cX12_suppressed 27 = .ok (.getfield 595, 3) := by decide +kernel
theorem dX12_suppressed_30 : decode cX12_suppressed 30 = .ok (.iaload, 1) := by decide +kernel
theorem dX12_suppressed_31 : decode cX12_suppressed 31 = .ok (.iconst 1, 1) := by decide +kernel
theorem dX12_suppressed_32 : decode cX12_suppressed 32 = .ok (.isub, 1) := by decide +kernel
theorem dX12_suppressed_33 : decode cX12_suppressed 33 = .ok (.invokestatic 279, 3) := by decide +kernel
theorem dX12_suppressed_36 : decode cX12_suppressed 36 = .ok (.ifCond .eq 12, 3) := by decide +kernel
theorem dX12_suppressed_39 : decode cX12_suppressed 39 = .ok (.iload_n 2, 1) := by decide +kernel
theorem dX12_suppressed_40 : decode cX12_suppressed 40 = .ok (.iconst 0, 1) := by decide +kernel
theorem dX12_suppressed_41 : decode cX12_suppressed 41 = .ok (.iconst 1, 1) := by decide +kernel
theorem dX12_suppressed_42 : decode cX12_suppressed 42 = .ok (.invokestatic 279, 3) := by decide +kernel
theorem dX12_suppressed_45 : decode cX12_suppressed 45 = .ok (.ifCond .ne 5, 3) := by decide +kernel
theorem dX12_suppressed_48 : decode cX12_suppressed 48 = .ok (.iconst (-1), 1) := by decide +kernel
theorem dX12_suppressed_49 : decode cX12_suppressed 49 = .ok (.ireturn, 1) := by decide +kernel
theorem dX12_suppressed_50 : decode cX12_suppressed 50 = .ok (.iload_n 2, 1) := by decide +kernel
theorem dX12_suppressed_51 : decode cX12_suppressed 51 = .ok (.ifCond .ne 20, 3) := by decide +kernel
theorem dX12_suppressed_54 : decode cX12_suppressed 54 = .ok (.aload_n 0, 1) := by decide +kernel
theorem dX12_suppressed_55 : decode cX12_suppressed 55 = .ok (.getfield 225, 3) := by decide +kernel
theorem dX12_suppressed_58 : decode cX12_suppressed 58 = .ok (.bipush 8, 2) := by decide +kernel
theorem dX12_suppressed_60 : decode cX12_suppressed 60 = .ok (.aload_n 0, 1) := by decide +kernel
theorem dX12_suppressed_61 : decode cX12_suppressed 61 = .ok (.getfield 595, 3) := by decide +kernel
theorem dX12_suppressed_64 : decode cX12_suppressed 64 = .ok (.imul, 1) := by decide +kernel
theorem dX12_suppressed_65 : decode cX12_suppressed 65 = .ok (.iload_n 1, 1) := by decide +kernel
theorem dX12_suppressed_66 : decode cX12_suppressed 66 = .ok (.iadd, 1) := by decide +kernel
theorem dX12_suppressed_67 : decode cX12_suppressed 67 = .ok (.iaload, 1) := by decide +kernel
theorem dX12_suppressed_68 : decode cX12_suppressed 68 = .ok (.goto 17, 3) := by decide +kernel
theorem dX12_suppressed_71 : decode cX12_suppressed 71 = .ok (.aload_n 0, 1) := by decide +kernel
theorem dX12_suppressed_72 : decode cX12_suppressed 72 = .ok (.getfield 228, 3) := by decide +kernel
theorem dX12_suppressed_75 : decode cX12_suppressed 75 = .ok (.bipush 8, 2) := by decide +kernel
theorem dX12_suppressed_77 : decode cX12_suppressed 77 = .ok (.aload_n 0, 1) := by decide +kernel
theorem dX12_suppressed_78 : decode cX12_suppressed 78 = .ok (.getfield 595, 3) := by decide +kernel
