section
theorem dX12_others_181 : decode cX12_others 181 = .ok (.invokevirtual 642, 3) := by decide +kernel
theorem dX12_others_184 : decode cX12_others 184 = .ok (.aload_n 0, 1) := by decide +kernel
theorem dX12_others_185 : decode cX12_others 185 = .ok (.getfield 213, 3) := by decide +kernel
theorem dX12_others_188 : decode cX12_others 188 = .ok (.aload_n 0, 1) := by decide +kernel
theorem dX12_others_189 : decode cX12_others 189 = .ok (.getfield 90, 3) := by decide +kernel
theorem dX12_others_192 : decode cX12_others 192 = .ok (.iload_n 1, 1) := by decide +kernel
theorem dX12_others_193 : decode cX12_others 193 = .ok (.iaload, 1) := by decide +kernel
theorem dX12_others_194 : decode cX12_others 194 = .ok (.aload_n 0, 1) := by decide +kernel
theorem dX12_others_195 : decode cX12_others 195 = .ok (.getfield 240, 3) := by decide +kernel
theorem dX12_others_198 : decode cX12_others 198 = .ok (.aload_n 0, 1) := by decide +kernel
theorem dX12_others_199 : decode cX12_others 199 = .ok (.getfield 249, 3) := by decide +kernel
theorem dX12_others_202 : decode cX12_others 202 = .ok (.iload_n 3, 1) := by decide +kernel
theorem dX12_others_203 : decode cX12_others 203 = .ok (.iaload, 1) := by decide +kernel
theorem dX12_others_204 : decode cX12_others 204 = .ok (.iaload, 1) := by decide +kernel
theorem dX12_others_205 : decode cX12_others 205 = .ok (.iastore, 1) := by decide +kernel
theorem dX12_others_206 : decode cX12_others 206 = .ok (.aload_n 0, 1) := by decide +kernel
theorem dX12_others_207 : decode cX12_others 207 = .ok (.getfield 249, 3) := by decide +kernel
theorem dX12_others_210 : decode cX12_others 210 = .ok (.iload_n 3, 1) := by decide +kernel
theorem dX12_others_211 : decode cX12_others 211 = .ok (.dup2, 1) := by decide +kernel
theorem dX12_others_212 : decode cX12_others 212 = .ok (.iaload, 1) := by decide +kernel
theorem dX12_others_213 : decode cX12_others 213 = .ok (.iconst 1, 1) := by decide +kernel
theorem dX12_others_214 : decode cX12_others 214 = .ok (.iadd, 1) := by decide +kernel
theorem dX12_others_215 : decode cX12_others 215 = .ok (.iastore, 1) := by decide +kernel
theorem dX12_others_216 : decode cX12_others 216 = .ok (.goto 225, 3) := by decide +kernel
theorem dX12_others_219 : decode cX12_others 219 = .ok (.aload_n 0, 1) := by decide +kernel
theorem dX12_others_220 : decode cX12_others 220 = .ok (.aload_n 0, 1) := by decide +kernel
theorem dX12_others_221 : decode cX12_others 221 = .ok (.getfield 246, 3) := by decide +kernel
theorem dX12_others_224 : decode cX12_others 224 = .ok (.iload_n 3, 1) := by decide +kernel
theorem dX12_others_225 : decode cX12_others 225 = .ok (.iaload, 1) := by decide +kernel
theorem dX12_others_226 : decode cX12_others 226 = .ok (.putfield 621, 3) := by decide +kernel
theorem dX12_others_229 : decode cX12_others 229 = .ok (.aload_n 0, 1) := by decide +kernel
theorem dX12_others_230 : decode cX12_others 230 = .ok (.dup, 1) := by decide +kernel
theorem dX12_others_231 : decode cX12_others 231 = .ok (.getfield 586, 3) := by decide +kernel
theorem dX12_others_234 : decode cX12_others 234 = .ok (.iconst 1, 1) := by decide +kernel
theorem dX12_others_235 : decode cX12_others 235 = .ok (.isub, 1) := by decide +kernel
theorem dX12_others_236 : decode cX12_others 236 = .ok (.putfield 586, 3) := by decide +kernel
theorem dX12_others_239 : decode cX12_others 239 = .ok (.goto 202, 3) := by decide +kernel
theorem dX12_others_242 : decode cX12_others 242 = .ok (.aload_n 0, 1) := by decide +kernel
theorem dX12_others_243 : decode cX12_others 243 = .ok (.iconst 4, 1) := by decide +kernel
theorem dX12_others_244 : decode cX12_others 244 = .ok (.iload_n 2, 1) := by decide +kernel
theorem dX12_others_245 : decode cX12_others 245 = .ok (.iconst 0, 1) := by decide +kernel
theorem dX12_others_246 : decode cX12_others 246 = .ok (.aload_n 0, 1) := by decide +kernel
theorem dX12_others_247 : decode cX12_others 247 = .ok (.getfield 600, 3) := by decide +kernel
theorem dX12_others_250 : decode cX12_others 250 = .ok (.invokevirtual 658, 3) := by decide +kernel
theorem dX12_others_253 : decode cX12_others 253 = .ok (.pop, 1) := by decide +kernel
theorem dX12_others_254 : decode cX12_others 254 = .ok (.goto 187, 3) := by decide +kernel
theorem dX12_others_257 : decode cX12_others 257 = .ok (.aload_n 0, 1) := by decide +kernel
theorem dX12_others_258 : decode cX12_others 258 = .ok (.getfield 24, 3) := by decide +kernel
theorem dX12_others_261 : decode cX12_others 261 = .ok (.iload_n 2, 1) := by decide +kernel
theorem dX12_others_262 : decode cX12_others 262 = .ok (.iaload, 1) := by decide +kernel
theorem dX12_others_263 : decode cX12_others 263 = .ok (.ifCond .le 23, 3) := by decide +kernel
theorem dX12_others_266 : decode cX12_others 266 = .ok (.aload_n 0, 1) := by decide +kernel
theorem dX12_others_267 : decode cX12_others 267 = .ok (.aload_n 0, 1) := by decide +kernel
theorem dX12_others_268 : decode cX12_others 268 = .ok (.getfield 24, 3) := by decide +kernel
theorem dX12_others_271 : decode cX12_others 271 = .ok (.iload_n 2, 1) := by decide +kernel
theorem dX12_others_272 : decode cX12_others 272 = .ok (.iaload, 1) := by decide +kernel
theorem dX12_others_273 : decode cX12_others 273 = .ok (.iconst 1, 1) := by decide +kernel
theorem dX12_others_274 : decode cX12_others 274 = .ok (.isub, 1) := by decide +kernel
theorem dX12_others_275 : decode cX12_others 275 = .ok (.iload_n 2, 1) := by decide +kernel
theorem dX12_others_276 : decode cX12_others 276 = .ok (.invokevirtual 606, 3) := by decide +kernel
theorem dX12_others_279 : decode cX12_others 279 = .ok (.aload_n 0, 1) := by decide +kernel
theorem dX12_others_280 : decode cX12_others 280 = .ok (.invokevirtual 648, 3) := by decide +kernel
theorem dX12_others_283 : decode cX12_others 283 = .ok (.goto 158, 3) := by decide +kernel
theorem dX12_others_286 : decode cX12_others 286 = .ok (.aload_n 0, 1) := by decide +kernel
theorem dX12_others_287 : decode cX12_others 287 = .ok (.getfield 20, 3) := by decide +kernel
theorem dX12_others_290 : decode cX12_others 290 = .ok (.iload_n 2, 1) := by decide +kernel
theorem dX12_others_291 : decode cX12_others 291 = .ok (.baload, 1) := by decide +kernel
theorem dX12_others_292 : decode cX12_others 292 = .ok (.ifCond .ne 149, 3) := by decide +kernel
theorem dX12_others_295 : decode cX12_others 295 = .ok (.aload_n 0, 1) := by decide +kernel
theorem dX12_others_296 : decode cX12_others 296 = .ok (.iconst 1, 1) := by decide +kernel
theorem dX12_others_297 : decode cX12_others 297 = .ok (.iload_n 2, 1) := by decide +kernel
theorem dX12_others_298 : decode cX12_others 298 = .ok (.invokevirtual 603, 3) := by decide +kernel
theorem dX12_others_301 : decode cX12_others 301 = .ok (.aload_n 0, 1) := by decide +kernel
theorem dX12_others_302 : decode cX12_others 302 = .ok (.getfield 237, 3) := by decide +kernel
theorem dX12_others_305 : decode cX12_others 305 = .ok (.aload_n 0, 1) := by decide +kernel
theorem dX12_others_306 : decode cX12_others 306 = .ok (.getfield 600, 3) := by decide +kernel
theorem dX12_others_309 : decode cX12_others 309 = .ok (.iload_n 2, 1) := by decide +kernel
theorem dX12_others_310 : decode cX12_others 310 = .ok (.iastore, 1) := by decide +kernel
theorem dX12_others_311 : decode cX12_others 311 = .ok (.aload_n 0, 1) := by decide +kernel
theorem dX12_others_312 : decode cX12_others 312 = .ok (.dup, 1) := by decide +kernel
theorem dX12_others_313 : decode cX12_others 313 = .ok (.getfield 600, 3) := by decide +kernel
theorem dX12_others_316 : decode cX12_others 316 = .ok (.iconst 1, 1) := by decide +kernel
theorem dX12_others_317 : decode cX12_others 317 = .ok (.iadd, 1) := by decide +kernel
theorem dX12_others_318 : decode cX12_others 318 = .ok (.putfield 600, 3) := by decide +kernel
theorem dX12_others_321 : decode cX12_others 321 = .ok (.goto 120, 3) := by decide +kernel
theorem dX12_others_324 : decode cX12_others 324 = .ok (.aload_n 0, 1) := by decide +kernel
theorem dX12_others_325 : decode cX12_others 325 = .ok (.iconst 0, 1) := by decide +kernel
theorem dX12_others_326 : decode cX12_others 326 = .ok (.putfield 597, 3) := by decide +kernel
theorem dX12_others_329 : decode cX12_others 329 = .ok (.aload_n 0, 1) := by decide +kernel
theorem dX12_others_330 : decode cX12_others 330 = .ok (.iload_n 3, 1) := by decide +kernel
theorem dX12_others_331 : decode cX12_others 331 = .ok (.invokevirtual 624, 3) := by decide +kernel
theorem dX12_others_334 : decode cX12_others 334 = .ok (.aload_n 0, 1) := by decide +kernel
theorem dX12_others_335 : decode cX12_others 335 = .ok (.getfield 597, 3) := by decide +kernel
theorem dX12_others_338 : decode cX12_others 338 = .ok (.iconst 3, 1) := by decide +kernel
theorem dX12_others_339 : decode cX12_others 339 = .ok (.if_icmp .ne 10, 3) := by decide +kernel
theorem dX12_others_342 : decode cX12_others 342 = .ok (.aload_n 0, 1) := by decide +kernel
theorem dX12_others_343 : decode cX12_others 343 = .ok (.invokevirtual 648, 3) := by decide +kernel
theorem dX12_others_346 : decode cX12_others 346 = .ok (.goto 95, 3) := by decide +kernel
theorem dX12_others_349 : decode cX12_others 349 = .ok (.aload_n 0, 1) := by decide +kernel
theorem dX12_others_350 : decode cX12_others 350 = .ok (.iload_n 3, 1) := by decide +kernel
theorem dX12_others_351 : decode cX12_others 351 = .ok (.invokevirtual 668, 3) := by decide +kernel
theorem dX12_others_354 : decode cX12_others 354 = .ok (.goto 87, 3) := by decide +kernel
theorem dX12_others_357 : decode cX12_others 357 = .ok (.aload_n 0, 1) := by decide +kernel
theorem dX12_others_358 : decode cX12_others 358 = .ok (.iconst 0, 1) := by decide +kernel
theorem dX12_others_359 : decode cX12_others 359 = .ok (.putfield 597, 3) := by decide +kernel
theorem dX12_others_362 : decode cX12_others 362 = .ok (.aload_n 0, 1) := by decide +kernel
theorem dX12_others_363 : decode cX12_others 363 = .ok (.iload_n 3, 1) := by decide +kernel
theorem dX12_others_364 : decode cX12_others 364 = .ok (.invokevirtual 668, 3) := by decide +kernel
theorem dX12_others_367 : decode cX12_others 367 = .ok (.goto 74, 3) := by decide +kernel
theorem dX12_others_370 : decode cX12_others 370 = .ok (.aload_n 0, 1) := by decide +kernel
theorem dX12_others_371 : decode cX12_others 371 = .ok (.aload_n 0, 1) := by decide +kernel
theorem dX12_others_372 : decode cX12_others 372 = .ok (.getfield 258, 3) := by decide +kernel
theorem dX12_others_375 : decode cX12_others 375 = .ok (.iload_n 3, 1) := by decide +kernel
theorem dX12_others_376 : decode cX12_others 376 = .ok (.iaload, 1) := by decide +kernel
theorem dX12_others_377 : decode cX12_others 377 = .ok (.putfield 597, 3) := by decide +kernel
theorem dX12_others_380 : decode cX12_others 380 = .ok (.aload_n 0, 1) := by decide +kernel
theorem dX12_others_381 : decode cX12_others 381 = .ok (.aload_n 0, 1) := by decide +kernel
theorem dX12_others_382 : decode cX12_others 382 = .ok (.getfield 261, 3) := by decide +kernel
theorem dX12_others_385 : decode cX12_others 385 = .ok (.iload_n 3, 1) := by decide +kernel
theorem dX12_others_386 : decode cX12_others 386 = .ok (.iaload, 1) := by decide +kernel
theorem dX12_others_387 : decode cX12_others 387 = .ok (.putfield 609, 3) := by decide +kernel
theorem dX12_others_390 : decode cX12_others 390 = .ok (.aload_n 0, 1) := by decide +kernel
theorem dX12_others_391 : decode cX12_others 391 = .ok (.aload_n 0, 1) := by decide +kernel
theorem dX12_others_392 : decode cX12_others 392 = .ok (.getfield 264, 3) := by decide +kernel
theorem dX12_others_395 : decode cX12_others 395 = .ok (.iload_n 3, 1) := by decide +kernel
theorem dX12_others_396 : decode cX12_others 396 = .ok (.iaload, 1) := by decide +kernel
theorem dX12_others_397 : decode cX12_others 397 = .ok (.putfield 612, 3) := by decide +kernel
theorem dX12_others_400 : decode cX12_others 400 = .ok (.aload_n 0, 1) := by decide +kernel
theorem dX12_others_401 : decode cX12_others 401 = .ok (.aload_n 0, 1) := by decide +kernel
theorem dX12_others_402 : decode cX12_others 402 = .ok (.getfield 267, 3) := by decide +kernel
theorem dX12_others_405 : decode cX12_others 405 = .ok (.iload_n 3, 1) := by decide +kernel
theorem dX12_others_406 : decode cX12_others 406 = .ok (.iaload, 1) := by decide +kernel
theorem dX12_others_407 : decode cX12_others 407 = .ok (.putfield 615, 3) := by decide +kernel
theorem dX12_others_410 : decode cX12_others 410 = .ok (.aload_n 0, 1) := by decide +kernel
theorem dX12_others_411 : decode cX12_others 411 = .ok (.aload_n 0, 1) := by decide +kernel
theorem dX12_others_412 : decode cX12_others 412 = .ok (.getfield 270, 3) := by decide +kernel
theorem dX12_others_415 : decode cX12_others 415 = .ok (.iload_n 3, 1) := by decide +kernel
theorem dX12_others_416 : decode cX12_others 416 = .ok (.iaload, 1) := by decide +kernel
theorem dX12_others_417 : decode cX12_others 417 = .ok (.putfield 595, 3) := by decide +kernel
theorem dX12_others_420 : decode cX12_others 420 = .ok (.aload_n 0, 1) := by decide +kernel
theorem dX12_others_421 : decode cX12_others 421 = .ok (.dup, 1) := by decide +kernel
theorem dX12_others_422 : decode cX12_others 422 = .ok (.getfield 586, 3) := by decide +kernel
theorem dX12_others_425 : decode cX12_others 425 = .ok (.iconst 1, 1) := by decide +kernel
theorem dX12_others_426 : decode cX12_others 426 = .ok (.isub, 1) := by decide +kernel
theorem dX12_others_427 : decode cX12_others 427 = .ok (.putfield 586, 3) := by decide +kernel
theorem dX12_others_430 : decode cX12_others 430 = .ok (.aload_n 0, 1) := by decide +kernel
theorem dX12_others_431 : decode cX12_others 431 = .ok (.getfield 597, 3) := by decide +kernel
theorem dX12_others_434 : decode cX12_others 434 = .ok (.ifCond .eq 7, 3) := by decide +kernel
theorem dX12_others_437 : decode cX12_others 437 = .ok (.aload_n 0, 1) := by decide +kernel
theorem dX12_others_438 : decode cX12_others 438 = .ok (.invokevirtual 648, 3) := by decide +kernel
theorem dX12_others_441 : decode cX12_others 441 = .ok (.return_, 1) := by decide +kernel
theorem dX12_goOn_0 : decode cX12_goOn 0 = .ok (.aload_n 0, 1) := by decide +kernel
theorem dX12_goOn_1 : decode cX12_goOn 1 = .ok (.iload_n 1, 1) := by decide +kernel
theorem dX12_goOn_2 : decode cX12_goOn 2 = .ok (.invokevirtual 630, 3) := by decide +kernel
theorem dX12_goOn_5 : decode cX12_goOn 5 = .ok (.ifCond .ne 28, 3) := by decide +kernel
theorem dX12_goOn_8 : decode cX12_goOn 8 = .ok (.aload_n 0, 1) := by decide +kernel
theorem dX12_goOn_9 : decode cX12_goOn 9 = .ok (.dup, 1) := by decide +kernel
theorem dX12_goOn_10 : decode cX12_goOn 10 = .ok (.getfield 586, 3) := by decide +kernel
theorem dX12_goOn_13 : decode cX12_goOn 13 = .ok (.iconst 1, 1) := by decide +kernel
theorem dX12_goOn_14 : decode cX12_goOn 14 = .ok (.isub, 1) := by decide +kernel
theorem dX12_goOn_15 : decode cX12_goOn 15 = .ok (.putfield 586, 3) := by decide +kernel
theorem dX12_goOn_18 : decode cX12_goOn 18 = .ok (.aload_n 0, 1) := by decide +kernel
theorem dX12_goOn_19 : decode cX12_goOn 19 = .ok (.aload_n 0, 1) := by decide +kernel
theorem dX12_goOn_20 : decode cX12_goOn 20 = .ok (.getfield 111, 3) := by decide +kernel
theorem dX12_goOn_23 : decode cX12_goOn 23 = .ok (.aload_n 0, 1) := by decide +kernel
theorem dX12_goOn_24 : decode cX12_goOn 24 = .ok (.getfield 246, 3) := by decide +kernel
theorem dX12_goOn_27 : decode cX12_goOn 27 = .ok (.iload_n 1, 1) := by decide +kernel
theorem dX12_goOn_28 : decode cX12_goOn 28 = .ok (.iaload, 1) := by decide +kernel
theorem dX12_goOn_29 : decode cX12_goOn 29 = .ok (.iaload, 1) := by decide +kernel
theorem dX12_goOn_30 : decode cX12_goOn 30 = .ok (.putfield 618, 3) := by decide +kernel
theorem dX12_goOn_33 : decode cX12_goOn 33 = .ok (.return_, 1) := by decide +kernel
theorem dX12_run_0 : decode cX12_run 0 = .ok (.aload_n 0, 1) := by decide +kernel
theorem dX12_run_1 : decode cX12_run 1 = .ok (.iconst 0, 1) := by decide +kernel
theorem dX12_run_2 : decode cX12_run 2 = .ok (.putfield 273, 3) := by decide +kernel
theorem dX12_run_5 : decode cX12_run 5 = .ok (.aload_n 0, 1) := by decide +kernel
theorem dX12_run_6 : decode cX12_run 6 = .ok (.getfield 577, 3) := by decide +kernel
theorem dX12_run_9 : decode cX12_run 9 = .ok (.ifCond .ne 6, 3) := by decide +kernel
theorem dX12_run_12 : decode cX12_run 12 = .ok (.bipush (-3), 2) := by decide +kernel
theorem dX12_run_14 : decode cX12_run 14 = .ok (.ireturn, 1) := by decide +kernel
theorem dX12_run_15 : decode cX12_run 15 = .ok (.iconst 0, 1) := by decide +kernel
theorem dX12_run_16 : decode cX12_run 16 = .ok (.istore_n 3, 1) := by decide +kernel
theorem dX12_run_17 : decode cX12_run 17 = .ok (.iload_n 3, 1) := by decide +kernel
theorem dX12_run_18 : decode cX12_run 18 = .ok (.sipush 460, 3) := by decide +kernel
theorem dX12_run_21 : decode cX12_run 21 = .ok (.if_icmp .ge 16, 3) := by decide +kernel
theorem dX12_run_24 : decode cX12_run 24 = .ok (.aload_n 0, 1) := by decide +kernel
theorem dX12_run_25 : decode cX12_run 25 = .ok (.getfield 213, 3) := by decide +kernel
theorem dX12_run_28 : decode cX12_run 28 = .ok (.iload_n 3, 1) := by decide +kernel
theorem dX12_run_29 : decode cX12_run 29 = .ok (.iconst 0, 1) := by decide +kernel
theorem dX12_run_30 : decode cX12_run 30 = .ok (.iastore, 1) := by decide +kernel
theorem dX12_run_31 : decode cX12_run 31 = .ok (.iinc 3 1, 3) := by decide +kernel
theorem dX12_run_34 : decode cX12_run 34 = .ok (.goto (-17), 3) := by decide +kernel
theorem dX12_run_37 : decode cX12_run 37 = .ok (.iconst 0, 1) := by decide +kernel
theorem dX12_run_38 : decode cX12_run 38 = .ok (.istore_n 3, 1) := by decide +kernel
theorem dX12_run_39 : decode cX12_run 39 = .ok (.iload_n 3, 1) := by decide +kernel
theorem dX12_run_40 : decode cX12_run 40 = .ok (.bipush 8, 2) := by decide +kernel
theorem dX12_run_42 : decode cX12_run 42 = .ok (.if_icmp .ge 16, 3) := by decide +kernel
theorem dX12_run_45 : decode cX12_run 45 = .ok (.aload_n 0, 1) := by decide +kernel
theorem dX12_run_46 : decode cX12_run 46 = .ok (.getfield 231, 3) := by decide +kernel
theorem dX12_run_49 : decode cX12_run 49 = .ok (.iload_n 3, 1) := by decide +kernel
theorem dX12_run_50 : decode cX12_run 50 = .ok (.iconst 0, 1) := by decide +kernel
theorem dX12_run_51 : decode cX12_run 51 = .ok (.iastore, 1) := by decide +kernel
theorem dX12_run_52 : decode cX12_run 52 = .ok (.iinc 3 1, 3) := by decide +kernel
theorem dX12_run_55 : decode cX12_run 55 = .ok (.goto (-16), 3) := by decide +kernel
theorem dX12_run_58 : decode cX12_run 58 = .ok (.aload_n 0, 1) := by decide +kernel
theorem dX12_run_59 : decode cX12_run 59 = .ok (.getfield 213, 3) := by decide +kernel
theorem dX12_run_62 : decode cX12_run 62 = .ok (.iconst 0, 1) := by decide +kernel
theorem dX12_run_63 : decode cX12_run 63 = .ok (.iload_n 1, 1) := by decide +kernel
theorem dX12_run_64 : decode cX12_run 64 = .ok (.iastore, 1) := by decide +kernel
theorem dX12_run_65 : decode cX12_run 65 = .ok (.aload_n 0, 1) := by decide +kernel
theorem dX12_run_66 : decode cX12_run 66 = .ok (.getfield 213, 3) := by decide +kernel
theorem dX12_run_69 : decode cX12_run 69 = .ok (.iconst 1, 1) := by decide +kernel
theorem dX12_run_70 : decode cX12_run 70 = .ok (.iload_n 2, 1) := by decide +kernel
theorem dX12_run_71 : decode cX12_run 71 = .ok (.iastore, 1) := by decide +kernel
theorem dX12_run_72 : decode cX12_run 72 = .ok (.aload_n 0, 1) := by decide +kernel
theorem dX12_run_73 : decode cX12_run 73 = .ok (.iconst 0, 1) := by decide +kernel
theorem dX12_run_74 : decode cX12_run 74 = .ok (.putfield 639, 3) := by decide +kernel
theorem dX12_run_77 : decode cX12_run 77 = .ok (.aload_n 0, 1) := by decide +kernel
theorem dX12_run_78 : decode cX12_run 78 = .ok (.iconst 0, 1) := by decide +kernel
theorem dX12_run_79 : decode cX12_run 79 = .ok (.putfield 583, 3) := by decide +kernel
theorem dX12_run_82 : decode cX12_run 82 = .ok (.aload_n 0, 1) := by decide +kernel
theorem dX12_run_83 : decode cX12_run 83 = .ok (.iconst 0, 1) := by decide +kernel
theorem dX12_run_84 : decode cX12_run 84 = .ok (.putfield 592, 3) := by decide +kernel
theorem dX12_run_87 : decode cX12_run 87 = .ok (.aload_n 0, 1) := by decide +kernel
theorem dX12_run_88 : decode cX12_run 88 = .ok (.iconst 0, 1) := by decide +kernel
theorem dX12_run_89 : decode cX12_run 89 = .ok (.putfield 600, 3) := by decide +kernel
theorem dX12_run_92 : decode cX12_run 92 = .ok (.aload_n 0, 1) := by decide +kernel
theorem dX12_run_93 : decode cX12_run 93 = .ok (.iconst 0, 1) := by decide +kernel
theorem dX12_run_94 : decode cX12_run 94 = .ok (.putfield 621, 3) := by decide +kernel
theorem dX12_run_97 : decode cX12_run 97 = .ok (.aload_n 0, 1) := by decide +kernel
theorem dX12_run_98 : decode cX12_run 98 = .ok (.iconst 0, 1) := by decide +kernel
theorem dX12_run_99 : decode cX12_run 99 = .ok (.putfield 586, 3) := by decide +kernel
theorem dX12_run_102 : decode cX12_run 102 = .ok (.aload_n 0, 1) := by decide +kernel
theorem dX12_run_103 : decode cX12_run 103 = .ok (.iconst 0, 1) := by decide +kernel
theorem dX12_run_104 : decode cX12_run 104 = .ok (.putfield 589, 3) := by decide +kernel
theorem dX12_run_107 : decode cX12_run 107 = .ok (.aload_n 0, 1) := by decide +kernel
theorem dX12_run_108 : decode cX12_run 108 = .ok (.iconst 1, 1) := by decide +kernel
theorem dX12_run_109 : decode cX12_run 109 = .ok (.putfield 580, 3) := by decide +kernel
theorem dX12_run_112 : decode cX12_run 112 = .ok (.aload_n 0, 1) := by decide +kernel
theorem dX12_run_113 : decode cX12_run 113 = .ok (.iconst 0, 1) := by decide +kernel
theorem dX12_run_114 : decode cX12_run 114 = .ok (.putfield 636, 3) := by decide +kernel
theorem dX12_run_117 : decode cX12_run 117 = .ok (.aload_n 0, 1) := by decide +kernel
theorem dX12_run_118 : decode cX12_run 118 = .ok (.iconst 0, 1) := by decide +kernel
theorem dX12_run_119 : decode cX12_run 119 = .ok (.putfield 618, 3) := by decide +kernel
theorem dX12_run_122 : decode cX12_run 122 = .ok (.aload_n 0, 1) := by decide +kernel
theorem dX12_run_123 : decode cX12_run 123 = .ok (.getfield 618, 3) := by decide +kernel
theorem dX12_run_126 : decode cX12_run 126 = .ok (.ifCond .lt 37, 3) := by decide +kernel
theorem dX12_run_129 : decode cX12_run 129 = .ok (.aload_n 0, 1) := by decide +kernel
theorem dX12_run_130 : decode cX12_run 130 = .ok (.getfield 618, 3) := by decide +kernel
theorem dX12_run_133 : decode cX12_run 133 = .ok (.aload_n 0, 1) := by decide +kernel
theorem dX12_run_134 : decode cX12_run 134 = .ok (.getfield 358, 3) := by decide +kernel
theorem dX12_run_137 : decode cX12_run 137 = .ok (.if_icmp .ge 26, 3) := by decide +kernel
theorem dX12_run_140 : decode cX12_run 140 = .ok (.aload_n 0, 1) := by decide +kernel
theorem dX12_run_141 : decode cX12_run 141 = .ok (.getfield 618, 3) := by decide +kernel
theorem dX12_run_144 : decode cX12_run 144 = .ok (.istore_n 3, 1) := by decide +kernel
theorem dX12_run_145 : decode cX12_run 145 = .ok (.aload_n 0, 1) := by decide +kernel
theorem dX12_run_146 : decode cX12_run 146 = .ok (.dup, 1) := by decide +kernel
theorem dX12_run_147 : decode cX12_run 147 = .ok (.getfield 618, 3) := by decide +kernel
theorem dX12_run_150 : decode cX12_run 150 = .ok (.iconst 1, 1) := by decide +kernel
theorem dX12_run_151 : decode cX12_run 151 = .ok (.iadd, 1) := by decide +kernel
theorem dX12_run_152 : decode cX12_run 152 = .ok (.putfield 618, 3) := by decide +kernel
theorem dX12_run_155 : decode cX12_run 155 = .ok (.aload_n 0, 1) := by decide +kernel
theorem dX12_run_156 : decode cX12_run 156 = .ok (.iload_n 3, 1) := by decide +kernel
theorem dX12_run_157 : decode cX12_run 157 = .ok (.invokevirtual 671, 3) := by decide +kernel
theorem dX12_run_160 : decode cX12_run 160 = .ok (.goto (-38), 3) := by decide +kernel
theorem dX12_run_163 : decode cX12_run 163 = .ok (.aload_n 0, 1) := by decide +kernel
theorem dX12_run_164 : decode cX12_run 164 = .ok (.getfield 636, 3) := by decide +kernel
theorem dX12_run_167 : decode cX12_run 167 = .ok (.iconst 2, 1) := by decide +kernel
theorem dX12_run_168 : decode cX12_run 168 = .ok (.if_icmp .ne 7, 3) := by decide +kernel
theorem dX12_run_171 : decode cX12_run 171 = .ok (.iconst 1, 1) := by decide +kernel
theorem dX12_run_172 : decode cX12_run 172 = .ok (.goto 28, 3) := by decide +kernel
theorem dX12_run_175 : decode cX12_run 175 = .ok (.aload_n 0, 1) := by decide +kernel
theorem dX12_run_176 : decode cX12_run 176 = .ok (.getfield 636, 3) := by decide +kernel
theorem dX12_run_179 : decode cX12_run 179 = .ok (.iconst 3, 1) := by decide +kernel
theorem dX12_run_180 : decode cX12_run 180 = .ok (.if_icmp .ne 7, 3) := by decide +kernel
theorem dX12_run_183 : decode cX12_run 183 = .ok (.iconst 2, 1) := by decide +kernel
theorem dX12_run_184 : decode cX12_run 184 = .ok (.goto 16, 3) := by decide +kernel
theorem dX12_run_187 : decode cX12_run 187 = .ok (.aload_n 0, 1) := by decide +kernel
theorem dX12_run_188 : decode cX12_run 188 = .ok (.getfield 636, 3) := by decide +kernel
theorem dX12_run_191 : decode cX12_run 191 = .ok (.iconst 5, 1) := by decide +kernel
theorem dX12_run_192 : decode cX12_run 192 = .ok (.if_icmp .ne 7, 3) := by decide +kernel
theorem dX12_run_195 : decode cX12_run 195 = .ok (.iconst 3, 1) := by decide +kernel
theorem dX12_run_196 : decode cX12_run 196 = .ok (.goto 4, 3) := by decide +kernel
theorem dX12_run_199 : decode cX12_run 199 = .ok (.iconst 0, 1) := by decide +kernel
theorem dX12_run_200 : decode cX12_run 200 = .ok (.ireturn, 1) := by decide +kernel
theorem dX12_ran_0 : decode cX12_ran 0 = .ok (.aload_n 0, 1) := by decide +kernel
theorem dX12_ran_1 : decode cX12_ran 1 = .ok (.iconst 0, 1) := by decide +kernel
theorem dX12_ran_2 : decode cX12_ran 2 = .ok (.putfield 273, 3) := by decide +kernel
theorem dX12_ran_5 : decode cX12_ran 5 = .ok (.iload_n 1, 1) := by decide +kernel
theorem dX12_ran_6 : decode cX12_ran 6 = .ok (.iconst 0, 1) := by decide +kernel
theorem dX12_ran_7 : decode cX12_ran 7 = .ok (.bipush 6, 2) := by decide +kernel
theorem dX12_ran_9 : decode cX12_ran 9 = .ok (.invokestatic 279, 3) := by decide +kernel
theorem dX12_ran_12 : decode cX12_ran 12 = .ok (.ifCond .ne 5, 3) := by decide +kernel
theorem dX12_ran_15 : decode cX12_ran 15 = .ok (.iconst (-1), 1) := by decide +kernel
theorem dX12_ran_16 : decode cX12_ran 16 = .ok (.ireturn, 1) := by decide +kernel
theorem dX12_ran_17 : decode cX12_ran 17 = .ok (.aload_n 0, 1) := by decide +kernel
theorem dX12_ran_18 : decode cX12_ran 18 = .ok (.getfield 580, 3) := by decide +kernel
theorem dX12_ran_21 : decode cX12_ran 21 = .ok (.ifCond .ne 6, 3) := by decide +kernel
theorem dX12_ran_24 : decode cX12_ran 24 = .ok (.bipush (-3), 2) := by decide +kernel
theorem dX12_ran_26 : decode cX12_ran 26 = .ok (.ireturn, 1) := by decide +kernel
theorem dX12_ran_27 : decode cX12_ran 27 = .ok (.aload_n 0, 1) := by decide +kernel
theorem dX12_ran_28 : decode cX12_ran 28 = .ok (.getfield 636, 3) := by decide +kernel
theorem dX12_ran_31 : decode cX12_ran 31 = .ok (.iconst 3, 1) := by decide +kernel
theorem dX12_ran_32 : decode cX12_ran 32 = .ok (.if_icmp .ne 7, 3) := by decide +kernel
theorem dX12_ran_35 : decode cX12_ran 35 = .ok (.iconst 1, 1) := by decide +kernel
theorem dX12_ran_36 : decode cX12_ran 36 = .ok (.goto 4, 3) := by decide +kernel
theorem dX12_ran_39 : decode cX12_ran 39 = .ok (.iconst 0, 1) := by decide +kernel
theorem dX12_ran_40 : decode cX12_ran 40 = .ok (.istore_n 2, 1) := by decide +kernel
theorem dX12_ran_41 : decode cX12_ran 41 = .ok (.iconst 0, 1) := by decide +kernel
theorem dX12_ran_42 : decode cX12_ran 42 = .ok (.istore_n 3, 1) := by decide +kernel
theorem dX12_ran_43 : decode cX12_ran 43 = .ok (.iload_n 1, 1) := by decide +kernel
theorem dX12_ran_44 : decode cX12_ran 44 = .ok (.tableswitch 121 0 5 #[40, 45, 50, 67, 85, 103], 40) := by decide +kernel
theorem dX12_ran_84 : decode cX12_ran 84 = .ok (.aload_n 0, 1) := by decide +kernel
theorem dX12_ran_85 : decode cX12_ran 85 = .ok (.getfield 639, 3) := by decide +kernel
theorem dX12_ran_88 : decode cX12_ran 88 = .ok (.ireturn, 1) := by decide +kernel
theorem dX12_ran_89 : decode cX12_ran 89 = .ok (.aload_n 0, 1) := by decide +kernel
theorem dX12_ran_90 : decode cX12_ran 90 = .ok (.getfield 583, 3) := by decide +kernel
theorem dX12_ran_93 : decode cX12_ran 93 = .ok (.ireturn, 1) := by decide +kernel
theorem dX12_ran_94 : decode cX12_ran 94 = .ok (.aload_n 0, 1) := by decide +kernel
theorem dX12_ran_95 : decode cX12_ran 95 = .ok (.getfield 636, 3) := by decide +kernel
theorem dX12_ran_98 : decode cX12_ran 98 = .ok (.iconst 2, 1) := by decide +kernel
theorem dX12_ran_99 : decode cX12_ran 99 = .ok (.if_icmp .ne 10, 3) := by decide +kernel
theorem dX12_ran_102 : decode cX12_ran 102 = .ok (.aload_n 0, 1) := by decide +kernel
theorem dX12_ran_103 : decode cX12_ran 103 = .ok (.getfield 615, 3) := by decide +kernel
theorem dX12_ran_106 : decode cX12_ran 106 = .ok (.goto 4, 3) := by decide +kernel
theorem dX12_ran_109 : decode cX12_ran 109 = .ok (.iconst 0, 1) := by decide +kernel
theorem dX12_ran_110 : decode cX12_ran 110 = .ok (.ireturn, 1) := by decide +kernel
theorem dX12_ran_111 : decode cX12_ran 111 = .ok (.iload_n 2, 1) := by decide +kernel
theorem dX12_ran_112 : decode cX12_ran 112 = .ok (.ifCond .eq 15, 3) := by decide +kernel
theorem dX12_ran_115 : decode cX12_ran 115 = .ok (.aload_n 0, 1) := by decide +kernel
theorem dX12_ran_116 : decode cX12_ran 116 = .ok (.getfield 216, 3) := by decide +kernel
theorem dX12_ran_119 : decode cX12_ran 119 = .ok (.aload_n 0, 1) := by decide +kernel
theorem dX12_ran_120 : decode cX12_ran 120 = .ok (.getfield 595, 3) := by decide +kernel
theorem dX12_ran_123 : decode cX12_ran 123 = .ok (.iaload, 1) := by decide +kernel
theorem dX12_ran_124 : decode cX12_ran 124 = .ok (.goto 4, 3) := by decide +kernel
theorem dX12_ran_127 : decode cX12_ran 127 = .ok (.iconst (-1), 1) := by decide +kernel
theorem dX12_ran_128 : decode cX12_ran 128 = .ok (.ireturn, 1) := by decide +kernel
theorem dX12_ran_129 : decode cX12_ran 129 = .ok (.iload_n 2, 1) := by decide +kernel
theorem dX12_ran_130 : decode cX12_ran 130 = .ok (.ifCond .eq 15, 3) := by decide +kernel
theorem dX12_ran_133 : decode cX12_ran 133 = .ok (.aload_n 0, 1) := by decide +kernel
theorem dX12_ran_134 : decode cX12_ran 134 = .ok (.getfield 219, 3) := by decide +kernel
theorem dX12_ran_137 : decode cX12_ran 137 = .ok (.aload_n 0, 1) := by decide +kernel
theorem dX12_ran_138 : decode cX12_ran 138 = .ok (.getfield 595, 3) := by decide +kernel
theorem dX12_ran_141 : decode cX12_ran 141 = .ok (.iaload, 1) := by decide +kernel
theorem dX12_ran_142 : decode cX12_ran 142 = .ok (.goto 4, 3) := by decide +kernel
theorem dX12_ran_145 : decode cX12_ran 145 = .ok (.iconst 0, 1) := by decide +kernel
theorem dX12_ran_146 : decode cX12_ran 146 = .ok (.ireturn, 1) := by decide +kernel
theorem dX12_ran_147 : decode cX12_ran 147 = .ok (.iload_n 2, 1) := by decide +kernel
theorem dX12_ran_148 : decode cX12_ran 148 = .ok (.ifCond .eq 15, 3) := by decide +kernel
theorem dX12_ran_151 : decode cX12_ran 151 = .ok (.aload_n 0, 1) := by decide +kernel
theorem dX12_ran_152 : decode cX12_ran 152 = .ok (.getfield 222, 3) := by decide +kernel
theorem dX12_ran_155 : decode cX12_ran 155 = .ok (.aload_n 0, 1) := by decide +kernel
theorem dX12_ran_156 : decode cX12_ran 156 = .ok (.getfield 595, 3) := by decide +kernel
theorem dX12_ran_159 : decode cX12_ran 159 = .ok (.iaload, 1) := by decide +kernel
theorem dX12_ran_160 : decode cX12_ran 160 = .ok (.goto 4, 3) := by decide +kernel
theorem dX12_ran_163 : decode cX12_ran 163 = .ok (.iconst 0, 1) := by decide +kernel
theorem dX12_ran_164 : decode cX12_ran 164 = .ok (.ireturn, 1) := by decide +kernel
theorem dX12_ran_165 : decode cX12_ran 165 = .ok (.iconst 0, 1) := by decide +kernel
theorem dX12_ran_166 : decode cX12_ran 166 = .ok (.istore 4, 2) := by decide +kernel
theorem dX12_ran_168 : decode cX12_ran 168 = .ok (.iload 4, 2) := by decide +kernel
theorem dX12_ran_170 : decode cX12_ran 170 = .ok (.bipush 8, 2) := by decide +kernel
theorem dX12_ran_172 : decode cX12_ran 172 = .ok (.if_icmp .ge 19, 3) := by decide +kernel
theorem dX12_ran_175 : decode cX12_ran 175 = .ok (.iload_n 3, 1) := by decide +kernel
theorem dX12_ran_176 : decode cX12_ran 176 = .ok (.aload_n 0, 1) := by decide +kernel
theorem dX12_ran_177 : decode cX12_ran 177 = .ok (.getfield 231, 3) := by decide +kernel
theorem dX12_ran_180 : decode cX12_ran 180 = .ok (.iload 4, 2) := by decide +kernel
theorem dX12_ran_182 : decode cX12_ran 182 = .ok (.iaload, 1) := by decide +kernel
theorem dX12_ran_183 : decode cX12_ran 183 = .ok (.iadd, 1) := by decide +kernel
theorem dX12_ran_184 : decode cX12_ran 184 = .ok (.istore_n 3, 1) := by decide +kernel
theorem dX12_ran_185 : decode cX12_ran 185 = .ok (.iinc 4 1, 3) := by decide +kernel
theorem dX12_ran_188 : decode cX12_ran 188 = .ok (.goto (-20), 3) := by decide +kernel
theorem dX12_ran_191 : decode cX12_ran 191 = .ok (.iload_n 3, 1) := by decide +kernel
theorem dX12_ran_192 : decode cX12_ran 192 = .ok (.ireturn, 1) := by decide +kernel
theorem dX12_trace_0 : decode cX12_trace 0 = .ok (.aload_n 0, 1) := by decide +kernel
theorem dX12_trace_1 : decode cX12_trace 1 = .ok (.iconst 0, 1) := by decide +kernel
theorem dX12_trace_2 : decode cX12_trace 2 = .ok (.putfield 273, 3) := by decide +kernel
theorem dX12_trace_5 : decode cX12_trace 5 = .ok (.aload_n 0, 1) := by decide +kernel
theorem dX12_trace_6 : decode cX12_trace 6 = .ok (.getfield 580, 3) := by decide +kernel
theorem dX12_trace_9 : decode cX12_trace 9 = .ok (.ifCond .eq 26, 3) := by decide +kernel
theorem dX12_trace_12 : decode cX12_trace 12 = .ok (.iload_n 1, 1) := by decide +kernel
theorem dX12_trace_13 : decode cX12_trace 13 = .ok (.iconst 0, 1) := by decide +kernel
theorem dX12_trace_14 : decode cX12_trace 14 = .ok (.aload_n 0, 1) := by decide +kernel
theorem dX12_trace_15 : decode cX12_trace 15 = .ok (.getfield 583, 3) := by decide +kernel
theorem dX12_trace_18 : decode cX12_trace 18 = .ok (.iconst 1, 1) := by decide +kernel
theorem dX12_trace_19 : decode cX12_trace 19 = .ok (.isub, 1) := by decide +kernel
theorem dX12_trace_20 : decode cX12_trace 20 = .ok (.invokestatic 279, 3) := by decide +kernel
theorem dX12_trace_23 : decode cX12_trace 23 = .ok (.ifCond .eq 12, 3) := by decide +kernel
theorem dX12_trace_26 : decode cX12_trace 26 = .ok (.iload_n 2, 1) := by decide +kernel
theorem dX12_trace_27 : decode cX12_trace 27 = .ok (.iconst 0, 1) := by decide +kernel
theorem dX12_trace_28 : decode cX12_trace 28 = .ok (.iconst 1, 1) := by decide +kernel
theorem dX12_trace_29 : decode cX12_trace 29 = .ok (.invokestatic 279, 3) := by decide +kernel
theorem dX12_trace_32 : decode cX12_trace 32 = .ok (.ifCond .ne 5, 3) := by decide +kernel
theorem dX12_trace_35 : decode cX12_trace 35 = .ok (.iconst (-1), 1) := by decide +kernel
theorem dX12_trace_36 : decode cX12_trace 36 = .ok (.ireturn, 1) := by decide +kernel
theorem dX12_trace_37 : decode cX12_trace 37 = .ok (.iload_n 2, 1) := by decide +kernel
theorem dX12_trace_38 : decode cX12_trace 38 = .ok (.ifCond .ne 12, 3) := by decide +kernel
theorem dX12_trace_41 : decode cX12_trace 41 = .ok (.aload_n 0, 1) := by decide +kernel
theorem dX12_trace_42 : decode cX12_trace 42 = .ok (.getfield 207, 3) := by decide +kernel
theorem dX12_trace_45 : decode cX12_trace 45 = .ok (.iload_n 1, 1) := by decide +kernel
theorem dX12_trace_46 : decode cX12_trace 46 = .ok (.iaload, 1) := by decide +kernel
theorem dX12_trace_47 : decode cX12_trace 47 = .ok (.goto 9, 3) := by decide +kernel
theorem dX12_trace_50 : decode cX12_trace 50 = .ok (.aload_n 0, 1) := by decide +kernel
theorem dX12_trace_51 : decode cX12_trace 51 = .ok (.getfield 210, 3) := by decide +kernel
theorem dX12_trace_54 : decode cX12_trace 54 = .ok (.iload_n 1, 1) := by decide +kernel
theorem dX12_trace_55 : decode cX12_trace 55 = .ok (.iaload, 1) := by decide +kernel
theorem dX12_trace_56 : decode cX12_trace 56 = .ok (.ireturn, 1) := by decide +kernel
theorem dX12_suppressed_0 : decode cX12_suppressed 0 = .ok (.aload_n 0, 1) := by decide +kernel
theorem dX12_suppressed_1 : decode cX12_suppressed 1 = .ok (.iconst 0, 1) := by decide +kernel
theorem dX12_suppressed_2 : decode cX12_suppressed 2 = .ok (.putfield 273, 3) := by decide +kernel
theorem dX12_suppressed_5 : decode cX12_suppressed 5 = .ok (.aload_n 0, 1) := by decide +kernel
theorem dX12_suppressed_6 : decode cX12_suppressed 6 = .ok (.getfield 580, 3) := by decide +kernel
theorem dX12_suppressed_9 : decode cX12_suppressed 9 = .ok (.ifCond .eq 39, 3) := by decide +kernel
theorem dX12_suppressed_12 : decode cX12_suppressed 12 = .ok (.aload_n 0, 1) := by decide +kernel
theorem dX12_suppressed_13 : decode cX12_suppressed 13 = .ok (.getfield 636, 3) := by decide +kernel
theorem dX12_suppressed_16 : decode cX12_suppressed 16 = .ok (.iconst 3, 1) := by decide +kernel
theorem dX12_suppressed_17 : decode cX12_suppressed 17 = .ok (.if_icmp .ne 31, 3) := by decide +kernel
theorem dX12_suppressed_20 : decode cX12_suppressed 20 = .ok (.iload_n 1, 1) := by decide +kernel
theorem dX12_suppressed_21 : decode cX12_suppressed 21 = .ok (.iconst 0, 1) := by decide +kernel
theorem dX12_suppressed_22 : decode cX12_suppressed 22 = .ok (.aload_n 0, 1) := by decide +kernel
theorem dX12_suppressed_23 : decode cX12_suppressed 23 = .ok (.getfield 222, 3) := by decide +kernel
theorem dX12_suppressed_26 : decode cX12_suppressed 26 = .ok (.aload_n 0, 1) := by decide +kernel
theorem dX12_suppressed_27 : decode cX12_suppressed 27 = .ok (.getfield 595, 3) := by decide +kernel
theorem dX12_suppressed_30 : decode cX12_suppressed 30 = .ok (.iaload, 1) := by decide +kernel
theorem dX12_suppressed_31 : decode cX12_suppressed 31 = .ok (.iconst 1, 1) := by decide +kernel
theorem dX12_suppressed_32 : decode cX12_suppressed 32 = .ok (.isub, 1) := by decide +kernel
theorem dX12_suppressed_33 : decode cX12_suppressed 33 = .ok (.invokestatic 279, 3) := by decide +kernel
theorem dX12_suppressed_36 : decode cX12_suppressed 36 = .ok (.ifCond .eq 12, 3) := by decide +kernel
theorem dX12_suppressed_39 : decode cX12_suppressed 39 = .ok (.iload_n 2, 1) := by decide +kernel
theorem dX12_suppressed_40 : decode cX12_suppressed 40 = .ok (.iconst 0, 1) := by decide +kernel
theorem dX12_suppressed_41 : decode cX12_suppressed 41 = .ok (.iconst 1, 1) := by decide +kernel
theorem dX12_suppressed_42 : decode cX12_suppressed 42 = .ok (.invokestatic 279, 3) := by decide +kernel
theorem dX12_suppressed_45 : decode cX12_suppressed 45 = .ok (.ifCond .ne 5, 3) := by decide +kernel
theorem dX12_suppressed_48 : decode cX12_suppressed 48 = .ok (.iconst (-1), 1) := by decide +kernel
theorem dX12_suppressed_49 : decode cX12_suppressed 49 = .ok (.ireturn, 1) := by decide +kernel
theorem dX12_suppressed_50 : decode cX12_suppressed 50 = .ok (.iload_n 2, 1) := by decide +kernel
theorem dX12_suppressed_51 : decode cX12_suppressed 51 = .ok (.ifCond .ne 20, 3) := by decide +kernel
theorem dX12_suppressed_54 : decode cX12_suppressed 54 = .ok (.aload_n 0, 1) := by decide +kernel
theorem dX12_suppressed_55 : decode cX12_suppressed 55 = .ok (.getfield 225, 3) := by decide +kernel
theorem dX12_suppressed_58 : decode cX12_suppressed 58 = .ok (.bipush 8, 2) := by decide +kernel
theorem dX12_suppressed_60 : decode cX12_suppressed 60 = .ok (.aload_n 0, 1) := by decide +kernel
theorem dX12_suppressed_61 : decode cX12_suppressed 61 = .ok (.getfield 595, 3) := by decide +kernel
theorem dX12_suppressed_64 : decode cX12_suppressed 64 = .ok (.imul, 1) := by decide +kernel
theorem dX12_suppressed_65 : decode cX12_suppressed 65 = .ok (.iload_n 1, 1) := by decide +kernel
theorem dX12_suppressed_66 : decode cX12_suppressed 66 = .ok (.iadd, 1) := by decide +kernel
theorem dX12_suppressed_67 : decode cX12_suppressed 67 = .ok (.iaload, 1) := by decide +kernel
theorem dX12_suppressed_68 : decode cX12_suppressed 68 = .ok (.goto 17, 3) := by decide +kernel
theorem dX12_suppressed_71 : decode cX12_suppressed 71 = .ok (.aload_n 0, 1) := by decide +kernel
theorem dX12_suppressed_72 : decode cX12_suppressed 72 = .ok (.getfield 228, 3) := by decide +kernel
theorem dX12_suppressed_75 : decode cX12_suppressed 75 = .ok (.bipush 8, 2) := by decide +kernel
theorem dX12_suppressed_77 : decode cX12_suppressed 77 = .ok (.aload_n 0, 1) := by decide +kernel
theorem dX12_suppressed_78 : decode cX12_suppressed 78 = .ok (.getfield 595, 3) := by decide +kernel
end
section
theorem dX12_suppressed_81 : decode cX12_suppressed 81 = .ok (.imul, 1) := by decide +kernel
theorem dX12_suppressed_82 : decode cX12_suppressed 82 = .ok (.iload_n 1, 1) := by decide +kernel
theorem dX12_suppressed_83 : decode cX12_suppressed 83 = .ok (.iadd, 1) := by decide +kernel
theorem dX12_suppressed_84 : decode cX12_suppressed 84 = .ok (.iaload, 1) := by decide +kernel
theorem dX12_suppressed_85 : decode cX12_suppressed 85 = .ok (.ireturn, 1) := by decide +kernel
theorem dX12_rounds_0 : decode cX12_rounds 0 = .ok (.aload_n 0, 1) := by decide +kernel
theorem dX12_rounds_1 : decode cX12_rounds 1 = .ok (.iconst 0, 1) := by decide +kernel
theorem dX12_rounds_2 : decode cX12_rounds 2 = .ok (.putfield 273, 3) := by decide +kernel
theorem dX12_rounds_5 : decode cX12_rounds 5 = .ok (.iload_n 1, 1) := by decide +kernel
theorem dX12_rounds_6 : decode cX12_rounds 6 = .ok (.ifCond .lt 7, 3) := by decide +kernel
theorem dX12_rounds_9 : decode cX12_rounds 9 = .ok (.iload_n 2, 1) := by decide +kernel
theorem dX12_rounds_10 : decode cX12_rounds 10 = .ok (.ifCond .ge 5, 3) := by decide +kernel
theorem dX12_rounds_13 : decode cX12_rounds 13 = .ok (.iconst (-1), 1) := by decide +kernel
theorem dX12_rounds_14 : decode cX12_rounds 14 = .ok (.ireturn, 1) := by decide +kernel
theorem dX12_rounds_15 : decode cX12_rounds 15 = .ok (.iload_n 2, 1) := by decide +kernel
theorem dX12_rounds_16 : decode cX12_rounds 16 = .ok (.ifCond .ne 10, 3) := by decide +kernel
theorem dX12_rounds_19 : decode cX12_rounds 19 = .ok (.aload_n 0, 1) := by decide +kernel
theorem dX12_rounds_20 : decode cX12_rounds 20 = .ok (.iconst 1, 1) := by decide +kernel
theorem dX12_rounds_21 : decode cX12_rounds 21 = .ok (.putfield 273, 3) := by decide +kernel
theorem dX12_rounds_24 : decode cX12_rounds 24 = .ok (.iconst 0, 1) := by decide +kernel
theorem dX12_rounds_25 : decode cX12_rounds 25 = .ok (.ireturn, 1) := by decide +kernel
theorem dX12_rounds_26 : decode cX12_rounds 26 = .ok (.iload_n 1, 1) := by decide +kernel
theorem dX12_rounds_27 : decode cX12_rounds 27 = .ok (.iload_n 2, 1) := by decide +kernel
theorem dX12_rounds_28 : decode cX12_rounds 28 = .ok (.idiv, 1) := by decide +kernel
theorem dX12_rounds_29 : decode cX12_rounds 29 = .ok (.iload_n 1, 1) := by decide +kernel
theorem dX12_rounds_30 : decode cX12_rounds 30 = .ok (.iload_n 2, 1) := by decide +kernel
theorem dX12_rounds_31 : decode cX12_rounds 31 = .ok (.irem, 1) := by decide +kernel
theorem dX12_rounds_32 : decode cX12_rounds 32 = .ok (.ifCond .le 7, 3) := by decide +kernel
theorem dX12_rounds_35 : decode cX12_rounds 35 = .ok (.iconst 1, 1) := by decide +kernel
theorem dX12_rounds_36 : decode cX12_rounds 36 = .ok (.goto 4, 3) := by decide +kernel
theorem dX12_rounds_39 : decode cX12_rounds 39 = .ok (.iconst 0, 1) := by decide +kernel
theorem dX12_rounds_40 : decode cX12_rounds 40 = .ok (.iadd, 1) := by decide +kernel
theorem dX12_rounds_41 : decode cX12_rounds 41 = .ok (.ireturn, 1) := by decide +kernel
end
section
theorem zg_nil : ∀ w ∈ ([] : List Cond), goodWord w = true := fun _ h => absurd h List.not_mem_nil
theorem zg_cons {c : Cond} {l : List Cond} (hc : goodWord c = true) (hl : ∀ w ∈ l, goodWord w = true) : ∀ w ∈ c :: l, goodWord w = true := fun w h => (List.mem_cons.mp h).elim (fun e => by rw [e]; exact hc) (hl w)
theorem zg_app {a b : List Cond} (ha : ∀ w ∈ a, goodWord w = true) (hb : ∀ w ∈ b, goodWord w = true) : ∀ w ∈ a ++ b, goodWord w = true := fun w h => (List.mem_append.mp h).elim (ha w) (hb w)
theorem zg_lit {l : List Cond} (h : l.all goodWord = true) : ∀ w ∈ l, goodWord w = true := List.all_eq_true.mp h
theorem zg_of {big ws : List Cond} (hm : ∀ w ∈ ws, w ∈ big) (hg : ∀ w ∈ ws, goodWord w = true) : GoodIn big ws := fun w h => ⟨hm w h, good_of_word (hg w h)⟩
theorem zt_nil : ∀ w ∈ ([] : List Cond), w ∈ lw_tbl := fun _ h => absurd h List.not_mem_nil
theorem zt_cons {c : Cond} {l : List Cond} (hc : c ∈ lw_tbl) (hl : ∀ w ∈ l, w ∈ lw_tbl) : ∀ w ∈ c :: l, w ∈ lw_tbl := fun w h => (List.mem_cons.mp h).elim (fun e => by rw [e]; exact hc) (hl w)
theorem zt_app {a b : List Cond} (ha : ∀ w ∈ a, w ∈ lw_tbl) (hb : ∀ w ∈ b, w ∈ lw_tbl) : ∀ w ∈ a ++ b, w ∈ lw_tbl := fun w h => (List.mem_append.mp h).elim (ha w) (hb w)
theorem wgcX12 : ∀ w ∈ wsX120, goodWord w = true := zg_lit (by decide +kernel)
def woX12_in : List Cond := []
def wzX12_in : List Cond := .code yX12_in cX12_in 3 (some .boolean) :: (woX12_in ++ [])
theorem wgX12_in : ∀ w ∈ wzX12_in, goodWord w = true := zg_cons rfl (zg_app (zg_lit (by decide +kernel)) zg_nil)
def woX12_feed : List Cond := [.fieldLink RX12 273 "StatementRules2Model" "thrown" "I", .fieldLink RX12 276 "StatementRules2Model" "taped" "I", .fieldLink RX12 7 "StatementRules2Model" "tape" "[I"]
def wzX12_feed : List Cond := .code yX12_feed cX12_feed 8 (some .int) :: (woX12_feed ++ (wsX120 ++ []))
theorem wgX12_feed : ∀ w ∈ wzX12_feed, goodWord w = true := zg_cons rfl (zg_app (zg_lit (by decide +kernel)) (zg_app wgcX12 zg_nil))
def woX12_cut : List Cond := [.fieldLink RX12 273 "StatementRules2Model" "thrown" "I", .fieldLink RX12 276 "StatementRules2Model" "taped" "I", .methodLink RX12 279 yX12_in, .static yX12_in, .initialized RX12]
def wzX12_cut : List Cond := .code yX12_cut cX12_cut 3 (some .int) :: (woX12_cut ++ (wsX120 ++ (wzX12_in ++ [])))
theorem wgX12_cut : ∀ w ∈ wzX12_cut, goodWord w = true := zg_cons rfl (zg_app (zg_lit (by decide +kernel)) (zg_app wgcX12 (zg_app wgX12_in zg_nil)))
def woX12_kind : List Cond := [.fieldLink RX12 273 "StatementRules2Model" "thrown" "I", .fieldLink RX12 13 "StatementRules2Model" "kinds" "I", .fieldLink RX12 17 "StatementRules2Model" "above" "[I", .methodLink RX12 279 yX12_in, .static yX12_in, .initialized RX12]
def wzX12_kind : List Cond := .code yX12_kind cX12_kind 2 (some .int) :: (woX12_kind ++ (wsX120 ++ (wzX12_in ++ [])))
theorem wgX12_kind : ∀ w ∈ wzX12_kind, goodWord w = true := zg_cons rfl (zg_app (zg_lit (by decide +kernel)) (zg_app wgcX12 (zg_app wgX12_in zg_nil)))
def woX12_isUnder : List Cond := [.fieldLink RX12 17 "StatementRules2Model" "above" "[I"]
def wzX12_isUnder : List Cond := .code yX12_isUnder cX12_isUnder 4 (some .boolean) :: (woX12_isUnder ++ (wsX120 ++ []))
theorem wgX12_isUnder : ∀ w ∈ wzX12_isUnder, goodWord w = true := zg_cons rfl (zg_app (zg_lit (by decide +kernel)) (zg_app wgcX12 zg_nil))
def woX12_under : List Cond := [.fieldLink RX12 273 "StatementRules2Model" "thrown" "I", .fieldLink RX12 13 "StatementRules2Model" "kinds" "I", .methodLink RX12 279 yX12_in, .static yX12_in, .initialized RX12, .methodLink RX12 283 yX12_isUnder, .instanceMethod yX12_isUnder, .selects RX12 yX12_isUnder yX12_isUnder]
def wzX12_under : List Cond := .code yX12_under cX12_under 3 (some .int) :: (woX12_under ++ (wsX120 ++ (wzX12_in ++ (wzX12_isUnder ++ []))))
theorem wgX12_under : ∀ w ∈ wzX12_under, goodWord w = true := zg_cons rfl (zg_app (zg_lit (by decide +kernel)) (zg_app wgcX12 (zg_app wgX12_in (zg_app wgX12_isUnder zg_nil))))
def woX12_resource : List Cond := [.fieldLink RX12 273 "StatementRules2Model" "thrown" "I", .fieldLink RX12 13 "StatementRules2Model" "kinds" "I", .fieldLink RX12 20 "StatementRules2Model" "isNull" "[Z", .fieldLink RX12 24 "StatementRules2Model" "opening" "[I", .fieldLink RX12 27 "StatementRules2Model" "closing" "[I", .methodLink RX12 279 yX12_in, .static yX12_in, .initialized RX12]
def wzX12_resource : List Cond := .code yX12_resource cX12_resource 5 (some .int) :: (woX12_resource ++ (wsX120 ++ (wzX12_in ++ [])))
theorem wgX12_resource : ∀ w ∈ wzX12_resource, goodWord w = true := zg_cons rfl (zg_app (zg_lit (by decide +kernel)) (zg_app wgcX12 (zg_app wgX12_in zg_nil)))
def woX12_asserts : List Cond := [.fieldLink RX12 273 "StatementRules2Model" "thrown" "I", .fieldLink RX12 287 "StatementRules2Model" "asserting" "Z"]
def wzX12_asserts : List Cond := .code yX12_asserts cX12_asserts 3 (some .int) :: (woX12_asserts ++ (wsX120 ++ []))
theorem wgX12_asserts : ∀ w ∈ wzX12_asserts, goodWord w = true := zg_cons rfl (zg_app (zg_lit (by decide +kernel)) (zg_app wgcX12 zg_nil))
def woX12_at : List Cond := [.fieldLink RX12 276 "StatementRules2Model" "taped" "I", .fieldLink RX12 7 "StatementRules2Model" "tape" "[I"]
def wzX12_at : List Cond := .code yX12_at cX12_at 2 (some .int) :: (woX12_at ++ (wsX120 ++ []))
theorem wgX12_at : ∀ w ∈ wzX12_at, goodWord w = true := zg_cons rfl (zg_app (zg_lit (by decide +kernel)) (zg_app wgcX12 zg_nil))
def woX12_isLetter : List Cond := []
def wzX12_isLetter : List Cond := .code yX12_isLetter cX12_isLetter 1 (some .boolean) :: (woX12_isLetter ++ [])
theorem wgX12_isLetter : ∀ w ∈ wzX12_isLetter, goodWord w = true := zg_cons rfl (zg_app (zg_lit (by decide +kernel)) zg_nil)
def woX12_isDigit : List Cond := []
def wzX12_isDigit : List Cond := .code yX12_isDigit cX12_isDigit 1 (some .boolean) :: (woX12_isDigit ++ [])
theorem wgX12_isDigit : ∀ w ∈ wzX12_isDigit, goodWord w = true := zg_cons rfl (zg_app (zg_lit (by decide +kernel)) zg_nil)
def woX12_readName : List Cond := [.fieldLink RX12 327 "StatementRules2Model" "name" "J", .fieldLink RX12 297 "StatementRules2Model" "to" "I", .fieldLink RX12 304 "StatementRules2Model" "from" "I", .fieldLink RX12 307 "StatementRules2Model" "tok" "I", .fieldLink RX12 80 "StatementRules2Model" "words" "[J", .fieldLink RX12 314 "StatementRules2Model" "number" "I", .methodLink RX12 300 yX12_at, .instanceMethod yX12_at, .selects RX12 yX12_at yX12_at, .initialized RX12, .methodLink RX12 317 yX12_isLetter, .static yX12_isLetter, .methodLink RX12 310 yX12_isDigit, .static yX12_isDigit, .methodLink RX12 279 yX12_in, .static yX12_in]
def wzX12_readName : List Cond := .code yX12_readName cX12_readName 5 none :: (woX12_readName ++ (wsX120 ++ (wzX12_at ++ (wzX12_isLetter ++ (wzX12_isDigit ++ (wzX12_in ++ []))))))
theorem wgX12_readName : ∀ w ∈ wzX12_readName, goodWord w = true := zg_cons rfl (zg_app (zg_lit (by decide +kernel)) (zg_app wgcX12 (zg_app wgX12_at (zg_app wgX12_isLetter (zg_app wgX12_isDigit (zg_app wgX12_in zg_nil))))))
def woX12_readSign : List Cond := [.fieldLink RX12 297 "StatementRules2Model" "to" "I", .fieldLink RX12 307 "StatementRules2Model" "tok" "I", .methodLink RX12 300 yX12_at, .instanceMethod yX12_at, .selects RX12 yX12_at yX12_at, .initialized RX12]
def wzX12_readSign : List Cond := .code yX12_readSign cX12_readSign 5 none :: (woX12_readSign ++ (wsX120 ++ (wzX12_at ++ [])))
theorem wgX12_readSign : ∀ w ∈ wzX12_readSign, goodWord w = true := zg_cons rfl (zg_app (zg_lit (by decide +kernel)) (zg_app wgcX12 (zg_app wgX12_at zg_nil)))
def woX12_next : List Cond := [.fieldLink RX12 291 "StatementRules2Model" "fault" "I", .fieldLink RX12 294 "StatementRules2Model" "tokens" "I", .fieldLink RX12 297 "StatementRules2Model" "to" "I", .fieldLink RX12 276 "StatementRules2Model" "taped" "I", .fieldLink RX12 304 "StatementRules2Model" "from" "I", .fieldLink RX12 314 "StatementRules2Model" "number" "I", .fieldLink RX12 307 "StatementRules2Model" "tok" "I", .methodLink RX12 300 yX12_at, .instanceMethod yX12_at, .selects RX12 yX12_at yX12_at, .initialized RX12, .methodLink RX12 310 yX12_isDigit, .static yX12_isDigit, .methodLink RX12 317 yX12_isLetter, .static yX12_isLetter, .methodLink RX12 323 yX12_readSign, .instanceMethod yX12_readSign, .selects RX12 yX12_readSign yX12_readSign, .methodLink RX12 320 yX12_readName, .instanceMethod yX12_readName, .selects RX12 yX12_readName yX12_readName]
def wzX12_next : List Cond := .code yX12_next cX12_next 2 none :: (woX12_next ++ (wsX120 ++ (wzX12_at ++ (wzX12_isDigit ++ (wzX12_isLetter ++ (wzX12_readSign ++ (wzX12_readName ++ [])))))))
theorem wgX12_next : ∀ w ∈ wzX12_next, goodWord w = true := zg_cons rfl (zg_app (zg_lit (by decide +kernel)) (zg_app wgcX12 (zg_app wgX12_at (zg_app wgX12_isDigit (zg_app wgX12_isLetter (zg_app wgX12_readSign (zg_app wgX12_readName zg_nil)))))))
def woX12_fail : List Cond := [.fieldLink RX12 291 "StatementRules2Model" "fault" "I", .fieldLink RX12 331 "StatementRules2Model" "faultAt" "I"]
def wzX12_fail : List Cond := .code yX12_fail cX12_fail 3 none :: (woX12_fail ++ (wsX120 ++ []))
theorem wgX12_fail : ∀ w ∈ wzX12_fail, goodWord w = true := zg_cons rfl (zg_app (zg_lit (by decide +kernel)) (zg_app wgcX12 zg_nil))
def woX12_note : List Cond := [.fieldLink RX12 291 "StatementRules2Model" "fault" "I", .fieldLink RX12 334 "StatementRules2Model" "late" "I"]
def wzX12_note : List Cond := .code yX12_note cX12_note 2 none :: (woX12_note ++ (wsX120 ++ []))
theorem wgX12_note : ∀ w ∈ wzX12_note, goodWord w = true := zg_cons rfl (zg_app (zg_lit (by decide +kernel)) (zg_app wgcX12 zg_nil))
def woX12_can : List Cond := [.fieldLink RX12 291 "StatementRules2Model" "fault" "I", .fieldLink RX12 307 "StatementRules2Model" "tok" "I", .fieldLink RX12 304 "StatementRules2Model" "from" "I", .methodLink RX12 337 yX12_fail, .instanceMethod yX12_fail, .selects RX12 yX12_fail yX12_fail, .initialized RX12]
def wzX12_can : List Cond := .code yX12_can cX12_can 2 (some .boolean) :: (woX12_can ++ (wsX120 ++ (wzX12_fail ++ [])))
theorem wgX12_can : ∀ w ∈ wzX12_can, goodWord w = true := zg_cons rfl (zg_app (zg_lit (by decide +kernel)) (zg_app wgcX12 (zg_app wgX12_fail zg_nil)))
def woX12_need : List Cond := [.fieldLink RX12 291 "StatementRules2Model" "fault" "I", .fieldLink RX12 307 "StatementRules2Model" "tok" "I", .methodLink RX12 341 yX12_can, .instanceMethod yX12_can, .selects RX12 yX12_can yX12_can, .initialized RX12, .methodLink RX12 345 yX12_next, .instanceMethod yX12_next, .selects RX12 yX12_next yX12_next]
def wzX12_need : List Cond := .code yX12_need cX12_need 2 (some .boolean) :: (woX12_need ++ (wsX120 ++ (wzX12_can ++ (wzX12_next ++ []))))
theorem wgX12_need : ∀ w ∈ wzX12_need, goodWord w = true := zg_cons rfl (zg_app (zg_lit (by decide +kernel)) (zg_app wgcX12 (zg_app wgX12_can (zg_app wgX12_next zg_nil))))
def woX12_opens : List Cond := [.fieldLink RX12 348 "StatementRules2Model" "opened" "I", .fieldLink RX12 291 "StatementRules2Model" "fault" "I", .fieldLink RX12 304 "StatementRules2Model" "from" "I", .methodLink RX12 337 yX12_fail, .instanceMethod yX12_fail, .selects RX12 yX12_fail yX12_fail, .initialized RX12]
def wzX12_opens : List Cond := .code yX12_opens cX12_opens 1 (some .boolean) :: (woX12_opens ++ (wsX120 ++ (wzX12_fail ++ [])))
theorem wgX12_opens : ∀ w ∈ wzX12_opens, goodWord w = true := zg_cons rfl (zg_app (zg_lit (by decide +kernel)) (zg_app wgcX12 (zg_app wgX12_fail zg_nil)))
def woX12_open : List Cond := [.fieldLink RX12 291 "StatementRules2Model" "fault" "I", .fieldLink RX12 307 "StatementRules2Model" "tok" "I", .methodLink RX12 341 yX12_can, .instanceMethod yX12_can, .selects RX12 yX12_can yX12_can, .initialized RX12, .methodLink RX12 351 yX12_opens, .instanceMethod yX12_opens, .selects RX12 yX12_opens yX12_opens, .methodLink RX12 345 yX12_next, .instanceMethod yX12_next, .selects RX12 yX12_next yX12_next]
def wzX12_open : List Cond := .code yX12_open cX12_open 2 (some .boolean) :: (woX12_open ++ (wsX120 ++ (wzX12_can ++ (wzX12_opens ++ (wzX12_next ++ [])))))
theorem wgX12_open : ∀ w ∈ wzX12_open, goodWord w = true := zg_cons rfl (zg_app (zg_lit (by decide +kernel)) (zg_app wgcX12 (zg_app wgX12_can (zg_app wgX12_opens (zg_app wgX12_next zg_nil)))))
def woX12_shut : List Cond := [.fieldLink RX12 291 "StatementRules2Model" "fault" "I", .fieldLink RX12 348 "StatementRules2Model" "opened" "I", .methodLink RX12 355 yX12_need, .instanceMethod yX12_need, .selects RX12 yX12_need yX12_need, .initialized RX12]
def wzX12_shut : List Cond := .code yX12_shut cX12_shut 2 (some .boolean) :: (woX12_shut ++ (wsX120 ++ (wzX12_need ++ [])))
theorem wgX12_shut : ∀ w ∈ wzX12_shut, goodWord w = true := zg_cons rfl (zg_app (zg_lit (by decide +kernel)) (zg_app wgcX12 (zg_app wgX12_need zg_nil)))
def woX12_emit : List Cond := [.fieldLink RX12 358 "StatementRules2Model" "codes" "I", .fieldLink RX12 84 "StatementRules2Model" "op" "[I", .fieldLink RX12 87 "StatementRules2Model" "ix" "[I", .fieldLink RX12 90 "StatementRules2Model" "iy" "[I"]
def wzX12_emit : List Cond := .code yX12_emit cX12_emit 4 (some .int) :: (woX12_emit ++ (wsX120 ++ []))
theorem wgX12_emit : ∀ w ∈ wzX12_emit, goodWord w = true := zg_cons rfl (zg_app (zg_lit (by decide +kernel)) (zg_app wgcX12 zg_nil))
def woX12_seenAs : List Cond := [.fieldLink RX12 361 "StatementRules2Model" "seen" "I", .fieldLink RX12 126 "StatementRules2Model" "seenName" "[J"]
def wzX12_seenAs : List Cond := .code yX12_seenAs cX12_seenAs 4 (some .int) :: (woX12_seenAs ++ (wsX120 ++ []))
theorem wgX12_seenAs : ∀ w ∈ wzX12_seenAs, goodWord w = true := zg_cons rfl (zg_app (zg_lit (by decide +kernel)) (zg_app wgcX12 zg_nil))
def woX12_see : List Cond := [.fieldLink RX12 126 "StatementRules2Model" "seenName" "[J", .fieldLink RX12 361 "StatementRules2Model" "seen" "I", .fieldLink RX12 129 "StatementRules2Model" "seenSlot" "[I", .fieldLink RX12 364 "StatementRules2Model" "slots" "I", .fieldLink RX12 132 "StatementRules2Model" "seenCaught" "[Z"]
def wzX12_see : List Cond := .code yX12_see cX12_see 4 (some .int) :: (woX12_see ++ (wsX120 ++ []))
theorem wgX12_see : ∀ w ∈ wzX12_see, goodWord w = true := zg_cons rfl (zg_app (zg_lit (by decide +kernel)) (zg_app wgcX12 zg_nil))
def woX12_goal : List Cond := [.fieldLink RX12 135 "StatementRules2Model" "goalSort" "[I", .fieldLink RX12 367 "StatementRules2Model" "goals" "I", .fieldLink RX12 138 "StatementRules2Model" "goalName" "[J", .fieldLink RX12 141 "StatementRules2Model" "goalLoop" "[I", .fieldLink RX12 144 "StatementRules2Model" "goalDepth" "[I", .fieldLink RX12 370 "StatementRules2Model" "depth" "I", .fieldLink RX12 147 "StatementRules2Model" "breaks" "[I", .fieldLink RX12 150 "StatementRules2Model" "continues" "[I", .fieldLink RX12 153 "StatementRules2Model" "broken" "[Z", .fieldLink RX12 156 "StatementRules2Model" "continued" "[Z"]
def wzX12_goal : List Cond := .code yX12_goal cX12_goal 4 (some .int) :: (woX12_goal ++ (wsX120 ++ []))
theorem wgX12_goal : ∀ w ∈ wzX12_goal, goodWord w = true := zg_cons rfl (zg_app (zg_lit (by decide +kernel)) (zg_app wgcX12 zg_nil))
def woX12_loopGoal : List Cond := [.fieldLink RX12 135 "StatementRules2Model" "goalSort" "[I", .fieldLink RX12 141 "StatementRules2Model" "goalLoop" "[I", .methodLink RX12 373 yX12_goal, .instanceMethod yX12_goal, .selects RX12 yX12_goal yX12_goal, .initialized RX12]
def wzX12_loopGoal : List Cond := .code yX12_loopGoal cX12_loopGoal 3 (some .int) :: (woX12_loopGoal ++ (wsX120 ++ (wzX12_goal ++ [])))
theorem wgX12_loopGoal : ∀ w ∈ wzX12_loopGoal, goodWord w = true := zg_cons rfl (zg_app (zg_lit (by decide +kernel)) (zg_app wgcX12 (zg_app wgX12_goal zg_nil)))
def woX12_patch : List Cond := [.fieldLink RX12 87 "StatementRules2Model" "ix" "[I"]
def wzX12_patch : List Cond := .code yX12_patch cX12_patch 5 none :: (woX12_patch ++ (wsX120 ++ []))
theorem wgX12_patch : ∀ w ∈ wzX12_patch, goodWord w = true := zg_cons rfl (zg_app (zg_lit (by decide +kernel)) (zg_app wgcX12 zg_nil))
def woX12_goes : List Cond := [.fieldLink RX12 156 "StatementRules2Model" "continued" "[Z", .fieldLink RX12 153 "StatementRules2Model" "broken" "[Z"]
def wzX12_goes : List Cond := .code yX12_goes cX12_goes 3 none :: (woX12_goes ++ (wsX120 ++ []))
theorem wgX12_goes : ∀ w ∈ wzX12_goes, goodWord w = true := zg_cons rfl (zg_app (zg_lit (by decide +kernel)) (zg_app wgcX12 zg_nil))
def woX12_pend : List Cond := [.fieldLink RX12 377 "StatementRules2Model" "walls" "I", .fieldLink RX12 162 "StatementRules2Model" "wallGoals" "[I", .fieldLink RX12 165 "StatementRules2Model" "pendGoal" "[I", .fieldLink RX12 384 "StatementRules2Model" "pends" "I", .fieldLink RX12 168 "StatementRules2Model" "pendBreak" "[Z", .fieldLink RX12 171 "StatementRules2Model" "pendTry" "[I", .fieldLink RX12 159 "StatementRules2Model" "wallTry" "[I", .methodLink RX12 380 yX12_goes, .instanceMethod yX12_goes, .selects RX12 yX12_goes yX12_goes, .initialized RX12]
def wzX12_pend : List Cond := .code yX12_pend cX12_pend 3 none :: (woX12_pend ++ (wsX120 ++ (wzX12_goes ++ [])))
theorem wgX12_pend : ∀ w ∈ wzX12_pend, goodWord w = true := zg_cons rfl (zg_app (zg_lit (by decide +kernel)) (zg_app wgcX12 (zg_app wgX12_goes zg_nil)))
def woX12_resolve : List Cond := [.fieldLink RX12 384 "StatementRules2Model" "pends" "I", .fieldLink RX12 171 "StatementRules2Model" "pendTry" "[I", .fieldLink RX12 165 "StatementRules2Model" "pendGoal" "[I", .fieldLink RX12 377 "StatementRules2Model" "walls" "I", .fieldLink RX12 168 "StatementRules2Model" "pendBreak" "[Z", .fieldLink RX12 162 "StatementRules2Model" "wallGoals" "[I", .fieldLink RX12 159 "StatementRules2Model" "wallTry" "[I", .methodLink RX12 380 yX12_goes, .instanceMethod yX12_goes, .selects RX12 yX12_goes yX12_goes, .initialized RX12]
def wzX12_resolve : List Cond := .code yX12_resolve cX12_resolve 6 none :: (woX12_resolve ++ (wsX120 ++ (wzX12_goes ++ [])))
theorem wgX12_resolve : ∀ w ∈ wzX12_resolve, goodWord w = true := zg_cons rfl (zg_app (zg_lit (by decide +kernel)) (zg_app wgcX12 (zg_app wgX12_goes zg_nil)))
def woX12_push : List Cond := [.fieldLink RX12 387 "StatementRules2Model" "top" "I", .fieldLink RX12 174 "StatementRules2Model" "fk" "[I", .fieldLink RX12 177 "StatementRules2Model" "fs" "[I"]
def wzX12_push : List Cond := .code yX12_push cX12_push 2 none :: (woX12_push ++ (wsX120 ++ []))
theorem wgX12_push : ∀ w ∈ wzX12_push, goodWord w = true := zg_cons rfl (zg_app (zg_lit (by decide +kernel)) (zg_app wgcX12 zg_nil))
def woX12_then : List Cond := [.fieldLink RX12 177 "StatementRules2Model" "fs" "[I", .fieldLink RX12 387 "StatementRules2Model" "top" "I", .methodLink RX12 390 yX12_push, .instanceMethod yX12_push, .selects RX12 yX12_push yX12_push, .initialized RX12]
def wzX12_then : List Cond := .code yX12_then cX12_then 3 none :: (woX12_then ++ (wsX120 ++ (wzX12_push ++ [])))
theorem wgX12_then : ∀ w ∈ wzX12_then, goodWord w = true := zg_cons rfl (zg_app (zg_lit (by decide +kernel)) (zg_app wgcX12 (zg_app wgX12_push zg_nil)))
def woX12_body : List Cond := [.fieldLink RX12 307 "StatementRules2Model" "tok" "I", .methodLink RX12 341 yX12_can, .instanceMethod yX12_can, .selects RX12 yX12_can yX12_can, .initialized RX12, .methodLink RX12 393 yX12_then, .instanceMethod yX12_then, .selects RX12 yX12_then yX12_then]
def wzX12_body : List Cond := .code yX12_body cX12_body 2 none :: (woX12_body ++ (wsX120 ++ (wzX12_can ++ (wzX12_then ++ []))))
theorem wgX12_body : ∀ w ∈ wzX12_body, goodWord w = true := zg_cons rfl (zg_app (zg_lit (by decide +kernel)) (zg_app wgcX12 (zg_app wgX12_can (zg_app wgX12_then zg_nil))))
def woX12_over : List Cond := [.fieldLink RX12 396 "StatementRules2Model" "res" "Z", .fieldLink RX12 387 "StatementRules2Model" "top" "I"]
def wzX12_over : List Cond := .code yX12_over cX12_over 2 none :: (woX12_over ++ (wsX120 ++ []))
theorem wgX12_over : ∀ w ∈ wzX12_over, goodWord w = true := zg_cons rfl (zg_app (zg_lit (by decide +kernel)) (zg_app wgcX12 zg_nil))
def woX12_list : List Cond := [.fieldLink RX12 177 "StatementRules2Model" "fs" "[I", .fieldLink RX12 180 "StatementRules2Model" "fp" "[I", .fieldLink RX12 396 "StatementRules2Model" "res" "Z", .fieldLink RX12 307 "StatementRules2Model" "tok" "I", .fieldLink RX12 304 "StatementRules2Model" "from" "I", .methodLink RX12 490 yX12_over, .instanceMethod yX12_over, .selects RX12 yX12_over yX12_over, .initialized RX12, .methodLink RX12 393 yX12_then, .instanceMethod yX12_then, .selects RX12 yX12_then yX12_then, .methodLink RX12 487 yX12_note, .instanceMethod yX12_note, .selects RX12 yX12_note yX12_note]
def wzX12_list : List Cond := .code yX12_list cX12_list 2 none :: (woX12_list ++ (wsX120 ++ (wzX12_over ++ (wzX12_then ++ (wzX12_note ++ [])))))
theorem wgX12_list : ∀ w ∈ wzX12_list, goodWord w = true := zg_cons rfl (zg_app (zg_lit (by decide +kernel)) (zg_app wgcX12 (zg_app wgX12_over (zg_app wgX12_then (zg_app wgX12_note zg_nil)))))
def woX12_jump : List Cond := [.fieldLink RX12 307 "StatementRules2Model" "tok" "I", .fieldLink RX12 304 "StatementRules2Model" "from" "I", .fieldLink RX12 527 "StatementRules2Model" "jumps" "I", .fieldLink RX12 367 "StatementRules2Model" "goals" "I", .fieldLink RX12 150 "StatementRules2Model" "continues" "[I", .fieldLink RX12 90 "StatementRules2Model" "iy" "[I", .fieldLink RX12 144 "StatementRules2Model" "goalDepth" "[I", .fieldLink RX12 147 "StatementRules2Model" "breaks" "[I", .fieldLink RX12 141 "StatementRules2Model" "goalLoop" "[I", .fieldLink RX12 135 "StatementRules2Model" "goalSort" "[I", .fieldLink RX12 138 "StatementRules2Model" "goalName" "[J", .fieldLink RX12 327 "StatementRules2Model" "name" "J", .methodLink RX12 345 yX12_next, .instanceMethod yX12_next, .selects RX12 yX12_next yX12_next, .initialized RX12, .methodLink RX12 464 yX12_emit, .instanceMethod yX12_emit, .selects RX12 yX12_emit yX12_emit, .methodLink RX12 530 yX12_pend, .instanceMethod yX12_pend, .selects RX12 yX12_pend yX12_pend, .methodLink RX12 355 yX12_need, .instanceMethod yX12_need, .selects RX12 yX12_need yX12_need, .methodLink RX12 337 yX12_fail, .instanceMethod yX12_fail, .selects RX12 yX12_fail yX12_fail]
def wzX12_jump : List Cond := .code yX12_jump cX12_jump 7 none :: (woX12_jump ++ (wsX120 ++ (wzX12_next ++ (wzX12_emit ++ (wzX12_pend ++ (wzX12_need ++ (wzX12_fail ++ [])))))))
theorem wgX12_jump : ∀ w ∈ wzX12_jump, goodWord w = true := zg_cons rfl (zg_app (zg_lit (by decide +kernel)) (zg_app wgcX12 (zg_app wgX12_next (zg_app wgX12_emit (zg_app wgX12_pend (zg_app wgX12_need (zg_app wgX12_fail zg_nil)))))))
def woX12_stat : List Cond := [.fieldLink RX12 494 "StatementRules2Model" "statements" "I", .fieldLink RX12 307 "StatementRules2Model" "tok" "I", .fieldLink RX12 174 "StatementRules2Model" "fk" "[I", .methodLink RX12 341 yX12_can, .instanceMethod yX12_can, .selects RX12 yX12_can yX12_can, .initialized RX12, .methodLink RX12 464 yX12_emit, .instanceMethod yX12_emit, .selects RX12 yX12_emit yX12_emit, .methodLink RX12 497 yX12_jump, .instanceMethod yX12_jump, .selects RX12 yX12_jump yX12_jump, .methodLink RX12 490 yX12_over, .instanceMethod yX12_over, .selects RX12 yX12_over yX12_over, .methodLink RX12 345 yX12_next, .instanceMethod yX12_next, .selects RX12 yX12_next yX12_next]
def wzX12_stat : List Cond := .code yX12_stat cX12_stat 2 none :: (woX12_stat ++ (wsX120 ++ (wzX12_can ++ (wzX12_emit ++ (wzX12_jump ++ (wzX12_over ++ (wzX12_next ++ [])))))))
theorem wgX12_stat : ∀ w ∈ wzX12_stat, goodWord w = true := zg_cons rfl (zg_app (zg_lit (by decide +kernel)) (zg_app wgcX12 (zg_app wgX12_can (zg_app wgX12_emit (zg_app wgX12_jump (zg_app wgX12_over (zg_app wgX12_next zg_nil)))))))
def woX12_block : List Cond := [.fieldLink RX12 177 "StatementRules2Model" "fs" "[I", .fieldLink RX12 180 "StatementRules2Model" "fp" "[I", .fieldLink RX12 361 "StatementRules2Model" "seen" "I", .fieldLink RX12 387 "StatementRules2Model" "top" "I", .methodLink RX12 468 yX12_shut, .instanceMethod yX12_shut, .selects RX12 yX12_shut yX12_shut, .initialized RX12, .methodLink RX12 475 yX12_open, .instanceMethod yX12_open, .selects RX12 yX12_open yX12_open, .methodLink RX12 393 yX12_then, .instanceMethod yX12_then, .selects RX12 yX12_then yX12_then]
def wzX12_block : List Cond := .code yX12_block cX12_block 2 none :: (woX12_block ++ (wsX120 ++ (wzX12_shut ++ (wzX12_open ++ (wzX12_then ++ [])))))
theorem wgX12_block : ∀ w ∈ wzX12_block, goodWord w = true := zg_cons rfl (zg_app (zg_lit (by decide +kernel)) (zg_app wgcX12 (zg_app wgX12_shut (zg_app wgX12_open (zg_app wgX12_then zg_nil)))))
def woX12_telling : List Cond := [.fieldLink RX12 307 "StatementRules2Model" "tok" "I", .fieldLink RX12 327 "StatementRules2Model" "name" "J", .fieldLink RX12 500 "StatementRules2Model" "tellings" "I", .fieldLink RX12 204 "StatementRules2Model" "fn" "[J", .fieldLink RX12 304 "StatementRules2Model" "from" "I", .methodLink RX12 341 yX12_can, .instanceMethod yX12_can, .selects RX12 yX12_can yX12_can, .initialized RX12, .methodLink RX12 471 yX12_seenAs, .instanceMethod yX12_seenAs, .selects RX12 yX12_seenAs yX12_seenAs, .methodLink RX12 345 yX12_next, .instanceMethod yX12_next, .selects RX12 yX12_next yX12_next, .methodLink RX12 337 yX12_fail, .instanceMethod yX12_fail, .selects RX12 yX12_fail yX12_fail]
def wzX12_telling : List Cond := .code yX12_telling cX12_telling 2 (some .boolean) :: (woX12_telling ++ (wsX120 ++ (wzX12_can ++ (wzX12_seenAs ++ (wzX12_next ++ (wzX12_fail ++ []))))))
theorem wgX12_telling : ∀ w ∈ wzX12_telling, goodWord w = true := zg_cons rfl (zg_app (zg_lit (by decide +kernel)) (zg_app wgcX12 (zg_app wgX12_can (zg_app wgX12_seenAs (zg_app wgX12_next (zg_app wgX12_fail zg_nil))))))
def woX12_tell : List Cond := [.fieldLink RX12 177 "StatementRules2Model" "fs" "[I", .fieldLink RX12 204 "StatementRules2Model" "fn" "[J", .fieldLink RX12 291 "StatementRules2Model" "fault" "I", .methodLink RX12 506 yX12_see, .instanceMethod yX12_see, .selects RX12 yX12_see yX12_see, .initialized RX12, .methodLink RX12 464 yX12_emit, .instanceMethod yX12_emit, .selects RX12 yX12_emit yX12_emit, .methodLink RX12 355 yX12_need, .instanceMethod yX12_need, .selects RX12 yX12_need yX12_need, .methodLink RX12 490 yX12_over, .instanceMethod yX12_over, .selects RX12 yX12_over yX12_over, .methodLink RX12 345 yX12_next, .instanceMethod yX12_next, .selects RX12 yX12_next yX12_next, .methodLink RX12 503 yX12_telling, .instanceMethod yX12_telling, .selects RX12 yX12_telling yX12_telling, .methodLink RX12 393 yX12_then, .instanceMethod yX12_then, .selects RX12 yX12_then yX12_then]
def wzX12_tell : List Cond := .code yX12_tell cX12_tell 2 none :: (woX12_tell ++ (wsX120 ++ (wzX12_see ++ (wzX12_emit ++ (wzX12_need ++ (wzX12_over ++ (wzX12_next ++ (wzX12_telling ++ (wzX12_then ++ [])))))))))
theorem wgX12_tell : ∀ w ∈ wzX12_tell, goodWord w = true := zg_cons rfl (zg_app (zg_lit (by decide +kernel)) (zg_app wgcX12 (zg_app wgX12_see (zg_app wgX12_emit (zg_app wgX12_need (zg_app wgX12_over (zg_app wgX12_next (zg_app wgX12_telling (zg_app wgX12_then zg_nil)))))))))
def woX12_label : List Cond := [.fieldLink RX12 367 "StatementRules2Model" "goals" "I", .fieldLink RX12 180 "StatementRules2Model" "fp" "[I", .fieldLink RX12 307 "StatementRules2Model" "tok" "I", .fieldLink RX12 141 "StatementRules2Model" "goalLoop" "[I", .fieldLink RX12 135 "StatementRules2Model" "goalSort" "[I", .fieldLink RX12 138 "StatementRules2Model" "goalName" "[J", .methodLink RX12 373 yX12_goal, .instanceMethod yX12_goal, .selects RX12 yX12_goal yX12_goal, .initialized RX12, .methodLink RX12 345 yX12_next, .instanceMethod yX12_next, .selects RX12 yX12_next yX12_next, .methodLink RX12 521 yX12_body, .instanceMethod yX12_body, .selects RX12 yX12_body yX12_body, .methodLink RX12 337 yX12_fail, .instanceMethod yX12_fail, .selects RX12 yX12_fail yX12_fail]
def wzX12_label : List Cond := .code yX12_label cX12_label 7 none :: (woX12_label ++ (wsX120 ++ (wzX12_goal ++ (wzX12_next ++ (wzX12_body ++ (wzX12_fail ++ []))))))
theorem wgX12_label : ∀ w ∈ wzX12_label, goodWord w = true := zg_cons rfl (zg_app (zg_lit (by decide +kernel)) (zg_app wgcX12 (zg_app wgX12_goal (zg_app wgX12_next (zg_app wgX12_body (zg_app wgX12_fail zg_nil))))))
def woX12_got : List Cond := [.fieldLink RX12 132 "StatementRules2Model" "seenCaught" "[Z", .fieldLink RX12 129 "StatementRules2Model" "seenSlot" "[I", .methodLink RX12 471 yX12_seenAs, .instanceMethod yX12_seenAs, .selects RX12 yX12_seenAs yX12_seenAs, .initialized RX12, .methodLink RX12 337 yX12_fail, .instanceMethod yX12_fail, .selects RX12 yX12_fail yX12_fail]
def wzX12_got : List Cond := .code yX12_got cX12_got 5 (some .int) :: (woX12_got ++ (wsX120 ++ (wzX12_seenAs ++ (wzX12_fail ++ []))))
theorem wgX12_got : ∀ w ∈ wzX12_got, goodWord w = true := zg_cons rfl (zg_app (zg_lit (by decide +kernel)) (zg_app wgcX12 (zg_app wgX12_seenAs (zg_app wgX12_fail zg_nil))))
def woX12_named : List Cond := [.fieldLink RX12 177 "StatementRules2Model" "fs" "[I", .fieldLink RX12 327 "StatementRules2Model" "name" "J", .fieldLink RX12 304 "StatementRules2Model" "from" "I", .fieldLink RX12 307 "StatementRules2Model" "tok" "I", .fieldLink RX12 291 "StatementRules2Model" "fault" "I", .fieldLink RX12 180 "StatementRules2Model" "fp" "[I", .fieldLink RX12 147 "StatementRules2Model" "breaks" "[I", .fieldLink RX12 358 "StatementRules2Model" "codes" "I", .fieldLink RX12 367 "StatementRules2Model" "goals" "I", .fieldLink RX12 396 "StatementRules2Model" "res" "Z", .fieldLink RX12 153 "StatementRules2Model" "broken" "[Z", .methodLink RX12 345 yX12_next, .instanceMethod yX12_next, .selects RX12 yX12_next yX12_next, .initialized RX12, .methodLink RX12 517 yX12_got, .instanceMethod yX12_got, .selects RX12 yX12_got yX12_got, .methodLink RX12 341 yX12_can, .instanceMethod yX12_can, .selects RX12 yX12_can yX12_can, .methodLink RX12 464 yX12_emit, .instanceMethod yX12_emit, .selects RX12 yX12_emit yX12_emit, .methodLink RX12 393 yX12_then, .instanceMethod yX12_then, .selects RX12 yX12_then yX12_then, .methodLink RX12 355 yX12_need, .instanceMethod yX12_need, .selects RX12 yX12_need yX12_need, .methodLink RX12 490 yX12_over, .instanceMethod yX12_over, .selects RX12 yX12_over yX12_over, .methodLink RX12 513 yX12_label, .instanceMethod yX12_label, .selects RX12 yX12_label yX12_label, .methodLink RX12 510 yX12_patch, .instanceMethod yX12_patch, .selects RX12 yX12_patch yX12_patch]
def wzX12_named : List Cond := .code yX12_named cX12_named 7 none :: (woX12_named ++ (wsX120 ++ (wzX12_next ++ (wzX12_got ++ (wzX12_can ++ (wzX12_emit ++ (wzX12_then ++ (wzX12_need ++ (wzX12_over ++ (wzX12_label ++ (wzX12_patch ++ [])))))))))))
theorem wgX12_named : ∀ w ∈ wzX12_named, goodWord w = true := zg_cons rfl (zg_app (zg_lit (by decide +kernel)) (zg_app wgcX12 (zg_app wgX12_next (zg_app wgX12_got (zg_app wgX12_can (zg_app wgX12_emit (zg_app wgX12_then (zg_app wgX12_need (zg_app wgX12_over (zg_app wgX12_label (zg_app wgX12_patch zg_nil)))))))))))
def woX12_isInArms : List Cond := [.fieldLink RX12 367 "StatementRules2Model" "goals" "I", .fieldLink RX12 135 "StatementRules2Model" "goalSort" "[I"]
def wzX12_isInArms : List Cond := .code yX12_isInArms cX12_isInArms 2 (some .boolean) :: (woX12_isInArms ++ (wsX120 ++ []))
theorem wgX12_isInArms : ∀ w ∈ wzX12_isInArms, goodWord w = true := zg_cons rfl (zg_app (zg_lit (by decide +kernel)) (zg_app wgcX12 zg_nil))
def woX12_ending : List Cond := [.fieldLink RX12 177 "StatementRules2Model" "fs" "[I", .fieldLink RX12 180 "StatementRules2Model" "fp" "[I", .fieldLink RX12 367 "StatementRules2Model" "goals" "I", .fieldLink RX12 90 "StatementRules2Model" "iy" "[I", .fieldLink RX12 135 "StatementRules2Model" "goalSort" "[I", .fieldLink RX12 144 "StatementRules2Model" "goalDepth" "[I", .fieldLink RX12 307 "StatementRules2Model" "tok" "I", .fieldLink RX12 304 "StatementRules2Model" "from" "I", .methodLink RX12 464 yX12_emit, .instanceMethod yX12_emit, .selects RX12 yX12_emit yX12_emit, .initialized RX12, .methodLink RX12 355 yX12_need, .instanceMethod yX12_need, .selects RX12 yX12_need yX12_need, .methodLink RX12 490 yX12_over, .instanceMethod yX12_over, .selects RX12 yX12_over yX12_over, .methodLink RX12 345 yX12_next, .instanceMethod yX12_next, .selects RX12 yX12_next yX12_next, .methodLink RX12 393 yX12_then, .instanceMethod yX12_then, .selects RX12 yX12_then yX12_then, .methodLink RX12 524 yX12_isInArms, .instanceMethod yX12_isInArms, .selects RX12 yX12_isInArms yX12_isInArms, .methodLink RX12 337 yX12_fail, .instanceMethod yX12_fail, .selects RX12 yX12_fail yX12_fail]
def wzX12_ending : List Cond := .code yX12_ending cX12_ending 4 none :: (woX12_ending ++ (wsX120 ++ (wzX12_emit ++ (wzX12_need ++ (wzX12_over ++ (wzX12_next ++ (wzX12_then ++ (wzX12_isInArms ++ (wzX12_fail ++ [])))))))))
theorem wgX12_ending : ∀ w ∈ wzX12_ending, goodWord w = true := zg_cons rfl (zg_app (zg_lit (by decide +kernel)) (zg_app wgcX12 (zg_app wgX12_emit (zg_app wgX12_need (zg_app wgX12_over (zg_app wgX12_next (zg_app wgX12_then (zg_app wgX12_isInArms (zg_app wgX12_fail zg_nil)))))))))
def woX12_throwing : List Cond := [.fieldLink RX12 177 "StatementRules2Model" "fs" "[I", .fieldLink RX12 307 "StatementRules2Model" "tok" "I", .fieldLink RX12 327 "StatementRules2Model" "name" "J", .fieldLink RX12 304 "StatementRules2Model" "from" "I", .fieldLink RX12 132 "StatementRules2Model" "seenCaught" "[Z", .fieldLink RX12 129 "StatementRules2Model" "seenSlot" "[I", .fieldLink RX12 314 "StatementRules2Model" "number" "I", .fieldLink RX12 13 "StatementRules2Model" "kinds" "I", .fieldLink RX12 180 "StatementRules2Model" "fp" "[I", .methodLink RX12 345 yX12_next, .instanceMethod yX12_next, .selects RX12 yX12_next yX12_next, .initialized RX12, .methodLink RX12 341 yX12_can, .instanceMethod yX12_can, .selects RX12 yX12_can yX12_can, .methodLink RX12 471 yX12_seenAs, .instanceMethod yX12_seenAs, .selects RX12 yX12_seenAs yX12_seenAs, .methodLink RX12 337 yX12_fail, .instanceMethod yX12_fail, .selects RX12 yX12_fail yX12_fail, .methodLink RX12 464 yX12_emit, .instanceMethod yX12_emit, .selects RX12 yX12_emit yX12_emit, .methodLink RX12 355 yX12_need, .instanceMethod yX12_need, .selects RX12 yX12_need yX12_need, .methodLink RX12 490 yX12_over, .instanceMethod yX12_over, .selects RX12 yX12_over yX12_over, .methodLink RX12 393 yX12_then, .instanceMethod yX12_then, .selects RX12 yX12_then yX12_then]
def wzX12_throwing : List Cond := .code yX12_throwing cX12_throwing 3 none :: (woX12_throwing ++ (wsX120 ++ (wzX12_next ++ (wzX12_can ++ (wzX12_seenAs ++ (wzX12_fail ++ (wzX12_emit ++ (wzX12_need ++ (wzX12_over ++ (wzX12_then ++ []))))))))))
theorem wgX12_throwing : ∀ w ∈ wzX12_throwing, goodWord w = true := zg_cons rfl (zg_app (zg_lit (by decide +kernel)) (zg_app wgcX12 (zg_app wgX12_next (zg_app wgX12_can (zg_app wgX12_seenAs (zg_app wgX12_fail (zg_app wgX12_emit (zg_app wgX12_need (zg_app wgX12_over (zg_app wgX12_then zg_nil))))))))))
def woX12_asserted : List Cond := [.fieldLink RX12 177 "StatementRules2Model" "fs" "[I", .fieldLink RX12 180 "StatementRules2Model" "fp" "[I", .fieldLink RX12 183 "StatementRules2Model" "fq" "[I", .fieldLink RX12 307 "StatementRules2Model" "tok" "I", .fieldLink RX12 87 "StatementRules2Model" "ix" "[I", .fieldLink RX12 358 "StatementRules2Model" "codes" "I", .methodLink RX12 345 yX12_next, .instanceMethod yX12_next, .selects RX12 yX12_next yX12_next, .initialized RX12, .methodLink RX12 464 yX12_emit, .instanceMethod yX12_emit, .selects RX12 yX12_emit yX12_emit, .methodLink RX12 393 yX12_then, .instanceMethod yX12_then, .selects RX12 yX12_then yX12_then, .methodLink RX12 355 yX12_need, .instanceMethod yX12_need, .selects RX12 yX12_need yX12_need, .methodLink RX12 490 yX12_over, .instanceMethod yX12_over, .selects RX12 yX12_over yX12_over]
def wzX12_asserted : List Cond := .code yX12_asserted cX12_asserted 2 none :: (woX12_asserted ++ (wsX120 ++ (wzX12_next ++ (wzX12_emit ++ (wzX12_then ++ (wzX12_need ++ (wzX12_over ++ [])))))))
theorem wgX12_asserted : ∀ w ∈ wzX12_asserted, goodWord w = true := zg_cons rfl (zg_app (zg_lit (by decide +kernel)) (zg_app wgcX12 (zg_app wgX12_next (zg_app wgX12_emit (zg_app wgX12_then (zg_app wgX12_need (zg_app wgX12_over zg_nil)))))))
def woX12_branch : List Cond := [.fieldLink RX12 177 "StatementRules2Model" "fs" "[I", .fieldLink RX12 180 "StatementRules2Model" "fp" "[I", .fieldLink RX12 307 "StatementRules2Model" "tok" "I", .fieldLink RX12 87 "StatementRules2Model" "ix" "[I", .fieldLink RX12 358 "StatementRules2Model" "codes" "I", .fieldLink RX12 183 "StatementRules2Model" "fq" "[I", .fieldLink RX12 396 "StatementRules2Model" "res" "Z", .fieldLink RX12 186 "StatementRules2Model" "fr" "[I", .methodLink RX12 345 yX12_next, .instanceMethod yX12_next, .selects RX12 yX12_next yX12_next, .initialized RX12, .methodLink RX12 475 yX12_open, .instanceMethod yX12_open, .selects RX12 yX12_open yX12_open, .methodLink RX12 393 yX12_then, .instanceMethod yX12_then, .selects RX12 yX12_then yX12_then, .methodLink RX12 468 yX12_shut, .instanceMethod yX12_shut, .selects RX12 yX12_shut yX12_shut, .methodLink RX12 464 yX12_emit, .instanceMethod yX12_emit, .selects RX12 yX12_emit yX12_emit, .methodLink RX12 521 yX12_body, .instanceMethod yX12_body, .selects RX12 yX12_body yX12_body, .methodLink RX12 490 yX12_over, .instanceMethod yX12_over, .selects RX12 yX12_over yX12_over]
def wzX12_branch : List Cond := .code yX12_branch cX12_branch 2 none :: (woX12_branch ++ (wsX120 ++ (wzX12_next ++ (wzX12_open ++ (wzX12_then ++ (wzX12_shut ++ (wzX12_emit ++ (wzX12_body ++ (wzX12_over ++ [])))))))))
theorem wgX12_branch : ∀ w ∈ wzX12_branch, goodWord w = true := zg_cons rfl (zg_app (zg_lit (by decide +kernel)) (zg_app wgcX12 (zg_app wgX12_next (zg_app wgX12_open (zg_app wgX12_then (zg_app wgX12_shut (zg_app wgX12_emit (zg_app wgX12_body (zg_app wgX12_over zg_nil)))))))))
def woX12_isJustTrue : List Cond := [.fieldLink RX12 294 "StatementRules2Model" "tokens" "I"]
def wzX12_isJustTrue : List Cond := .code yX12_isJustTrue cX12_isJustTrue 2 (some .boolean) :: (woX12_isJustTrue ++ (wsX120 ++ []))
theorem wgX12_isJustTrue : ∀ w ∈ wzX12_isJustTrue, goodWord w = true := zg_cons rfl (zg_app (zg_lit (by decide +kernel)) (zg_app wgcX12 zg_nil))
def woX12_whiles : List Cond := [.fieldLink RX12 177 "StatementRules2Model" "fs" "[I", .fieldLink RX12 180 "StatementRules2Model" "fp" "[I", .fieldLink RX12 358 "StatementRules2Model" "codes" "I", .fieldLink RX12 189 "StatementRules2Model" "fv" "[I", .fieldLink RX12 307 "StatementRules2Model" "tok" "I", .fieldLink RX12 294 "StatementRules2Model" "tokens" "I", .fieldLink RX12 195 "StatementRules2Model" "fx" "[I", .fieldLink RX12 183 "StatementRules2Model" "fq" "[I", .fieldLink RX12 186 "StatementRules2Model" "fr" "[I", .fieldLink RX12 150 "StatementRules2Model" "continues" "[I", .fieldLink RX12 87 "StatementRules2Model" "ix" "[I", .fieldLink RX12 147 "StatementRules2Model" "breaks" "[I", .fieldLink RX12 367 "StatementRules2Model" "goals" "I", .fieldLink RX12 153 "StatementRules2Model" "broken" "[Z", .methodLink RX12 345 yX12_next, .instanceMethod yX12_next, .selects RX12 yX12_next yX12_next, .initialized RX12, .methodLink RX12 475 yX12_open, .instanceMethod yX12_open, .selects RX12 yX12_open yX12_open, .methodLink RX12 393 yX12_then, .instanceMethod yX12_then, .selects RX12 yX12_then yX12_then, .methodLink RX12 533 yX12_isJustTrue, .instanceMethod yX12_isJustTrue, .selects RX12 yX12_isJustTrue yX12_isJustTrue, .methodLink RX12 468 yX12_shut, .instanceMethod yX12_shut, .selects RX12 yX12_shut yX12_shut, .methodLink RX12 464 yX12_emit, .instanceMethod yX12_emit, .selects RX12 yX12_emit yX12_emit, .methodLink RX12 536 yX12_loopGoal, .instanceMethod yX12_loopGoal, .selects RX12 yX12_loopGoal yX12_loopGoal, .methodLink RX12 521 yX12_body, .instanceMethod yX12_body, .selects RX12 yX12_body yX12_body, .methodLink RX12 510 yX12_patch, .instanceMethod yX12_patch, .selects RX12 yX12_patch yX12_patch, .methodLink RX12 490 yX12_over, .instanceMethod yX12_over, .selects RX12 yX12_over yX12_over]
def wzX12_whiles : List Cond := .code yX12_whiles cX12_whiles 3 none :: (woX12_whiles ++ (wsX120 ++ (wzX12_next ++ (wzX12_open ++ (wzX12_then ++ (wzX12_isJustTrue ++ (wzX12_shut ++ (wzX12_emit ++ (wzX12_loopGoal ++ (wzX12_body ++ (wzX12_patch ++ (wzX12_over ++ []))))))))))))
theorem wgX12_whiles : ∀ w ∈ wzX12_whiles, goodWord w = true := zg_cons rfl (zg_app (zg_lit (by decide +kernel)) (zg_app wgcX12 (zg_app wgX12_next (zg_app wgX12_open (zg_app wgX12_then (zg_app wgX12_isJustTrue (zg_app wgX12_shut (zg_app wgX12_emit (zg_app wgX12_loopGoal (zg_app wgX12_body (zg_app wgX12_patch (zg_app wgX12_over zg_nil))))))))))))
def woX12_repeats : List Cond := [.fieldLink RX12 177 "StatementRules2Model" "fs" "[I", .fieldLink RX12 180 "StatementRules2Model" "fp" "[I", .fieldLink RX12 186 "StatementRules2Model" "fr" "[I", .fieldLink RX12 150 "StatementRules2Model" "continues" "[I", .fieldLink RX12 358 "StatementRules2Model" "codes" "I", .fieldLink RX12 183 "StatementRules2Model" "fq" "[I", .fieldLink RX12 396 "StatementRules2Model" "res" "Z", .fieldLink RX12 198 "StatementRules2Model" "fy" "[I", .fieldLink RX12 153 "StatementRules2Model" "broken" "[Z", .fieldLink RX12 192 "StatementRules2Model" "fw" "[I", .fieldLink RX12 147 "StatementRules2Model" "breaks" "[I", .fieldLink RX12 367 "StatementRules2Model" "goals" "I", .fieldLink RX12 189 "StatementRules2Model" "fv" "[I", .fieldLink RX12 307 "StatementRules2Model" "tok" "I", .fieldLink RX12 294 "StatementRules2Model" "tokens" "I", .fieldLink RX12 156 "StatementRules2Model" "continued" "[Z", .methodLink RX12 345 yX12_next, .instanceMethod yX12_next, .selects RX12 yX12_next yX12_next, .initialized RX12, .methodLink RX12 464 yX12_emit, .instanceMethod yX12_emit, .selects RX12 yX12_emit yX12_emit, .methodLink RX12 536 yX12_loopGoal, .instanceMethod yX12_loopGoal, .selects RX12 yX12_loopGoal yX12_loopGoal, .methodLink RX12 521 yX12_body, .instanceMethod yX12_body, .selects RX12 yX12_body yX12_body, .methodLink RX12 510 yX12_patch, .instanceMethod yX12_patch, .selects RX12 yX12_patch yX12_patch, .methodLink RX12 355 yX12_need, .instanceMethod yX12_need, .selects RX12 yX12_need yX12_need, .methodLink RX12 475 yX12_open, .instanceMethod yX12_open, .selects RX12 yX12_open yX12_open, .methodLink RX12 393 yX12_then, .instanceMethod yX12_then, .selects RX12 yX12_then yX12_then, .methodLink RX12 533 yX12_isJustTrue, .instanceMethod yX12_isJustTrue, .selects RX12 yX12_isJustTrue yX12_isJustTrue, .methodLink RX12 468 yX12_shut, .instanceMethod yX12_shut, .selects RX12 yX12_shut yX12_shut, .methodLink RX12 490 yX12_over, .instanceMethod yX12_over, .selects RX12 yX12_over yX12_over]
def wzX12_repeats : List Cond := .code yX12_repeats cX12_repeats 4 none :: (woX12_repeats ++ (wsX120 ++ (wzX12_next ++ (wzX12_emit ++ (wzX12_loopGoal ++ (wzX12_body ++ (wzX12_patch ++ (wzX12_need ++ (wzX12_open ++ (wzX12_then ++ (wzX12_isJustTrue ++ (wzX12_shut ++ (wzX12_over ++ [])))))))))))))
theorem wgX12_repeats : ∀ w ∈ wzX12_repeats, goodWord w = true := zg_cons rfl (zg_app (zg_lit (by decide +kernel)) (zg_app wgcX12 (zg_app wgX12_next (zg_app wgX12_emit (zg_app wgX12_loopGoal (zg_app wgX12_body (zg_app wgX12_patch (zg_app wgX12_need (zg_app wgX12_open (zg_app wgX12_then (zg_app wgX12_isJustTrue (zg_app wgX12_shut (zg_app wgX12_over zg_nil)))))))))))))
def woX12_forHead : List Cond := [.fieldLink RX12 291 "StatementRules2Model" "fault" "I", .fieldLink RX12 307 "StatementRules2Model" "tok" "I", .fieldLink RX12 177 "StatementRules2Model" "fs" "[I", .fieldLink RX12 180 "StatementRules2Model" "fp" "[I", .fieldLink RX12 327 "StatementRules2Model" "name" "J", .fieldLink RX12 304 "StatementRules2Model" "from" "I", .fieldLink RX12 186 "StatementRules2Model" "fr" "[I", .methodLink RX12 341 yX12_can, .instanceMethod yX12_can, .selects RX12 yX12_can yX12_can, .initialized RX12, .methodLink RX12 517 yX12_got, .instanceMethod yX12_got, .selects RX12 yX12_got yX12_got, .methodLink RX12 345 yX12_next, .instanceMethod yX12_next, .selects RX12 yX12_next yX12_next, .methodLink RX12 393 yX12_then, .instanceMethod yX12_then, .selects RX12 yX12_then yX12_then, .methodLink RX12 503 yX12_telling, .instanceMethod yX12_telling, .selects RX12 yX12_telling yX12_telling, .methodLink RX12 464 yX12_emit, .instanceMethod yX12_emit, .selects RX12 yX12_emit yX12_emit]
def wzX12_forHead : List Cond := .code yX12_forHead cX12_forHead 3 none :: (woX12_forHead ++ (wsX120 ++ (wzX12_can ++ (wzX12_got ++ (wzX12_next ++ (wzX12_then ++ (wzX12_telling ++ (wzX12_emit ++ []))))))))
theorem wgX12_forHead : ∀ w ∈ wzX12_forHead, goodWord w = true := zg_cons rfl (zg_app (zg_lit (by decide +kernel)) (zg_app wgcX12 (zg_app wgX12_can (zg_app wgX12_got (zg_app wgX12_next (zg_app wgX12_then (zg_app wgX12_telling (zg_app wgX12_emit zg_nil))))))))
def woX12_forBehind : List Cond := [.fieldLink RX12 183 "StatementRules2Model" "fq" "[I", .fieldLink RX12 186 "StatementRules2Model" "fr" "[I", .fieldLink RX12 192 "StatementRules2Model" "fw" "[I", .fieldLink RX12 358 "StatementRules2Model" "codes" "I", .fieldLink RX12 291 "StatementRules2Model" "fault" "I", .fieldLink RX12 177 "StatementRules2Model" "fs" "[I", .fieldLink RX12 307 "StatementRules2Model" "tok" "I", .fieldLink RX12 201 "StatementRules2Model" "fz" "[I", .fieldLink RX12 327 "StatementRules2Model" "name" "J", .fieldLink RX12 304 "StatementRules2Model" "from" "I", .methodLink RX12 355 yX12_need, .instanceMethod yX12_need, .selects RX12 yX12_need yX12_need, .initialized RX12, .methodLink RX12 464 yX12_emit, .instanceMethod yX12_emit, .selects RX12 yX12_emit yX12_emit, .methodLink RX12 341 yX12_can, .instanceMethod yX12_can, .selects RX12 yX12_can yX12_can, .methodLink RX12 517 yX12_got, .instanceMethod yX12_got, .selects RX12 yX12_got yX12_got, .methodLink RX12 345 yX12_next, .instanceMethod yX12_next, .selects RX12 yX12_next yX12_next, .methodLink RX12 393 yX12_then, .instanceMethod yX12_then, .selects RX12 yX12_then yX12_then]
def wzX12_forBehind : List Cond := .code yX12_forBehind cX12_forBehind 3 none :: (woX12_forBehind ++ (wsX120 ++ (wzX12_need ++ (wzX12_emit ++ (wzX12_can ++ (wzX12_got ++ (wzX12_next ++ (wzX12_then ++ []))))))))
theorem wgX12_forBehind : ∀ w ∈ wzX12_forBehind, goodWord w = true := zg_cons rfl (zg_app (zg_lit (by decide +kernel)) (zg_app wgcX12 (zg_app wgX12_need (zg_app wgX12_emit (zg_app wgX12_can (zg_app wgX12_got (zg_app wgX12_next (zg_app wgX12_then zg_nil))))))))
def woX12_rows : List Cond := [.fieldLink RX12 177 "StatementRules2Model" "fs" "[I", .fieldLink RX12 201 "StatementRules2Model" "fz" "[I", .fieldLink RX12 150 "StatementRules2Model" "continues" "[I", .fieldLink RX12 180 "StatementRules2Model" "fp" "[I", .fieldLink RX12 87 "StatementRules2Model" "ix" "[I", .fieldLink RX12 358 "StatementRules2Model" "codes" "I", .fieldLink RX12 147 "StatementRules2Model" "breaks" "[I", .fieldLink RX12 370 "StatementRules2Model" "depth" "I", .fieldLink RX12 367 "StatementRules2Model" "goals" "I", .fieldLink RX12 195 "StatementRules2Model" "fx" "[I", .fieldLink RX12 361 "StatementRules2Model" "seen" "I", .fieldLink RX12 204 "StatementRules2Model" "fn" "[J", .fieldLink RX12 90 "StatementRules2Model" "iy" "[I", .fieldLink RX12 186 "StatementRules2Model" "fr" "[I", .fieldLink RX12 307 "StatementRules2Model" "tok" "I", .methodLink RX12 510 yX12_patch, .instanceMethod yX12_patch, .selects RX12 yX12_patch yX12_patch, .initialized RX12, .methodLink RX12 464 yX12_emit, .instanceMethod yX12_emit, .selects RX12 yX12_emit yX12_emit, .methodLink RX12 490 yX12_over, .instanceMethod yX12_over, .selects RX12 yX12_over yX12_over, .methodLink RX12 506 yX12_see, .instanceMethod yX12_see, .selects RX12 yX12_see yX12_see, .methodLink RX12 468 yX12_shut, .instanceMethod yX12_shut, .selects RX12 yX12_shut yX12_shut, .methodLink RX12 536 yX12_loopGoal, .instanceMethod yX12_loopGoal, .selects RX12 yX12_loopGoal yX12_loopGoal, .methodLink RX12 521 yX12_body, .instanceMethod yX12_body, .selects RX12 yX12_body yX12_body, .methodLink RX12 345 yX12_next, .instanceMethod yX12_next, .selects RX12 yX12_next yX12_next, .methodLink RX12 393 yX12_then, .instanceMethod yX12_then, .selects RX12 yX12_then yX12_then]
def wzX12_rows : List Cond := .code yX12_rows cX12_rows 3 none :: (woX12_rows ++ (wsX120 ++ (wzX12_patch ++ (wzX12_emit ++ (wzX12_over ++ (wzX12_see ++ (wzX12_shut ++ (wzX12_loopGoal ++ (wzX12_body ++ (wzX12_next ++ (wzX12_then ++ [])))))))))))
theorem wgX12_rows : ∀ w ∈ wzX12_rows, goodWord w = true := zg_cons rfl (zg_app (zg_lit (by decide +kernel)) (zg_app wgcX12 (zg_app wgX12_patch (zg_app wgX12_emit (zg_app wgX12_over (zg_app wgX12_see (zg_app wgX12_shut (zg_app wgX12_loopGoal (zg_app wgX12_body (zg_app wgX12_next (zg_app wgX12_then zg_nil)))))))))))
def woX12_fors : List Cond := [.fieldLink RX12 177 "StatementRules2Model" "fs" "[I", .fieldLink RX12 195 "StatementRules2Model" "fx" "[I", .fieldLink RX12 361 "StatementRules2Model" "seen" "I", .fieldLink RX12 204 "StatementRules2Model" "fn" "[J", .fieldLink RX12 180 "StatementRules2Model" "fp" "[I", .fieldLink RX12 358 "StatementRules2Model" "codes" "I", .fieldLink RX12 189 "StatementRules2Model" "fv" "[I", .fieldLink RX12 307 "StatementRules2Model" "tok" "I", .fieldLink RX12 198 "StatementRules2Model" "fy" "[I", .fieldLink RX12 294 "StatementRules2Model" "tokens" "I", .fieldLink RX12 201 "StatementRules2Model" "fz" "[I", .fieldLink RX12 87 "StatementRules2Model" "ix" "[I", .fieldLink RX12 186 "StatementRules2Model" "fr" "[I", .fieldLink RX12 150 "StatementRules2Model" "continues" "[I", .fieldLink RX12 192 "StatementRules2Model" "fw" "[I", .fieldLink RX12 183 "StatementRules2Model" "fq" "[I", .fieldLink RX12 147 "StatementRules2Model" "breaks" "[I", .fieldLink RX12 367 "StatementRules2Model" "goals" "I", .fieldLink RX12 153 "StatementRules2Model" "broken" "[Z", .methodLink RX12 345 yX12_next, .instanceMethod yX12_next, .selects RX12 yX12_next yX12_next, .initialized RX12, .methodLink RX12 475 yX12_open, .instanceMethod yX12_open, .selects RX12 yX12_open yX12_open, .methodLink RX12 540 yX12_forHead, .instanceMethod yX12_forHead, .selects RX12 yX12_forHead yX12_forHead, .methodLink RX12 506 yX12_see, .instanceMethod yX12_see, .selects RX12 yX12_see yX12_see, .methodLink RX12 464 yX12_emit, .instanceMethod yX12_emit, .selects RX12 yX12_emit yX12_emit, .methodLink RX12 355 yX12_need, .instanceMethod yX12_need, .selects RX12 yX12_need yX12_need, .methodLink RX12 393 yX12_then, .instanceMethod yX12_then, .selects RX12 yX12_then yX12_then, .methodLink RX12 533 yX12_isJustTrue, .instanceMethod yX12_isJustTrue, .selects RX12 yX12_isJustTrue yX12_isJustTrue, .methodLink RX12 543 yX12_forBehind, .instanceMethod yX12_forBehind, .selects RX12 yX12_forBehind yX12_forBehind, .methodLink RX12 468 yX12_shut, .instanceMethod yX12_shut, .selects RX12 yX12_shut yX12_shut, .methodLink RX12 536 yX12_loopGoal, .instanceMethod yX12_loopGoal, .selects RX12 yX12_loopGoal yX12_loopGoal, .methodLink RX12 521 yX12_body, .instanceMethod yX12_body, .selects RX12 yX12_body yX12_body, .methodLink RX12 510 yX12_patch, .instanceMethod yX12_patch, .selects RX12 yX12_patch yX12_patch, .methodLink RX12 490 yX12_over, .instanceMethod yX12_over, .selects RX12 yX12_over yX12_over, .methodLink RX12 546 yX12_rows, .instanceMethod yX12_rows, .selects RX12 yX12_rows yX12_rows]
def wzX12_fors : List Cond := .code yX12_fors cX12_fors 3 none :: (woX12_fors ++ (wsX120 ++ (wzX12_next ++ (wzX12_open ++ (wzX12_forHead ++ (wzX12_see ++ (wzX12_emit ++ (wzX12_need ++ (wzX12_then ++ (wzX12_isJustTrue ++ (wzX12_forBehind ++ (wzX12_shut ++ (wzX12_loopGoal ++ (wzX12_body ++ (wzX12_patch ++ (wzX12_over ++ (wzX12_rows ++ [])))))))))))))))))
theorem wgX12_fors : ∀ w ∈ wzX12_fors, goodWord w = true := zg_cons rfl (zg_app (zg_lit (by decide +kernel)) (zg_app wgcX12 (zg_app wgX12_next (zg_app wgX12_open (zg_app wgX12_forHead (zg_app wgX12_see (zg_app wgX12_emit (zg_app wgX12_need (zg_app wgX12_then (zg_app wgX12_isJustTrue (zg_app wgX12_forBehind (zg_app wgX12_shut (zg_app wgX12_loopGoal (zg_app wgX12_body (zg_app wgX12_patch (zg_app wgX12_over (zg_app wgX12_rows zg_nil)))))))))))))))))
def woX12_lock : List Cond := [.fieldLink RX12 177 "StatementRules2Model" "fs" "[I", .fieldLink RX12 370 "StatementRules2Model" "depth" "I", .fieldLink RX12 387 "StatementRules2Model" "top" "I", .fieldLink RX12 307 "StatementRules2Model" "tok" "I", .fieldLink RX12 314 "StatementRules2Model" "number" "I", .methodLink RX12 464 yX12_emit, .instanceMethod yX12_emit, .selects RX12 yX12_emit yX12_emit, .initialized RX12, .methodLink RX12 345 yX12_next, .instanceMethod yX12_next, .selects RX12 yX12_next yX12_next, .methodLink RX12 475 yX12_open, .instanceMethod yX12_open, .selects RX12 yX12_open yX12_open, .methodLink RX12 341 yX12_can, .instanceMethod yX12_can, .selects RX12 yX12_can yX12_can, .methodLink RX12 468 yX12_shut, .instanceMethod yX12_shut, .selects RX12 yX12_shut yX12_shut, .methodLink RX12 393 yX12_then, .instanceMethod yX12_then, .selects RX12 yX12_then yX12_then]
def wzX12_lock : List Cond := .code yX12_lock cX12_lock 2 none :: (woX12_lock ++ (wsX120 ++ (wzX12_emit ++ (wzX12_next ++ (wzX12_open ++ (wzX12_can ++ (wzX12_shut ++ (wzX12_then ++ []))))))))
theorem wgX12_lock : ∀ w ∈ wzX12_lock, goodWord w = true := zg_cons rfl (zg_app (zg_lit (by decide +kernel)) (zg_app wgcX12 (zg_app wgX12_emit (zg_app wgX12_next (zg_app wgX12_open (zg_app wgX12_can (zg_app wgX12_shut (zg_app wgX12_then zg_nil))))))))
def woX12_entry : List Cond := [.fieldLink RX12 93 "StatementRules2Model" "entryValue" "[I", .fieldLink RX12 478 "StatementRules2Model" "entries" "I", .fieldLink RX12 96 "StatementRules2Model" "entryAt" "[I", .fieldLink RX12 358 "StatementRules2Model" "codes" "I", .fieldLink RX12 99 "StatementRules2Model" "entryNext" "[I", .fieldLink RX12 102 "StatementRules2Model" "entryElse" "[Z", .fieldLink RX12 183 "StatementRules2Model" "fq" "[I", .fieldLink RX12 87 "StatementRules2Model" "ix" "[I", .fieldLink RX12 180 "StatementRules2Model" "fp" "[I"]
def wzX12_entry : List Cond := .code yX12_entry cX12_entry 4 none :: (woX12_entry ++ (wsX120 ++ []))
theorem wgX12_entry : ∀ w ∈ wzX12_entry, goodWord w = true := zg_cons rfl (zg_app (zg_lit (by decide +kernel)) (zg_app wgcX12 zg_nil))
def woX12_caseNumber : List Cond := [.fieldLink RX12 307 "StatementRules2Model" "tok" "I", .fieldLink RX12 314 "StatementRules2Model" "number" "I", .fieldLink RX12 87 "StatementRules2Model" "ix" "[I", .fieldLink RX12 180 "StatementRules2Model" "fp" "[I", .fieldLink RX12 291 "StatementRules2Model" "fault" "I", .fieldLink RX12 102 "StatementRules2Model" "entryElse" "[Z", .fieldLink RX12 99 "StatementRules2Model" "entryNext" "[I", .fieldLink RX12 93 "StatementRules2Model" "entryValue" "[I", .fieldLink RX12 304 "StatementRules2Model" "from" "I", .methodLink RX12 341 yX12_can, .instanceMethod yX12_can, .selects RX12 yX12_can yX12_can, .initialized RX12, .methodLink RX12 481 yX12_entry, .instanceMethod yX12_entry, .selects RX12 yX12_entry yX12_entry, .methodLink RX12 345 yX12_next, .instanceMethod yX12_next, .selects RX12 yX12_next yX12_next, .methodLink RX12 337 yX12_fail, .instanceMethod yX12_fail, .selects RX12 yX12_fail yX12_fail]
def wzX12_caseNumber : List Cond := .code yX12_caseNumber cX12_caseNumber 5 (some .boolean) :: (woX12_caseNumber ++ (wsX120 ++ (wzX12_can ++ (wzX12_entry ++ (wzX12_next ++ (wzX12_fail ++ []))))))
theorem wgX12_caseNumber : ∀ w ∈ wzX12_caseNumber, goodWord w = true := zg_cons rfl (zg_app (zg_lit (by decide +kernel)) (zg_app wgcX12 (zg_app wgX12_can (zg_app wgX12_entry (zg_app wgX12_next (zg_app wgX12_fail zg_nil))))))
def woX12_groups : List Cond := [.fieldLink RX12 177 "StatementRules2Model" "fs" "[I", .fieldLink RX12 180 "StatementRules2Model" "fp" "[I", .fieldLink RX12 183 "StatementRules2Model" "fq" "[I", .fieldLink RX12 186 "StatementRules2Model" "fr" "[I", .fieldLink RX12 192 "StatementRules2Model" "fw" "[I", .fieldLink RX12 195 "StatementRules2Model" "fx" "[I", .fieldLink RX12 361 "StatementRules2Model" "seen" "I", .fieldLink RX12 198 "StatementRules2Model" "fy" "[I", .fieldLink RX12 307 "StatementRules2Model" "tok" "I", .fieldLink RX12 90 "StatementRules2Model" "iy" "[I", .fieldLink RX12 358 "StatementRules2Model" "codes" "I", .fieldLink RX12 147 "StatementRules2Model" "breaks" "[I", .fieldLink RX12 367 "StatementRules2Model" "goals" "I", .fieldLink RX12 153 "StatementRules2Model" "broken" "[Z", .fieldLink RX12 304 "StatementRules2Model" "from" "I", .fieldLink RX12 396 "StatementRules2Model" "res" "Z", .methodLink RX12 345 yX12_next, .instanceMethod yX12_next, .selects RX12 yX12_next yX12_next, .initialized RX12, .methodLink RX12 475 yX12_open, .instanceMethod yX12_open, .selects RX12 yX12_open yX12_open, .methodLink RX12 393 yX12_then, .instanceMethod yX12_then, .selects RX12 yX12_then yX12_then, .methodLink RX12 468 yX12_shut, .instanceMethod yX12_shut, .selects RX12 yX12_shut yX12_shut, .methodLink RX12 464 yX12_emit, .instanceMethod yX12_emit, .selects RX12 yX12_emit yX12_emit, .methodLink RX12 373 yX12_goal, .instanceMethod yX12_goal, .selects RX12 yX12_goal yX12_goal, .methodLink RX12 510 yX12_patch, .instanceMethod yX12_patch, .selects RX12 yX12_patch yX12_patch, .methodLink RX12 490 yX12_over, .instanceMethod yX12_over, .selects RX12 yX12_over yX12_over, .methodLink RX12 481 yX12_entry, .instanceMethod yX12_entry, .selects RX12 yX12_entry yX12_entry, .methodLink RX12 355 yX12_need, .instanceMethod yX12_need, .selects RX12 yX12_need yX12_need, .methodLink RX12 337 yX12_fail, .instanceMethod yX12_fail, .selects RX12 yX12_fail yX12_fail, .methodLink RX12 484 yX12_caseNumber, .instanceMethod yX12_caseNumber, .selects RX12 yX12_caseNumber yX12_caseNumber]
def wzX12_groups : List Cond := .code yX12_groups cX12_groups 3 none :: (woX12_groups ++ (wsX120 ++ (wzX12_next ++ (wzX12_open ++ (wzX12_then ++ (wzX12_shut ++ (wzX12_emit ++ (wzX12_goal ++ (wzX12_patch ++ (wzX12_over ++ (wzX12_entry ++ (wzX12_need ++ (wzX12_fail ++ (wzX12_caseNumber ++ []))))))))))))))
theorem wgX12_groups : ∀ w ∈ wzX12_groups, goodWord w = true := zg_cons rfl (zg_app (zg_lit (by decide +kernel)) (zg_app wgcX12 (zg_app wgX12_next (zg_app wgX12_open (zg_app wgX12_then (zg_app wgX12_shut (zg_app wgX12_emit (zg_app wgX12_goal (zg_app wgX12_patch (zg_app wgX12_over (zg_app wgX12_entry (zg_app wgX12_need (zg_app wgX12_fail (zg_app wgX12_caseNumber zg_nil))))))))))))))
def woX12_catching : List Cond := [.fieldLink RX12 561 "StatementRules2Model" "catches" "I", .fieldLink RX12 307 "StatementRules2Model" "tok" "I", .fieldLink RX12 327 "StatementRules2Model" "name" "J", .fieldLink RX12 117 "StatementRules2Model" "catchAt" "[I", .fieldLink RX12 358 "StatementRules2Model" "codes" "I", .fieldLink RX12 120 "StatementRules2Model" "catchSlot" "[I", .fieldLink RX12 304 "StatementRules2Model" "from" "I", .fieldLink RX12 291 "StatementRules2Model" "fault" "I", .fieldLink RX12 314 "StatementRules2Model" "number" "I", .fieldLink RX12 13 "StatementRules2Model" "kinds" "I", .fieldLink RX12 105 "StatementRules2Model" "tryCatch" "[I", .fieldLink RX12 180 "StatementRules2Model" "fp" "[I", .fieldLink RX12 114 "StatementRules2Model" "catchKind" "[I", .fieldLink RX12 123 "StatementRules2Model" "catchNext" "[I", .fieldLink RX12 198 "StatementRules2Model" "fy" "[I", .methodLink RX12 345 yX12_next, .instanceMethod yX12_next, .selects RX12 yX12_next yX12_next, .initialized RX12, .methodLink RX12 475 yX12_open, .instanceMethod yX12_open, .selects RX12 yX12_open yX12_open, .methodLink RX12 341 yX12_can, .instanceMethod yX12_can, .selects RX12 yX12_can yX12_can, .methodLink RX12 471 yX12_seenAs, .instanceMethod yX12_seenAs, .selects RX12 yX12_seenAs yX12_seenAs, .methodLink RX12 506 yX12_see, .instanceMethod yX12_see, .selects RX12 yX12_see yX12_see, .methodLink RX12 468 yX12_shut, .instanceMethod yX12_shut, .selects RX12 yX12_shut yX12_shut, .methodLink RX12 393 yX12_then, .instanceMethod yX12_then, .selects RX12 yX12_then yX12_then, .methodLink RX12 337 yX12_fail, .instanceMethod yX12_fail, .selects RX12 yX12_fail yX12_fail, .methodLink RX12 283 yX12_isUnder, .instanceMethod yX12_isUnder, .selects RX12 yX12_isUnder yX12_isUnder]
def wzX12_catching : List Cond := .code yX12_catching cX12_catching 6 none :: (woX12_catching ++ (wsX120 ++ (wzX12_next ++ (wzX12_open ++ (wzX12_can ++ (wzX12_seenAs ++ (wzX12_see ++ (wzX12_shut ++ (wzX12_then ++ (wzX12_fail ++ (wzX12_isUnder ++ [])))))))))))
theorem wgX12_catching : ∀ w ∈ wzX12_catching, goodWord w = true := zg_cons rfl (zg_app (zg_lit (by decide +kernel)) (zg_app wgcX12 (zg_app wgX12_next (zg_app wgX12_open (zg_app wgX12_can (zg_app wgX12_seenAs (zg_app wgX12_see (zg_app wgX12_shut (zg_app wgX12_then (zg_app wgX12_fail (zg_app wgX12_isUnder zg_nil)))))))))))
def woX12_endTry : List Cond := [.fieldLink RX12 370 "StatementRules2Model" "depth" "I", .fieldLink RX12 111 "StatementRules2Model" "tryEnd" "[I", .fieldLink RX12 180 "StatementRules2Model" "fp" "[I", .fieldLink RX12 358 "StatementRules2Model" "codes" "I", .fieldLink RX12 186 "StatementRules2Model" "fr" "[I", .methodLink RX12 558 yX12_resolve, .instanceMethod yX12_resolve, .selects RX12 yX12_resolve yX12_resolve, .initialized RX12, .methodLink RX12 490 yX12_over, .instanceMethod yX12_over, .selects RX12 yX12_over yX12_over]
def wzX12_endTry : List Cond := .code yX12_endTry cX12_endTry 3 none :: (woX12_endTry ++ (wsX120 ++ (wzX12_resolve ++ (wzX12_over ++ []))))
theorem wgX12_endTry : ∀ w ∈ wzX12_endTry, goodWord w = true := zg_cons rfl (zg_app (zg_lit (by decide +kernel)) (zg_app wgcX12 (zg_app wgX12_resolve (zg_app wgX12_over zg_nil))))
def woX12_trying : List Cond := [.fieldLink RX12 177 "StatementRules2Model" "fs" "[I", .fieldLink RX12 180 "StatementRules2Model" "fp" "[I", .fieldLink RX12 549 "StatementRules2Model" "tries" "I", .fieldLink RX12 105 "StatementRules2Model" "tryCatch" "[I", .fieldLink RX12 108 "StatementRules2Model" "tryFinal" "[I", .fieldLink RX12 370 "StatementRules2Model" "depth" "I", .fieldLink RX12 183 "StatementRules2Model" "fq" "[I", .fieldLink RX12 307 "StatementRules2Model" "tok" "I", .fieldLink RX12 159 "StatementRules2Model" "wallTry" "[I", .fieldLink RX12 377 "StatementRules2Model" "walls" "I", .fieldLink RX12 162 "StatementRules2Model" "wallGoals" "[I", .fieldLink RX12 367 "StatementRules2Model" "goals" "I", .fieldLink RX12 198 "StatementRules2Model" "fy" "[I", .fieldLink RX12 291 "StatementRules2Model" "fault" "I", .fieldLink RX12 314 "StatementRules2Model" "number" "I", .fieldLink RX12 186 "StatementRules2Model" "fr" "[I", .fieldLink RX12 396 "StatementRules2Model" "res" "Z", .fieldLink RX12 358 "StatementRules2Model" "codes" "I", .fieldLink RX12 195 "StatementRules2Model" "fx" "[I", .fieldLink RX12 361 "StatementRules2Model" "seen" "I", .methodLink RX12 345 yX12_next, .instanceMethod yX12_next, .selects RX12 yX12_next yX12_next, .initialized RX12, .methodLink RX12 464 yX12_emit, .instanceMethod yX12_emit, .selects RX12 yX12_emit yX12_emit, .methodLink RX12 393 yX12_then, .instanceMethod yX12_then, .selects RX12 yX12_then yX12_then, .methodLink RX12 341 yX12_can, .instanceMethod yX12_can, .selects RX12 yX12_can yX12_can, .methodLink RX12 555 yX12_endTry, .instanceMethod yX12_endTry, .selects RX12 yX12_endTry yX12_endTry, .methodLink RX12 552 yX12_catching, .instanceMethod yX12_catching, .selects RX12 yX12_catching yX12_catching]
def wzX12_trying : List Cond := .code yX12_trying cX12_trying 3 none :: (woX12_trying ++ (wsX120 ++ (wzX12_next ++ (wzX12_emit ++ (wzX12_then ++ (wzX12_can ++ (wzX12_endTry ++ (wzX12_catching ++ []))))))))
theorem wgX12_trying : ∀ w ∈ wzX12_trying, goodWord w = true := zg_cons rfl (zg_app (zg_lit (by decide +kernel)) (zg_app wgcX12 (zg_app wgX12_next (zg_app wgX12_emit (zg_app wgX12_then (zg_app wgX12_can (zg_app wgX12_endTry (zg_app wgX12_catching zg_nil))))))))
def woX12_sums : List Cond := [.fieldLink RX12 177 "StatementRules2Model" "fs" "[I", .fieldLink RX12 387 "StatementRules2Model" "top" "I", .fieldLink RX12 180 "StatementRules2Model" "fp" "[I", .fieldLink RX12 307 "StatementRules2Model" "tok" "I", .methodLink RX12 345 yX12_next, .instanceMethod yX12_next, .selects RX12 yX12_next yX12_next, .initialized RX12, .methodLink RX12 393 yX12_then, .instanceMethod yX12_then, .selects RX12 yX12_then yX12_then, .methodLink RX12 464 yX12_emit, .instanceMethod yX12_emit, .selects RX12 yX12_emit yX12_emit]
def wzX12_sums : List Cond := .code yX12_sums cX12_sums 4 none :: (woX12_sums ++ (wsX120 ++ (wzX12_next ++ (wzX12_then ++ (wzX12_emit ++ [])))))
theorem wgX12_sums : ∀ w ∈ wzX12_sums, goodWord w = true := zg_cons rfl (zg_app (zg_lit (by decide +kernel)) (zg_app wgcX12 (zg_app wgX12_next (zg_app wgX12_then (zg_app wgX12_emit zg_nil)))))
def woX12_factor : List Cond := [.fieldLink RX12 177 "StatementRules2Model" "fs" "[I", .fieldLink RX12 307 "StatementRules2Model" "tok" "I", .fieldLink RX12 174 "StatementRules2Model" "fk" "[I", .fieldLink RX12 327 "StatementRules2Model" "name" "J", .fieldLink RX12 132 "StatementRules2Model" "seenCaught" "[Z", .fieldLink RX12 129 "StatementRules2Model" "seenSlot" "[I", .fieldLink RX12 387 "StatementRules2Model" "top" "I", .fieldLink RX12 304 "StatementRules2Model" "from" "I", .fieldLink RX12 314 "StatementRules2Model" "number" "I", .fieldLink RX12 348 "StatementRules2Model" "opened" "I", .methodLink RX12 341 yX12_can, .instanceMethod yX12_can, .selects RX12 yX12_can yX12_can, .initialized RX12, .methodLink RX12 475 yX12_open, .instanceMethod yX12_open, .selects RX12 yX12_open yX12_open, .methodLink RX12 393 yX12_then, .instanceMethod yX12_then, .selects RX12 yX12_then yX12_then, .methodLink RX12 351 yX12_opens, .instanceMethod yX12_opens, .selects RX12 yX12_opens yX12_opens, .methodLink RX12 345 yX12_next, .instanceMethod yX12_next, .selects RX12 yX12_next yX12_next, .methodLink RX12 471 yX12_seenAs, .instanceMethod yX12_seenAs, .selects RX12 yX12_seenAs yX12_seenAs, .methodLink RX12 464 yX12_emit, .instanceMethod yX12_emit, .selects RX12 yX12_emit yX12_emit, .methodLink RX12 337 yX12_fail, .instanceMethod yX12_fail, .selects RX12 yX12_fail yX12_fail, .methodLink RX12 468 yX12_shut, .instanceMethod yX12_shut, .selects RX12 yX12_shut yX12_shut]
def wzX12_factor : List Cond := .code yX12_factor cX12_factor 3 none :: (woX12_factor ++ (wsX120 ++ (wzX12_can ++ (wzX12_open ++ (wzX12_then ++ (wzX12_opens ++ (wzX12_next ++ (wzX12_seenAs ++ (wzX12_emit ++ (wzX12_fail ++ (wzX12_shut ++ [])))))))))))
theorem wgX12_factor : ∀ w ∈ wzX12_factor, goodWord w = true := zg_cons rfl (zg_app (zg_lit (by decide +kernel)) (zg_app wgcX12 (zg_app wgX12_can (zg_app wgX12_open (zg_app wgX12_then (zg_app wgX12_opens (zg_app wgX12_next (zg_app wgX12_seenAs (zg_app wgX12_emit (zg_app wgX12_fail (zg_app wgX12_shut zg_nil)))))))))))
def woX12_arms : List Cond := [.fieldLink RX12 177 "StatementRules2Model" "fs" "[I", .fieldLink RX12 180 "StatementRules2Model" "fp" "[I", .fieldLink RX12 183 "StatementRules2Model" "fq" "[I", .fieldLink RX12 186 "StatementRules2Model" "fr" "[I", .fieldLink RX12 370 "StatementRules2Model" "depth" "I", .fieldLink RX12 307 "StatementRules2Model" "tok" "I", .fieldLink RX12 367 "StatementRules2Model" "goals" "I", .fieldLink RX12 90 "StatementRules2Model" "iy" "[I", .fieldLink RX12 358 "StatementRules2Model" "codes" "I", .fieldLink RX12 387 "StatementRules2Model" "top" "I", .fieldLink RX12 304 "StatementRules2Model" "from" "I", .fieldLink RX12 291 "StatementRules2Model" "fault" "I", .fieldLink RX12 195 "StatementRules2Model" "fx" "[I", .fieldLink RX12 361 "StatementRules2Model" "seen" "I", .fieldLink RX12 396 "StatementRules2Model" "res" "Z", .methodLink RX12 345 yX12_next, .instanceMethod yX12_next, .selects RX12 yX12_next yX12_next, .initialized RX12, .methodLink RX12 475 yX12_open, .instanceMethod yX12_open, .selects RX12 yX12_open yX12_open, .methodLink RX12 393 yX12_then, .instanceMethod yX12_then, .selects RX12 yX12_then yX12_then, .methodLink RX12 468 yX12_shut, .instanceMethod yX12_shut, .selects RX12 yX12_shut yX12_shut, .methodLink RX12 464 yX12_emit, .instanceMethod yX12_emit, .selects RX12 yX12_emit yX12_emit, .methodLink RX12 373 yX12_goal, .instanceMethod yX12_goal, .selects RX12 yX12_goal yX12_goal, .methodLink RX12 341 yX12_can, .instanceMethod yX12_can, .selects RX12 yX12_can yX12_can, .methodLink RX12 481 yX12_entry, .instanceMethod yX12_entry, .selects RX12 yX12_entry yX12_entry, .methodLink RX12 337 yX12_fail, .instanceMethod yX12_fail, .selects RX12 yX12_fail yX12_fail, .methodLink RX12 484 yX12_caseNumber, .instanceMethod yX12_caseNumber, .selects RX12 yX12_caseNumber yX12_caseNumber, .methodLink RX12 355 yX12_need, .instanceMethod yX12_need, .selects RX12 yX12_need yX12_need, .methodLink RX12 487 yX12_note, .instanceMethod yX12_note, .selects RX12 yX12_note yX12_note]
def wzX12_arms : List Cond := .code yX12_arms cX12_arms 2 none :: (woX12_arms ++ (wsX120 ++ (wzX12_next ++ (wzX12_open ++ (wzX12_then ++ (wzX12_shut ++ (wzX12_emit ++ (wzX12_goal ++ (wzX12_can ++ (wzX12_entry ++ (wzX12_fail ++ (wzX12_caseNumber ++ (wzX12_need ++ (wzX12_note ++ []))))))))))))))
theorem wgX12_arms : ∀ w ∈ wzX12_arms, goodWord w = true := zg_cons rfl (zg_app (zg_lit (by decide +kernel)) (zg_app wgcX12 (zg_app wgX12_next (zg_app wgX12_open (zg_app wgX12_then (zg_app wgX12_shut (zg_app wgX12_emit (zg_app wgX12_goal (zg_app wgX12_can (zg_app wgX12_entry (zg_app wgX12_fail (zg_app wgX12_caseNumber (zg_app wgX12_need (zg_app wgX12_note zg_nil))))))))))))))
def woX12_both : List Cond := [.fieldLink RX12 177 "StatementRules2Model" "fs" "[I", .fieldLink RX12 307 "StatementRules2Model" "tok" "I", .fieldLink RX12 387 "StatementRules2Model" "top" "I", .fieldLink RX12 180 "StatementRules2Model" "fp" "[I", .fieldLink RX12 87 "StatementRules2Model" "ix" "[I", .fieldLink RX12 358 "StatementRules2Model" "codes" "I", .methodLink RX12 345 yX12_next, .instanceMethod yX12_next, .selects RX12 yX12_next yX12_next, .initialized RX12, .methodLink RX12 464 yX12_emit, .instanceMethod yX12_emit, .selects RX12 yX12_emit yX12_emit, .methodLink RX12 393 yX12_then, .instanceMethod yX12_then, .selects RX12 yX12_then yX12_then]
def wzX12_both : List Cond := .code yX12_both cX12_both 5 none :: (woX12_both ++ (wsX120 ++ (wzX12_next ++ (wzX12_emit ++ (wzX12_then ++ [])))))
theorem wgX12_both : ∀ w ∈ wzX12_both, goodWord w = true := zg_cons rfl (zg_app (zg_lit (by decide +kernel)) (zg_app wgcX12 (zg_app wgX12_next (zg_app wgX12_emit (zg_app wgX12_then zg_nil)))))
def woX12_one : List Cond := [.fieldLink RX12 177 "StatementRules2Model" "fs" "[I", .fieldLink RX12 307 "StatementRules2Model" "tok" "I", .fieldLink RX12 387 "StatementRules2Model" "top" "I", .fieldLink RX12 348 "StatementRules2Model" "opened" "I", .fieldLink RX12 180 "StatementRules2Model" "fp" "[I", .methodLink RX12 464 yX12_emit, .instanceMethod yX12_emit, .selects RX12 yX12_emit yX12_emit, .initialized RX12, .methodLink RX12 345 yX12_next, .instanceMethod yX12_next, .selects RX12 yX12_next yX12_next, .methodLink RX12 393 yX12_then, .instanceMethod yX12_then, .selects RX12 yX12_then yX12_then, .methodLink RX12 475 yX12_open, .instanceMethod yX12_open, .selects RX12 yX12_open yX12_open, .methodLink RX12 351 yX12_opens, .instanceMethod yX12_opens, .selects RX12 yX12_opens yX12_opens, .methodLink RX12 468 yX12_shut, .instanceMethod yX12_shut, .selects RX12 yX12_shut yX12_shut, .methodLink RX12 341 yX12_can, .instanceMethod yX12_can, .selects RX12 yX12_can yX12_can]
def wzX12_one : List Cond := .code yX12_one cX12_one 2 none :: (woX12_one ++ (wsX120 ++ (wzX12_emit ++ (wzX12_next ++ (wzX12_then ++ (wzX12_open ++ (wzX12_opens ++ (wzX12_shut ++ (wzX12_can ++ [])))))))))
theorem wgX12_one : ∀ w ∈ wzX12_one, goodWord w = true := zg_cons rfl (zg_app (zg_lit (by decide +kernel)) (zg_app wgcX12 (zg_app wgX12_emit (zg_app wgX12_next (zg_app wgX12_then (zg_app wgX12_open (zg_app wgX12_opens (zg_app wgX12_shut (zg_app wgX12_can zg_nil)))))))))
def woX12_thing : List Cond := [.fieldLink RX12 174 "StatementRules2Model" "fk" "[I", .fieldLink RX12 307 "StatementRules2Model" "tok" "I", .methodLink RX12 447 yX12_sums, .instanceMethod yX12_sums, .selects RX12 yX12_sums yX12_sums, .initialized RX12, .methodLink RX12 451 yX12_factor, .instanceMethod yX12_factor, .selects RX12 yX12_factor yX12_factor, .methodLink RX12 454 yX12_arms, .instanceMethod yX12_arms, .selects RX12 yX12_arms yX12_arms, .methodLink RX12 457 yX12_both, .instanceMethod yX12_both, .selects RX12 yX12_both yX12_both, .methodLink RX12 461 yX12_one, .instanceMethod yX12_one, .selects RX12 yX12_one yX12_one]
def wzX12_thing : List Cond := .code yX12_thing cX12_thing 2 none :: (woX12_thing ++ (wsX120 ++ (wzX12_sums ++ (wzX12_factor ++ (wzX12_arms ++ (wzX12_both ++ (wzX12_one ++ [])))))))
theorem wgX12_thing : ∀ w ∈ wzX12_thing, goodWord w = true := zg_cons rfl (zg_app (zg_lit (by decide +kernel)) (zg_app wgcX12 (zg_app wgX12_sums (zg_app wgX12_factor (zg_app wgX12_arms (zg_app wgX12_both (zg_app wgX12_one zg_nil)))))))
def woX12_parse : List Cond := [.fieldLink RX12 387 "StatementRules2Model" "top" "I", .fieldLink RX12 291 "StatementRules2Model" "fault" "I", .fieldLink RX12 174 "StatementRules2Model" "fk" "[I", .methodLink RX12 390 yX12_push, .instanceMethod yX12_push, .selects RX12 yX12_push yX12_push, .initialized RX12, .methodLink RX12 399 yX12_list, .instanceMethod yX12_list, .selects RX12 yX12_list yX12_list, .methodLink RX12 402 yX12_stat, .instanceMethod yX12_stat, .selects RX12 yX12_stat yX12_stat, .methodLink RX12 405 yX12_block, .instanceMethod yX12_block, .selects RX12 yX12_block yX12_block, .methodLink RX12 408 yX12_tell, .instanceMethod yX12_tell, .selects RX12 yX12_tell yX12_tell, .methodLink RX12 411 yX12_named, .instanceMethod yX12_named, .selects RX12 yX12_named yX12_named, .methodLink RX12 414 yX12_ending, .instanceMethod yX12_ending, .selects RX12 yX12_ending yX12_ending, .methodLink RX12 417 yX12_throwing, .instanceMethod yX12_throwing, .selects RX12 yX12_throwing yX12_throwing, .methodLink RX12 420 yX12_asserted, .instanceMethod yX12_asserted, .selects RX12 yX12_asserted yX12_asserted, .methodLink RX12 423 yX12_branch, .instanceMethod yX12_branch, .selects RX12 yX12_branch yX12_branch, .methodLink RX12 426 yX12_whiles, .instanceMethod yX12_whiles, .selects RX12 yX12_whiles yX12_whiles, .methodLink RX12 429 yX12_repeats, .instanceMethod yX12_repeats, .selects RX12 yX12_repeats yX12_repeats, .methodLink RX12 432 yX12_fors, .instanceMethod yX12_fors, .selects RX12 yX12_fors yX12_fors, .methodLink RX12 435 yX12_lock, .instanceMethod yX12_lock, .selects RX12 yX12_lock yX12_lock, .methodLink RX12 438 yX12_groups, .instanceMethod yX12_groups, .selects RX12 yX12_groups yX12_groups, .methodLink RX12 441 yX12_trying, .instanceMethod yX12_trying, .selects RX12 yX12_trying yX12_trying, .methodLink RX12 444 yX12_thing, .instanceMethod yX12_thing, .selects RX12 yX12_thing yX12_thing]
def wzX12_parse : List Cond := .code yX12_parse cX12_parse 1 none :: (woX12_parse ++ (wsX120 ++ (wzX12_push ++ (wzX12_list ++ (wzX12_stat ++ (wzX12_block ++ (wzX12_tell ++ (wzX12_named ++ (wzX12_ending ++ (wzX12_throwing ++ (wzX12_asserted ++ (wzX12_branch ++ (wzX12_whiles ++ (wzX12_repeats ++ (wzX12_fors ++ (wzX12_lock ++ (wzX12_groups ++ (wzX12_trying ++ (wzX12_thing ++ [])))))))))))))))))))
theorem wgX12_parse : ∀ w ∈ wzX12_parse, goodWord w = true := zg_cons rfl (zg_app (zg_lit (by decide +kernel)) (zg_app wgcX12 (zg_app wgX12_push (zg_app wgX12_list (zg_app wgX12_stat (zg_app wgX12_block (zg_app wgX12_tell (zg_app wgX12_named (zg_app wgX12_ending (zg_app wgX12_throwing (zg_app wgX12_asserted (zg_app wgX12_branch (zg_app wgX12_whiles (zg_app wgX12_repeats (zg_app wgX12_fors (zg_app wgX12_lock (zg_app wgX12_groups (zg_app wgX12_trying (zg_app wgX12_thing zg_nil)))))))))))))))))))
def woX12_read : List Cond := [.fieldLink RX12 273 "StatementRules2Model" "thrown" "I", .fieldLink RX12 361 "StatementRules2Model" "seen" "I", .fieldLink RX12 364 "StatementRules2Model" "slots" "I", .fieldLink RX12 367 "StatementRules2Model" "goals" "I", .fieldLink RX12 348 "StatementRules2Model" "opened" "I", .fieldLink RX12 494 "StatementRules2Model" "statements" "I", .fieldLink RX12 500 "StatementRules2Model" "tellings" "I", .fieldLink RX12 527 "StatementRules2Model" "jumps" "I", .fieldLink RX12 358 "StatementRules2Model" "codes" "I", .fieldLink RX12 478 "StatementRules2Model" "entries" "I", .fieldLink RX12 549 "StatementRules2Model" "tries" "I", .fieldLink RX12 561 "StatementRules2Model" "catches" "I", .fieldLink RX12 377 "StatementRules2Model" "walls" "I", .fieldLink RX12 384 "StatementRules2Model" "pends" "I", .fieldLink RX12 370 "StatementRules2Model" "depth" "I", .fieldLink RX12 297 "StatementRules2Model" "to" "I", .fieldLink RX12 291 "StatementRules2Model" "fault" "I", .fieldLink RX12 334 "StatementRules2Model" "late" "I", .fieldLink RX12 294 "StatementRules2Model" "tokens" "I", .constantLong RX12 564 (97), .constantLong RX12 566 (98), .fieldLink RX12 307 "StatementRules2Model" "tok" "I", .fieldLink RX12 276 "StatementRules2Model" "taped" "I", .fieldLink RX12 396 "StatementRules2Model" "res" "Z", .fieldLink RX12 571 "StatementRules2Model" "endsWell" "Z", .fieldLink RX12 574 "StatementRules2Model" "lastFault" "I", .fieldLink RX12 577 "StatementRules2Model" "hasProgram" "Z", .fieldLink RX12 580 "StatementRules2Model" "hasRun" "Z", .fieldLink RX12 583 "StatementRules2Model" "rowMany" "I", .fieldLink RX12 331 "StatementRules2Model" "faultAt" "I", .methodLink RX12 506 yX12_see, .instanceMethod yX12_see, .selects RX12 yX12_see yX12_see, .initialized RX12, .methodLink RX12 345 yX12_next, .instanceMethod yX12_next, .selects RX12 yX12_next yX12_next, .methodLink RX12 568 yX12_parse, .instanceMethod yX12_parse, .selects RX12 yX12_parse yX12_parse, .methodLink RX12 341 yX12_can, .instanceMethod yX12_can, .selects RX12 yX12_can yX12_can, .methodLink RX12 337 yX12_fail, .instanceMethod yX12_fail, .selects RX12 yX12_fail yX12_fail]
def wzX12_read : List Cond := .code yX12_read cX12_read 1 (some .int) :: (woX12_read ++ (wsX120 ++ (wzX12_see ++ (wzX12_next ++ (wzX12_parse ++ (wzX12_can ++ (wzX12_fail ++ [])))))))
theorem wgX12_read : ∀ w ∈ wzX12_read, goodWord w = true := zg_cons rfl (zg_app (zg_lit (by decide +kernel)) (zg_app wgcX12 (zg_app wgX12_see (zg_app wgX12_next (zg_app wgX12_parse (zg_app wgX12_can (zg_app wgX12_fail zg_nil)))))))
def woX12_fault : List Cond := [.fieldLink RX12 273 "StatementRules2Model" "thrown" "I", .fieldLink RX12 574 "StatementRules2Model" "lastFault" "I"]
def wzX12_fault : List Cond := .code yX12_fault cX12_fault 1 (some .int) :: (woX12_fault ++ (wsX120 ++ []))
theorem wgX12_fault : ∀ w ∈ wzX12_fault, goodWord w = true := zg_cons rfl (zg_app (zg_lit (by decide +kernel)) (zg_app wgcX12 zg_nil))
def woX12_program : List Cond := [.fieldLink RX12 273 "StatementRules2Model" "thrown" "I", .fieldLink RX12 577 "StatementRules2Model" "hasProgram" "Z", .fieldLink RX12 527 "StatementRules2Model" "jumps" "I", .fieldLink RX12 500 "StatementRules2Model" "tellings" "I", .fieldLink RX12 571 "StatementRules2Model" "endsWell" "Z", .fieldLink RX12 494 "StatementRules2Model" "statements" "I", .methodLink RX12 279 yX12_in, .static yX12_in, .initialized RX12]
def wzX12_program : List Cond := .code yX12_program cX12_program 2 (some .int) :: (woX12_program ++ (wsX120 ++ (wzX12_in ++ [])))
theorem wgX12_program : ∀ w ∈ wzX12_program, goodWord w = true := zg_cons rfl (zg_app (zg_lit (by decide +kernel)) (zg_app wgcX12 (zg_app wgX12_in zg_nil)))
def woX12_row : List Cond := [.fieldLink RX12 583 "StatementRules2Model" "rowMany" "I", .fieldLink RX12 207 "StatementRules2Model" "rowSort" "[I", .fieldLink RX12 210 "StatementRules2Model" "rowNumber" "[I"]
def wzX12_row : List Cond := .code yX12_row cX12_row 3 none :: (woX12_row ++ (wsX120 ++ []))
theorem wgX12_row : ∀ w ∈ wzX12_row, goodWord w = true := zg_cons rfl (zg_app (zg_lit (by decide +kernel)) (zg_app wgcX12 zg_nil))
def woX12_record : List Cond := [.fieldLink RX12 586 "StatementRules2Model" "recs" "I", .fieldLink RX12 243 "StatementRules2Model" "rk" "[I", .fieldLink RX12 246 "StatementRules2Model" "ra" "[I", .fieldLink RX12 249 "StatementRules2Model" "rb" "[I", .fieldLink RX12 252 "StatementRules2Model" "rc" "[I", .fieldLink RX12 255 "StatementRules2Model" "rHigh" "[I", .fieldLink RX12 589 "StatementRules2Model" "high" "I"]
def wzX12_record : List Cond := .code yX12_record cX12_record 6 (some .int) :: (woX12_record ++ (wsX120 ++ []))
theorem wgX12_record : ∀ w ∈ wzX12_record, goodWord w = true := zg_cons rfl (zg_app (zg_lit (by decide +kernel)) (zg_app wgcX12 zg_nil))
def woX12_put : List Cond := [.fieldLink RX12 234 "StatementRules2Model" "vs" "[I", .fieldLink RX12 589 "StatementRules2Model" "high" "I"]
def wzX12_put : List Cond := .code yX12_put cX12_put 2 none :: (woX12_put ++ (wsX120 ++ []))
theorem wgX12_put : ∀ w ∈ wzX12_put, goodWord w = true := zg_cons rfl (zg_app (zg_lit (by decide +kernel)) (zg_app wgcX12 zg_nil))
def woX12_take : List Cond := [.fieldLink RX12 589 "StatementRules2Model" "high" "I", .fieldLink RX12 234 "StatementRules2Model" "vs" "[I"]
def wzX12_take : List Cond := .code yX12_take cX12_take 1 (some .int) :: (woX12_take ++ (wsX120 ++ []))
theorem wgX12_take : ∀ w ∈ wzX12_take, goodWord w = true := zg_cons rfl (zg_app (zg_lit (by decide +kernel)) (zg_app wgcX12 zg_nil))
def woX12_raise : List Cond := [.fieldLink RX12 592 "StatementRules2Model" "things" "I", .fieldLink RX12 595 "StatementRules2Model" "thing" "I", .fieldLink RX12 216 "StatementRules2Model" "thingKind" "[I", .fieldLink RX12 219 "StatementRules2Model" "thingNumber" "[I", .fieldLink RX12 222 "StatementRules2Model" "suppressedMany" "[I", .fieldLink RX12 597 "StatementRules2Model" "how" "I"]
def wzX12_raise : List Cond := .code yX12_raise cX12_raise 3 none :: (woX12_raise ++ (wsX120 ++ []))
theorem wgX12_raise : ∀ w ∈ wzX12_raise, goodWord w = true := zg_cons rfl (zg_app (zg_lit (by decide +kernel)) (zg_app wgcX12 zg_nil))
def woX12_closeAll : List Cond := [.fieldLink RX12 600 "StatementRules2Model" "openMany" "I", .fieldLink RX12 252 "StatementRules2Model" "rc" "[I", .fieldLink RX12 237 "StatementRules2Model" "openOf" "[I", .fieldLink RX12 27 "StatementRules2Model" "closing" "[I", .fieldLink RX12 597 "StatementRules2Model" "how" "I", .fieldLink RX12 222 "StatementRules2Model" "suppressedMany" "[I", .fieldLink RX12 595 "StatementRules2Model" "thing" "I", .fieldLink RX12 225 "StatementRules2Model" "suppressedKind" "[I", .fieldLink RX12 228 "StatementRules2Model" "suppressedNumber" "[I", .methodLink RX12 603 yX12_row, .instanceMethod yX12_row, .selects RX12 yX12_row yX12_row, .initialized RX12, .methodLink RX12 606 yX12_raise, .instanceMethod yX12_raise, .selects RX12 yX12_raise yX12_raise]
def wzX12_closeAll : List Cond := .code yX12_closeAll cX12_closeAll 5 none :: (woX12_closeAll ++ (wsX120 ++ (wzX12_row ++ (wzX12_raise ++ []))))
theorem wgX12_closeAll : ∀ w ∈ wzX12_closeAll, goodWord w = true := zg_cons rfl (zg_app (zg_lit (by decide +kernel)) (zg_app wgcX12 (zg_app wgX12_row (zg_app wgX12_raise zg_nil))))
def woX12_finals : List Cond := [.fieldLink RX12 108 "StatementRules2Model" "tryFinal" "[I", .fieldLink RX12 246 "StatementRules2Model" "ra" "[I", .fieldLink RX12 258 "StatementRules2Model" "rHow" "[I", .fieldLink RX12 597 "StatementRules2Model" "how" "I", .fieldLink RX12 261 "StatementRules2Model" "rTo" "[I", .fieldLink RX12 609 "StatementRules2Model" "goTo" "I", .fieldLink RX12 264 "StatementRules2Model" "rDepth" "[I", .fieldLink RX12 612 "StatementRules2Model" "goDepth" "I", .fieldLink RX12 267 "StatementRules2Model" "rValue" "[I", .fieldLink RX12 615 "StatementRules2Model" "value" "I", .fieldLink RX12 270 "StatementRules2Model" "rThing" "[I", .fieldLink RX12 595 "StatementRules2Model" "thing" "I", .fieldLink RX12 249 "StatementRules2Model" "rb" "[I", .fieldLink RX12 255 "StatementRules2Model" "rHigh" "[I", .fieldLink RX12 589 "StatementRules2Model" "high" "I", .fieldLink RX12 618 "StatementRules2Model" "pc" "I"]
def wzX12_finals : List Cond := .code yX12_finals cX12_finals 3 (some .boolean) :: (woX12_finals ++ (wsX120 ++ []))
theorem wgX12_finals : ∀ w ∈ wzX12_finals, goodWord w = true := zg_cons rfl (zg_app (zg_lit (by decide +kernel)) (zg_app wgcX12 zg_nil))
def woX12_isCaught : List Cond := [.fieldLink RX12 105 "StatementRules2Model" "tryCatch" "[I", .fieldLink RX12 246 "StatementRules2Model" "ra" "[I", .fieldLink RX12 216 "StatementRules2Model" "thingKind" "[I", .fieldLink RX12 595 "StatementRules2Model" "thing" "I", .fieldLink RX12 114 "StatementRules2Model" "catchKind" "[I", .fieldLink RX12 123 "StatementRules2Model" "catchNext" "[I", .fieldLink RX12 213 "StatementRules2Model" "vals" "[I", .fieldLink RX12 120 "StatementRules2Model" "catchSlot" "[I", .fieldLink RX12 249 "StatementRules2Model" "rb" "[I", .fieldLink RX12 255 "StatementRules2Model" "rHigh" "[I", .fieldLink RX12 589 "StatementRules2Model" "high" "I", .fieldLink RX12 117 "StatementRules2Model" "catchAt" "[I", .fieldLink RX12 618 "StatementRules2Model" "pc" "I", .methodLink RX12 283 yX12_isUnder, .instanceMethod yX12_isUnder, .selects RX12 yX12_isUnder yX12_isUnder, .initialized RX12]
def wzX12_isCaught : List Cond := .code yX12_isCaught cX12_isCaught 3 (some .boolean) :: (woX12_isCaught ++ (wsX120 ++ (wzX12_isUnder ++ [])))
theorem wgX12_isCaught : ∀ w ∈ wzX12_isCaught, goodWord w = true := zg_cons rfl (zg_app (zg_lit (by decide +kernel)) (zg_app wgcX12 (zg_app wgX12_isUnder zg_nil)))
def woX12_leave : List Cond := [.fieldLink RX12 586 "StatementRules2Model" "recs" "I", .fieldLink RX12 597 "StatementRules2Model" "how" "I", .fieldLink RX12 612 "StatementRules2Model" "goDepth" "I", .fieldLink RX12 609 "StatementRules2Model" "goTo" "I", .fieldLink RX12 618 "StatementRules2Model" "pc" "I", .fieldLink RX12 243 "StatementRules2Model" "rk" "[I", .fieldLink RX12 249 "StatementRules2Model" "rb" "[I", .fieldLink RX12 246 "StatementRules2Model" "ra" "[I", .fieldLink RX12 621 "StatementRules2Model" "waiting" "I", .fieldLink RX12 231 "StatementRules2Model" "held" "[I", .fieldLink RX12 636 "StatementRules2Model" "ended" "I", .fieldLink RX12 255 "StatementRules2Model" "rHigh" "[I", .fieldLink RX12 589 "StatementRules2Model" "high" "I", .fieldLink RX12 615 "StatementRules2Model" "value" "I", .fieldLink RX12 90 "StatementRules2Model" "iy" "[I", .methodLink RX12 630 yX12_finals, .instanceMethod yX12_finals, .selects RX12 yX12_finals yX12_finals, .initialized RX12, .methodLink RX12 624 yX12_closeAll, .instanceMethod yX12_closeAll, .selects RX12 yX12_closeAll yX12_closeAll, .methodLink RX12 627 yX12_isCaught, .instanceMethod yX12_isCaught, .selects RX12 yX12_isCaught yX12_isCaught, .methodLink RX12 603 yX12_row, .instanceMethod yX12_row, .selects RX12 yX12_row yX12_row, .methodLink RX12 633 yX12_put, .instanceMethod yX12_put, .selects RX12 yX12_put yX12_put]
def wzX12_leave : List Cond := .code yX12_leave cX12_leave 2 none :: (woX12_leave ++ (wsX120 ++ (wzX12_finals ++ (wzX12_closeAll ++ (wzX12_isCaught ++ (wzX12_row ++ (wzX12_put ++ [])))))))
theorem wgX12_leave : ∀ w ∈ wzX12_leave, goodWord w = true := zg_cons rfl (zg_app (zg_lit (by decide +kernel)) (zg_app wgcX12 (zg_app wgX12_finals (zg_app wgX12_closeAll (zg_app wgX12_isCaught (zg_app wgX12_row (zg_app wgX12_put zg_nil)))))))
def woX12_step : List Cond := [.fieldLink RX12 639 "StatementRules2Model" "steps" "I", .fieldLink RX12 636 "StatementRules2Model" "ended" "I", .fieldLink RX12 618 "StatementRules2Model" "pc" "I"]
def wzX12_step : List Cond := .code yX12_step cX12_step 1 none :: (woX12_step ++ (wsX120 ++ []))
theorem wgX12_step : ∀ w ∈ wzX12_step, goodWord w = true := zg_cons rfl (zg_app (zg_lit (by decide +kernel)) (zg_app wgcX12 zg_nil))
def woX12_compute : List Cond := []
def wzX12_compute : List Cond := .code yX12_compute cX12_compute 4 (some .int) :: (woX12_compute ++ [])
theorem wgX12_compute : ∀ w ∈ wzX12_compute, goodWord w = true := zg_cons rfl (zg_app (zg_lit (by decide +kernel)) zg_nil)
def woX12_caseOf : List Cond := [.fieldLink RX12 102 "StatementRules2Model" "entryElse" "[Z", .fieldLink RX12 99 "StatementRules2Model" "entryNext" "[I", .fieldLink RX12 93 "StatementRules2Model" "entryValue" "[I"]
def wzX12_caseOf : List Cond := .code yX12_caseOf cX12_caseOf 5 (some .int) :: (woX12_caseOf ++ (wsX120 ++ []))
theorem wgX12_caseOf : ∀ w ∈ wzX12_caseOf, goodWord w = true := zg_cons rfl (zg_app (zg_lit (by decide +kernel)) (zg_app wgcX12 zg_nil))
def woX12_goOn : List Cond := [.fieldLink RX12 586 "StatementRules2Model" "recs" "I", .fieldLink RX12 111 "StatementRules2Model" "tryEnd" "[I", .fieldLink RX12 246 "StatementRules2Model" "ra" "[I", .fieldLink RX12 618 "StatementRules2Model" "pc" "I", .methodLink RX12 630 yX12_finals, .instanceMethod yX12_finals, .selects RX12 yX12_finals yX12_finals, .initialized RX12]
def wzX12_goOn : List Cond := .code yX12_goOn cX12_goOn 2 none :: (woX12_goOn ++ (wsX120 ++ (wzX12_finals ++ [])))
theorem wgX12_goOn : ∀ w ∈ wzX12_goOn, goodWord w = true := zg_cons rfl (zg_app (zg_lit (by decide +kernel)) (zg_app wgcX12 (zg_app wgX12_finals zg_nil)))
def woX12_others : List Cond := [.fieldLink RX12 586 "StatementRules2Model" "recs" "I", .fieldLink RX12 84 "StatementRules2Model" "op" "[I", .fieldLink RX12 621 "StatementRules2Model" "waiting" "I", .fieldLink RX12 589 "StatementRules2Model" "high" "I", .fieldLink RX12 240 "StatementRules2Model" "waits" "[I", .fieldLink RX12 234 "StatementRules2Model" "vs" "[I", .fieldLink RX12 249 "StatementRules2Model" "rb" "[I", .fieldLink RX12 252 "StatementRules2Model" "rc" "[I", .fieldLink RX12 213 "StatementRules2Model" "vals" "[I", .fieldLink RX12 90 "StatementRules2Model" "iy" "[I", .fieldLink RX12 618 "StatementRules2Model" "pc" "I", .fieldLink RX12 246 "StatementRules2Model" "ra" "[I", .fieldLink RX12 258 "StatementRules2Model" "rHow" "[I", .fieldLink RX12 597 "StatementRules2Model" "how" "I", .fieldLink RX12 261 "StatementRules2Model" "rTo" "[I", .fieldLink RX12 609 "StatementRules2Model" "goTo" "I", .fieldLink RX12 264 "StatementRules2Model" "rDepth" "[I", .fieldLink RX12 612 "StatementRules2Model" "goDepth" "I", .fieldLink RX12 267 "StatementRules2Model" "rValue" "[I", .fieldLink RX12 615 "StatementRules2Model" "value" "I", .fieldLink RX12 270 "StatementRules2Model" "rThing" "[I", .fieldLink RX12 595 "StatementRules2Model" "thing" "I", .fieldLink RX12 600 "StatementRules2Model" "openMany" "I", .fieldLink RX12 24 "StatementRules2Model" "opening" "[I", .fieldLink RX12 20 "StatementRules2Model" "isNull" "[Z", .fieldLink RX12 237 "StatementRules2Model" "openOf" "[I", .methodLink RX12 658 yX12_record, .instanceMethod yX12_record, .selects RX12 yX12_record yX12_record, .initialized RX12, .methodLink RX12 642 yX12_step, .instanceMethod yX12_step, .selects RX12 yX12_step yX12_step, .methodLink RX12 648 yX12_leave, .instanceMethod yX12_leave, .selects RX12 yX12_leave yX12_leave, .methodLink RX12 603 yX12_row, .instanceMethod yX12_row, .selects RX12 yX12_row yX12_row, .methodLink RX12 606 yX12_raise, .instanceMethod yX12_raise, .selects RX12 yX12_raise yX12_raise, .methodLink RX12 624 yX12_closeAll, .instanceMethod yX12_closeAll, .selects RX12 yX12_closeAll yX12_closeAll, .methodLink RX12 668 yX12_goOn, .instanceMethod yX12_goOn, .selects RX12 yX12_goOn yX12_goOn]
def wzX12_others : List Cond := .code yX12_others cX12_others 6 none :: (woX12_others ++ (wsX120 ++ (wzX12_record ++ (wzX12_step ++ (wzX12_leave ++ (wzX12_row ++ (wzX12_raise ++ (wzX12_closeAll ++ (wzX12_goOn ++ [])))))))))
theorem wgX12_others : ∀ w ∈ wzX12_others, goodWord w = true := zg_cons rfl (zg_app (zg_lit (by decide +kernel)) (zg_app wgcX12 (zg_app wgX12_record (zg_app wgX12_step (zg_app wgX12_leave (zg_app wgX12_row (zg_app wgX12_raise (zg_app wgX12_closeAll (zg_app wgX12_goOn zg_nil)))))))))
def woX12_ends : List Cond := [.fieldLink RX12 84 "StatementRules2Model" "op" "[I", .fieldLink RX12 615 "StatementRules2Model" "value" "I", .fieldLink RX12 597 "StatementRules2Model" "how" "I", .fieldLink RX12 90 "StatementRules2Model" "iy" "[I", .fieldLink RX12 612 "StatementRules2Model" "goDepth" "I", .fieldLink RX12 213 "StatementRules2Model" "vals" "[I", .fieldLink RX12 595 "StatementRules2Model" "thing" "I", .fieldLink RX12 287 "StatementRules2Model" "asserting" "Z", .fieldLink RX12 618 "StatementRules2Model" "pc" "I", .fieldLink RX12 231 "StatementRules2Model" "held" "[I", .fieldLink RX12 586 "StatementRules2Model" "recs" "I", .fieldLink RX12 246 "StatementRules2Model" "ra" "[I", .fieldLink RX12 96 "StatementRules2Model" "entryAt" "[I", .fieldLink RX12 609 "StatementRules2Model" "goTo" "I", .methodLink RX12 645 yX12_take, .instanceMethod yX12_take, .selects RX12 yX12_take yX12_take, .initialized RX12, .methodLink RX12 648 yX12_leave, .instanceMethod yX12_leave, .selects RX12 yX12_leave yX12_leave, .methodLink RX12 606 yX12_raise, .instanceMethod yX12_raise, .selects RX12 yX12_raise yX12_raise, .methodLink RX12 665 yX12_others, .instanceMethod yX12_others, .selects RX12 yX12_others yX12_others, .methodLink RX12 603 yX12_row, .instanceMethod yX12_row, .selects RX12 yX12_row yX12_row, .methodLink RX12 658 yX12_record, .instanceMethod yX12_record, .selects RX12 yX12_record yX12_record, .methodLink RX12 662 yX12_caseOf, .instanceMethod yX12_caseOf, .selects RX12 yX12_caseOf yX12_caseOf]
def wzX12_ends : List Cond := .code yX12_ends cX12_ends 5 none :: (woX12_ends ++ (wsX120 ++ (wzX12_take ++ (wzX12_leave ++ (wzX12_raise ++ (wzX12_others ++ (wzX12_row ++ (wzX12_record ++ (wzX12_caseOf ++ [])))))))))
theorem wgX12_ends : ∀ w ∈ wzX12_ends, goodWord w = true := zg_cons rfl (zg_app (zg_lit (by decide +kernel)) (zg_app wgcX12 (zg_app wgX12_take (zg_app wgX12_leave (zg_app wgX12_raise (zg_app wgX12_others (zg_app wgX12_row (zg_app wgX12_record (zg_app wgX12_caseOf zg_nil)))))))))
def woX12_act : List Cond := [.fieldLink RX12 87 "StatementRules2Model" "ix" "[I", .fieldLink RX12 84 "StatementRules2Model" "op" "[I", .fieldLink RX12 213 "StatementRules2Model" "vals" "[I", .fieldLink RX12 219 "StatementRules2Model" "thingNumber" "[I", .fieldLink RX12 234 "StatementRules2Model" "vs" "[I", .fieldLink RX12 589 "StatementRules2Model" "high" "I", .fieldLink RX12 618 "StatementRules2Model" "pc" "I", .methodLink RX12 642 yX12_step, .instanceMethod yX12_step, .selects RX12 yX12_step yX12_step, .initialized RX12, .methodLink RX12 633 yX12_put, .instanceMethod yX12_put, .selects RX12 yX12_put yX12_put, .methodLink RX12 645 yX12_take, .instanceMethod yX12_take, .selects RX12 yX12_take yX12_take, .methodLink RX12 651 yX12_compute, .instanceMethod yX12_compute, .selects RX12 yX12_compute yX12_compute, .methodLink RX12 606 yX12_raise, .instanceMethod yX12_raise, .selects RX12 yX12_raise yX12_raise, .methodLink RX12 648 yX12_leave, .instanceMethod yX12_leave, .selects RX12 yX12_leave yX12_leave, .methodLink RX12 603 yX12_row, .instanceMethod yX12_row, .selects RX12 yX12_row yX12_row, .methodLink RX12 655 yX12_ends, .instanceMethod yX12_ends, .selects RX12 yX12_ends yX12_ends]
def wzX12_act : List Cond := .code yX12_act cX12_act 5 none :: (woX12_act ++ (wsX120 ++ (wzX12_step ++ (wzX12_put ++ (wzX12_take ++ (wzX12_compute ++ (wzX12_raise ++ (wzX12_leave ++ (wzX12_row ++ (wzX12_ends ++ []))))))))))
theorem wgX12_act : ∀ w ∈ wzX12_act, goodWord w = true := zg_cons rfl (zg_app (zg_lit (by decide +kernel)) (zg_app wgcX12 (zg_app wgX12_step (zg_app wgX12_put (zg_app wgX12_take (zg_app wgX12_compute (zg_app wgX12_raise (zg_app wgX12_leave (zg_app wgX12_row (zg_app wgX12_ends zg_nil))))))))))
def woX12_run : List Cond := [.fieldLink RX12 273 "StatementRules2Model" "thrown" "I", .fieldLink RX12 577 "StatementRules2Model" "hasProgram" "Z", .fieldLink RX12 213 "StatementRules2Model" "vals" "[I", .fieldLink RX12 639 "StatementRules2Model" "steps" "I", .fieldLink RX12 583 "StatementRules2Model" "rowMany" "I", .fieldLink RX12 592 "StatementRules2Model" "things" "I", .fieldLink RX12 600 "StatementRules2Model" "openMany" "I", .fieldLink RX12 621 "StatementRules2Model" "waiting" "I", .fieldLink RX12 586 "StatementRules2Model" "recs" "I", .fieldLink RX12 589 "StatementRules2Model" "high" "I", .fieldLink RX12 580 "StatementRules2Model" "hasRun" "Z", .fieldLink RX12 636 "StatementRules2Model" "ended" "I", .fieldLink RX12 618 "StatementRules2Model" "pc" "I", .fieldLink RX12 358 "StatementRules2Model" "codes" "I", .fieldLink RX12 231 "StatementRules2Model" "held" "[I", .methodLink RX12 671 yX12_act, .instanceMethod yX12_act, .selects RX12 yX12_act yX12_act, .initialized RX12]
def wzX12_run : List Cond := .code yX12_run cX12_run 4 (some .int) :: (woX12_run ++ (wsX120 ++ (wzX12_act ++ [])))
theorem wgX12_run : ∀ w ∈ wzX12_run, goodWord w = true := zg_cons rfl (zg_app (zg_lit (by decide +kernel)) (zg_app wgcX12 (zg_app wgX12_act zg_nil)))
def woX12_ran : List Cond := [.fieldLink RX12 273 "StatementRules2Model" "thrown" "I", .fieldLink RX12 580 "StatementRules2Model" "hasRun" "Z", .fieldLink RX12 636 "StatementRules2Model" "ended" "I", .fieldLink RX12 639 "StatementRules2Model" "steps" "I", .fieldLink RX12 583 "StatementRules2Model" "rowMany" "I", .fieldLink RX12 615 "StatementRules2Model" "value" "I", .fieldLink RX12 216 "StatementRules2Model" "thingKind" "[I", .fieldLink RX12 595 "StatementRules2Model" "thing" "I", .fieldLink RX12 219 "StatementRules2Model" "thingNumber" "[I", .fieldLink RX12 222 "StatementRules2Model" "suppressedMany" "[I", .fieldLink RX12 231 "StatementRules2Model" "held" "[I", .methodLink RX12 279 yX12_in, .static yX12_in, .initialized RX12]
def wzX12_ran : List Cond := .code yX12_ran cX12_ran 5 (some .int) :: (woX12_ran ++ (wsX120 ++ (wzX12_in ++ [])))
theorem wgX12_ran : ∀ w ∈ wzX12_ran, goodWord w = true := zg_cons rfl (zg_app (zg_lit (by decide +kernel)) (zg_app wgcX12 (zg_app wgX12_in zg_nil)))
def woX12_trace : List Cond := [.fieldLink RX12 273 "StatementRules2Model" "thrown" "I", .fieldLink RX12 580 "StatementRules2Model" "hasRun" "Z", .fieldLink RX12 583 "StatementRules2Model" "rowMany" "I", .fieldLink RX12 210 "StatementRules2Model" "rowNumber" "[I", .fieldLink RX12 207 "StatementRules2Model" "rowSort" "[I", .methodLink RX12 279 yX12_in, .static yX12_in, .initialized RX12]
def wzX12_trace : List Cond := .code yX12_trace cX12_trace 3 (some .int) :: (woX12_trace ++ (wsX120 ++ (wzX12_in ++ [])))
theorem wgX12_trace : ∀ w ∈ wzX12_trace, goodWord w = true := zg_cons rfl (zg_app (zg_lit (by decide +kernel)) (zg_app wgcX12 (zg_app wgX12_in zg_nil)))
def woX12_suppressed : List Cond := [.fieldLink RX12 273 "StatementRules2Model" "thrown" "I", .fieldLink RX12 580 "StatementRules2Model" "hasRun" "Z", .fieldLink RX12 636 "StatementRules2Model" "ended" "I", .fieldLink RX12 222 "StatementRules2Model" "suppressedMany" "[I", .fieldLink RX12 595 "StatementRules2Model" "thing" "I", .fieldLink RX12 228 "StatementRules2Model" "suppressedNumber" "[I", .fieldLink RX12 225 "StatementRules2Model" "suppressedKind" "[I", .methodLink RX12 279 yX12_in, .static yX12_in, .initialized RX12]
def wzX12_suppressed : List Cond := .code yX12_suppressed cX12_suppressed 3 (some .int) :: (woX12_suppressed ++ (wsX120 ++ (wzX12_in ++ [])))
theorem wgX12_suppressed : ∀ w ∈ wzX12_suppressed, goodWord w = true := zg_cons rfl (zg_app (zg_lit (by decide +kernel)) (zg_app wgcX12 (zg_app wgX12_in zg_nil)))
def woX12_rounds : List Cond := [.fieldLink RX12 273 "StatementRules2Model" "thrown" "I"]
def wzX12_rounds : List Cond := .code yX12_rounds cX12_rounds 3 (some .int) :: (woX12_rounds ++ (wsX120 ++ []))
theorem wgX12_rounds : ∀ w ∈ wzX12_rounds, goodWord w = true := zg_cons rfl (zg_app (zg_lit (by decide +kernel)) (zg_app wgcX12 zg_nil))
set_option maxRecDepth 20000 in
theorem hX12_cut_X12_in_s279 : GoodIn wzX12_cut (va_wsS RX12 279 yX12_in wzX12_in) := goodIn_app (goodIn_r _ [3, 4, 5] rfl (by decide +kernel)) (zg_of (fun _ h => List.mem_cons_of_mem _ (List.mem_append_right _ (List.mem_append_right _ (List.mem_append_left _ (h))))) wgX12_in)
set_option maxRecDepth 20000 in
theorem hX12_kind_X12_in_s279 : GoodIn wzX12_kind (va_wsS RX12 279 yX12_in wzX12_in) := goodIn_app (goodIn_r _ [4, 5, 6] rfl (by decide +kernel)) (zg_of (fun _ h => List.mem_cons_of_mem _ (List.mem_append_right _ (List.mem_append_right _ (List.mem_append_left _ (h))))) wgX12_in)
set_option maxRecDepth 20000 in
theorem hX12_under_X12_in_s279 : GoodIn wzX12_under (va_wsS RX12 279 yX12_in wzX12_in) := goodIn_app (goodIn_r _ [3, 4, 5] rfl (by decide +kernel)) (zg_of (fun _ h => List.mem_cons_of_mem _ (List.mem_append_right _ (List.mem_append_right _ (List.mem_append_left _ (h))))) wgX12_in)
set_option maxRecDepth 20000 in
theorem hX12_under_X12_isUnder_v283 : GoodIn wzX12_under (wsV RX12 283 RX12 yX12_isUnder wzX12_isUnder) := goodIn_app (goodIn_r _ [6, 7, 8, 5] rfl (by decide +kernel)) (zg_of (fun _ h => List.mem_cons_of_mem _ (List.mem_append_right _ (List.mem_append_right _ (List.mem_append_right _ (List.mem_append_left _ (h)))))) wgX12_isUnder)
set_option maxRecDepth 20000 in
theorem hX12_resource_X12_in_s279 : GoodIn wzX12_resource (va_wsS RX12 279 yX12_in wzX12_in) := goodIn_app (goodIn_r _ [6, 7, 8] rfl (by decide +kernel)) (zg_of (fun _ h => List.mem_cons_of_mem _ (List.mem_append_right _ (List.mem_append_right _ (List.mem_append_left _ (h))))) wgX12_in)
set_option maxRecDepth 20000 in
theorem hX12_readName_X12_at_v300 : GoodIn wzX12_readName (wsV RX12 300 RX12 yX12_at wzX12_at) := goodIn_app (goodIn_r _ [7, 8, 9, 10] rfl (by decide +kernel)) (zg_of (fun _ h => List.mem_cons_of_mem _ (List.mem_append_right _ (List.mem_append_right _ (List.mem_append_left _ (h))))) wgX12_at)
set_option maxRecDepth 20000 in
theorem hX12_readName_X12_isLetter_s317 : GoodIn wzX12_readName (va_wsS RX12 317 yX12_isLetter wzX12_isLetter) := goodIn_app (goodIn_r _ [11, 12, 10] rfl (by decide +kernel)) (zg_of (fun _ h => List.mem_cons_of_mem _ (List.mem_append_right _ (List.mem_append_right _ (List.mem_append_right _ (List.mem_append_left _ (h)))))) wgX12_isLetter)
set_option maxRecDepth 20000 in
theorem hX12_readName_X12_isDigit_s310 : GoodIn wzX12_readName (va_wsS RX12 310 yX12_isDigit wzX12_isDigit) := goodIn_app (goodIn_r _ [13, 14, 10] rfl (by decide +kernel)) (zg_of (fun _ h => List.mem_cons_of_mem _ (List.mem_append_right _ (List.mem_append_right _ (List.mem_append_right _ (List.mem_append_right _ (List.mem_append_left _ (h))))))) wgX12_isDigit)
set_option maxRecDepth 20000 in
theorem hX12_readName_X12_in_s279 : GoodIn wzX12_readName (va_wsS RX12 279 yX12_in wzX12_in) := goodIn_app (goodIn_r _ [15, 16, 10] rfl (by decide +kernel)) (zg_of (fun _ h => List.mem_cons_of_mem _ (List.mem_append_right _ (List.mem_append_right _ (List.mem_append_right _ (List.mem_append_right _ (List.mem_append_right _ (List.mem_append_left _ (h)))))))) wgX12_in)
set_option maxRecDepth 20000 in
theorem hX12_readSign_X12_at_v300 : GoodIn wzX12_readSign (wsV RX12 300 RX12 yX12_at wzX12_at) := goodIn_app (goodIn_r _ [3, 4, 5, 6] rfl (by decide +kernel)) (zg_of (fun _ h => List.mem_cons_of_mem _ (List.mem_append_right _ (List.mem_append_right _ (List.mem_append_left _ (h))))) wgX12_at)
set_option maxRecDepth 20000 in
theorem hX12_next_X12_at_v300 : GoodIn wzX12_next (wsV RX12 300 RX12 yX12_at wzX12_at) := goodIn_app (goodIn_r _ [8, 9, 10, 11] rfl (by decide +kernel)) (zg_of (fun _ h => List.mem_cons_of_mem _ (List.mem_append_right _ (List.mem_append_right _ (List.mem_append_left _ (h))))) wgX12_at)
set_option maxRecDepth 20000 in
theorem hX12_next_X12_isDigit_s310 : GoodIn wzX12_next (va_wsS RX12 310 yX12_isDigit wzX12_isDigit) := goodIn_app (goodIn_r _ [12, 13, 11] rfl (by decide +kernel)) (zg_of (fun _ h => List.mem_cons_of_mem _ (List.mem_append_right _ (List.mem_append_right _ (List.mem_append_right _ (List.mem_append_left _ (h)))))) wgX12_isDigit)
set_option maxRecDepth 20000 in
theorem hX12_next_X12_isLetter_s317 : GoodIn wzX12_next (va_wsS RX12 317 yX12_isLetter wzX12_isLetter) := goodIn_app (goodIn_r _ [14, 15, 11] rfl (by decide +kernel)) (zg_of (fun _ h => List.mem_cons_of_mem _ (List.mem_append_right _ (List.mem_append_right _ (List.mem_append_right _ (List.mem_append_right _ (List.mem_append_left _ (h))))))) wgX12_isLetter)
set_option maxRecDepth 20000 in
theorem hX12_next_X12_readSign_v323 : GoodIn wzX12_next (wsV RX12 323 RX12 yX12_readSign wzX12_readSign) := goodIn_app (goodIn_r _ [16, 17, 18, 11] rfl (by decide +kernel)) (zg_of (fun _ h => List.mem_cons_of_mem _ (List.mem_append_right _ (List.mem_append_right _ (List.mem_append_right _ (List.mem_append_right _ (List.mem_append_right _ (List.mem_append_left _ (h)))))))) wgX12_readSign)
set_option maxRecDepth 20000 in
theorem hX12_next_X12_readName_v320 : GoodIn wzX12_next (wsV RX12 320 RX12 yX12_readName wzX12_readName) := goodIn_app (goodIn_r _ [19, 20, 21, 11] rfl (by decide +kernel)) (zg_of (fun _ h => List.mem_cons_of_mem _ (List.mem_append_right _ (List.mem_append_right _ (List.mem_append_right _ (List.mem_append_right _ (List.mem_append_right _ (List.mem_append_right _ (List.mem_append_left _ (h))))))))) wgX12_readName)
set_option maxRecDepth 20000 in
theorem hX12_can_X12_fail_v337 : GoodIn wzX12_can (wsV RX12 337 RX12 yX12_fail wzX12_fail) := goodIn_app (goodIn_r _ [4, 5, 6, 7] rfl (by decide +kernel)) (zg_of (fun _ h => List.mem_cons_of_mem _ (List.mem_append_right _ (List.mem_append_right _ (List.mem_append_left _ (h))))) wgX12_fail)
set_option maxRecDepth 20000 in
theorem hX12_need_X12_can_v341 : GoodIn wzX12_need (wsV RX12 341 RX12 yX12_can wzX12_can) := goodIn_app (goodIn_r _ [3, 4, 5, 6] rfl (by decide +kernel)) (zg_of (fun _ h => List.mem_cons_of_mem _ (List.mem_append_right _ (List.mem_append_right _ (List.mem_append_left _ (h))))) wgX12_can)
set_option maxRecDepth 20000 in
theorem hX12_need_X12_next_v345 : GoodIn wzX12_need (wsV RX12 345 RX12 yX12_next wzX12_next) := goodIn_app (goodIn_r _ [7, 8, 9, 6] rfl (by decide +kernel)) (zg_of (fun _ h => List.mem_cons_of_mem _ (List.mem_append_right _ (List.mem_append_right _ (List.mem_append_right _ (List.mem_append_left _ (h)))))) wgX12_next)
set_option maxRecDepth 20000 in
theorem hX12_opens_X12_fail_v337 : GoodIn wzX12_opens (wsV RX12 337 RX12 yX12_fail wzX12_fail) := goodIn_app (goodIn_r _ [4, 5, 6, 7] rfl (by decide +kernel)) (zg_of (fun _ h => List.mem_cons_of_mem _ (List.mem_append_right _ (List.mem_append_right _ (List.mem_append_left _ (h))))) wgX12_fail)
set_option maxRecDepth 20000 in
theorem hX12_open_X12_can_v341 : GoodIn wzX12_open (wsV RX12 341 RX12 yX12_can wzX12_can) := goodIn_app (goodIn_r _ [3, 4, 5, 6] rfl (by decide +kernel)) (zg_of (fun _ h => List.mem_cons_of_mem _ (List.mem_append_right _ (List.mem_append_right _ (List.mem_append_left _ (h))))) wgX12_can)
set_option maxRecDepth 20000 in
theorem hX12_open_X12_opens_v351 : GoodIn wzX12_open (wsV RX12 351 RX12 yX12_opens wzX12_opens) := goodIn_app (goodIn_r _ [7, 8, 9, 6] rfl (by decide +kernel)) (zg_of (fun _ h => List.mem_cons_of_mem _ (List.mem_append_right _ (List.mem_append_right _ (List.mem_append_right _ (List.mem_append_left _ (h)))))) wgX12_opens)
set_option maxRecDepth 20000 in
theorem hX12_open_X12_next_v345 : GoodIn wzX12_open (wsV RX12 345 RX12 yX12_next wzX12_next) := goodIn_app (goodIn_r _ [10, 11, 12, 6] rfl (by decide +kernel)) (zg_of (fun _ h => List.mem_cons_of_mem _ (List.mem_append_right _ (List.mem_append_right _ (List.mem_append_right _ (List.mem_append_right _ (List.mem_append_left _ (h))))))) wgX12_next)
set_option maxRecDepth 20000 in
theorem hX12_shut_X12_need_v355 : GoodIn wzX12_shut (wsV RX12 355 RX12 yX12_need wzX12_need) := goodIn_app (goodIn_r _ [3, 4, 5, 6] rfl (by decide +kernel)) (zg_of (fun _ h => List.mem_cons_of_mem _ (List.mem_append_right _ (List.mem_append_right _ (List.mem_append_left _ (h))))) wgX12_need)
set_option maxRecDepth 20000 in
theorem hX12_loopGoal_X12_goal_v373 : GoodIn wzX12_loopGoal (wsV RX12 373 RX12 yX12_goal wzX12_goal) := goodIn_app (goodIn_r _ [3, 4, 5, 6] rfl (by decide +kernel)) (zg_of (fun _ h => List.mem_cons_of_mem _ (List.mem_append_right _ (List.mem_append_right _ (List.mem_append_left _ (h))))) wgX12_goal)
set_option maxRecDepth 20000 in
theorem hX12_pend_X12_goes_v380 : GoodIn wzX12_pend (wsV RX12 380 RX12 yX12_goes wzX12_goes) := goodIn_app (goodIn_r _ [8, 9, 10, 11] rfl (by decide +kernel)) (zg_of (fun _ h => List.mem_cons_of_mem _ (List.mem_append_right _ (List.mem_append_right _ (List.mem_append_left _ (h))))) wgX12_goes)
set_option maxRecDepth 20000 in
theorem hX12_resolve_X12_goes_v380 : GoodIn wzX12_resolve (wsV RX12 380 RX12 yX12_goes wzX12_goes) := goodIn_app (goodIn_r _ [8, 9, 10, 11] rfl (by decide +kernel)) (zg_of (fun _ h => List.mem_cons_of_mem _ (List.mem_append_right _ (List.mem_append_right _ (List.mem_append_left _ (h))))) wgX12_goes)
set_option maxRecDepth 20000 in
theorem hX12_then_X12_push_v390 : GoodIn wzX12_then (wsV RX12 390 RX12 yX12_push wzX12_push) := goodIn_app (goodIn_r _ [3, 4, 5, 6] rfl (by decide +kernel)) (zg_of (fun _ h => List.mem_cons_of_mem _ (List.mem_append_right _ (List.mem_append_right _ (List.mem_append_left _ (h))))) wgX12_push)
set_option maxRecDepth 20000 in
theorem hX12_body_X12_can_v341 : GoodIn wzX12_body (wsV RX12 341 RX12 yX12_can wzX12_can) := goodIn_app (goodIn_r _ [2, 3, 4, 5] rfl (by decide +kernel)) (zg_of (fun _ h => List.mem_cons_of_mem _ (List.mem_append_right _ (List.mem_append_right _ (List.mem_append_left _ (h))))) wgX12_can)
set_option maxRecDepth 20000 in
theorem hX12_body_X12_then_v393 : GoodIn wzX12_body (wsV RX12 393 RX12 yX12_then wzX12_then) := goodIn_app (goodIn_r _ [6, 7, 8, 5] rfl (by decide +kernel)) (zg_of (fun _ h => List.mem_cons_of_mem _ (List.mem_append_right _ (List.mem_append_right _ (List.mem_append_right _ (List.mem_append_left _ (h)))))) wgX12_then)
set_option maxRecDepth 20000 in
theorem hX12_list_X12_over_v490 : GoodIn wzX12_list (wsV RX12 490 RX12 yX12_over wzX12_over) := goodIn_app (goodIn_r _ [6, 7, 8, 9] rfl (by decide +kernel)) (zg_of (fun _ h => List.mem_cons_of_mem _ (List.mem_append_right _ (List.mem_append_right _ (List.mem_append_left _ (h))))) wgX12_over)
set_option maxRecDepth 20000 in
theorem hX12_list_X12_then_v393 : GoodIn wzX12_list (wsV RX12 393 RX12 yX12_then wzX12_then) := goodIn_app (goodIn_r _ [10, 11, 12, 9] rfl (by decide +kernel)) (zg_of (fun _ h => List.mem_cons_of_mem _ (List.mem_append_right _ (List.mem_append_right _ (List.mem_append_right _ (List.mem_append_left _ (h)))))) wgX12_then)
set_option maxRecDepth 20000 in
theorem hX12_list_X12_note_v487 : GoodIn wzX12_list (wsV RX12 487 RX12 yX12_note wzX12_note) := goodIn_app (goodIn_r _ [13, 14, 15, 9] rfl (by decide +kernel)) (zg_of (fun _ h => List.mem_cons_of_mem _ (List.mem_append_right _ (List.mem_append_right _ (List.mem_append_right _ (List.mem_append_right _ (List.mem_append_left _ (h))))))) wgX12_note)
set_option maxRecDepth 20000 in
theorem hX12_jump_X12_next_v345 : GoodIn wzX12_jump (wsV RX12 345 RX12 yX12_next wzX12_next) := goodIn_app (goodIn_r _ [13, 14, 15, 16] rfl (by decide +kernel)) (zg_of (fun _ h => List.mem_cons_of_mem _ (List.mem_append_right _ (List.mem_append_right _ (List.mem_append_left _ (h))))) wgX12_next)
set_option maxRecDepth 20000 in
theorem hX12_jump_X12_emit_v464 : GoodIn wzX12_jump (wsV RX12 464 RX12 yX12_emit wzX12_emit) := goodIn_app (goodIn_r _ [17, 18, 19, 16] rfl (by decide +kernel)) (zg_of (fun _ h => List.mem_cons_of_mem _ (List.mem_append_right _ (List.mem_append_right _ (List.mem_append_right _ (List.mem_append_left _ (h)))))) wgX12_emit)
set_option maxRecDepth 20000 in
theorem hX12_jump_X12_pend_v530 : GoodIn wzX12_jump (wsV RX12 530 RX12 yX12_pend wzX12_pend) := goodIn_app (goodIn_r _ [20, 21, 22, 16] rfl (by decide +kernel)) (zg_of (fun _ h => List.mem_cons_of_mem _ (List.mem_append_right _ (List.mem_append_right _ (List.mem_append_right _ (List.mem_append_right _ (List.mem_append_left _ (h))))))) wgX12_pend)
set_option maxRecDepth 20000 in
theorem hX12_jump_X12_need_v355 : GoodIn wzX12_jump (wsV RX12 355 RX12 yX12_need wzX12_need) := goodIn_app (goodIn_r _ [23, 24, 25, 16] rfl (by decide +kernel)) (zg_of (fun _ h => List.mem_cons_of_mem _ (List.mem_append_right _ (List.mem_append_right _ (List.mem_append_right _ (List.mem_append_right _ (List.mem_append_right _ (List.mem_append_left _ (h)))))))) wgX12_need)
set_option maxRecDepth 20000 in
theorem hX12_jump_X12_fail_v337 : GoodIn wzX12_jump (wsV RX12 337 RX12 yX12_fail wzX12_fail) := goodIn_app (goodIn_r _ [26, 27, 28, 16] rfl (by decide +kernel)) (zg_of (fun _ h => List.mem_cons_of_mem _ (List.mem_append_right _ (List.mem_append_right _ (List.mem_append_right _ (List.mem_append_right _ (List.mem_append_right _ (List.mem_append_right _ (List.mem_append_left _ (h))))))))) wgX12_fail)
set_option maxRecDepth 20000 in
theorem hX12_stat_X12_can_v341 : GoodIn wzX12_stat (wsV RX12 341 RX12 yX12_can wzX12_can) := goodIn_app (goodIn_r _ [4, 5, 6, 7] rfl (by decide +kernel)) (zg_of (fun _ h => List.mem_cons_of_mem _ (List.mem_append_right _ (List.mem_append_right _ (List.mem_append_left _ (h))))) wgX12_can)
set_option maxRecDepth 20000 in
theorem hX12_stat_X12_emit_v464 : GoodIn wzX12_stat (wsV RX12 464 RX12 yX12_emit wzX12_emit) := goodIn_app (goodIn_r _ [8, 9, 10, 7] rfl (by decide +kernel)) (zg_of (fun _ h => List.mem_cons_of_mem _ (List.mem_append_right _ (List.mem_append_right _ (List.mem_append_right _ (List.mem_append_left _ (h)))))) wgX12_emit)
set_option maxRecDepth 20000 in
theorem hX12_stat_X12_jump_v497 : GoodIn wzX12_stat (wsV RX12 497 RX12 yX12_jump wzX12_jump) := goodIn_app (goodIn_r _ [11, 12, 13, 7] rfl (by decide +kernel)) (zg_of (fun _ h => List.mem_cons_of_mem _ (List.mem_append_right _ (List.mem_append_right _ (List.mem_append_right _ (List.mem_append_right _ (List.mem_append_left _ (h))))))) wgX12_jump)
set_option maxRecDepth 20000 in
theorem hX12_stat_X12_over_v490 : GoodIn wzX12_stat (wsV RX12 490 RX12 yX12_over wzX12_over) := goodIn_app (goodIn_r _ [14, 15, 16, 7] rfl (by decide +kernel)) (zg_of (fun _ h => List.mem_cons_of_mem _ (List.mem_append_right _ (List.mem_append_right _ (List.mem_append_right _ (List.mem_append_right _ (List.mem_append_right _ (List.mem_append_left _ (h)))))))) wgX12_over)
set_option maxRecDepth 20000 in
theorem hX12_stat_X12_next_v345 : GoodIn wzX12_stat (wsV RX12 345 RX12 yX12_next wzX12_next) := goodIn_app (goodIn_r _ [17, 18, 19, 7] rfl (by decide +kernel)) (zg_of (fun _ h => List.mem_cons_of_mem _ (List.mem_append_right _ (List.mem_append_right _ (List.mem_append_right _ (List.mem_append_right _ (List.mem_append_right _ (List.mem_append_right _ (List.mem_append_left _ (h))))))))) wgX12_next)
set_option maxRecDepth 20000 in
theorem hX12_block_X12_shut_v468 : GoodIn wzX12_block (wsV RX12 468 RX12 yX12_shut wzX12_shut) := goodIn_app (goodIn_r _ [5, 6, 7, 8] rfl (by decide +kernel)) (zg_of (fun _ h => List.mem_cons_of_mem _ (List.mem_append_right _ (List.mem_append_right _ (List.mem_append_left _ (h))))) wgX12_shut)
set_option maxRecDepth 20000 in
theorem hX12_block_X12_open_v475 : GoodIn wzX12_block (wsV RX12 475 RX12 yX12_open wzX12_open) := goodIn_app (goodIn_r _ [9, 10, 11, 8] rfl (by decide +kernel)) (zg_of (fun _ h => List.mem_cons_of_mem _ (List.mem_append_right _ (List.mem_append_right _ (List.mem_append_right _ (List.mem_append_left _ (h)))))) wgX12_open)
set_option maxRecDepth 20000 in
theorem hX12_block_X12_then_v393 : GoodIn wzX12_block (wsV RX12 393 RX12 yX12_then wzX12_then) := goodIn_app (goodIn_r _ [12, 13, 14, 8] rfl (by decide +kernel)) (zg_of (fun _ h => List.mem_cons_of_mem _ (List.mem_append_right _ (List.mem_append_right _ (List.mem_append_right _ (List.mem_append_right _ (List.mem_append_left _ (h))))))) wgX12_then)
set_option maxRecDepth 20000 in
theorem hX12_telling_X12_can_v341 : GoodIn wzX12_telling (wsV RX12 341 RX12 yX12_can wzX12_can) := goodIn_app (goodIn_r _ [6, 7, 8, 9] rfl (by decide +kernel)) (zg_of (fun _ h => List.mem_cons_of_mem _ (List.mem_append_right _ (List.mem_append_right _ (List.mem_append_left _ (h))))) wgX12_can)
set_option maxRecDepth 20000 in
theorem hX12_telling_X12_seenAs_v471 : GoodIn wzX12_telling (wsV RX12 471 RX12 yX12_seenAs wzX12_seenAs) := goodIn_app (goodIn_r _ [10, 11, 12, 9] rfl (by decide +kernel)) (zg_of (fun _ h => List.mem_cons_of_mem _ (List.mem_append_right _ (List.mem_append_right _ (List.mem_append_right _ (List.mem_append_left _ (h)))))) wgX12_seenAs)
set_option maxRecDepth 20000 in
theorem hX12_telling_X12_next_v345 : GoodIn wzX12_telling (wsV RX12 345 RX12 yX12_next wzX12_next) := goodIn_app (goodIn_r _ [13, 14, 15, 9] rfl (by decide +kernel)) (zg_of (fun _ h => List.mem_cons_of_mem _ (List.mem_append_right _ (List.mem_append_right _ (List.mem_append_right _ (List.mem_append_right _ (List.mem_append_left _ (h))))))) wgX12_next)
set_option maxRecDepth 20000 in
theorem hX12_telling_X12_fail_v337 : GoodIn wzX12_telling (wsV RX12 337 RX12 yX12_fail wzX12_fail) := goodIn_app (goodIn_r _ [16, 17, 18, 9] rfl (by decide +kernel)) (zg_of (fun _ h => List.mem_cons_of_mem _ (List.mem_append_right _ (List.mem_append_right _ (List.mem_append_right _ (List.mem_append_right _ (List.mem_append_right _ (List.mem_append_left _ (h)))))))) wgX12_fail)
set_option maxRecDepth 20000 in
theorem hX12_tell_X12_see_v506 : GoodIn wzX12_tell (wsV RX12 506 RX12 yX12_see wzX12_see) := goodIn_app (goodIn_r _ [4, 5, 6, 7] rfl (by decide +kernel)) (zg_of (fun _ h => List.mem_cons_of_mem _ (List.mem_append_right _ (List.mem_append_right _ (List.mem_append_left _ (h))))) wgX12_see)
set_option maxRecDepth 20000 in
theorem hX12_tell_X12_emit_v464 : GoodIn wzX12_tell (wsV RX12 464 RX12 yX12_emit wzX12_emit) := goodIn_app (goodIn_r _ [8, 9, 10, 7] rfl (by decide +kernel)) (zg_of (fun _ h => List.mem_cons_of_mem _ (List.mem_append_right _ (List.mem_append_right _ (List.mem_append_right _ (List.mem_append_left _ (h)))))) wgX12_emit)
set_option maxRecDepth 20000 in
theorem hX12_tell_X12_need_v355 : GoodIn wzX12_tell (wsV RX12 355 RX12 yX12_need wzX12_need) := goodIn_app (goodIn_r _ [11, 12, 13, 7] rfl (by decide +kernel)) (zg_of (fun _ h => List.mem_cons_of_mem _ (List.mem_append_right _ (List.mem_append_right _ (List.mem_append_right _ (List.mem_append_right _ (List.mem_append_left _ (h))))))) wgX12_need)
set_option maxRecDepth 20000 in
theorem hX12_tell_X12_over_v490 : GoodIn wzX12_tell (wsV RX12 490 RX12 yX12_over wzX12_over) := goodIn_app (goodIn_r _ [14, 15, 16, 7] rfl (by decide +kernel)) (zg_of (fun _ h => List.mem_cons_of_mem _ (List.mem_append_right _ (List.mem_append_right _ (List.mem_append_right _ (List.mem_append_right _ (List.mem_append_right _ (List.mem_append_left _ (h)))))))) wgX12_over)
set_option maxRecDepth 20000 in
theorem hX12_tell_X12_next_v345 : GoodIn wzX12_tell (wsV RX12 345 RX12 yX12_next wzX12_next) := goodIn_app (goodIn_r _ [17, 18, 19, 7] rfl (by decide +kernel)) (zg_of (fun _ h => List.mem_cons_of_mem _ (List.mem_append_right _ (List.mem_append_right _ (List.mem_append_right _ (List.mem_append_right _ (List.mem_append_right _ (List.mem_append_right _ (List.mem_append_left _ (h))))))))) wgX12_next)
set_option maxRecDepth 20000 in
theorem hX12_tell_X12_telling_v503 : GoodIn wzX12_tell (wsV RX12 503 RX12 yX12_telling wzX12_telling) := goodIn_app (goodIn_r _ [20, 21, 22, 7] rfl (by decide +kernel)) (zg_of (fun _ h => List.mem_cons_of_mem _ (List.mem_append_right _ (List.mem_append_right _ (List.mem_append_right _ (List.mem_append_right _ (List.mem_append_right _ (List.mem_append_right _ (List.mem_append_right _ (List.mem_append_left _ (h)))))))))) wgX12_telling)
set_option maxRecDepth 20000 in
theorem hX12_tell_X12_then_v393 : GoodIn wzX12_tell (wsV RX12 393 RX12 yX12_then wzX12_then) := goodIn_app (goodIn_r _ [23, 24, 25, 7] rfl (by decide +kernel)) (zg_of (fun _ h => List.mem_cons_of_mem _ (List.mem_append_right _ (List.mem_append_right _ (List.mem_append_right _ (List.mem_append_right _ (List.mem_append_right _ (List.mem_append_right _ (List.mem_append_right _ (List.mem_append_right _ (List.mem_append_left _ (h))))))))))) wgX12_then)
set_option maxRecDepth 20000 in
theorem hX12_label_X12_goal_v373 : GoodIn wzX12_label (wsV RX12 373 RX12 yX12_goal wzX12_goal) := goodIn_app (goodIn_r _ [7, 8, 9, 10] rfl (by decide +kernel)) (zg_of (fun _ h => List.mem_cons_of_mem _ (List.mem_append_right _ (List.mem_append_right _ (List.mem_append_left _ (h))))) wgX12_goal)
set_option maxRecDepth 20000 in
theorem hX12_label_X12_next_v345 : GoodIn wzX12_label (wsV RX12 345 RX12 yX12_next wzX12_next) := goodIn_app (goodIn_r _ [11, 12, 13, 10] rfl (by decide +kernel)) (zg_of (fun _ h => List.mem_cons_of_mem _ (List.mem_append_right _ (List.mem_append_right _ (List.mem_append_right _ (List.mem_append_left _ (h)))))) wgX12_next)
set_option maxRecDepth 20000 in
theorem hX12_label_X12_body_v521 : GoodIn wzX12_label (wsV RX12 521 RX12 yX12_body wzX12_body) := goodIn_app (goodIn_r _ [14, 15, 16, 10] rfl (by decide +kernel)) (zg_of (fun _ h => List.mem_cons_of_mem _ (List.mem_append_right _ (List.mem_append_right _ (List.mem_append_right _ (List.mem_append_right _ (List.mem_append_left _ (h))))))) wgX12_body)
set_option maxRecDepth 20000 in
theorem hX12_label_X12_fail_v337 : GoodIn wzX12_label (wsV RX12 337 RX12 yX12_fail wzX12_fail) := goodIn_app (goodIn_r _ [17, 18, 19, 10] rfl (by decide +kernel)) (zg_of (fun _ h => List.mem_cons_of_mem _ (List.mem_append_right _ (List.mem_append_right _ (List.mem_append_right _ (List.mem_append_right _ (List.mem_append_right _ (List.mem_append_left _ (h)))))))) wgX12_fail)
set_option maxRecDepth 20000 in
theorem hX12_got_X12_seenAs_v471 : GoodIn wzX12_got (wsV RX12 471 RX12 yX12_seenAs wzX12_seenAs) := goodIn_app (goodIn_r _ [3, 4, 5, 6] rfl (by decide +kernel)) (zg_of (fun _ h => List.mem_cons_of_mem _ (List.mem_append_right _ (List.mem_append_right _ (List.mem_append_left _ (h))))) wgX12_seenAs)
set_option maxRecDepth 20000 in
theorem hX12_got_X12_fail_v337 : GoodIn wzX12_got (wsV RX12 337 RX12 yX12_fail wzX12_fail) := goodIn_app (goodIn_r _ [7, 8, 9, 6] rfl (by decide +kernel)) (zg_of (fun _ h => List.mem_cons_of_mem _ (List.mem_append_right _ (List.mem_append_right _ (List.mem_append_right _ (List.mem_append_left _ (h)))))) wgX12_fail)
set_option maxRecDepth 20000 in
theorem hX12_named_X12_next_v345 : GoodIn wzX12_named (wsV RX12 345 RX12 yX12_next wzX12_next) := goodIn_app (goodIn_r _ [12, 13, 14, 15] rfl (by decide +kernel)) (zg_of (fun _ h => List.mem_cons_of_mem _ (List.mem_append_right _ (List.mem_append_right _ (List.mem_append_left _ (h))))) wgX12_next)
set_option maxRecDepth 20000 in
theorem hX12_named_X12_got_v517 : GoodIn wzX12_named (wsV RX12 517 RX12 yX12_got wzX12_got) := goodIn_app (goodIn_r _ [16, 17, 18, 15] rfl (by decide +kernel)) (zg_of (fun _ h => List.mem_cons_of_mem _ (List.mem_append_right _ (List.mem_append_right _ (List.mem_append_right _ (List.mem_append_left _ (h)))))) wgX12_got)
set_option maxRecDepth 20000 in
theorem hX12_named_X12_can_v341 : GoodIn wzX12_named (wsV RX12 341 RX12 yX12_can wzX12_can) := goodIn_app (goodIn_r _ [19, 20, 21, 15] rfl (by decide +kernel)) (zg_of (fun _ h => List.mem_cons_of_mem _ (List.mem_append_right _ (List.mem_append_right _ (List.mem_append_right _ (List.mem_append_right _ (List.mem_append_left _ (h))))))) wgX12_can)
set_option maxRecDepth 20000 in
theorem hX12_named_X12_emit_v464 : GoodIn wzX12_named (wsV RX12 464 RX12 yX12_emit wzX12_emit) := goodIn_app (goodIn_r _ [22, 23, 24, 15] rfl (by decide +kernel)) (zg_of (fun _ h => List.mem_cons_of_mem _ (List.mem_append_right _ (List.mem_append_right _ (List.mem_append_right _ (List.mem_append_right _ (List.mem_append_right _ (List.mem_append_left _ (h)))))))) wgX12_emit)
set_option maxRecDepth 20000 in
theorem hX12_named_X12_then_v393 : GoodIn wzX12_named (wsV RX12 393 RX12 yX12_then wzX12_then) := goodIn_app (goodIn_r _ [25, 26, 27, 15] rfl (by decide +kernel)) (zg_of (fun _ h => List.mem_cons_of_mem _ (List.mem_append_right _ (List.mem_append_right _ (List.mem_append_right _ (List.mem_append_right _ (List.mem_append_right _ (List.mem_append_right _ (List.mem_append_left _ (h))))))))) wgX12_then)
set_option maxRecDepth 20000 in
theorem hX12_named_X12_need_v355 : GoodIn wzX12_named (wsV RX12 355 RX12 yX12_need wzX12_need) := goodIn_app (goodIn_r _ [28, 29, 30, 15] rfl (by decide +kernel)) (zg_of (fun _ h => List.mem_cons_of_mem _ (List.mem_append_right _ (List.mem_append_right _ (List.mem_append_right _ (List.mem_append_right _ (List.mem_append_right _ (List.mem_append_right _ (List.mem_append_right _ (List.mem_append_left _ (h)))))))))) wgX12_need)
set_option maxRecDepth 20000 in
theorem hX12_named_X12_over_v490 : GoodIn wzX12_named (wsV RX12 490 RX12 yX12_over wzX12_over) := goodIn_app (goodIn_r _ [31, 32, 33, 15] rfl (by decide +kernel)) (zg_of (fun _ h => List.mem_cons_of_mem _ (List.mem_append_right _ (List.mem_append_right _ (List.mem_append_right _ (List.mem_append_right _ (List.mem_append_right _ (List.mem_append_right _ (List.mem_append_right _ (List.mem_append_right _ (List.mem_append_left _ (h))))))))))) wgX12_over)
set_option maxRecDepth 20000 in
theorem hX12_named_X12_label_v513 : GoodIn wzX12_named (wsV RX12 513 RX12 yX12_label wzX12_label) := goodIn_app (goodIn_r _ [34, 35, 36, 15] rfl (by decide +kernel)) (zg_of (fun _ h => List.mem_cons_of_mem _ (List.mem_append_right _ (List.mem_append_right _ (List.mem_append_right _ (List.mem_append_right _ (List.mem_append_right _ (List.mem_append_right _ (List.mem_append_right _ (List.mem_append_right _ (List.mem_append_right _ (List.mem_append_left _ (h)))))))))))) wgX12_label)
set_option maxRecDepth 20000 in
theorem hX12_named_X12_patch_v510 : GoodIn wzX12_named (wsV RX12 510 RX12 yX12_patch wzX12_patch) := goodIn_app (goodIn_r _ [37, 38, 39, 15] rfl (by decide +kernel)) (zg_of (fun _ h => List.mem_cons_of_mem _ (List.mem_append_right _ (List.mem_append_right _ (List.mem_append_right _ (List.mem_append_right _ (List.mem_append_right _ (List.mem_append_right _ (List.mem_append_right _ (List.mem_append_right _ (List.mem_append_right _ (List.mem_append_right _ (List.mem_append_left _ (h))))))))))))) wgX12_patch)
set_option maxRecDepth 20000 in
theorem hX12_ending_X12_emit_v464 : GoodIn wzX12_ending (wsV RX12 464 RX12 yX12_emit wzX12_emit) := goodIn_app (goodIn_r _ [9, 10, 11, 12] rfl (by decide +kernel)) (zg_of (fun _ h => List.mem_cons_of_mem _ (List.mem_append_right _ (List.mem_append_right _ (List.mem_append_left _ (h))))) wgX12_emit)
set_option maxRecDepth 20000 in
theorem hX12_ending_X12_need_v355 : GoodIn wzX12_ending (wsV RX12 355 RX12 yX12_need wzX12_need) := goodIn_app (goodIn_r _ [13, 14, 15, 12] rfl (by decide +kernel)) (zg_of (fun _ h => List.mem_cons_of_mem _ (List.mem_append_right _ (List.mem_append_right _ (List.mem_append_right _ (List.mem_append_left _ (h)))))) wgX12_need)
set_option maxRecDepth 20000 in
theorem hX12_ending_X12_over_v490 : GoodIn wzX12_ending (wsV RX12 490 RX12 yX12_over wzX12_over) := goodIn_app (goodIn_r _ [16, 17, 18, 12] rfl (by decide +kernel)) (zg_of (fun _ h => List.mem_cons_of_mem _ (List.mem_append_right _ (List.mem_append_right _ (List.mem_append_right _ (List.mem_append_right _ (List.mem_append_left _ (h))))))) wgX12_over)
set_option maxRecDepth 20000 in
theorem hX12_ending_X12_next_v345 : GoodIn wzX12_ending (wsV RX12 345 RX12 yX12_next wzX12_next) := goodIn_app (goodIn_r _ [19, 20, 21, 12] rfl (by decide +kernel)) (zg_of (fun _ h => List.mem_cons_of_mem _ (List.mem_append_right _ (List.mem_append_right _ (List.mem_append_right _ (List.mem_append_right _ (List.mem_append_right _ (List.mem_append_left _ (h)))))))) wgX12_next)
set_option maxRecDepth 20000 in
theorem hX12_ending_X12_then_v393 : GoodIn wzX12_ending (wsV RX12 393 RX12 yX12_then wzX12_then) := goodIn_app (goodIn_r _ [22, 23, 24, 12] rfl (by decide +kernel)) (zg_of (fun _ h => List.mem_cons_of_mem _ (List.mem_append_right _ (List.mem_append_right _ (List.mem_append_right _ (List.mem_append_right _ (List.mem_append_right _ (List.mem_append_right _ (List.mem_append_left _ (h))))))))) wgX12_then)
set_option maxRecDepth 20000 in
theorem hX12_ending_X12_isInArms_v524 : GoodIn wzX12_ending (wsV RX12 524 RX12 yX12_isInArms wzX12_isInArms) := goodIn_app (goodIn_r _ [25, 26, 27, 12] rfl (by decide +kernel)) (zg_of (fun _ h => List.mem_cons_of_mem _ (List.mem_append_right _ (List.mem_append_right _ (List.mem_append_right _ (List.mem_append_right _ (List.mem_append_right _ (List.mem_append_right _ (List.mem_append_right _ (List.mem_append_left _ (h)))))))))) wgX12_isInArms)
set_option maxRecDepth 20000 in
theorem hX12_ending_X12_fail_v337 : GoodIn wzX12_ending (wsV RX12 337 RX12 yX12_fail wzX12_fail) := goodIn_app (goodIn_r _ [28, 29, 30, 12] rfl (by decide +kernel)) (zg_of (fun _ h => List.mem_cons_of_mem _ (List.mem_append_right _ (List.mem_append_right _ (List.mem_append_right _ (List.mem_append_right _ (List.mem_append_right _ (List.mem_append_right _ (List.mem_append_right _ (List.mem_append_right _ (List.mem_append_left _ (h))))))))))) wgX12_fail)
set_option maxRecDepth 20000 in
theorem hX12_throwing_X12_next_v345 : GoodIn wzX12_throwing (wsV RX12 345 RX12 yX12_next wzX12_next) := goodIn_app (goodIn_r _ [10, 11, 12, 13] rfl (by decide +kernel)) (zg_of (fun _ h => List.mem_cons_of_mem _ (List.mem_append_right _ (List.mem_append_right _ (List.mem_append_left _ (h))))) wgX12_next)
set_option maxRecDepth 20000 in
theorem hX12_throwing_X12_can_v341 : GoodIn wzX12_throwing (wsV RX12 341 RX12 yX12_can wzX12_can) := goodIn_app (goodIn_r _ [14, 15, 16, 13] rfl (by decide +kernel)) (zg_of (fun _ h => List.mem_cons_of_mem _ (List.mem_append_right _ (List.mem_append_right _ (List.mem_append_right _ (List.mem_append_left _ (h)))))) wgX12_can)
set_option maxRecDepth 20000 in
theorem hX12_throwing_X12_seenAs_v471 : GoodIn wzX12_throwing (wsV RX12 471 RX12 yX12_seenAs wzX12_seenAs) := goodIn_app (goodIn_r _ [17, 18, 19, 13] rfl (by decide +kernel)) (zg_of (fun _ h => List.mem_cons_of_mem _ (List.mem_append_right _ (List.mem_append_right _ (List.mem_append_right _ (List.mem_append_right _ (List.mem_append_left _ (h))))))) wgX12_seenAs)
set_option maxRecDepth 20000 in
theorem hX12_throwing_X12_fail_v337 : GoodIn wzX12_throwing (wsV RX12 337 RX12 yX12_fail wzX12_fail) := goodIn_app (goodIn_r _ [20, 21, 22, 13] rfl (by decide +kernel)) (zg_of (fun _ h => List.mem_cons_of_mem _ (List.mem_append_right _ (List.mem_append_right _ (List.mem_append_right _ (List.mem_append_right _ (List.mem_append_right _ (List.mem_append_left _ (h)))))))) wgX12_fail)
set_option maxRecDepth 20000 in
theorem hX12_throwing_X12_emit_v464 : GoodIn wzX12_throwing (wsV RX12 464 RX12 yX12_emit wzX12_emit) := goodIn_app (goodIn_r _ [23, 24, 25, 13] rfl (by decide +kernel)) (zg_of (fun _ h => List.mem_cons_of_mem _ (List.mem_append_right _ (List.mem_append_right _ (List.mem_append_right _ (List.mem_append_right _ (List.mem_append_right _ (List.mem_append_right _ (List.mem_append_left _ (h))))))))) wgX12_emit)
set_option maxRecDepth 20000 in
theorem hX12_throwing_X12_need_v355 : GoodIn wzX12_throwing (wsV RX12 355 RX12 yX12_need wzX12_need) := goodIn_app (goodIn_r _ [26, 27, 28, 13] rfl (by decide +kernel)) (zg_of (fun _ h => List.mem_cons_of_mem _ (List.mem_append_right _ (List.mem_append_right _ (List.mem_append_right _ (List.mem_append_right _ (List.mem_append_right _ (List.mem_append_right _ (List.mem_append_right _ (List.mem_append_left _ (h)))))))))) wgX12_need)
set_option maxRecDepth 20000 in
theorem hX12_throwing_X12_over_v490 : GoodIn wzX12_throwing (wsV RX12 490 RX12 yX12_over wzX12_over) := goodIn_app (goodIn_r _ [29, 30, 31, 13] rfl (by decide +kernel)) (zg_of (fun _ h => List.mem_cons_of_mem _ (List.mem_append_right _ (List.mem_append_right _ (List.mem_append_right _ (List.mem_append_right _ (List.mem_append_right _ (List.mem_append_right _ (List.mem_append_right _ (List.mem_append_right _ (List.mem_append_left _ (h))))))))))) wgX12_over)
set_option maxRecDepth 20000 in
theorem hX12_throwing_X12_then_v393 : GoodIn wzX12_throwing (wsV RX12 393 RX12 yX12_then wzX12_then) := goodIn_app (goodIn_r _ [32, 33, 34, 13] rfl (by decide +kernel)) (zg_of (fun _ h => List.mem_cons_of_mem _ (List.mem_append_right _ (List.mem_append_right _ (List.mem_append_right _ (List.mem_append_right _ (List.mem_append_right _ (List.mem_append_right _ (List.mem_append_right _ (List.mem_append_right _ (List.mem_append_right _ (List.mem_append_left _ (h)))))))))))) wgX12_then)
set_option maxRecDepth 20000 in
theorem hX12_asserted_X12_next_v345 : GoodIn wzX12_asserted (wsV RX12 345 RX12 yX12_next wzX12_next) := goodIn_app (goodIn_r _ [7, 8, 9, 10] rfl (by decide +kernel)) (zg_of (fun _ h => List.mem_cons_of_mem _ (List.mem_append_right _ (List.mem_append_right _ (List.mem_append_left _ (h))))) wgX12_next)
set_option maxRecDepth 20000 in
theorem hX12_asserted_X12_emit_v464 : GoodIn wzX12_asserted (wsV RX12 464 RX12 yX12_emit wzX12_emit) := goodIn_app (goodIn_r _ [11, 12, 13, 10] rfl (by decide +kernel)) (zg_of (fun _ h => List.mem_cons_of_mem _ (List.mem_append_right _ (List.mem_append_right _ (List.mem_append_right _ (List.mem_append_left _ (h)))))) wgX12_emit)
set_option maxRecDepth 20000 in
theorem hX12_asserted_X12_then_v393 : GoodIn wzX12_asserted (wsV RX12 393 RX12 yX12_then wzX12_then) := goodIn_app (goodIn_r _ [14, 15, 16, 10] rfl (by decide +kernel)) (zg_of (fun _ h => List.mem_cons_of_mem _ (List.mem_append_right _ (List.mem_append_right _ (List.mem_append_right _ (List.mem_append_right _ (List.mem_append_left _ (h))))))) wgX12_then)
set_option maxRecDepth 20000 in
theorem hX12_asserted_X12_need_v355 : GoodIn wzX12_asserted (wsV RX12 355 RX12 yX12_need wzX12_need) := goodIn_app (goodIn_r _ [17, 18, 19, 10] rfl (by decide +kernel)) (zg_of (fun _ h => List.mem_cons_of_mem _ (List.mem_append_right _ (List.mem_append_right _ (List.mem_append_right _ (List.mem_append_right _ (List.mem_append_right _ (List.mem_append_left _ (h)))))))) wgX12_need)
set_option maxRecDepth 20000 in
theorem hX12_asserted_X12_over_v490 : GoodIn wzX12_asserted (wsV RX12 490 RX12 yX12_over wzX12_over) := goodIn_app (goodIn_r _ [20, 21, 22, 10] rfl (by decide +kernel)) (zg_of (fun _ h => List.mem_cons_of_mem _ (List.mem_append_right _ (List.mem_append_right _ (List.mem_append_right _ (List.mem_append_right _ (List.mem_append_right _ (List.mem_append_right _ (List.mem_append_left _ (h))))))))) wgX12_over)
set_option maxRecDepth 20000 in
theorem hX12_branch_X12_next_v345 : GoodIn wzX12_branch (wsV RX12 345 RX12 yX12_next wzX12_next) := goodIn_app (goodIn_r _ [9, 10, 11, 12] rfl (by decide +kernel)) (zg_of (fun _ h => List.mem_cons_of_mem _ (List.mem_append_right _ (List.mem_append_right _ (List.mem_append_left _ (h))))) wgX12_next)
set_option maxRecDepth 20000 in
theorem hX12_branch_X12_open_v475 : GoodIn wzX12_branch (wsV RX12 475 RX12 yX12_open wzX12_open) := goodIn_app (goodIn_r _ [13, 14, 15, 12] rfl (by decide +kernel)) (zg_of (fun _ h => List.mem_cons_of_mem _ (List.mem_append_right _ (List.mem_append_right _ (List.mem_append_right _ (List.mem_append_left _ (h)))))) wgX12_open)
set_option maxRecDepth 20000 in
theorem hX12_branch_X12_then_v393 : GoodIn wzX12_branch (wsV RX12 393 RX12 yX12_then wzX12_then) := goodIn_app (goodIn_r _ [16, 17, 18, 12] rfl (by decide +kernel)) (zg_of (fun _ h => List.mem_cons_of_mem _ (List.mem_append_right _ (List.mem_append_right _ (List.mem_append_right _ (List.mem_append_right _ (List.mem_append_left _ (h))))))) wgX12_then)
set_option maxRecDepth 20000 in
theorem hX12_branch_X12_shut_v468 : GoodIn wzX12_branch (wsV RX12 468 RX12 yX12_shut wzX12_shut) := goodIn_app (goodIn_r _ [19, 20, 21, 12] rfl (by decide +kernel)) (zg_of (fun _ h => List.mem_cons_of_mem _ (List.mem_append_right _ (List.mem_append_right _ (List.mem_append_right _ (List.mem_append_right _ (List.mem_append_right _ (List.mem_append_left _ (h)))))))) wgX12_shut)
set_option maxRecDepth 20000 in
theorem hX12_branch_X12_emit_v464 : GoodIn wzX12_branch (wsV RX12 464 RX12 yX12_emit wzX12_emit) := goodIn_app (goodIn_r _ [22, 23, 24, 12] rfl (by decide +kernel)) (zg_of (fun _ h => List.mem_cons_of_mem _ (List.mem_append_right _ (List.mem_append_right _ (List.mem_append_right _ (List.mem_append_right _ (List.mem_append_right _ (List.mem_append_right _ (List.mem_append_left _ (h))))))))) wgX12_emit)
set_option maxRecDepth 20000 in
theorem hX12_branch_X12_body_v521 : GoodIn wzX12_branch (wsV RX12 521 RX12 yX12_body wzX12_body) := goodIn_app (goodIn_r _ [25, 26, 27, 12] rfl (by decide +kernel)) (zg_of (fun _ h => List.mem_cons_of_mem _ (List.mem_append_right _ (List.mem_append_right _ (List.mem_append_right _ (List.mem_append_right _ (List.mem_append_right _ (List.mem_append_right _ (List.mem_append_right _ (List.mem_append_left _ (h)))))))))) wgX12_body)
set_option maxRecDepth 20000 in
theorem hX12_branch_X12_over_v490 : GoodIn wzX12_branch (wsV RX12 490 RX12 yX12_over wzX12_over) := goodIn_app (goodIn_r _ [28, 29, 30, 12] rfl (by decide +kernel)) (zg_of (fun _ h => List.mem_cons_of_mem _ (List.mem_append_right _ (List.mem_append_right _ (List.mem_append_right _ (List.mem_append_right _ (List.mem_append_right _ (List.mem_append_right _ (List.mem_append_right _ (List.mem_append_right _ (List.mem_append_left _ (h))))))))))) wgX12_over)
set_option maxRecDepth 20000 in
theorem hX12_whiles_X12_next_v345 : GoodIn wzX12_whiles (wsV RX12 345 RX12 yX12_next wzX12_next) := goodIn_app (goodIn_r _ [15, 16, 17, 18] rfl (by decide +kernel)) (zg_of (fun _ h => List.mem_cons_of_mem _ (List.mem_append_right _ (List.mem_append_right _ (List.mem_append_left _ (h))))) wgX12_next)
set_option maxRecDepth 20000 in
theorem hX12_whiles_X12_open_v475 : GoodIn wzX12_whiles (wsV RX12 475 RX12 yX12_open wzX12_open) := goodIn_app (goodIn_r _ [19, 20, 21, 18] rfl (by decide +kernel)) (zg_of (fun _ h => List.mem_cons_of_mem _ (List.mem_append_right _ (List.mem_append_right _ (List.mem_append_right _ (List.mem_append_left _ (h)))))) wgX12_open)
set_option maxRecDepth 20000 in
theorem hX12_whiles_X12_then_v393 : GoodIn wzX12_whiles (wsV RX12 393 RX12 yX12_then wzX12_then) := goodIn_app (goodIn_r _ [22, 23, 24, 18] rfl (by decide +kernel)) (zg_of (fun _ h => List.mem_cons_of_mem _ (List.mem_append_right _ (List.mem_append_right _ (List.mem_append_right _ (List.mem_append_right _ (List.mem_append_left _ (h))))))) wgX12_then)
set_option maxRecDepth 20000 in
theorem hX12_whiles_X12_isJustTrue_v533 : GoodIn wzX12_whiles (wsV RX12 533 RX12 yX12_isJustTrue wzX12_isJustTrue) := goodIn_app (goodIn_r _ [25, 26, 27, 18] rfl (by decide +kernel)) (zg_of (fun _ h => List.mem_cons_of_mem _ (List.mem_append_right _ (List.mem_append_right _ (List.mem_append_right _ (List.mem_append_right _ (List.mem_append_right _ (List.mem_append_left _ (h)))))))) wgX12_isJustTrue)
set_option maxRecDepth 20000 in
theorem hX12_whiles_X12_shut_v468 : GoodIn wzX12_whiles (wsV RX12 468 RX12 yX12_shut wzX12_shut) := goodIn_app (goodIn_r _ [28, 29, 30, 18] rfl (by decide +kernel)) (zg_of (fun _ h => List.mem_cons_of_mem _ (List.mem_append_right _ (List.mem_append_right _ (List.mem_append_right _ (List.mem_append_right _ (List.mem_append_right _ (List.mem_append_right _ (List.mem_append_left _ (h))))))))) wgX12_shut)
set_option maxRecDepth 20000 in
theorem hX12_whiles_X12_emit_v464 : GoodIn wzX12_whiles (wsV RX12 464 RX12 yX12_emit wzX12_emit) := goodIn_app (goodIn_r _ [31, 32, 33, 18] rfl (by decide +kernel)) (zg_of (fun _ h => List.mem_cons_of_mem _ (List.mem_append_right _ (List.mem_append_right _ (List.mem_append_right _ (List.mem_append_right _ (List.mem_append_right _ (List.mem_append_right _ (List.mem_append_right _ (List.mem_append_left _ (h)))))))))) wgX12_emit)
set_option maxRecDepth 20000 in
theorem hX12_whiles_X12_loopGoal_v536 : GoodIn wzX12_whiles (wsV RX12 536 RX12 yX12_loopGoal wzX12_loopGoal) := goodIn_app (goodIn_r _ [34, 35, 36, 18] rfl (by decide +kernel)) (zg_of (fun _ h => List.mem_cons_of_mem _ (List.mem_append_right _ (List.mem_append_right _ (List.mem_append_right _ (List.mem_append_right _ (List.mem_append_right _ (List.mem_append_right _ (List.mem_append_right _ (List.mem_append_right _ (List.mem_append_left _ (h))))))))))) wgX12_loopGoal)
set_option maxRecDepth 20000 in
theorem hX12_whiles_X12_body_v521 : GoodIn wzX12_whiles (wsV RX12 521 RX12 yX12_body wzX12_body) := goodIn_app (goodIn_r _ [37, 38, 39, 18] rfl (by decide +kernel)) (zg_of (fun _ h => List.mem_cons_of_mem _ (List.mem_append_right _ (List.mem_append_right _ (List.mem_append_right _ (List.mem_append_right _ (List.mem_append_right _ (List.mem_append_right _ (List.mem_append_right _ (List.mem_append_right _ (List.mem_append_right _ (List.mem_append_left _ (h)))))))))))) wgX12_body)
set_option maxRecDepth 20000 in
theorem hX12_whiles_X12_patch_v510 : GoodIn wzX12_whiles (wsV RX12 510 RX12 yX12_patch wzX12_patch) := goodIn_app (goodIn_r _ [40, 41, 42, 18] rfl (by decide +kernel)) (zg_of (fun _ h => List.mem_cons_of_mem _ (List.mem_append_right _ (List.mem_append_right _ (List.mem_append_right _ (List.mem_append_right _ (List.mem_append_right _ (List.mem_append_right _ (List.mem_append_right _ (List.mem_append_right _ (List.mem_append_right _ (List.mem_append_right _ (List.mem_append_left _ (h))))))))))))) wgX12_patch)
set_option maxRecDepth 20000 in
theorem hX12_whiles_X12_over_v490 : GoodIn wzX12_whiles (wsV RX12 490 RX12 yX12_over wzX12_over) := goodIn_app (goodIn_r _ [43, 44, 45, 18] rfl (by decide +kernel)) (zg_of (fun _ h => List.mem_cons_of_mem _ (List.mem_append_right _ (List.mem_append_right _ (List.mem_append_right _ (List.mem_append_right _ (List.mem_append_right _ (List.mem_append_right _ (List.mem_append_right _ (List.mem_append_right _ (List.mem_append_right _ (List.mem_append_right _ (List.mem_append_right _ (List.mem_append_left _ (h)))))))))))))) wgX12_over)
set_option maxRecDepth 20000 in
theorem hX12_repeats_X12_next_v345 : GoodIn wzX12_repeats (wsV RX12 345 RX12 yX12_next wzX12_next) := goodIn_app (goodIn_r _ [17, 18, 19, 20] rfl (by decide +kernel)) (zg_of (fun _ h => List.mem_cons_of_mem _ (List.mem_append_right _ (List.mem_append_right _ (List.mem_append_left _ (h))))) wgX12_next)
set_option maxRecDepth 20000 in
theorem hX12_repeats_X12_emit_v464 : GoodIn wzX12_repeats (wsV RX12 464 RX12 yX12_emit wzX12_emit) := goodIn_app (goodIn_r _ [21, 22, 23, 20] rfl (by decide +kernel)) (zg_of (fun _ h => List.mem_cons_of_mem _ (List.mem_append_right _ (List.mem_append_right _ (List.mem_append_right _ (List.mem_append_left _ (h)))))) wgX12_emit)
set_option maxRecDepth 20000 in
theorem hX12_repeats_X12_loopGoal_v536 : GoodIn wzX12_repeats (wsV RX12 536 RX12 yX12_loopGoal wzX12_loopGoal) := goodIn_app (goodIn_r _ [24, 25, 26, 20] rfl (by decide +kernel)) (zg_of (fun _ h => List.mem_cons_of_mem _ (List.mem_append_right _ (List.mem_append_right _ (List.mem_append_right _ (List.mem_append_right _ (List.mem_append_left _ (h))))))) wgX12_loopGoal)
set_option maxRecDepth 20000 in
theorem hX12_repeats_X12_body_v521 : GoodIn wzX12_repeats (wsV RX12 521 RX12 yX12_body wzX12_body) := goodIn_app (goodIn_r _ [27, 28, 29, 20] rfl (by decide +kernel)) (zg_of (fun _ h => List.mem_cons_of_mem _ (List.mem_append_right _ (List.mem_append_right _ (List.mem_append_right _ (List.mem_append_right _ (List.mem_append_right _ (List.mem_append_left _ (h)))))))) wgX12_body)
set_option maxRecDepth 20000 in
theorem hX12_repeats_X12_patch_v510 : GoodIn wzX12_repeats (wsV RX12 510 RX12 yX12_patch wzX12_patch) := goodIn_app (goodIn_r _ [30, 31, 32, 20] rfl (by decide +kernel)) (zg_of (fun _ h => List.mem_cons_of_mem _ (List.mem_append_right _ (List.mem_append_right _ (List.mem_append_right _ (List.mem_append_right _ (List.mem_append_right _ (List.mem_append_right _ (List.mem_append_left _ (h))))))))) wgX12_patch)
set_option maxRecDepth 20000 in
theorem hX12_repeats_X12_need_v355 : GoodIn wzX12_repeats (wsV RX12 355 RX12 yX12_need wzX12_need) := goodIn_app (goodIn_r _ [33, 34, 35, 20] rfl (by decide +kernel)) (zg_of (fun _ h => List.mem_cons_of_mem _ (List.mem_append_right _ (List.mem_append_right _ (List.mem_append_right _ (List.mem_append_right _ (List.mem_append_right _ (List.mem_append_right _ (List.mem_append_right _ (List.mem_append_left _ (h)))))))))) wgX12_need)
set_option maxRecDepth 20000 in
theorem hX12_repeats_X12_open_v475 : GoodIn wzX12_repeats (wsV RX12 475 RX12 yX12_open wzX12_open) := goodIn_app (goodIn_r _ [36, 37, 38, 20] rfl (by decide +kernel)) (zg_of (fun _ h => List.mem_cons_of_mem _ (List.mem_append_right _ (List.mem_append_right _ (List.mem_append_right _ (List.mem_append_right _ (List.mem_append_right _ (List.mem_append_right _ (List.mem_append_right _ (List.mem_append_right _ (List.mem_append_left _ (h))))))))))) wgX12_open)
set_option maxRecDepth 20000 in
theorem hX12_repeats_X12_then_v393 : GoodIn wzX12_repeats (wsV RX12 393 RX12 yX12_then wzX12_then) := goodIn_app (goodIn_r _ [39, 40, 41, 20] rfl (by decide +kernel)) (zg_of (fun _ h => List.mem_cons_of_mem _ (List.mem_append_right _ (List.mem_append_right _ (List.mem_append_right _ (List.mem_append_right _ (List.mem_append_right _ (List.mem_append_right _ (List.mem_append_right _ (List.mem_append_right _ (List.mem_append_right _ (List.mem_append_left _ (h)))))))))))) wgX12_then)
set_option maxRecDepth 20000 in
theorem hX12_repeats_X12_isJustTrue_v533 : GoodIn wzX12_repeats (wsV RX12 533 RX12 yX12_isJustTrue wzX12_isJustTrue) := goodIn_app (goodIn_r _ [42, 43, 44, 20] rfl (by decide +kernel)) (zg_of (fun _ h => List.mem_cons_of_mem _ (List.mem_append_right _ (List.mem_append_right _ (List.mem_append_right _ (List.mem_append_right _ (List.mem_append_right _ (List.mem_append_right _ (List.mem_append_right _ (List.mem_append_right _ (List.mem_append_right _ (List.mem_append_right _ (List.mem_append_left _ (h))))))))))))) wgX12_isJustTrue)
set_option maxRecDepth 20000 in
theorem hX12_repeats_X12_shut_v468 : GoodIn wzX12_repeats (wsV RX12 468 RX12 yX12_shut wzX12_shut) := goodIn_app (goodIn_r _ [45, 46, 47, 20] rfl (by decide +kernel)) (zg_of (fun _ h => List.mem_cons_of_mem _ (List.mem_append_right _ (List.mem_append_right _ (List.mem_append_right _ (List.mem_append_right _ (List.mem_append_right _ (List.mem_append_right _ (List.mem_append_right _ (List.mem_append_right _ (List.mem_append_right _ (List.mem_append_right _ (List.mem_append_right _ (List.mem_append_left _ (h)))))))))))))) wgX12_shut)
set_option maxRecDepth 20000 in
theorem hX12_repeats_X12_over_v490 : GoodIn wzX12_repeats (wsV RX12 490 RX12 yX12_over wzX12_over) := goodIn_app (goodIn_r _ [48, 49, 50, 20] rfl (by decide +kernel)) (zg_of (fun _ h => List.mem_cons_of_mem _ (List.mem_append_right _ (List.mem_append_right _ (List.mem_append_right _ (List.mem_append_right _ (List.mem_append_right _ (List.mem_append_right _ (List.mem_append_right _ (List.mem_append_right _ (List.mem_append_right _ (List.mem_append_right _ (List.mem_append_right _ (List.mem_append_right _ (List.mem_append_left _ (h))))))))))))))) wgX12_over)
set_option maxRecDepth 20000 in
theorem hX12_forHead_X12_can_v341 : GoodIn wzX12_forHead (wsV RX12 341 RX12 yX12_can wzX12_can) := goodIn_app (goodIn_r _ [8, 9, 10, 11] rfl (by decide +kernel)) (zg_of (fun _ h => List.mem_cons_of_mem _ (List.mem_append_right _ (List.mem_append_right _ (List.mem_append_left _ (h))))) wgX12_can)
set_option maxRecDepth 20000 in
theorem hX12_forHead_X12_got_v517 : GoodIn wzX12_forHead (wsV RX12 517 RX12 yX12_got wzX12_got) := goodIn_app (goodIn_r _ [12, 13, 14, 11] rfl (by decide +kernel)) (zg_of (fun _ h => List.mem_cons_of_mem _ (List.mem_append_right _ (List.mem_append_right _ (List.mem_append_right _ (List.mem_append_left _ (h)))))) wgX12_got)
set_option maxRecDepth 20000 in
theorem hX12_forHead_X12_next_v345 : GoodIn wzX12_forHead (wsV RX12 345 RX12 yX12_next wzX12_next) := goodIn_app (goodIn_r _ [15, 16, 17, 11] rfl (by decide +kernel)) (zg_of (fun _ h => List.mem_cons_of_mem _ (List.mem_append_right _ (List.mem_append_right _ (List.mem_append_right _ (List.mem_append_right _ (List.mem_append_left _ (h))))))) wgX12_next)
set_option maxRecDepth 20000 in
theorem hX12_forHead_X12_then_v393 : GoodIn wzX12_forHead (wsV RX12 393 RX12 yX12_then wzX12_then) := goodIn_app (goodIn_r _ [18, 19, 20, 11] rfl (by decide +kernel)) (zg_of (fun _ h => List.mem_cons_of_mem _ (List.mem_append_right _ (List.mem_append_right _ (List.mem_append_right _ (List.mem_append_right _ (List.mem_append_right _ (List.mem_append_left _ (h)))))))) wgX12_then)
set_option maxRecDepth 20000 in
theorem hX12_forHead_X12_telling_v503 : GoodIn wzX12_forHead (wsV RX12 503 RX12 yX12_telling wzX12_telling) := goodIn_app (goodIn_r _ [21, 22, 23, 11] rfl (by decide +kernel)) (zg_of (fun _ h => List.mem_cons_of_mem _ (List.mem_append_right _ (List.mem_append_right _ (List.mem_append_right _ (List.mem_append_right _ (List.mem_append_right _ (List.mem_append_right _ (List.mem_append_left _ (h))))))))) wgX12_telling)
set_option maxRecDepth 20000 in
theorem hX12_forHead_X12_emit_v464 : GoodIn wzX12_forHead (wsV RX12 464 RX12 yX12_emit wzX12_emit) := goodIn_app (goodIn_r _ [24, 25, 26, 11] rfl (by decide +kernel)) (zg_of (fun _ h => List.mem_cons_of_mem _ (List.mem_append_right _ (List.mem_append_right _ (List.mem_append_right _ (List.mem_append_right _ (List.mem_append_right _ (List.mem_append_right _ (List.mem_append_right _ (List.mem_append_left _ (h)))))))))) wgX12_emit)
set_option maxRecDepth 20000 in
theorem hX12_forBehind_X12_need_v355 : GoodIn wzX12_forBehind (wsV RX12 355 RX12 yX12_need wzX12_need) := goodIn_app (goodIn_r _ [11, 12, 13, 14] rfl (by decide +kernel)) (zg_of (fun _ h => List.mem_cons_of_mem _ (List.mem_append_right _ (List.mem_append_right _ (List.mem_append_left _ (h))))) wgX12_need)
set_option maxRecDepth 20000 in
theorem hX12_forBehind_X12_emit_v464 : GoodIn wzX12_forBehind (wsV RX12 464 RX12 yX12_emit wzX12_emit) := goodIn_app (goodIn_r _ [15, 16, 17, 14] rfl (by decide +kernel)) (zg_of (fun _ h => List.mem_cons_of_mem _ (List.mem_append_right _ (List.mem_append_right _ (List.mem_append_right _ (List.mem_append_left _ (h)))))) wgX12_emit)
set_option maxRecDepth 20000 in
theorem hX12_forBehind_X12_can_v341 : GoodIn wzX12_forBehind (wsV RX12 341 RX12 yX12_can wzX12_can) := goodIn_app (goodIn_r _ [18, 19, 20, 14] rfl (by decide +kernel)) (zg_of (fun _ h => List.mem_cons_of_mem _ (List.mem_append_right _ (List.mem_append_right _ (List.mem_append_right _ (List.mem_append_right _ (List.mem_append_left _ (h))))))) wgX12_can)
set_option maxRecDepth 20000 in
theorem hX12_forBehind_X12_got_v517 : GoodIn wzX12_forBehind (wsV RX12 517 RX12 yX12_got wzX12_got) := goodIn_app (goodIn_r _ [21, 22, 23, 14] rfl (by decide +kernel)) (zg_of (fun _ h => List.mem_cons_of_mem _ (List.mem_append_right _ (List.mem_append_right _ (List.mem_append_right _ (List.mem_append_right _ (List.mem_append_right _ (List.mem_append_left _ (h)))))))) wgX12_got)
set_option maxRecDepth 20000 in
theorem hX12_forBehind_X12_next_v345 : GoodIn wzX12_forBehind (wsV RX12 345 RX12 yX12_next wzX12_next) := goodIn_app (goodIn_r _ [24, 25, 26, 14] rfl (by decide +kernel)) (zg_of (fun _ h => List.mem_cons_of_mem _ (List.mem_append_right _ (List.mem_append_right _ (List.mem_append_right _ (List.mem_append_right _ (List.mem_append_right _ (List.mem_append_right _ (List.mem_append_left _ (h))))))))) wgX12_next)
set_option maxRecDepth 20000 in
theorem hX12_forBehind_X12_then_v393 : GoodIn wzX12_forBehind (wsV RX12 393 RX12 yX12_then wzX12_then) := goodIn_app (goodIn_r _ [27, 28, 29, 14] rfl (by decide +kernel)) (zg_of (fun _ h => List.mem_cons_of_mem _ (List.mem_append_right _ (List.mem_append_right _ (List.mem_append_right _ (List.mem_append_right _ (List.mem_append_right _ (List.mem_append_right _ (List.mem_append_right _ (List.mem_append_left _ (h)))))))))) wgX12_then)
set_option maxRecDepth 20000 in
theorem hX12_rows_X12_patch_v510 : GoodIn wzX12_rows (wsV RX12 510 RX12 yX12_patch wzX12_patch) := goodIn_app (goodIn_r _ [16, 17, 18, 19] rfl (by decide +kernel)) (zg_of (fun _ h => List.mem_cons_of_mem _ (List.mem_append_right _ (List.mem_append_right _ (List.mem_append_left _ (h))))) wgX12_patch)
set_option maxRecDepth 20000 in
theorem hX12_rows_X12_emit_v464 : GoodIn wzX12_rows (wsV RX12 464 RX12 yX12_emit wzX12_emit) := goodIn_app (goodIn_r _ [20, 21, 22, 19] rfl (by decide +kernel)) (zg_of (fun _ h => List.mem_cons_of_mem _ (List.mem_append_right _ (List.mem_append_right _ (List.mem_append_right _ (List.mem_append_left _ (h)))))) wgX12_emit)
set_option maxRecDepth 20000 in
theorem hX12_rows_X12_over_v490 : GoodIn wzX12_rows (wsV RX12 490 RX12 yX12_over wzX12_over) := goodIn_app (goodIn_r _ [23, 24, 25, 19] rfl (by decide +kernel)) (zg_of (fun _ h => List.mem_cons_of_mem _ (List.mem_append_right _ (List.mem_append_right _ (List.mem_append_right _ (List.mem_append_right _ (List.mem_append_left _ (h))))))) wgX12_over)
set_option maxRecDepth 20000 in
theorem hX12_rows_X12_see_v506 : GoodIn wzX12_rows (wsV RX12 506 RX12 yX12_see wzX12_see) := goodIn_app (goodIn_r _ [26, 27, 28, 19] rfl (by decide +kernel)) (zg_of (fun _ h => List.mem_cons_of_mem _ (List.mem_append_right _ (List.mem_append_right _ (List.mem_append_right _ (List.mem_append_right _ (List.mem_append_right _ (List.mem_append_left _ (h)))))))) wgX12_see)
set_option maxRecDepth 20000 in
theorem hX12_rows_X12_shut_v468 : GoodIn wzX12_rows (wsV RX12 468 RX12 yX12_shut wzX12_shut) := goodIn_app (goodIn_r _ [29, 30, 31, 19] rfl (by decide +kernel)) (zg_of (fun _ h => List.mem_cons_of_mem _ (List.mem_append_right _ (List.mem_append_right _ (List.mem_append_right _ (List.mem_append_right _ (List.mem_append_right _ (List.mem_append_right _ (List.mem_append_left _ (h))))))))) wgX12_shut)
set_option maxRecDepth 20000 in
theorem hX12_rows_X12_loopGoal_v536 : GoodIn wzX12_rows (wsV RX12 536 RX12 yX12_loopGoal wzX12_loopGoal) := goodIn_app (goodIn_r _ [32, 33, 34, 19] rfl (by decide +kernel)) (zg_of (fun _ h => List.mem_cons_of_mem _ (List.mem_append_right _ (List.mem_append_right _ (List.mem_append_right _ (List.mem_append_right _ (List.mem_append_right _ (List.mem_append_right _ (List.mem_append_right _ (List.mem_append_left _ (h)))))))))) wgX12_loopGoal)
set_option maxRecDepth 20000 in
theorem hX12_rows_X12_body_v521 : GoodIn wzX12_rows (wsV RX12 521 RX12 yX12_body wzX12_body) := goodIn_app (goodIn_r _ [35, 36, 37, 19] rfl (by decide +kernel)) (zg_of (fun _ h => List.mem_cons_of_mem _ (List.mem_append_right _ (List.mem_append_right _ (List.mem_append_right _ (List.mem_append_right _ (List.mem_append_right _ (List.mem_append_right _ (List.mem_append_right _ (List.mem_append_right _ (List.mem_append_left _ (h))))))))))) wgX12_body)
set_option maxRecDepth 20000 in
theorem hX12_rows_X12_next_v345 : GoodIn wzX12_rows (wsV RX12 345 RX12 yX12_next wzX12_next) := goodIn_app (goodIn_r _ [38, 39, 40, 19] rfl (by decide +kernel)) (zg_of (fun _ h => List.mem_cons_of_mem _ (List.mem_append_right _ (List.mem_append_right _ (List.mem_append_right _ (List.mem_append_right _ (List.mem_append_right _ (List.mem_append_right _ (List.mem_append_right _ (List.mem_append_right _ (List.mem_append_right _ (List.mem_append_left _ (h)))))))))))) wgX12_next)
set_option maxRecDepth 20000 in
theorem hX12_rows_X12_then_v393 : GoodIn wzX12_rows (wsV RX12 393 RX12 yX12_then wzX12_then) := goodIn_app (goodIn_r _ [41, 42, 43, 19] rfl (by decide +kernel)) (zg_of (fun _ h => List.mem_cons_of_mem _ (List.mem_append_right _ (List.mem_append_right _ (List.mem_append_right _ (List.mem_append_right _ (List.mem_append_right _ (List.mem_append_right _ (List.mem_append_right _ (List.mem_append_right _ (List.mem_append_right _ (List.mem_append_right _ (List.mem_append_left _ (h))))))))))))) wgX12_then)
set_option maxRecDepth 20000 in
theorem hX12_fors_X12_next_v345 : GoodIn wzX12_fors (wsV RX12 345 RX12 yX12_next wzX12_next) := goodIn_app (goodIn_r _ [20, 21, 22, 23] rfl (by decide +kernel)) (zg_of (fun _ h => List.mem_cons_of_mem _ (List.mem_append_right _ (List.mem_append_right _ (List.mem_append_left _ (h))))) wgX12_next)
set_option maxRecDepth 20000 in
theorem hX12_fors_X12_open_v475 : GoodIn wzX12_fors (wsV RX12 475 RX12 yX12_open wzX12_open) := goodIn_app (goodIn_r _ [24, 25, 26, 23] rfl (by decide +kernel)) (zg_of (fun _ h => List.mem_cons_of_mem _ (List.mem_append_right _ (List.mem_append_right _ (List.mem_append_right _ (List.mem_append_left _ (h)))))) wgX12_open)
set_option maxRecDepth 20000 in
theorem hX12_fors_X12_forHead_v540 : GoodIn wzX12_fors (wsV RX12 540 RX12 yX12_forHead wzX12_forHead) := goodIn_app (goodIn_r _ [27, 28, 29, 23] rfl (by decide +kernel)) (zg_of (fun _ h => List.mem_cons_of_mem _ (List.mem_append_right _ (List.mem_append_right _ (List.mem_append_right _ (List.mem_append_right _ (List.mem_append_left _ (h))))))) wgX12_forHead)
set_option maxRecDepth 20000 in
theorem hX12_fors_X12_see_v506 : GoodIn wzX12_fors (wsV RX12 506 RX12 yX12_see wzX12_see) := goodIn_app (goodIn_r _ [30, 31, 32, 23] rfl (by decide +kernel)) (zg_of (fun _ h => List.mem_cons_of_mem _ (List.mem_append_right _ (List.mem_append_right _ (List.mem_append_right _ (List.mem_append_right _ (List.mem_append_right _ (List.mem_append_left _ (h)))))))) wgX12_see)
set_option maxRecDepth 20000 in
theorem hX12_fors_X12_emit_v464 : GoodIn wzX12_fors (wsV RX12 464 RX12 yX12_emit wzX12_emit) := goodIn_app (goodIn_r _ [33, 34, 35, 23] rfl (by decide +kernel)) (zg_of (fun _ h => List.mem_cons_of_mem _ (List.mem_append_right _ (List.mem_append_right _ (List.mem_append_right _ (List.mem_append_right _ (List.mem_append_right _ (List.mem_append_right _ (List.mem_append_left _ (h))))))))) wgX12_emit)
set_option maxRecDepth 20000 in
theorem hX12_fors_X12_need_v355 : GoodIn wzX12_fors (wsV RX12 355 RX12 yX12_need wzX12_need) := goodIn_app (goodIn_r _ [36, 37, 38, 23] rfl (by decide +kernel)) (zg_of (fun _ h => List.mem_cons_of_mem _ (List.mem_append_right _ (List.mem_append_right _ (List.mem_append_right _ (List.mem_append_right _ (List.mem_append_right _ (List.mem_append_right _ (List.mem_append_right _ (List.mem_append_left _ (h)))))))))) wgX12_need)
set_option maxRecDepth 20000 in
theorem hX12_fors_X12_then_v393 : GoodIn wzX12_fors (wsV RX12 393 RX12 yX12_then wzX12_then) := goodIn_app (goodIn_r _ [39, 40, 41, 23] rfl (by decide +kernel)) (zg_of (fun _ h => List.mem_cons_of_mem _ (List.mem_append_right _ (List.mem_append_right _ (List.mem_append_right _ (List.mem_append_right _ (List.mem_append_right _ (List.mem_append_right _ (List.mem_append_right _ (List.mem_append_right _ (List.mem_append_left _ (h))))))))))) wgX12_then)
set_option maxRecDepth 20000 in
theorem hX12_fors_X12_isJustTrue_v533 : GoodIn wzX12_fors (wsV RX12 533 RX12 yX12_isJustTrue wzX12_isJustTrue) := goodIn_app (goodIn_r _ [42, 43, 44, 23] rfl (by decide +kernel)) (zg_of (fun _ h => List.mem_cons_of_mem _ (List.mem_append_right _ (List.mem_append_right _ (List.mem_append_right _ (List.mem_append_right _ (List.mem_append_right _ (List.mem_append_right _ (List.mem_append_right _ (List.mem_append_right _ (List.mem_append_right _ (List.mem_append_left _ (h)))))))))))) wgX12_isJustTrue)
set_option maxRecDepth 20000 in
theorem hX12_fors_X12_forBehind_v543 : GoodIn wzX12_fors (wsV RX12 543 RX12 yX12_forBehind wzX12_forBehind) := goodIn_app (goodIn_r _ [45, 46, 47, 23] rfl (by decide +kernel)) (zg_of (fun _ h => List.mem_cons_of_mem _ (List.mem_append_right _ (List.mem_append_right _ (List.mem_append_right _ (List.mem_append_right _ (List.mem_append_right _ (List.mem_append_right _ (List.mem_append_right _ (List.mem_append_right _ (List.mem_append_right _ (List.mem_append_right _ (List.mem_append_left _ (h))))))))))))) wgX12_forBehind)
set_option maxRecDepth 20000 in
theorem hX12_fors_X12_shut_v468 : GoodIn wzX12_fors (wsV RX12 468 RX12 yX12_shut wzX12_shut) := goodIn_app (goodIn_r _ [48, 49, 50, 23] rfl (by decide +kernel)) (zg_of (fun _ h => List.mem_cons_of_mem _ (List.mem_append_right _ (List.mem_append_right _ (List.mem_append_right _ (List.mem_append_right _ (List.mem_append_right _ (List.mem_append_right _ (List.mem_append_right _ (List.mem_append_right _ (List.mem_append_right _ (List.mem_append_right _ (List.mem_append_right _ (List.mem_append_left _ (h)))))))))))))) wgX12_shut)
set_option maxRecDepth 20000 in
theorem hX12_fors_X12_loopGoal_v536 : GoodIn wzX12_fors (wsV RX12 536 RX12 yX12_loopGoal wzX12_loopGoal) := goodIn_app (goodIn_r _ [51, 52, 53, 23] rfl (by decide +kernel)) (zg_of (fun _ h => List.mem_cons_of_mem _ (List.mem_append_right _ (List.mem_append_right _ (List.mem_append_right _ (List.mem_append_right _ (List.mem_append_right _ (List.mem_append_right _ (List.mem_append_right _ (List.mem_append_right _ (List.mem_append_right _ (List.mem_append_right _ (List.mem_append_right _ (List.mem_append_right _ (List.mem_append_left _ (h))))))))))))))) wgX12_loopGoal)
set_option maxRecDepth 20000 in
theorem hX12_fors_X12_body_v521 : GoodIn wzX12_fors (wsV RX12 521 RX12 yX12_body wzX12_body) := goodIn_app (goodIn_r _ [54, 55, 56, 23] rfl (by decide +kernel)) (zg_of (fun _ h => List.mem_cons_of_mem _ (List.mem_append_right _ (List.mem_append_right _ (List.mem_append_right _ (List.mem_append_right _ (List.mem_append_right _ (List.mem_append_right _ (List.mem_append_right _ (List.mem_append_right _ (List.mem_append_right _ (List.mem_append_right _ (List.mem_append_right _ (List.mem_append_right _ (List.mem_append_right _ (List.mem_append_left _ (h)))))))))))))))) wgX12_body)
set_option maxRecDepth 20000 in
theorem hX12_fors_X12_patch_v510 : GoodIn wzX12_fors (wsV RX12 510 RX12 yX12_patch wzX12_patch) := goodIn_app (goodIn_r _ [57, 58, 59, 23] rfl (by decide +kernel)) (zg_of (fun _ h => List.mem_cons_of_mem _ (List.mem_append_right _ (List.mem_append_right _ (List.mem_append_right _ (List.mem_append_right _ (List.mem_append_right _ (List.mem_append_right _ (List.mem_append_right _ (List.mem_append_right _ (List.mem_append_right _ (List.mem_append_right _ (List.mem_append_right _ (List.mem_append_right _ (List.mem_append_right _ (List.mem_append_right _ (List.mem_append_left _ (h))))))))))))))))) wgX12_patch)
set_option maxRecDepth 20000 in
theorem hX12_fors_X12_over_v490 : GoodIn wzX12_fors (wsV RX12 490 RX12 yX12_over wzX12_over) := goodIn_app (goodIn_r _ [60, 61, 62, 23] rfl (by decide +kernel)) (zg_of (fun _ h => List.mem_cons_of_mem _ (List.mem_append_right _ (List.mem_append_right _ (List.mem_append_right _ (List.mem_append_right _ (List.mem_append_right _ (List.mem_append_right _ (List.mem_append_right _ (List.mem_append_right _ (List.mem_append_right _ (List.mem_append_right _ (List.mem_append_right _ (List.mem_append_right _ (List.mem_append_right _ (List.mem_append_right _ (List.mem_append_right _ (List.mem_append_left _ (h)))))))))))))))))) wgX12_over)
set_option maxRecDepth 20000 in
theorem hX12_fors_X12_rows_v546 : GoodIn wzX12_fors (wsV RX12 546 RX12 yX12_rows wzX12_rows) := goodIn_app (goodIn_r _ [63, 64, 65, 23] rfl (by decide +kernel)) (zg_of (fun _ h => List.mem_cons_of_mem _ (List.mem_append_right _ (List.mem_append_right _ (List.mem_append_right _ (List.mem_append_right _ (List.mem_append_right _ (List.mem_append_right _ (List.mem_append_right _ (List.mem_append_right _ (List.mem_append_right _ (List.mem_append_right _ (List.mem_append_right _ (List.mem_append_right _ (List.mem_append_right _ (List.mem_append_right _ (List.mem_append_right _ (List.mem_append_right _ (List.mem_append_left _ (h))))))))))))))))))) wgX12_rows)
set_option maxRecDepth 20000 in
theorem hX12_lock_X12_emit_v464 : GoodIn wzX12_lock (wsV RX12 464 RX12 yX12_emit wzX12_emit) := goodIn_app (goodIn_r _ [6, 7, 8, 9] rfl (by decide +kernel)) (zg_of (fun _ h => List.mem_cons_of_mem _ (List.mem_append_right _ (List.mem_append_right _ (List.mem_append_left _ (h))))) wgX12_emit)
set_option maxRecDepth 20000 in
theorem hX12_lock_X12_next_v345 : GoodIn wzX12_lock (wsV RX12 345 RX12 yX12_next wzX12_next) := goodIn_app (goodIn_r _ [10, 11, 12, 9] rfl (by decide +kernel)) (zg_of (fun _ h => List.mem_cons_of_mem _ (List.mem_append_right _ (List.mem_append_right _ (List.mem_append_right _ (List.mem_append_left _ (h)))))) wgX12_next)
set_option maxRecDepth 20000 in
theorem hX12_lock_X12_open_v475 : GoodIn wzX12_lock (wsV RX12 475 RX12 yX12_open wzX12_open) := goodIn_app (goodIn_r _ [13, 14, 15, 9] rfl (by decide +kernel)) (zg_of (fun _ h => List.mem_cons_of_mem _ (List.mem_append_right _ (List.mem_append_right _ (List.mem_append_right _ (List.mem_append_right _ (List.mem_append_left _ (h))))))) wgX12_open)
set_option maxRecDepth 20000 in
theorem hX12_lock_X12_can_v341 : GoodIn wzX12_lock (wsV RX12 341 RX12 yX12_can wzX12_can) := goodIn_app (goodIn_r _ [16, 17, 18, 9] rfl (by decide +kernel)) (zg_of (fun _ h => List.mem_cons_of_mem _ (List.mem_append_right _ (List.mem_append_right _ (List.mem_append_right _ (List.mem_append_right _ (List.mem_append_right _ (List.mem_append_left _ (h)))))))) wgX12_can)
set_option maxRecDepth 20000 in
theorem hX12_lock_X12_shut_v468 : GoodIn wzX12_lock (wsV RX12 468 RX12 yX12_shut wzX12_shut) := goodIn_app (goodIn_r _ [19, 20, 21, 9] rfl (by decide +kernel)) (zg_of (fun _ h => List.mem_cons_of_mem _ (List.mem_append_right _ (List.mem_append_right _ (List.mem_append_right _ (List.mem_append_right _ (List.mem_append_right _ (List.mem_append_right _ (List.mem_append_left _ (h))))))))) wgX12_shut)
set_option maxRecDepth 20000 in
theorem hX12_lock_X12_then_v393 : GoodIn wzX12_lock (wsV RX12 393 RX12 yX12_then wzX12_then) := goodIn_app (goodIn_r _ [22, 23, 24, 9] rfl (by decide +kernel)) (zg_of (fun _ h => List.mem_cons_of_mem _ (List.mem_append_right _ (List.mem_append_right _ (List.mem_append_right _ (List.mem_append_right _ (List.mem_append_right _ (List.mem_append_right _ (List.mem_append_right _ (List.mem_append_left _ (h)))))))))) wgX12_then)
set_option maxRecDepth 20000 in
theorem hX12_caseNumber_X12_can_v341 : GoodIn wzX12_caseNumber (wsV RX12 341 RX12 yX12_can wzX12_can) := goodIn_app (goodIn_r _ [10, 11, 12, 13] rfl (by decide +kernel)) (zg_of (fun _ h => List.mem_cons_of_mem _ (List.mem_append_right _ (List.mem_append_right _ (List.mem_append_left _ (h))))) wgX12_can)
set_option maxRecDepth 20000 in
theorem hX12_caseNumber_X12_entry_v481 : GoodIn wzX12_caseNumber (wsV RX12 481 RX12 yX12_entry wzX12_entry) := goodIn_app (goodIn_r _ [14, 15, 16, 13] rfl (by decide +kernel)) (zg_of (fun _ h => List.mem_cons_of_mem _ (List.mem_append_right _ (List.mem_append_right _ (List.mem_append_right _ (List.mem_append_left _ (h)))))) wgX12_entry)
set_option maxRecDepth 20000 in
theorem hX12_caseNumber_X12_next_v345 : GoodIn wzX12_caseNumber (wsV RX12 345 RX12 yX12_next wzX12_next) := goodIn_app (goodIn_r _ [17, 18, 19, 13] rfl (by decide +kernel)) (zg_of (fun _ h => List.mem_cons_of_mem _ (List.mem_append_right _ (List.mem_append_right _ (List.mem_append_right _ (List.mem_append_right _ (List.mem_append_left _ (h))))))) wgX12_next)
set_option maxRecDepth 20000 in
theorem hX12_caseNumber_X12_fail_v337 : GoodIn wzX12_caseNumber (wsV RX12 337 RX12 yX12_fail wzX12_fail) := goodIn_app (goodIn_r _ [20, 21, 22, 13] rfl (by decide +kernel)) (zg_of (fun _ h => List.mem_cons_of_mem _ (List.mem_append_right _ (List.mem_append_right _ (List.mem_append_right _ (List.mem_append_right _ (List.mem_append_right _ (List.mem_append_left _ (h)))))))) wgX12_fail)
set_option maxRecDepth 20000 in
theorem hX12_groups_X12_next_v345 : GoodIn wzX12_groups (wsV RX12 345 RX12 yX12_next wzX12_next) := goodIn_app (goodIn_r _ [17, 18, 19, 20] rfl (by decide +kernel)) (zg_of (fun _ h => List.mem_cons_of_mem _ (List.mem_append_right _ (List.mem_append_right _ (List.mem_append_left _ (h))))) wgX12_next)
set_option maxRecDepth 20000 in
theorem hX12_groups_X12_open_v475 : GoodIn wzX12_groups (wsV RX12 475 RX12 yX12_open wzX12_open) := goodIn_app (goodIn_r _ [21, 22, 23, 20] rfl (by decide +kernel)) (zg_of (fun _ h => List.mem_cons_of_mem _ (List.mem_append_right _ (List.mem_append_right _ (List.mem_append_right _ (List.mem_append_left _ (h)))))) wgX12_open)
set_option maxRecDepth 20000 in
theorem hX12_groups_X12_then_v393 : GoodIn wzX12_groups (wsV RX12 393 RX12 yX12_then wzX12_then) := goodIn_app (goodIn_r _ [24, 25, 26, 20] rfl (by decide +kernel)) (zg_of (fun _ h => List.mem_cons_of_mem _ (List.mem_append_right _ (List.mem_append_right _ (List.mem_append_right _ (List.mem_append_right _ (List.mem_append_left _ (h))))))) wgX12_then)
set_option maxRecDepth 20000 in
theorem hX12_groups_X12_shut_v468 : GoodIn wzX12_groups (wsV RX12 468 RX12 yX12_shut wzX12_shut) := goodIn_app (goodIn_r _ [27, 28, 29, 20] rfl (by decide +kernel)) (zg_of (fun _ h => List.mem_cons_of_mem _ (List.mem_append_right _ (List.mem_append_right _ (List.mem_append_right _ (List.mem_append_right _ (List.mem_append_right _ (List.mem_append_left _ (h)))))))) wgX12_shut)
set_option maxRecDepth 20000 in
theorem hX12_groups_X12_emit_v464 : GoodIn wzX12_groups (wsV RX12 464 RX12 yX12_emit wzX12_emit) := goodIn_app (goodIn_r _ [30, 31, 32, 20] rfl (by decide +kernel)) (zg_of (fun _ h => List.mem_cons_of_mem _ (List.mem_append_right _ (List.mem_append_right _ (List.mem_append_right _ (List.mem_append_right _ (List.mem_append_right _ (List.mem_append_right _ (List.mem_append_left _ (h))))))))) wgX12_emit)
set_option maxRecDepth 20000 in
theorem hX12_groups_X12_goal_v373 : GoodIn wzX12_groups (wsV RX12 373 RX12 yX12_goal wzX12_goal) := goodIn_app (goodIn_r _ [33, 34, 35, 20] rfl (by decide +kernel)) (zg_of (fun _ h => List.mem_cons_of_mem _ (List.mem_append_right _ (List.mem_append_right _ (List.mem_append_right _ (List.mem_append_right _ (List.mem_append_right _ (List.mem_append_right _ (List.mem_append_right _ (List.mem_append_left _ (h)))))))))) wgX12_goal)
set_option maxRecDepth 20000 in
theorem hX12_groups_X12_patch_v510 : GoodIn wzX12_groups (wsV RX12 510 RX12 yX12_patch wzX12_patch) := goodIn_app (goodIn_r _ [36, 37, 38, 20] rfl (by decide +kernel)) (zg_of (fun _ h => List.mem_cons_of_mem _ (List.mem_append_right _ (List.mem_append_right _ (List.mem_append_right _ (List.mem_append_right _ (List.mem_append_right _ (List.mem_append_right _ (List.mem_append_right _ (List.mem_append_right _ (List.mem_append_left _ (h))))))))))) wgX12_patch)
set_option maxRecDepth 20000 in
theorem hX12_groups_X12_over_v490 : GoodIn wzX12_groups (wsV RX12 490 RX12 yX12_over wzX12_over) := goodIn_app (goodIn_r _ [39, 40, 41, 20] rfl (by decide +kernel)) (zg_of (fun _ h => List.mem_cons_of_mem _ (List.mem_append_right _ (List.mem_append_right _ (List.mem_append_right _ (List.mem_append_right _ (List.mem_append_right _ (List.mem_append_right _ (List.mem_append_right _ (List.mem_append_right _ (List.mem_append_right _ (List.mem_append_left _ (h)))))))))))) wgX12_over)
set_option maxRecDepth 20000 in
theorem hX12_groups_X12_entry_v481 : GoodIn wzX12_groups (wsV RX12 481 RX12 yX12_entry wzX12_entry) := goodIn_app (goodIn_r _ [42, 43, 44, 20] rfl (by decide +kernel)) (zg_of (fun _ h => List.mem_cons_of_mem _ (List.mem_append_right _ (List.mem_append_right _ (List.mem_append_right _ (List.mem_append_right _ (List.mem_append_right _ (List.mem_append_right _ (List.mem_append_right _ (List.mem_append_right _ (List.mem_append_right _ (List.mem_append_right _ (List.mem_append_left _ (h))))))))))))) wgX12_entry)
set_option maxRecDepth 20000 in
theorem hX12_groups_X12_need_v355 : GoodIn wzX12_groups (wsV RX12 355 RX12 yX12_need wzX12_need) := goodIn_app (goodIn_r _ [45, 46, 47, 20] rfl (by decide +kernel)) (zg_of (fun _ h => List.mem_cons_of_mem _ (List.mem_append_right _ (List.mem_append_right _ (List.mem_append_right _ (List.mem_append_right _ (List.mem_append_right _ (List.mem_append_right _ (List.mem_append_right _ (List.mem_append_right _ (List.mem_append_right _ (List.mem_append_right _ (List.mem_append_right _ (List.mem_append_left _ (h)))))))))))))) wgX12_need)
set_option maxRecDepth 20000 in
theorem hX12_groups_X12_fail_v337 : GoodIn wzX12_groups (wsV RX12 337 RX12 yX12_fail wzX12_fail) := goodIn_app (goodIn_r _ [48, 49, 50, 20] rfl (by decide +kernel)) (zg_of (fun _ h => List.mem_cons_of_mem _ (List.mem_append_right _ (List.mem_append_right _ (List.mem_append_right _ (List.mem_append_right _ (List.mem_append_right _ (List.mem_append_right _ (List.mem_append_right _ (List.mem_append_right _ (List.mem_append_right _ (List.mem_append_right _ (List.mem_append_right _ (List.mem_append_right _ (List.mem_append_left _ (h))))))))))))))) wgX12_fail)
set_option maxRecDepth 20000 in
theorem hX12_groups_X12_caseNumber_v484 : GoodIn wzX12_groups (wsV RX12 484 RX12 yX12_caseNumber wzX12_caseNumber) := goodIn_app (goodIn_r _ [51, 52, 53, 20] rfl (by decide +kernel)) (zg_of (fun _ h => List.mem_cons_of_mem _ (List.mem_append_right _ (List.mem_append_right _ (List.mem_append_right _ (List.mem_append_right _ (List.mem_append_right _ (List.mem_append_right _ (List.mem_append_right _ (List.mem_append_right _ (List.mem_append_right _ (List.mem_append_right _ (List.mem_append_right _ (List.mem_append_right _ (List.mem_append_right _ (List.mem_append_left _ (h)))))))))))))))) wgX12_caseNumber)
set_option maxRecDepth 20000 in
theorem hX12_catching_X12_next_v345 : GoodIn wzX12_catching (wsV RX12 345 RX12 yX12_next wzX12_next) := goodIn_app (goodIn_r _ [16, 17, 18, 19] rfl (by decide +kernel)) (zg_of (fun _ h => List.mem_cons_of_mem _ (List.mem_append_right _ (List.mem_append_right _ (List.mem_append_left _ (h))))) wgX12_next)
set_option maxRecDepth 20000 in
theorem hX12_catching_X12_open_v475 : GoodIn wzX12_catching (wsV RX12 475 RX12 yX12_open wzX12_open) := goodIn_app (goodIn_r _ [20, 21, 22, 19] rfl (by decide +kernel)) (zg_of (fun _ h => List.mem_cons_of_mem _ (List.mem_append_right _ (List.mem_append_right _ (List.mem_append_right _ (List.mem_append_left _ (h)))))) wgX12_open)
set_option maxRecDepth 20000 in
theorem hX12_catching_X12_can_v341 : GoodIn wzX12_catching (wsV RX12 341 RX12 yX12_can wzX12_can) := goodIn_app (goodIn_r _ [23, 24, 25, 19] rfl (by decide +kernel)) (zg_of (fun _ h => List.mem_cons_of_mem _ (List.mem_append_right _ (List.mem_append_right _ (List.mem_append_right _ (List.mem_append_right _ (List.mem_append_left _ (h))))))) wgX12_can)
set_option maxRecDepth 20000 in
theorem hX12_catching_X12_seenAs_v471 : GoodIn wzX12_catching (wsV RX12 471 RX12 yX12_seenAs wzX12_seenAs) := goodIn_app (goodIn_r _ [26, 27, 28, 19] rfl (by decide +kernel)) (zg_of (fun _ h => List.mem_cons_of_mem _ (List.mem_append_right _ (List.mem_append_right _ (List.mem_append_right _ (List.mem_append_right _ (List.mem_append_right _ (List.mem_append_left _ (h)))))))) wgX12_seenAs)
set_option maxRecDepth 20000 in
theorem hX12_catching_X12_see_v506 : GoodIn wzX12_catching (wsV RX12 506 RX12 yX12_see wzX12_see) := goodIn_app (goodIn_r _ [29, 30, 31, 19] rfl (by decide +kernel)) (zg_of (fun _ h => List.mem_cons_of_mem _ (List.mem_append_right _ (List.mem_append_right _ (List.mem_append_right _ (List.mem_append_right _ (List.mem_append_right _ (List.mem_append_right _ (List.mem_append_left _ (h))))))))) wgX12_see)
set_option maxRecDepth 20000 in
theorem hX12_catching_X12_shut_v468 : GoodIn wzX12_catching (wsV RX12 468 RX12 yX12_shut wzX12_shut) := goodIn_app (goodIn_r _ [32, 33, 34, 19] rfl (by decide +kernel)) (zg_of (fun _ h => List.mem_cons_of_mem _ (List.mem_append_right _ (List.mem_append_right _ (List.mem_append_right _ (List.mem_append_right _ (List.mem_append_right _ (List.mem_append_right _ (List.mem_append_right _ (List.mem_append_left _ (h)))))))))) wgX12_shut)
set_option maxRecDepth 20000 in
theorem hX12_catching_X12_then_v393 : GoodIn wzX12_catching (wsV RX12 393 RX12 yX12_then wzX12_then) := goodIn_app (goodIn_r _ [35, 36, 37, 19] rfl (by decide +kernel)) (zg_of (fun _ h => List.mem_cons_of_mem _ (List.mem_append_right _ (List.mem_append_right _ (List.mem_append_right _ (List.mem_append_right _ (List.mem_append_right _ (List.mem_append_right _ (List.mem_append_right _ (List.mem_append_right _ (List.mem_append_left _ (h))))))))))) wgX12_then)
set_option maxRecDepth 20000 in
theorem hX12_catching_X12_fail_v337 : GoodIn wzX12_catching (wsV RX12 337 RX12 yX12_fail wzX12_fail) := goodIn_app (goodIn_r _ [38, 39, 40, 19] rfl (by decide +kernel)) (zg_of (fun _ h => List.mem_cons_of_mem _ (List.mem_append_right _ (List.mem_append_right _ (List.mem_append_right _ (List.mem_append_right _ (List.mem_append_right _ (List.mem_append_right _ (List.mem_append_right _ (List.mem_append_right _ (List.mem_append_right _ (List.mem_append_left _ (h)))))))))))) wgX12_fail)
set_option maxRecDepth 20000 in
theorem hX12_catching_X12_isUnder_v283 : GoodIn wzX12_catching (wsV RX12 283 RX12 yX12_isUnder wzX12_isUnder) := goodIn_app (goodIn_r _ [41, 42, 43, 19] rfl (by decide +kernel)) (zg_of (fun _ h => List.mem_cons_of_mem _ (List.mem_append_right _ (List.mem_append_right _ (List.mem_append_right _ (List.mem_append_right _ (List.mem_append_right _ (List.mem_append_right _ (List.mem_append_right _ (List.mem_append_right _ (List.mem_append_right _ (List.mem_append_right _ (List.mem_append_left _ (h))))))))))))) wgX12_isUnder)
set_option maxRecDepth 20000 in
theorem hX12_endTry_X12_resolve_v558 : GoodIn wzX12_endTry (wsV RX12 558 RX12 yX12_resolve wzX12_resolve) := goodIn_app (goodIn_r _ [6, 7, 8, 9] rfl (by decide +kernel)) (zg_of (fun _ h => List.mem_cons_of_mem _ (List.mem_append_right _ (List.mem_append_right _ (List.mem_append_left _ (h))))) wgX12_resolve)
set_option maxRecDepth 20000 in
theorem hX12_endTry_X12_over_v490 : GoodIn wzX12_endTry (wsV RX12 490 RX12 yX12_over wzX12_over) := goodIn_app (goodIn_r _ [10, 11, 12, 9] rfl (by decide +kernel)) (zg_of (fun _ h => List.mem_cons_of_mem _ (List.mem_append_right _ (List.mem_append_right _ (List.mem_append_right _ (List.mem_append_left _ (h)))))) wgX12_over)
set_option maxRecDepth 20000 in
theorem hX12_trying_X12_next_v345 : GoodIn wzX12_trying (wsV RX12 345 RX12 yX12_next wzX12_next) := goodIn_app (goodIn_r _ [21, 22, 23, 24] rfl (by decide +kernel)) (zg_of (fun _ h => List.mem_cons_of_mem _ (List.mem_append_right _ (List.mem_append_right _ (List.mem_append_left _ (h))))) wgX12_next)
set_option maxRecDepth 20000 in
theorem hX12_trying_X12_emit_v464 : GoodIn wzX12_trying (wsV RX12 464 RX12 yX12_emit wzX12_emit) := goodIn_app (goodIn_r _ [25, 26, 27, 24] rfl (by decide +kernel)) (zg_of (fun _ h => List.mem_cons_of_mem _ (List.mem_append_right _ (List.mem_append_right _ (List.mem_append_right _ (List.mem_append_left _ (h)))))) wgX12_emit)
set_option maxRecDepth 20000 in
theorem hX12_trying_X12_then_v393 : GoodIn wzX12_trying (wsV RX12 393 RX12 yX12_then wzX12_then) := goodIn_app (goodIn_r _ [28, 29, 30, 24] rfl (by decide +kernel)) (zg_of (fun _ h => List.mem_cons_of_mem _ (List.mem_append_right _ (List.mem_append_right _ (List.mem_append_right _ (List.mem_append_right _ (List.mem_append_left _ (h))))))) wgX12_then)
set_option maxRecDepth 20000 in
theorem hX12_trying_X12_can_v341 : GoodIn wzX12_trying (wsV RX12 341 RX12 yX12_can wzX12_can) := goodIn_app (goodIn_r _ [31, 32, 33, 24] rfl (by decide +kernel)) (zg_of (fun _ h => List.mem_cons_of_mem _ (List.mem_append_right _ (List.mem_append_right _ (List.mem_append_right _ (List.mem_append_right _ (List.mem_append_right _ (List.mem_append_left _ (h)))))))) wgX12_can)
set_option maxRecDepth 20000 in
theorem hX12_trying_X12_endTry_v555 : GoodIn wzX12_trying (wsV RX12 555 RX12 yX12_endTry wzX12_endTry) := goodIn_app (goodIn_r _ [34, 35, 36, 24] rfl (by decide +kernel)) (zg_of (fun _ h => List.mem_cons_of_mem _ (List.mem_append_right _ (List.mem_append_right _ (List.mem_append_right _ (List.mem_append_right _ (List.mem_append_right _ (List.mem_append_right _ (List.mem_append_left _ (h))))))))) wgX12_endTry)
set_option maxRecDepth 20000 in
theorem hX12_trying_X12_catching_v552 : GoodIn wzX12_trying (wsV RX12 552 RX12 yX12_catching wzX12_catching) := goodIn_app (goodIn_r _ [37, 38, 39, 24] rfl (by decide +kernel)) (zg_of (fun _ h => List.mem_cons_of_mem _ (List.mem_append_right _ (List.mem_append_right _ (List.mem_append_right _ (List.mem_append_right _ (List.mem_append_right _ (List.mem_append_right _ (List.mem_append_right _ (List.mem_append_left _ (h)))))))))) wgX12_catching)
set_option maxRecDepth 20000 in
theorem hX12_sums_X12_next_v345 : GoodIn wzX12_sums (wsV RX12 345 RX12 yX12_next wzX12_next) := goodIn_app (goodIn_r _ [5, 6, 7, 8] rfl (by decide +kernel)) (zg_of (fun _ h => List.mem_cons_of_mem _ (List.mem_append_right _ (List.mem_append_right _ (List.mem_append_left _ (h))))) wgX12_next)
set_option maxRecDepth 20000 in
theorem hX12_sums_X12_then_v393 : GoodIn wzX12_sums (wsV RX12 393 RX12 yX12_then wzX12_then) := goodIn_app (goodIn_r _ [9, 10, 11, 8] rfl (by decide +kernel)) (zg_of (fun _ h => List.mem_cons_of_mem _ (List.mem_append_right _ (List.mem_append_right _ (List.mem_append_right _ (List.mem_append_left _ (h)))))) wgX12_then)
set_option maxRecDepth 20000 in
theorem hX12_sums_X12_emit_v464 : GoodIn wzX12_sums (wsV RX12 464 RX12 yX12_emit wzX12_emit) := goodIn_app (goodIn_r _ [12, 13, 14, 8] rfl (by decide +kernel)) (zg_of (fun _ h => List.mem_cons_of_mem _ (List.mem_append_right _ (List.mem_append_right _ (List.mem_append_right _ (List.mem_append_right _ (List.mem_append_left _ (h))))))) wgX12_emit)
set_option maxRecDepth 20000 in
theorem hX12_factor_X12_can_v341 : GoodIn wzX12_factor (wsV RX12 341 RX12 yX12_can wzX12_can) := goodIn_app (goodIn_r _ [11, 12, 13, 14] rfl (by decide +kernel)) (zg_of (fun _ h => List.mem_cons_of_mem _ (List.mem_append_right _ (List.mem_append_right _ (List.mem_append_left _ (h))))) wgX12_can)
set_option maxRecDepth 20000 in
theorem hX12_factor_X12_open_v475 : GoodIn wzX12_factor (wsV RX12 475 RX12 yX12_open wzX12_open) := goodIn_app (goodIn_r _ [15, 16, 17, 14] rfl (by decide +kernel)) (zg_of (fun _ h => List.mem_cons_of_mem _ (List.mem_append_right _ (List.mem_append_right _ (List.mem_append_right _ (List.mem_append_left _ (h)))))) wgX12_open)
set_option maxRecDepth 20000 in
theorem hX12_factor_X12_then_v393 : GoodIn wzX12_factor (wsV RX12 393 RX12 yX12_then wzX12_then) := goodIn_app (goodIn_r _ [18, 19, 20, 14] rfl (by decide +kernel)) (zg_of (fun _ h => List.mem_cons_of_mem _ (List.mem_append_right _ (List.mem_append_right _ (List.mem_append_right _ (List.mem_append_right _ (List.mem_append_left _ (h))))))) wgX12_then)
set_option maxRecDepth 20000 in
theorem hX12_factor_X12_opens_v351 : GoodIn wzX12_factor (wsV RX12 351 RX12 yX12_opens wzX12_opens) := goodIn_app (goodIn_r _ [21, 22, 23, 14] rfl (by decide +kernel)) (zg_of (fun _ h => List.mem_cons_of_mem _ (List.mem_append_right _ (List.mem_append_right _ (List.mem_append_right _ (List.mem_append_right _ (List.mem_append_right _ (List.mem_append_left _ (h)))))))) wgX12_opens)
set_option maxRecDepth 20000 in
theorem hX12_factor_X12_next_v345 : GoodIn wzX12_factor (wsV RX12 345 RX12 yX12_next wzX12_next) := goodIn_app (goodIn_r _ [24, 25, 26, 14] rfl (by decide +kernel)) (zg_of (fun _ h => List.mem_cons_of_mem _ (List.mem_append_right _ (List.mem_append_right _ (List.mem_append_right _ (List.mem_append_right _ (List.mem_append_right _ (List.mem_append_right _ (List.mem_append_left _ (h))))))))) wgX12_next)
set_option maxRecDepth 20000 in
theorem hX12_factor_X12_seenAs_v471 : GoodIn wzX12_factor (wsV RX12 471 RX12 yX12_seenAs wzX12_seenAs) := goodIn_app (goodIn_r _ [27, 28, 29, 14] rfl (by decide +kernel)) (zg_of (fun _ h => List.mem_cons_of_mem _ (List.mem_append_right _ (List.mem_append_right _ (List.mem_append_right _ (List.mem_append_right _ (List.mem_append_right _ (List.mem_append_right _ (List.mem_append_right _ (List.mem_append_left _ (h)))))))))) wgX12_seenAs)
set_option maxRecDepth 20000 in
theorem hX12_factor_X12_emit_v464 : GoodIn wzX12_factor (wsV RX12 464 RX12 yX12_emit wzX12_emit) := goodIn_app (goodIn_r _ [30, 31, 32, 14] rfl (by decide +kernel)) (zg_of (fun _ h => List.mem_cons_of_mem _ (List.mem_append_right _ (List.mem_append_right _ (List.mem_append_right _ (List.mem_append_right _ (List.mem_append_right _ (List.mem_append_right _ (List.mem_append_right _ (List.mem_append_right _ (List.mem_append_left _ (h))))))))))) wgX12_emit)
set_option maxRecDepth 20000 in
theorem hX12_factor_X12_fail_v337 : GoodIn wzX12_factor (wsV RX12 337 RX12 yX12_fail wzX12_fail) := goodIn_app (goodIn_r _ [33, 34, 35, 14] rfl (by decide +kernel)) (zg_of (fun _ h => List.mem_cons_of_mem _ (List.mem_append_right _ (List.mem_append_right _ (List.mem_append_right _ (List.mem_append_right _ (List.mem_append_right _ (List.mem_append_right _ (List.mem_append_right _ (List.mem_append_right _ (List.mem_append_right _ (List.mem_append_left _ (h)))))))))))) wgX12_fail)
set_option maxRecDepth 20000 in
theorem hX12_factor_X12_shut_v468 : GoodIn wzX12_factor (wsV RX12 468 RX12 yX12_shut wzX12_shut) := goodIn_app (goodIn_r _ [36, 37, 38, 14] rfl (by decide +kernel)) (zg_of (fun _ h => List.mem_cons_of_mem _ (List.mem_append_right _ (List.mem_append_right _ (List.mem_append_right _ (List.mem_append_right _ (List.mem_append_right _ (List.mem_append_right _ (List.mem_append_right _ (List.mem_append_right _ (List.mem_append_right _ (List.mem_append_right _ (List.mem_append_left _ (h))))))))))))) wgX12_shut)
set_option maxRecDepth 20000 in
theorem hX12_arms_X12_next_v345 : GoodIn wzX12_arms (wsV RX12 345 RX12 yX12_next wzX12_next) := goodIn_app (goodIn_r _ [16, 17, 18, 19] rfl (by decide +kernel)) (zg_of (fun _ h => List.mem_cons_of_mem _ (List.mem_append_right _ (List.mem_append_right _ (List.mem_append_left _ (h))))) wgX12_next)
set_option maxRecDepth 20000 in
theorem hX12_arms_X12_open_v475 : GoodIn wzX12_arms (wsV RX12 475 RX12 yX12_open wzX12_open) := goodIn_app (goodIn_r _ [20, 21, 22, 19] rfl (by decide +kernel)) (zg_of (fun _ h => List.mem_cons_of_mem _ (List.mem_append_right _ (List.mem_append_right _ (List.mem_append_right _ (List.mem_append_left _ (h)))))) wgX12_open)
set_option maxRecDepth 20000 in
theorem hX12_arms_X12_then_v393 : GoodIn wzX12_arms (wsV RX12 393 RX12 yX12_then wzX12_then) := goodIn_app (goodIn_r _ [23, 24, 25, 19] rfl (by decide +kernel)) (zg_of (fun _ h => List.mem_cons_of_mem _ (List.mem_append_right _ (List.mem_append_right _ (List.mem_append_right _ (List.mem_append_right _ (List.mem_append_left _ (h))))))) wgX12_then)
set_option maxRecDepth 20000 in
theorem hX12_arms_X12_shut_v468 : GoodIn wzX12_arms (wsV RX12 468 RX12 yX12_shut wzX12_shut) := goodIn_app (goodIn_r _ [26, 27, 28, 19] rfl (by decide +kernel)) (zg_of (fun _ h => List.mem_cons_of_mem _ (List.mem_append_right _ (List.mem_append_right _ (List.mem_append_right _ (List.mem_append_right _ (List.mem_append_right _ (List.mem_append_left _ (h)))))))) wgX12_shut)
set_option maxRecDepth 20000 in
theorem hX12_arms_X12_emit_v464 : GoodIn wzX12_arms (wsV RX12 464 RX12 yX12_emit wzX12_emit) := goodIn_app (goodIn_r _ [29, 30, 31, 19] rfl (by decide +kernel)) (zg_of (fun _ h => List.mem_cons_of_mem _ (List.mem_append_right _ (List.mem_append_right _ (List.mem_append_right _ (List.mem_append_right _ (List.mem_append_right _ (List.mem_append_right _ (List.mem_append_left _ (h))))))))) wgX12_emit)
set_option maxRecDepth 20000 in
theorem hX12_arms_X12_goal_v373 : GoodIn wzX12_arms (wsV RX12 373 RX12 yX12_goal wzX12_goal) := goodIn_app (goodIn_r _ [32, 33, 34, 19] rfl (by decide +kernel)) (zg_of (fun _ h => List.mem_cons_of_mem _ (List.mem_append_right _ (List.mem_append_right _ (List.mem_append_right _ (List.mem_append_right _ (List.mem_append_right _ (List.mem_append_right _ (List.mem_append_right _ (List.mem_append_left _ (h)))))))))) wgX12_goal)
set_option maxRecDepth 20000 in
theorem hX12_arms_X12_can_v341 : GoodIn wzX12_arms (wsV RX12 341 RX12 yX12_can wzX12_can) := goodIn_app (goodIn_r _ [35, 36, 37, 19] rfl (by decide +kernel)) (zg_of (fun _ h => List.mem_cons_of_mem _ (List.mem_append_right _ (List.mem_append_right _ (List.mem_append_right _ (List.mem_append_right _ (List.mem_append_right _ (List.mem_append_right _ (List.mem_append_right _ (List.mem_append_right _ (List.mem_append_left _ (h))))))))))) wgX12_can)
set_option maxRecDepth 20000 in
theorem hX12_arms_X12_entry_v481 : GoodIn wzX12_arms (wsV RX12 481 RX12 yX12_entry wzX12_entry) := goodIn_app (goodIn_r _ [38, 39, 40, 19] rfl (by decide +kernel)) (zg_of (fun _ h => List.mem_cons_of_mem _ (List.mem_append_right _ (List.mem_append_right _ (List.mem_append_right _ (List.mem_append_right _ (List.mem_append_right _ (List.mem_append_right _ (List.mem_append_right _ (List.mem_append_right _ (List.mem_append_right _ (List.mem_append_left _ (h)))))))))))) wgX12_entry)
set_option maxRecDepth 20000 in
theorem hX12_arms_X12_fail_v337 : GoodIn wzX12_arms (wsV RX12 337 RX12 yX12_fail wzX12_fail) := goodIn_app (goodIn_r _ [41, 42, 43, 19] rfl (by decide +kernel)) (zg_of (fun _ h => List.mem_cons_of_mem _ (List.mem_append_right _ (List.mem_append_right _ (List.mem_append_right _ (List.mem_append_right _ (List.mem_append_right _ (List.mem_append_right _ (List.mem_append_right _ (List.mem_append_right _ (List.mem_append_right _ (List.mem_append_right _ (List.mem_append_left _ (h))))))))))))) wgX12_fail)
set_option maxRecDepth 20000 in
theorem hX12_arms_X12_caseNumber_v484 : GoodIn wzX12_arms (wsV RX12 484 RX12 yX12_caseNumber wzX12_caseNumber) := goodIn_app (goodIn_r _ [44, 45, 46, 19] rfl (by decide +kernel)) (zg_of (fun _ h => List.mem_cons_of_mem _ (List.mem_append_right _ (List.mem_append_right _ (List.mem_append_right _ (List.mem_append_right _ (List.mem_append_right _ (List.mem_append_right _ (List.mem_append_right _ (List.mem_append_right _ (List.mem_append_right _ (List.mem_append_right _ (List.mem_append_right _ (List.mem_append_left _ (h)))))))))))))) wgX12_caseNumber)
set_option maxRecDepth 20000 in
theorem hX12_arms_X12_need_v355 : GoodIn wzX12_arms (wsV RX12 355 RX12 yX12_need wzX12_need) := goodIn_app (goodIn_r _ [47, 48, 49, 19] rfl (by decide +kernel)) (zg_of (fun _ h => List.mem_cons_of_mem _ (List.mem_append_right _ (List.mem_append_right _ (List.mem_append_right _ (List.mem_append_right _ (List.mem_append_right _ (List.mem_append_right _ (List.mem_append_right _ (List.mem_append_right _ (List.mem_append_right _ (List.mem_append_right _ (List.mem_append_right _ (List.mem_append_right _ (List.mem_append_left _ (h))))))))))))))) wgX12_need)
set_option maxRecDepth 20000 in
theorem hX12_arms_X12_note_v487 : GoodIn wzX12_arms (wsV RX12 487 RX12 yX12_note wzX12_note) := goodIn_app (goodIn_r _ [50, 51, 52, 19] rfl (by decide +kernel)) (zg_of (fun _ h => List.mem_cons_of_mem _ (List.mem_append_right _ (List.mem_append_right _ (List.mem_append_right _ (List.mem_append_right _ (List.mem_append_right _ (List.mem_append_right _ (List.mem_append_right _ (List.mem_append_right _ (List.mem_append_right _ (List.mem_append_right _ (List.mem_append_right _ (List.mem_append_right _ (List.mem_append_right _ (List.mem_append_left _ (h)))))))))))))))) wgX12_note)
set_option maxRecDepth 20000 in
theorem hX12_both_X12_next_v345 : GoodIn wzX12_both (wsV RX12 345 RX12 yX12_next wzX12_next) := goodIn_app (goodIn_r _ [7, 8, 9, 10] rfl (by decide +kernel)) (zg_of (fun _ h => List.mem_cons_of_mem _ (List.mem_append_right _ (List.mem_append_right _ (List.mem_append_left _ (h))))) wgX12_next)
set_option maxRecDepth 20000 in
theorem hX12_both_X12_emit_v464 : GoodIn wzX12_both (wsV RX12 464 RX12 yX12_emit wzX12_emit) := goodIn_app (goodIn_r _ [11, 12, 13, 10] rfl (by decide +kernel)) (zg_of (fun _ h => List.mem_cons_of_mem _ (List.mem_append_right _ (List.mem_append_right _ (List.mem_append_right _ (List.mem_append_left _ (h)))))) wgX12_emit)
set_option maxRecDepth 20000 in
theorem hX12_both_X12_then_v393 : GoodIn wzX12_both (wsV RX12 393 RX12 yX12_then wzX12_then) := goodIn_app (goodIn_r _ [14, 15, 16, 10] rfl (by decide +kernel)) (zg_of (fun _ h => List.mem_cons_of_mem _ (List.mem_append_right _ (List.mem_append_right _ (List.mem_append_right _ (List.mem_append_right _ (List.mem_append_left _ (h))))))) wgX12_then)
set_option maxRecDepth 20000 in
theorem hX12_one_X12_emit_v464 : GoodIn wzX12_one (wsV RX12 464 RX12 yX12_emit wzX12_emit) := goodIn_app (goodIn_r _ [6, 7, 8, 9] rfl (by decide +kernel)) (zg_of (fun _ h => List.mem_cons_of_mem _ (List.mem_append_right _ (List.mem_append_right _ (List.mem_append_left _ (h))))) wgX12_emit)
set_option maxRecDepth 20000 in
theorem hX12_one_X12_next_v345 : GoodIn wzX12_one (wsV RX12 345 RX12 yX12_next wzX12_next) := goodIn_app (goodIn_r _ [10, 11, 12, 9] rfl (by decide +kernel)) (zg_of (fun _ h => List.mem_cons_of_mem _ (List.mem_append_right _ (List.mem_append_right _ (List.mem_append_right _ (List.mem_append_left _ (h)))))) wgX12_next)
set_option maxRecDepth 20000 in
theorem hX12_one_X12_then_v393 : GoodIn wzX12_one (wsV RX12 393 RX12 yX12_then wzX12_then) := goodIn_app (goodIn_r _ [13, 14, 15, 9] rfl (by decide +kernel)) (zg_of (fun _ h => List.mem_cons_of_mem _ (List.mem_append_right _ (List.mem_append_right _ (List.mem_append_right _ (List.mem_append_right _ (List.mem_append_left _ (h))))))) wgX12_then)
set_option maxRecDepth 20000 in
theorem hX12_one_X12_open_v475 : GoodIn wzX12_one (wsV RX12 475 RX12 yX12_open wzX12_open) := goodIn_app (goodIn_r _ [16, 17, 18, 9] rfl (by decide +kernel)) (zg_of (fun _ h => List.mem_cons_of_mem _ (List.mem_append_right _ (List.mem_append_right _ (List.mem_append_right _ (List.mem_append_right _ (List.mem_append_right _ (List.mem_append_left _ (h)))))))) wgX12_open)
set_option maxRecDepth 20000 in
theorem hX12_one_X12_opens_v351 : GoodIn wzX12_one (wsV RX12 351 RX12 yX12_opens wzX12_opens) := goodIn_app (goodIn_r _ [19, 20, 21, 9] rfl (by decide +kernel)) (zg_of (fun _ h => List.mem_cons_of_mem _ (List.mem_append_right _ (List.mem_append_right _ (List.mem_append_right _ (List.mem_append_right _ (List.mem_append_right _ (List.mem_append_right _ (List.mem_append_left _ (h))))))))) wgX12_opens)
set_option maxRecDepth 20000 in
theorem hX12_one_X12_shut_v468 : GoodIn wzX12_one (wsV RX12 468 RX12 yX12_shut wzX12_shut) := goodIn_app (goodIn_r _ [22, 23, 24, 9] rfl (by decide +kernel)) (zg_of (fun _ h => List.mem_cons_of_mem _ (List.mem_append_right _ (List.mem_append_right _ (List.mem_append_right _ (List.mem_append_right _ (List.mem_append_right _ (List.mem_append_right _ (List.mem_append_right _ (List.mem_append_left _ (h)))))))))) wgX12_shut)
set_option maxRecDepth 20000 in
theorem hX12_one_X12_can_v341 : GoodIn wzX12_one (wsV RX12 341 RX12 yX12_can wzX12_can) := goodIn_app (goodIn_r _ [25, 26, 27, 9] rfl (by decide +kernel)) (zg_of (fun _ h => List.mem_cons_of_mem _ (List.mem_append_right _ (List.mem_append_right _ (List.mem_append_right _ (List.mem_append_right _ (List.mem_append_right _ (List.mem_append_right _ (List.mem_append_right _ (List.mem_append_right _ (List.mem_append_left _ (h))))))))))) wgX12_can)
set_option maxRecDepth 20000 in
theorem hX12_thing_X12_sums_v447 : GoodIn wzX12_thing (wsV RX12 447 RX12 yX12_sums wzX12_sums) := goodIn_app (goodIn_r _ [3, 4, 5, 6] rfl (by decide +kernel)) (zg_of (fun _ h => List.mem_cons_of_mem _ (List.mem_append_right _ (List.mem_append_right _ (List.mem_append_left _ (h))))) wgX12_sums)
set_option maxRecDepth 20000 in
theorem hX12_thing_X12_factor_v451 : GoodIn wzX12_thing (wsV RX12 451 RX12 yX12_factor wzX12_factor) := goodIn_app (goodIn_r _ [7, 8, 9, 6] rfl (by decide +kernel)) (zg_of (fun _ h => List.mem_cons_of_mem _ (List.mem_append_right _ (List.mem_append_right _ (List.mem_append_right _ (List.mem_append_left _ (h)))))) wgX12_factor)
set_option maxRecDepth 20000 in
theorem hX12_thing_X12_arms_v454 : GoodIn wzX12_thing (wsV RX12 454 RX12 yX12_arms wzX12_arms) := goodIn_app (goodIn_r _ [10, 11, 12, 6] rfl (by decide +kernel)) (zg_of (fun _ h => List.mem_cons_of_mem _ (List.mem_append_right _ (List.mem_append_right _ (List.mem_append_right _ (List.mem_append_right _ (List.mem_append_left _ (h))))))) wgX12_arms)
set_option maxRecDepth 20000 in
theorem hX12_thing_X12_both_v457 : GoodIn wzX12_thing (wsV RX12 457 RX12 yX12_both wzX12_both) := goodIn_app (goodIn_r _ [13, 14, 15, 6] rfl (by decide +kernel)) (zg_of (fun _ h => List.mem_cons_of_mem _ (List.mem_append_right _ (List.mem_append_right _ (List.mem_append_right _ (List.mem_append_right _ (List.mem_append_right _ (List.mem_append_left _ (h)))))))) wgX12_both)
set_option maxRecDepth 20000 in
theorem hX12_thing_X12_one_v461 : GoodIn wzX12_thing (wsV RX12 461 RX12 yX12_one wzX12_one) := goodIn_app (goodIn_r _ [16, 17, 18, 6] rfl (by decide +kernel)) (zg_of (fun _ h => List.mem_cons_of_mem _ (List.mem_append_right _ (List.mem_append_right _ (List.mem_append_right _ (List.mem_append_right _ (List.mem_append_right _ (List.mem_append_right _ (List.mem_append_left _ (h))))))))) wgX12_one)
set_option maxRecDepth 20000 in
theorem hX12_parse_X12_push_v390 : GoodIn wzX12_parse (wsV RX12 390 RX12 yX12_push wzX12_push) := goodIn_app (goodIn_r _ [4, 5, 6, 7] rfl (by decide +kernel)) (zg_of (fun _ h => List.mem_cons_of_mem _ (List.mem_append_right _ (List.mem_append_right _ (List.mem_append_left _ (h))))) wgX12_push)
set_option maxRecDepth 20000 in
theorem hX12_parse_X12_list_v399 : GoodIn wzX12_parse (wsV RX12 399 RX12 yX12_list wzX12_list) := goodIn_app (goodIn_r _ [8, 9, 10, 7] rfl (by decide +kernel)) (zg_of (fun _ h => List.mem_cons_of_mem _ (List.mem_append_right _ (List.mem_append_right _ (List.mem_append_right _ (List.mem_append_left _ (h)))))) wgX12_list)
set_option maxRecDepth 20000 in
theorem hX12_parse_X12_stat_v402 : GoodIn wzX12_parse (wsV RX12 402 RX12 yX12_stat wzX12_stat) := goodIn_app (goodIn_r _ [11, 12, 13, 7] rfl (by decide +kernel)) (zg_of (fun _ h => List.mem_cons_of_mem _ (List.mem_append_right _ (List.mem_append_right _ (List.mem_append_right _ (List.mem_append_right _ (List.mem_append_left _ (h))))))) wgX12_stat)
set_option maxRecDepth 20000 in
theorem hX12_parse_X12_block_v405 : GoodIn wzX12_parse (wsV RX12 405 RX12 yX12_block wzX12_block) := goodIn_app (goodIn_r _ [14, 15, 16, 7] rfl (by decide +kernel)) (zg_of (fun _ h => List.mem_cons_of_mem _ (List.mem_append_right _ (List.mem_append_right _ (List.mem_append_right _ (List.mem_append_right _ (List.mem_append_right _ (List.mem_append_left _ (h)))))))) wgX12_block)
set_option maxRecDepth 20000 in
theorem hX12_parse_X12_tell_v408 : GoodIn wzX12_parse (wsV RX12 408 RX12 yX12_tell wzX12_tell) := goodIn_app (goodIn_r _ [17, 18, 19, 7] rfl (by decide +kernel)) (zg_of (fun _ h => List.mem_cons_of_mem _ (List.mem_append_right _ (List.mem_append_right _ (List.mem_append_right _ (List.mem_append_right _ (List.mem_append_right _ (List.mem_append_right _ (List.mem_append_left _ (h))))))))) wgX12_tell)
set_option maxRecDepth 20000 in
theorem hX12_parse_X12_named_v411 : GoodIn wzX12_parse (wsV RX12 411 RX12 yX12_named wzX12_named) := goodIn_app (goodIn_r _ [20, 21, 22, 7] rfl (by decide +kernel)) (zg_of (fun _ h => List.mem_cons_of_mem _ (List.mem_append_right _ (List.mem_append_right _ (List.mem_append_right _ (List.mem_append_right _ (List.mem_append_right _ (List.mem_append_right _ (List.mem_append_right _ (List.mem_append_left _ (h)))))))))) wgX12_named)
set_option maxRecDepth 20000 in
theorem hX12_parse_X12_ending_v414 : GoodIn wzX12_parse (wsV RX12 414 RX12 yX12_ending wzX12_ending) := goodIn_app (goodIn_r _ [23, 24, 25, 7] rfl (by decide +kernel)) (zg_of (fun _ h => List.mem_cons_of_mem _ (List.mem_append_right _ (List.mem_append_right _ (List.mem_append_right _ (List.mem_append_right _ (List.mem_append_right _ (List.mem_append_right _ (List.mem_append_right _ (List.mem_append_right _ (List.mem_append_left _ (h))))))))))) wgX12_ending)
set_option maxRecDepth 20000 in
theorem hX12_parse_X12_throwing_v417 : GoodIn wzX12_parse (wsV RX12 417 RX12 yX12_throwing wzX12_throwing) := goodIn_app (goodIn_r _ [26, 27, 28, 7] rfl (by decide +kernel)) (zg_of (fun _ h => List.mem_cons_of_mem _ (List.mem_append_right _ (List.mem_append_right _ (List.mem_append_right _ (List.mem_append_right _ (List.mem_append_right _ (List.mem_append_right _ (List.mem_append_right _ (List.mem_append_right _ (List.mem_append_right _ (List.mem_append_left _ (h)))))))))))) wgX12_throwing)
set_option maxRecDepth 20000 in
theorem hX12_parse_X12_asserted_v420 : GoodIn wzX12_parse (wsV RX12 420 RX12 yX12_asserted wzX12_asserted) := goodIn_app (goodIn_r _ [29, 30, 31, 7] rfl (by decide +kernel)) (zg_of (fun _ h => List.mem_cons_of_mem _ (List.mem_append_right _ (List.mem_append_right _ (List.mem_append_right _ (List.mem_append_right _ (List.mem_append_right _ (List.mem_append_right _ (List.mem_append_right _ (List.mem_append_right _ (List.mem_append_right _ (List.mem_append_right _ (List.mem_append_left _ (h))))))))))))) wgX12_asserted)
set_option maxRecDepth 20000 in
theorem hX12_parse_X12_branch_v423 : GoodIn wzX12_parse (wsV RX12 423 RX12 yX12_branch wzX12_branch) := goodIn_app (goodIn_r _ [32, 33, 34, 7] rfl (by decide +kernel)) (zg_of (fun _ h => List.mem_cons_of_mem _ (List.mem_append_right _ (List.mem_append_right _ (List.mem_append_right _ (List.mem_append_right _ (List.mem_append_right _ (List.mem_append_right _ (List.mem_append_right _ (List.mem_append_right _ (List.mem_append_right _ (List.mem_append_right _ (List.mem_append_right _ (List.mem_append_left _ (h)))))))))))))) wgX12_branch)
set_option maxRecDepth 20000 in
theorem hX12_parse_X12_whiles_v426 : GoodIn wzX12_parse (wsV RX12 426 RX12 yX12_whiles wzX12_whiles) := goodIn_app (goodIn_r _ [35, 36, 37, 7] rfl (by decide +kernel)) (zg_of (fun _ h => List.mem_cons_of_mem _ (List.mem_append_right _ (List.mem_append_right _ (List.mem_append_right _ (List.mem_append_right _ (List.mem_append_right _ (List.mem_append_right _ (List.mem_append_right _ (List.mem_append_right _ (List.mem_append_right _ (List.mem_append_right _ (List.mem_append_right _ (List.mem_append_right _ (List.mem_append_left _ (h))))))))))))))) wgX12_whiles)
set_option maxRecDepth 20000 in
theorem hX12_parse_X12_repeats_v429 : GoodIn wzX12_parse (wsV RX12 429 RX12 yX12_repeats wzX12_repeats) := goodIn_app (goodIn_r _ [38, 39, 40, 7] rfl (by decide +kernel)) (zg_of (fun _ h => List.mem_cons_of_mem _ (List.mem_append_right _ (List.mem_append_right _ (List.mem_append_right _ (List.mem_append_right _ (List.mem_append_right _ (List.mem_append_right _ (List.mem_append_right _ (List.mem_append_right _ (List.mem_append_right _ (List.mem_append_right _ (List.mem_append_right _ (List.mem_append_right _ (List.mem_append_right _ (List.mem_append_left _ (h)))))))))))))))) wgX12_repeats)
set_option maxRecDepth 20000 in
theorem hX12_parse_X12_fors_v432 : GoodIn wzX12_parse (wsV RX12 432 RX12 yX12_fors wzX12_fors) := goodIn_app (goodIn_r _ [41, 42, 43, 7] rfl (by decide +kernel)) (zg_of (fun _ h => List.mem_cons_of_mem _ (List.mem_append_right _ (List.mem_append_right _ (List.mem_append_right _ (List.mem_append_right _ (List.mem_append_right _ (List.mem_append_right _ (List.mem_append_right _ (List.mem_append_right _ (List.mem_append_right _ (List.mem_append_right _ (List.mem_append_right _ (List.mem_append_right _ (List.mem_append_right _ (List.mem_append_right _ (List.mem_append_left _ (h))))))))))))))))) wgX12_fors)
set_option maxRecDepth 20000 in
theorem hX12_parse_X12_lock_v435 : GoodIn wzX12_parse (wsV RX12 435 RX12 yX12_lock wzX12_lock) := goodIn_app (goodIn_r _ [44, 45, 46, 7] rfl (by decide +kernel)) (zg_of (fun _ h => List.mem_cons_of_mem _ (List.mem_append_right _ (List.mem_append_right _ (List.mem_append_right _ (List.mem_append_right _ (List.mem_append_right _ (List.mem_append_right _ (List.mem_append_right _ (List.mem_append_right _ (List.mem_append_right _ (List.mem_append_right _ (List.mem_append_right _ (List.mem_append_right _ (List.mem_append_right _ (List.mem_append_right _ (List.mem_append_right _ (List.mem_append_left _ (h)))))))))))))))))) wgX12_lock)
set_option maxRecDepth 20000 in
theorem hX12_parse_X12_groups_v438 : GoodIn wzX12_parse (wsV RX12 438 RX12 yX12_groups wzX12_groups) := goodIn_app (goodIn_r _ [47, 48, 49, 7] rfl (by decide +kernel)) (zg_of (fun _ h => List.mem_cons_of_mem _ (List.mem_append_right _ (List.mem_append_right _ (List.mem_append_right _ (List.mem_append_right _ (List.mem_append_right _ (List.mem_append_right _ (List.mem_append_right _ (List.mem_append_right _ (List.mem_append_right _ (List.mem_append_right _ (List.mem_append_right _ (List.mem_append_right _ (List.mem_append_right _ (List.mem_append_right _ (List.mem_append_right _ (List.mem_append_right _ (List.mem_append_left _ (h))))))))))))))))))) wgX12_groups)
set_option maxRecDepth 20000 in
theorem hX12_parse_X12_trying_v441 : GoodIn wzX12_parse (wsV RX12 441 RX12 yX12_trying wzX12_trying) := goodIn_app (goodIn_r _ [50, 51, 52, 7] rfl (by decide +kernel)) (zg_of (fun _ h => List.mem_cons_of_mem _ (List.mem_append_right _ (List.mem_append_right _ (List.mem_append_right _ (List.mem_append_right _ (List.mem_append_right _ (List.mem_append_right _ (List.mem_append_right _ (List.mem_append_right _ (List.mem_append_right _ (List.mem_append_right _ (List.mem_append_right _ (List.mem_append_right _ (List.mem_append_right _ (List.mem_append_right _ (List.mem_append_right _ (List.mem_append_right _ (List.mem_append_right _ (List.mem_append_left _ (h)))))))))))))))))))) wgX12_trying)
set_option maxRecDepth 20000 in
theorem hX12_parse_X12_thing_v444 : GoodIn wzX12_parse (wsV RX12 444 RX12 yX12_thing wzX12_thing) := goodIn_app (goodIn_r _ [53, 54, 55, 7] rfl (by decide +kernel)) (zg_of (fun _ h => List.mem_cons_of_mem _ (List.mem_append_right _ (List.mem_append_right _ (List.mem_append_right _ (List.mem_append_right _ (List.mem_append_right _ (List.mem_append_right _ (List.mem_append_right _ (List.mem_append_right _ (List.mem_append_right _ (List.mem_append_right _ (List.mem_append_right _ (List.mem_append_right _ (List.mem_append_right _ (List.mem_append_right _ (List.mem_append_right _ (List.mem_append_right _ (List.mem_append_right _ (List.mem_append_right _ (List.mem_append_left _ (h))))))))))))))))))))) wgX12_thing)
set_option maxRecDepth 20000 in
theorem hX12_read_X12_see_v506 : GoodIn wzX12_read (wsV RX12 506 RX12 yX12_see wzX12_see) := goodIn_app (goodIn_r _ [31, 32, 33, 34] rfl (by decide +kernel)) (zg_of (fun _ h => List.mem_cons_of_mem _ (List.mem_append_right _ (List.mem_append_right _ (List.mem_append_left _ (h))))) wgX12_see)
set_option maxRecDepth 20000 in
theorem hX12_read_X12_next_v345 : GoodIn wzX12_read (wsV RX12 345 RX12 yX12_next wzX12_next) := goodIn_app (goodIn_r _ [35, 36, 37, 34] rfl (by decide +kernel)) (zg_of (fun _ h => List.mem_cons_of_mem _ (List.mem_append_right _ (List.mem_append_right _ (List.mem_append_right _ (List.mem_append_left _ (h)))))) wgX12_next)
set_option maxRecDepth 20000 in
theorem hX12_read_X12_parse_v568 : GoodIn wzX12_read (wsV RX12 568 RX12 yX12_parse wzX12_parse) := goodIn_app (goodIn_r _ [38, 39, 40, 34] rfl (by decide +kernel)) (zg_of (fun _ h => List.mem_cons_of_mem _ (List.mem_append_right _ (List.mem_append_right _ (List.mem_append_right _ (List.mem_append_right _ (List.mem_append_left _ (h))))))) wgX12_parse)
set_option maxRecDepth 20000 in
theorem hX12_read_X12_can_v341 : GoodIn wzX12_read (wsV RX12 341 RX12 yX12_can wzX12_can) := goodIn_app (goodIn_r _ [41, 42, 43, 34] rfl (by decide +kernel)) (zg_of (fun _ h => List.mem_cons_of_mem _ (List.mem_append_right _ (List.mem_append_right _ (List.mem_append_right _ (List.mem_append_right _ (List.mem_append_right _ (List.mem_append_left _ (h)))))))) wgX12_can)
set_option maxRecDepth 20000 in
theorem hX12_read_X12_fail_v337 : GoodIn wzX12_read (wsV RX12 337 RX12 yX12_fail wzX12_fail) := goodIn_app (goodIn_r _ [44, 45, 46, 34] rfl (by decide +kernel)) (zg_of (fun _ h => List.mem_cons_of_mem _ (List.mem_append_right _ (List.mem_append_right _ (List.mem_append_right _ (List.mem_append_right _ (List.mem_append_right _ (List.mem_append_right _ (List.mem_append_left _ (h))))))))) wgX12_fail)
set_option maxRecDepth 20000 in
theorem hX12_program_X12_in_s279 : GoodIn wzX12_program (va_wsS RX12 279 yX12_in wzX12_in) := goodIn_app (goodIn_r _ [7, 8, 9] rfl (by decide +kernel)) (zg_of (fun _ h => List.mem_cons_of_mem _ (List.mem_append_right _ (List.mem_append_right _ (List.mem_append_left _ (h))))) wgX12_in)
set_option maxRecDepth 20000 in
theorem hX12_closeAll_X12_row_v603 : GoodIn wzX12_closeAll (wsV RX12 603 RX12 yX12_row wzX12_row) := goodIn_app (goodIn_r _ [10, 11, 12, 13] rfl (by decide +kernel)) (zg_of (fun _ h => List.mem_cons_of_mem _ (List.mem_append_right _ (List.mem_append_right _ (List.mem_append_left _ (h))))) wgX12_row)
set_option maxRecDepth 20000 in
theorem hX12_closeAll_X12_raise_v606 : GoodIn wzX12_closeAll (wsV RX12 606 RX12 yX12_raise wzX12_raise) := goodIn_app (goodIn_r _ [14, 15, 16, 13] rfl (by decide +kernel)) (zg_of (fun _ h => List.mem_cons_of_mem _ (List.mem_append_right _ (List.mem_append_right _ (List.mem_append_right _ (List.mem_append_left _ (h)))))) wgX12_raise)
set_option maxRecDepth 20000 in
theorem hX12_isCaught_X12_isUnder_v283 : GoodIn wzX12_isCaught (wsV RX12 283 RX12 yX12_isUnder wzX12_isUnder) := goodIn_app (goodIn_r _ [14, 15, 16, 17] rfl (by decide +kernel)) (zg_of (fun _ h => List.mem_cons_of_mem _ (List.mem_append_right _ (List.mem_append_right _ (List.mem_append_left _ (h))))) wgX12_isUnder)
set_option maxRecDepth 20000 in
theorem hX12_leave_X12_finals_v630 : GoodIn wzX12_leave (wsV RX12 630 RX12 yX12_finals wzX12_finals) := goodIn_app (goodIn_r _ [16, 17, 18, 19] rfl (by decide +kernel)) (zg_of (fun _ h => List.mem_cons_of_mem _ (List.mem_append_right _ (List.mem_append_right _ (List.mem_append_left _ (h))))) wgX12_finals)
set_option maxRecDepth 20000 in
theorem hX12_leave_X12_closeAll_v624 : GoodIn wzX12_leave (wsV RX12 624 RX12 yX12_closeAll wzX12_closeAll) := goodIn_app (goodIn_r _ [20, 21, 22, 19] rfl (by decide +kernel)) (zg_of (fun _ h => List.mem_cons_of_mem _ (List.mem_append_right _ (List.mem_append_right _ (List.mem_append_right _ (List.mem_append_left _ (h)))))) wgX12_closeAll)
set_option maxRecDepth 20000 in
theorem hX12_leave_X12_isCaught_v627 : GoodIn wzX12_leave (wsV RX12 627 RX12 yX12_isCaught wzX12_isCaught) := goodIn_app (goodIn_r _ [23, 24, 25, 19] rfl (by decide +kernel)) (zg_of (fun _ h => List.mem_cons_of_mem _ (List.mem_append_right _ (List.mem_append_right _ (List.mem_append_right _ (List.mem_append_right _ (List.mem_append_left _ (h))))))) wgX12_isCaught)
set_option maxRecDepth 20000 in
theorem hX12_leave_X12_row_v603 : GoodIn wzX12_leave (wsV RX12 603 RX12 yX12_row wzX12_row) := goodIn_app (goodIn_r _ [26, 27, 28, 19] rfl (by decide +kernel)) (zg_of (fun _ h => List.mem_cons_of_mem _ (List.mem_append_right _ (List.mem_append_right _ (List.mem_append_right _ (List.mem_append_right _ (List.mem_append_right _ (List.mem_append_left _ (h)))))))) wgX12_row)
set_option maxRecDepth 20000 in
theorem hX12_leave_X12_put_v633 : GoodIn wzX12_leave (wsV RX12 633 RX12 yX12_put wzX12_put) := goodIn_app (goodIn_r _ [29, 30, 31, 19] rfl (by decide +kernel)) (zg_of (fun _ h => List.mem_cons_of_mem _ (List.mem_append_right _ (List.mem_append_right _ (List.mem_append_right _ (List.mem_append_right _ (List.mem_append_right _ (List.mem_append_right _ (List.mem_append_left _ (h))))))))) wgX12_put)
set_option maxRecDepth 20000 in
theorem hX12_goOn_X12_finals_v630 : GoodIn wzX12_goOn (wsV RX12 630 RX12 yX12_finals wzX12_finals) := goodIn_app (goodIn_r _ [5, 6, 7, 8] rfl (by decide +kernel)) (zg_of (fun _ h => List.mem_cons_of_mem _ (List.mem_append_right _ (List.mem_append_right _ (List.mem_append_left _ (h))))) wgX12_finals)
set_option maxRecDepth 20000 in
theorem hX12_others_X12_record_v658 : GoodIn wzX12_others (wsV RX12 658 RX12 yX12_record wzX12_record) := goodIn_app (goodIn_r _ [27, 28, 29, 30] rfl (by decide +kernel)) (zg_of (fun _ h => List.mem_cons_of_mem _ (List.mem_append_right _ (List.mem_append_right _ (List.mem_append_left _ (h))))) wgX12_record)
set_option maxRecDepth 20000 in
theorem hX12_others_X12_step_v642 : GoodIn wzX12_others (wsV RX12 642 RX12 yX12_step wzX12_step) := goodIn_app (goodIn_r _ [31, 32, 33, 30] rfl (by decide +kernel)) (zg_of (fun _ h => List.mem_cons_of_mem _ (List.mem_append_right _ (List.mem_append_right _ (List.mem_append_right _ (List.mem_append_left _ (h)))))) wgX12_step)
set_option maxRecDepth 20000 in
theorem hX12_others_X12_leave_v648 : GoodIn wzX12_others (wsV RX12 648 RX12 yX12_leave wzX12_leave) := goodIn_app (goodIn_r _ [34, 35, 36, 30] rfl (by decide +kernel)) (zg_of (fun _ h => List.mem_cons_of_mem _ (List.mem_append_right _ (List.mem_append_right _ (List.mem_append_right _ (List.mem_append_right _ (List.mem_append_left _ (h))))))) wgX12_leave)
set_option maxRecDepth 20000 in
theorem hX12_others_X12_row_v603 : GoodIn wzX12_others (wsV RX12 603 RX12 yX12_row wzX12_row) := goodIn_app (goodIn_r _ [37, 38, 39, 30] rfl (by decide +kernel)) (zg_of (fun _ h => List.mem_cons_of_mem _ (List.mem_append_right _ (List.mem_append_right _ (List.mem_append_right _ (List.mem_append_right _ (List.mem_append_right _ (List.mem_append_left _ (h)))))))) wgX12_row)
set_option maxRecDepth 20000 in
theorem hX12_others_X12_raise_v606 : GoodIn wzX12_others (wsV RX12 606 RX12 yX12_raise wzX12_raise) := goodIn_app (goodIn_r _ [40, 41, 42, 30] rfl (by decide +kernel)) (zg_of (fun _ h => List.mem_cons_of_mem _ (List.mem_append_right _ (List.mem_append_right _ (List.mem_append_right _ (List.mem_append_right _ (List.mem_append_right _ (List.mem_append_right _ (List.mem_append_left _ (h))))))))) wgX12_raise)
set_option maxRecDepth 20000 in
theorem hX12_others_X12_closeAll_v624 : GoodIn wzX12_others (wsV RX12 624 RX12 yX12_closeAll wzX12_closeAll) := goodIn_app (goodIn_r _ [43, 44, 45, 30] rfl (by decide +kernel)) (zg_of (fun _ h => List.mem_cons_of_mem _ (List.mem_append_right _ (List.mem_append_right _ (List.mem_append_right _ (List.mem_append_right _ (List.mem_append_right _ (List.mem_append_right _ (List.mem_append_right _ (List.mem_append_left _ (h)))))))))) wgX12_closeAll)
set_option maxRecDepth 20000 in
theorem hX12_others_X12_goOn_v668 : GoodIn wzX12_others (wsV RX12 668 RX12 yX12_goOn wzX12_goOn) := goodIn_app (goodIn_r _ [46, 47, 48, 30] rfl (by decide +kernel)) (zg_of (fun _ h => List.mem_cons_of_mem _ (List.mem_append_right _ (List.mem_append_right _ (List.mem_append_right _ (List.mem_append_right _ (List.mem_append_right _ (List.mem_append_right _ (List.mem_append_right _ (List.mem_append_right _ (List.mem_append_left _ (h))))))))))) wgX12_goOn)
set_option maxRecDepth 20000 in
theorem hX12_ends_X12_take_v645 : GoodIn wzX12_ends (wsV RX12 645 RX12 yX12_take wzX12_take) := goodIn_app (goodIn_r _ [15, 16, 17, 18] rfl (by decide +kernel)) (zg_of (fun _ h => List.mem_cons_of_mem _ (List.mem_append_right _ (List.mem_append_right _ (List.mem_append_left _ (h))))) wgX12_take)
set_option maxRecDepth 20000 in
theorem hX12_ends_X12_leave_v648 : GoodIn wzX12_ends (wsV RX12 648 RX12 yX12_leave wzX12_leave) := goodIn_app (goodIn_r _ [19, 20, 21, 18] rfl (by decide +kernel)) (zg_of (fun _ h => List.mem_cons_of_mem _ (List.mem_append_right _ (List.mem_append_right _ (List.mem_append_right _ (List.mem_append_left _ (h)))))) wgX12_leave)
set_option maxRecDepth 20000 in
theorem hX12_ends_X12_raise_v606 : GoodIn wzX12_ends (wsV RX12 606 RX12 yX12_raise wzX12_raise) := goodIn_app (goodIn_r _ [22, 23, 24, 18] rfl (by decide +kernel)) (zg_of (fun _ h => List.mem_cons_of_mem _ (List.mem_append_right _ (List.mem_append_right _ (List.mem_append_right _ (List.mem_append_right _ (List.mem_append_left _ (h))))))) wgX12_raise)
set_option maxRecDepth 20000 in
theorem hX12_ends_X12_others_v665 : GoodIn wzX12_ends (wsV RX12 665 RX12 yX12_others wzX12_others) := goodIn_app (goodIn_r _ [25, 26, 27, 18] rfl (by decide +kernel)) (zg_of (fun _ h => List.mem_cons_of_mem _ (List.mem_append_right _ (List.mem_append_right _ (List.mem_append_right _ (List.mem_append_right _ (List.mem_append_right _ (List.mem_append_left _ (h)))))))) wgX12_others)
set_option maxRecDepth 20000 in
theorem hX12_ends_X12_row_v603 : GoodIn wzX12_ends (wsV RX12 603 RX12 yX12_row wzX12_row) := goodIn_app (goodIn_r _ [28, 29, 30, 18] rfl (by decide +kernel)) (zg_of (fun _ h => List.mem_cons_of_mem _ (List.mem_append_right _ (List.mem_append_right _ (List.mem_append_right _ (List.mem_append_right _ (List.mem_append_right _ (List.mem_append_right _ (List.mem_append_left _ (h))))))))) wgX12_row)
set_option maxRecDepth 20000 in
theorem hX12_ends_X12_record_v658 : GoodIn wzX12_ends (wsV RX12 658 RX12 yX12_record wzX12_record) := goodIn_app (goodIn_r _ [31, 32, 33, 18] rfl (by decide +kernel)) (zg_of (fun _ h => List.mem_cons_of_mem _ (List.mem_append_right _ (List.mem_append_right _ (List.mem_append_right _ (List.mem_append_right _ (List.mem_append_right _ (List.mem_append_right _ (List.mem_append_right _ (List.mem_append_left _ (h)))))))))) wgX12_record)
set_option maxRecDepth 20000 in
theorem hX12_ends_X12_caseOf_v662 : GoodIn wzX12_ends (wsV RX12 662 RX12 yX12_caseOf wzX12_caseOf) := goodIn_app (goodIn_r _ [34, 35, 36, 18] rfl (by decide +kernel)) (zg_of (fun _ h => List.mem_cons_of_mem _ (List.mem_append_right _ (List.mem_append_right _ (List.mem_append_right _ (List.mem_append_right _ (List.mem_append_right _ (List.mem_append_right _ (List.mem_append_right _ (List.mem_append_right _ (List.mem_append_left _ (h))))))))))) wgX12_caseOf)
set_option maxRecDepth 20000 in
theorem hX12_act_X12_step_v642 : GoodIn wzX12_act (wsV RX12 642 RX12 yX12_step wzX12_step) := goodIn_app (goodIn_r _ [8, 9, 10, 11] rfl (by decide +kernel)) (zg_of (fun _ h => List.mem_cons_of_mem _ (List.mem_append_right _ (List.mem_append_right _ (List.mem_append_left _ (h))))) wgX12_step)
set_option maxRecDepth 20000 in
theorem hX12_act_X12_put_v633 : GoodIn wzX12_act (wsV RX12 633 RX12 yX12_put wzX12_put) := goodIn_app (goodIn_r _ [12, 13, 14, 11] rfl (by decide +kernel)) (zg_of (fun _ h => List.mem_cons_of_mem _ (List.mem_append_right _ (List.mem_append_right _ (List.mem_append_right _ (List.mem_append_left _ (h)))))) wgX12_put)
set_option maxRecDepth 20000 in
theorem hX12_act_X12_take_v645 : GoodIn wzX12_act (wsV RX12 645 RX12 yX12_take wzX12_take) := goodIn_app (goodIn_r _ [15, 16, 17, 11] rfl (by decide +kernel)) (zg_of (fun _ h => List.mem_cons_of_mem _ (List.mem_append_right _ (List.mem_append_right _ (List.mem_append_right _ (List.mem_append_right _ (List.mem_append_left _ (h))))))) wgX12_take)
set_option maxRecDepth 20000 in
theorem hX12_act_X12_compute_v651 : GoodIn wzX12_act (wsV RX12 651 RX12 yX12_compute wzX12_compute) := goodIn_app (goodIn_r _ [18, 19, 20, 11] rfl (by decide +kernel)) (zg_of (fun _ h => List.mem_cons_of_mem _ (List.mem_append_right _ (List.mem_append_right _ (List.mem_append_right _ (List.mem_append_right _ (List.mem_append_right _ (List.mem_append_left _ (h)))))))) wgX12_compute)
set_option maxRecDepth 20000 in
theorem hX12_act_X12_raise_v606 : GoodIn wzX12_act (wsV RX12 606 RX12 yX12_raise wzX12_raise) := goodIn_app (goodIn_r _ [21, 22, 23, 11] rfl (by decide +kernel)) (zg_of (fun _ h => List.mem_cons_of_mem _ (List.mem_append_right _ (List.mem_append_right _ (List.mem_append_right _ (List.mem_append_right _ (List.mem_append_right _ (List.mem_append_right _ (List.mem_append_left _ (h))))))))) wgX12_raise)
set_option maxRecDepth 20000 in
theorem hX12_act_X12_leave_v648 : GoodIn wzX12_act (wsV RX12 648 RX12 yX12_leave wzX12_leave) := goodIn_app (goodIn_r _ [24, 25, 26, 11] rfl (by decide +kernel)) (zg_of (fun _ h => List.mem_cons_of_mem _ (List.mem_append_right _ (List.mem_append_right _ (List.mem_append_right _ (List.mem_append_right _ (List.mem_append_right _ (List.mem_append_right _ (List.mem_append_right _ (List.mem_append_left _ (h)))))))))) wgX12_leave)
set_option maxRecDepth 20000 in
theorem hX12_act_X12_row_v603 : GoodIn wzX12_act (wsV RX12 603 RX12 yX12_row wzX12_row) := goodIn_app (goodIn_r _ [27, 28, 29, 11] rfl (by decide +kernel)) (zg_of (fun _ h => List.mem_cons_of_mem _ (List.mem_append_right _ (List.mem_append_right _ (List.mem_append_right _ (List.mem_append_right _ (List.mem_append_right _ (List.mem_append_right _ (List.mem_append_right _ (List.mem_append_right _ (List.mem_append_left _ (h))))))))))) wgX12_row)
set_option maxRecDepth 20000 in
theorem hX12_act_X12_ends_v655 : GoodIn wzX12_act (wsV RX12 655 RX12 yX12_ends wzX12_ends) := goodIn_app (goodIn_r _ [30, 31, 32, 11] rfl (by decide +kernel)) (zg_of (fun _ h => List.mem_cons_of_mem _ (List.mem_append_right _ (List.mem_append_right _ (List.mem_append_right _ (List.mem_append_right _ (List.mem_append_right _ (List.mem_append_right _ (List.mem_append_right _ (List.mem_append_right _ (List.mem_append_right _ (List.mem_append_left _ (h)))))))))))) wgX12_ends)
set_option maxRecDepth 20000 in
theorem hX12_run_X12_act_v671 : GoodIn wzX12_run (wsV RX12 671 RX12 yX12_act wzX12_act) := goodIn_app (goodIn_r _ [16, 17, 18, 19] rfl (by decide +kernel)) (zg_of (fun _ h => List.mem_cons_of_mem _ (List.mem_append_right _ (List.mem_append_right _ (List.mem_append_left _ (h))))) wgX12_act)
set_option maxRecDepth 20000 in
theorem hX12_ran_X12_in_s279 : GoodIn wzX12_ran (va_wsS RX12 279 yX12_in wzX12_in) := goodIn_app (goodIn_r _ [12, 13, 14] rfl (by decide +kernel)) (zg_of (fun _ h => List.mem_cons_of_mem _ (List.mem_append_right _ (List.mem_append_right _ (List.mem_append_left _ (h))))) wgX12_in)
set_option maxRecDepth 20000 in
theorem hX12_trace_X12_in_s279 : GoodIn wzX12_trace (va_wsS RX12 279 yX12_in wzX12_in) := goodIn_app (goodIn_r _ [6, 7, 8] rfl (by decide +kernel)) (zg_of (fun _ h => List.mem_cons_of_mem _ (List.mem_append_right _ (List.mem_append_right _ (List.mem_append_left _ (h))))) wgX12_in)
set_option maxRecDepth 20000 in
theorem hX12_suppressed_X12_in_s279 : GoodIn wzX12_suppressed (va_wsS RX12 279 yX12_in wzX12_in) := goodIn_app (goodIn_r _ [8, 9, 10] rfl (by decide +kernel)) (zg_of (fun _ h => List.mem_cons_of_mem _ (List.mem_append_right _ (List.mem_append_right _ (List.mem_append_left _ (h))))) wgX12_in)
end
