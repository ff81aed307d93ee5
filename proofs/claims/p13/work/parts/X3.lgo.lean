theorem dL_law_0 : decode cL_law 0 = .ok (.new 8, 3) := by decide +kernel
theorem dL_law_3 : decode cL_law 3 = .ok (.dup, 1) := by decide +kernel
theorem dL_law_4 : decode cL_law 4 = .ok (.invokespecial 15, 3) := by decide +kernel
theorem dL_law_7 : decode cL_law 7 = .ok (.astore_n 1, 1) := by decide +kernel
theorem dL_law_8 : decode cL_law 8 = .ok (.new 16, 3) := by decide +kernel
theorem dL_law_11 : decode cL_law 11 = .ok (.dup, 1) := by decide +kernel
theorem dL_law_12 : decode cL_law 12 = .ok (.invokespecial 18, 3) := by decide +kernel
theorem dL_law_15 : decode cL_law 15 = .ok (.astore_n 2, 1) := by decide +kernel
theorem dL_law_16 : decode cL_law 16 = .ok (.iconst 1, 1) := by decide +kernel
theorem dL_law_17 : decode cL_law 17 = .ok (.newarray .long, 2) := by decide +kernel
theorem dL_law_19 : decode cL_law 19 = .ok (.astore_n 3, 1) := by decide +kernel
theorem dL_law_20 : decode cL_law 20 = .ok (.iconst 0, 1) := by decide +kernel
theorem dL_law_21 : decode cL_law 21 = .ok (.istore 4, 2) := by decide +kernel
theorem dL_law_23 : decode cL_law 23 = .ok (.iload 4, 2) := by decide +kernel
theorem dL_law_25 : decode cL_law 25 = .ok (.aload_n 0, 1) := by decide +kernel
theorem dL_law_26 : decode cL_law 26 = .ok (.arraylength, 1) := by decide +kernel
theorem dL_law_27 : decode cL_law 27 = .ok (.bipush 6, 2) := by decide +kernel
theorem dL_law_29 : decode cL_law 29 = .ok (.isub, 1) := by decide +kernel
theorem dL_law_30 : decode cL_law 30 = .ok (.if_icmp .gt 577, 3) := by decide +kernel
theorem dL_law_33 : decode cL_law 33 = .ok (.aload_n 0, 1) := by decide +kernel
theorem dL_law_34 : decode cL_law 34 = .ok (.iload 4, 2) := by decide +kernel
theorem dL_law_36 : decode cL_law 36 = .ok (.iaload, 1) := by decide +kernel
theorem dL_law_37 : decode cL_law 37 = .ok (.bipush 15, 2) := by decide +kernel
theorem dL_law_39 : decode cL_law 39 = .ok (.iand, 1) := by decide +kernel
theorem dL_law_40 : decode cL_law 40 = .ok (.tableswitch 561 0 13 #[72, 145, 170, 195, 256, 297, 310, 323, 348, 385, 410, 447, 484, 521], 72) := by decide +kernel
theorem dL_law_112 : decode cL_law 112 = .ok (.aload_n 1, 1) := by decide +kernel
theorem dL_law_113 : decode cL_law 113 = .ok (.aload_n 0, 1) := by decide +kernel
theorem dL_law_114 : decode cL_law 114 = .ok (.iload 4, 2) := by decide +kernel
theorem dL_law_116 : decode cL_law 116 = .ok (.iconst 1, 1) := by decide +kernel
theorem dL_law_117 : decode cL_law 117 = .ok (.iadd, 1) := by decide +kernel
theorem dL_law_118 : decode cL_law 118 = .ok (.iaload, 1) := by decide +kernel
theorem dL_law_119 : decode cL_law 119 = .ok (.aload_n 0, 1) := by decide +kernel
theorem dL_law_120 : decode cL_law 120 = .ok (.iload 4, 2) := by decide +kernel
theorem dL_law_122 : decode cL_law 122 = .ok (.iconst 2, 1) := by decide +kernel
theorem dL_law_123 : decode cL_law 123 = .ok (.iadd, 1) := by decide +kernel
theorem dL_law_124 : decode cL_law 124 = .ok (.iaload, 1) := by decide +kernel
theorem dL_law_125 : decode cL_law 125 = .ok (.aload_n 0, 1) := by decide +kernel
theorem dL_law_126 : decode cL_law 126 = .ok (.iload 4, 2) := by decide +kernel
theorem dL_law_128 : decode cL_law 128 = .ok (.iconst 3, 1) := by decide +kernel
theorem dL_law_129 : decode cL_law 129 = .ok (.iadd, 1) := by decide +kernel
theorem dL_law_130 : decode cL_law 130 = .ok (.iaload, 1) := by decide +kernel
theorem dL_law_131 : decode cL_law 131 = .ok (.aload_n 0, 1) := by decide +kernel
theorem dL_law_132 : decode cL_law 132 = .ok (.iload 4, 2) := by decide +kernel
theorem dL_law_134 : decode cL_law 134 = .ok (.iconst 4, 1) := by decide +kernel
theorem dL_law_135 : decode cL_law 135 = .ok (.iadd, 1) := by decide +kernel
theorem dL_law_136 : decode cL_law 136 = .ok (.iaload, 1) := by decide +kernel
theorem dL_law_137 : decode cL_law 137 = .ok (.aload_n 0, 1) := by decide +kernel
theorem dL_law_138 : decode cL_law 138 = .ok (.iload 4, 2) := by decide +kernel
theorem dL_law_140 : decode cL_law 140 = .ok (.iconst 5, 1) := by decide +kernel
theorem dL_law_141 : decode cL_law 141 = .ok (.iadd, 1) := by decide +kernel
theorem dL_law_142 : decode cL_law 142 = .ok (.iaload, 1) := by decide +kernel
theorem dL_law_143 : decode cL_law 143 = .ok (.invokevirtual 19, 3) := by decide +kernel
theorem dL_law_146 : decode cL_law 146 = .ok (.pop, 1) := by decide +kernel
theorem dL_law_147 : decode cL_law 147 = .ok (.aload_n 2, 1) := by decide +kernel
theorem dL_law_148 : decode cL_law 148 = .ok (.aload_n 0, 1) := by decide +kernel
theorem dL_law_149 : decode cL_law 149 = .ok (.iload 4, 2) := by decide +kernel
theorem dL_law_151 : decode cL_law 151 = .ok (.iconst 1, 1) := by decide +kernel
theorem dL_law_152 : decode cL_law 152 = .ok (.iadd, 1) := by decide +kernel
theorem dL_law_153 : decode cL_law 153 = .ok (.iaload, 1) := by decide +kernel
theorem dL_law_154 : decode cL_law 154 = .ok (.aload_n 0, 1) := by decide +kernel
theorem dL_law_155 : decode cL_law 155 = .ok (.iload 4, 2) := by decide +kernel
theorem dL_law_157 : decode cL_law 157 = .ok (.iconst 2, 1) := by decide +kernel
theorem dL_law_158 : decode cL_law 158 = .ok (.iadd, 1) := by decide +kernel
theorem dL_law_159 : decode cL_law 159 = .ok (.iaload, 1) := by decide +kernel
theorem dL_law_160 : decode cL_law 160 = .ok (.aload_n 0, 1) := by decide +kernel
theorem dL_law_161 : decode cL_law 161 = .ok (.iload 4, 2) := by decide +kernel
theorem dL_law_163 : decode cL_law 163 = .ok (.iconst 3, 1) := by decide +kernel
theorem dL_law_164 : decode cL_law 164 = .ok (.iadd, 1) := by decide +kernel
theorem dL_law_165 : decode cL_law 165 = .ok (.iaload, 1) := by decide +kernel
theorem dL_law_166 : decode cL_law 166 = .ok (.aload_n 0, 1) := by decide +kernel
theorem dL_law_167 : decode cL_law 167 = .ok (.iload 4, 2) := by decide +kernel
theorem dL_law_169 : decode cL_law 169 = .ok (.iconst 4, 1) := by decide +kernel
theorem dL_law_170 : decode cL_law 170 = .ok (.iadd, 1) := by decide +kernel
theorem dL_law_171 : decode cL_law 171 = .ok (.iaload, 1) := by decide +kernel
theorem dL_law_172 : decode cL_law 172 = .ok (.aload_n 0, 1) := by decide +kernel
theorem dL_law_173 : decode cL_law 173 = .ok (.iload 4, 2) := by decide +kernel
theorem dL_law_175 : decode cL_law 175 = .ok (.iconst 5, 1) := by decide +kernel
theorem dL_law_176 : decode cL_law 176 = .ok (.iadd, 1) := by decide +kernel
theorem dL_law_177 : decode cL_law 177 = .ok (.iaload, 1) := by decide +kernel
theorem dL_law_178 : decode cL_law 178 = .ok (.invokevirtual 23, 3) := by decide +kernel
theorem dL_law_181 : decode cL_law 181 = .ok (.pop, 1) := by decide +kernel
theorem dL_law_182 : decode cL_law 182 = .ok (.goto 419, 3) := by decide +kernel
theorem dL_law_185 : decode cL_law 185 = .ok (.aload_n 1, 1) := by decide +kernel
theorem dL_law_186 : decode cL_law 186 = .ok (.aload_n 0, 1) := by decide +kernel
theorem dL_law_187 : decode cL_law 187 = .ok (.iload 4, 2) := by decide +kernel
theorem dL_law_189 : decode cL_law 189 = .ok (.iconst 1, 1) := by decide +kernel
theorem dL_law_190 : decode cL_law 190 = .ok (.iadd, 1) := by decide +kernel
theorem dL_law_191 : decode cL_law 191 = .ok (.iaload, 1) := by decide +kernel
theorem dL_law_192 : decode cL_law 192 = .ok (.invokevirtual 24, 3) := by decide +kernel
theorem dL_law_195 : decode cL_law 195 = .ok (.pop, 1) := by decide +kernel
theorem dL_law_196 : decode cL_law 196 = .ok (.aload_n 2, 1) := by decide +kernel
theorem dL_law_197 : decode cL_law 197 = .ok (.aload_n 0, 1) := by decide +kernel
theorem dL_law_198 : decode cL_law 198 = .ok (.iload 4, 2) := by decide +kernel
theorem dL_law_200 : decode cL_law 200 = .ok (.iconst 1, 1) := by decide +kernel
theorem dL_law_201 : decode cL_law 201 = .ok (.iadd, 1) := by decide +kernel
theorem dL_law_202 : decode cL_law 202 = .ok (.iaload, 1) := by decide +kernel
theorem dL_law_203 : decode cL_law 203 = .ok (.invokevirtual 28, 3) := by decide +kernel
theorem dL_law_206 : decode cL_law 206 = .ok (.pop, 1) := by decide +kernel
theorem dL_law_207 : decode cL_law 207 = .ok (.goto 394, 3) := by decide +kernel
theorem dL_law_210 : decode cL_law 210 = .ok (.aload_n 1, 1) := by decide +kernel
theorem dL_law_211 : decode cL_law 211 = .ok (.aload_n 0, 1) := by decide +kernel
theorem dL_law_212 : decode cL_law 212 = .ok (.iload 4, 2) := by decide +kernel
theorem dL_law_214 : decode cL_law 214 = .ok (.iconst 1, 1) := by decide +kernel
theorem dL_law_215 : decode cL_law 215 = .ok (.iadd, 1) := by decide +kernel
theorem dL_law_216 : decode cL_law 216 = .ok (.iaload, 1) := by decide +kernel
theorem dL_law_217 : decode cL_law 217 = .ok (.invokevirtual 29, 3) := by decide +kernel
theorem dL_law_220 : decode cL_law 220 = .ok (.pop, 1) := by decide +kernel
theorem dL_law_221 : decode cL_law 221 = .ok (.aload_n 2, 1) := by decide +kernel
theorem dL_law_222 : decode cL_law 222 = .ok (.aload_n 0, 1) := by decide +kernel
theorem dL_law_223 : decode cL_law 223 = .ok (.iload 4, 2) := by decide +kernel
theorem dL_law_225 : decode cL_law 225 = .ok (.iconst 1, 1) := by decide +kernel
theorem dL_law_226 : decode cL_law 226 = .ok (.iadd, 1) := by decide +kernel
theorem dL_law_227 : decode cL_law 227 = .ok (.iaload, 1) := by decide +kernel
theorem dL_law_228 : decode cL_law 228 = .ok (.invokevirtual 32, 3) := by decide +kernel
theorem dL_law_231 : decode cL_law 231 = .ok (.pop, 1) := by decide +kernel
theorem dL_law_232 : decode cL_law 232 = .ok (.goto 369, 3) := by decide +kernel
theorem dL_law_235 : decode cL_law 235 = .ok (.aload_n 1, 1) := by decide +kernel
theorem dL_law_236 : decode cL_law 236 = .ok (.aload_n 0, 1) := by decide +kernel
theorem dL_law_237 : decode cL_law 237 = .ok (.iload 4, 2) := by decide +kernel
theorem dL_law_239 : decode cL_law 239 = .ok (.iconst 1, 1) := by decide +kernel
theorem dL_law_240 : decode cL_law 240 = .ok (.iadd, 1) := by decide +kernel
theorem dL_law_241 : decode cL_law 241 = .ok (.iaload, 1) := by decide +kernel
theorem dL_law_242 : decode cL_law 242 = .ok (.aload_n 0, 1) := by decide +kernel
theorem dL_law_243 : decode cL_law 243 = .ok (.iload 4, 2) := by decide +kernel
theorem dL_law_245 : decode cL_law 245 = .ok (.iconst 2, 1) := by decide +kernel
theorem dL_law_246 : decode cL_law 246 = .ok (.iadd, 1) := by decide +kernel
theorem dL_law_247 : decode cL_law 247 = .ok (.iaload, 1) := by decide +kernel
theorem dL_law_248 : decode cL_law 248 = .ok (.aload_n 0, 1) := by decide +kernel
theorem dL_law_249 : decode cL_law 249 = .ok (.iload 4, 2) := by decide +kernel
theorem dL_law_251 : decode cL_law 251 = .ok (.iconst 3, 1) := by decide +kernel
theorem dL_law_252 : decode cL_law 252 = .ok (.iadd, 1) := by decide +kernel
theorem dL_law_253 : decode cL_law 253 = .ok (.iaload, 1) := by decide +kernel
theorem dL_law_254 : decode cL_law 254 = .ok (.aload_n 0, 1) := by decide +kernel
theorem dL_law_255 : decode cL_law 255 = .ok (.iload 4, 2) := by decide +kernel
theorem dL_law_257 : decode cL_law 257 = .ok (.iconst 4, 1) := by decide +kernel
theorem dL_law_258 : decode cL_law 258 = .ok (.iadd, 1) := by decide +kernel
theorem dL_law_259 : decode cL_law 259 = .ok (.iaload, 1) := by decide +kernel
theorem dL_law_260 : decode cL_law 260 = .ok (.invokevirtual 33, 3) := by decide +kernel
theorem dL_law_263 : decode cL_law 263 = .ok (.pop, 1) := by decide +kernel
theorem dL_law_264 : decode cL_law 264 = .ok (.aload_n 2, 1) := by decide +kernel
theorem dL_law_265 : decode cL_law 265 = .ok (.aload_n 0, 1) := by decide +kernel
theorem dL_law_266 : decode cL_law 266 = .ok (.iload 4, 2) := by decide +kernel
theorem dL_law_268 : decode cL_law 268 = .ok (.iconst 1, 1) := by decide +kernel
theorem dL_law_269 : decode cL_law 269 = .ok (.iadd, 1) := by decide +kernel
theorem dL_law_270 : decode cL_law 270 = .ok (.iaload, 1) := by decide +kernel
theorem dL_law_271 : decode cL_law 271 = .ok (.aload_n 0, 1) := by decide +kernel
theorem dL_law_272 : decode cL_law 272 = .ok (.iload 4, 2) := by decide +kernel
theorem dL_law_274 : decode cL_law 274 = .ok (.iconst 2, 1) := by decide +kernel
theorem dL_law_275 : decode cL_law 275 = .ok (.iadd, 1) := by decide +kernel
theorem dL_law_276 : decode cL_law 276 = .ok (.iaload, 1) := by decide +kernel
theorem dL_law_277 : decode cL_law 277 = .ok (.aload_n 0, 1) := by decide +kernel
theorem dL_law_278 : decode cL_law 278 = .ok (.iload 4, 2) := by decide +kernel
theorem dL_law_280 : decode cL_law 280 = .ok (.iconst 3, 1) := by decide +kernel
theorem dL_law_281 : decode cL_law 281 = .ok (.iadd, 1) := by decide +kernel
theorem dL_law_282 : decode cL_law 282 = .ok (.iaload, 1) := by decide +kernel
theorem dL_law_283 : decode cL_law 283 = .ok (.aload_n 0, 1) := by decide +kernel
theorem dL_law_284 : decode cL_law 284 = .ok (.iload 4, 2) := by decide +kernel
theorem dL_law_286 : decode cL_law 286 = .ok (.iconst 4, 1) := by decide +kernel
theorem dL_law_287 : decode cL_law 287 = .ok (.iadd, 1) := by decide +kernel
theorem dL_law_288 : decode cL_law 288 = .ok (.iaload, 1) := by decide +kernel
theorem dL_law_289 : decode cL_law 289 = .ok (.invokevirtual 37, 3) := by decide +kernel
theorem dL_law_292 : decode cL_law 292 = .ok (.pop, 1) := by decide +kernel
theorem dL_law_293 : decode cL_law 293 = .ok (.goto 308, 3) := by decide +kernel
theorem dL_law_296 : decode cL_law 296 = .ok (.aload_n 1, 1) := by decide +kernel
theorem dL_law_297 : decode cL_law 297 = .ok (.aload_n 0, 1) := by decide +kernel
theorem dL_law_298 : decode cL_law 298 = .ok (.iload 4, 2) := by decide +kernel
theorem dL_law_300 : decode cL_law 300 = .ok (.iconst 1, 1) := by decide +kernel
theorem dL_law_301 : decode cL_law 301 = .ok (.iadd, 1) := by decide +kernel
theorem dL_law_302 : decode cL_law 302 = .ok (.iaload, 1) := by decide +kernel
theorem dL_law_303 : decode cL_law 303 = .ok (.ifCond .eq 7, 3) := by decide +kernel
theorem dL_law_306 : decode cL_law 306 = .ok (.iconst 1, 1) := by decide +kernel
theorem dL_law_307 : decode cL_law 307 = .ok (.goto 4, 3) := by decide +kernel
theorem dL_law_310 : decode cL_law 310 = .ok (.iconst 0, 1) := by decide +kernel
theorem dL_law_311 : decode cL_law 311 = .ok (.invokevirtual 38, 3) := by decide +kernel
theorem dL_law_314 : decode cL_law 314 = .ok (.pop, 1) := by decide +kernel
theorem dL_law_315 : decode cL_law 315 = .ok (.aload_n 2, 1) := by decide +kernel
theorem dL_law_316 : decode cL_law 316 = .ok (.aload_n 0, 1) := by decide +kernel
theorem dL_law_317 : decode cL_law 317 = .ok (.iload 4, 2) := by decide +kernel
theorem dL_law_319 : decode cL_law 319 = .ok (.iconst 1, 1) := by decide +kernel
theorem dL_law_320 : decode cL_law 320 = .ok (.iadd, 1) := by decide +kernel
theorem dL_law_321 : decode cL_law 321 = .ok (.iaload, 1) := by decide +kernel
theorem dL_law_322 : decode cL_law 322 = .ok (.ifCond .eq 7, 3) := by decide +kernel
theorem dL_law_325 : decode cL_law 325 = .ok (.iconst 1, 1) := by decide +kernel
theorem dL_law_326 : decode cL_law 326 = .ok (.goto 4, 3) := by decide +kernel
theorem dL_law_329 : decode cL_law 329 = .ok (.iconst 0, 1) := by decide +kernel
theorem dL_law_330 : decode cL_law 330 = .ok (.invokevirtual 42, 3) := by decide +kernel
theorem dL_law_333 : decode cL_law 333 = .ok (.pop, 1) := by decide +kernel
theorem dL_law_334 : decode cL_law 334 = .ok (.goto 267, 3) := by decide +kernel
theorem dL_law_337 : decode cL_law 337 = .ok (.aload_n 1, 1) := by decide +kernel
theorem dL_law_338 : decode cL_law 338 = .ok (.invokevirtual 43, 3) := by decide +kernel
theorem dL_law_341 : decode cL_law 341 = .ok (.pop, 1) := by decide +kernel
theorem dL_law_342 : decode cL_law 342 = .ok (.aload_n 2, 1) := by decide +kernel
theorem dL_law_343 : decode cL_law 343 = .ok (.invokevirtual 47, 3) := by decide +kernel
theorem dL_law_346 : decode cL_law 346 = .ok (.pop, 1) := by decide +kernel
theorem dL_law_347 : decode cL_law 347 = .ok (.goto 254, 3) := by decide +kernel
theorem dL_law_350 : decode cL_law 350 = .ok (.aload_n 1, 1) := by decide +kernel
theorem dL_law_351 : decode cL_law 351 = .ok (.invokevirtual 48, 3) := by decide +kernel
theorem dL_law_354 : decode cL_law 354 = .ok (.pop, 1) := by decide +kernel
theorem dL_law_355 : decode cL_law 355 = .ok (.aload_n 2, 1) := by decide +kernel
theorem dL_law_356 : decode cL_law 356 = .ok (.invokevirtual 51, 3) := by decide +kernel
theorem dL_law_359 : decode cL_law 359 = .ok (.pop, 1) := by decide +kernel
theorem dL_law_360 : decode cL_law 360 = .ok (.goto 241, 3) := by decide +kernel
theorem dL_law_363 : decode cL_law 363 = .ok (.aload_n 1, 1) := by decide +kernel
theorem dL_law_364 : decode cL_law 364 = .ok (.aload_n 0, 1) := by decide +kernel
theorem dL_law_365 : decode cL_law 365 = .ok (.iload 4, 2) := by decide +kernel
theorem dL_law_367 : decode cL_law 367 = .ok (.iconst 1, 1) := by decide +kernel
theorem dL_law_368 : decode cL_law 368 = .ok (.iadd, 1) := by decide +kernel
theorem dL_law_369 : decode cL_law 369 = .ok (.iaload, 1) := by decide +kernel
theorem dL_law_370 : decode cL_law 370 = .ok (.invokevirtual 52, 3) := by decide +kernel
theorem dL_law_373 : decode cL_law 373 = .ok (.pop, 1) := by decide +kernel
theorem dL_law_374 : decode cL_law 374 = .ok (.aload_n 2, 1) := by decide +kernel
theorem dL_law_375 : decode cL_law 375 = .ok (.aload_n 0, 1) := by decide +kernel
theorem dL_law_376 : decode cL_law 376 = .ok (.iload 4, 2) := by decide +kernel
theorem dL_law_378 : decode cL_law 378 = .ok (.iconst 1, 1) := by decide +kernel
theorem dL_law_379 : decode cL_law 379 = .ok (.iadd, 1) := by decide +kernel
theorem dL_law_380 : decode cL_law 380 = .ok (.iaload, 1) := by decide +kernel
theorem dL_law_381 : decode cL_law 381 = .ok (.invokevirtual 55, 3) := by decide +kernel
theorem dL_law_384 : decode cL_law 384 = .ok (.pop, 1) := by decide +kernel
theorem dL_law_385 : decode cL_law 385 = .ok (.goto 216, 3) := by decide +kernel
theorem dL_law_388 : decode cL_law 388 = .ok (.aload_n 1, 1) := by decide +kernel
theorem dL_law_389 : decode cL_law 389 = .ok (.aload_n 0, 1) := by decide +kernel
theorem dL_law_390 : decode cL_law 390 = .ok (.iload 4, 2) := by decide +kernel
theorem dL_law_392 : decode cL_law 392 = .ok (.iconst 1, 1) := by decide +kernel
theorem dL_law_393 : decode cL_law 393 = .ok (.iadd, 1) := by decide +kernel
theorem dL_law_394 : decode cL_law 394 = .ok (.iaload, 1) := by decide +kernel
theorem dL_law_395 : decode cL_law 395 = .ok (.aload_n 0, 1) := by decide +kernel
theorem dL_law_396 : decode cL_law 396 = .ok (.iload 4, 2) := by decide +kernel
theorem dL_law_398 : decode cL_law 398 = .ok (.iconst 2, 1) := by decide +kernel
theorem dL_law_399 : decode cL_law 399 = .ok (.iadd, 1) := by decide +kernel
theorem dL_law_400 : decode cL_law 400 = .ok (.iaload, 1) := by decide +kernel
theorem dL_law_401 : decode cL_law 401 = .ok (.invokevirtual 56, 3) := by decide +kernel
theorem dL_law_404 : decode cL_law 404 = .ok (.pop, 1) := by decide +kernel
theorem dL_law_405 : decode cL_law 405 = .ok (.aload_n 2, 1) := by decide +kernel
theorem dL_law_406 : decode cL_law 406 = .ok (.aload_n 0, 1) := by decide +kernel
theorem dL_law_407 : decode cL_law 407 = .ok (.iload 4, 2) := by decide +kernel
theorem dL_law_409 : decode cL_law 409 = .ok (.iconst 1, 1) := by decide +kernel
theorem dL_law_410 : decode cL_law 410 = .ok (.iadd, 1) := by decide +kernel
theorem dL_law_411 : decode cL_law 411 = .ok (.iaload, 1) := by decide +kernel
theorem dL_law_412 : decode cL_law 412 = .ok (.aload_n 0, 1) := by decide +kernel
theorem dL_law_413 : decode cL_law 413 = .ok (.iload 4, 2) := by decide +kernel
theorem dL_law_415 : decode cL_law 415 = .ok (.iconst 2, 1) := by decide +kernel
theorem dL_law_416 : decode cL_law 416 = .ok (.iadd, 1) := by decide +kernel
theorem dL_law_417 : decode cL_law 417 = .ok (.iaload, 1) := by decide +kernel
theorem dL_law_418 : decode cL_law 418 = .ok (.invokevirtual 59, 3) := by decide +kernel
theorem dL_law_421 : decode cL_law 421 = .ok (.pop, 1) := by decide +kernel
theorem dL_law_422 : decode cL_law 422 = .ok (.goto 179, 3) := by decide +kernel
theorem dL_law_425 : decode cL_law 425 = .ok (.aload_n 1, 1) := by decide +kernel
theorem dL_law_426 : decode cL_law 426 = .ok (.aload_n 0, 1) := by decide +kernel
theorem dL_law_427 : decode cL_law 427 = .ok (.iload 4, 2) := by decide +kernel
theorem dL_law_429 : decode cL_law 429 = .ok (.iconst 1, 1) := by decide +kernel
theorem dL_law_430 : decode cL_law 430 = .ok (.iadd, 1) := by decide +kernel
theorem dL_law_431 : decode cL_law 431 = .ok (.iaload, 1) := by decide +kernel
theorem dL_law_432 : decode cL_law 432 = .ok (.invokevirtual 60, 3) := by decide +kernel
theorem dL_law_435 : decode cL_law 435 = .ok (.pop, 1) := by decide +kernel
theorem dL_law_436 : decode cL_law 436 = .ok (.aload_n 2, 1) := by decide +kernel
theorem dL_law_437 : decode cL_law 437 = .ok (.aload_n 0, 1) := by decide +kernel
theorem dL_law_438 : decode cL_law 438 = .ok (.iload 4, 2) := by decide +kernel
theorem dL_law_440 : decode cL_law 440 = .ok (.iconst 1, 1) := by decide +kernel
theorem dL_law_441 : decode cL_law 441 = .ok (.iadd, 1) := by decide +kernel
theorem dL_law_442 : decode cL_law 442 = .ok (.iaload, 1) := by decide +kernel
theorem dL_law_443 : decode cL_law 443 = .ok (.invokevirtual 63, 3) := by decide +kernel
theorem dL_law_446 : decode cL_law 446 = .ok (.pop, 1) := by decide +kernel
theorem dL_law_447 : decode cL_law 447 = .ok (.goto 154, 3) := by decide +kernel
theorem dL_law_450 : decode cL_law 450 = .ok (.aload_n 1, 1) := by decide +kernel
theorem dL_law_451 : decode cL_law 451 = .ok (.aload_n 0, 1) := by decide +kernel
theorem dL_law_452 : decode cL_law 452 = .ok (.iload 4, 2) := by decide +kernel
theorem dL_law_454 : decode cL_law 454 = .ok (.iconst 1, 1) := by decide +kernel
theorem dL_law_455 : decode cL_law 455 = .ok (.iadd, 1) := by decide +kernel
theorem dL_law_456 : decode cL_law 456 = .ok (.iaload, 1) := by decide +kernel
theorem dL_law_457 : decode cL_law 457 = .ok (.aload_n 0, 1) := by decide +kernel
theorem dL_law_458 : decode cL_law 458 = .ok (.iload 4, 2) := by decide +kernel
theorem dL_law_460 : decode cL_law 460 = .ok (.iconst 2, 1) := by decide +kernel
theorem dL_law_461 : decode cL_law 461 = .ok (.iadd, 1) := by decide +kernel
theorem dL_law_462 : decode cL_law 462 = .ok (.iaload, 1) := by decide +kernel
theorem dL_law_463 : decode cL_law 463 = .ok (.invokevirtual 64, 3) := by decide +kernel
theorem dL_law_466 : decode cL_law 466 = .ok (.pop, 1) := by decide +kernel
theorem dL_law_467 : decode cL_law 467 = .ok (.aload_n 2, 1) := by decide +kernel
theorem dL_law_468 : decode cL_law 468 = .ok (.aload_n 0, 1) := by decide +kernel
theorem dL_law_469 : decode cL_law 469 = .ok (.iload 4, 2) := by decide +kernel
theorem dL_law_471 : decode cL_law 471 = .ok (.iconst 1, 1) := by decide +kernel
theorem dL_law_472 : decode cL_law 472 = .ok (.iadd, 1) := by decide +kernel
theorem dL_law_473 : decode cL_law 473 = .ok (.iaload, 1) := by decide +kernel
theorem dL_law_474 : decode cL_law 474 = .ok (.aload_n 0, 1) := by decide +kernel
theorem dL_law_475 : decode cL_law 475 = .ok (.iload 4, 2) := by decide +kernel
theorem dL_law_477 : decode cL_law 477 = .ok (.iconst 2, 1) := by decide +kernel
theorem dL_law_478 : decode cL_law 478 = .ok (.iadd, 1) := by decide +kernel
theorem dL_law_479 : decode cL_law 479 = .ok (.iaload, 1) := by decide +kernel
theorem dL_law_480 : decode cL_law 480 = .ok (.invokevirtual 67, 3) := by decide +kernel
theorem dL_law_483 : decode cL_law 483 = .ok (.pop, 1) := by decide +kernel
theorem dL_law_484 : decode cL_law 484 = .ok (.goto 117, 3) := by decide +kernel
theorem dL_law_487 : decode cL_law 487 = .ok (.aload_n 1, 1) := by decide +kernel
theorem dL_law_488 : decode cL_law 488 = .ok (.aload_n 0, 1) := by decide +kernel
theorem dL_law_489 : decode cL_law 489 = .ok (.iload 4, 2) := by decide +kernel
theorem dL_law_491 : decode cL_law 491 = .ok (.iconst 1, 1) := by decide +kernel
theorem dL_law_492 : decode cL_law 492 = .ok (.iadd, 1) := by decide +kernel
theorem dL_law_493 : decode cL_law 493 = .ok (.iaload, 1) := by decide +kernel
theorem dL_law_494 : decode cL_law 494 = .ok (.aload_n 0, 1) := by decide +kernel
theorem dL_law_495 : decode cL_law 495 = .ok (.iload 4, 2) := by decide +kernel
theorem dL_law_497 : decode cL_law 497 = .ok (.iconst 2, 1) := by decide +kernel
theorem dL_law_498 : decode cL_law 498 = .ok (.iadd, 1) := by decide +kernel
theorem dL_law_499 : decode cL_law 499 = .ok (.iaload, 1) := by decide +kernel
theorem dL_law_500 : decode cL_law 500 = .ok (.invokevirtual 68, 3) := by decide +kernel
theorem dL_law_503 : decode cL_law 503 = .ok (.aload_n 2, 1) := by decide +kernel
theorem dL_law_504 : decode cL_law 504 = .ok (.aload_n 0, 1) := by decide +kernel
theorem dL_law_505 : decode cL_law 505 = .ok (.iload 4, 2) := by decide +kernel
theorem dL_law_507 : decode cL_law 507 = .ok (.iconst 1, 1) := by decide +kernel
theorem dL_law_508 : decode cL_law 508 = .ok (.iadd, 1) := by decide +kernel
theorem dL_law_509 : decode cL_law 509 = .ok (.iaload, 1) := by decide +kernel
theorem dL_law_510 : decode cL_law 510 = .ok (.aload_n 0, 1) := by decide +kernel
theorem dL_law_511 : decode cL_law 511 = .ok (.iload 4, 2) := by decide +kernel
theorem dL_law_513 : decode cL_law 513 = .ok (.iconst 2, 1) := by decide +kernel
theorem dL_law_514 : decode cL_law 514 = .ok (.iadd, 1) := by decide +kernel
theorem dL_law_515 : decode cL_law 515 = .ok (.iaload, 1) := by decide +kernel
theorem dL_law_516 : decode cL_law 516 = .ok (.invokevirtual 71, 3) := by decide +kernel
theorem dL_law_519 : decode cL_law 519 = .ok (.if_icmp .eq 82, 3) := by decide +kernel
theorem dL_law_522 : decode cL_law 522 = .ok (.iconst 0, 1) := by decide +kernel
theorem dL_law_523 : decode cL_law 523 = .ok (.ireturn, 1) := by decide +kernel
theorem dL_law_524 : decode cL_law 524 = .ok (.aload_n 1, 1) := by decide +kernel
theorem dL_law_525 : decode cL_law 525 = .ok (.aload_n 0, 1) := by decide +kernel
theorem dL_law_526 : decode cL_law 526 = .ok (.iload 4, 2) := by decide +kernel
theorem dL_law_528 : decode cL_law 528 = .ok (.iconst 1, 1) := by decide +kernel
theorem dL_law_529 : decode cL_law 529 = .ok (.iadd, 1) := by decide +kernel
theorem dL_law_530 : decode cL_law 530 = .ok (.iaload, 1) := by decide +kernel
theorem dL_law_531 : decode cL_law 531 = .ok (.aload_n 0, 1) := by decide +kernel
theorem dL_law_532 : decode cL_law 532 = .ok (.iload 4, 2) := by decide +kernel
theorem dL_law_534 : decode cL_law 534 = .ok (.iconst 2, 1) := by decide +kernel
theorem dL_law_535 : decode cL_law 535 = .ok (.iadd, 1) := by decide +kernel
theorem dL_law_536 : decode cL_law 536 = .ok (.iaload, 1) := by decide +kernel
theorem dL_law_537 : decode cL_law 537 = .ok (.invokevirtual 72, 3) := by decide +kernel
theorem dL_law_540 : decode cL_law 540 = .ok (.pop, 1) := by decide +kernel
theorem dL_law_541 : decode cL_law 541 = .ok (.aload_n 2, 1) := by decide +kernel
theorem dL_law_542 : decode cL_law 542 = .ok (.aload_n 0, 1) := by decide +kernel
theorem dL_law_543 : decode cL_law 543 = .ok (.iload 4, 2) := by decide +kernel
theorem dL_law_545 : decode cL_law 545 = .ok (.iconst 1, 1) := by decide +kernel
theorem dL_law_546 : decode cL_law 546 = .ok (.iadd, 1) := by decide +kernel
theorem dL_law_547 : decode cL_law 547 = .ok (.iaload, 1) := by decide +kernel
theorem dL_law_548 : decode cL_law 548 = .ok (.aload_n 0, 1) := by decide +kernel
theorem dL_law_549 : decode cL_law 549 = .ok (.iload 4, 2) := by decide +kernel
theorem dL_law_551 : decode cL_law 551 = .ok (.iconst 2, 1) := by decide +kernel
theorem dL_law_552 : decode cL_law 552 = .ok (.iadd, 1) := by decide +kernel
theorem dL_law_553 : decode cL_law 553 = .ok (.iaload, 1) := by decide +kernel
theorem dL_law_554 : decode cL_law 554 = .ok (.invokevirtual 75, 3) := by decide +kernel
theorem dL_law_557 : decode cL_law 557 = .ok (.pop, 1) := by decide +kernel
theorem dL_law_558 : decode cL_law 558 = .ok (.goto 43, 3) := by decide +kernel
theorem dL_law_561 : decode cL_law 561 = .ok (.aload_n 1, 1) := by decide +kernel
theorem dL_law_562 : decode cL_law 562 = .ok (.aload_n 0, 1) := by decide +kernel
theorem dL_law_563 : decode cL_law 563 = .ok (.iload 4, 2) := by decide +kernel
theorem dL_law_565 : decode cL_law 565 = .ok (.iconst 1, 1) := by decide +kernel
theorem dL_law_566 : decode cL_law 566 = .ok (.iadd, 1) := by decide +kernel
theorem dL_law_567 : decode cL_law 567 = .ok (.iaload, 1) := by decide +kernel
theorem dL_law_568 : decode cL_law 568 = .ok (.aload_n 0, 1) := by decide +kernel
theorem dL_law_569 : decode cL_law 569 = .ok (.iload 4, 2) := by decide +kernel
theorem dL_law_571 : decode cL_law 571 = .ok (.iconst 2, 1) := by decide +kernel
theorem dL_law_572 : decode cL_law 572 = .ok (.iadd, 1) := by decide +kernel
theorem dL_law_573 : decode cL_law 573 = .ok (.iaload, 1) := by decide +kernel
theorem dL_law_574 : decode cL_law 574 = .ok (.aload_n 3, 1) := by decide +kernel
theorem dL_law_575 : decode cL_law 575 = .ok (.invokestatic 76, 3) := by decide +kernel
theorem dL_law_578 : decode cL_law 578 = .ok (.istore 5, 2) := by decide +kernel
theorem dL_law_580 : decode cL_law 580 = .ok (.aload_n 2, 1) := by decide +kernel
theorem dL_law_581 : decode cL_law 581 = .ok (.aload_n 0, 1) := by decide +kernel
theorem dL_law_582 : decode cL_law 582 = .ok (.iload 4, 2) := by decide +kernel
theorem dL_law_584 : decode cL_law 584 = .ok (.iconst 1, 1) := by decide +kernel
theorem dL_law_585 : decode cL_law 585 = .ok (.iadd, 1) := by decide +kernel
theorem dL_law_586 : decode cL_law 586 = .ok (.iaload, 1) := by decide +kernel
theorem dL_law_587 : decode cL_law 587 = .ok (.aload_n 0, 1) := by decide +kernel
theorem dL_law_588 : decode cL_law 588 = .ok (.iload 4, 2) := by decide +kernel
theorem dL_law_590 : decode cL_law 590 = .ok (.iconst 2, 1) := by decide +kernel
theorem dL_law_591 : decode cL_law 591 = .ok (.iadd, 1) := by decide +kernel
theorem dL_law_592 : decode cL_law 592 = .ok (.iaload, 1) := by decide +kernel
theorem dL_law_593 : decode cL_law 593 = .ok (.invokevirtual 81, 3) := by decide +kernel
theorem dL_law_596 : decode cL_law 596 = .ok (.istore 6, 2) := by decide +kernel
theorem dL_law_598 : decode cL_law 598 = .ok (.goto 3, 3) := by decide +kernel
theorem dL_law_601 : decode cL_law 601 = .ok (.iinc 4 6, 3) := by decide +kernel
theorem dL_law_604 : decode cL_law 604 = .ok (.goto (-581), 3) := by decide +kernel
theorem dL_law_607 : decode cL_law 607 = .ok (.iconst 1, 1) := by decide +kernel
theorem dL_law_608 : decode cL_law 608 = .ok (.ireturn, 1) := by decide +kernel
set_option maxRecDepth 20000 in
theorem hL_law_X11_feed_v19 : GoodIn lw_tbl2 (wsV RL 19 RX11 yX11_feed wzX11_feed) := goodIn_app (a := [.methodLink RL 19 yX11_feed, .instanceMethod yX11_feed, .selects RX11 yX11_feed yX11_feed, .initialized RX11]) (goodIn_sub (z_at [580, 581, 582, 161] (by decide +kernel)) (by decide +kernel)) (zg_of wtX11_feed wgX11_feed)
set_option maxRecDepth 20000 in
theorem hL_law_X12_feed_v23 : GoodIn lw_tbl2 (wsV RL 23 RX12 yX12_feed wzX12_feed) := goodIn_app (a := [.methodLink RL 23 yX12_feed, .instanceMethod yX12_feed, .selects RX12 yX12_feed yX12_feed, .initialized RX12]) (goodIn_sub (z_at [1885, 1886, 1887, 174] (by decide +kernel)) (by decide +kernel)) (zg_of wtX12_feed wgX12_feed)
set_option maxRecDepth 20000 in
theorem hL_law_X11_cut_v24 : GoodIn lw_tbl2 (wsV RL 24 RX11 yX11_cut wzX11_cut) := goodIn_app (a := [.methodLink RL 24 yX11_cut, .instanceMethod yX11_cut, .selects RX11 yX11_cut yX11_cut, .initialized RX11]) (goodIn_sub (z_at [591, 592, 593, 161] (by decide +kernel)) (by decide +kernel)) (zg_of wtX11_cut wgX11_cut)
set_option maxRecDepth 20000 in
theorem hL_law_X12_cut_v28 : GoodIn lw_tbl2 (wsV RL 28 RX12 yX12_cut wzX12_cut) := goodIn_app (a := [.methodLink RL 28 yX12_cut, .instanceMethod yX12_cut, .selects RX12 yX12_cut yX12_cut, .initialized RX12]) (goodIn_sub (z_at [1889, 1890, 1891, 174] (by decide +kernel)) (by decide +kernel)) (zg_of wtX12_cut wgX12_cut)
set_option maxRecDepth 20000 in
theorem hL_law_X11_kind_v29 : GoodIn lw_tbl2 (wsV RL 29 RX11 yX11_kind wzX11_kind) := goodIn_app (a := [.methodLink RL 29 yX11_kind, .instanceMethod yX11_kind, .selects RX11 yX11_kind yX11_kind, .initialized RX11]) (goodIn_sub (z_at [595, 596, 597, 161] (by decide +kernel)) (by decide +kernel)) (zg_of wtX11_kind wgX11_kind)
set_option maxRecDepth 20000 in
theorem hL_law_X12_kind_v32 : GoodIn lw_tbl2 (wsV RL 32 RX12 yX12_kind wzX12_kind) := goodIn_app (a := [.methodLink RL 32 yX12_kind, .instanceMethod yX12_kind, .selects RX12 yX12_kind yX12_kind, .initialized RX12]) (goodIn_sub (z_at [1896, 1897, 1898, 174] (by decide +kernel)) (by decide +kernel)) (zg_of wtX12_kind wgX12_kind)
set_option maxRecDepth 20000 in
theorem hL_law_X11_resource_v33 : GoodIn lw_tbl2 (wsV RL 33 RX11 yX11_resource wzX11_resource) := goodIn_app (a := [.methodLink RL 33 yX11_resource, .instanceMethod yX11_resource, .selects RX11 yX11_resource yX11_resource, .initialized RX11]) (goodIn_sub (z_at [612, 613, 614, 161] (by decide +kernel)) (by decide +kernel)) (zg_of wtX11_resource wgX11_resource)
set_option maxRecDepth 20000 in
theorem hL_law_X12_resource_v37 : GoodIn lw_tbl2 (wsV RL 37 RX12 yX12_resource wzX12_resource) := goodIn_app (a := [.methodLink RL 37 yX12_resource, .instanceMethod yX12_resource, .selects RX12 yX12_resource yX12_resource, .initialized RX12]) (goodIn_sub (z_at [1908, 1909, 1910, 174] (by decide +kernel)) (by decide +kernel)) (zg_of wtX12_resource wgX12_resource)
set_option maxRecDepth 20000 in
theorem hL_law_X11_asserts_v38 : GoodIn lw_tbl2 (wsV RL 38 RX11 yX11_asserts wzX11_asserts) := goodIn_app (a := [.methodLink RL 38 yX11_asserts, .instanceMethod yX11_asserts, .selects RX11 yX11_asserts yX11_asserts, .initialized RX11]) (goodIn_sub (z_at [624, 625, 626, 161] (by decide +kernel)) (by decide +kernel)) (zg_of wtX11_asserts wgX11_asserts)
set_option maxRecDepth 20000 in
theorem hL_law_X12_asserts_v42 : GoodIn lw_tbl2 (wsV RL 42 RX12 yX12_asserts wzX12_asserts) := goodIn_app (a := [.methodLink RL 42 yX12_asserts, .instanceMethod yX12_asserts, .selects RX12 yX12_asserts yX12_asserts, .initialized RX12]) (goodIn_sub (z_at [1912, 1913, 1914, 174] (by decide +kernel)) (by decide +kernel)) (zg_of wtX12_asserts wgX12_asserts)
set_option maxRecDepth 20000 in
theorem hL_law_X11_read_v43 : GoodIn lw_tbl2 (wsV RL 43 RX11 yX11_read wzX11_read) := goodIn_app (a := [.methodLink RL 43 yX11_read, .instanceMethod yX11_read, .selects RX11 yX11_read yX11_read, .initialized RX11]) (goodIn_sub (z_at [628, 629, 630, 161] (by decide +kernel)) (by decide +kernel)) (zg_of wtX11_read wgX11_read)
set_option maxRecDepth 20000 in
theorem hL_law_X12_read_v47 : GoodIn lw_tbl2 (wsV RL 47 RX12 yX12_read wzX12_read) := goodIn_app (a := [.methodLink RL 47 yX12_read, .instanceMethod yX12_read, .selects RX12 yX12_read yX12_read, .initialized RX12]) (goodIn_sub (z_at [1916, 1917, 1918, 174] (by decide +kernel)) (by decide +kernel)) (zg_of wtX12_read wgX12_read)
set_option maxRecDepth 20000 in
theorem hL_law_X11_fault_v48 : GoodIn lw_tbl2 (wsV RL 48 RX11 yX11_fault wzX11_fault) := goodIn_app (a := [.methodLink RL 48 yX11_fault, .instanceMethod yX11_fault, .selects RX11 yX11_fault yX11_fault, .initialized RX11]) (goodIn_sub (z_at [1200, 1201, 1202, 161] (by decide +kernel)) (by decide +kernel)) (zg_of wtX11_fault wgX11_fault)
set_option maxRecDepth 20000 in
theorem hL_law_X12_fault_v51 : GoodIn lw_tbl2 (wsV RL 51 RX12 yX12_fault wzX12_fault) := goodIn_app (a := [.methodLink RL 51 yX12_fault, .instanceMethod yX12_fault, .selects RX12 yX12_fault yX12_fault, .initialized RX12]) (goodIn_sub (z_at [2164, 2165, 2166, 174] (by decide +kernel)) (by decide +kernel)) (zg_of wtX12_fault wgX12_fault)
set_option maxRecDepth 20000 in
theorem hL_law_X11_program_v52 : GoodIn lw_tbl2 (wsV RL 52 RX11 yX11_program wzX11_program) := goodIn_app (a := [.methodLink RL 52 yX11_program, .instanceMethod yX11_program, .selects RX11 yX11_program yX11_program, .initialized RX11]) (goodIn_sub (z_at [1204, 1205, 1206, 161] (by decide +kernel)) (by decide +kernel)) (zg_of wtX11_program wgX11_program)
set_option maxRecDepth 20000 in
theorem hL_law_X12_program_v55 : GoodIn lw_tbl2 (wsV RL 55 RX12 yX12_program wzX12_program) := goodIn_app (a := [.methodLink RL 55 yX12_program, .instanceMethod yX12_program, .selects RX12 yX12_program yX12_program, .initialized RX12]) (goodIn_sub (z_at [2168, 2169, 2170, 174] (by decide +kernel)) (by decide +kernel)) (zg_of wtX12_program wgX12_program)
set_option maxRecDepth 20000 in
theorem hL_law_X11_run_v56 : GoodIn lw_tbl2 (wsV RL 56 RX11 yX11_run wzX11_run) := goodIn_app (a := [.methodLink RL 56 yX11_run, .instanceMethod yX11_run, .selects RX11 yX11_run yX11_run, .initialized RX11]) (goodIn_sub (z_at [1208, 1209, 1210, 161] (by decide +kernel)) (by decide +kernel)) (zg_of wtX11_run wgX11_run)
set_option maxRecDepth 20000 in
theorem hL_law_X12_run_v59 : GoodIn lw_tbl2 (wsV RL 59 RX12 yX12_run wzX12_run) := goodIn_app (a := [.methodLink RL 59 yX12_run, .instanceMethod yX12_run, .selects RX12 yX12_run yX12_run, .initialized RX12]) (goodIn_sub (z_at [2172, 2173, 2174, 174] (by decide +kernel)) (by decide +kernel)) (zg_of wtX12_run wgX12_run)
set_option maxRecDepth 20000 in
theorem hL_law_X11_ran_v60 : GoodIn lw_tbl2 (wsV RL 60 RX11 yX11_ran wzX11_ran) := goodIn_app (a := [.methodLink RL 60 yX11_ran, .instanceMethod yX11_ran, .selects RX11 yX11_ran yX11_ran, .initialized RX11]) (goodIn_sub (z_at [1408, 1409, 1410, 161] (by decide +kernel)) (by decide +kernel)) (zg_of wtX11_ran wgX11_ran)
set_option maxRecDepth 20000 in
theorem hL_law_X12_ran_v63 : GoodIn lw_tbl2 (wsV RL 63 RX12 yX12_ran wzX12_ran) := goodIn_app (a := [.methodLink RL 63 yX12_ran, .instanceMethod yX12_ran, .selects RX12 yX12_ran yX12_ran, .initialized RX12]) (goodIn_sub (z_at [2240, 2241, 2242, 174] (by decide +kernel)) (by decide +kernel)) (zg_of wtX12_ran wgX12_ran)
set_option maxRecDepth 20000 in
theorem hL_law_X11_trace_v64 : GoodIn lw_tbl2 (wsV RL 64 RX11 yX11_trace wzX11_trace) := goodIn_app (a := [.methodLink RL 64 yX11_trace, .instanceMethod yX11_trace, .selects RX11 yX11_trace yX11_trace, .initialized RX11]) (goodIn_sub (z_at [1420, 1421, 1422, 161] (by decide +kernel)) (by decide +kernel)) (zg_of wtX11_trace wgX11_trace)
set_option maxRecDepth 20000 in
theorem hL_law_X12_trace_v67 : GoodIn lw_tbl2 (wsV RL 67 RX12 yX12_trace wzX12_trace) := goodIn_app (a := [.methodLink RL 67 yX12_trace, .instanceMethod yX12_trace, .selects RX12 yX12_trace yX12_trace, .initialized RX12]) (goodIn_sub (z_at [2244, 2245, 2246, 174] (by decide +kernel)) (by decide +kernel)) (zg_of wtX12_trace wgX12_trace)
set_option maxRecDepth 20000 in
theorem hL_law_X11_suppressed_v68 : GoodIn lw_tbl2 (wsV RL 68 RX11 yX11_suppressed wzX11_suppressed) := goodIn_app (a := [.methodLink RL 68 yX11_suppressed, .instanceMethod yX11_suppressed, .selects RX11 yX11_suppressed yX11_suppressed, .initialized RX11]) (goodIn_sub (z_at [1425, 1426, 1427, 161] (by decide +kernel)) (by decide +kernel)) (zg_of wtX11_suppressed wgX11_suppressed)
set_option maxRecDepth 20000 in
theorem hL_law_X12_suppressed_v71 : GoodIn lw_tbl2 (wsV RL 71 RX12 yX12_suppressed wzX12_suppressed) := goodIn_app (a := [.methodLink RL 71 yX12_suppressed, .instanceMethod yX12_suppressed, .selects RX12 yX12_suppressed yX12_suppressed, .initialized RX12]) (goodIn_sub (z_at [2248, 2249, 2250, 174] (by decide +kernel)) (by decide +kernel)) (zg_of wtX12_suppressed wgX12_suppressed)
set_option maxRecDepth 20000 in
theorem hL_law_X11_under_v72 : GoodIn lw_tbl2 (wsV RL 72 RX11 yX11_under wzX11_under) := goodIn_app (a := [.methodLink RL 72 yX11_under, .instanceMethod yX11_under, .selects RX11 yX11_under yX11_under, .initialized RX11]) (goodIn_sub (z_at [1430, 1431, 1432, 161] (by decide +kernel)) (by decide +kernel)) (zg_of wtX11_under wgX11_under)
set_option maxRecDepth 20000 in
theorem hL_law_X12_under_v75 : GoodIn lw_tbl2 (wsV RL 75 RX12 yX12_under wzX12_under) := goodIn_app (a := [.methodLink RL 75 yX12_under, .instanceMethod yX12_under, .selects RX12 yX12_under yX12_under, .initialized RX12]) (goodIn_sub (z_at [1900, 1901, 1902, 174] (by decide +kernel)) (by decide +kernel)) (zg_of wtX12_under wgX12_under)
set_option maxRecDepth 20000 in
theorem hL_law_L_rounds_s76 : GoodIn lw_tbl2 (va_wsS RL 76 yL_rounds wzL_rounds) := goodIn_app (a := [.methodLink RL 76 yL_rounds, .static yL_rounds, .initialized RL]) (goodIn_sub (z_at [1435, 1436, 160] (by decide +kernel)) (by decide +kernel)) (zg_of wtL_rounds wgL_rounds)
set_option maxRecDepth 20000 in
theorem hL_law_X12_rounds_v81 : GoodIn lw_tbl2 (wsV RL 81 RX12 yX12_rounds wzX12_rounds) := goodIn_app (a := [.methodLink RL 81 yX12_rounds, .instanceMethod yX12_rounds, .selects RX12 yX12_rounds yX12_rounds, .initialized RX12]) (goodIn_sub (z_at [2252, 2253, 2254, 174] (by decide +kernel)) (by decide +kernel)) (zg_of wtX12_rounds wgX12_rounds)
theorem hL_law_X11_init_i15 : GoodIn lw_tbl2 wzX11_init := zg_of wtX11_init wgX11_init
theorem hL_law_X12_init_i18 : GoodIn lw_tbl2 wzX12_init := zg_of wtX12_init wgX12_init
/-! THE CLAIM OUT OF ONE WALK OF THE LAW'S BODY. Your part is whole_start (and what it stands on); all else here is the same for every law, but numbers. -/
def R_law : String := "StatementRules2Law"
def lw_P (b : Addr) (xs : List Int32) (args : Array Value) (s : State) : Prop := args = #[.ref b] ∧ s.IntsAt b xs ∧ xs.length ≤ 3072 ∧ (Jvm.Cond.and given_1 narrow_1).before args s = true
def lw_Q (_ : Array Value) (s : State) (o : Outcome) (t : State) : Prop := o = .returned (some (.int 1)) ∧ Framed s o t [] 601024 7293034
def lw_Z (below : List Frame) (a : Array Value) (s : State) : State → Prop := fun t => ∃ o, t.status = .running ∧ Ended t below o ∧ lw_Q a s o t
/-- the law's own end, with 1 on the stack, nothing written that was there before, its room as the claim has it -/
theorem lw_ret {p : Program} {l : Launch} {e : Env} {s : State} {m : MethodId} {below : List Frame} {meth : Method} {c : Code} {b : Nat} (hx : p.tables.exec = Jvm.exec) (hb : c.code = code) (hr : meth.sig.returnType = ret) (hlocks : meth.locks = false) {pc : Nat} {H : Heap} {ls : Array Slot} (hdg : decode code pc = .ok (.ireturn, 1)) : W p l e room_1 s m #[Value.ref b] below meth c H [] 601024 7293034 (lw_Z below #[Value.ref b] s) (F0 m pc ls [.int 1]) := by
  intro T hT X
  obtain ⟨fs, hret, hrun, hended, hW, hframe⟩ := X.leave (v := some (.int 1)) (hlocks := hlocks) (fun h => by rw [hr] at h; cases h)
  have hmeth' : T.vm.method? m = some meth := X.method'
  refine ⟨T.setFrames fs, ?_, .returned (some (.int 1)), hrun, hended, rfl, ⟨_, rfl⟩, hW, hframe⟩
  jvm_step X.here [X.here.top, hx, hb, hdg, hmeth', hr, ret, narrow_b1]
  (try refine ⟨rfl, ?_⟩); (try refine ⟨rfl, ?_⟩)
  first | (intro acts; rw [hret _ acts rfl rfl rfl]) | rw [hret _ _ rfl rfl rfl]
  exact Steps.refl _
/-- what holds at the law's entry: the machine, the code, the tables' words (any of lw_tbl by 'hts w (by decide +kernel)'), the script of L ints xs at the cell b, what the Statement gives of the start (any of its parts by flat_of_before) -/
def lw_At (p : Program) (s : State) (m : MethodId) (meth : Method) (c : Code) (b L : Nat) (xs : Nat → Int32) : Prop :=
  p.tables.exec = Jvm.exec ∧ c.code = code ∧ meth.sig.returnType = ret ∧ c.maxLocals = 7 ∧ s.vm.findClass R_law = some m.cls ∧ (∀ w ∈ lw_tbl, w.before #[Value.ref b] s = true) ∧ va_X b L xs s s.heap ∧ b < s.heap.size ∧ meth.locks = false ∧ (Jvm.Cond.and given_1 narrow_1).before #[Value.ref b] s = true
theorem z_lcmp (x : Int64) : lg_cmp x x = 0 := by
  unfold lg_cmp
  rw [if_neg (by intro h; exact absurd (Int64.lt_iff_toInt_lt.mp h) (Int.lt_irrefl _)), if_pos rfl]
theorem z_ti (k : Int32) (n : Int) (h : k.toInt = n) (x : Int32) : (k ≤ x ↔ n ≤ x.toInt) ∧ (x ≤ k ↔ x.toInt ≤ n) ∧ (k < x ↔ n < x.toInt) ∧ (x < k ↔ x.toInt < n) := by
  rw [← h]
  exact ⟨Int32.le_iff_toInt_le, Int32.le_iff_toInt_le, Int32.lt_iff_toInt_lt, Int32.lt_iff_toInt_lt⟩
theorem z_43 (x : Int32) : (¬ 4 ≤ x) = (¬ 3 < x) := by
  rw [(z_ti 4 4 (by decide) x).1, (z_ti 3 3 (by decide) x).2.2.1]
  exact propext ⟨fun h => by omega, fun h => by omega⟩
theorem z_87 (x : Int32) : (¬ 8 ≤ x) = (¬ 7 < x) := by
  rw [(z_ti 8 8 (by decide) x).1, (z_ti 7 7 (by decide) x).2.2.1]
  exact propext ⟨fun h => by omega, fun h => by omega⟩
theorem z_le3 (x : Int32) : (x ≤ 3) = (¬ 3 < x) := propext Int32.not_lt.symm
theorem z_le6 (x : Int32) : (x ≤ 6) = (¬ 6 < x) := propext Int32.not_lt.symm
theorem z_le1 (x : Int32) : (x ≤ 1) = (¬ 1 < x) := propext Int32.not_lt.symm
theorem z_kn (x : Int32) : (x = -1 ∨ (¬ x < 0 ∧ ¬ 4 ≤ x)) = (¬ x < (-1) ∧ ¬ 3 < x) := by
  have e1 : (-1 : Int32).toInt = -1 := by decide
  rw [(z_ti 4 4 (by decide) x).1, (z_ti 3 3 (by decide) x).2.2.1, (z_ti 0 0 (by decide) x).2.2.2, (z_ti (-1) (-1) e1 x).2.2.2]
  have e2 : (x = -1) ↔ x.toInt = -1 := ⟨fun h => by rw [h]; exact e1, fun h => Int32.toInt_inj.mp (h.trans e1.symm)⟩
  rw [e2]
  exact propext ⟨fun h => by omega, fun h => by omega⟩
theorem z_res (x y o k : Int32) : (¬ x < 0 ∧ ¬ 8 ≤ x ∧ ¬ y < 0 ∧ y ≤ 1 ∧ (o = -1 ∨ (¬ o < 0 ∧ ¬ 4 ≤ o)) ∧ (k = -1 ∨ (¬ k < 0 ∧ ¬ 4 ≤ k))) = ((¬ x < 0 ∧ ¬ 7 < x) ∧ (¬ y < 0 ∧ ¬ 1 < y) ∧ (¬ o < (-1) ∧ ¬ 3 < o) ∧ (¬ k < (-1) ∧ ¬ 3 < k)) := by
  rw [z_87, z_le1, z_kn, z_kn]
  exact propext ⟨fun h => ⟨⟨h.1, h.2.1⟩, ⟨h.2.2.1, h.2.2.2.1⟩, h.2.2.2.2.1, h.2.2.2.2.2⟩, fun h => ⟨h.1.1, h.1.2, h.2.1.1, h.2.1.2, h.2.2.1, h.2.2.2⟩⟩
theorem zNw_of {w : Cond} (hw : zIsN w = true) {a : Array Value} {U : State} (h : w.before a U = true) : va_Nw w U := by
  cases w <;> first | exact va_Nw.of rfl h | (simp [zIsN] at hw)
theorem zT_of {w : Cond} (hw : zIsT w = true) {a : Array Value} {U : State} (h : w.before a U = true) : va_Nw w U := by
  cases w <;> first | exact va_Nw.of rfl h | (simp [zIsT] at hw)
set_option maxRecDepth 20000 in
theorem zTB_in : ∀ w ∈ zTB, w ∈ lw_tbl := by decide +kernel
set_option maxRecDepth 20000 in
theorem z_els0 : ∀ j, j < 137 → (flatC (Jvm.Cond.and given_1 narrow_1))[27 + j]? = some (Cond.eq (.elem (.field (.string "StatementRules2$Tokens" 19) "java/lang/String" "value" "[B") (.int (Int32.ofNat j))) (.int (zBY.getD j 0))) := by decide +kernel
theorem z_els (j : Nat) (hj : j < 137) : Cond.eq (.elem (.field (.string "StatementRules2$Tokens" 19) "java/lang/String" "value" "[B") (.int (Int32.ofNat j))) (.int (zBY.getD j 0)) ∈ flatC (Jvm.Cond.and given_1 narrow_1) := List.mem_of_getElem? (z_els0 j hj)
set_option maxRecDepth 20000 in
theorem k_L_law_arrayOver_object_SR_Open : Cond.arrayOver (.object "StatementRules2$Open") ∈ lw_tbl := List.mem_of_getElem? (i := 407) (by decide +kernel)
set_option maxRecDepth 20000 in
theorem k_L_law_arrayOver_object_SR_Frame : Cond.arrayOver (.object "StatementRules2$Frame") ∈ lw_tbl := List.mem_of_getElem? (i := 486) (by decide +kernel)
set_option maxRecDepth 20000 in
theorem k_L_law_arrayOver_object_SR_Thrown : Cond.arrayOver (.object "StatementRules2$Thrown") ∈ lw_tbl := List.mem_of_getElem? (i := 488) (by decide +kernel)
set_option maxRecDepth 20000 in
theorem k_L_law_laysStatic_Bundle_tN_UNASSIGNED_STACK_Bundle_steD : Cond.laysStatic Bundle.tN "UNASSIGNED_STACK" Bundle.steD ∈ lw_tbl := List.mem_of_getElem? (i := 1470) (by decide +kernel)
set_option maxRecDepth 20000 in
theorem k_L_law_initialized_Bundle_tN : Cond.initialized Bundle.tN ∈ lw_tbl := List.mem_of_getElem? (i := 179) (by decide +kernel)
set_option maxRecDepth 20000 in
theorem z_fl1 : Cond.isRef (.static Bundle.tN "UNASSIGNED_STACK" Bundle.steD) ∈ flatC (Jvm.Cond.and given_1 narrow_1) := List.mem_of_getElem? (i := 9) (by decide +kernel)
set_option maxRecDepth 20000 in
theorem k_L_law_laysStatic_Bundle_tN_SUPPRESSED_SENTINEL_Bundle_listD : Cond.laysStatic Bundle.tN "SUPPRESSED_SENTINEL" Bundle.listD ∈ lw_tbl := List.mem_of_getElem? (i := 1472) (by decide +kernel)
set_option maxRecDepth 20000 in
theorem z_fl2 : Cond.isRef (.static Bundle.tN "SUPPRESSED_SENTINEL" Bundle.listD) ∈ flatC (Jvm.Cond.and given_1 narrow_1) := List.mem_of_getElem? (i := 10) (by decide +kernel)
set_option maxRecDepth 20000 in
theorem z_fl3 : Cond.exactly (.string "StatementRules2$Tokens" 19) "java/lang/String" ∈ flatC (Jvm.Cond.and given_1 narrow_1) := List.mem_of_getElem? (i := 23) (by decide +kernel)
set_option maxRecDepth 20000 in
theorem z_fl4 : Cond.eq (.field (.string "StatementRules2$Tokens" 19) "java/lang/String" "coder" "B") (.int 0) ∈ flatC (Jvm.Cond.and given_1 narrow_1) := List.mem_of_getElem? (i := 24) (by decide +kernel)
set_option maxRecDepth 20000 in
theorem z_fl5 : Cond.arrayOf (.field (.string "StatementRules2$Tokens" 19) "java/lang/String" "value" "[B") .byte ∈ flatC (Jvm.Cond.and given_1 narrow_1) := List.mem_of_getElem? (i := 25) (by decide +kernel)
set_option maxRecDepth 20000 in
theorem z_fl6 : Cond.eq (.length (.field (.string "StatementRules2$Tokens" 19) "java/lang/String" "value" "[B")) (.int 137) ∈ flatC (Jvm.Cond.and given_1 narrow_1) := List.mem_of_getElem? (i := 26) (by decide +kernel)
set_option maxRecDepth 20000 in
theorem k_L_law_stringRef_RX9_19_zTX : Cond.stringRef RX9 19 zTX ∈ lw_tbl := List.mem_of_getElem? (i := 289) (by decide +kernel)
set_option maxRecDepth 20000 in
theorem k_L_law_laysStatic_java_lang_String_COMPACT_STRINGS_Z : Cond.laysStatic "java/lang/String" "COMPACT_STRINGS" "Z" ∈ lw_tbl := List.mem_of_getElem? (i := 299) (by decide +kernel)
set_option maxRecDepth 20000 in
theorem k_L_law_initialized_java_lang_String : Cond.initialized "java/lang/String" ∈ lw_tbl := List.mem_of_getElem? (i := 167) (by decide +kernel)
set_option maxRecDepth 20000 in
theorem z_fl7 : Cond.eq (.static "java/lang/String" "COMPACT_STRINGS" "Z") (.int 1) ∈ flatC (Jvm.Cond.and given_1 narrow_1) := List.mem_of_getElem? (i := 4) (by decide +kernel)
set_option maxRecDepth 20000 in
theorem k_L_law_laysStatic_jdk_internal_util_Preconditions_SIOOBE_FORMATTER_Ljava_util_function_BiFunction : Cond.laysStatic "jdk/internal/util/Preconditions" "SIOOBE_FORMATTER" "Ljava/util/function/BiFunction;" ∈ lw_tbl := List.mem_of_getElem? (i := 315) (by decide +kernel)
set_option maxRecDepth 20000 in
theorem k_L_law_initialized_jdk_internal_util_Preconditions : Cond.initialized "jdk/internal/util/Preconditions" ∈ lw_tbl := List.mem_of_getElem? (i := 169) (by decide +kernel)
set_option maxRecDepth 20000 in
theorem z_fl8 : Cond.isRef (.static "jdk/internal/util/Preconditions" "SIOOBE_FORMATTER" "Ljava/util/function/BiFunction;") ∈ flatC (Jvm.Cond.and given_1 narrow_1) := List.mem_of_getElem? (i := 5) (by decide +kernel)
set_option maxRecDepth 20000 in
theorem i_L_law_X0 : ∀ w ∈ wsX00, w ∈ lw_tbl := z_at [254, 256, 258, 260, 262, 264, 266, 268, 270, 272, 274, 276, 278] (by decide +kernel)
set_option maxRecDepth 20000 in
theorem k_L_law_instantiable_RX0_13 : Cond.instantiable RX0 13 ∈ lw_tbl := List.mem_of_getElem? (i := 222) (by decide +kernel)
set_option maxRecDepth 20000 in
theorem i_L_law_X2 : ∀ w ∈ wsX20, w ∈ lw_tbl := z_at [1337, 1339, 1341, 1343, 1345, 1347, 1349, 1351] (by decide +kernel)
set_option maxRecDepth 20000 in
theorem k_L_law_instantiable_RX2_8 : Cond.instantiable RX2 8 ∈ lw_tbl := List.mem_of_getElem? (i := 1324) (by decide +kernel)
set_option maxRecDepth 20000 in
theorem i_L_law_X3 : ∀ w ∈ wsX30, w ∈ lw_tbl := z_at [511, 513, 515, 517, 519, 521, 523, 525, 527, 529, 531, 533, 535, 537, 539, 541, 543, 545, 547, 549] (by decide +kernel)
set_option maxRecDepth 20000 in
theorem k_L_law_instantiable_RX3_20 : Cond.instantiable RX3 20 ∈ lw_tbl := List.mem_of_getElem? (i := 480) (by decide +kernel)
set_option maxRecDepth 20000 in
theorem i_L_law_X4 : ∀ w ∈ wsX40, w ∈ lw_tbl := z_at [391, 393, 395, 397] (by decide +kernel)
set_option maxRecDepth 20000 in
theorem k_L_law_instantiable_RX4_4 : Cond.instantiable RX4 4 ∈ lw_tbl := List.mem_of_getElem? (i := 381) (by decide +kernel)
set_option maxRecDepth 20000 in
theorem i_L_law_X5 : ∀ w ∈ wsX50, w ∈ lw_tbl := z_at [744, 746, 748, 750, 752, 754, 756, 758, 760, 762, 764, 766, 768, 770, 772, 774, 776] (by decide +kernel)
set_option maxRecDepth 20000 in
theorem k_L_law_instantiable_RX5_17 : Cond.instantiable RX5 17 ∈ lw_tbl := List.mem_of_getElem? (i := 708) (by decide +kernel)
set_option maxRecDepth 20000 in
theorem i_L_law_X6 : ∀ w ∈ wsX60, w ∈ lw_tbl := z_at [417, 419, 421, 423, 425, 427] (by decide +kernel)
set_option maxRecDepth 20000 in
theorem k_L_law_instantiable_RX6_6 : Cond.instantiable RX6 6 ∈ lw_tbl := List.mem_of_getElem? (i := 401) (by decide +kernel)
set_option maxRecDepth 20000 in
theorem i_L_law_X7 : ∀ w ∈ wsX70, w ∈ lw_tbl := z_at [464, 466, 468, 470, 472, 474, 476, 456, 458, 460, 462] (by decide +kernel)
set_option maxRecDepth 20000 in
theorem k_L_law_instantiable_RX7_11 : Cond.instantiable RX7 11 ∈ lw_tbl := List.mem_of_getElem? (i := 282) (by decide +kernel)
set_option maxRecDepth 20000 in
theorem i_L_law_X8 : ∀ w ∈ wsX80, w ∈ lw_tbl := z_at [1268, 1270, 1272, 1274, 1276] (by decide +kernel)
set_option maxRecDepth 20000 in
theorem k_L_law_instantiable_RX8_5 : Cond.instantiable RX8 5 ∈ lw_tbl := List.mem_of_getElem? (i := 1254) (by decide +kernel)
set_option maxRecDepth 20000 in
theorem i_L_law_X9 : ∀ w ∈ wsX90, w ∈ lw_tbl := z_at [354, 356, 358, 360, 362, 364, 366, 368] (by decide +kernel)
set_option maxRecDepth 20000 in
theorem k_L_law_instantiable_RX9_8 : Cond.instantiable RX9 8 ∈ lw_tbl := List.mem_of_getElem? (i := 284) (by decide +kernel)
set_option maxRecDepth 20000 in
theorem i_L_law_X10 : ∀ w ∈ wsX100, w ∈ lw_tbl := z_at [207, 209, 211, 213, 215, 217] (by decide +kernel)
set_option maxRecDepth 20000 in
theorem k_L_law_instantiable_RX10_6 : Cond.instantiable RX10 6 ∈ lw_tbl := List.mem_of_getElem? (i := 192) (by decide +kernel)
set_option maxRecDepth 20000 in
theorem i_L_law_X11 : ∀ w ∈ wsX110, w ∈ lw_tbl := z_at [561, 563, 565, 567, 569, 571, 573, 575, 577] (by decide +kernel)
set_option maxRecDepth 20000 in
theorem k_L_law_instantiable_RX11_9 : Cond.instantiable RX11 9 ∈ lw_tbl := List.mem_of_getElem? (i := 184) (by decide +kernel)
set_option maxRecDepth 20000 in
theorem i_L_law_X12 : ∀ w ∈ wsX120, w ∈ lw_tbl := z_at [1651, 1653, 1655, 1657, 1659, 1661, 1663, 1665, 1667, 1669, 1671, 1673, 1675, 1677, 1679, 1681, 1683, 1685, 1687, 1689, 1691, 1693, 1695, 1697, 1699, 1701, 1703, 1705, 1707, 1709, 1711, 1713, 1715, 1717, 1719, 1721, 1723, 1725, 1727, 1729, 1731, 1733, 1735, 1737, 1739, 1741, 1743, 1745, 1747, 1749, 1751, 1753, 1755, 1757, 1759, 1761, 1763, 1765, 1767, 1769, 1771, 1773, 1775, 1777, 1779, 1781, 1783, 1785, 1787, 1789, 1791, 1793, 1795, 1797, 1799, 1801, 1803, 1805, 1807, 1809, 1811, 1813, 1815, 1817, 1819, 1821, 1823, 1825, 1827, 1829, 1831, 1833, 1835, 1837, 1839, 1841, 1843, 1845, 1847, 1849, 1851, 1853, 1855, 1857, 1859, 1861, 1863, 1865, 1867, 1869, 1871, 1873, 1875, 1877, 1879, 1881] (by decide +kernel)
set_option maxRecDepth 20000 in
theorem k_L_law_instantiable_RX12_116 : Cond.instantiable RX12 116 ∈ lw_tbl := List.mem_of_getElem? (i := 1505) (by decide +kernel)
theorem z_amb {s : State} {b : Nat} (hts : ∀ w ∈ lw_tbl, w.before #[Value.ref b] s = true) : zAMB s :=
  ⟨fun w hw => zNw_of (List.all_eq_true.mp zNW_is w hw) (hts w (zNW_in w hw)), va_AO.of (hts (.arrayOver (.object "StatementRules2$Open")) k_L_law_arrayOver_object_SR_Open), va_AO.of (hts (.arrayOver (.object "StatementRules2$Frame")) k_L_law_arrayOver_object_SR_Frame), va_AO.of (hts (.arrayOver (.object "StatementRules2$Thrown")) k_L_law_arrayOver_object_SR_Thrown)⟩
theorem z_thr {s : State} {b : Nat} {A : Nat → Prop} (hts : ∀ w ∈ lw_tbl, w.before #[Value.ref b] s = true) (hgv : (Jvm.Cond.and given_1 narrow_1).before #[Value.ref b] s = true) (hAo : ∀ a : Nat, a < s.heap.size → ¬ A a) : zTHR A s s.heap :=
  ⟨fun w hw => zT_of (List.all_eq_true.mp zTB_is w hw) (hts w (zTB_in w hw)), vx_Zqof (hts (.laysStatic Bundle.tN "UNASSIGNED_STACK" Bundle.steD) k_L_law_laysStatic_Bundle_tN_UNASSIGNED_STACK_Bundle_steD) (hts (.initialized Bundle.tN) k_L_law_initialized_Bundle_tN) (flat_of_before _ hgv _ z_fl1) hAo, vx_Zqof (hts (.laysStatic Bundle.tN "SUPPRESSED_SENTINEL" Bundle.listD) k_L_law_laysStatic_Bundle_tN_SUPPRESSED_SENTINEL_Bundle_listD) (hts (.initialized Bundle.tN) k_L_law_initialized_Bundle_tN) (flat_of_before _ hgv _ z_fl2) hAo⟩
theorem z_str {s : State} {b : Nat} {A : Nat → Prop} (hts : ∀ w ∈ lw_tbl, w.before #[Value.ref b] s = true) (hgv : (Jvm.Cond.and given_1 narrow_1).before #[Value.ref b] s = true) (hAo : ∀ a : Nat, a < s.heap.size → ¬ A a) : ∃ aS aV : Nat, zSTR aS aV A s s.heap := by
  obtain ⟨adK, adV, hSt, hTm⟩ := vk_Sof (args := #[Value.ref b]) (s := s) (N := 1) (tm := fun _ => (.string "StatementRules2$Tokens" 19)) (len := [137]) (byt := [zBY]) (A := A) (fun i hi => by obtain rfl : i = 0 := (by omega); decide)
    (fun i _ => (flat_of_before _ hgv _ z_fl3))
    (fun i _ => (flat_of_before _ hgv _ z_fl4))
    (fun i _ => (flat_of_before _ hgv _ z_fl5))
    (fun i hi => by obtain rfl : i = 0 := (by omega); exact (flat_of_before _ hgv _ z_fl6))
    (fun i hi j hj => by obtain rfl : i = 0 := (by omega); exact flat_of_before _ hgv _ (z_els j hj))
    (fun i j hi hj hij => absurd (show i = j by omega) hij) hAo
  have h0 := hSt.1 0 (by decide)
  exact ⟨adK 0, adV 0, vk_R.of (hts (.stringRef RX9 19 zTX) k_L_law_stringRef_RX9_19_zTX) (hTm 0 (by decide)), h0.1, h0.2.1, h0.2.2.1, h0.2.2.2, va_Zof (hts (.laysStatic "java/lang/String" "COMPACT_STRINGS" "Z") k_L_law_laysStatic_java_lang_String_COMPACT_STRINGS_Z) (hts (.initialized "java/lang/String") k_L_law_initialized_java_lang_String) (va_eqt (flat_of_before _ hgv _ z_fl7)) hAo, va_Zqof (hts (.laysStatic "jdk/internal/util/Preconditions" "SIOOBE_FORMATTER" "Ljava/util/function/BiFunction;") k_L_law_laysStatic_jdk_internal_util_Preconditions_SIOOBE_FORMATTER_Ljava_util_function_BiFunction) (hts (.initialized "jdk/internal/util/Preconditions") k_L_law_initialized_jdk_internal_util_Preconditions) (flat_of_before _ hgv _ z_fl8) hAo⟩
theorem z_cls {s : State} {b : Nat} (hts : ∀ w ∈ lw_tbl, w.before #[Value.ref b] s = true) : ∃ (dC : Nat → ClassId) (dI : Nat → Nat → Nat), va_K (dC, dI) vwCl [] s := by
  obtain ⟨c0, i0, hk0⟩ := u_known (C := RX0) (T := TX0) (N := 13) (n := 13) hts i_L_law_X0 (hts (.instantiable RX0 13) k_L_law_instantiable_RX0_13)
  obtain ⟨c1, i1, hk1⟩ := u_known (C := RX2) (T := TX2) (N := 8) (n := 8) hts i_L_law_X2 (hts (.instantiable RX2 8) k_L_law_instantiable_RX2_8)
  obtain ⟨c2, i2, hk2⟩ := u_known (C := RX3) (T := TX3) (N := 20) (n := 20) hts i_L_law_X3 (hts (.instantiable RX3 20) k_L_law_instantiable_RX3_20)
  obtain ⟨c3, i3, hk3⟩ := u_known (C := RX4) (T := TX4) (N := 4) (n := 4) hts i_L_law_X4 (hts (.instantiable RX4 4) k_L_law_instantiable_RX4_4)
  obtain ⟨c4, i4, hk4⟩ := u_known (C := RX5) (T := TX5) (N := 17) (n := 17) hts i_L_law_X5 (hts (.instantiable RX5 17) k_L_law_instantiable_RX5_17)
  obtain ⟨c5, i5, hk5⟩ := u_known (C := RX6) (T := TX6) (N := 6) (n := 6) hts i_L_law_X6 (hts (.instantiable RX6 6) k_L_law_instantiable_RX6_6)
  obtain ⟨c6, i6, hk6⟩ := u_known (C := RX7) (T := TX7) (N := 11) (n := 11) hts i_L_law_X7 (hts (.instantiable RX7 11) k_L_law_instantiable_RX7_11)
  obtain ⟨c7, i7, hk7⟩ := u_known (C := RX8) (T := TX8) (N := 5) (n := 5) hts i_L_law_X8 (hts (.instantiable RX8 5) k_L_law_instantiable_RX8_5)
  obtain ⟨c8, i8, hk8⟩ := u_known (C := RX9) (T := TX9) (N := 8) (n := 8) hts i_L_law_X9 (hts (.instantiable RX9 8) k_L_law_instantiable_RX9_8)
  obtain ⟨c9, i9, hk9⟩ := u_known (C := RX10) (T := TX10) (N := 6) (n := 6) hts i_L_law_X10 (hts (.instantiable RX10 6) k_L_law_instantiable_RX10_6)
  obtain ⟨c10, i10, hk10⟩ := u_known (C := RX11) (T := TX11) (N := 9) (n := 9) hts i_L_law_X11 (hts (.instantiable RX11 9) k_L_law_instantiable_RX11_9)
  obtain ⟨c11, i11, hk11⟩ := u_known (C := RX12) (T := TX12) (N := 116) (n := 116) hts i_L_law_X12 (hts (.instantiable RX12 116) k_L_law_instantiable_RX12_116)
  refine ⟨fun k => [c0, c1, c2, c3, c4, c5, c6, c7, c8, c9, c10, c11].getD k c0, fun k => [i0, i1, i2, i3, i4, i5, i6, i7, i8, i9, i10, i11].getD k i0, ?_, fun k q h => by simp at h⟩
  intro k q hq
  match k, hq with
  | 0, hq => cases hq; exact hk0
  | 1, hq => cases hq; exact hk1
  | 2, hq => cases hq; exact hk2
  | 3, hq => cases hq; exact hk3
  | 4, hq => cases hq; exact hk4
  | 5, hq => cases hq; exact hk5
  | 6, hq => cases hq; exact hk6
  | 7, hq => cases hq; exact hk7
  | 8, hq => cases hq; exact hk8
  | 9, hq => cases hq; exact hk9
  | 10, hq => cases hq; exact hk10
  | 11, hq => cases hq; exact hk11
  | k + 12, hq => simp [vwCl] at hq
