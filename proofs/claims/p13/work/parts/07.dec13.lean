theorem dX12_caseOf_5 : decode cX12_caseOf 5 = .ok (.iload 4, 2) := by decide +kernel
theorem dX12_caseOf_7 : decode cX12_caseOf 7 = .ok (.ifCond .lt 56, 3) := by decide +kernel
theorem dX12_caseOf_10 : decode cX12_caseOf 10 = .ok (.aload_n 0, 1) := by decide +kernel
theorem dX12_caseOf_11 : decode cX12_caseOf 11 = .ok (.getfield 102, 3) := by decide +kernel
theorem dX12_caseOf_14 : decode cX12_caseOf 14 = .ok (.iload 4, 2) := by decide +kernel
theorem dX12_caseOf_16 : decode cX12_caseOf 16 = .ok (.baload, 1) := by decide +kernel
theorem dX12_caseOf_17 : decode cX12_caseOf 17 = .ok (.ifCond .ne 17, 3) := by decide +kernel
theorem dX12_caseOf_20 : decode cX12_caseOf 20 = .ok (.aload_n 0, 1) := by decide +kernel
theorem dX12_caseOf_21 : decode cX12_caseOf 21 = .ok (.getfield 93, 3) := by decide +kernel
theorem dX12_caseOf_24 : decode cX12_caseOf 24 = .ok (.iload 4, 2) := by decide +kernel
theorem dX12_caseOf_26 : decode cX12_caseOf 26 = .ok (.iaload, 1) := by decide +kernel
theorem dX12_caseOf_27 : decode cX12_caseOf 27 = .ok (.iload_n 2, 1) := by decide +kernel
theorem dX12_caseOf_28 : decode cX12_caseOf 28 = .ok (.if_icmp .ne 6, 3) := by decide +kernel
theorem dX12_caseOf_31 : decode cX12_caseOf 31 = .ok (.iload 4, 2) := by decide +kernel
theorem dX12_caseOf_33 : decode cX12_caseOf 33 = .ok (.ireturn, 1) := by decide +kernel
theorem dX12_caseOf_34 : decode cX12_caseOf 34 = .ok (.aload_n 0, 1) := by decide +kernel
theorem dX12_caseOf_35 : decode cX12_caseOf 35 = .ok (.getfield 102, 3) := by decide +kernel
theorem dX12_caseOf_38 : decode cX12_caseOf 38 = .ok (.iload 4, 2) := by decide +kernel
theorem dX12_caseOf_40 : decode cX12_caseOf 40 = .ok (.baload, 1) := by decide +kernel
theorem dX12_caseOf_41 : decode cX12_caseOf 41 = .ok (.ifCond .eq 8, 3) := by decide +kernel
theorem dX12_caseOf_44 : decode cX12_caseOf 44 = .ok (.iload 4, 2) := by decide +kernel
theorem dX12_caseOf_46 : decode cX12_caseOf 46 = .ok (.goto 4, 3) := by decide +kernel
theorem dX12_caseOf_49 : decode cX12_caseOf 49 = .ok (.iload_n 3, 1) := by decide +kernel
theorem dX12_caseOf_50 : decode cX12_caseOf 50 = .ok (.istore_n 3, 1) := by decide +kernel
theorem dX12_caseOf_51 : decode cX12_caseOf 51 = .ok (.aload_n 0, 1) := by decide +kernel
theorem dX12_caseOf_52 : decode cX12_caseOf 52 = .ok (.getfield 99, 3) := by decide +kernel
theorem dX12_caseOf_55 : decode cX12_caseOf 55 = .ok (.iload 4, 2) := by decide +kernel
theorem dX12_caseOf_57 : decode cX12_caseOf 57 = .ok (.iaload, 1) := by decide +kernel
theorem dX12_caseOf_58 : decode cX12_caseOf 58 = .ok (.istore 4, 2) := by decide +kernel
theorem dX12_caseOf_60 : decode cX12_caseOf 60 = .ok (.goto (-55), 3) := by decide +kernel
theorem dX12_caseOf_63 : decode cX12_caseOf 63 = .ok (.iload_n 3, 1) := by decide +kernel
theorem dX12_caseOf_64 : decode cX12_caseOf 64 = .ok (.ireturn, 1) := by decide +kernel
theorem dX12_act_0 : decode cX12_act 0 = .ok (.aload_n 0, 1) := by decide +kernel
theorem dX12_act_1 : decode cX12_act 1 = .ok (.getfield 87, 3) := by decide +kernel
theorem dX12_act_4 : decode cX12_act 4 = .ok (.iload_n 1, 1) := by decide +kernel
theorem dX12_act_5 : decode cX12_act 5 = .ok (.iaload, 1) := by decide +kernel
theorem dX12_act_6 : decode cX12_act 6 = .ok (.istore_n 2, 1) := by decide +kernel
theorem dX12_act_7 : decode cX12_act 7 = .ok (.aload_n 0, 1) := by decide +kernel
theorem dX12_act_8 : decode cX12_act 8 = .ok (.getfield 84, 3) := by decide +kernel
theorem dX12_act_11 : decode cX12_act 11 = .ok (.iload_n 1, 1) := by decide +kernel
theorem dX12_act_12 : decode cX12_act 12 = .ok (.iaload, 1) := by decide +kernel
theorem dX12_act_13 : decode cX12_act 13 = .ok (.tableswitch 354 1 16 #[79, 86, 94, 107, 125, 138, 151, 176, 176, 163, 231, 231, 290, 312, 334, 342], 79) := by decide +kernel
theorem dX12_act_92 : decode cX12_act 92 = .ok (.aload_n 0, 1) := by decide +kernel
theorem dX12_act_93 : decode cX12_act 93 = .ok (.invokevirtual 642, 3) := by decide +kernel
theorem dX12_act_96 : decode cX12_act 96 = .ok (.goto 277, 3) := by decide +kernel
theorem dX12_act_99 : decode cX12_act 99 = .ok (.aload_n 0, 1) := by decide +kernel
theorem dX12_act_100 : decode cX12_act 100 = .ok (.iload_n 2, 1) := by decide +kernel
theorem dX12_act_101 : decode cX12_act 101 = .ok (.invokevirtual 633, 3) := by decide +kernel
theorem dX12_act_104 : decode cX12_act 104 = .ok (.goto 269, 3) := by decide +kernel
theorem dX12_act_107 : decode cX12_act 107 = .ok (.aload_n 0, 1) := by decide +kernel
theorem dX12_act_108 : decode cX12_act 108 = .ok (.aload_n 0, 1) := by decide +kernel
theorem dX12_act_109 : decode cX12_act 109 = .ok (.getfield 213, 3) := by decide +kernel
theorem dX12_act_112 : decode cX12_act 112 = .ok (.iload_n 2, 1) := by decide +kernel
theorem dX12_act_113 : decode cX12_act 113 = .ok (.iaload, 1) := by decide +kernel
theorem dX12_act_114 : decode cX12_act 114 = .ok (.invokevirtual 633, 3) := by decide +kernel
theorem dX12_act_117 : decode cX12_act 117 = .ok (.goto 256, 3) := by decide +kernel
theorem dX12_act_120 : decode cX12_act 120 = .ok (.aload_n 0, 1) := by decide +kernel
theorem dX12_act_121 : decode cX12_act 121 = .ok (.aload_n 0, 1) := by decide +kernel
theorem dX12_act_122 : decode cX12_act 122 = .ok (.getfield 219, 3) := by decide +kernel
theorem dX12_act_125 : decode cX12_act 125 = .ok (.aload_n 0, 1) := by decide +kernel
theorem dX12_act_126 : decode cX12_act 126 = .ok (.getfield 213, 3) := by decide +kernel
theorem dX12_act_129 : decode cX12_act 129 = .ok (.iload_n 2, 1) := by decide +kernel
theorem dX12_act_130 : decode cX12_act 130 = .ok (.iaload, 1) := by decide +kernel
theorem dX12_act_131 : decode cX12_act 131 = .ok (.iaload, 1) := by decide +kernel
theorem dX12_act_132 : decode cX12_act 132 = .ok (.invokevirtual 633, 3) := by decide +kernel
theorem dX12_act_135 : decode cX12_act 135 = .ok (.goto 238, 3) := by decide +kernel
theorem dX12_act_138 : decode cX12_act 138 = .ok (.aload_n 0, 1) := by decide +kernel
theorem dX12_act_139 : decode cX12_act 139 = .ok (.getfield 213, 3) := by decide +kernel
theorem dX12_act_142 : decode cX12_act 142 = .ok (.iload_n 2, 1) := by decide +kernel
theorem dX12_act_143 : decode cX12_act 143 = .ok (.aload_n 0, 1) := by decide +kernel
theorem dX12_act_144 : decode cX12_act 144 = .ok (.invokevirtual 645, 3) := by decide +kernel
theorem dX12_act_147 : decode cX12_act 147 = .ok (.iastore, 1) := by decide +kernel
theorem dX12_act_148 : decode cX12_act 148 = .ok (.goto 225, 3) := by decide +kernel
theorem dX12_act_151 : decode cX12_act 151 = .ok (.aload_n 0, 1) := by decide +kernel
theorem dX12_act_152 : decode cX12_act 152 = .ok (.getfield 213, 3) := by decide +kernel
theorem dX12_act_155 : decode cX12_act 155 = .ok (.iload_n 2, 1) := by decide +kernel
theorem dX12_act_156 : decode cX12_act 156 = .ok (.dup2, 1) := by decide +kernel
theorem dX12_act_157 : decode cX12_act 157 = .ok (.iaload, 1) := by decide +kernel
theorem dX12_act_158 : decode cX12_act 158 = .ok (.iconst 1, 1) := by decide +kernel
theorem dX12_act_159 : decode cX12_act 159 = .ok (.iadd, 1) := by decide +kernel
theorem dX12_act_160 : decode cX12_act 160 = .ok (.iastore, 1) := by decide +kernel
theorem dX12_act_161 : decode cX12_act 161 = .ok (.goto 212, 3) := by decide +kernel
theorem dX12_act_164 : decode cX12_act 164 = .ok (.aload_n 0, 1) := by decide +kernel
theorem dX12_act_165 : decode cX12_act 165 = .ok (.aload_n 0, 1) := by decide +kernel
theorem dX12_act_166 : decode cX12_act 166 = .ok (.invokevirtual 645, 3) := by decide +kernel
theorem dX12_act_169 : decode cX12_act 169 = .ok (.ineg, 1) := by decide +kernel
theorem dX12_act_170 : decode cX12_act 170 = .ok (.invokevirtual 633, 3) := by decide +kernel
theorem dX12_act_173 : decode cX12_act 173 = .ok (.goto 200, 3) := by decide +kernel
theorem dX12_act_176 : decode cX12_act 176 = .ok (.aload_n 0, 1) := by decide +kernel
theorem dX12_act_177 : decode cX12_act 177 = .ok (.iconst 1, 1) := by decide +kernel
theorem dX12_act_178 : decode cX12_act 178 = .ok (.aload_n 0, 1) := by decide +kernel
theorem dX12_act_179 : decode cX12_act 179 = .ok (.invokevirtual 645, 3) := by decide +kernel
theorem dX12_act_182 : decode cX12_act 182 = .ok (.isub, 1) := by decide +kernel
theorem dX12_act_183 : decode cX12_act 183 = .ok (.invokevirtual 633, 3) := by decide +kernel
theorem dX12_act_186 : decode cX12_act 186 = .ok (.goto 187, 3) := by decide +kernel
theorem dX12_act_189 : decode cX12_act 189 = .ok (.aload_n 0, 1) := by decide +kernel
theorem dX12_act_190 : decode cX12_act 190 = .ok (.invokevirtual 645, 3) := by decide +kernel
theorem dX12_act_193 : decode cX12_act 193 = .ok (.istore_n 3, 1) := by decide +kernel
theorem dX12_act_194 : decode cX12_act 194 = .ok (.aload_n 0, 1) := by decide +kernel
theorem dX12_act_195 : decode cX12_act 195 = .ok (.invokevirtual 645, 3) := by decide +kernel
theorem dX12_act_198 : decode cX12_act 198 = .ok (.istore 4, 2) := by decide +kernel
theorem dX12_act_200 : decode cX12_act 200 = .ok (.iload_n 2, 1) := by decide +kernel
theorem dX12_act_201 : decode cX12_act 201 = .ok (.bipush 47, 2) := by decide +kernel
theorem dX12_act_203 : decode cX12_act 203 = .ok (.if_icmp .eq 9, 3) := by decide +kernel
theorem dX12_act_206 : decode cX12_act 206 = .ok (.iload_n 2, 1) := by decide +kernel
theorem dX12_act_207 : decode cX12_act 207 = .ok (.bipush 37, 2) := by decide +kernel
theorem dX12_act_209 : decode cX12_act 209 = .ok (.if_icmp .ne 20, 3) := by decide +kernel
theorem dX12_act_212 : decode cX12_act 212 = .ok (.iload_n 3, 1) := by decide +kernel
theorem dX12_act_213 : decode cX12_act 213 = .ok (.ifCond .ne 16, 3) := by decide +kernel
theorem dX12_act_216 : decode cX12_act 216 = .ok (.aload_n 0, 1) := by decide +kernel
theorem dX12_act_217 : decode cX12_act 217 = .ok (.iconst 2, 1) := by decide +kernel
theorem dX12_act_218 : decode cX12_act 218 = .ok (.iconst 0, 1) := by decide +kernel
theorem dX12_act_219 : decode cX12_act 219 = .ok (.invokevirtual 606, 3) := by decide +kernel
theorem dX12_act_222 : decode cX12_act 222 = .ok (.aload_n 0, 1) := by decide +kernel
theorem dX12_act_223 : decode cX12_act 223 = .ok (.invokevirtual 648, 3) := by decide +kernel
theorem dX12_act_226 : decode cX12_act 226 = .ok (.goto 147, 3) := by decide +kernel
theorem dX12_act_229 : decode cX12_act 229 = .ok (.aload_n 0, 1) := by decide +kernel
theorem dX12_act_230 : decode cX12_act 230 = .ok (.aload_n 0, 1) := by decide +kernel
theorem dX12_act_231 : decode cX12_act 231 = .ok (.iload_n 2, 1) := by decide +kernel
theorem dX12_act_232 : decode cX12_act 232 = .ok (.iload 4, 2) := by decide +kernel
theorem dX12_act_234 : decode cX12_act 234 = .ok (.iload_n 3, 1) := by decide +kernel
theorem dX12_act_235 : decode cX12_act 235 = .ok (.invokevirtual 651, 3) := by decide +kernel
theorem dX12_act_238 : decode cX12_act 238 = .ok (.invokevirtual 633, 3) := by decide +kernel
theorem dX12_act_241 : decode cX12_act 241 = .ok (.goto 132, 3) := by decide +kernel
theorem dX12_act_244 : decode cX12_act 244 = .ok (.aload_n 0, 1) := by decide +kernel
theorem dX12_act_245 : decode cX12_act 245 = .ok (.getfield 234, 3) := by decide +kernel
theorem dX12_act_248 : decode cX12_act 248 = .ok (.aload_n 0, 1) := by decide +kernel
theorem dX12_act_249 : decode cX12_act 249 = .ok (.getfield 589, 3) := by decide +kernel
theorem dX12_act_252 : decode cX12_act 252 = .ok (.iconst 1, 1) := by decide +kernel
theorem dX12_act_253 : decode cX12_act 253 = .ok (.isub, 1) := by decide +kernel
theorem dX12_act_254 : decode cX12_act 254 = .ok (.iaload, 1) := by decide +kernel
theorem dX12_act_255 : decode cX12_act 255 = .ok (.ifCond .eq 7, 3) := by decide +kernel
theorem dX12_act_258 : decode cX12_act 258 = .ok (.iconst 1, 1) := by decide +kernel
theorem dX12_act_259 : decode cX12_act 259 = .ok (.goto 4, 3) := by decide +kernel
theorem dX12_act_262 : decode cX12_act 262 = .ok (.iconst 0, 1) := by decide +kernel
theorem dX12_act_263 : decode cX12_act 263 = .ok (.aload_n 0, 1) := by decide +kernel
theorem dX12_act_264 : decode cX12_act 264 = .ok (.getfield 84, 3) := by decide +kernel
theorem dX12_act_267 : decode cX12_act 267 = .ok (.iload_n 1, 1) := by decide +kernel
theorem dX12_act_268 : decode cX12_act 268 = .ok (.iaload, 1) := by decide +kernel
theorem dX12_act_269 : decode cX12_act 269 = .ok (.bipush 11, 2) := by decide +kernel
theorem dX12_act_271 : decode cX12_act 271 = .ok (.if_icmp .ne 7, 3) := by decide +kernel
theorem dX12_act_274 : decode cX12_act 274 = .ok (.iconst 1, 1) := by decide +kernel
theorem dX12_act_275 : decode cX12_act 275 = .ok (.goto 4, 3) := by decide +kernel
theorem dX12_act_278 : decode cX12_act 278 = .ok (.iconst 0, 1) := by decide +kernel
theorem dX12_act_279 : decode cX12_act 279 = .ok (.if_icmp .ne 11, 3) := by decide +kernel
theorem dX12_act_282 : decode cX12_act 282 = .ok (.aload_n 0, 1) := by decide +kernel
theorem dX12_act_283 : decode cX12_act 283 = .ok (.iload_n 2, 1) := by decide +kernel
theorem dX12_act_284 : decode cX12_act 284 = .ok (.putfield 618, 3) := by decide +kernel
theorem dX12_act_287 : decode cX12_act 287 = .ok (.goto 86, 3) := by decide +kernel
theorem dX12_act_290 : decode cX12_act 290 = .ok (.aload_n 0, 1) := by decide +kernel
theorem dX12_act_291 : decode cX12_act 291 = .ok (.dup, 1) := by decide +kernel
theorem dX12_act_292 : decode cX12_act 292 = .ok (.getfield 589, 3) := by decide +kernel
theorem dX12_act_295 : decode cX12_act 295 = .ok (.iconst 1, 1) := by decide +kernel
theorem dX12_act_296 : decode cX12_act 296 = .ok (.isub, 1) := by decide +kernel
theorem dX12_act_297 : decode cX12_act 297 = .ok (.putfield 589, 3) := by decide +kernel
theorem dX12_act_300 : decode cX12_act 300 = .ok (.goto 73, 3) := by decide +kernel
theorem dX12_act_303 : decode cX12_act 303 = .ok (.aload_n 0, 1) := by decide +kernel
theorem dX12_act_304 : decode cX12_act 304 = .ok (.aload_n 0, 1) := by decide +kernel
theorem dX12_act_305 : decode cX12_act 305 = .ok (.invokevirtual 645, 3) := by decide +kernel
theorem dX12_act_308 : decode cX12_act 308 = .ok (.ifCond .ne 7, 3) := by decide +kernel
theorem dX12_act_311 : decode cX12_act 311 = .ok (.iload_n 2, 1) := by decide +kernel
theorem dX12_act_312 : decode cX12_act 312 = .ok (.goto 7, 3) := by decide +kernel
theorem dX12_act_315 : decode cX12_act 315 = .ok (.aload_n 0, 1) := by decide +kernel
theorem dX12_act_316 : decode cX12_act 316 = .ok (.getfield 618, 3) := by decide +kernel
theorem dX12_act_319 : decode cX12_act 319 = .ok (.putfield 618, 3) := by decide +kernel
theorem dX12_act_322 : decode cX12_act 322 = .ok (.goto 51, 3) := by decide +kernel
theorem dX12_act_325 : decode cX12_act 325 = .ok (.aload_n 0, 1) := by decide +kernel
theorem dX12_act_326 : decode cX12_act 326 = .ok (.aload_n 0, 1) := by decide +kernel
theorem dX12_act_327 : decode cX12_act 327 = .ok (.invokevirtual 645, 3) := by decide +kernel
theorem dX12_act_330 : decode cX12_act 330 = .ok (.ifCond .eq 7, 3) := by decide +kernel
theorem dX12_act_333 : decode cX12_act 333 = .ok (.iload_n 2, 1) := by decide +kernel
theorem dX12_act_334 : decode cX12_act 334 = .ok (.goto 7, 3) := by decide +kernel
theorem dX12_act_337 : decode cX12_act 337 = .ok (.aload_n 0, 1) := by decide +kernel
theorem dX12_act_338 : decode cX12_act 338 = .ok (.getfield 618, 3) := by decide +kernel
theorem dX12_act_341 : decode cX12_act 341 = .ok (.putfield 618, 3) := by decide +kernel
theorem dX12_act_344 : decode cX12_act 344 = .ok (.goto 29, 3) := by decide +kernel
theorem dX12_act_347 : decode cX12_act 347 = .ok (.aload_n 0, 1) := by decide +kernel
theorem dX12_act_348 : decode cX12_act 348 = .ok (.iload_n 2, 1) := by decide +kernel
theorem dX12_act_349 : decode cX12_act 349 = .ok (.putfield 618, 3) := by decide +kernel
theorem dX12_act_352 : decode cX12_act 352 = .ok (.goto 21, 3) := by decide +kernel
theorem dX12_act_355 : decode cX12_act 355 = .ok (.aload_n 0, 1) := by decide +kernel
theorem dX12_act_356 : decode cX12_act 356 = .ok (.iconst 0, 1) := by decide +kernel
theorem dX12_act_357 : decode cX12_act 357 = .ok (.aload_n 0, 1) := by decide +kernel
theorem dX12_act_358 : decode cX12_act 358 = .ok (.invokevirtual 645, 3) := by decide +kernel
theorem dX12_act_361 : decode cX12_act 361 = .ok (.invokevirtual 603, 3) := by decide +kernel
theorem dX12_act_364 : decode cX12_act 364 = .ok (.goto 9, 3) := by decide +kernel
theorem dX12_act_367 : decode cX12_act 367 = .ok (.aload_n 0, 1) := by decide +kernel
theorem dX12_act_368 : decode cX12_act 368 = .ok (.iload_n 1, 1) := by decide +kernel
theorem dX12_act_369 : decode cX12_act 369 = .ok (.iload_n 2, 1) := by decide +kernel
theorem dX12_act_370 : decode cX12_act 370 = .ok (.invokevirtual 655, 3) := by decide +kernel
theorem dX12_act_373 : decode cX12_act 373 = .ok (.return_, 1) := by decide +kernel
theorem dX12_ends_0 : decode cX12_ends 0 = .ok (.aload_n 0, 1) := by decide +kernel
theorem dX12_ends_1 : decode cX12_ends 1 = .ok (.getfield 84, 3) := by decide +kernel
theorem dX12_ends_4 : decode cX12_ends 4 = .ok (.iload_n 1, 1) := by decide +kernel
theorem dX12_ends_5 : decode cX12_ends 5 = .ok (.iaload, 1) := by decide +kernel
theorem dX12_ends_6 : decode cX12_ends 6 = .ok (.tableswitch 413 17 36 #[94, 94, 166, 182, 195, 217, 413, 413, 413, 239, 267, 312, 348, 382, 413, 413, 413, 413, 413, 139], 94) := by decide +kernel
theorem dX12_ends_100 : decode cX12_ends 100 = .ok (.aload_n 0, 1) := by decide +kernel
theorem dX12_ends_101 : decode cX12_ends 101 = .ok (.aload_n 0, 1) := by decide +kernel
theorem dX12_ends_102 : decode cX12_ends 102 = .ok (.invokevirtual 645, 3) := by decide +kernel
theorem dX12_ends_105 : decode cX12_ends 105 = .ok (.putfield 615, 3) := by decide +kernel
theorem dX12_ends_108 : decode cX12_ends 108 = .ok (.aload_n 0, 1) := by decide +kernel
theorem dX12_ends_109 : decode cX12_ends 109 = .ok (.aload_n 0, 1) := by decide +kernel
theorem dX12_ends_110 : decode cX12_ends 110 = .ok (.getfield 84, 3) := by decide +kernel
theorem dX12_ends_113 : decode cX12_ends 113 = .ok (.iload_n 1, 1) := by decide +kernel
theorem dX12_ends_114 : decode cX12_ends 114 = .ok (.iaload, 1) := by decide +kernel
theorem dX12_ends_115 : decode cX12_ends 115 = .ok (.bipush 17, 2) := by decide +kernel
theorem dX12_ends_117 : decode cX12_ends 117 = .ok (.if_icmp .ne 7, 3) := by decide +kernel
theorem dX12_ends_120 : decode cX12_ends 120 = .ok (.iconst 2, 1) := by decide +kernel
theorem dX12_ends_121 : decode cX12_ends 121 = .ok (.goto 4, 3) := by decide +kernel
theorem dX12_ends_124 : decode cX12_ends 124 = .ok (.iconst 4, 1) := by decide +kernel
theorem dX12_ends_125 : decode cX12_ends 125 = .ok (.putfield 597, 3) := by decide +kernel
theorem dX12_ends_128 : decode cX12_ends 128 = .ok (.aload_n 0, 1) := by decide +kernel
theorem dX12_ends_129 : decode cX12_ends 129 = .ok (.aload_n 0, 1) := by decide +kernel
theorem dX12_ends_130 : decode cX12_ends 130 = .ok (.getfield 90, 3) := by decide +kernel
theorem dX12_ends_133 : decode cX12_ends 133 = .ok (.iload_n 1, 1) := by decide +kernel
theorem dX12_ends_134 : decode cX12_ends 134 = .ok (.iaload, 1) := by decide +kernel
theorem dX12_ends_135 : decode cX12_ends 135 = .ok (.putfield 612, 3) := by decide +kernel
theorem dX12_ends_138 : decode cX12_ends 138 = .ok (.aload_n 0, 1) := by decide +kernel
theorem dX12_ends_139 : decode cX12_ends 139 = .ok (.invokevirtual 648, 3) := by decide +kernel
theorem dX12_ends_142 : decode cX12_ends 142 = .ok (.goto 283, 3) := by decide +kernel
theorem dX12_ends_145 : decode cX12_ends 145 = .ok (.aload_n 0, 1) := by decide +kernel
theorem dX12_ends_146 : decode cX12_ends 146 = .ok (.iconst 1, 1) := by decide +kernel
theorem dX12_ends_147 : decode cX12_ends 147 = .ok (.putfield 597, 3) := by decide +kernel
theorem dX12_ends_150 : decode cX12_ends 150 = .ok (.aload_n 0, 1) := by decide +kernel
theorem dX12_ends_151 : decode cX12_ends 151 = .ok (.iload_n 2, 1) := by decide +kernel
theorem dX12_ends_152 : decode cX12_ends 152 = .ok (.putfield 609, 3) := by decide +kernel
theorem dX12_ends_155 : decode cX12_ends 155 = .ok (.aload_n 0, 1) := by decide +kernel
theorem dX12_ends_156 : decode cX12_ends 156 = .ok (.aload_n 0, 1) := by decide +kernel
theorem dX12_ends_157 : decode cX12_ends 157 = .ok (.getfield 90, 3) := by decide +kernel
theorem dX12_ends_160 : decode cX12_ends 160 = .ok (.iload_n 1, 1) := by decide +kernel
theorem dX12_ends_161 : decode cX12_ends 161 = .ok (.iaload, 1) := by decide +kernel
theorem dX12_ends_162 : decode cX12_ends 162 = .ok (.putfield 612, 3) := by decide +kernel
theorem dX12_ends_165 : decode cX12_ends 165 = .ok (.aload_n 0, 1) := by decide +kernel
theorem dX12_ends_166 : decode cX12_ends 166 = .ok (.invokevirtual 648, 3) := by decide +kernel
theorem dX12_ends_169 : decode cX12_ends 169 = .ok (.goto 256, 3) := by decide +kernel
theorem dX12_ends_172 : decode cX12_ends 172 = .ok (.aload_n 0, 1) := by decide +kernel
theorem dX12_ends_173 : decode cX12_ends 173 = .ok (.iload_n 2, 1) := by decide +kernel
theorem dX12_ends_174 : decode cX12_ends 174 = .ok (.aload_n 0, 1) := by decide +kernel
theorem dX12_ends_175 : decode cX12_ends 175 = .ok (.invokevirtual 645, 3) := by decide +kernel
theorem dX12_ends_178 : decode cX12_ends 178 = .ok (.invokevirtual 606, 3) := by decide +kernel
theorem dX12_ends_181 : decode cX12_ends 181 = .ok (.aload_n 0, 1) := by decide +kernel
theorem dX12_ends_182 : decode cX12_ends 182 = .ok (.invokevirtual 648, 3) := by decide +kernel
theorem dX12_ends_185 : decode cX12_ends 185 = .ok (.goto 240, 3) := by decide +kernel
theorem dX12_ends_188 : decode cX12_ends 188 = .ok (.aload_n 0, 1) := by decide +kernel
theorem dX12_ends_189 : decode cX12_ends 189 = .ok (.iload_n 2, 1) := by decide +kernel
theorem dX12_ends_190 : decode cX12_ends 190 = .ok (.iconst 0, 1) := by decide +kernel
theorem dX12_ends_191 : decode cX12_ends 191 = .ok (.invokevirtual 606, 3) := by decide +kernel
theorem dX12_ends_194 : decode cX12_ends 194 = .ok (.aload_n 0, 1) := by decide +kernel
theorem dX12_ends_195 : decode cX12_ends 195 = .ok (.invokevirtual 648, 3) := by decide +kernel
theorem dX12_ends_198 : decode cX12_ends 198 = .ok (.goto 227, 3) := by decide +kernel
theorem dX12_ends_201 : decode cX12_ends 201 = .ok (.aload_n 0, 1) := by decide +kernel
theorem dX12_ends_202 : decode cX12_ends 202 = .ok (.aload_n 0, 1) := by decide +kernel
theorem dX12_ends_203 : decode cX12_ends 203 = .ok (.getfield 213, 3) := by decide +kernel
theorem dX12_ends_206 : decode cX12_ends 206 = .ok (.iload_n 2, 1) := by decide +kernel
theorem dX12_ends_207 : decode cX12_ends 207 = .ok (.iaload, 1) := by decide +kernel
theorem dX12_ends_208 : decode cX12_ends 208 = .ok (.putfield 595, 3) := by decide +kernel
theorem dX12_ends_211 : decode cX12_ends 211 = .ok (.aload_n 0, 1) := by decide +kernel
theorem dX12_ends_212 : decode cX12_ends 212 = .ok (.iconst 3, 1) := by decide +kernel
theorem dX12_ends_213 : decode cX12_ends 213 = .ok (.putfield 597, 3) := by decide +kernel
theorem dX12_ends_216 : decode cX12_ends 216 = .ok (.aload_n 0, 1) := by decide +kernel
theorem dX12_ends_217 : decode cX12_ends 217 = .ok (.invokevirtual 648, 3) := by decide +kernel
theorem dX12_ends_220 : decode cX12_ends 220 = .ok (.goto 205, 3) := by decide +kernel
theorem dX12_ends_223 : decode cX12_ends 223 = .ok (.aload_n 0, 1) := by decide +kernel
theorem dX12_ends_224 : decode cX12_ends 224 = .ok (.aload_n 0, 1) := by decide +kernel
theorem dX12_ends_225 : decode cX12_ends 225 = .ok (.getfield 287, 3) := by decide +kernel
theorem dX12_ends_228 : decode cX12_ends 228 = .ok (.ifCond .eq 10, 3) := by decide +kernel
theorem dX12_ends_231 : decode cX12_ends 231 = .ok (.aload_n 0, 1) := by decide +kernel
theorem dX12_ends_232 : decode cX12_ends 232 = .ok (.getfield 618, 3) := by decide +kernel
theorem dX12_ends_235 : decode cX12_ends 235 = .ok (.goto 4, 3) := by decide +kernel
theorem dX12_ends_238 : decode cX12_ends 238 = .ok (.iload_n 2, 1) := by decide +kernel
theorem dX12_ends_239 : decode cX12_ends 239 = .ok (.putfield 618, 3) := by decide +kernel
theorem dX12_ends_242 : decode cX12_ends 242 = .ok (.goto 183, 3) := by decide +kernel
theorem dX12_ends_245 : decode cX12_ends 245 = .ok (.aload_n 0, 1) := by decide +kernel
theorem dX12_ends_246 : decode cX12_ends 246 = .ok (.iconst 3, 1) := by decide +kernel
theorem dX12_ends_247 : decode cX12_ends 247 = .ok (.iload_n 2, 1) := by decide +kernel
theorem dX12_ends_248 : decode cX12_ends 248 = .ok (.invokevirtual 603, 3) := by decide +kernel
theorem dX12_ends_251 : decode cX12_ends 251 = .ok (.aload_n 0, 1) := by decide +kernel
theorem dX12_ends_252 : decode cX12_ends 252 = .ok (.getfield 231, 3) := by decide +kernel
theorem dX12_ends_255 : decode cX12_ends 255 = .ok (.iload_n 2, 1) := by decide +kernel
theorem dX12_ends_256 : decode cX12_ends 256 = .ok (.dup2, 1) := by decide +kernel
theorem dX12_ends_257 : decode cX12_ends 257 = .ok (.iaload, 1) := by decide +kernel
theorem dX12_ends_258 : decode cX12_ends 258 = .ok (.iconst 1, 1) := by decide +kernel
theorem dX12_ends_259 : decode cX12_ends 259 = .ok (.iadd, 1) := by decide +kernel
theorem dX12_ends_260 : decode cX12_ends 260 = .ok (.iastore, 1) := by decide +kernel
theorem dX12_ends_261 : decode cX12_ends 261 = .ok (.aload_n 0, 1) := by decide +kernel
theorem dX12_ends_262 : decode cX12_ends 262 = .ok (.iconst 1, 1) := by decide +kernel
theorem dX12_ends_263 : decode cX12_ends 263 = .ok (.iload_n 2, 1) := by decide +kernel
theorem dX12_ends_264 : decode cX12_ends 264 = .ok (.iconst 0, 1) := by decide +kernel
theorem dX12_ends_265 : decode cX12_ends 265 = .ok (.iconst 0, 1) := by decide +kernel
theorem dX12_ends_266 : decode cX12_ends 266 = .ok (.invokevirtual 658, 3) := by decide +kernel
theorem dX12_ends_269 : decode cX12_ends 269 = .ok (.pop, 1) := by decide +kernel
theorem dX12_ends_270 : decode cX12_ends 270 = .ok (.goto 155, 3) := by decide +kernel
theorem dX12_ends_273 : decode cX12_ends 273 = .ok (.aload_n 0, 1) := by decide +kernel
theorem dX12_ends_274 : decode cX12_ends 274 = .ok (.dup, 1) := by decide +kernel
theorem dX12_ends_275 : decode cX12_ends 275 = .ok (.getfield 586, 3) := by decide +kernel
theorem dX12_ends_278 : decode cX12_ends 278 = .ok (.iconst 1, 1) := by decide +kernel
theorem dX12_ends_279 : decode cX12_ends 279 = .ok (.isub, 1) := by decide +kernel
theorem dX12_ends_280 : decode cX12_ends 280 = .ok (.putfield 586, 3) := by decide +kernel
theorem dX12_ends_283 : decode cX12_ends 283 = .ok (.aload_n 0, 1) := by decide +kernel
theorem dX12_ends_284 : decode cX12_ends 284 = .ok (.iconst 4, 1) := by decide +kernel
theorem dX12_ends_285 : decode cX12_ends 285 = .ok (.aload_n 0, 1) := by decide +kernel
theorem dX12_ends_286 : decode cX12_ends 286 = .ok (.getfield 246, 3) := by decide +kernel
theorem dX12_ends_289 : decode cX12_ends 289 = .ok (.aload_n 0, 1) := by decide +kernel
theorem dX12_ends_290 : decode cX12_ends 290 = .ok (.getfield 586, 3) := by decide +kernel
theorem dX12_ends_293 : decode cX12_ends 293 = .ok (.iaload, 1) := by decide +kernel
theorem dX12_ends_294 : decode cX12_ends 294 = .ok (.invokevirtual 603, 3) := by decide +kernel
theorem dX12_ends_297 : decode cX12_ends 297 = .ok (.aload_n 0, 1) := by decide +kernel
theorem dX12_ends_298 : decode cX12_ends 298 = .ok (.getfield 231, 3) := by decide +kernel
theorem dX12_ends_301 : decode cX12_ends 301 = .ok (.aload_n 0, 1) := by decide +kernel
theorem dX12_ends_302 : decode cX12_ends 302 = .ok (.getfield 246, 3) := by decide +kernel
theorem dX12_ends_305 : decode cX12_ends 305 = .ok (.aload_n 0, 1) := by decide +kernel
theorem dX12_ends_306 : decode cX12_ends 306 = .ok (.getfield 586, 3) := by decide +kernel
theorem dX12_ends_309 : decode cX12_ends 309 = .ok (.iaload, 1) := by decide +kernel
theorem dX12_ends_310 : decode cX12_ends 310 = .ok (.dup2, 1) := by decide +kernel
theorem dX12_ends_311 : decode cX12_ends 311 = .ok (.iaload, 1) := by decide +kernel
theorem dX12_ends_312 : decode cX12_ends 312 = .ok (.iconst 1, 1) := by decide +kernel
theorem dX12_ends_313 : decode cX12_ends 313 = .ok (.isub, 1) := by decide +kernel
theorem dX12_ends_314 : decode cX12_ends 314 = .ok (.iastore, 1) := by decide +kernel
theorem dX12_ends_315 : decode cX12_ends 315 = .ok (.goto 110, 3) := by decide +kernel
theorem dX12_ends_318 : decode cX12_ends 318 = .ok (.aload_n 0, 1) := by decide +kernel
theorem dX12_ends_319 : decode cX12_ends 319 = .ok (.iload_n 2, 1) := by decide +kernel
theorem dX12_ends_320 : decode cX12_ends 320 = .ok (.aload_n 0, 1) := by decide +kernel
theorem dX12_ends_321 : decode cX12_ends 321 = .ok (.invokevirtual 645, 3) := by decide +kernel
theorem dX12_ends_324 : decode cX12_ends 324 = .ok (.invokevirtual 662, 3) := by decide +kernel
theorem dX12_ends_327 : decode cX12_ends 327 = .ok (.istore_n 3, 1) := by decide +kernel
theorem dX12_ends_328 : decode cX12_ends 328 = .ok (.aload_n 0, 1) := by decide +kernel
theorem dX12_ends_329 : decode cX12_ends 329 = .ok (.iload_n 3, 1) := by decide +kernel
theorem dX12_ends_330 : decode cX12_ends 330 = .ok (.ifCond .ge 12, 3) := by decide +kernel
theorem dX12_ends_333 : decode cX12_ends 333 = .ok (.aload_n 0, 1) := by decide +kernel
theorem dX12_ends_334 : decode cX12_ends 334 = .ok (.getfield 90, 3) := by decide +kernel
theorem dX12_ends_337 : decode cX12_ends 337 = .ok (.iload_n 1, 1) := by decide +kernel
theorem dX12_ends_338 : decode cX12_ends 338 = .ok (.iaload, 1) := by decide +kernel
theorem dX12_ends_339 : decode cX12_ends 339 = .ok (.goto 9, 3) := by decide +kernel
theorem dX12_ends_342 : decode cX12_ends 342 = .ok (.aload_n 0, 1) := by decide +kernel
theorem dX12_ends_343 : decode cX12_ends 343 = .ok (.getfield 96, 3) := by decide +kernel
theorem dX12_ends_346 : decode cX12_ends 346 = .ok (.iload_n 3, 1) := by decide +kernel
theorem dX12_ends_347 : decode cX12_ends 347 = .ok (.iaload, 1) := by decide +kernel
theorem dX12_ends_348 : decode cX12_ends 348 = .ok (.putfield 618, 3) := by decide +kernel
theorem dX12_ends_351 : decode cX12_ends 351 = .ok (.goto 74, 3) := by decide +kernel
theorem dX12_ends_354 : decode cX12_ends 354 = .ok (.aload_n 0, 1) := by decide +kernel
theorem dX12_ends_355 : decode cX12_ends 355 = .ok (.iload_n 2, 1) := by decide +kernel
theorem dX12_ends_356 : decode cX12_ends 356 = .ok (.aload_n 0, 1) := by decide +kernel
theorem dX12_ends_357 : decode cX12_ends 357 = .ok (.invokevirtual 645, 3) := by decide +kernel
theorem dX12_ends_360 : decode cX12_ends 360 = .ok (.invokevirtual 662, 3) := by decide +kernel
theorem dX12_ends_363 : decode cX12_ends 363 = .ok (.istore 4, 2) := by decide +kernel
theorem dX12_ends_365 : decode cX12_ends 365 = .ok (.aload_n 0, 1) := by decide +kernel
theorem dX12_ends_366 : decode cX12_ends 366 = .ok (.iconst 3, 1) := by decide +kernel
theorem dX12_ends_367 : decode cX12_ends 367 = .ok (.iload_n 1, 1) := by decide +kernel
theorem dX12_ends_368 : decode cX12_ends 368 = .ok (.iconst 0, 1) := by decide +kernel
theorem dX12_ends_369 : decode cX12_ends 369 = .ok (.iconst 0, 1) := by decide +kernel
theorem dX12_ends_370 : decode cX12_ends 370 = .ok (.invokevirtual 658, 3) := by decide +kernel
theorem dX12_ends_373 : decode cX12_ends 373 = .ok (.pop, 1) := by decide +kernel
theorem dX12_ends_374 : decode cX12_ends 374 = .ok (.aload_n 0, 1) := by decide +kernel
theorem dX12_ends_375 : decode cX12_ends 375 = .ok (.aload_n 0, 1) := by decide +kernel
theorem dX12_ends_376 : decode cX12_ends 376 = .ok (.getfield 96, 3) := by decide +kernel
theorem dX12_ends_379 : decode cX12_ends 379 = .ok (.iload 4, 2) := by decide +kernel
theorem dX12_ends_381 : decode cX12_ends 381 = .ok (.iaload, 1) := by decide +kernel
theorem dX12_ends_382 : decode cX12_ends 382 = .ok (.putfield 618, 3) := by decide +kernel
theorem dX12_ends_385 : decode cX12_ends 385 = .ok (.goto 40, 3) := by decide +kernel
theorem dX12_ends_388 : decode cX12_ends 388 = .ok (.aload_n 0, 1) := by decide +kernel
theorem dX12_ends_389 : decode cX12_ends 389 = .ok (.dup, 1) := by decide +kernel
theorem dX12_ends_390 : decode cX12_ends 390 = .ok (.getfield 586, 3) := by decide +kernel
theorem dX12_ends_393 : decode cX12_ends 393 = .ok (.iconst 1, 1) := by decide +kernel
theorem dX12_ends_394 : decode cX12_ends 394 = .ok (.isub, 1) := by decide +kernel
theorem dX12_ends_395 : decode cX12_ends 395 = .ok (.putfield 586, 3) := by decide +kernel
theorem dX12_ends_398 : decode cX12_ends 398 = .ok (.aload_n 0, 1) := by decide +kernel
theorem dX12_ends_399 : decode cX12_ends 399 = .ok (.aload_n 0, 1) := by decide +kernel
theorem dX12_ends_400 : decode cX12_ends 400 = .ok (.getfield 90, 3) := by decide +kernel
theorem dX12_ends_403 : decode cX12_ends 403 = .ok (.aload_n 0, 1) := by decide +kernel
theorem dX12_ends_404 : decode cX12_ends 404 = .ok (.getfield 246, 3) := by decide +kernel
theorem dX12_ends_407 : decode cX12_ends 407 = .ok (.aload_n 0, 1) := by decide +kernel
theorem dX12_ends_408 : decode cX12_ends 408 = .ok (.getfield 586, 3) := by decide +kernel
theorem dX12_ends_411 : decode cX12_ends 411 = .ok (.iaload, 1) := by decide +kernel
theorem dX12_ends_412 : decode cX12_ends 412 = .ok (.iaload, 1) := by decide +kernel
theorem dX12_ends_413 : decode cX12_ends 413 = .ok (.putfield 618, 3) := by decide +kernel
theorem dX12_ends_416 : decode cX12_ends 416 = .ok (.goto 9, 3) := by decide +kernel
theorem dX12_ends_419 : decode cX12_ends 419 = .ok (.aload_n 0, 1) := by decide +kernel
theorem dX12_ends_420 : decode cX12_ends 420 = .ok (.iload_n 1, 1) := by decide +kernel
theorem dX12_ends_421 : decode cX12_ends 421 = .ok (.iload_n 2, 1) := by decide +kernel
theorem dX12_ends_422 : decode cX12_ends 422 = .ok (.invokevirtual 665, 3) := by decide +kernel
theorem dX12_ends_425 : decode cX12_ends 425 = .ok (.return_, 1) := by decide +kernel
theorem dX12_others_0 : decode cX12_others 0 = .ok (.aload_n 0, 1) := by decide +kernel
theorem dX12_others_1 : decode cX12_others 1 = .ok (.getfield 586, 3) := by decide +kernel
theorem dX12_others_4 : decode cX12_others 4 = .ok (.iconst 1, 1) := by decide +kernel
theorem dX12_others_5 : decode cX12_others 5 = .ok (.isub, 1) := by decide +kernel
theorem dX12_others_6 : decode cX12_others 6 = .ok (.istore_n 3, 1) := by decide +kernel
theorem dX12_others_7 : decode cX12_others 7 = .ok (.aload_n 0, 1) := by decide +kernel
theorem dX12_others_8 : decode cX12_others 8 = .ok (.getfield 84, 3) := by decide +kernel
theorem dX12_others_11 : decode cX12_others 11 = .ok (.iload_n 1, 1) := by decide +kernel
theorem dX12_others_12 : decode cX12_others 12 = .ok (.iaload, 1) := by decide +kernel
theorem dX12_others_13 : decode cX12_others 13 = .ok (.tableswitch 357 23 34 #[63, 144, 206, 357, 357, 357, 357, 357, 229, 244, 311, 344], 63) := by decide +kernel
theorem dX12_others_76 : decode cX12_others 76 = .ok (.aload_n 0, 1) := by decide +kernel
theorem dX12_others_77 : decode cX12_others 77 = .ok (.getfield 621, 3) := by decide +kernel
theorem dX12_others_80 : decode cX12_others 80 = .ok (.istore 4, 2) := by decide +kernel
theorem dX12_others_82 : decode cX12_others 82 = .ok (.iconst 0, 1) := by decide +kernel
theorem dX12_others_83 : decode cX12_others 83 = .ok (.istore 5, 2) := by decide +kernel
theorem dX12_others_85 : decode cX12_others 85 = .ok (.iload 5, 2) := by decide +kernel
theorem dX12_others_87 : decode cX12_others 87 = .ok (.iload_n 2, 1) := by decide +kernel
theorem dX12_others_88 : decode cX12_others 88 = .ok (.if_icmp .ge 42, 3) := by decide +kernel
theorem dX12_others_91 : decode cX12_others 91 = .ok (.aload_n 0, 1) := by decide +kernel
theorem dX12_others_92 : decode cX12_others 92 = .ok (.getfield 240, 3) := by decide +kernel
theorem dX12_others_95 : decode cX12_others 95 = .ok (.aload_n 0, 1) := by decide +kernel
theorem dX12_others_96 : decode cX12_others 96 = .ok (.getfield 621, 3) := by decide +kernel
theorem dX12_others_99 : decode cX12_others 99 = .ok (.aload_n 0, 1) := by decide +kernel
theorem dX12_others_100 : decode cX12_others 100 = .ok (.getfield 234, 3) := by decide +kernel
theorem dX12_others_103 : decode cX12_others 103 = .ok (.aload_n 0, 1) := by decide +kernel
theorem dX12_others_104 : decode cX12_others 104 = .ok (.getfield 589, 3) := by decide +kernel
theorem dX12_others_107 : decode cX12_others 107 = .ok (.iload_n 2, 1) := by decide +kernel
theorem dX12_others_108 : decode cX12_others 108 = .ok (.isub, 1) := by decide +kernel
theorem dX12_others_109 : decode cX12_others 109 = .ok (.iload 5, 2) := by decide +kernel
theorem dX12_others_111 : decode cX12_others 111 = .ok (.iadd, 1) := by decide +kernel
theorem dX12_others_112 : decode cX12_others 112 = .ok (.iaload, 1) := by decide +kernel
theorem dX12_others_113 : decode cX12_others 113 = .ok (.iastore, 1) := by decide +kernel
theorem dX12_others_114 : decode cX12_others 114 = .ok (.aload_n 0, 1) := by decide +kernel
theorem dX12_others_115 : decode cX12_others 115 = .ok (.dup, 1) := by decide +kernel
theorem dX12_others_116 : decode cX12_others 116 = .ok (.getfield 621, 3) := by decide +kernel
theorem dX12_others_119 : decode cX12_others 119 = .ok (.iconst 1, 1) := by decide +kernel
theorem dX12_others_120 : decode cX12_others 120 = .ok (.iadd, 1) := by decide +kernel
theorem dX12_others_121 : decode cX12_others 121 = .ok (.putfield 621, 3) := by decide +kernel
theorem dX12_others_124 : decode cX12_others 124 = .ok (.iinc 5 1, 3) := by decide +kernel
theorem dX12_others_127 : decode cX12_others 127 = .ok (.goto (-42), 3) := by decide +kernel
theorem dX12_others_130 : decode cX12_others 130 = .ok (.aload_n 0, 1) := by decide +kernel
theorem dX12_others_131 : decode cX12_others 131 = .ok (.dup, 1) := by decide +kernel
theorem dX12_others_132 : decode cX12_others 132 = .ok (.getfield 589, 3) := by decide +kernel
theorem dX12_others_135 : decode cX12_others 135 = .ok (.iload_n 2, 1) := by decide +kernel
theorem dX12_others_136 : decode cX12_others 136 = .ok (.isub, 1) := by decide +kernel
theorem dX12_others_137 : decode cX12_others 137 = .ok (.putfield 589, 3) := by decide +kernel
theorem dX12_others_140 : decode cX12_others 140 = .ok (.aload_n 0, 1) := by decide +kernel
theorem dX12_others_141 : decode cX12_others 141 = .ok (.iconst 2, 1) := by decide +kernel
theorem dX12_others_142 : decode cX12_others 142 = .ok (.iload 4, 2) := by decide +kernel
theorem dX12_others_144 : decode cX12_others 144 = .ok (.iload 4, 2) := by decide +kernel
theorem dX12_others_146 : decode cX12_others 146 = .ok (.aload_n 0, 1) := by decide +kernel
theorem dX12_others_147 : decode cX12_others 147 = .ok (.getfield 621, 3) := by decide +kernel
theorem dX12_others_150 : decode cX12_others 150 = .ok (.invokevirtual 658, 3) := by decide +kernel
theorem dX12_others_153 : decode cX12_others 153 = .ok (.pop, 1) := by decide +kernel
theorem dX12_others_154 : decode cX12_others 154 = .ok (.goto 287, 3) := by decide +kernel
theorem dX12_others_157 : decode cX12_others 157 = .ok (.aload_n 0, 1) := by decide +kernel
theorem dX12_others_158 : decode cX12_others 158 = .ok (.getfield 249, 3) := by decide +kernel
theorem dX12_others_161 : decode cX12_others 161 = .ok (.iload_n 3, 1) := by decide +kernel
theorem dX12_others_162 : decode cX12_others 162 = .ok (.iaload, 1) := by decide +kernel
theorem dX12_others_163 : decode cX12_others 163 = .ok (.aload_n 0, 1) := by decide +kernel
theorem dX12_others_164 : decode cX12_others 164 = .ok (.getfield 252, 3) := by decide +kernel
theorem dX12_others_167 : decode cX12_others 167 = .ok (.iload_n 3, 1) := by decide +kernel
theorem dX12_others_168 : decode cX12_others 168 = .ok (.iaload, 1) := by decide +kernel
theorem dX12_others_169 : decode cX12_others 169 = .ok (.if_icmp .ne 11, 3) := by decide +kernel
theorem dX12_others_172 : decode cX12_others 172 = .ok (.aload_n 0, 1) := by decide +kernel
theorem dX12_others_173 : decode cX12_others 173 = .ok (.iload_n 2, 1) := by decide +kernel
theorem dX12_others_174 : decode cX12_others 174 = .ok (.putfield 618, 3) := by decide +kernel
theorem dX12_others_177 : decode cX12_others 177 = .ok (.goto 264, 3) := by decide +kernel
theorem dX12_others_180 : decode cX12_others 180 = .ok (.aload_n 0, 1) := by decide +kernel
