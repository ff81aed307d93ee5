theorem dX11_under_24 : decode cX11_under 24 = .ok (.aload_n 0, 1) := by decide +kernel
theorem dX11_under_25 : decode cX11_under 25 = .ok (.getfield 16, 3) := by decide +kernel
theorem dX11_under_28 : decode cX11_under 28 = .ok (.iload_n 1, 1) := by decide +kernel
theorem dX11_under_29 : decode cX11_under 29 = .ok (.iload_n 2, 1) := by decide +kernel
theorem dX11_under_30 : decode cX11_under 30 = .ok (.invokevirtual 144, 3) := by decide +kernel
theorem dX11_under_33 : decode cX11_under 33 = .ok (.ifCond .eq 7, 3) := by decide +kernel
theorem dX11_under_36 : decode cX11_under 36 = .ok (.iconst 1, 1) := by decide +kernel
theorem dX11_under_37 : decode cX11_under 37 = .ok (.goto 4, 3) := by decide +kernel
theorem dX11_under_40 : decode cX11_under 40 = .ok (.iconst 0, 1) := by decide +kernel
theorem dX11_under_41 : decode cX11_under 41 = .ok (.ireturn, 1) := by decide +kernel
theorem dX11_at_0 : decode cX11_at 0 = .ok (.iload_n 1, 1) := by decide +kernel
theorem dX11_at_1 : decode cX11_at 1 = .ok (.ifCond .lt 15, 3) := by decide +kernel
theorem dX11_at_4 : decode cX11_at 4 = .ok (.iload_n 1, 1) := by decide +kernel
theorem dX11_at_5 : decode cX11_at 5 = .ok (.aload_n 0, 1) := by decide +kernel
theorem dX11_at_6 : decode cX11_at 6 = .ok (.arraylength, 1) := by decide +kernel
theorem dX11_at_7 : decode cX11_at 7 = .ok (.if_icmp .ge 9, 3) := by decide +kernel
theorem dX11_at_10 : decode cX11_at 10 = .ok (.aload_n 0, 1) := by decide +kernel
theorem dX11_at_11 : decode cX11_at 11 = .ok (.iload_n 1, 1) := by decide +kernel
theorem dX11_at_12 : decode cX11_at 12 = .ok (.iaload, 1) := by decide +kernel
theorem dX11_at_13 : decode cX11_at 13 = .ok (.goto 4, 3) := by decide +kernel
theorem dX11_at_17 : decode cX11_at 17 = .ok (.ireturn, 1) := by decide +kernel
theorem dX11_put_0 : decode cX11_put 0 = .ok (.iload_n 1, 1) := by decide +kernel
theorem dX11_put_1 : decode cX11_put 1 = .ok (.ifCond .lt 13, 3) := by decide +kernel
theorem dX11_put_4 : decode cX11_put 4 = .ok (.iload_n 1, 1) := by decide +kernel
theorem dX11_put_5 : decode cX11_put 5 = .ok (.aload_n 0, 1) := by decide +kernel
theorem dX11_put_6 : decode cX11_put 6 = .ok (.arraylength, 1) := by decide +kernel
theorem dX11_put_7 : decode cX11_put 7 = .ok (.if_icmp .ge 7, 3) := by decide +kernel
theorem dX11_put_10 : decode cX11_put 10 = .ok (.aload_n 0, 1) := by decide +kernel
theorem dX11_put_11 : decode cX11_put 11 = .ok (.iload_n 1, 1) := by decide +kernel
theorem dX11_put_12 : decode cX11_put 12 = .ok (.iload_n 2, 1) := by decide +kernel
theorem dX11_put_13 : decode cX11_put 13 = .ok (.iastore, 1) := by decide +kernel
theorem dX11_put_14 : decode cX11_put 14 = .ok (.return_, 1) := by decide +kernel
theorem dX12_init_0 : decode cX12_init 0 = .ok (.aload_n 0, 1) := by decide +kernel
theorem dX12_init_1 : decode cX12_init 1 = .ok (.invokespecial 1, 3) := by decide +kernel
theorem dX12_init_4 : decode cX12_init 4 = .ok (.aload_n 0, 1) := by decide +kernel
theorem dX12_init_5 : decode cX12_init 5 = .ok (.sipush 900, 3) := by decide +kernel
theorem dX12_init_8 : decode cX12_init 8 = .ok (.newarray .int, 2) := by decide +kernel
theorem dX12_init_10 : decode cX12_init 10 = .ok (.putfield 7, 3) := by decide +kernel
theorem dX12_init_13 : decode cX12_init 13 = .ok (.aload_n 0, 1) := by decide +kernel
theorem dX12_init_14 : decode cX12_init 14 = .ok (.iconst 4, 1) := by decide +kernel
theorem dX12_init_15 : decode cX12_init 15 = .ok (.putfield 13, 3) := by decide +kernel
theorem dX12_init_18 : decode cX12_init 18 = .ok (.aload_n 0, 1) := by decide +kernel
theorem dX12_init_19 : decode cX12_init 19 = .ok (.bipush 12, 2) := by decide +kernel
theorem dX12_init_21 : decode cX12_init 21 = .ok (.newarray .int, 2) := by decide +kernel
theorem dX12_init_23 : decode cX12_init 23 = .ok (.putfield 17, 3) := by decide +kernel
theorem dX12_init_26 : decode cX12_init 26 = .ok (.aload_n 0, 1) := by decide +kernel
theorem dX12_init_27 : decode cX12_init 27 = .ok (.bipush 8, 2) := by decide +kernel
theorem dX12_init_29 : decode cX12_init 29 = .ok (.newarray .boolean, 2) := by decide +kernel
theorem dX12_init_31 : decode cX12_init 31 = .ok (.putfield 20, 3) := by decide +kernel
theorem dX12_init_34 : decode cX12_init 34 = .ok (.aload_n 0, 1) := by decide +kernel
theorem dX12_init_35 : decode cX12_init 35 = .ok (.bipush 8, 2) := by decide +kernel
theorem dX12_init_37 : decode cX12_init 37 = .ok (.newarray .int, 2) := by decide +kernel
theorem dX12_init_39 : decode cX12_init 39 = .ok (.putfield 24, 3) := by decide +kernel
theorem dX12_init_42 : decode cX12_init 42 = .ok (.aload_n 0, 1) := by decide +kernel
theorem dX12_init_43 : decode cX12_init 43 = .ok (.bipush 8, 2) := by decide +kernel
theorem dX12_init_45 : decode cX12_init 45 = .ok (.newarray .int, 2) := by decide +kernel
theorem dX12_init_47 : decode cX12_init 47 = .ok (.putfield 27, 3) := by decide +kernel
theorem dX12_init_50 : decode cX12_init 50 = .ok (.aload_n 0, 1) := by decide +kernel
theorem dX12_init_51 : decode cX12_init 51 = .ok (.bipush 25, 2) := by decide +kernel
theorem dX12_init_53 : decode cX12_init 53 = .ok (.newarray .long, 2) := by decide +kernel
theorem dX12_init_55 : decode cX12_init 55 = .ok (.dup, 1) := by decide +kernel
theorem dX12_init_56 : decode cX12_init 56 = .ok (.iconst 0, 1) := by decide +kernel
theorem dX12_init_57 : decode cX12_init 57 = .ok (.ldc2_w 30, 3) := by decide +kernel
theorem dX12_init_60 : decode cX12_init 60 = .ok (.lastore, 1) := by decide +kernel
theorem dX12_init_61 : decode cX12_init 61 = .ok (.dup, 1) := by decide +kernel
theorem dX12_init_62 : decode cX12_init 62 = .ok (.iconst 1, 1) := by decide +kernel
theorem dX12_init_63 : decode cX12_init 63 = .ok (.ldc2_w 32, 3) := by decide +kernel
theorem dX12_init_66 : decode cX12_init 66 = .ok (.lastore, 1) := by decide +kernel
theorem dX12_init_67 : decode cX12_init 67 = .ok (.dup, 1) := by decide +kernel
theorem dX12_init_68 : decode cX12_init 68 = .ok (.iconst 2, 1) := by decide +kernel
theorem dX12_init_69 : decode cX12_init 69 = .ok (.ldc2_w 34, 3) := by decide +kernel
theorem dX12_init_72 : decode cX12_init 72 = .ok (.lastore, 1) := by decide +kernel
theorem dX12_init_73 : decode cX12_init 73 = .ok (.dup, 1) := by decide +kernel
theorem dX12_init_74 : decode cX12_init 74 = .ok (.iconst 3, 1) := by decide +kernel
theorem dX12_init_75 : decode cX12_init 75 = .ok (.ldc2_w 36, 3) := by decide +kernel
theorem dX12_init_78 : decode cX12_init 78 = .ok (.lastore, 1) := by decide +kernel
theorem dX12_init_79 : decode cX12_init 79 = .ok (.dup, 1) := by decide +kernel
theorem dX12_init_80 : decode cX12_init 80 = .ok (.iconst 4, 1) := by decide +kernel
theorem dX12_init_81 : decode cX12_init 81 = .ok (.ldc2_w 38, 3) := by decide +kernel
theorem dX12_init_84 : decode cX12_init 84 = .ok (.lastore, 1) := by decide +kernel
theorem dX12_init_85 : decode cX12_init 85 = .ok (.dup, 1) := by decide +kernel
theorem dX12_init_86 : decode cX12_init 86 = .ok (.iconst 5, 1) := by decide +kernel
theorem dX12_init_87 : decode cX12_init 87 = .ok (.ldc2_w 40, 3) := by decide +kernel
theorem dX12_init_90 : decode cX12_init 90 = .ok (.lastore, 1) := by decide +kernel
theorem dX12_init_91 : decode cX12_init 91 = .ok (.dup, 1) := by decide +kernel
theorem dX12_init_92 : decode cX12_init 92 = .ok (.bipush 6, 2) := by decide +kernel
theorem dX12_init_94 : decode cX12_init 94 = .ok (.ldc2_w 42, 3) := by decide +kernel
theorem dX12_init_97 : decode cX12_init 97 = .ok (.lastore, 1) := by decide +kernel
theorem dX12_init_98 : decode cX12_init 98 = .ok (.dup, 1) := by decide +kernel
theorem dX12_init_99 : decode cX12_init 99 = .ok (.bipush 7, 2) := by decide +kernel
theorem dX12_init_101 : decode cX12_init 101 = .ok (.ldc2_w 44, 3) := by decide +kernel
theorem dX12_init_104 : decode cX12_init 104 = .ok (.lastore, 1) := by decide +kernel
theorem dX12_init_105 : decode cX12_init 105 = .ok (.dup, 1) := by decide +kernel
theorem dX12_init_106 : decode cX12_init 106 = .ok (.bipush 8, 2) := by decide +kernel
theorem dX12_init_108 : decode cX12_init 108 = .ok (.ldc2_w 46, 3) := by decide +kernel
theorem dX12_init_111 : decode cX12_init 111 = .ok (.lastore, 1) := by decide +kernel
theorem dX12_init_112 : decode cX12_init 112 = .ok (.dup, 1) := by decide +kernel
theorem dX12_init_113 : decode cX12_init 113 = .ok (.bipush 9, 2) := by decide +kernel
theorem dX12_init_115 : decode cX12_init 115 = .ok (.ldc2_w 48, 3) := by decide +kernel
theorem dX12_init_118 : decode cX12_init 118 = .ok (.lastore, 1) := by decide +kernel
theorem dX12_init_119 : decode cX12_init 119 = .ok (.dup, 1) := by decide +kernel
theorem dX12_init_120 : decode cX12_init 120 = .ok (.bipush 10, 2) := by decide +kernel
theorem dX12_init_122 : decode cX12_init 122 = .ok (.ldc2_w 50, 3) := by decide +kernel
theorem dX12_init_125 : decode cX12_init 125 = .ok (.lastore, 1) := by decide +kernel
theorem dX12_init_126 : decode cX12_init 126 = .ok (.dup, 1) := by decide +kernel
theorem dX12_init_127 : decode cX12_init 127 = .ok (.bipush 11, 2) := by decide +kernel
theorem dX12_init_129 : decode cX12_init 129 = .ok (.ldc2_w 52, 3) := by decide +kernel
theorem dX12_init_132 : decode cX12_init 132 = .ok (.lastore, 1) := by decide +kernel
theorem dX12_init_133 : decode cX12_init 133 = .ok (.dup, 1) := by decide +kernel
theorem dX12_init_134 : decode cX12_init 134 = .ok (.bipush 12, 2) := by decide +kernel
theorem dX12_init_136 : decode cX12_init 136 = .ok (.ldc2_w 54, 3) := by decide +kernel
theorem dX12_init_139 : decode cX12_init 139 = .ok (.lastore, 1) := by decide +kernel
theorem dX12_init_140 : decode cX12_init 140 = .ok (.dup, 1) := by decide +kernel
theorem dX12_init_141 : decode cX12_init 141 = .ok (.bipush 13, 2) := by decide +kernel
theorem dX12_init_143 : decode cX12_init 143 = .ok (.ldc2_w 56, 3) := by decide +kernel
theorem dX12_init_146 : decode cX12_init 146 = .ok (.lastore, 1) := by decide +kernel
theorem dX12_init_147 : decode cX12_init 147 = .ok (.dup, 1) := by decide +kernel
theorem dX12_init_148 : decode cX12_init 148 = .ok (.bipush 14, 2) := by decide +kernel
theorem dX12_init_150 : decode cX12_init 150 = .ok (.ldc2_w 58, 3) := by decide +kernel
theorem dX12_init_153 : decode cX12_init 153 = .ok (.lastore, 1) := by decide +kernel
theorem dX12_init_154 : decode cX12_init 154 = .ok (.dup, 1) := by decide +kernel
theorem dX12_init_155 : decode cX12_init 155 = .ok (.bipush 15, 2) := by decide +kernel
theorem dX12_init_157 : decode cX12_init 157 = .ok (.ldc2_w 60, 3) := by decide +kernel
theorem dX12_init_160 : decode cX12_init 160 = .ok (.lastore, 1) := by decide +kernel
theorem dX12_init_161 : decode cX12_init 161 = .ok (.dup, 1) := by decide +kernel
theorem dX12_init_162 : decode cX12_init 162 = .ok (.bipush 16, 2) := by decide +kernel
theorem dX12_init_164 : decode cX12_init 164 = .ok (.ldc2_w 62, 3) := by decide +kernel
theorem dX12_init_167 : decode cX12_init 167 = .ok (.lastore, 1) := by decide +kernel
theorem dX12_init_168 : decode cX12_init 168 = .ok (.dup, 1) := by decide +kernel
theorem dX12_init_169 : decode cX12_init 169 = .ok (.bipush 17, 2) := by decide +kernel
theorem dX12_init_171 : decode cX12_init 171 = .ok (.ldc2_w 64, 3) := by decide +kernel
theorem dX12_init_174 : decode cX12_init 174 = .ok (.lastore, 1) := by decide +kernel
theorem dX12_init_175 : decode cX12_init 175 = .ok (.dup, 1) := by decide +kernel
theorem dX12_init_176 : decode cX12_init 176 = .ok (.bipush 18, 2) := by decide +kernel
theorem dX12_init_178 : decode cX12_init 178 = .ok (.ldc2_w 66, 3) := by decide +kernel
theorem dX12_init_181 : decode cX12_init 181 = .ok (.lastore, 1) := by decide +kernel
theorem dX12_init_182 : decode cX12_init 182 = .ok (.dup, 1) := by decide +kernel
theorem dX12_init_183 : decode cX12_init 183 = .ok (.bipush 19, 2) := by decide +kernel
theorem dX12_init_185 : decode cX12_init 185 = .ok (.ldc2_w 68, 3) := by decide +kernel
theorem dX12_init_188 : decode cX12_init 188 = .ok (.lastore, 1) := by decide +kernel
theorem dX12_init_189 : decode cX12_init 189 = .ok (.dup, 1) := by decide +kernel
theorem dX12_init_190 : decode cX12_init 190 = .ok (.bipush 20, 2) := by decide +kernel
theorem dX12_init_192 : decode cX12_init 192 = .ok (.ldc2_w 70, 3) := by decide +kernel
theorem dX12_init_195 : decode cX12_init 195 = .ok (.lastore, 1) := by decide +kernel
theorem dX12_init_196 : decode cX12_init 196 = .ok (.dup, 1) := by decide +kernel
theorem dX12_init_197 : decode cX12_init 197 = .ok (.bipush 21, 2) := by decide +kernel
theorem dX12_init_199 : decode cX12_init 199 = .ok (.ldc2_w 72, 3) := by decide +kernel
theorem dX12_init_202 : decode cX12_init 202 = .ok (.lastore, 1) := by decide +kernel
theorem dX12_init_203 : decode cX12_init 203 = .ok (.dup, 1) := by decide +kernel
theorem dX12_init_204 : decode cX12_init 204 = .ok (.bipush 22, 2) := by decide +kernel
theorem dX12_init_206 : decode cX12_init 206 = .ok (.ldc2_w 74, 3) := by decide +kernel
theorem dX12_init_209 : decode cX12_init 209 = .ok (.lastore, 1) := by decide +kernel
theorem dX12_init_210 : decode cX12_init 210 = .ok (.dup, 1) := by decide +kernel
theorem dX12_init_211 : decode cX12_init 211 = .ok (.bipush 23, 2) := by decide +kernel
theorem dX12_init_213 : decode cX12_init 213 = .ok (.ldc2_w 76, 3) := by decide +kernel
theorem dX12_init_216 : decode cX12_init 216 = .ok (.lastore, 1) := by decide +kernel
theorem dX12_init_217 : decode cX12_init 217 = .ok (.dup, 1) := by decide +kernel
theorem dX12_init_218 : decode cX12_init 218 = .ok (.bipush 24, 2) := by decide +kernel
theorem dX12_init_220 : decode cX12_init 220 = .ok (.ldc2_w 78, 3) := by decide +kernel
theorem dX12_init_223 : decode cX12_init 223 = .ok (.lastore, 1) := by decide +kernel
theorem dX12_init_224 : decode cX12_init 224 = .ok (.putfield 80, 3) := by decide +kernel
theorem dX12_init_227 : decode cX12_init 227 = .ok (.aload_n 0, 1) := by decide +kernel
theorem dX12_init_228 : decode cX12_init 228 = .ok (.sipush 3000, 3) := by decide +kernel
theorem dX12_init_231 : decode cX12_init 231 = .ok (.newarray .int, 2) := by decide +kernel
theorem dX12_init_233 : decode cX12_init 233 = .ok (.putfield 84, 3) := by decide +kernel
theorem dX12_init_236 : decode cX12_init 236 = .ok (.aload_n 0, 1) := by decide +kernel
theorem dX12_init_237 : decode cX12_init 237 = .ok (.sipush 3000, 3) := by decide +kernel
theorem dX12_init_240 : decode cX12_init 240 = .ok (.newarray .int, 2) := by decide +kernel
theorem dX12_init_242 : decode cX12_init 242 = .ok (.putfield 87, 3) := by decide +kernel
theorem dX12_init_245 : decode cX12_init 245 = .ok (.aload_n 0, 1) := by decide +kernel
theorem dX12_init_246 : decode cX12_init 246 = .ok (.sipush 3000, 3) := by decide +kernel
theorem dX12_init_249 : decode cX12_init 249 = .ok (.newarray .int, 2) := by decide +kernel
theorem dX12_init_251 : decode cX12_init 251 = .ok (.putfield 90, 3) := by decide +kernel
theorem dX12_init_254 : decode cX12_init 254 = .ok (.aload_n 0, 1) := by decide +kernel
theorem dX12_init_255 : decode cX12_init 255 = .ok (.sipush 500, 3) := by decide +kernel
theorem dX12_init_258 : decode cX12_init 258 = .ok (.newarray .int, 2) := by decide +kernel
theorem dX12_init_260 : decode cX12_init 260 = .ok (.putfield 93, 3) := by decide +kernel
theorem dX12_init_263 : decode cX12_init 263 = .ok (.aload_n 0, 1) := by decide +kernel
theorem dX12_init_264 : decode cX12_init 264 = .ok (.sipush 500, 3) := by decide +kernel
theorem dX12_init_267 : decode cX12_init 267 = .ok (.newarray .int, 2) := by decide +kernel
theorem dX12_init_269 : decode cX12_init 269 = .ok (.putfield 96, 3) := by decide +kernel
theorem dX12_init_272 : decode cX12_init 272 = .ok (.aload_n 0, 1) := by decide +kernel
theorem dX12_init_273 : decode cX12_init 273 = .ok (.sipush 500, 3) := by decide +kernel
theorem dX12_init_276 : decode cX12_init 276 = .ok (.newarray .int, 2) := by decide +kernel
theorem dX12_init_278 : decode cX12_init 278 = .ok (.putfield 99, 3) := by decide +kernel
theorem dX12_init_281 : decode cX12_init 281 = .ok (.aload_n 0, 1) := by decide +kernel
theorem dX12_init_282 : decode cX12_init 282 = .ok (.sipush 500, 3) := by decide +kernel
theorem dX12_init_285 : decode cX12_init 285 = .ok (.newarray .boolean, 2) := by decide +kernel
theorem dX12_init_287 : decode cX12_init 287 = .ok (.putfield 102, 3) := by decide +kernel
theorem dX12_init_290 : decode cX12_init 290 = .ok (.aload_n 0, 1) := by decide +kernel
theorem dX12_init_291 : decode cX12_init 291 = .ok (.sipush 200, 3) := by decide +kernel
theorem dX12_init_294 : decode cX12_init 294 = .ok (.newarray .int, 2) := by decide +kernel
theorem dX12_init_296 : decode cX12_init 296 = .ok (.putfield 105, 3) := by decide +kernel
theorem dX12_init_299 : decode cX12_init 299 = .ok (.aload_n 0, 1) := by decide +kernel
theorem dX12_init_300 : decode cX12_init 300 = .ok (.sipush 200, 3) := by decide +kernel
theorem dX12_init_303 : decode cX12_init 303 = .ok (.newarray .int, 2) := by decide +kernel
theorem dX12_init_305 : decode cX12_init 305 = .ok (.putfield 108, 3) := by decide +kernel
theorem dX12_init_308 : decode cX12_init 308 = .ok (.aload_n 0, 1) := by decide +kernel
theorem dX12_init_309 : decode cX12_init 309 = .ok (.sipush 200, 3) := by decide +kernel
theorem dX12_init_312 : decode cX12_init 312 = .ok (.newarray .int, 2) := by decide +kernel
theorem dX12_init_314 : decode cX12_init 314 = .ok (.putfield 111, 3) := by decide +kernel
theorem dX12_init_317 : decode cX12_init 317 = .ok (.aload_n 0, 1) := by decide +kernel
theorem dX12_init_318 : decode cX12_init 318 = .ok (.sipush 400, 3) := by decide +kernel
theorem dX12_init_321 : decode cX12_init 321 = .ok (.newarray .int, 2) := by decide +kernel
theorem dX12_init_323 : decode cX12_init 323 = .ok (.putfield 114, 3) := by decide +kernel
theorem dX12_init_326 : decode cX12_init 326 = .ok (.aload_n 0, 1) := by decide +kernel
theorem dX12_init_327 : decode cX12_init 327 = .ok (.sipush 400, 3) := by decide +kernel
theorem dX12_init_330 : decode cX12_init 330 = .ok (.newarray .int, 2) := by decide +kernel
theorem dX12_init_332 : decode cX12_init 332 = .ok (.putfield 117, 3) := by decide +kernel
theorem dX12_init_335 : decode cX12_init 335 = .ok (.aload_n 0, 1) := by decide +kernel
theorem dX12_init_336 : decode cX12_init 336 = .ok (.sipush 400, 3) := by decide +kernel
theorem dX12_init_339 : decode cX12_init 339 = .ok (.newarray .int, 2) := by decide +kernel
theorem dX12_init_341 : decode cX12_init 341 = .ok (.putfield 120, 3) := by decide +kernel
theorem dX12_init_344 : decode cX12_init 344 = .ok (.aload_n 0, 1) := by decide +kernel
theorem dX12_init_345 : decode cX12_init 345 = .ok (.sipush 400, 3) := by decide +kernel
theorem dX12_init_348 : decode cX12_init 348 = .ok (.newarray .int, 2) := by decide +kernel
theorem dX12_init_350 : decode cX12_init 350 = .ok (.putfield 123, 3) := by decide +kernel
theorem dX12_init_353 : decode cX12_init 353 = .ok (.aload_n 0, 1) := by decide +kernel
theorem dX12_init_354 : decode cX12_init 354 = .ok (.sipush 460, 3) := by decide +kernel
theorem dX12_init_357 : decode cX12_init 357 = .ok (.newarray .long, 2) := by decide +kernel
theorem dX12_init_359 : decode cX12_init 359 = .ok (.putfield 126, 3) := by decide +kernel
theorem dX12_init_362 : decode cX12_init 362 = .ok (.aload_n 0, 1) := by decide +kernel
theorem dX12_init_363 : decode cX12_init 363 = .ok (.sipush 460, 3) := by decide +kernel
theorem dX12_init_366 : decode cX12_init 366 = .ok (.newarray .int, 2) := by decide +kernel
theorem dX12_init_368 : decode cX12_init 368 = .ok (.putfield 129, 3) := by decide +kernel
theorem dX12_init_371 : decode cX12_init 371 = .ok (.aload_n 0, 1) := by decide +kernel
theorem dX12_init_372 : decode cX12_init 372 = .ok (.sipush 460, 3) := by decide +kernel
theorem dX12_init_375 : decode cX12_init 375 = .ok (.newarray .boolean, 2) := by decide +kernel
theorem dX12_init_377 : decode cX12_init 377 = .ok (.putfield 132, 3) := by decide +kernel
theorem dX12_init_380 : decode cX12_init 380 = .ok (.aload_n 0, 1) := by decide +kernel
theorem dX12_init_381 : decode cX12_init 381 = .ok (.sipush 460, 3) := by decide +kernel
theorem dX12_init_384 : decode cX12_init 384 = .ok (.newarray .int, 2) := by decide +kernel
theorem dX12_init_386 : decode cX12_init 386 = .ok (.putfield 135, 3) := by decide +kernel
theorem dX12_init_389 : decode cX12_init 389 = .ok (.aload_n 0, 1) := by decide +kernel
theorem dX12_init_390 : decode cX12_init 390 = .ok (.sipush 460, 3) := by decide +kernel
theorem dX12_init_393 : decode cX12_init 393 = .ok (.newarray .long, 2) := by decide +kernel
theorem dX12_init_395 : decode cX12_init 395 = .ok (.putfield 138, 3) := by decide +kernel
theorem dX12_init_398 : decode cX12_init 398 = .ok (.aload_n 0, 1) := by decide +kernel
theorem dX12_init_399 : decode cX12_init 399 = .ok (.sipush 460, 3) := by decide +kernel
theorem dX12_init_402 : decode cX12_init 402 = .ok (.newarray .int, 2) := by decide +kernel
theorem dX12_init_404 : decode cX12_init 404 = .ok (.putfield 141, 3) := by decide +kernel
theorem dX12_init_407 : decode cX12_init 407 = .ok (.aload_n 0, 1) := by decide +kernel
theorem dX12_init_408 : decode cX12_init 408 = .ok (.sipush 460, 3) := by decide +kernel
theorem dX12_init_411 : decode cX12_init 411 = .ok (.newarray .int, 2) := by decide +kernel
theorem dX12_init_413 : decode cX12_init 413 = .ok (.putfield 144, 3) := by decide +kernel
theorem dX12_init_416 : decode cX12_init 416 = .ok (.aload_n 0, 1) := by decide +kernel
theorem dX12_init_417 : decode cX12_init 417 = .ok (.sipush 460, 3) := by decide +kernel
theorem dX12_init_420 : decode cX12_init 420 = .ok (.newarray .int, 2) := by decide +kernel
theorem dX12_init_422 : decode cX12_init 422 = .ok (.putfield 147, 3) := by decide +kernel
theorem dX12_init_425 : decode cX12_init 425 = .ok (.aload_n 0, 1) := by decide +kernel
theorem dX12_init_426 : decode cX12_init 426 = .ok (.sipush 460, 3) := by decide +kernel
theorem dX12_init_429 : decode cX12_init 429 = .ok (.newarray .int, 2) := by decide +kernel
theorem dX12_init_431 : decode cX12_init 431 = .ok (.putfield 150, 3) := by decide +kernel
theorem dX12_init_434 : decode cX12_init 434 = .ok (.aload_n 0, 1) := by decide +kernel
theorem dX12_init_435 : decode cX12_init 435 = .ok (.sipush 460, 3) := by decide +kernel
theorem dX12_init_438 : decode cX12_init 438 = .ok (.newarray .boolean, 2) := by decide +kernel
theorem dX12_init_440 : decode cX12_init 440 = .ok (.putfield 153, 3) := by decide +kernel
theorem dX12_init_443 : decode cX12_init 443 = .ok (.aload_n 0, 1) := by decide +kernel
theorem dX12_init_444 : decode cX12_init 444 = .ok (.sipush 460, 3) := by decide +kernel
theorem dX12_init_447 : decode cX12_init 447 = .ok (.newarray .boolean, 2) := by decide +kernel
theorem dX12_init_449 : decode cX12_init 449 = .ok (.putfield 156, 3) := by decide +kernel
theorem dX12_init_452 : decode cX12_init 452 = .ok (.aload_n 0, 1) := by decide +kernel
theorem dX12_init_453 : decode cX12_init 453 = .ok (.bipush 40, 2) := by decide +kernel
theorem dX12_init_455 : decode cX12_init 455 = .ok (.newarray .int, 2) := by decide +kernel
theorem dX12_init_457 : decode cX12_init 457 = .ok (.putfield 159, 3) := by decide +kernel
theorem dX12_init_460 : decode cX12_init 460 = .ok (.aload_n 0, 1) := by decide +kernel
theorem dX12_init_461 : decode cX12_init 461 = .ok (.bipush 40, 2) := by decide +kernel
theorem dX12_init_463 : decode cX12_init 463 = .ok (.newarray .int, 2) := by decide +kernel
theorem dX12_init_465 : decode cX12_init 465 = .ok (.putfield 162, 3) := by decide +kernel
theorem dX12_init_468 : decode cX12_init 468 = .ok (.aload_n 0, 1) := by decide +kernel
theorem dX12_init_469 : decode cX12_init 469 = .ok (.sipush 300, 3) := by decide +kernel
theorem dX12_init_472 : decode cX12_init 472 = .ok (.newarray .int, 2) := by decide +kernel
theorem dX12_init_474 : decode cX12_init 474 = .ok (.putfield 165, 3) := by decide +kernel
theorem dX12_init_477 : decode cX12_init 477 = .ok (.aload_n 0, 1) := by decide +kernel
theorem dX12_init_478 : decode cX12_init 478 = .ok (.sipush 300, 3) := by decide +kernel
theorem dX12_init_481 : decode cX12_init 481 = .ok (.newarray .boolean, 2) := by decide +kernel
theorem dX12_init_483 : decode cX12_init 483 = .ok (.putfield 168, 3) := by decide +kernel
theorem dX12_init_486 : decode cX12_init 486 = .ok (.aload_n 0, 1) := by decide +kernel
theorem dX12_init_487 : decode cX12_init 487 = .ok (.sipush 300, 3) := by decide +kernel
theorem dX12_init_490 : decode cX12_init 490 = .ok (.newarray .int, 2) := by decide +kernel
theorem dX12_init_492 : decode cX12_init 492 = .ok (.putfield 171, 3) := by decide +kernel
theorem dX12_init_495 : decode cX12_init 495 = .ok (.aload_n 0, 1) := by decide +kernel
theorem dX12_init_496 : decode cX12_init 496 = .ok (.sipush 1000, 3) := by decide +kernel
theorem dX12_init_499 : decode cX12_init 499 = .ok (.newarray .int, 2) := by decide +kernel
theorem dX12_init_501 : decode cX12_init 501 = .ok (.putfield 174, 3) := by decide +kernel
theorem dX12_init_504 : decode cX12_init 504 = .ok (.aload_n 0, 1) := by decide +kernel
theorem dX12_init_505 : decode cX12_init 505 = .ok (.sipush 1000, 3) := by decide +kernel
theorem dX12_init_508 : decode cX12_init 508 = .ok (.newarray .int, 2) := by decide +kernel
theorem dX12_init_510 : decode cX12_init 510 = .ok (.putfield 177, 3) := by decide +kernel
theorem dX12_init_513 : decode cX12_init 513 = .ok (.aload_n 0, 1) := by decide +kernel
theorem dX12_init_514 : decode cX12_init 514 = .ok (.sipush 1000, 3) := by decide +kernel
theorem dX12_init_517 : decode cX12_init 517 = .ok (.newarray .int, 2) := by decide +kernel
theorem dX12_init_519 : decode cX12_init 519 = .ok (.putfield 180, 3) := by decide +kernel
theorem dX12_init_522 : decode cX12_init 522 = .ok (.aload_n 0, 1) := by decide +kernel
theorem dX12_init_523 : decode cX12_init 523 = .ok (.sipush 1000, 3) := by decide +kernel
theorem dX12_init_526 : decode cX12_init 526 = .ok (.newarray .int, 2) := by decide +kernel
theorem dX12_init_528 : decode cX12_init 528 = .ok (.putfield 183, 3) := by decide +kernel
theorem dX12_init_531 : decode cX12_init 531 = .ok (.aload_n 0, 1) := by decide +kernel
theorem dX12_init_532 : decode cX12_init 532 = .ok (.sipush 1000, 3) := by decide +kernel
theorem dX12_init_535 : decode cX12_init 535 = .ok (.newarray .int, 2) := by decide +kernel
theorem dX12_init_537 : decode cX12_init 537 = .ok (.putfield 186, 3) := by decide +kernel
theorem dX12_init_540 : decode cX12_init 540 = .ok (.aload_n 0, 1) := by decide +kernel
theorem dX12_init_541 : decode cX12_init 541 = .ok (.sipush 1000, 3) := by decide +kernel
theorem dX12_init_544 : decode cX12_init 544 = .ok (.newarray .int, 2) := by decide +kernel
theorem dX12_init_546 : decode cX12_init 546 = .ok (.putfield 189, 3) := by decide +kernel
theorem dX12_init_549 : decode cX12_init 549 = .ok (.aload_n 0, 1) := by decide +kernel
theorem dX12_init_550 : decode cX12_init 550 = .ok (.sipush 1000, 3) := by decide +kernel
theorem dX12_init_553 : decode cX12_init 553 = .ok (.newarray .int, 2) := by decide +kernel
theorem dX12_init_555 : decode cX12_init 555 = .ok (.putfield 192, 3) := by decide +kernel
theorem dX12_init_558 : decode cX12_init 558 = .ok (.aload_n 0, 1) := by decide +kernel
theorem dX12_init_559 : decode cX12_init 559 = .ok (.sipush 1000, 3) := by decide +kernel
theorem dX12_init_562 : decode cX12_init 562 = .ok (.newarray .int, 2) := by decide +kernel
theorem dX12_init_564 : decode cX12_init 564 = .ok (.putfield 195, 3) := by decide +kernel
theorem dX12_init_567 : decode cX12_init 567 = .ok (.aload_n 0, 1) := by decide +kernel
theorem dX12_init_568 : decode cX12_init 568 = .ok (.sipush 1000, 3) := by decide +kernel
theorem dX12_init_571 : decode cX12_init 571 = .ok (.newarray .int, 2) := by decide +kernel
theorem dX12_init_573 : decode cX12_init 573 = .ok (.putfield 198, 3) := by decide +kernel
theorem dX12_init_576 : decode cX12_init 576 = .ok (.aload_n 0, 1) := by decide +kernel
theorem dX12_init_577 : decode cX12_init 577 = .ok (.sipush 1000, 3) := by decide +kernel
theorem dX12_init_580 : decode cX12_init 580 = .ok (.newarray .int, 2) := by decide +kernel
theorem dX12_init_582 : decode cX12_init 582 = .ok (.putfield 201, 3) := by decide +kernel
theorem dX12_init_585 : decode cX12_init 585 = .ok (.aload_n 0, 1) := by decide +kernel
theorem dX12_init_586 : decode cX12_init 586 = .ok (.sipush 1000, 3) := by decide +kernel
theorem dX12_init_589 : decode cX12_init 589 = .ok (.newarray .long, 2) := by decide +kernel
theorem dX12_init_591 : decode cX12_init 591 = .ok (.putfield 204, 3) := by decide +kernel
theorem dX12_init_594 : decode cX12_init 594 = .ok (.aload_n 0, 1) := by decide +kernel
theorem dX12_init_595 : decode cX12_init 595 = .ok (.sipush 200, 3) := by decide +kernel
theorem dX12_init_598 : decode cX12_init 598 = .ok (.newarray .int, 2) := by decide +kernel
theorem dX12_init_600 : decode cX12_init 600 = .ok (.putfield 207, 3) := by decide +kernel
theorem dX12_init_603 : decode cX12_init 603 = .ok (.aload_n 0, 1) := by decide +kernel
theorem dX12_init_604 : decode cX12_init 604 = .ok (.sipush 200, 3) := by decide +kernel
theorem dX12_init_607 : decode cX12_init 607 = .ok (.newarray .int, 2) := by decide +kernel
theorem dX12_init_609 : decode cX12_init 609 = .ok (.putfield 210, 3) := by decide +kernel
theorem dX12_init_612 : decode cX12_init 612 = .ok (.aload_n 0, 1) := by decide +kernel
theorem dX12_init_613 : decode cX12_init 613 = .ok (.sipush 460, 3) := by decide +kernel
theorem dX12_init_616 : decode cX12_init 616 = .ok (.newarray .int, 2) := by decide +kernel
theorem dX12_init_618 : decode cX12_init 618 = .ok (.putfield 213, 3) := by decide +kernel
theorem dX12_init_621 : decode cX12_init 621 = .ok (.aload_n 0, 1) := by decide +kernel
theorem dX12_init_622 : decode cX12_init 622 = .ok (.sipush 3200, 3) := by decide +kernel
theorem dX12_init_625 : decode cX12_init 625 = .ok (.newarray .int, 2) := by decide +kernel
theorem dX12_init_627 : decode cX12_init 627 = .ok (.putfield 216, 3) := by decide +kernel
theorem dX12_init_630 : decode cX12_init 630 = .ok (.aload_n 0, 1) := by decide +kernel
theorem dX12_init_631 : decode cX12_init 631 = .ok (.sipush 3200, 3) := by decide +kernel
theorem dX12_init_634 : decode cX12_init 634 = .ok (.newarray .int, 2) := by decide +kernel
theorem dX12_init_636 : decode cX12_init 636 = .ok (.putfield 219, 3) := by decide +kernel
theorem dX12_init_639 : decode cX12_init 639 = .ok (.aload_n 0, 1) := by decide +kernel
theorem dX12_init_640 : decode cX12_init 640 = .ok (.sipush 3200, 3) := by decide +kernel
theorem dX12_init_643 : decode cX12_init 643 = .ok (.newarray .int, 2) := by decide +kernel
theorem dX12_init_645 : decode cX12_init 645 = .ok (.putfield 222, 3) := by decide +kernel
theorem dX12_init_648 : decode cX12_init 648 = .ok (.aload_n 0, 1) := by decide +kernel
theorem dX12_init_649 : decode cX12_init 649 = .ok (.sipush 25600, 3) := by decide +kernel
theorem dX12_init_652 : decode cX12_init 652 = .ok (.newarray .int, 2) := by decide +kernel
theorem dX12_init_654 : decode cX12_init 654 = .ok (.putfield 225, 3) := by decide +kernel
theorem dX12_init_657 : decode cX12_init 657 = .ok (.aload_n 0, 1) := by decide +kernel
theorem dX12_init_658 : decode cX12_init 658 = .ok (.sipush 25600, 3) := by decide +kernel
theorem dX12_init_661 : decode cX12_init 661 = .ok (.newarray .int, 2) := by decide +kernel
theorem dX12_init_663 : decode cX12_init 663 = .ok (.putfield 228, 3) := by decide +kernel
theorem dX12_init_666 : decode cX12_init 666 = .ok (.aload_n 0, 1) := by decide +kernel
theorem dX12_init_667 : decode cX12_init 667 = .ok (.bipush 8, 2) := by decide +kernel
theorem dX12_init_669 : decode cX12_init 669 = .ok (.newarray .int, 2) := by decide +kernel
theorem dX12_init_671 : decode cX12_init 671 = .ok (.putfield 231, 3) := by decide +kernel
theorem dX12_init_674 : decode cX12_init 674 = .ok (.aload_n 0, 1) := by decide +kernel
theorem dX12_init_675 : decode cX12_init 675 = .ok (.sipush 1400, 3) := by decide +kernel
theorem dX12_init_678 : decode cX12_init 678 = .ok (.newarray .int, 2) := by decide +kernel
theorem dX12_init_680 : decode cX12_init 680 = .ok (.putfield 234, 3) := by decide +kernel
theorem dX12_init_683 : decode cX12_init 683 = .ok (.aload_n 0, 1) := by decide +kernel
theorem dX12_init_684 : decode cX12_init 684 = .ok (.sipush 460, 3) := by decide +kernel
theorem dX12_init_687 : decode cX12_init 687 = .ok (.newarray .int, 2) := by decide +kernel
theorem dX12_init_689 : decode cX12_init 689 = .ok (.putfield 237, 3) := by decide +kernel
theorem dX12_init_692 : decode cX12_init 692 = .ok (.aload_n 0, 1) := by decide +kernel
theorem dX12_init_693 : decode cX12_init 693 = .ok (.sipush 460, 3) := by decide +kernel
theorem dX12_init_696 : decode cX12_init 696 = .ok (.newarray .int, 2) := by decide +kernel
theorem dX12_init_698 : decode cX12_init 698 = .ok (.putfield 240, 3) := by decide +kernel
theorem dX12_init_701 : decode cX12_init 701 = .ok (.aload_n 0, 1) := by decide +kernel
theorem dX12_init_702 : decode cX12_init 702 = .ok (.sipush 300, 3) := by decide +kernel
theorem dX12_init_705 : decode cX12_init 705 = .ok (.newarray .int, 2) := by decide +kernel
theorem dX12_init_707 : decode cX12_init 707 = .ok (.putfield 243, 3) := by decide +kernel
theorem dX12_init_710 : decode cX12_init 710 = .ok (.aload_n 0, 1) := by decide +kernel
theorem dX12_init_711 : decode cX12_init 711 = .ok (.sipush 300, 3) := by decide +kernel
theorem dX12_init_714 : decode cX12_init 714 = .ok (.newarray .int, 2) := by decide +kernel
theorem dX12_init_716 : decode cX12_init 716 = .ok (.putfield 246, 3) := by decide +kernel
theorem dX12_init_719 : decode cX12_init 719 = .ok (.aload_n 0, 1) := by decide +kernel
theorem dX12_init_720 : decode cX12_init 720 = .ok (.sipush 300, 3) := by decide +kernel
theorem dX12_init_723 : decode cX12_init 723 = .ok (.newarray .int, 2) := by decide +kernel
theorem dX12_init_725 : decode cX12_init 725 = .ok (.putfield 249, 3) := by decide +kernel
theorem dX12_init_728 : decode cX12_init 728 = .ok (.aload_n 0, 1) := by decide +kernel
theorem dX12_init_729 : decode cX12_init 729 = .ok (.sipush 300, 3) := by decide +kernel
theorem dX12_init_732 : decode cX12_init 732 = .ok (.newarray .int, 2) := by decide +kernel
theorem dX12_init_734 : decode cX12_init 734 = .ok (.putfield 252, 3) := by decide +kernel
theorem dX12_init_737 : decode cX12_init 737 = .ok (.aload_n 0, 1) := by decide +kernel
theorem dX12_init_738 : decode cX12_init 738 = .ok (.sipush 300, 3) := by decide +kernel
theorem dX12_init_741 : decode cX12_init 741 = .ok (.newarray .int, 2) := by decide +kernel
theorem dX12_init_743 : decode cX12_init 743 = .ok (.putfield 255, 3) := by decide +kernel
theorem dX12_init_746 : decode cX12_init 746 = .ok (.aload_n 0, 1) := by decide +kernel
theorem dX12_init_747 : decode cX12_init 747 = .ok (.sipush 300, 3) := by decide +kernel
theorem dX12_init_750 : decode cX12_init 750 = .ok (.newarray .int, 2) := by decide +kernel
theorem dX12_init_752 : decode cX12_init 752 = .ok (.putfield 258, 3) := by decide +kernel
theorem dX12_init_755 : decode cX12_init 755 = .ok (.aload_n 0, 1) := by decide +kernel
theorem dX12_init_756 : decode cX12_init 756 = .ok (.sipush 300, 3) := by decide +kernel
theorem dX12_init_759 : decode cX12_init 759 = .ok (.newarray .int, 2) := by decide +kernel
theorem dX12_init_761 : decode cX12_init 761 = .ok (.putfield 261, 3) := by decide +kernel
theorem dX12_init_764 : decode cX12_init 764 = .ok (.aload_n 0, 1) := by decide +kernel
theorem dX12_init_765 : decode cX12_init 765 = .ok (.sipush 300, 3) := by decide +kernel
theorem dX12_init_768 : decode cX12_init 768 = .ok (.newarray .int, 2) := by decide +kernel
theorem dX12_init_770 : decode cX12_init 770 = .ok (.putfield 264, 3) := by decide +kernel
theorem dX12_init_773 : decode cX12_init 773 = .ok (.aload_n 0, 1) := by decide +kernel
theorem dX12_init_774 : decode cX12_init 774 = .ok (.sipush 300, 3) := by decide +kernel
theorem dX12_init_777 : decode cX12_init 777 = .ok (.newarray .int, 2) := by decide +kernel
theorem dX12_init_779 : decode cX12_init 779 = .ok (.putfield 267, 3) := by decide +kernel
theorem dX12_init_782 : decode cX12_init 782 = .ok (.aload_n 0, 1) := by decide +kernel
theorem dX12_init_783 : decode cX12_init 783 = .ok (.sipush 300, 3) := by decide +kernel
theorem dX12_init_786 : decode cX12_init 786 = .ok (.newarray .int, 2) := by decide +kernel
theorem dX12_init_788 : decode cX12_init 788 = .ok (.putfield 270, 3) := by decide +kernel
theorem dX12_init_791 : decode cX12_init 791 = .ok (.return_, 1) := by decide +kernel
theorem dX12_thrown_0 : decode cX12_thrown 0 = .ok (.aload_n 0, 1) := by decide +kernel
theorem dX12_thrown_1 : decode cX12_thrown 1 = .ok (.getfield 273, 3) := by decide +kernel
theorem dX12_thrown_4 : decode cX12_thrown 4 = .ok (.ireturn, 1) := by decide +kernel
theorem dX12_in_0 : decode cX12_in 0 = .ok (.iload_n 0, 1) := by decide +kernel
theorem dX12_in_1 : decode cX12_in 1 = .ok (.iload_n 1, 1) := by decide +kernel
theorem dX12_in_2 : decode cX12_in 2 = .ok (.if_icmp .lt 12, 3) := by decide +kernel
theorem dX12_in_5 : decode cX12_in 5 = .ok (.iload_n 0, 1) := by decide +kernel
theorem dX12_in_6 : decode cX12_in 6 = .ok (.iload_n 2, 1) := by decide +kernel
theorem dX12_in_7 : decode cX12_in 7 = .ok (.if_icmp .gt 7, 3) := by decide +kernel
theorem dX12_in_10 : decode cX12_in 10 = .ok (.iconst 1, 1) := by decide +kernel
theorem dX12_in_11 : decode cX12_in 11 = .ok (.goto 4, 3) := by decide +kernel
theorem dX12_in_14 : decode cX12_in 14 = .ok (.iconst 0, 1) := by decide +kernel
theorem dX12_in_15 : decode cX12_in 15 = .ok (.ireturn, 1) := by decide +kernel
theorem dX12_feed_0 : decode cX12_feed 0 = .ok (.aload_n 0, 1) := by decide +kernel
theorem dX12_feed_1 : decode cX12_feed 1 = .ok (.iconst 0, 1) := by decide +kernel
theorem dX12_feed_2 : decode cX12_feed 2 = .ok (.putfield 273, 3) := by decide +kernel
theorem dX12_feed_5 : decode cX12_feed 5 = .ok (.aload_n 0, 1) := by decide +kernel
theorem dX12_feed_6 : decode cX12_feed 6 = .ok (.getfield 276, 3) := by decide +kernel
theorem dX12_feed_9 : decode cX12_feed 9 = .ok (.bipush 20, 2) := by decide +kernel
theorem dX12_feed_11 : decode cX12_feed 11 = .ok (.iadd, 1) := by decide +kernel
theorem dX12_feed_12 : decode cX12_feed 12 = .ok (.sipush 900, 3) := by decide +kernel
theorem dX12_feed_15 : decode cX12_feed 15 = .ok (.if_icmp .le 6, 3) := by decide +kernel
theorem dX12_feed_21 : decode cX12_feed 21 = .ok (.iconst 0, 1) := by decide +kernel
theorem dX12_feed_22 : decode cX12_feed 22 = .ok (.istore 6, 2) := by decide +kernel
theorem dX12_feed_24 : decode cX12_feed 24 = .ok (.iload 6, 2) := by decide +kernel
theorem dX12_feed_26 : decode cX12_feed 26 = .ok (.bipush 20, 2) := by decide +kernel
theorem dX12_feed_28 : decode cX12_feed 28 = .ok (.if_icmp .ge 86, 3) := by decide +kernel
theorem dX12_feed_31 : decode cX12_feed 31 = .ok (.iload 6, 2) := by decide +kernel
theorem dX12_feed_33 : decode cX12_feed 33 = .ok (.iconst 4, 1) := by decide +kernel
theorem dX12_feed_34 : decode cX12_feed 34 = .ok (.if_icmp .ge 7, 3) := by decide +kernel
theorem dX12_feed_37 : decode cX12_feed 37 = .ok (.iload_n 1, 1) := by decide +kernel
theorem dX12_feed_38 : decode cX12_feed 38 = .ok (.goto 39, 3) := by decide +kernel
theorem dX12_feed_41 : decode cX12_feed 41 = .ok (.iload 6, 2) := by decide +kernel
theorem dX12_feed_43 : decode cX12_feed 43 = .ok (.bipush 8, 2) := by decide +kernel
theorem dX12_feed_45 : decode cX12_feed 45 = .ok (.if_icmp .ge 7, 3) := by decide +kernel
theorem dX12_feed_48 : decode cX12_feed 48 = .ok (.iload_n 2, 1) := by decide +kernel
