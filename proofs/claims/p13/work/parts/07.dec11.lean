section
theorem dX12_catching_38 : decode cX12_catching 38 = .ok (.iconst 1, 1) := by decide +kernel
theorem dX12_catching_39 : decode cX12_catching 39 = .ok (.goto 4, 3) := by decide +kernel
theorem dX12_catching_42 : decode cX12_catching 42 = .ok (.iconst 0, 1) := by decide +kernel
theorem dX12_catching_43 : decode cX12_catching 43 = .ok (.invokevirtual 341, 3) := by decide +kernel
theorem dX12_catching_46 : decode cX12_catching 46 = .ok (.ifCond .eq (-28), 3) := by decide +kernel
theorem dX12_catching_49 : decode cX12_catching 49 = .ok (.aload_n 0, 1) := by decide +kernel
theorem dX12_catching_50 : decode cX12_catching 50 = .ok (.getfield 314, 3) := by decide +kernel
theorem dX12_catching_53 : decode cX12_catching 53 = .ok (.aload_n 0, 1) := by decide +kernel
theorem dX12_catching_54 : decode cX12_catching 54 = .ok (.getfield 13, 3) := by decide +kernel
theorem dX12_catching_57 : decode cX12_catching 57 = .ok (.if_icmp .lt 12, 3) := by decide +kernel
theorem dX12_catching_60 : decode cX12_catching 60 = .ok (.aload_n 0, 1) := by decide +kernel
theorem dX12_catching_61 : decode cX12_catching 61 = .ok (.iconst 3, 1) := by decide +kernel
theorem dX12_catching_62 : decode cX12_catching 62 = .ok (.aload_n 0, 1) := by decide +kernel
theorem dX12_catching_63 : decode cX12_catching 63 = .ok (.getfield 304, 3) := by decide +kernel
theorem dX12_catching_66 : decode cX12_catching 66 = .ok (.invokevirtual 337, 3) := by decide +kernel
theorem dX12_catching_69 : decode cX12_catching 69 = .ok (.aload_n 0, 1) := by decide +kernel
theorem dX12_catching_70 : decode cX12_catching 70 = .ok (.getfield 105, 3) := by decide +kernel
theorem dX12_catching_73 : decode cX12_catching 73 = .ok (.aload_n 0, 1) := by decide +kernel
theorem dX12_catching_74 : decode cX12_catching 74 = .ok (.getfield 180, 3) := by decide +kernel
theorem dX12_catching_77 : decode cX12_catching 77 = .ok (.iload_n 1, 1) := by decide +kernel
theorem dX12_catching_78 : decode cX12_catching 78 = .ok (.iaload, 1) := by decide +kernel
theorem dX12_catching_79 : decode cX12_catching 79 = .ok (.iaload, 1) := by decide +kernel
theorem dX12_catching_80 : decode cX12_catching 80 = .ok (.istore 4, 2) := by decide +kernel
theorem dX12_catching_82 : decode cX12_catching 82 = .ok (.iload 4, 2) := by decide +kernel
theorem dX12_catching_84 : decode cX12_catching 84 = .ok (.ifCond .lt 50, 3) := by decide +kernel
theorem dX12_catching_87 : decode cX12_catching 87 = .ok (.aload_n 0, 1) := by decide +kernel
theorem dX12_catching_88 : decode cX12_catching 88 = .ok (.getfield 291, 3) := by decide +kernel
theorem dX12_catching_91 : decode cX12_catching 91 = .ok (.ifCond .ne 43, 3) := by decide +kernel
theorem dX12_catching_94 : decode cX12_catching 94 = .ok (.aload_n 0, 1) := by decide +kernel
theorem dX12_catching_95 : decode cX12_catching 95 = .ok (.aload_n 0, 1) := by decide +kernel
theorem dX12_catching_96 : decode cX12_catching 96 = .ok (.getfield 314, 3) := by decide +kernel
theorem dX12_catching_99 : decode cX12_catching 99 = .ok (.aload_n 0, 1) := by decide +kernel
theorem dX12_catching_100 : decode cX12_catching 100 = .ok (.getfield 114, 3) := by decide +kernel
theorem dX12_catching_103 : decode cX12_catching 103 = .ok (.iload 4, 2) := by decide +kernel
theorem dX12_catching_105 : decode cX12_catching 105 = .ok (.iaload, 1) := by decide +kernel
theorem dX12_catching_106 : decode cX12_catching 106 = .ok (.invokevirtual 283, 3) := by decide +kernel
theorem dX12_catching_109 : decode cX12_catching 109 = .ok (.ifCond .eq 13, 3) := by decide +kernel
theorem dX12_catching_112 : decode cX12_catching 112 = .ok (.aload_n 0, 1) := by decide +kernel
theorem dX12_catching_113 : decode cX12_catching 113 = .ok (.bipush 6, 2) := by decide +kernel
theorem dX12_catching_115 : decode cX12_catching 115 = .ok (.aload_n 0, 1) := by decide +kernel
theorem dX12_catching_116 : decode cX12_catching 116 = .ok (.getfield 304, 3) := by decide +kernel
theorem dX12_catching_119 : decode cX12_catching 119 = .ok (.invokevirtual 337, 3) := by decide +kernel
theorem dX12_catching_122 : decode cX12_catching 122 = .ok (.aload_n 0, 1) := by decide +kernel
theorem dX12_catching_123 : decode cX12_catching 123 = .ok (.getfield 123, 3) := by decide +kernel
theorem dX12_catching_126 : decode cX12_catching 126 = .ok (.iload 4, 2) := by decide +kernel
theorem dX12_catching_128 : decode cX12_catching 128 = .ok (.iaload, 1) := by decide +kernel
theorem dX12_catching_129 : decode cX12_catching 129 = .ok (.istore 4, 2) := by decide +kernel
theorem dX12_catching_131 : decode cX12_catching 131 = .ok (.goto (-49), 3) := by decide +kernel
theorem dX12_catching_134 : decode cX12_catching 134 = .ok (.aload_n 0, 1) := by decide +kernel
theorem dX12_catching_135 : decode cX12_catching 135 = .ok (.getfield 114, 3) := by decide +kernel
theorem dX12_catching_138 : decode cX12_catching 138 = .ok (.aload_n 0, 1) := by decide +kernel
theorem dX12_catching_139 : decode cX12_catching 139 = .ok (.getfield 561, 3) := by decide +kernel
theorem dX12_catching_142 : decode cX12_catching 142 = .ok (.aload_n 0, 1) := by decide +kernel
theorem dX12_catching_143 : decode cX12_catching 143 = .ok (.getfield 314, 3) := by decide +kernel
theorem dX12_catching_146 : decode cX12_catching 146 = .ok (.iastore, 1) := by decide +kernel
theorem dX12_catching_147 : decode cX12_catching 147 = .ok (.aload_n 0, 1) := by decide +kernel
theorem dX12_catching_148 : decode cX12_catching 148 = .ok (.getfield 123, 3) := by decide +kernel
theorem dX12_catching_151 : decode cX12_catching 151 = .ok (.aload_n 0, 1) := by decide +kernel
theorem dX12_catching_152 : decode cX12_catching 152 = .ok (.getfield 561, 3) := by decide +kernel
theorem dX12_catching_155 : decode cX12_catching 155 = .ok (.iconst (-1), 1) := by decide +kernel
theorem dX12_catching_156 : decode cX12_catching 156 = .ok (.iastore, 1) := by decide +kernel
theorem dX12_catching_157 : decode cX12_catching 157 = .ok (.aload_n 0, 1) := by decide +kernel
theorem dX12_catching_158 : decode cX12_catching 158 = .ok (.getfield 198, 3) := by decide +kernel
theorem dX12_catching_161 : decode cX12_catching 161 = .ok (.iload_n 1, 1) := by decide +kernel
theorem dX12_catching_162 : decode cX12_catching 162 = .ok (.iaload, 1) := by decide +kernel
theorem dX12_catching_163 : decode cX12_catching 163 = .ok (.ifCond .ge 21, 3) := by decide +kernel
theorem dX12_catching_166 : decode cX12_catching 166 = .ok (.aload_n 0, 1) := by decide +kernel
theorem dX12_catching_167 : decode cX12_catching 167 = .ok (.getfield 105, 3) := by decide +kernel
theorem dX12_catching_170 : decode cX12_catching 170 = .ok (.aload_n 0, 1) := by decide +kernel
theorem dX12_catching_171 : decode cX12_catching 171 = .ok (.getfield 180, 3) := by decide +kernel
theorem dX12_catching_174 : decode cX12_catching 174 = .ok (.iload_n 1, 1) := by decide +kernel
theorem dX12_catching_175 : decode cX12_catching 175 = .ok (.iaload, 1) := by decide +kernel
theorem dX12_catching_176 : decode cX12_catching 176 = .ok (.aload_n 0, 1) := by decide +kernel
theorem dX12_catching_177 : decode cX12_catching 177 = .ok (.getfield 561, 3) := by decide +kernel
theorem dX12_catching_180 : decode cX12_catching 180 = .ok (.iastore, 1) := by decide +kernel
theorem dX12_catching_181 : decode cX12_catching 181 = .ok (.goto 18, 3) := by decide +kernel
theorem dX12_catching_184 : decode cX12_catching 184 = .ok (.aload_n 0, 1) := by decide +kernel
theorem dX12_catching_185 : decode cX12_catching 185 = .ok (.getfield 123, 3) := by decide +kernel
theorem dX12_catching_188 : decode cX12_catching 188 = .ok (.aload_n 0, 1) := by decide +kernel
theorem dX12_catching_189 : decode cX12_catching 189 = .ok (.getfield 198, 3) := by decide +kernel
theorem dX12_catching_192 : decode cX12_catching 192 = .ok (.iload_n 1, 1) := by decide +kernel
theorem dX12_catching_193 : decode cX12_catching 193 = .ok (.iaload, 1) := by decide +kernel
theorem dX12_catching_194 : decode cX12_catching 194 = .ok (.aload_n 0, 1) := by decide +kernel
theorem dX12_catching_195 : decode cX12_catching 195 = .ok (.getfield 561, 3) := by decide +kernel
theorem dX12_catching_198 : decode cX12_catching 198 = .ok (.iastore, 1) := by decide +kernel
theorem dX12_catching_199 : decode cX12_catching 199 = .ok (.aload_n 0, 1) := by decide +kernel
theorem dX12_catching_200 : decode cX12_catching 200 = .ok (.getfield 198, 3) := by decide +kernel
theorem dX12_catching_203 : decode cX12_catching 203 = .ok (.iload_n 1, 1) := by decide +kernel
theorem dX12_catching_204 : decode cX12_catching 204 = .ok (.aload_n 0, 1) := by decide +kernel
theorem dX12_catching_205 : decode cX12_catching 205 = .ok (.getfield 561, 3) := by decide +kernel
theorem dX12_catching_208 : decode cX12_catching 208 = .ok (.iastore, 1) := by decide +kernel
theorem dX12_catching_209 : decode cX12_catching 209 = .ok (.aload_n 0, 1) := by decide +kernel
theorem dX12_catching_210 : decode cX12_catching 210 = .ok (.dup, 1) := by decide +kernel
theorem dX12_catching_211 : decode cX12_catching 211 = .ok (.getfield 561, 3) := by decide +kernel
theorem dX12_catching_214 : decode cX12_catching 214 = .ok (.iconst 1, 1) := by decide +kernel
theorem dX12_catching_215 : decode cX12_catching 215 = .ok (.iadd, 1) := by decide +kernel
theorem dX12_catching_216 : decode cX12_catching 216 = .ok (.putfield 561, 3) := by decide +kernel
theorem dX12_catching_219 : decode cX12_catching 219 = .ok (.aload_n 0, 1) := by decide +kernel
theorem dX12_catching_220 : decode cX12_catching 220 = .ok (.invokevirtual 345, 3) := by decide +kernel
theorem dX12_catching_223 : decode cX12_catching 223 = .ok (.aload_n 0, 1) := by decide +kernel
theorem dX12_catching_224 : decode cX12_catching 224 = .ok (.getfield 291, 3) := by decide +kernel
theorem dX12_catching_227 : decode cX12_catching 227 = .ok (.ifCond .ne 16, 3) := by decide +kernel
theorem dX12_catching_230 : decode cX12_catching 230 = .ok (.aload_n 0, 1) := by decide +kernel
theorem dX12_catching_231 : decode cX12_catching 231 = .ok (.getfield 307, 3) := by decide +kernel
theorem dX12_catching_234 : decode cX12_catching 234 = .ok (.bipush 124, 2) := by decide +kernel
theorem dX12_catching_236 : decode cX12_catching 236 = .ok (.if_icmp .ne 7, 3) := by decide +kernel
theorem dX12_catching_239 : decode cX12_catching 239 = .ok (.iconst 1, 1) := by decide +kernel
theorem dX12_catching_240 : decode cX12_catching 240 = .ok (.goto 4, 3) := by decide +kernel
theorem dX12_catching_243 : decode cX12_catching 243 = .ok (.iconst 0, 1) := by decide +kernel
theorem dX12_catching_244 : decode cX12_catching 244 = .ok (.istore_n 3, 1) := by decide +kernel
theorem dX12_catching_245 : decode cX12_catching 245 = .ok (.iload_n 3, 1) := by decide +kernel
theorem dX12_catching_246 : decode cX12_catching 246 = .ok (.ifCond .eq (-228), 3) := by decide +kernel
theorem dX12_catching_249 : decode cX12_catching 249 = .ok (.aload_n 0, 1) := by decide +kernel
theorem dX12_catching_250 : decode cX12_catching 250 = .ok (.invokevirtual 345, 3) := by decide +kernel
theorem dX12_catching_253 : decode cX12_catching 253 = .ok (.goto (-235), 3) := by decide +kernel
theorem dX12_catching_256 : decode cX12_catching 256 = .ok (.aload_n 0, 1) := by decide +kernel
theorem dX12_catching_257 : decode cX12_catching 257 = .ok (.aload_n 0, 1) := by decide +kernel
theorem dX12_catching_258 : decode cX12_catching 258 = .ok (.getfield 307, 3) := by decide +kernel
theorem dX12_catching_261 : decode cX12_catching 261 = .ok (.iconst 2, 1) := by decide +kernel
theorem dX12_catching_262 : decode cX12_catching 262 = .ok (.if_icmp .ne 7, 3) := by decide +kernel
theorem dX12_catching_265 : decode cX12_catching 265 = .ok (.iconst 1, 1) := by decide +kernel
theorem dX12_catching_266 : decode cX12_catching 266 = .ok (.goto 4, 3) := by decide +kernel
theorem dX12_catching_269 : decode cX12_catching 269 = .ok (.iconst 0, 1) := by decide +kernel
theorem dX12_catching_270 : decode cX12_catching 270 = .ok (.invokevirtual 341, 3) := by decide +kernel
theorem dX12_catching_273 : decode cX12_catching 273 = .ok (.ifCond .ne 4, 3) := by decide +kernel
theorem dX12_catching_276 : decode cX12_catching 276 = .ok (.return_, 1) := by decide +kernel
theorem dX12_catching_277 : decode cX12_catching 277 = .ok (.aload_n 0, 1) := by decide +kernel
theorem dX12_catching_278 : decode cX12_catching 278 = .ok (.aload_n 0, 1) := by decide +kernel
theorem dX12_catching_279 : decode cX12_catching 279 = .ok (.getfield 327, 3) := by decide +kernel
theorem dX12_catching_282 : decode cX12_catching 282 = .ok (.invokevirtual 471, 3) := by decide +kernel
theorem dX12_catching_285 : decode cX12_catching 285 = .ok (.ifCond .lt 13, 3) := by decide +kernel
theorem dX12_catching_288 : decode cX12_catching 288 = .ok (.aload_n 0, 1) := by decide +kernel
theorem dX12_catching_289 : decode cX12_catching 289 = .ok (.iconst 4, 1) := by decide +kernel
theorem dX12_catching_290 : decode cX12_catching 290 = .ok (.aload_n 0, 1) := by decide +kernel
theorem dX12_catching_291 : decode cX12_catching 291 = .ok (.getfield 304, 3) := by decide +kernel
theorem dX12_catching_294 : decode cX12_catching 294 = .ok (.invokevirtual 337, 3) := by decide +kernel
theorem dX12_catching_297 : decode cX12_catching 297 = .ok (.return_, 1) := by decide +kernel
theorem dX12_catching_298 : decode cX12_catching 298 = .ok (.aload_n 0, 1) := by decide +kernel
theorem dX12_catching_299 : decode cX12_catching 299 = .ok (.aload_n 0, 1) := by decide +kernel
theorem dX12_catching_300 : decode cX12_catching 300 = .ok (.getfield 327, 3) := by decide +kernel
theorem dX12_catching_303 : decode cX12_catching 303 = .ok (.iconst 1, 1) := by decide +kernel
theorem dX12_catching_304 : decode cX12_catching 304 = .ok (.invokevirtual 506, 3) := by decide +kernel
theorem dX12_catching_307 : decode cX12_catching 307 = .ok (.istore 4, 2) := by decide +kernel
theorem dX12_catching_309 : decode cX12_catching 309 = .ok (.aload_n 0, 1) := by decide +kernel
theorem dX12_catching_310 : decode cX12_catching 310 = .ok (.invokevirtual 345, 3) := by decide +kernel
theorem dX12_catching_313 : decode cX12_catching 313 = .ok (.aload_n 0, 1) := by decide +kernel
theorem dX12_catching_314 : decode cX12_catching 314 = .ok (.bipush 41, 2) := by decide +kernel
theorem dX12_catching_316 : decode cX12_catching 316 = .ok (.invokevirtual 468, 3) := by decide +kernel
theorem dX12_catching_319 : decode cX12_catching 319 = .ok (.pop, 1) := by decide +kernel
theorem dX12_catching_320 : decode cX12_catching 320 = .ok (.iload_n 2, 1) := by decide +kernel
theorem dX12_catching_321 : decode cX12_catching 321 = .ok (.istore 5, 2) := by decide +kernel
theorem dX12_catching_323 : decode cX12_catching 323 = .ok (.iload 5, 2) := by decide +kernel
theorem dX12_catching_325 : decode cX12_catching 325 = .ok (.aload_n 0, 1) := by decide +kernel
theorem dX12_catching_326 : decode cX12_catching 326 = .ok (.getfield 561, 3) := by decide +kernel
theorem dX12_catching_329 : decode cX12_catching 329 = .ok (.if_icmp .ge 29, 3) := by decide +kernel
theorem dX12_catching_332 : decode cX12_catching 332 = .ok (.aload_n 0, 1) := by decide +kernel
theorem dX12_catching_333 : decode cX12_catching 333 = .ok (.getfield 117, 3) := by decide +kernel
theorem dX12_catching_336 : decode cX12_catching 336 = .ok (.iload 5, 2) := by decide +kernel
theorem dX12_catching_338 : decode cX12_catching 338 = .ok (.aload_n 0, 1) := by decide +kernel
theorem dX12_catching_339 : decode cX12_catching 339 = .ok (.getfield 358, 3) := by decide +kernel
theorem dX12_catching_342 : decode cX12_catching 342 = .ok (.iastore, 1) := by decide +kernel
theorem dX12_catching_343 : decode cX12_catching 343 = .ok (.aload_n 0, 1) := by decide +kernel
theorem dX12_catching_344 : decode cX12_catching 344 = .ok (.getfield 120, 3) := by decide +kernel
theorem dX12_catching_347 : decode cX12_catching 347 = .ok (.iload 5, 2) := by decide +kernel
theorem dX12_catching_349 : decode cX12_catching 349 = .ok (.iload 4, 2) := by decide +kernel
theorem dX12_catching_351 : decode cX12_catching 351 = .ok (.iastore, 1) := by decide +kernel
theorem dX12_catching_352 : decode cX12_catching 352 = .ok (.iinc 5 1, 3) := by decide +kernel
theorem dX12_catching_355 : decode cX12_catching 355 = .ok (.goto (-32), 3) := by decide +kernel
theorem dX12_catching_358 : decode cX12_catching 358 = .ok (.aload_n 0, 1) := by decide +kernel
theorem dX12_catching_359 : decode cX12_catching 359 = .ok (.iconst 3, 1) := by decide +kernel
theorem dX12_catching_360 : decode cX12_catching 360 = .ok (.iconst 3, 1) := by decide +kernel
theorem dX12_catching_361 : decode cX12_catching 361 = .ok (.invokevirtual 393, 3) := by decide +kernel
theorem dX12_catching_364 : decode cX12_catching 364 = .ok (.return_, 1) := by decide +kernel
theorem dX12_read_0 : decode cX12_read 0 = .ok (.aload_n 0, 1) := by decide +kernel
theorem dX12_read_1 : decode cX12_read 1 = .ok (.iconst 0, 1) := by decide +kernel
theorem dX12_read_2 : decode cX12_read 2 = .ok (.putfield 273, 3) := by decide +kernel
theorem dX12_read_5 : decode cX12_read 5 = .ok (.aload_n 0, 1) := by decide +kernel
theorem dX12_read_6 : decode cX12_read 6 = .ok (.iconst 0, 1) := by decide +kernel
theorem dX12_read_7 : decode cX12_read 7 = .ok (.putfield 361, 3) := by decide +kernel
theorem dX12_read_10 : decode cX12_read 10 = .ok (.aload_n 0, 1) := by decide +kernel
theorem dX12_read_11 : decode cX12_read 11 = .ok (.iconst 0, 1) := by decide +kernel
theorem dX12_read_12 : decode cX12_read 12 = .ok (.putfield 364, 3) := by decide +kernel
theorem dX12_read_15 : decode cX12_read 15 = .ok (.aload_n 0, 1) := by decide +kernel
theorem dX12_read_16 : decode cX12_read 16 = .ok (.iconst 0, 1) := by decide +kernel
theorem dX12_read_17 : decode cX12_read 17 = .ok (.putfield 367, 3) := by decide +kernel
theorem dX12_read_20 : decode cX12_read 20 = .ok (.aload_n 0, 1) := by decide +kernel
theorem dX12_read_21 : decode cX12_read 21 = .ok (.iconst 0, 1) := by decide +kernel
theorem dX12_read_22 : decode cX12_read 22 = .ok (.putfield 348, 3) := by decide +kernel
theorem dX12_read_25 : decode cX12_read 25 = .ok (.aload_n 0, 1) := by decide +kernel
theorem dX12_read_26 : decode cX12_read 26 = .ok (.iconst 0, 1) := by decide +kernel
theorem dX12_read_27 : decode cX12_read 27 = .ok (.putfield 494, 3) := by decide +kernel
theorem dX12_read_30 : decode cX12_read 30 = .ok (.aload_n 0, 1) := by decide +kernel
theorem dX12_read_31 : decode cX12_read 31 = .ok (.iconst 0, 1) := by decide +kernel
theorem dX12_read_32 : decode cX12_read 32 = .ok (.putfield 500, 3) := by decide +kernel
theorem dX12_read_35 : decode cX12_read 35 = .ok (.aload_n 0, 1) := by decide +kernel
theorem dX12_read_36 : decode cX12_read 36 = .ok (.iconst 0, 1) := by decide +kernel
theorem dX12_read_37 : decode cX12_read 37 = .ok (.putfield 527, 3) := by decide +kernel
theorem dX12_read_40 : decode cX12_read 40 = .ok (.aload_n 0, 1) := by decide +kernel
theorem dX12_read_41 : decode cX12_read 41 = .ok (.iconst 0, 1) := by decide +kernel
theorem dX12_read_42 : decode cX12_read 42 = .ok (.putfield 358, 3) := by decide +kernel
theorem dX12_read_45 : decode cX12_read 45 = .ok (.aload_n 0, 1) := by decide +kernel
theorem dX12_read_46 : decode cX12_read 46 = .ok (.iconst 0, 1) := by decide +kernel
theorem dX12_read_47 : decode cX12_read 47 = .ok (.putfield 478, 3) := by decide +kernel
theorem dX12_read_50 : decode cX12_read 50 = .ok (.aload_n 0, 1) := by decide +kernel
theorem dX12_read_51 : decode cX12_read 51 = .ok (.iconst 0, 1) := by decide +kernel
theorem dX12_read_52 : decode cX12_read 52 = .ok (.putfield 549, 3) := by decide +kernel
theorem dX12_read_55 : decode cX12_read 55 = .ok (.aload_n 0, 1) := by decide +kernel
theorem dX12_read_56 : decode cX12_read 56 = .ok (.iconst 0, 1) := by decide +kernel
theorem dX12_read_57 : decode cX12_read 57 = .ok (.putfield 561, 3) := by decide +kernel
theorem dX12_read_60 : decode cX12_read 60 = .ok (.aload_n 0, 1) := by decide +kernel
theorem dX12_read_61 : decode cX12_read 61 = .ok (.iconst 0, 1) := by decide +kernel
theorem dX12_read_62 : decode cX12_read 62 = .ok (.putfield 377, 3) := by decide +kernel
theorem dX12_read_65 : decode cX12_read 65 = .ok (.aload_n 0, 1) := by decide +kernel
theorem dX12_read_66 : decode cX12_read 66 = .ok (.iconst 0, 1) := by decide +kernel
theorem dX12_read_67 : decode cX12_read 67 = .ok (.putfield 384, 3) := by decide +kernel
theorem dX12_read_70 : decode cX12_read 70 = .ok (.aload_n 0, 1) := by decide +kernel
theorem dX12_read_71 : decode cX12_read 71 = .ok (.iconst 0, 1) := by decide +kernel
theorem dX12_read_72 : decode cX12_read 72 = .ok (.putfield 370, 3) := by decide +kernel
theorem dX12_read_75 : decode cX12_read 75 = .ok (.aload_n 0, 1) := by decide +kernel
theorem dX12_read_76 : decode cX12_read 76 = .ok (.iconst 0, 1) := by decide +kernel
theorem dX12_read_77 : decode cX12_read 77 = .ok (.putfield 297, 3) := by decide +kernel
theorem dX12_read_80 : decode cX12_read 80 = .ok (.aload_n 0, 1) := by decide +kernel
theorem dX12_read_81 : decode cX12_read 81 = .ok (.iconst 0, 1) := by decide +kernel
theorem dX12_read_82 : decode cX12_read 82 = .ok (.putfield 291, 3) := by decide +kernel
theorem dX12_read_85 : decode cX12_read 85 = .ok (.aload_n 0, 1) := by decide +kernel
theorem dX12_read_86 : decode cX12_read 86 = .ok (.iconst (-1), 1) := by decide +kernel
theorem dX12_read_87 : decode cX12_read 87 = .ok (.putfield 334, 3) := by decide +kernel
theorem dX12_read_90 : decode cX12_read 90 = .ok (.aload_n 0, 1) := by decide +kernel
theorem dX12_read_91 : decode cX12_read 91 = .ok (.iconst 0, 1) := by decide +kernel
theorem dX12_read_92 : decode cX12_read 92 = .ok (.putfield 294, 3) := by decide +kernel
theorem dX12_read_95 : decode cX12_read 95 = .ok (.aload_n 0, 1) := by decide +kernel
theorem dX12_read_96 : decode cX12_read 96 = .ok (.ldc2_w 564, 3) := by decide +kernel
theorem dX12_read_99 : decode cX12_read 99 = .ok (.iconst 0, 1) := by decide +kernel
theorem dX12_read_100 : decode cX12_read 100 = .ok (.invokevirtual 506, 3) := by decide +kernel
theorem dX12_read_103 : decode cX12_read 103 = .ok (.pop, 1) := by decide +kernel
theorem dX12_read_104 : decode cX12_read 104 = .ok (.aload_n 0, 1) := by decide +kernel
theorem dX12_read_105 : decode cX12_read 105 = .ok (.ldc2_w 566, 3) := by decide +kernel
theorem dX12_read_108 : decode cX12_read 108 = .ok (.iconst 0, 1) := by decide +kernel
theorem dX12_read_109 : decode cX12_read 109 = .ok (.invokevirtual 506, 3) := by decide +kernel
theorem dX12_read_112 : decode cX12_read 112 = .ok (.pop, 1) := by decide +kernel
theorem dX12_read_113 : decode cX12_read 113 = .ok (.aload_n 0, 1) := by decide +kernel
theorem dX12_read_114 : decode cX12_read 114 = .ok (.invokevirtual 345, 3) := by decide +kernel
theorem dX12_read_117 : decode cX12_read 117 = .ok (.aload_n 0, 1) := by decide +kernel
theorem dX12_read_118 : decode cX12_read 118 = .ok (.invokevirtual 568, 3) := by decide +kernel
theorem dX12_read_121 : decode cX12_read 121 = .ok (.aload_n 0, 1) := by decide +kernel
theorem dX12_read_122 : decode cX12_read 122 = .ok (.aload_n 0, 1) := by decide +kernel
theorem dX12_read_123 : decode cX12_read 123 = .ok (.getfield 307, 3) := by decide +kernel
theorem dX12_read_126 : decode cX12_read 126 = .ok (.ifCond .ne 7, 3) := by decide +kernel
theorem dX12_read_129 : decode cX12_read 129 = .ok (.iconst 1, 1) := by decide +kernel
theorem dX12_read_130 : decode cX12_read 130 = .ok (.goto 4, 3) := by decide +kernel
theorem dX12_read_133 : decode cX12_read 133 = .ok (.iconst 0, 1) := by decide +kernel
theorem dX12_read_134 : decode cX12_read 134 = .ok (.invokevirtual 341, 3) := by decide +kernel
theorem dX12_read_137 : decode cX12_read 137 = .ok (.pop, 1) := by decide +kernel
theorem dX12_read_138 : decode cX12_read 138 = .ok (.aload_n 0, 1) := by decide +kernel
theorem dX12_read_139 : decode cX12_read 139 = .ok (.iconst 0, 1) := by decide +kernel
theorem dX12_read_140 : decode cX12_read 140 = .ok (.putfield 276, 3) := by decide +kernel
theorem dX12_read_143 : decode cX12_read 143 = .ok (.aload_n 0, 1) := by decide +kernel
theorem dX12_read_144 : decode cX12_read 144 = .ok (.getfield 291, 3) := by decide +kernel
theorem dX12_read_147 : decode cX12_read 147 = .ok (.ifCond .ne 20, 3) := by decide +kernel
theorem dX12_read_150 : decode cX12_read 150 = .ok (.aload_n 0, 1) := by decide +kernel
theorem dX12_read_151 : decode cX12_read 151 = .ok (.getfield 334, 3) := by decide +kernel
theorem dX12_read_154 : decode cX12_read 154 = .ok (.ifCond .lt 13, 3) := by decide +kernel
theorem dX12_read_157 : decode cX12_read 157 = .ok (.aload_n 0, 1) := by decide +kernel
theorem dX12_read_158 : decode cX12_read 158 = .ok (.bipush 7, 2) := by decide +kernel
theorem dX12_read_160 : decode cX12_read 160 = .ok (.aload_n 0, 1) := by decide +kernel
theorem dX12_read_161 : decode cX12_read 161 = .ok (.getfield 334, 3) := by decide +kernel
theorem dX12_read_164 : decode cX12_read 164 = .ok (.invokevirtual 337, 3) := by decide +kernel
theorem dX12_read_167 : decode cX12_read 167 = .ok (.aload_n 0, 1) := by decide +kernel
theorem dX12_read_168 : decode cX12_read 168 = .ok (.aload_n 0, 1) := by decide +kernel
theorem dX12_read_169 : decode cX12_read 169 = .ok (.getfield 396, 3) := by decide +kernel
theorem dX12_read_172 : decode cX12_read 172 = .ok (.putfield 571, 3) := by decide +kernel
theorem dX12_read_175 : decode cX12_read 175 = .ok (.aload_n 0, 1) := by decide +kernel
theorem dX12_read_176 : decode cX12_read 176 = .ok (.aload_n 0, 1) := by decide +kernel
theorem dX12_read_177 : decode cX12_read 177 = .ok (.getfield 291, 3) := by decide +kernel
theorem dX12_read_180 : decode cX12_read 180 = .ok (.putfield 574, 3) := by decide +kernel
theorem dX12_read_183 : decode cX12_read 183 = .ok (.aload_n 0, 1) := by decide +kernel
theorem dX12_read_184 : decode cX12_read 184 = .ok (.aload_n 0, 1) := by decide +kernel
theorem dX12_read_185 : decode cX12_read 185 = .ok (.getfield 291, 3) := by decide +kernel
theorem dX12_read_188 : decode cX12_read 188 = .ok (.ifCond .ne 7, 3) := by decide +kernel
theorem dX12_read_191 : decode cX12_read 191 = .ok (.iconst 1, 1) := by decide +kernel
theorem dX12_read_192 : decode cX12_read 192 = .ok (.goto 4, 3) := by decide +kernel
theorem dX12_read_195 : decode cX12_read 195 = .ok (.iconst 0, 1) := by decide +kernel
theorem dX12_read_196 : decode cX12_read 196 = .ok (.putfield 577, 3) := by decide +kernel
theorem dX12_read_199 : decode cX12_read 199 = .ok (.aload_n 0, 1) := by decide +kernel
theorem dX12_read_200 : decode cX12_read 200 = .ok (.iconst 0, 1) := by decide +kernel
theorem dX12_read_201 : decode cX12_read 201 = .ok (.putfield 580, 3) := by decide +kernel
theorem dX12_read_204 : decode cX12_read 204 = .ok (.aload_n 0, 1) := by decide +kernel
theorem dX12_read_205 : decode cX12_read 205 = .ok (.iconst 0, 1) := by decide +kernel
theorem dX12_read_206 : decode cX12_read 206 = .ok (.putfield 583, 3) := by decide +kernel
theorem dX12_read_209 : decode cX12_read 209 = .ok (.aload_n 0, 1) := by decide +kernel
theorem dX12_read_210 : decode cX12_read 210 = .ok (.getfield 291, 3) := by decide +kernel
theorem dX12_read_213 : decode cX12_read 213 = .ok (.ifCond .eq 13, 3) := by decide +kernel
theorem dX12_read_216 : decode cX12_read 216 = .ok (.bipush (-10), 2) := by decide +kernel
theorem dX12_read_218 : decode cX12_read 218 = .ok (.aload_n 0, 1) := by decide +kernel
theorem dX12_read_219 : decode cX12_read 219 = .ok (.getfield 331, 3) := by decide +kernel
theorem dX12_read_222 : decode cX12_read 222 = .ok (.isub, 1) := by decide +kernel
theorem dX12_read_223 : decode cX12_read 223 = .ok (.goto 7, 3) := by decide +kernel
theorem dX12_read_226 : decode cX12_read 226 = .ok (.aload_n 0, 1) := by decide +kernel
theorem dX12_read_227 : decode cX12_read 227 = .ok (.getfield 494, 3) := by decide +kernel
theorem dX12_read_230 : decode cX12_read 230 = .ok (.ireturn, 1) := by decide +kernel
theorem dX12_fault_0 : decode cX12_fault 0 = .ok (.aload_n 0, 1) := by decide +kernel
theorem dX12_fault_1 : decode cX12_fault 1 = .ok (.iconst 0, 1) := by decide +kernel
theorem dX12_fault_2 : decode cX12_fault 2 = .ok (.putfield 273, 3) := by decide +kernel
theorem dX12_fault_5 : decode cX12_fault 5 = .ok (.aload_n 0, 1) := by decide +kernel
theorem dX12_fault_6 : decode cX12_fault 6 = .ok (.getfield 574, 3) := by decide +kernel
theorem dX12_fault_9 : decode cX12_fault 9 = .ok (.ireturn, 1) := by decide +kernel
theorem dX12_program_0 : decode cX12_program 0 = .ok (.aload_n 0, 1) := by decide +kernel
theorem dX12_program_1 : decode cX12_program 1 = .ok (.iconst 0, 1) := by decide +kernel
theorem dX12_program_2 : decode cX12_program 2 = .ok (.putfield 273, 3) := by decide +kernel
theorem dX12_program_5 : decode cX12_program 5 = .ok (.iload_n 1, 1) := by decide +kernel
theorem dX12_program_6 : decode cX12_program 6 = .ok (.iconst 0, 1) := by decide +kernel
theorem dX12_program_7 : decode cX12_program 7 = .ok (.iconst 3, 1) := by decide +kernel
theorem dX12_program_8 : decode cX12_program 8 = .ok (.invokestatic 279, 3) := by decide +kernel
theorem dX12_program_11 : decode cX12_program 11 = .ok (.ifCond .ne 5, 3) := by decide +kernel
theorem dX12_program_14 : decode cX12_program 14 = .ok (.iconst (-1), 1) := by decide +kernel
theorem dX12_program_15 : decode cX12_program 15 = .ok (.ireturn, 1) := by decide +kernel
theorem dX12_program_16 : decode cX12_program 16 = .ok (.aload_n 0, 1) := by decide +kernel
theorem dX12_program_17 : decode cX12_program 17 = .ok (.getfield 577, 3) := by decide +kernel
theorem dX12_program_20 : decode cX12_program 20 = .ok (.ifCond .ne 6, 3) := by decide +kernel
theorem dX12_program_23 : decode cX12_program 23 = .ok (.bipush (-3), 2) := by decide +kernel
theorem dX12_program_25 : decode cX12_program 25 = .ok (.ireturn, 1) := by decide +kernel
theorem dX12_program_26 : decode cX12_program 26 = .ok (.iload_n 1, 1) := by decide +kernel
theorem dX12_program_27 : decode cX12_program 27 = .ok (.ifCond .ne 10, 3) := by decide +kernel
theorem dX12_program_30 : decode cX12_program 30 = .ok (.aload_n 0, 1) := by decide +kernel
theorem dX12_program_31 : decode cX12_program 31 = .ok (.getfield 494, 3) := by decide +kernel
theorem dX12_program_34 : decode cX12_program 34 = .ok (.goto 39, 3) := by decide +kernel
theorem dX12_program_37 : decode cX12_program 37 = .ok (.iload_n 1, 1) := by decide +kernel
theorem dX12_program_38 : decode cX12_program 38 = .ok (.iconst 1, 1) := by decide +kernel
theorem dX12_program_39 : decode cX12_program 39 = .ok (.if_icmp .ne 18, 3) := by decide +kernel
theorem dX12_program_42 : decode cX12_program 42 = .ok (.aload_n 0, 1) := by decide +kernel
theorem dX12_program_43 : decode cX12_program 43 = .ok (.getfield 571, 3) := by decide +kernel
theorem dX12_program_46 : decode cX12_program 46 = .ok (.ifCond .eq 7, 3) := by decide +kernel
theorem dX12_program_49 : decode cX12_program 49 = .ok (.iconst 1, 1) := by decide +kernel
theorem dX12_program_50 : decode cX12_program 50 = .ok (.goto 23, 3) := by decide +kernel
theorem dX12_program_53 : decode cX12_program 53 = .ok (.iconst 0, 1) := by decide +kernel
theorem dX12_program_54 : decode cX12_program 54 = .ok (.goto 19, 3) := by decide +kernel
theorem dX12_program_57 : decode cX12_program 57 = .ok (.iload_n 1, 1) := by decide +kernel
theorem dX12_program_58 : decode cX12_program 58 = .ok (.iconst 2, 1) := by decide +kernel
theorem dX12_program_59 : decode cX12_program 59 = .ok (.if_icmp .ne 10, 3) := by decide +kernel
theorem dX12_program_62 : decode cX12_program 62 = .ok (.aload_n 0, 1) := by decide +kernel
theorem dX12_program_63 : decode cX12_program 63 = .ok (.getfield 500, 3) := by decide +kernel
theorem dX12_program_66 : decode cX12_program 66 = .ok (.goto 7, 3) := by decide +kernel
theorem dX12_program_69 : decode cX12_program 69 = .ok (.aload_n 0, 1) := by decide +kernel
theorem dX12_program_70 : decode cX12_program 70 = .ok (.getfield 527, 3) := by decide +kernel
theorem dX12_program_73 : decode cX12_program 73 = .ok (.ireturn, 1) := by decide +kernel
theorem dX12_row_0 : decode cX12_row 0 = .ok (.aload_n 0, 1) := by decide +kernel
theorem dX12_row_1 : decode cX12_row 1 = .ok (.getfield 583, 3) := by decide +kernel
theorem dX12_row_4 : decode cX12_row 4 = .ok (.sipush 200, 3) := by decide +kernel
theorem dX12_row_7 : decode cX12_row 7 = .ok (.if_icmp .ge 33, 3) := by decide +kernel
theorem dX12_row_10 : decode cX12_row 10 = .ok (.aload_n 0, 1) := by decide +kernel
theorem dX12_row_11 : decode cX12_row 11 = .ok (.getfield 207, 3) := by decide +kernel
theorem dX12_row_14 : decode cX12_row 14 = .ok (.aload_n 0, 1) := by decide +kernel
theorem dX12_row_15 : decode cX12_row 15 = .ok (.getfield 583, 3) := by decide +kernel
theorem dX12_row_18 : decode cX12_row 18 = .ok (.iload_n 1, 1) := by decide +kernel
theorem dX12_row_19 : decode cX12_row 19 = .ok (.iastore, 1) := by decide +kernel
theorem dX12_row_20 : decode cX12_row 20 = .ok (.aload_n 0, 1) := by decide +kernel
theorem dX12_row_21 : decode cX12_row 21 = .ok (.getfield 210, 3) := by decide +kernel
theorem dX12_row_24 : decode cX12_row 24 = .ok (.aload_n 0, 1) := by decide +kernel
theorem dX12_row_25 : decode cX12_row 25 = .ok (.getfield 583, 3) := by decide +kernel
theorem dX12_row_28 : decode cX12_row 28 = .ok (.iload_n 2, 1) := by decide +kernel
theorem dX12_row_29 : decode cX12_row 29 = .ok (.iastore, 1) := by decide +kernel
theorem dX12_row_30 : decode cX12_row 30 = .ok (.aload_n 0, 1) := by decide +kernel
theorem dX12_row_31 : decode cX12_row 31 = .ok (.dup, 1) := by decide +kernel
theorem dX12_row_32 : decode cX12_row 32 = .ok (.getfield 583, 3) := by decide +kernel
theorem dX12_row_35 : decode cX12_row 35 = .ok (.iconst 1, 1) := by decide +kernel
theorem dX12_row_36 : decode cX12_row 36 = .ok (.iadd, 1) := by decide +kernel
theorem dX12_row_37 : decode cX12_row 37 = .ok (.putfield 583, 3) := by decide +kernel
theorem dX12_row_40 : decode cX12_row 40 = .ok (.return_, 1) := by decide +kernel
theorem dX12_record_0 : decode cX12_record 0 = .ok (.aload_n 0, 1) := by decide +kernel
theorem dX12_record_1 : decode cX12_record 1 = .ok (.getfield 586, 3) := by decide +kernel
theorem dX12_record_4 : decode cX12_record 4 = .ok (.istore 5, 2) := by decide +kernel
theorem dX12_record_6 : decode cX12_record 6 = .ok (.aload_n 0, 1) := by decide +kernel
theorem dX12_record_7 : decode cX12_record 7 = .ok (.getfield 243, 3) := by decide +kernel
theorem dX12_record_10 : decode cX12_record 10 = .ok (.iload 5, 2) := by decide +kernel
theorem dX12_record_12 : decode cX12_record 12 = .ok (.iload_n 1, 1) := by decide +kernel
theorem dX12_record_13 : decode cX12_record 13 = .ok (.iastore, 1) := by decide +kernel
theorem dX12_record_14 : decode cX12_record 14 = .ok (.aload_n 0, 1) := by decide +kernel
theorem dX12_record_15 : decode cX12_record 15 = .ok (.getfield 246, 3) := by decide +kernel
theorem dX12_record_18 : decode cX12_record 18 = .ok (.iload 5, 2) := by decide +kernel
theorem dX12_record_20 : decode cX12_record 20 = .ok (.iload_n 2, 1) := by decide +kernel
theorem dX12_record_21 : decode cX12_record 21 = .ok (.iastore, 1) := by decide +kernel
theorem dX12_record_22 : decode cX12_record 22 = .ok (.aload_n 0, 1) := by decide +kernel
theorem dX12_record_23 : decode cX12_record 23 = .ok (.getfield 249, 3) := by decide +kernel
theorem dX12_record_26 : decode cX12_record 26 = .ok (.iload 5, 2) := by decide +kernel
theorem dX12_record_28 : decode cX12_record 28 = .ok (.iload_n 3, 1) := by decide +kernel
theorem dX12_record_29 : decode cX12_record 29 = .ok (.iastore, 1) := by decide +kernel
theorem dX12_record_30 : decode cX12_record 30 = .ok (.aload_n 0, 1) := by decide +kernel
theorem dX12_record_31 : decode cX12_record 31 = .ok (.getfield 252, 3) := by decide +kernel
theorem dX12_record_34 : decode cX12_record 34 = .ok (.iload 5, 2) := by decide +kernel
theorem dX12_record_36 : decode cX12_record 36 = .ok (.iload 4, 2) := by decide +kernel
theorem dX12_record_38 : decode cX12_record 38 = .ok (.iastore, 1) := by decide +kernel
theorem dX12_record_39 : decode cX12_record 39 = .ok (.aload_n 0, 1) := by decide +kernel
theorem dX12_record_40 : decode cX12_record 40 = .ok (.getfield 255, 3) := by decide +kernel
theorem dX12_record_43 : decode cX12_record 43 = .ok (.iload 5, 2) := by decide +kernel
theorem dX12_record_45 : decode cX12_record 45 = .ok (.aload_n 0, 1) := by decide +kernel
theorem dX12_record_46 : decode cX12_record 46 = .ok (.getfield 589, 3) := by decide +kernel
theorem dX12_record_49 : decode cX12_record 49 = .ok (.iastore, 1) := by decide +kernel
theorem dX12_record_50 : decode cX12_record 50 = .ok (.aload_n 0, 1) := by decide +kernel
theorem dX12_record_51 : decode cX12_record 51 = .ok (.dup, 1) := by decide +kernel
theorem dX12_record_52 : decode cX12_record 52 = .ok (.getfield 586, 3) := by decide +kernel
theorem dX12_record_55 : decode cX12_record 55 = .ok (.iconst 1, 1) := by decide +kernel
theorem dX12_record_56 : decode cX12_record 56 = .ok (.iadd, 1) := by decide +kernel
theorem dX12_record_57 : decode cX12_record 57 = .ok (.putfield 586, 3) := by decide +kernel
theorem dX12_record_60 : decode cX12_record 60 = .ok (.iload 5, 2) := by decide +kernel
theorem dX12_record_62 : decode cX12_record 62 = .ok (.ireturn, 1) := by decide +kernel
theorem dX12_put_0 : decode cX12_put 0 = .ok (.aload_n 0, 1) := by decide +kernel
theorem dX12_put_1 : decode cX12_put 1 = .ok (.getfield 234, 3) := by decide +kernel
theorem dX12_put_4 : decode cX12_put 4 = .ok (.aload_n 0, 1) := by decide +kernel
theorem dX12_put_5 : decode cX12_put 5 = .ok (.getfield 589, 3) := by decide +kernel
theorem dX12_put_8 : decode cX12_put 8 = .ok (.iload_n 1, 1) := by decide +kernel
theorem dX12_put_9 : decode cX12_put 9 = .ok (.iastore, 1) := by decide +kernel
theorem dX12_put_10 : decode cX12_put 10 = .ok (.aload_n 0, 1) := by decide +kernel
theorem dX12_put_11 : decode cX12_put 11 = .ok (.dup, 1) := by decide +kernel
theorem dX12_put_12 : decode cX12_put 12 = .ok (.getfield 589, 3) := by decide +kernel
theorem dX12_put_15 : decode cX12_put 15 = .ok (.iconst 1, 1) := by decide +kernel
theorem dX12_put_16 : decode cX12_put 16 = .ok (.iadd, 1) := by decide +kernel
theorem dX12_put_17 : decode cX12_put 17 = .ok (.putfield 589, 3) := by decide +kernel
theorem dX12_put_20 : decode cX12_put 20 = .ok (.return_, 1) := by decide +kernel
theorem dX12_take_0 : decode cX12_take 0 = .ok (.aload_n 0, 1) := by decide +kernel
theorem dX12_take_1 : decode cX12_take 1 = .ok (.dup, 1) := by decide +kernel
theorem dX12_take_2 : decode cX12_take 2 = .ok (.getfield 589, 3) := by decide +kernel
theorem dX12_take_5 : decode cX12_take 5 = .ok (.iconst 1, 1) := by decide +kernel
theorem dX12_take_6 : decode cX12_take 6 = .ok (.isub, 1) := by decide +kernel
theorem dX12_take_7 : decode cX12_take 7 = .ok (.putfield 589, 3) := by decide +kernel
theorem dX12_take_10 : decode cX12_take 10 = .ok (.aload_n 0, 1) := by decide +kernel
theorem dX12_take_11 : decode cX12_take 11 = .ok (.getfield 234, 3) := by decide +kernel
theorem dX12_take_14 : decode cX12_take 14 = .ok (.aload_n 0, 1) := by decide +kernel
theorem dX12_take_15 : decode cX12_take 15 = .ok (.getfield 589, 3) := by decide +kernel
theorem dX12_take_18 : decode cX12_take 18 = .ok (.iaload, 1) := by decide +kernel
theorem dX12_take_19 : decode cX12_take 19 = .ok (.ireturn, 1) := by decide +kernel
theorem dX12_raise_0 : decode cX12_raise 0 = .ok (.aload_n 0, 1) := by decide +kernel
theorem dX12_raise_1 : decode cX12_raise 1 = .ok (.aload_n 0, 1) := by decide +kernel
theorem dX12_raise_2 : decode cX12_raise 2 = .ok (.getfield 592, 3) := by decide +kernel
theorem dX12_raise_5 : decode cX12_raise 5 = .ok (.sipush 3200, 3) := by decide +kernel
theorem dX12_raise_8 : decode cX12_raise 8 = .ok (.if_icmp .ge 10, 3) := by decide +kernel
theorem dX12_raise_11 : decode cX12_raise 11 = .ok (.aload_n 0, 1) := by decide +kernel
theorem dX12_raise_12 : decode cX12_raise 12 = .ok (.getfield 592, 3) := by decide +kernel
theorem dX12_raise_15 : decode cX12_raise 15 = .ok (.goto 6, 3) := by decide +kernel
theorem dX12_raise_18 : decode cX12_raise 18 = .ok (.sipush 3199, 3) := by decide +kernel
theorem dX12_raise_21 : decode cX12_raise 21 = .ok (.putfield 595, 3) := by decide +kernel
theorem dX12_raise_24 : decode cX12_raise 24 = .ok (.aload_n 0, 1) := by decide +kernel
theorem dX12_raise_25 : decode cX12_raise 25 = .ok (.aload_n 0, 1) := by decide +kernel
theorem dX12_raise_26 : decode cX12_raise 26 = .ok (.getfield 595, 3) := by decide +kernel
theorem dX12_raise_29 : decode cX12_raise 29 = .ok (.iconst 1, 1) := by decide +kernel
theorem dX12_raise_30 : decode cX12_raise 30 = .ok (.iadd, 1) := by decide +kernel
theorem dX12_raise_31 : decode cX12_raise 31 = .ok (.putfield 592, 3) := by decide +kernel
theorem dX12_raise_34 : decode cX12_raise 34 = .ok (.aload_n 0, 1) := by decide +kernel
theorem dX12_raise_35 : decode cX12_raise 35 = .ok (.getfield 216, 3) := by decide +kernel
theorem dX12_raise_38 : decode cX12_raise 38 = .ok (.aload_n 0, 1) := by decide +kernel
theorem dX12_raise_39 : decode cX12_raise 39 = .ok (.getfield 595, 3) := by decide +kernel
end
section
theorem dX12_raise_42 : decode cX12_raise 42 = .ok (.iload_n 1, 1) := by decide +kernel
theorem dX12_raise_43 : decode cX12_raise 43 = .ok (.iastore, 1) := by decide +kernel
theorem dX12_raise_44 : decode cX12_raise 44 = .ok (.aload_n 0, 1) := by decide +kernel
theorem dX12_raise_45 : decode cX12_raise 45 = .ok (.getfield 219, 3) := by decide +kernel
theorem dX12_raise_48 : decode cX12_raise 48 = .ok (.aload_n 0, 1) := by decide +kernel
theorem dX12_raise_49 : decode cX12_raise 49 = .ok (.getfield 595, 3) := by decide +kernel
theorem dX12_raise_52 : decode cX12_raise 52 = .ok (.iload_n 2, 1) := by decide +kernel
theorem dX12_raise_53 : decode cX12_raise 53 = .ok (.iastore, 1) := by decide +kernel
theorem dX12_raise_54 : decode cX12_raise 54 = .ok (.aload_n 0, 1) := by decide +kernel
theorem dX12_raise_55 : decode cX12_raise 55 = .ok (.getfield 222, 3) := by decide +kernel
theorem dX12_raise_58 : decode cX12_raise 58 = .ok (.aload_n 0, 1) := by decide +kernel
theorem dX12_raise_59 : decode cX12_raise 59 = .ok (.getfield 595, 3) := by decide +kernel
theorem dX12_raise_62 : decode cX12_raise 62 = .ok (.iconst 0, 1) := by decide +kernel
theorem dX12_raise_63 : decode cX12_raise 63 = .ok (.iastore, 1) := by decide +kernel
theorem dX12_raise_64 : decode cX12_raise 64 = .ok (.aload_n 0, 1) := by decide +kernel
theorem dX12_raise_65 : decode cX12_raise 65 = .ok (.iconst 3, 1) := by decide +kernel
theorem dX12_raise_66 : decode cX12_raise 66 = .ok (.putfield 597, 3) := by decide +kernel
theorem dX12_raise_69 : decode cX12_raise 69 = .ok (.return_, 1) := by decide +kernel
theorem dX12_closeAll_0 : decode cX12_closeAll 0 = .ok (.aload_n 0, 1) := by decide +kernel
theorem dX12_closeAll_1 : decode cX12_closeAll 1 = .ok (.getfield 600, 3) := by decide +kernel
theorem dX12_closeAll_4 : decode cX12_closeAll 4 = .ok (.aload_n 0, 1) := by decide +kernel
theorem dX12_closeAll_5 : decode cX12_closeAll 5 = .ok (.getfield 252, 3) := by decide +kernel
theorem dX12_closeAll_8 : decode cX12_closeAll 8 = .ok (.iload_n 1, 1) := by decide +kernel
theorem dX12_closeAll_9 : decode cX12_closeAll 9 = .ok (.iaload, 1) := by decide +kernel
theorem dX12_closeAll_10 : decode cX12_closeAll 10 = .ok (.if_icmp .le 128, 3) := by decide +kernel
theorem dX12_closeAll_13 : decode cX12_closeAll 13 = .ok (.aload_n 0, 1) := by decide +kernel
theorem dX12_closeAll_14 : decode cX12_closeAll 14 = .ok (.dup, 1) := by decide +kernel
theorem dX12_closeAll_15 : decode cX12_closeAll 15 = .ok (.getfield 600, 3) := by decide +kernel
theorem dX12_closeAll_18 : decode cX12_closeAll 18 = .ok (.iconst 1, 1) := by decide +kernel
theorem dX12_closeAll_19 : decode cX12_closeAll 19 = .ok (.isub, 1) := by decide +kernel
theorem dX12_closeAll_20 : decode cX12_closeAll 20 = .ok (.putfield 600, 3) := by decide +kernel
theorem dX12_closeAll_23 : decode cX12_closeAll 23 = .ok (.aload_n 0, 1) := by decide +kernel
theorem dX12_closeAll_24 : decode cX12_closeAll 24 = .ok (.getfield 237, 3) := by decide +kernel
theorem dX12_closeAll_27 : decode cX12_closeAll 27 = .ok (.aload_n 0, 1) := by decide +kernel
theorem dX12_closeAll_28 : decode cX12_closeAll 28 = .ok (.getfield 600, 3) := by decide +kernel
theorem dX12_closeAll_31 : decode cX12_closeAll 31 = .ok (.iaload, 1) := by decide +kernel
theorem dX12_closeAll_32 : decode cX12_closeAll 32 = .ok (.istore_n 2, 1) := by decide +kernel
theorem dX12_closeAll_33 : decode cX12_closeAll 33 = .ok (.aload_n 0, 1) := by decide +kernel
theorem dX12_closeAll_34 : decode cX12_closeAll 34 = .ok (.iconst 2, 1) := by decide +kernel
theorem dX12_closeAll_35 : decode cX12_closeAll 35 = .ok (.iload_n 2, 1) := by decide +kernel
theorem dX12_closeAll_36 : decode cX12_closeAll 36 = .ok (.invokevirtual 603, 3) := by decide +kernel
theorem dX12_closeAll_39 : decode cX12_closeAll 39 = .ok (.aload_n 0, 1) := by decide +kernel
theorem dX12_closeAll_40 : decode cX12_closeAll 40 = .ok (.getfield 27, 3) := by decide +kernel
theorem dX12_closeAll_43 : decode cX12_closeAll 43 = .ok (.iload_n 2, 1) := by decide +kernel
theorem dX12_closeAll_44 : decode cX12_closeAll 44 = .ok (.iaload, 1) := by decide +kernel
theorem dX12_closeAll_45 : decode cX12_closeAll 45 = .ok (.iconst 1, 1) := by decide +kernel
theorem dX12_closeAll_46 : decode cX12_closeAll 46 = .ok (.isub, 1) := by decide +kernel
theorem dX12_closeAll_47 : decode cX12_closeAll 47 = .ok (.istore_n 3, 1) := by decide +kernel
theorem dX12_closeAll_48 : decode cX12_closeAll 48 = .ok (.iload_n 3, 1) := by decide +kernel
theorem dX12_closeAll_49 : decode cX12_closeAll 49 = .ok (.ifCond .lt 20, 3) := by decide +kernel
theorem dX12_closeAll_52 : decode cX12_closeAll 52 = .ok (.aload_n 0, 1) := by decide +kernel
theorem dX12_closeAll_53 : decode cX12_closeAll 53 = .ok (.getfield 597, 3) := by decide +kernel
theorem dX12_closeAll_56 : decode cX12_closeAll 56 = .ok (.iconst 3, 1) := by decide +kernel
theorem dX12_closeAll_57 : decode cX12_closeAll 57 = .ok (.if_icmp .eq 12, 3) := by decide +kernel
theorem dX12_closeAll_60 : decode cX12_closeAll 60 = .ok (.aload_n 0, 1) := by decide +kernel
theorem dX12_closeAll_61 : decode cX12_closeAll 61 = .ok (.iload_n 3, 1) := by decide +kernel
theorem dX12_closeAll_62 : decode cX12_closeAll 62 = .ok (.iload_n 2, 1) := by decide +kernel
theorem dX12_closeAll_63 : decode cX12_closeAll 63 = .ok (.invokevirtual 606, 3) := by decide +kernel
theorem dX12_closeAll_66 : decode cX12_closeAll 66 = .ok (.goto 69, 3) := by decide +kernel
theorem dX12_closeAll_69 : decode cX12_closeAll 69 = .ok (.iload_n 3, 1) := by decide +kernel
theorem dX12_closeAll_70 : decode cX12_closeAll 70 = .ok (.ifCond .lt 65, 3) := by decide +kernel
theorem dX12_closeAll_73 : decode cX12_closeAll 73 = .ok (.aload_n 0, 1) := by decide +kernel
theorem dX12_closeAll_74 : decode cX12_closeAll 74 = .ok (.getfield 222, 3) := by decide +kernel
theorem dX12_closeAll_77 : decode cX12_closeAll 77 = .ok (.aload_n 0, 1) := by decide +kernel
theorem dX12_closeAll_78 : decode cX12_closeAll 78 = .ok (.getfield 595, 3) := by decide +kernel
theorem dX12_closeAll_81 : decode cX12_closeAll 81 = .ok (.iaload, 1) := by decide +kernel
theorem dX12_closeAll_82 : decode cX12_closeAll 82 = .ok (.bipush 8, 2) := by decide +kernel
theorem dX12_closeAll_84 : decode cX12_closeAll 84 = .ok (.if_icmp .ge 51, 3) := by decide +kernel
theorem dX12_closeAll_87 : decode cX12_closeAll 87 = .ok (.bipush 8, 2) := by decide +kernel
theorem dX12_closeAll_89 : decode cX12_closeAll 89 = .ok (.aload_n 0, 1) := by decide +kernel
theorem dX12_closeAll_90 : decode cX12_closeAll 90 = .ok (.getfield 595, 3) := by decide +kernel
theorem dX12_closeAll_93 : decode cX12_closeAll 93 = .ok (.imul, 1) := by decide +kernel
theorem dX12_closeAll_94 : decode cX12_closeAll 94 = .ok (.aload_n 0, 1) := by decide +kernel
theorem dX12_closeAll_95 : decode cX12_closeAll 95 = .ok (.getfield 222, 3) := by decide +kernel
theorem dX12_closeAll_98 : decode cX12_closeAll 98 = .ok (.aload_n 0, 1) := by decide +kernel
theorem dX12_closeAll_99 : decode cX12_closeAll 99 = .ok (.getfield 595, 3) := by decide +kernel
theorem dX12_closeAll_102 : decode cX12_closeAll 102 = .ok (.iaload, 1) := by decide +kernel
theorem dX12_closeAll_103 : decode cX12_closeAll 103 = .ok (.iadd, 1) := by decide +kernel
theorem dX12_closeAll_104 : decode cX12_closeAll 104 = .ok (.istore 4, 2) := by decide +kernel
theorem dX12_closeAll_106 : decode cX12_closeAll 106 = .ok (.aload_n 0, 1) := by decide +kernel
theorem dX12_closeAll_107 : decode cX12_closeAll 107 = .ok (.getfield 225, 3) := by decide +kernel
theorem dX12_closeAll_110 : decode cX12_closeAll 110 = .ok (.iload 4, 2) := by decide +kernel
theorem dX12_closeAll_112 : decode cX12_closeAll 112 = .ok (.iload_n 3, 1) := by decide +kernel
theorem dX12_closeAll_113 : decode cX12_closeAll 113 = .ok (.iastore, 1) := by decide +kernel
theorem dX12_closeAll_114 : decode cX12_closeAll 114 = .ok (.aload_n 0, 1) := by decide +kernel
theorem dX12_closeAll_115 : decode cX12_closeAll 115 = .ok (.getfield 228, 3) := by decide +kernel
theorem dX12_closeAll_118 : decode cX12_closeAll 118 = .ok (.iload 4, 2) := by decide +kernel
theorem dX12_closeAll_120 : decode cX12_closeAll 120 = .ok (.iload_n 2, 1) := by decide +kernel
theorem dX12_closeAll_121 : decode cX12_closeAll 121 = .ok (.iastore, 1) := by decide +kernel
theorem dX12_closeAll_122 : decode cX12_closeAll 122 = .ok (.aload_n 0, 1) := by decide +kernel
theorem dX12_closeAll_123 : decode cX12_closeAll 123 = .ok (.getfield 222, 3) := by decide +kernel
theorem dX12_closeAll_126 : decode cX12_closeAll 126 = .ok (.aload_n 0, 1) := by decide +kernel
theorem dX12_closeAll_127 : decode cX12_closeAll 127 = .ok (.getfield 595, 3) := by decide +kernel
theorem dX12_closeAll_130 : decode cX12_closeAll 130 = .ok (.dup2, 1) := by decide +kernel
theorem dX12_closeAll_131 : decode cX12_closeAll 131 = .ok (.iaload, 1) := by decide +kernel
theorem dX12_closeAll_132 : decode cX12_closeAll 132 = .ok (.iconst 1, 1) := by decide +kernel
theorem dX12_closeAll_133 : decode cX12_closeAll 133 = .ok (.iadd, 1) := by decide +kernel
theorem dX12_closeAll_134 : decode cX12_closeAll 134 = .ok (.iastore, 1) := by decide +kernel
theorem dX12_closeAll_135 : decode cX12_closeAll 135 = .ok (.goto (-135), 3) := by decide +kernel
theorem dX12_closeAll_138 : decode cX12_closeAll 138 = .ok (.return_, 1) := by decide +kernel
theorem dX12_finals_0 : decode cX12_finals 0 = .ok (.aload_n 0, 1) := by decide +kernel
theorem dX12_finals_1 : decode cX12_finals 1 = .ok (.getfield 108, 3) := by decide +kernel
theorem dX12_finals_4 : decode cX12_finals 4 = .ok (.aload_n 0, 1) := by decide +kernel
theorem dX12_finals_5 : decode cX12_finals 5 = .ok (.getfield 246, 3) := by decide +kernel
theorem dX12_finals_8 : decode cX12_finals 8 = .ok (.iload_n 1, 1) := by decide +kernel
theorem dX12_finals_9 : decode cX12_finals 9 = .ok (.iaload, 1) := by decide +kernel
theorem dX12_finals_10 : decode cX12_finals 10 = .ok (.iaload, 1) := by decide +kernel
theorem dX12_finals_11 : decode cX12_finals 11 = .ok (.istore_n 2, 1) := by decide +kernel
theorem dX12_finals_12 : decode cX12_finals 12 = .ok (.iload_n 2, 1) := by decide +kernel
theorem dX12_finals_13 : decode cX12_finals 13 = .ok (.ifCond .ge 5, 3) := by decide +kernel
theorem dX12_finals_16 : decode cX12_finals 16 = .ok (.iconst 0, 1) := by decide +kernel
theorem dX12_finals_17 : decode cX12_finals 17 = .ok (.ireturn, 1) := by decide +kernel
theorem dX12_finals_18 : decode cX12_finals 18 = .ok (.aload_n 0, 1) := by decide +kernel
theorem dX12_finals_19 : decode cX12_finals 19 = .ok (.getfield 258, 3) := by decide +kernel
theorem dX12_finals_22 : decode cX12_finals 22 = .ok (.iload_n 1, 1) := by decide +kernel
theorem dX12_finals_23 : decode cX12_finals 23 = .ok (.aload_n 0, 1) := by decide +kernel
theorem dX12_finals_24 : decode cX12_finals 24 = .ok (.getfield 597, 3) := by decide +kernel
theorem dX12_finals_27 : decode cX12_finals 27 = .ok (.iastore, 1) := by decide +kernel
theorem dX12_finals_28 : decode cX12_finals 28 = .ok (.aload_n 0, 1) := by decide +kernel
theorem dX12_finals_29 : decode cX12_finals 29 = .ok (.getfield 261, 3) := by decide +kernel
theorem dX12_finals_32 : decode cX12_finals 32 = .ok (.iload_n 1, 1) := by decide +kernel
theorem dX12_finals_33 : decode cX12_finals 33 = .ok (.aload_n 0, 1) := by decide +kernel
theorem dX12_finals_34 : decode cX12_finals 34 = .ok (.getfield 609, 3) := by decide +kernel
theorem dX12_finals_37 : decode cX12_finals 37 = .ok (.iastore, 1) := by decide +kernel
theorem dX12_finals_38 : decode cX12_finals 38 = .ok (.aload_n 0, 1) := by decide +kernel
theorem dX12_finals_39 : decode cX12_finals 39 = .ok (.getfield 264, 3) := by decide +kernel
theorem dX12_finals_42 : decode cX12_finals 42 = .ok (.iload_n 1, 1) := by decide +kernel
theorem dX12_finals_43 : decode cX12_finals 43 = .ok (.aload_n 0, 1) := by decide +kernel
theorem dX12_finals_44 : decode cX12_finals 44 = .ok (.getfield 612, 3) := by decide +kernel
theorem dX12_finals_47 : decode cX12_finals 47 = .ok (.iastore, 1) := by decide +kernel
theorem dX12_finals_48 : decode cX12_finals 48 = .ok (.aload_n 0, 1) := by decide +kernel
theorem dX12_finals_49 : decode cX12_finals 49 = .ok (.getfield 267, 3) := by decide +kernel
theorem dX12_finals_52 : decode cX12_finals 52 = .ok (.iload_n 1, 1) := by decide +kernel
theorem dX12_finals_53 : decode cX12_finals 53 = .ok (.aload_n 0, 1) := by decide +kernel
theorem dX12_finals_54 : decode cX12_finals 54 = .ok (.getfield 615, 3) := by decide +kernel
theorem dX12_finals_57 : decode cX12_finals 57 = .ok (.iastore, 1) := by decide +kernel
theorem dX12_finals_58 : decode cX12_finals 58 = .ok (.aload_n 0, 1) := by decide +kernel
theorem dX12_finals_59 : decode cX12_finals 59 = .ok (.getfield 270, 3) := by decide +kernel
theorem dX12_finals_62 : decode cX12_finals 62 = .ok (.iload_n 1, 1) := by decide +kernel
theorem dX12_finals_63 : decode cX12_finals 63 = .ok (.aload_n 0, 1) := by decide +kernel
theorem dX12_finals_64 : decode cX12_finals 64 = .ok (.getfield 595, 3) := by decide +kernel
theorem dX12_finals_67 : decode cX12_finals 67 = .ok (.iastore, 1) := by decide +kernel
theorem dX12_finals_68 : decode cX12_finals 68 = .ok (.aload_n 0, 1) := by decide +kernel
theorem dX12_finals_69 : decode cX12_finals 69 = .ok (.getfield 249, 3) := by decide +kernel
theorem dX12_finals_72 : decode cX12_finals 72 = .ok (.iload_n 1, 1) := by decide +kernel
theorem dX12_finals_73 : decode cX12_finals 73 = .ok (.iconst 2, 1) := by decide +kernel
theorem dX12_finals_74 : decode cX12_finals 74 = .ok (.iastore, 1) := by decide +kernel
theorem dX12_finals_75 : decode cX12_finals 75 = .ok (.aload_n 0, 1) := by decide +kernel
theorem dX12_finals_76 : decode cX12_finals 76 = .ok (.aload_n 0, 1) := by decide +kernel
theorem dX12_finals_77 : decode cX12_finals 77 = .ok (.getfield 255, 3) := by decide +kernel
theorem dX12_finals_80 : decode cX12_finals 80 = .ok (.iload_n 1, 1) := by decide +kernel
theorem dX12_finals_81 : decode cX12_finals 81 = .ok (.iaload, 1) := by decide +kernel
theorem dX12_finals_82 : decode cX12_finals 82 = .ok (.putfield 589, 3) := by decide +kernel
theorem dX12_finals_85 : decode cX12_finals 85 = .ok (.aload_n 0, 1) := by decide +kernel
theorem dX12_finals_86 : decode cX12_finals 86 = .ok (.iload_n 2, 1) := by decide +kernel
theorem dX12_finals_87 : decode cX12_finals 87 = .ok (.putfield 618, 3) := by decide +kernel
theorem dX12_finals_90 : decode cX12_finals 90 = .ok (.iconst 1, 1) := by decide +kernel
theorem dX12_finals_91 : decode cX12_finals 91 = .ok (.ireturn, 1) := by decide +kernel
theorem dX12_isCaught_0 : decode cX12_isCaught 0 = .ok (.aload_n 0, 1) := by decide +kernel
theorem dX12_isCaught_1 : decode cX12_isCaught 1 = .ok (.getfield 105, 3) := by decide +kernel
theorem dX12_isCaught_4 : decode cX12_isCaught 4 = .ok (.aload_n 0, 1) := by decide +kernel
theorem dX12_isCaught_5 : decode cX12_isCaught 5 = .ok (.getfield 246, 3) := by decide +kernel
theorem dX12_isCaught_8 : decode cX12_isCaught 8 = .ok (.iload_n 1, 1) := by decide +kernel
theorem dX12_isCaught_9 : decode cX12_isCaught 9 = .ok (.iaload, 1) := by decide +kernel
theorem dX12_isCaught_10 : decode cX12_isCaught 10 = .ok (.iaload, 1) := by decide +kernel
theorem dX12_isCaught_11 : decode cX12_isCaught 11 = .ok (.istore_n 2, 1) := by decide +kernel
theorem dX12_isCaught_12 : decode cX12_isCaught 12 = .ok (.iload_n 2, 1) := by decide +kernel
theorem dX12_isCaught_13 : decode cX12_isCaught 13 = .ok (.ifCond .lt 79, 3) := by decide +kernel
theorem dX12_isCaught_16 : decode cX12_isCaught 16 = .ok (.aload_n 0, 1) := by decide +kernel
theorem dX12_isCaught_17 : decode cX12_isCaught 17 = .ok (.aload_n 0, 1) := by decide +kernel
theorem dX12_isCaught_18 : decode cX12_isCaught 18 = .ok (.getfield 216, 3) := by decide +kernel
theorem dX12_isCaught_21 : decode cX12_isCaught 21 = .ok (.aload_n 0, 1) := by decide +kernel
theorem dX12_isCaught_22 : decode cX12_isCaught 22 = .ok (.getfield 595, 3) := by decide +kernel
theorem dX12_isCaught_25 : decode cX12_isCaught 25 = .ok (.iaload, 1) := by decide +kernel
theorem dX12_isCaught_26 : decode cX12_isCaught 26 = .ok (.aload_n 0, 1) := by decide +kernel
theorem dX12_isCaught_27 : decode cX12_isCaught 27 = .ok (.getfield 114, 3) := by decide +kernel
theorem dX12_isCaught_30 : decode cX12_isCaught 30 = .ok (.iload_n 2, 1) := by decide +kernel
theorem dX12_isCaught_31 : decode cX12_isCaught 31 = .ok (.iaload, 1) := by decide +kernel
theorem dX12_isCaught_32 : decode cX12_isCaught 32 = .ok (.invokevirtual 283, 3) := by decide +kernel
theorem dX12_isCaught_35 : decode cX12_isCaught 35 = .ok (.ifCond .eq 47, 3) := by decide +kernel
theorem dX12_isCaught_38 : decode cX12_isCaught 38 = .ok (.aload_n 0, 1) := by decide +kernel
theorem dX12_isCaught_39 : decode cX12_isCaught 39 = .ok (.getfield 213, 3) := by decide +kernel
theorem dX12_isCaught_42 : decode cX12_isCaught 42 = .ok (.aload_n 0, 1) := by decide +kernel
theorem dX12_isCaught_43 : decode cX12_isCaught 43 = .ok (.getfield 120, 3) := by decide +kernel
theorem dX12_isCaught_46 : decode cX12_isCaught 46 = .ok (.iload_n 2, 1) := by decide +kernel
theorem dX12_isCaught_47 : decode cX12_isCaught 47 = .ok (.iaload, 1) := by decide +kernel
theorem dX12_isCaught_48 : decode cX12_isCaught 48 = .ok (.aload_n 0, 1) := by decide +kernel
theorem dX12_isCaught_49 : decode cX12_isCaught 49 = .ok (.getfield 595, 3) := by decide +kernel
theorem dX12_isCaught_52 : decode cX12_isCaught 52 = .ok (.iastore, 1) := by decide +kernel
theorem dX12_isCaught_53 : decode cX12_isCaught 53 = .ok (.aload_n 0, 1) := by decide +kernel
theorem dX12_isCaught_54 : decode cX12_isCaught 54 = .ok (.getfield 249, 3) := by decide +kernel
theorem dX12_isCaught_57 : decode cX12_isCaught 57 = .ok (.iload_n 1, 1) := by decide +kernel
theorem dX12_isCaught_58 : decode cX12_isCaught 58 = .ok (.iconst 1, 1) := by decide +kernel
theorem dX12_isCaught_59 : decode cX12_isCaught 59 = .ok (.iastore, 1) := by decide +kernel
theorem dX12_isCaught_60 : decode cX12_isCaught 60 = .ok (.aload_n 0, 1) := by decide +kernel
theorem dX12_isCaught_61 : decode cX12_isCaught 61 = .ok (.aload_n 0, 1) := by decide +kernel
theorem dX12_isCaught_62 : decode cX12_isCaught 62 = .ok (.getfield 255, 3) := by decide +kernel
theorem dX12_isCaught_65 : decode cX12_isCaught 65 = .ok (.iload_n 1, 1) := by decide +kernel
theorem dX12_isCaught_66 : decode cX12_isCaught 66 = .ok (.iaload, 1) := by decide +kernel
theorem dX12_isCaught_67 : decode cX12_isCaught 67 = .ok (.putfield 589, 3) := by decide +kernel
theorem dX12_isCaught_70 : decode cX12_isCaught 70 = .ok (.aload_n 0, 1) := by decide +kernel
theorem dX12_isCaught_71 : decode cX12_isCaught 71 = .ok (.aload_n 0, 1) := by decide +kernel
theorem dX12_isCaught_72 : decode cX12_isCaught 72 = .ok (.getfield 117, 3) := by decide +kernel
theorem dX12_isCaught_75 : decode cX12_isCaught 75 = .ok (.iload_n 2, 1) := by decide +kernel
theorem dX12_isCaught_76 : decode cX12_isCaught 76 = .ok (.iaload, 1) := by decide +kernel
theorem dX12_isCaught_77 : decode cX12_isCaught 77 = .ok (.putfield 618, 3) := by decide +kernel
theorem dX12_isCaught_80 : decode cX12_isCaught 80 = .ok (.iconst 1, 1) := by decide +kernel
theorem dX12_isCaught_81 : decode cX12_isCaught 81 = .ok (.ireturn, 1) := by decide +kernel
theorem dX12_isCaught_82 : decode cX12_isCaught 82 = .ok (.aload_n 0, 1) := by decide +kernel
theorem dX12_isCaught_83 : decode cX12_isCaught 83 = .ok (.getfield 123, 3) := by decide +kernel
theorem dX12_isCaught_86 : decode cX12_isCaught 86 = .ok (.iload_n 2, 1) := by decide +kernel
theorem dX12_isCaught_87 : decode cX12_isCaught 87 = .ok (.iaload, 1) := by decide +kernel
theorem dX12_isCaught_88 : decode cX12_isCaught 88 = .ok (.istore_n 2, 1) := by decide +kernel
theorem dX12_isCaught_89 : decode cX12_isCaught 89 = .ok (.goto (-77), 3) := by decide +kernel
theorem dX12_isCaught_92 : decode cX12_isCaught 92 = .ok (.iconst 0, 1) := by decide +kernel
theorem dX12_isCaught_93 : decode cX12_isCaught 93 = .ok (.ireturn, 1) := by decide +kernel
theorem dX12_leave_0 : decode cX12_leave 0 = .ok (.aload_n 0, 1) := by decide +kernel
theorem dX12_leave_1 : decode cX12_leave 1 = .ok (.getfield 586, 3) := by decide +kernel
theorem dX12_leave_4 : decode cX12_leave 4 = .ok (.aload_n 0, 1) := by decide +kernel
theorem dX12_leave_5 : decode cX12_leave 5 = .ok (.getfield 597, 3) := by decide +kernel
theorem dX12_leave_8 : decode cX12_leave 8 = .ok (.iconst 1, 1) := by decide +kernel
theorem dX12_leave_9 : decode cX12_leave 9 = .ok (.if_icmp .eq 11, 3) := by decide +kernel
theorem dX12_leave_12 : decode cX12_leave 12 = .ok (.aload_n 0, 1) := by decide +kernel
theorem dX12_leave_13 : decode cX12_leave 13 = .ok (.getfield 597, 3) := by decide +kernel
theorem dX12_leave_16 : decode cX12_leave 16 = .ok (.iconst 4, 1) := by decide +kernel
theorem dX12_leave_17 : decode cX12_leave 17 = .ok (.if_icmp .ne 10, 3) := by decide +kernel
theorem dX12_leave_20 : decode cX12_leave 20 = .ok (.aload_n 0, 1) := by decide +kernel
theorem dX12_leave_21 : decode cX12_leave 21 = .ok (.getfield 612, 3) := by decide +kernel
theorem dX12_leave_24 : decode cX12_leave 24 = .ok (.goto 4, 3) := by decide +kernel
theorem dX12_leave_27 : decode cX12_leave 27 = .ok (.iconst 0, 1) := by decide +kernel
theorem dX12_leave_28 : decode cX12_leave 28 = .ok (.if_icmp .le 145, 3) := by decide +kernel
theorem dX12_leave_31 : decode cX12_leave 31 = .ok (.aload_n 0, 1) := by decide +kernel
theorem dX12_leave_32 : decode cX12_leave 32 = .ok (.getfield 586, 3) := by decide +kernel
theorem dX12_leave_35 : decode cX12_leave 35 = .ok (.iconst 1, 1) := by decide +kernel
theorem dX12_leave_36 : decode cX12_leave 36 = .ok (.isub, 1) := by decide +kernel
theorem dX12_leave_37 : decode cX12_leave 37 = .ok (.istore_n 1, 1) := by decide +kernel
theorem dX12_leave_38 : decode cX12_leave 38 = .ok (.aload_n 0, 1) := by decide +kernel
theorem dX12_leave_39 : decode cX12_leave 39 = .ok (.getfield 243, 3) := by decide +kernel
theorem dX12_leave_42 : decode cX12_leave 42 = .ok (.iload_n 1, 1) := by decide +kernel
theorem dX12_leave_43 : decode cX12_leave 43 = .ok (.iaload, 1) := by decide +kernel
theorem dX12_leave_44 : decode cX12_leave 44 = .ok (.iconst 1, 1) := by decide +kernel
theorem dX12_leave_45 : decode cX12_leave 45 = .ok (.if_icmp .ne 32, 3) := by decide +kernel
theorem dX12_leave_48 : decode cX12_leave 48 = .ok (.aload_n 0, 1) := by decide +kernel
theorem dX12_leave_49 : decode cX12_leave 49 = .ok (.iconst 4, 1) := by decide +kernel
theorem dX12_leave_50 : decode cX12_leave 50 = .ok (.aload_n 0, 1) := by decide +kernel
theorem dX12_leave_51 : decode cX12_leave 51 = .ok (.getfield 246, 3) := by decide +kernel
theorem dX12_leave_54 : decode cX12_leave 54 = .ok (.iload_n 1, 1) := by decide +kernel
theorem dX12_leave_55 : decode cX12_leave 55 = .ok (.iaload, 1) := by decide +kernel
theorem dX12_leave_56 : decode cX12_leave 56 = .ok (.invokevirtual 603, 3) := by decide +kernel
theorem dX12_leave_59 : decode cX12_leave 59 = .ok (.aload_n 0, 1) := by decide +kernel
theorem dX12_leave_60 : decode cX12_leave 60 = .ok (.getfield 231, 3) := by decide +kernel
theorem dX12_leave_63 : decode cX12_leave 63 = .ok (.aload_n 0, 1) := by decide +kernel
theorem dX12_leave_64 : decode cX12_leave 64 = .ok (.getfield 246, 3) := by decide +kernel
theorem dX12_leave_67 : decode cX12_leave 67 = .ok (.iload_n 1, 1) := by decide +kernel
theorem dX12_leave_68 : decode cX12_leave 68 = .ok (.iaload, 1) := by decide +kernel
theorem dX12_leave_69 : decode cX12_leave 69 = .ok (.dup2, 1) := by decide +kernel
theorem dX12_leave_70 : decode cX12_leave 70 = .ok (.iaload, 1) := by decide +kernel
theorem dX12_leave_71 : decode cX12_leave 71 = .ok (.iconst 1, 1) := by decide +kernel
theorem dX12_leave_72 : decode cX12_leave 72 = .ok (.isub, 1) := by decide +kernel
theorem dX12_leave_73 : decode cX12_leave 73 = .ok (.iastore, 1) := by decide +kernel
theorem dX12_leave_74 : decode cX12_leave 74 = .ok (.goto 86, 3) := by decide +kernel
theorem dX12_leave_77 : decode cX12_leave 77 = .ok (.aload_n 0, 1) := by decide +kernel
theorem dX12_leave_78 : decode cX12_leave 78 = .ok (.getfield 243, 3) := by decide +kernel
theorem dX12_leave_81 : decode cX12_leave 81 = .ok (.iload_n 1, 1) := by decide +kernel
theorem dX12_leave_82 : decode cX12_leave 82 = .ok (.iaload, 1) := by decide +kernel
theorem dX12_leave_83 : decode cX12_leave 83 = .ok (.iconst 2, 1) := by decide +kernel
theorem dX12_leave_84 : decode cX12_leave 84 = .ok (.if_icmp .ne 16, 3) := by decide +kernel
theorem dX12_leave_87 : decode cX12_leave 87 = .ok (.aload_n 0, 1) := by decide +kernel
theorem dX12_leave_88 : decode cX12_leave 88 = .ok (.aload_n 0, 1) := by decide +kernel
theorem dX12_leave_89 : decode cX12_leave 89 = .ok (.getfield 246, 3) := by decide +kernel
theorem dX12_leave_92 : decode cX12_leave 92 = .ok (.iload_n 1, 1) := by decide +kernel
theorem dX12_leave_93 : decode cX12_leave 93 = .ok (.iaload, 1) := by decide +kernel
theorem dX12_leave_94 : decode cX12_leave 94 = .ok (.putfield 621, 3) := by decide +kernel
theorem dX12_leave_97 : decode cX12_leave 97 = .ok (.goto 63, 3) := by decide +kernel
theorem dX12_leave_100 : decode cX12_leave 100 = .ok (.aload_n 0, 1) := by decide +kernel
theorem dX12_leave_101 : decode cX12_leave 101 = .ok (.getfield 243, 3) := by decide +kernel
theorem dX12_leave_104 : decode cX12_leave 104 = .ok (.iload_n 1, 1) := by decide +kernel
theorem dX12_leave_105 : decode cX12_leave 105 = .ok (.iaload, 1) := by decide +kernel
theorem dX12_leave_106 : decode cX12_leave 106 = .ok (.iconst 4, 1) := by decide +kernel
theorem dX12_leave_107 : decode cX12_leave 107 = .ok (.if_icmp .ne 53, 3) := by decide +kernel
theorem dX12_leave_110 : decode cX12_leave 110 = .ok (.aload_n 0, 1) := by decide +kernel
theorem dX12_leave_111 : decode cX12_leave 111 = .ok (.getfield 249, 3) := by decide +kernel
theorem dX12_leave_114 : decode cX12_leave 114 = .ok (.iload_n 1, 1) := by decide +kernel
theorem dX12_leave_115 : decode cX12_leave 115 = .ok (.iaload, 1) := by decide +kernel
theorem dX12_leave_116 : decode cX12_leave 116 = .ok (.ifCond .ne 25, 3) := by decide +kernel
theorem dX12_leave_119 : decode cX12_leave 119 = .ok (.aload_n 0, 1) := by decide +kernel
theorem dX12_leave_120 : decode cX12_leave 120 = .ok (.iload_n 1, 1) := by decide +kernel
theorem dX12_leave_121 : decode cX12_leave 121 = .ok (.invokevirtual 624, 3) := by decide +kernel
theorem dX12_leave_124 : decode cX12_leave 124 = .ok (.aload_n 0, 1) := by decide +kernel
theorem dX12_leave_125 : decode cX12_leave 125 = .ok (.getfield 597, 3) := by decide +kernel
theorem dX12_leave_128 : decode cX12_leave 128 = .ok (.iconst 3, 1) := by decide +kernel
theorem dX12_leave_129 : decode cX12_leave 129 = .ok (.if_icmp .ne 12, 3) := by decide +kernel
theorem dX12_leave_132 : decode cX12_leave 132 = .ok (.aload_n 0, 1) := by decide +kernel
theorem dX12_leave_133 : decode cX12_leave 133 = .ok (.iload_n 1, 1) := by decide +kernel
theorem dX12_leave_134 : decode cX12_leave 134 = .ok (.invokevirtual 627, 3) := by decide +kernel
theorem dX12_leave_137 : decode cX12_leave 137 = .ok (.ifCond .eq 4, 3) := by decide +kernel
theorem dX12_leave_140 : decode cX12_leave 140 = .ok (.return_, 1) := by decide +kernel
theorem dX12_leave_141 : decode cX12_leave 141 = .ok (.aload_n 0, 1) := by decide +kernel
theorem dX12_leave_142 : decode cX12_leave 142 = .ok (.getfield 249, 3) := by decide +kernel
theorem dX12_leave_145 : decode cX12_leave 145 = .ok (.iload_n 1, 1) := by decide +kernel
theorem dX12_leave_146 : decode cX12_leave 146 = .ok (.iaload, 1) := by decide +kernel
theorem dX12_leave_147 : decode cX12_leave 147 = .ok (.iconst 2, 1) := by decide +kernel
theorem dX12_leave_148 : decode cX12_leave 148 = .ok (.if_icmp .ge 12, 3) := by decide +kernel
theorem dX12_leave_151 : decode cX12_leave 151 = .ok (.aload_n 0, 1) := by decide +kernel
theorem dX12_leave_152 : decode cX12_leave 152 = .ok (.iload_n 1, 1) := by decide +kernel
theorem dX12_leave_153 : decode cX12_leave 153 = .ok (.invokevirtual 630, 3) := by decide +kernel
theorem dX12_leave_156 : decode cX12_leave 156 = .ok (.ifCond .eq 4, 3) := by decide +kernel
theorem dX12_leave_159 : decode cX12_leave 159 = .ok (.return_, 1) := by decide +kernel
theorem dX12_leave_160 : decode cX12_leave 160 = .ok (.aload_n 0, 1) := by decide +kernel
theorem dX12_leave_161 : decode cX12_leave 161 = .ok (.dup, 1) := by decide +kernel
theorem dX12_leave_162 : decode cX12_leave 162 = .ok (.getfield 586, 3) := by decide +kernel
theorem dX12_leave_165 : decode cX12_leave 165 = .ok (.iconst 1, 1) := by decide +kernel
theorem dX12_leave_166 : decode cX12_leave 166 = .ok (.isub, 1) := by decide +kernel
theorem dX12_leave_167 : decode cX12_leave 167 = .ok (.putfield 586, 3) := by decide +kernel
theorem dX12_leave_170 : decode cX12_leave 170 = .ok (.goto (-170), 3) := by decide +kernel
theorem dX12_leave_173 : decode cX12_leave 173 = .ok (.aload_n 0, 1) := by decide +kernel
theorem dX12_leave_174 : decode cX12_leave 174 = .ok (.getfield 597, 3) := by decide +kernel
theorem dX12_leave_177 : decode cX12_leave 177 = .ok (.iconst 1, 1) := by decide +kernel
theorem dX12_leave_178 : decode cX12_leave 178 = .ok (.if_icmp .ne 14, 3) := by decide +kernel
theorem dX12_leave_181 : decode cX12_leave 181 = .ok (.aload_n 0, 1) := by decide +kernel
theorem dX12_leave_182 : decode cX12_leave 182 = .ok (.aload_n 0, 1) := by decide +kernel
theorem dX12_leave_183 : decode cX12_leave 183 = .ok (.getfield 609, 3) := by decide +kernel
theorem dX12_leave_186 : decode cX12_leave 186 = .ok (.putfield 618, 3) := by decide +kernel
theorem dX12_leave_189 : decode cX12_leave 189 = .ok (.goto 76, 3) := by decide +kernel
theorem dX12_leave_192 : decode cX12_leave 192 = .ok (.aload_n 0, 1) := by decide +kernel
theorem dX12_leave_193 : decode cX12_leave 193 = .ok (.getfield 597, 3) := by decide +kernel
theorem dX12_leave_196 : decode cX12_leave 196 = .ok (.iconst 4, 1) := by decide +kernel
theorem dX12_leave_197 : decode cX12_leave 197 = .ok (.if_icmp .ne 55, 3) := by decide +kernel
theorem dX12_leave_200 : decode cX12_leave 200 = .ok (.aload_n 0, 1) := by decide +kernel
theorem dX12_leave_201 : decode cX12_leave 201 = .ok (.dup, 1) := by decide +kernel
theorem dX12_leave_202 : decode cX12_leave 202 = .ok (.getfield 586, 3) := by decide +kernel
theorem dX12_leave_205 : decode cX12_leave 205 = .ok (.iconst 1, 1) := by decide +kernel
theorem dX12_leave_206 : decode cX12_leave 206 = .ok (.isub, 1) := by decide +kernel
theorem dX12_leave_207 : decode cX12_leave 207 = .ok (.putfield 586, 3) := by decide +kernel
theorem dX12_leave_210 : decode cX12_leave 210 = .ok (.aload_n 0, 1) := by decide +kernel
theorem dX12_leave_211 : decode cX12_leave 211 = .ok (.aload_n 0, 1) := by decide +kernel
theorem dX12_leave_212 : decode cX12_leave 212 = .ok (.getfield 255, 3) := by decide +kernel
theorem dX12_leave_215 : decode cX12_leave 215 = .ok (.aload_n 0, 1) := by decide +kernel
theorem dX12_leave_216 : decode cX12_leave 216 = .ok (.getfield 586, 3) := by decide +kernel
theorem dX12_leave_219 : decode cX12_leave 219 = .ok (.iaload, 1) := by decide +kernel
theorem dX12_leave_220 : decode cX12_leave 220 = .ok (.putfield 589, 3) := by decide +kernel
theorem dX12_leave_223 : decode cX12_leave 223 = .ok (.aload_n 0, 1) := by decide +kernel
theorem dX12_leave_224 : decode cX12_leave 224 = .ok (.aload_n 0, 1) := by decide +kernel
theorem dX12_leave_225 : decode cX12_leave 225 = .ok (.getfield 615, 3) := by decide +kernel
theorem dX12_leave_228 : decode cX12_leave 228 = .ok (.invokevirtual 633, 3) := by decide +kernel
theorem dX12_leave_231 : decode cX12_leave 231 = .ok (.aload_n 0, 1) := by decide +kernel
theorem dX12_leave_232 : decode cX12_leave 232 = .ok (.aload_n 0, 1) := by decide +kernel
theorem dX12_leave_233 : decode cX12_leave 233 = .ok (.getfield 90, 3) := by decide +kernel
theorem dX12_leave_236 : decode cX12_leave 236 = .ok (.aload_n 0, 1) := by decide +kernel
theorem dX12_leave_237 : decode cX12_leave 237 = .ok (.getfield 246, 3) := by decide +kernel
theorem dX12_leave_240 : decode cX12_leave 240 = .ok (.aload_n 0, 1) := by decide +kernel
theorem dX12_leave_241 : decode cX12_leave 241 = .ok (.getfield 586, 3) := by decide +kernel
theorem dX12_leave_244 : decode cX12_leave 244 = .ok (.iaload, 1) := by decide +kernel
theorem dX12_leave_245 : decode cX12_leave 245 = .ok (.iaload, 1) := by decide +kernel
theorem dX12_leave_246 : decode cX12_leave 246 = .ok (.putfield 618, 3) := by decide +kernel
theorem dX12_leave_249 : decode cX12_leave 249 = .ok (.goto 16, 3) := by decide +kernel
theorem dX12_leave_252 : decode cX12_leave 252 = .ok (.aload_n 0, 1) := by decide +kernel
theorem dX12_leave_253 : decode cX12_leave 253 = .ok (.aload_n 0, 1) := by decide +kernel
theorem dX12_leave_254 : decode cX12_leave 254 = .ok (.getfield 597, 3) := by decide +kernel
theorem dX12_leave_257 : decode cX12_leave 257 = .ok (.putfield 636, 3) := by decide +kernel
theorem dX12_leave_260 : decode cX12_leave 260 = .ok (.aload_n 0, 1) := by decide +kernel
theorem dX12_leave_261 : decode cX12_leave 261 = .ok (.iconst (-1), 1) := by decide +kernel
theorem dX12_leave_262 : decode cX12_leave 262 = .ok (.putfield 618, 3) := by decide +kernel
theorem dX12_leave_265 : decode cX12_leave 265 = .ok (.return_, 1) := by decide +kernel
theorem dX12_step_0 : decode cX12_step 0 = .ok (.aload_n 0, 1) := by decide +kernel
theorem dX12_step_1 : decode cX12_step 1 = .ok (.getfield 639, 3) := by decide +kernel
theorem dX12_step_4 : decode cX12_step 4 = .ok (.sipush 1000, 3) := by decide +kernel
theorem dX12_step_7 : decode cX12_step 7 = .ok (.if_icmp .ne 14, 3) := by decide +kernel
theorem dX12_step_10 : decode cX12_step 10 = .ok (.aload_n 0, 1) := by decide +kernel
theorem dX12_step_11 : decode cX12_step 11 = .ok (.iconst 5, 1) := by decide +kernel
theorem dX12_step_12 : decode cX12_step 12 = .ok (.putfield 636, 3) := by decide +kernel
theorem dX12_step_15 : decode cX12_step 15 = .ok (.aload_n 0, 1) := by decide +kernel
theorem dX12_step_16 : decode cX12_step 16 = .ok (.iconst (-1), 1) := by decide +kernel
theorem dX12_step_17 : decode cX12_step 17 = .ok (.putfield 618, 3) := by decide +kernel
theorem dX12_step_20 : decode cX12_step 20 = .ok (.return_, 1) := by decide +kernel
theorem dX12_step_21 : decode cX12_step 21 = .ok (.aload_n 0, 1) := by decide +kernel
theorem dX12_step_22 : decode cX12_step 22 = .ok (.dup, 1) := by decide +kernel
theorem dX12_step_23 : decode cX12_step 23 = .ok (.getfield 639, 3) := by decide +kernel
theorem dX12_step_26 : decode cX12_step 26 = .ok (.iconst 1, 1) := by decide +kernel
theorem dX12_step_27 : decode cX12_step 27 = .ok (.iadd, 1) := by decide +kernel
theorem dX12_step_28 : decode cX12_step 28 = .ok (.putfield 639, 3) := by decide +kernel
theorem dX12_step_31 : decode cX12_step 31 = .ok (.return_, 1) := by decide +kernel
theorem dX12_compute_0 : decode cX12_compute 0 = .ok (.iload_n 1, 1) := by decide +kernel
theorem dX12_compute_1 : decode cX12_compute 1 = .ok (.lookupswitch 166 #[(37, 107), (42, 99), (43, 91), (45, 95), (47, 103), (60, 111), (62, 133), (300, 122), (301, 144), (302, 155)], 91) := by decide +kernel
theorem dX12_compute_92 : decode cX12_compute 92 = .ok (.iload_n 2, 1) := by decide +kernel
theorem dX12_compute_93 : decode cX12_compute 93 = .ok (.iload_n 3, 1) := by decide +kernel
theorem dX12_compute_94 : decode cX12_compute 94 = .ok (.iadd, 1) := by decide +kernel
theorem dX12_compute_95 : decode cX12_compute 95 = .ok (.ireturn, 1) := by decide +kernel
theorem dX12_compute_96 : decode cX12_compute 96 = .ok (.iload_n 2, 1) := by decide +kernel
theorem dX12_compute_97 : decode cX12_compute 97 = .ok (.iload_n 3, 1) := by decide +kernel
theorem dX12_compute_98 : decode cX12_compute 98 = .ok (.isub, 1) := by decide +kernel
theorem dX12_compute_99 : decode cX12_compute 99 = .ok (.ireturn, 1) := by decide +kernel
theorem dX12_compute_100 : decode cX12_compute 100 = .ok (.iload_n 2, 1) := by decide +kernel
theorem dX12_compute_101 : decode cX12_compute 101 = .ok (.iload_n 3, 1) := by decide +kernel
theorem dX12_compute_102 : decode cX12_compute 102 = .ok (.imul, 1) := by decide +kernel
theorem dX12_compute_103 : decode cX12_compute 103 = .ok (.ireturn, 1) := by decide +kernel
theorem dX12_compute_104 : decode cX12_compute 104 = .ok (.iload_n 2, 1) := by decide +kernel
theorem dX12_compute_105 : decode cX12_compute 105 = .ok (.iload_n 3, 1) := by decide +kernel
theorem dX12_compute_106 : decode cX12_compute 106 = .ok (.idiv, 1) := by decide +kernel
theorem dX12_compute_107 : decode cX12_compute 107 = .ok (.ireturn, 1) := by decide +kernel
theorem dX12_compute_108 : decode cX12_compute 108 = .ok (.iload_n 2, 1) := by decide +kernel
theorem dX12_compute_109 : decode cX12_compute 109 = .ok (.iload_n 3, 1) := by decide +kernel
theorem dX12_compute_110 : decode cX12_compute 110 = .ok (.irem, 1) := by decide +kernel
theorem dX12_compute_111 : decode cX12_compute 111 = .ok (.ireturn, 1) := by decide +kernel
theorem dX12_compute_112 : decode cX12_compute 112 = .ok (.iload_n 2, 1) := by decide +kernel
theorem dX12_compute_113 : decode cX12_compute 113 = .ok (.iload_n 3, 1) := by decide +kernel
theorem dX12_compute_114 : decode cX12_compute 114 = .ok (.if_icmp .ge 7, 3) := by decide +kernel
theorem dX12_compute_117 : decode cX12_compute 117 = .ok (.iconst 1, 1) := by decide +kernel
theorem dX12_compute_118 : decode cX12_compute 118 = .ok (.goto 4, 3) := by decide +kernel
theorem dX12_compute_121 : decode cX12_compute 121 = .ok (.iconst 0, 1) := by decide +kernel
theorem dX12_compute_122 : decode cX12_compute 122 = .ok (.ireturn, 1) := by decide +kernel
theorem dX12_compute_123 : decode cX12_compute 123 = .ok (.iload_n 2, 1) := by decide +kernel
theorem dX12_compute_124 : decode cX12_compute 124 = .ok (.iload_n 3, 1) := by decide +kernel
theorem dX12_compute_125 : decode cX12_compute 125 = .ok (.if_icmp .gt 7, 3) := by decide +kernel
theorem dX12_compute_128 : decode cX12_compute 128 = .ok (.iconst 1, 1) := by decide +kernel
theorem dX12_compute_129 : decode cX12_compute 129 = .ok (.goto 4, 3) := by decide +kernel
theorem dX12_compute_132 : decode cX12_compute 132 = .ok (.iconst 0, 1) := by decide +kernel
theorem dX12_compute_133 : decode cX12_compute 133 = .ok (.ireturn, 1) := by decide +kernel
theorem dX12_compute_134 : decode cX12_compute 134 = .ok (.iload_n 2, 1) := by decide +kernel
theorem dX12_compute_135 : decode cX12_compute 135 = .ok (.iload_n 3, 1) := by decide +kernel
theorem dX12_compute_136 : decode cX12_compute 136 = .ok (.if_icmp .le 7, 3) := by decide +kernel
theorem dX12_compute_139 : decode cX12_compute 139 = .ok (.iconst 1, 1) := by decide +kernel
theorem dX12_compute_140 : decode cX12_compute 140 = .ok (.goto 4, 3) := by decide +kernel
theorem dX12_compute_143 : decode cX12_compute 143 = .ok (.iconst 0, 1) := by decide +kernel
theorem dX12_compute_144 : decode cX12_compute 144 = .ok (.ireturn, 1) := by decide +kernel
theorem dX12_compute_145 : decode cX12_compute 145 = .ok (.iload_n 2, 1) := by decide +kernel
theorem dX12_compute_146 : decode cX12_compute 146 = .ok (.iload_n 3, 1) := by decide +kernel
theorem dX12_compute_147 : decode cX12_compute 147 = .ok (.if_icmp .lt 7, 3) := by decide +kernel
theorem dX12_compute_150 : decode cX12_compute 150 = .ok (.iconst 1, 1) := by decide +kernel
theorem dX12_compute_151 : decode cX12_compute 151 = .ok (.goto 4, 3) := by decide +kernel
theorem dX12_compute_154 : decode cX12_compute 154 = .ok (.iconst 0, 1) := by decide +kernel
theorem dX12_compute_155 : decode cX12_compute 155 = .ok (.ireturn, 1) := by decide +kernel
theorem dX12_compute_156 : decode cX12_compute 156 = .ok (.iload_n 2, 1) := by decide +kernel
theorem dX12_compute_157 : decode cX12_compute 157 = .ok (.iload_n 3, 1) := by decide +kernel
theorem dX12_compute_158 : decode cX12_compute 158 = .ok (.if_icmp .ne 7, 3) := by decide +kernel
theorem dX12_compute_161 : decode cX12_compute 161 = .ok (.iconst 1, 1) := by decide +kernel
theorem dX12_compute_162 : decode cX12_compute 162 = .ok (.goto 4, 3) := by decide +kernel
theorem dX12_compute_165 : decode cX12_compute 165 = .ok (.iconst 0, 1) := by decide +kernel
theorem dX12_compute_166 : decode cX12_compute 166 = .ok (.ireturn, 1) := by decide +kernel
theorem dX12_compute_167 : decode cX12_compute 167 = .ok (.iload_n 2, 1) := by decide +kernel
theorem dX12_compute_168 : decode cX12_compute 168 = .ok (.iload_n 3, 1) := by decide +kernel
theorem dX12_compute_169 : decode cX12_compute 169 = .ok (.if_icmp .eq 7, 3) := by decide +kernel
theorem dX12_compute_172 : decode cX12_compute 172 = .ok (.iconst 1, 1) := by decide +kernel
theorem dX12_compute_173 : decode cX12_compute 173 = .ok (.goto 4, 3) := by decide +kernel
theorem dX12_compute_176 : decode cX12_compute 176 = .ok (.iconst 0, 1) := by decide +kernel
theorem dX12_compute_177 : decode cX12_compute 177 = .ok (.ireturn, 1) := by decide +kernel
theorem dX12_caseOf_0 : decode cX12_caseOf 0 = .ok (.iconst (-1), 1) := by decide +kernel
theorem dX12_caseOf_1 : decode cX12_caseOf 1 = .ok (.istore_n 3, 1) := by decide +kernel
theorem dX12_caseOf_2 : decode cX12_caseOf 2 = .ok (.iload_n 1, 1) := by decide +kernel
theorem dX12_caseOf_3 : decode cX12_caseOf 3 = .ok (.istore 4, 2) := by decide +kernel
end
