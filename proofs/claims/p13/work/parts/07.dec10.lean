theorem dX12_groups_162 : decode cX12_groups 162 = .ok (.aload_n 0, 1) := by decide +kernel
theorem dX12_groups_163 : decode cX12_groups 163 = .ok (.iconst 3, 1) := by decide +kernel
theorem dX12_groups_164 : decode cX12_groups 164 = .ok (.iconst 1, 1) := by decide +kernel
theorem dX12_groups_165 : decode cX12_groups 165 = .ok (.invokevirtual 393, 3) := by decide +kernel
theorem dX12_groups_168 : decode cX12_groups 168 = .ok (.goto 195, 3) := by decide +kernel
theorem dX12_groups_171 : decode cX12_groups 171 = .ok (.aload_n 0, 1) := by decide +kernel
theorem dX12_groups_172 : decode cX12_groups 172 = .ok (.getfield 307, 3) := by decide +kernel
theorem dX12_groups_175 : decode cX12_groups 175 = .ok (.sipush 430, 3) := by decide +kernel
theorem dX12_groups_178 : decode cX12_groups 178 = .ok (.if_icmp .ne 57, 3) := by decide +kernel
theorem dX12_groups_181 : decode cX12_groups 181 = .ok (.aload_n 0, 1) := by decide +kernel
theorem dX12_groups_182 : decode cX12_groups 182 = .ok (.getfield 186, 3) := by decide +kernel
theorem dX12_groups_185 : decode cX12_groups 185 = .ok (.iload_n 1, 1) := by decide +kernel
theorem dX12_groups_186 : decode cX12_groups 186 = .ok (.iaload, 1) := by decide +kernel
theorem dX12_groups_187 : decode cX12_groups 187 = .ok (.iconst 1, 1) := by decide +kernel
theorem dX12_groups_188 : decode cX12_groups 188 = .ok (.if_icmp .ne 13, 3) := by decide +kernel
theorem dX12_groups_191 : decode cX12_groups 191 = .ok (.aload_n 0, 1) := by decide +kernel
theorem dX12_groups_192 : decode cX12_groups 192 = .ok (.iconst 4, 1) := by decide +kernel
theorem dX12_groups_193 : decode cX12_groups 193 = .ok (.aload_n 0, 1) := by decide +kernel
theorem dX12_groups_194 : decode cX12_groups 194 = .ok (.getfield 304, 3) := by decide +kernel
theorem dX12_groups_197 : decode cX12_groups 197 = .ok (.invokevirtual 337, 3) := by decide +kernel
theorem dX12_groups_200 : decode cX12_groups 200 = .ok (.return_, 1) := by decide +kernel
theorem dX12_groups_201 : decode cX12_groups 201 = .ok (.aload_n 0, 1) := by decide +kernel
theorem dX12_groups_202 : decode cX12_groups 202 = .ok (.getfield 186, 3) := by decide +kernel
theorem dX12_groups_205 : decode cX12_groups 205 = .ok (.iload_n 1, 1) := by decide +kernel
theorem dX12_groups_206 : decode cX12_groups 206 = .ok (.iconst 1, 1) := by decide +kernel
theorem dX12_groups_207 : decode cX12_groups 207 = .ok (.iastore, 1) := by decide +kernel
theorem dX12_groups_208 : decode cX12_groups 208 = .ok (.aload_n 0, 1) := by decide +kernel
theorem dX12_groups_209 : decode cX12_groups 209 = .ok (.iload_n 1, 1) := by decide +kernel
theorem dX12_groups_210 : decode cX12_groups 210 = .ok (.iconst 0, 1) := by decide +kernel
theorem dX12_groups_211 : decode cX12_groups 211 = .ok (.iconst 1, 1) := by decide +kernel
theorem dX12_groups_212 : decode cX12_groups 212 = .ok (.invokevirtual 481, 3) := by decide +kernel
theorem dX12_groups_215 : decode cX12_groups 215 = .ok (.aload_n 0, 1) := by decide +kernel
theorem dX12_groups_216 : decode cX12_groups 216 = .ok (.invokevirtual 345, 3) := by decide +kernel
theorem dX12_groups_219 : decode cX12_groups 219 = .ok (.aload_n 0, 1) := by decide +kernel
theorem dX12_groups_220 : decode cX12_groups 220 = .ok (.bipush 58, 2) := by decide +kernel
theorem dX12_groups_222 : decode cX12_groups 222 = .ok (.invokevirtual 355, 3) := by decide +kernel
theorem dX12_groups_225 : decode cX12_groups 225 = .ok (.pop, 1) := by decide +kernel
theorem dX12_groups_226 : decode cX12_groups 226 = .ok (.aload_n 0, 1) := by decide +kernel
theorem dX12_groups_227 : decode cX12_groups 227 = .ok (.iconst 3, 1) := by decide +kernel
theorem dX12_groups_228 : decode cX12_groups 228 = .ok (.iconst 1, 1) := by decide +kernel
theorem dX12_groups_229 : decode cX12_groups 229 = .ok (.invokevirtual 393, 3) := by decide +kernel
theorem dX12_groups_232 : decode cX12_groups 232 = .ok (.goto 131, 3) := by decide +kernel
theorem dX12_groups_235 : decode cX12_groups 235 = .ok (.aload_n 0, 1) := by decide +kernel
theorem dX12_groups_236 : decode cX12_groups 236 = .ok (.bipush 125, 2) := by decide +kernel
theorem dX12_groups_238 : decode cX12_groups 238 = .ok (.invokevirtual 468, 3) := by decide +kernel
theorem dX12_groups_241 : decode cX12_groups 241 = .ok (.pop, 1) := by decide +kernel
theorem dX12_groups_242 : decode cX12_groups 242 = .ok (.aload_n 0, 1) := by decide +kernel
theorem dX12_groups_243 : decode cX12_groups 243 = .ok (.getfield 198, 3) := by decide +kernel
theorem dX12_groups_246 : decode cX12_groups 246 = .ok (.iload_n 1, 1) := by decide +kernel
theorem dX12_groups_247 : decode cX12_groups 247 = .ok (.iaload, 1) := by decide +kernel
theorem dX12_groups_248 : decode cX12_groups 248 = .ok (.istore_n 2, 1) := by decide +kernel
theorem dX12_groups_249 : decode cX12_groups 249 = .ok (.aload_n 0, 1) := by decide +kernel
theorem dX12_groups_250 : decode cX12_groups 250 = .ok (.getfield 90, 3) := by decide +kernel
theorem dX12_groups_253 : decode cX12_groups 253 = .ok (.aload_n 0, 1) := by decide +kernel
theorem dX12_groups_254 : decode cX12_groups 254 = .ok (.getfield 180, 3) := by decide +kernel
theorem dX12_groups_257 : decode cX12_groups 257 = .ok (.iload_n 1, 1) := by decide +kernel
theorem dX12_groups_258 : decode cX12_groups 258 = .ok (.iaload, 1) := by decide +kernel
theorem dX12_groups_259 : decode cX12_groups 259 = .ok (.aload_n 0, 1) := by decide +kernel
theorem dX12_groups_260 : decode cX12_groups 260 = .ok (.getfield 358, 3) := by decide +kernel
theorem dX12_groups_263 : decode cX12_groups 263 = .ok (.iastore, 1) := by decide +kernel
theorem dX12_groups_264 : decode cX12_groups 264 = .ok (.aload_n 0, 1) := by decide +kernel
theorem dX12_groups_265 : decode cX12_groups 265 = .ok (.aload_n 0, 1) := by decide +kernel
theorem dX12_groups_266 : decode cX12_groups 266 = .ok (.getfield 147, 3) := by decide +kernel
theorem dX12_groups_269 : decode cX12_groups 269 = .ok (.iload_n 2, 1) := by decide +kernel
theorem dX12_groups_270 : decode cX12_groups 270 = .ok (.iaload, 1) := by decide +kernel
theorem dX12_groups_271 : decode cX12_groups 271 = .ok (.aload_n 0, 1) := by decide +kernel
theorem dX12_groups_272 : decode cX12_groups 272 = .ok (.getfield 358, 3) := by decide +kernel
theorem dX12_groups_275 : decode cX12_groups 275 = .ok (.invokevirtual 510, 3) := by decide +kernel
theorem dX12_groups_278 : decode cX12_groups 278 = .ok (.aload_n 0, 1) := by decide +kernel
theorem dX12_groups_279 : decode cX12_groups 279 = .ok (.dup, 1) := by decide +kernel
theorem dX12_groups_280 : decode cX12_groups 280 = .ok (.getfield 367, 3) := by decide +kernel
theorem dX12_groups_283 : decode cX12_groups 283 = .ok (.iconst 1, 1) := by decide +kernel
theorem dX12_groups_284 : decode cX12_groups 284 = .ok (.isub, 1) := by decide +kernel
theorem dX12_groups_285 : decode cX12_groups 285 = .ok (.putfield 367, 3) := by decide +kernel
theorem dX12_groups_288 : decode cX12_groups 288 = .ok (.aload_n 0, 1) := by decide +kernel
theorem dX12_groups_289 : decode cX12_groups 289 = .ok (.aload_n 0, 1) := by decide +kernel
theorem dX12_groups_290 : decode cX12_groups 290 = .ok (.getfield 195, 3) := by decide +kernel
theorem dX12_groups_293 : decode cX12_groups 293 = .ok (.iload_n 1, 1) := by decide +kernel
theorem dX12_groups_294 : decode cX12_groups 294 = .ok (.iaload, 1) := by decide +kernel
theorem dX12_groups_295 : decode cX12_groups 295 = .ok (.putfield 361, 3) := by decide +kernel
theorem dX12_groups_298 : decode cX12_groups 298 = .ok (.aload_n 0, 1) := by decide +kernel
theorem dX12_groups_299 : decode cX12_groups 299 = .ok (.aload_n 0, 1) := by decide +kernel
theorem dX12_groups_300 : decode cX12_groups 300 = .ok (.getfield 192, 3) := by decide +kernel
theorem dX12_groups_303 : decode cX12_groups 303 = .ok (.iload_n 1, 1) := by decide +kernel
theorem dX12_groups_304 : decode cX12_groups 304 = .ok (.iaload, 1) := by decide +kernel
theorem dX12_groups_305 : decode cX12_groups 305 = .ok (.iconst 1, 1) := by decide +kernel
theorem dX12_groups_306 : decode cX12_groups 306 = .ok (.if_icmp .eq 21, 3) := by decide +kernel
theorem dX12_groups_309 : decode cX12_groups 309 = .ok (.aload_n 0, 1) := by decide +kernel
theorem dX12_groups_310 : decode cX12_groups 310 = .ok (.getfield 186, 3) := by decide +kernel
theorem dX12_groups_313 : decode cX12_groups 313 = .ok (.iload_n 1, 1) := by decide +kernel
theorem dX12_groups_314 : decode cX12_groups 314 = .ok (.iaload, 1) := by decide +kernel
theorem dX12_groups_315 : decode cX12_groups 315 = .ok (.ifCond .eq 12, 3) := by decide +kernel
theorem dX12_groups_318 : decode cX12_groups 318 = .ok (.aload_n 0, 1) := by decide +kernel
theorem dX12_groups_319 : decode cX12_groups 319 = .ok (.getfield 153, 3) := by decide +kernel
theorem dX12_groups_322 : decode cX12_groups 322 = .ok (.iload_n 2, 1) := by decide +kernel
theorem dX12_groups_323 : decode cX12_groups 323 = .ok (.baload, 1) := by decide +kernel
theorem dX12_groups_324 : decode cX12_groups 324 = .ok (.ifCond .eq 7, 3) := by decide +kernel
theorem dX12_groups_327 : decode cX12_groups 327 = .ok (.iconst 1, 1) := by decide +kernel
theorem dX12_groups_328 : decode cX12_groups 328 = .ok (.goto 4, 3) := by decide +kernel
theorem dX12_groups_331 : decode cX12_groups 331 = .ok (.iconst 0, 1) := by decide +kernel
theorem dX12_groups_332 : decode cX12_groups 332 = .ok (.invokevirtual 490, 3) := by decide +kernel
theorem dX12_groups_335 : decode cX12_groups 335 = .ok (.goto 28, 3) := by decide +kernel
theorem dX12_groups_338 : decode cX12_groups 338 = .ok (.aload_n 0, 1) := by decide +kernel
theorem dX12_groups_339 : decode cX12_groups 339 = .ok (.getfield 192, 3) := by decide +kernel
theorem dX12_groups_342 : decode cX12_groups 342 = .ok (.iload_n 1, 1) := by decide +kernel
theorem dX12_groups_343 : decode cX12_groups 343 = .ok (.aload_n 0, 1) := by decide +kernel
theorem dX12_groups_344 : decode cX12_groups 344 = .ok (.getfield 396, 3) := by decide +kernel
theorem dX12_groups_347 : decode cX12_groups 347 = .ok (.ifCond .eq 7, 3) := by decide +kernel
theorem dX12_groups_350 : decode cX12_groups 350 = .ok (.iconst 1, 1) := by decide +kernel
theorem dX12_groups_351 : decode cX12_groups 351 = .ok (.goto 4, 3) := by decide +kernel
theorem dX12_groups_354 : decode cX12_groups 354 = .ok (.iconst 0, 1) := by decide +kernel
theorem dX12_groups_355 : decode cX12_groups 355 = .ok (.iastore, 1) := by decide +kernel
theorem dX12_groups_356 : decode cX12_groups 356 = .ok (.aload_n 0, 1) := by decide +kernel
theorem dX12_groups_357 : decode cX12_groups 357 = .ok (.getfield 177, 3) := by decide +kernel
theorem dX12_groups_360 : decode cX12_groups 360 = .ok (.iload_n 1, 1) := by decide +kernel
theorem dX12_groups_361 : decode cX12_groups 361 = .ok (.iconst 2, 1) := by decide +kernel
theorem dX12_groups_362 : decode cX12_groups 362 = .ok (.iastore, 1) := by decide +kernel
theorem dX12_groups_363 : decode cX12_groups 363 = .ok (.return_, 1) := by decide +kernel
theorem dX12_trying_0 : decode cX12_trying 0 = .ok (.aload_n 0, 1) := by decide +kernel
theorem dX12_trying_1 : decode cX12_trying 1 = .ok (.getfield 177, 3) := by decide +kernel
theorem dX12_trying_4 : decode cX12_trying 4 = .ok (.iload_n 1, 1) := by decide +kernel
theorem dX12_trying_5 : decode cX12_trying 5 = .ok (.iaload, 1) := by decide +kernel
theorem dX12_trying_6 : decode cX12_trying 6 = .ok (.tableswitch 491 0 3 #[30, 263, 304, 430], 30) := by decide +kernel
theorem dX12_trying_36 : decode cX12_trying 36 = .ok (.aload_n 0, 1) := by decide +kernel
theorem dX12_trying_37 : decode cX12_trying 37 = .ok (.invokevirtual 345, 3) := by decide +kernel
theorem dX12_trying_40 : decode cX12_trying 40 = .ok (.aload_n 0, 1) := by decide +kernel
theorem dX12_trying_41 : decode cX12_trying 41 = .ok (.getfield 180, 3) := by decide +kernel
theorem dX12_trying_44 : decode cX12_trying 44 = .ok (.iload_n 1, 1) := by decide +kernel
theorem dX12_trying_45 : decode cX12_trying 45 = .ok (.aload_n 0, 1) := by decide +kernel
theorem dX12_trying_46 : decode cX12_trying 46 = .ok (.getfield 549, 3) := by decide +kernel
theorem dX12_trying_49 : decode cX12_trying 49 = .ok (.iastore, 1) := by decide +kernel
theorem dX12_trying_50 : decode cX12_trying 50 = .ok (.aload_n 0, 1) := by decide +kernel
theorem dX12_trying_51 : decode cX12_trying 51 = .ok (.getfield 105, 3) := by decide +kernel
theorem dX12_trying_54 : decode cX12_trying 54 = .ok (.aload_n 0, 1) := by decide +kernel
theorem dX12_trying_55 : decode cX12_trying 55 = .ok (.getfield 549, 3) := by decide +kernel
theorem dX12_trying_58 : decode cX12_trying 58 = .ok (.iconst (-1), 1) := by decide +kernel
theorem dX12_trying_59 : decode cX12_trying 59 = .ok (.iastore, 1) := by decide +kernel
theorem dX12_trying_60 : decode cX12_trying 60 = .ok (.aload_n 0, 1) := by decide +kernel
theorem dX12_trying_61 : decode cX12_trying 61 = .ok (.getfield 108, 3) := by decide +kernel
theorem dX12_trying_64 : decode cX12_trying 64 = .ok (.aload_n 0, 1) := by decide +kernel
theorem dX12_trying_65 : decode cX12_trying 65 = .ok (.getfield 549, 3) := by decide +kernel
theorem dX12_trying_68 : decode cX12_trying 68 = .ok (.iconst (-1), 1) := by decide +kernel
theorem dX12_trying_69 : decode cX12_trying 69 = .ok (.iastore, 1) := by decide +kernel
theorem dX12_trying_70 : decode cX12_trying 70 = .ok (.aload_n 0, 1) := by decide +kernel
theorem dX12_trying_71 : decode cX12_trying 71 = .ok (.dup, 1) := by decide +kernel
theorem dX12_trying_72 : decode cX12_trying 72 = .ok (.getfield 549, 3) := by decide +kernel
theorem dX12_trying_75 : decode cX12_trying 75 = .ok (.iconst 1, 1) := by decide +kernel
theorem dX12_trying_76 : decode cX12_trying 76 = .ok (.iadd, 1) := by decide +kernel
theorem dX12_trying_77 : decode cX12_trying 77 = .ok (.putfield 549, 3) := by decide +kernel
theorem dX12_trying_80 : decode cX12_trying 80 = .ok (.aload_n 0, 1) := by decide +kernel
theorem dX12_trying_81 : decode cX12_trying 81 = .ok (.bipush 31, 2) := by decide +kernel
theorem dX12_trying_83 : decode cX12_trying 83 = .ok (.aload_n 0, 1) := by decide +kernel
theorem dX12_trying_84 : decode cX12_trying 84 = .ok (.getfield 180, 3) := by decide +kernel
theorem dX12_trying_87 : decode cX12_trying 87 = .ok (.iload_n 1, 1) := by decide +kernel
theorem dX12_trying_88 : decode cX12_trying 88 = .ok (.iaload, 1) := by decide +kernel
theorem dX12_trying_89 : decode cX12_trying 89 = .ok (.invokevirtual 464, 3) := by decide +kernel
theorem dX12_trying_92 : decode cX12_trying 92 = .ok (.pop, 1) := by decide +kernel
theorem dX12_trying_93 : decode cX12_trying 93 = .ok (.aload_n 0, 1) := by decide +kernel
theorem dX12_trying_94 : decode cX12_trying 94 = .ok (.dup, 1) := by decide +kernel
theorem dX12_trying_95 : decode cX12_trying 95 = .ok (.getfield 370, 3) := by decide +kernel
theorem dX12_trying_98 : decode cX12_trying 98 = .ok (.iconst 1, 1) := by decide +kernel
theorem dX12_trying_99 : decode cX12_trying 99 = .ok (.iadd, 1) := by decide +kernel
theorem dX12_trying_100 : decode cX12_trying 100 = .ok (.putfield 370, 3) := by decide +kernel
theorem dX12_trying_103 : decode cX12_trying 103 = .ok (.aload_n 0, 1) := by decide +kernel
theorem dX12_trying_104 : decode cX12_trying 104 = .ok (.getfield 183, 3) := by decide +kernel
theorem dX12_trying_107 : decode cX12_trying 107 = .ok (.iload_n 1, 1) := by decide +kernel
theorem dX12_trying_108 : decode cX12_trying 108 = .ok (.aload_n 0, 1) := by decide +kernel
theorem dX12_trying_109 : decode cX12_trying 109 = .ok (.getfield 307, 3) := by decide +kernel
theorem dX12_trying_112 : decode cX12_trying 112 = .ok (.sipush 424, 3) := by decide +kernel
theorem dX12_trying_115 : decode cX12_trying 115 = .ok (.if_icmp .ne 7, 3) := by decide +kernel
theorem dX12_trying_118 : decode cX12_trying 118 = .ok (.iconst 1, 1) := by decide +kernel
theorem dX12_trying_119 : decode cX12_trying 119 = .ok (.goto 4, 3) := by decide +kernel
theorem dX12_trying_122 : decode cX12_trying 122 = .ok (.iconst 0, 1) := by decide +kernel
theorem dX12_trying_123 : decode cX12_trying 123 = .ok (.iastore, 1) := by decide +kernel
theorem dX12_trying_124 : decode cX12_trying 124 = .ok (.aload_n 0, 1) := by decide +kernel
theorem dX12_trying_125 : decode cX12_trying 125 = .ok (.getfield 307, 3) := by decide +kernel
theorem dX12_trying_128 : decode cX12_trying 128 = .ok (.sipush 424, 3) := by decide +kernel
theorem dX12_trying_131 : decode cX12_trying 131 = .ok (.if_icmp .ne 7, 3) := by decide +kernel
theorem dX12_trying_134 : decode cX12_trying 134 = .ok (.iconst 1, 1) := by decide +kernel
theorem dX12_trying_135 : decode cX12_trying 135 = .ok (.goto 4, 3) := by decide +kernel
theorem dX12_trying_138 : decode cX12_trying 138 = .ok (.iconst 0, 1) := by decide +kernel
theorem dX12_trying_139 : decode cX12_trying 139 = .ok (.istore_n 2, 1) := by decide +kernel
theorem dX12_trying_140 : decode cX12_trying 140 = .ok (.iload_n 2, 1) := by decide +kernel
theorem dX12_trying_141 : decode cX12_trying 141 = .ok (.ifCond .eq 74, 3) := by decide +kernel
theorem dX12_trying_144 : decode cX12_trying 144 = .ok (.aload_n 0, 1) := by decide +kernel
theorem dX12_trying_145 : decode cX12_trying 145 = .ok (.getfield 291, 3) := by decide +kernel
theorem dX12_trying_148 : decode cX12_trying 148 = .ok (.ifCond .ne 67, 3) := by decide +kernel
theorem dX12_trying_151 : decode cX12_trying 151 = .ok (.aload_n 0, 1) := by decide +kernel
theorem dX12_trying_152 : decode cX12_trying 152 = .ok (.invokevirtual 345, 3) := by decide +kernel
theorem dX12_trying_155 : decode cX12_trying 155 = .ok (.aload_n 0, 1) := by decide +kernel
theorem dX12_trying_156 : decode cX12_trying 156 = .ok (.aload_n 0, 1) := by decide +kernel
theorem dX12_trying_157 : decode cX12_trying 157 = .ok (.getfield 307, 3) := by decide +kernel
theorem dX12_trying_160 : decode cX12_trying 160 = .ok (.iconst 4, 1) := by decide +kernel
theorem dX12_trying_161 : decode cX12_trying 161 = .ok (.if_icmp .ne 7, 3) := by decide +kernel
theorem dX12_trying_164 : decode cX12_trying 164 = .ok (.iconst 1, 1) := by decide +kernel
theorem dX12_trying_165 : decode cX12_trying 165 = .ok (.goto 4, 3) := by decide +kernel
theorem dX12_trying_168 : decode cX12_trying 168 = .ok (.iconst 0, 1) := by decide +kernel
theorem dX12_trying_169 : decode cX12_trying 169 = .ok (.invokevirtual 341, 3) := by decide +kernel
theorem dX12_trying_172 : decode cX12_trying 172 = .ok (.ifCond .eq 18, 3) := by decide +kernel
theorem dX12_trying_175 : decode cX12_trying 175 = .ok (.aload_n 0, 1) := by decide +kernel
theorem dX12_trying_176 : decode cX12_trying 176 = .ok (.bipush 32, 2) := by decide +kernel
theorem dX12_trying_178 : decode cX12_trying 178 = .ok (.aload_n 0, 1) := by decide +kernel
theorem dX12_trying_179 : decode cX12_trying 179 = .ok (.getfield 314, 3) := by decide +kernel
theorem dX12_trying_182 : decode cX12_trying 182 = .ok (.invokevirtual 464, 3) := by decide +kernel
theorem dX12_trying_185 : decode cX12_trying 185 = .ok (.pop, 1) := by decide +kernel
theorem dX12_trying_186 : decode cX12_trying 186 = .ok (.aload_n 0, 1) := by decide +kernel
theorem dX12_trying_187 : decode cX12_trying 187 = .ok (.invokevirtual 345, 3) := by decide +kernel
theorem dX12_trying_190 : decode cX12_trying 190 = .ok (.aload_n 0, 1) := by decide +kernel
theorem dX12_trying_191 : decode cX12_trying 191 = .ok (.getfield 291, 3) := by decide +kernel
theorem dX12_trying_194 : decode cX12_trying 194 = .ok (.ifCond .ne 16, 3) := by decide +kernel
theorem dX12_trying_197 : decode cX12_trying 197 = .ok (.aload_n 0, 1) := by decide +kernel
theorem dX12_trying_198 : decode cX12_trying 198 = .ok (.getfield 307, 3) := by decide +kernel
theorem dX12_trying_201 : decode cX12_trying 201 = .ok (.bipush 44, 2) := by decide +kernel
theorem dX12_trying_203 : decode cX12_trying 203 = .ok (.if_icmp .ne 7, 3) := by decide +kernel
theorem dX12_trying_206 : decode cX12_trying 206 = .ok (.iconst 1, 1) := by decide +kernel
theorem dX12_trying_207 : decode cX12_trying 207 = .ok (.goto 4, 3) := by decide +kernel
theorem dX12_trying_210 : decode cX12_trying 210 = .ok (.iconst 0, 1) := by decide +kernel
theorem dX12_trying_211 : decode cX12_trying 211 = .ok (.istore_n 2, 1) := by decide +kernel
theorem dX12_trying_212 : decode cX12_trying 212 = .ok (.goto (-72), 3) := by decide +kernel
theorem dX12_trying_215 : decode cX12_trying 215 = .ok (.aload_n 0, 1) := by decide +kernel
theorem dX12_trying_216 : decode cX12_trying 216 = .ok (.getfield 159, 3) := by decide +kernel
theorem dX12_trying_219 : decode cX12_trying 219 = .ok (.aload_n 0, 1) := by decide +kernel
theorem dX12_trying_220 : decode cX12_trying 220 = .ok (.getfield 377, 3) := by decide +kernel
theorem dX12_trying_223 : decode cX12_trying 223 = .ok (.aload_n 0, 1) := by decide +kernel
theorem dX12_trying_224 : decode cX12_trying 224 = .ok (.getfield 180, 3) := by decide +kernel
theorem dX12_trying_227 : decode cX12_trying 227 = .ok (.iload_n 1, 1) := by decide +kernel
theorem dX12_trying_228 : decode cX12_trying 228 = .ok (.iaload, 1) := by decide +kernel
theorem dX12_trying_229 : decode cX12_trying 229 = .ok (.iastore, 1) := by decide +kernel
theorem dX12_trying_230 : decode cX12_trying 230 = .ok (.aload_n 0, 1) := by decide +kernel
theorem dX12_trying_231 : decode cX12_trying 231 = .ok (.getfield 162, 3) := by decide +kernel
theorem dX12_trying_234 : decode cX12_trying 234 = .ok (.aload_n 0, 1) := by decide +kernel
theorem dX12_trying_235 : decode cX12_trying 235 = .ok (.getfield 377, 3) := by decide +kernel
theorem dX12_trying_238 : decode cX12_trying 238 = .ok (.aload_n 0, 1) := by decide +kernel
theorem dX12_trying_239 : decode cX12_trying 239 = .ok (.getfield 367, 3) := by decide +kernel
theorem dX12_trying_242 : decode cX12_trying 242 = .ok (.iastore, 1) := by decide +kernel
theorem dX12_trying_243 : decode cX12_trying 243 = .ok (.aload_n 0, 1) := by decide +kernel
theorem dX12_trying_244 : decode cX12_trying 244 = .ok (.dup, 1) := by decide +kernel
theorem dX12_trying_245 : decode cX12_trying 245 = .ok (.getfield 377, 3) := by decide +kernel
theorem dX12_trying_248 : decode cX12_trying 248 = .ok (.iconst 1, 1) := by decide +kernel
theorem dX12_trying_249 : decode cX12_trying 249 = .ok (.iadd, 1) := by decide +kernel
theorem dX12_trying_250 : decode cX12_trying 250 = .ok (.putfield 377, 3) := by decide +kernel
theorem dX12_trying_253 : decode cX12_trying 253 = .ok (.aload_n 0, 1) := by decide +kernel
theorem dX12_trying_254 : decode cX12_trying 254 = .ok (.getfield 198, 3) := by decide +kernel
theorem dX12_trying_257 : decode cX12_trying 257 = .ok (.iload_n 1, 1) := by decide +kernel
theorem dX12_trying_258 : decode cX12_trying 258 = .ok (.iconst (-1), 1) := by decide +kernel
theorem dX12_trying_259 : decode cX12_trying 259 = .ok (.iastore, 1) := by decide +kernel
theorem dX12_trying_260 : decode cX12_trying 260 = .ok (.aload_n 0, 1) := by decide +kernel
theorem dX12_trying_261 : decode cX12_trying 261 = .ok (.iconst 1, 1) := by decide +kernel
theorem dX12_trying_262 : decode cX12_trying 262 = .ok (.iconst 3, 1) := by decide +kernel
theorem dX12_trying_263 : decode cX12_trying 263 = .ok (.invokevirtual 393, 3) := by decide +kernel
theorem dX12_trying_266 : decode cX12_trying 266 = .ok (.goto 253, 3) := by decide +kernel
theorem dX12_trying_269 : decode cX12_trying 269 = .ok (.aload_n 0, 1) := by decide +kernel
theorem dX12_trying_270 : decode cX12_trying 270 = .ok (.getfield 186, 3) := by decide +kernel
theorem dX12_trying_273 : decode cX12_trying 273 = .ok (.iload_n 1, 1) := by decide +kernel
theorem dX12_trying_274 : decode cX12_trying 274 = .ok (.aload_n 0, 1) := by decide +kernel
theorem dX12_trying_275 : decode cX12_trying 275 = .ok (.getfield 396, 3) := by decide +kernel
theorem dX12_trying_278 : decode cX12_trying 278 = .ok (.ifCond .eq 7, 3) := by decide +kernel
theorem dX12_trying_281 : decode cX12_trying 281 = .ok (.iconst 1, 1) := by decide +kernel
theorem dX12_trying_282 : decode cX12_trying 282 = .ok (.goto 4, 3) := by decide +kernel
theorem dX12_trying_285 : decode cX12_trying 285 = .ok (.iconst 0, 1) := by decide +kernel
theorem dX12_trying_286 : decode cX12_trying 286 = .ok (.iastore, 1) := by decide +kernel
theorem dX12_trying_287 : decode cX12_trying 287 = .ok (.aload_n 0, 1) := by decide +kernel
theorem dX12_trying_288 : decode cX12_trying 288 = .ok (.bipush 33, 2) := by decide +kernel
theorem dX12_trying_290 : decode cX12_trying 290 = .ok (.aload_n 0, 1) := by decide +kernel
theorem dX12_trying_291 : decode cX12_trying 291 = .ok (.getfield 180, 3) := by decide +kernel
theorem dX12_trying_294 : decode cX12_trying 294 = .ok (.iload_n 1, 1) := by decide +kernel
theorem dX12_trying_295 : decode cX12_trying 295 = .ok (.iaload, 1) := by decide +kernel
theorem dX12_trying_296 : decode cX12_trying 296 = .ok (.invokevirtual 464, 3) := by decide +kernel
theorem dX12_trying_299 : decode cX12_trying 299 = .ok (.pop, 1) := by decide +kernel
theorem dX12_trying_300 : decode cX12_trying 300 = .ok (.aload_n 0, 1) := by decide +kernel
theorem dX12_trying_301 : decode cX12_trying 301 = .ok (.getfield 177, 3) := by decide +kernel
theorem dX12_trying_304 : decode cX12_trying 304 = .ok (.iload_n 1, 1) := by decide +kernel
theorem dX12_trying_305 : decode cX12_trying 305 = .ok (.iconst 2, 1) := by decide +kernel
theorem dX12_trying_306 : decode cX12_trying 306 = .ok (.iastore, 1) := by decide +kernel
theorem dX12_trying_307 : decode cX12_trying 307 = .ok (.goto 212, 3) := by decide +kernel
theorem dX12_trying_310 : decode cX12_trying 310 = .ok (.aload_n 0, 1) := by decide +kernel
theorem dX12_trying_311 : decode cX12_trying 311 = .ok (.getfield 307, 3) := by decide +kernel
theorem dX12_trying_314 : decode cX12_trying 314 = .ok (.sipush 425, 3) := by decide +kernel
theorem dX12_trying_317 : decode cX12_trying 317 = .ok (.if_icmp .ne 21, 3) := by decide +kernel
theorem dX12_trying_320 : decode cX12_trying 320 = .ok (.aload_n 0, 1) := by decide +kernel
theorem dX12_trying_321 : decode cX12_trying 321 = .ok (.getfield 195, 3) := by decide +kernel
theorem dX12_trying_324 : decode cX12_trying 324 = .ok (.iload_n 1, 1) := by decide +kernel
theorem dX12_trying_325 : decode cX12_trying 325 = .ok (.aload_n 0, 1) := by decide +kernel
theorem dX12_trying_326 : decode cX12_trying 326 = .ok (.getfield 361, 3) := by decide +kernel
theorem dX12_trying_329 : decode cX12_trying 329 = .ok (.iastore, 1) := by decide +kernel
theorem dX12_trying_330 : decode cX12_trying 330 = .ok (.aload_n 0, 1) := by decide +kernel
theorem dX12_trying_331 : decode cX12_trying 331 = .ok (.iload_n 1, 1) := by decide +kernel
theorem dX12_trying_332 : decode cX12_trying 332 = .ok (.invokevirtual 552, 3) := by decide +kernel
theorem dX12_trying_335 : decode cX12_trying 335 = .ok (.goto 184, 3) := by decide +kernel
theorem dX12_trying_338 : decode cX12_trying 338 = .ok (.aload_n 0, 1) := by decide +kernel
theorem dX12_trying_339 : decode cX12_trying 339 = .ok (.getfield 307, 3) := by decide +kernel
theorem dX12_trying_342 : decode cX12_trying 342 = .ok (.sipush 426, 3) := by decide +kernel
theorem dX12_trying_345 : decode cX12_trying 345 = .ok (.if_icmp .ne 41, 3) := by decide +kernel
theorem dX12_trying_348 : decode cX12_trying 348 = .ok (.aload_n 0, 1) := by decide +kernel
theorem dX12_trying_349 : decode cX12_trying 349 = .ok (.dup, 1) := by decide +kernel
theorem dX12_trying_350 : decode cX12_trying 350 = .ok (.getfield 377, 3) := by decide +kernel
theorem dX12_trying_353 : decode cX12_trying 353 = .ok (.iconst 1, 1) := by decide +kernel
theorem dX12_trying_354 : decode cX12_trying 354 = .ok (.isub, 1) := by decide +kernel
theorem dX12_trying_355 : decode cX12_trying 355 = .ok (.putfield 377, 3) := by decide +kernel
theorem dX12_trying_358 : decode cX12_trying 358 = .ok (.aload_n 0, 1) := by decide +kernel
theorem dX12_trying_359 : decode cX12_trying 359 = .ok (.invokevirtual 345, 3) := by decide +kernel
theorem dX12_trying_362 : decode cX12_trying 362 = .ok (.aload_n 0, 1) := by decide +kernel
theorem dX12_trying_363 : decode cX12_trying 363 = .ok (.getfield 108, 3) := by decide +kernel
theorem dX12_trying_366 : decode cX12_trying 366 = .ok (.aload_n 0, 1) := by decide +kernel
theorem dX12_trying_367 : decode cX12_trying 367 = .ok (.getfield 180, 3) := by decide +kernel
theorem dX12_trying_370 : decode cX12_trying 370 = .ok (.iload_n 1, 1) := by decide +kernel
theorem dX12_trying_371 : decode cX12_trying 371 = .ok (.iaload, 1) := by decide +kernel
theorem dX12_trying_372 : decode cX12_trying 372 = .ok (.aload_n 0, 1) := by decide +kernel
theorem dX12_trying_373 : decode cX12_trying 373 = .ok (.getfield 358, 3) := by decide +kernel
theorem dX12_trying_376 : decode cX12_trying 376 = .ok (.iastore, 1) := by decide +kernel
theorem dX12_trying_377 : decode cX12_trying 377 = .ok (.aload_n 0, 1) := by decide +kernel
theorem dX12_trying_378 : decode cX12_trying 378 = .ok (.iconst 4, 1) := by decide +kernel
theorem dX12_trying_379 : decode cX12_trying 379 = .ok (.iconst 3, 1) := by decide +kernel
theorem dX12_trying_380 : decode cX12_trying 380 = .ok (.invokevirtual 393, 3) := by decide +kernel
theorem dX12_trying_383 : decode cX12_trying 383 = .ok (.goto 136, 3) := by decide +kernel
theorem dX12_trying_386 : decode cX12_trying 386 = .ok (.aload_n 0, 1) := by decide +kernel
theorem dX12_trying_387 : decode cX12_trying 387 = .ok (.aload_n 0, 1) := by decide +kernel
theorem dX12_trying_388 : decode cX12_trying 388 = .ok (.getfield 183, 3) := by decide +kernel
theorem dX12_trying_391 : decode cX12_trying 391 = .ok (.iload_n 1, 1) := by decide +kernel
theorem dX12_trying_392 : decode cX12_trying 392 = .ok (.iaload, 1) := by decide +kernel
theorem dX12_trying_393 : decode cX12_trying 393 = .ok (.iconst 1, 1) := by decide +kernel
theorem dX12_trying_394 : decode cX12_trying 394 = .ok (.if_icmp .eq 12, 3) := by decide +kernel
theorem dX12_trying_397 : decode cX12_trying 397 = .ok (.aload_n 0, 1) := by decide +kernel
theorem dX12_trying_398 : decode cX12_trying 398 = .ok (.getfield 198, 3) := by decide +kernel
theorem dX12_trying_401 : decode cX12_trying 401 = .ok (.iload_n 1, 1) := by decide +kernel
theorem dX12_trying_402 : decode cX12_trying 402 = .ok (.iaload, 1) := by decide +kernel
theorem dX12_trying_403 : decode cX12_trying 403 = .ok (.ifCond .lt 7, 3) := by decide +kernel
theorem dX12_trying_406 : decode cX12_trying 406 = .ok (.iconst 1, 1) := by decide +kernel
theorem dX12_trying_407 : decode cX12_trying 407 = .ok (.goto 4, 3) := by decide +kernel
theorem dX12_trying_410 : decode cX12_trying 410 = .ok (.iconst 0, 1) := by decide +kernel
theorem dX12_trying_411 : decode cX12_trying 411 = .ok (.invokevirtual 341, 3) := by decide +kernel
theorem dX12_trying_414 : decode cX12_trying 414 = .ok (.ifCond .eq 105, 3) := by decide +kernel
theorem dX12_trying_417 : decode cX12_trying 417 = .ok (.aload_n 0, 1) := by decide +kernel
theorem dX12_trying_418 : decode cX12_trying 418 = .ok (.dup, 1) := by decide +kernel
theorem dX12_trying_419 : decode cX12_trying 419 = .ok (.getfield 377, 3) := by decide +kernel
theorem dX12_trying_422 : decode cX12_trying 422 = .ok (.iconst 1, 1) := by decide +kernel
theorem dX12_trying_423 : decode cX12_trying 423 = .ok (.isub, 1) := by decide +kernel
theorem dX12_trying_424 : decode cX12_trying 424 = .ok (.putfield 377, 3) := by decide +kernel
theorem dX12_trying_427 : decode cX12_trying 427 = .ok (.aload_n 0, 1) := by decide +kernel
theorem dX12_trying_428 : decode cX12_trying 428 = .ok (.iload_n 1, 1) := by decide +kernel
theorem dX12_trying_429 : decode cX12_trying 429 = .ok (.iconst 1, 1) := by decide +kernel
theorem dX12_trying_430 : decode cX12_trying 430 = .ok (.invokevirtual 555, 3) := by decide +kernel
theorem dX12_trying_433 : decode cX12_trying 433 = .ok (.goto 86, 3) := by decide +kernel
theorem dX12_trying_436 : decode cX12_trying 436 = .ok (.aload_n 0, 1) := by decide +kernel
theorem dX12_trying_437 : decode cX12_trying 437 = .ok (.getfield 186, 3) := by decide +kernel
theorem dX12_trying_440 : decode cX12_trying 440 = .ok (.iload_n 1, 1) := by decide +kernel
theorem dX12_trying_441 : decode cX12_trying 441 = .ok (.aload_n 0, 1) := by decide +kernel
theorem dX12_trying_442 : decode cX12_trying 442 = .ok (.getfield 396, 3) := by decide +kernel
theorem dX12_trying_445 : decode cX12_trying 445 = .ok (.ifCond .ne 13, 3) := by decide +kernel
theorem dX12_trying_448 : decode cX12_trying 448 = .ok (.aload_n 0, 1) := by decide +kernel
theorem dX12_trying_449 : decode cX12_trying 449 = .ok (.getfield 186, 3) := by decide +kernel
theorem dX12_trying_452 : decode cX12_trying 452 = .ok (.iload_n 1, 1) := by decide +kernel
theorem dX12_trying_453 : decode cX12_trying 453 = .ok (.iaload, 1) := by decide +kernel
theorem dX12_trying_454 : decode cX12_trying 454 = .ok (.iconst 1, 1) := by decide +kernel
theorem dX12_trying_455 : decode cX12_trying 455 = .ok (.if_icmp .ne 7, 3) := by decide +kernel
theorem dX12_trying_458 : decode cX12_trying 458 = .ok (.iconst 1, 1) := by decide +kernel
theorem dX12_trying_459 : decode cX12_trying 459 = .ok (.goto 4, 3) := by decide +kernel
theorem dX12_trying_462 : decode cX12_trying 462 = .ok (.iconst 0, 1) := by decide +kernel
theorem dX12_trying_463 : decode cX12_trying 463 = .ok (.iastore, 1) := by decide +kernel
theorem dX12_trying_464 : decode cX12_trying 464 = .ok (.aload_n 0, 1) := by decide +kernel
theorem dX12_trying_465 : decode cX12_trying 465 = .ok (.bipush 34, 2) := by decide +kernel
theorem dX12_trying_467 : decode cX12_trying 467 = .ok (.aload_n 0, 1) := by decide +kernel
theorem dX12_trying_468 : decode cX12_trying 468 = .ok (.getfield 180, 3) := by decide +kernel
theorem dX12_trying_471 : decode cX12_trying 471 = .ok (.iload_n 1, 1) := by decide +kernel
theorem dX12_trying_472 : decode cX12_trying 472 = .ok (.iaload, 1) := by decide +kernel
theorem dX12_trying_473 : decode cX12_trying 473 = .ok (.invokevirtual 464, 3) := by decide +kernel
theorem dX12_trying_476 : decode cX12_trying 476 = .ok (.pop, 1) := by decide +kernel
theorem dX12_trying_477 : decode cX12_trying 477 = .ok (.aload_n 0, 1) := by decide +kernel
theorem dX12_trying_478 : decode cX12_trying 478 = .ok (.aload_n 0, 1) := by decide +kernel
theorem dX12_trying_479 : decode cX12_trying 479 = .ok (.getfield 195, 3) := by decide +kernel
theorem dX12_trying_482 : decode cX12_trying 482 = .ok (.iload_n 1, 1) := by decide +kernel
theorem dX12_trying_483 : decode cX12_trying 483 = .ok (.iaload, 1) := by decide +kernel
theorem dX12_trying_484 : decode cX12_trying 484 = .ok (.putfield 361, 3) := by decide +kernel
theorem dX12_trying_487 : decode cX12_trying 487 = .ok (.aload_n 0, 1) := by decide +kernel
theorem dX12_trying_488 : decode cX12_trying 488 = .ok (.getfield 177, 3) := by decide +kernel
theorem dX12_trying_491 : decode cX12_trying 491 = .ok (.iload_n 1, 1) := by decide +kernel
theorem dX12_trying_492 : decode cX12_trying 492 = .ok (.iconst 2, 1) := by decide +kernel
theorem dX12_trying_493 : decode cX12_trying 493 = .ok (.iastore, 1) := by decide +kernel
theorem dX12_trying_494 : decode cX12_trying 494 = .ok (.goto 25, 3) := by decide +kernel
theorem dX12_trying_497 : decode cX12_trying 497 = .ok (.aload_n 0, 1) := by decide +kernel
theorem dX12_trying_498 : decode cX12_trying 498 = .ok (.bipush 35, 2) := by decide +kernel
theorem dX12_trying_500 : decode cX12_trying 500 = .ok (.aload_n 0, 1) := by decide +kernel
theorem dX12_trying_501 : decode cX12_trying 501 = .ok (.getfield 180, 3) := by decide +kernel
theorem dX12_trying_504 : decode cX12_trying 504 = .ok (.iload_n 1, 1) := by decide +kernel
theorem dX12_trying_505 : decode cX12_trying 505 = .ok (.iaload, 1) := by decide +kernel
theorem dX12_trying_506 : decode cX12_trying 506 = .ok (.invokevirtual 464, 3) := by decide +kernel
theorem dX12_trying_509 : decode cX12_trying 509 = .ok (.pop, 1) := by decide +kernel
theorem dX12_trying_510 : decode cX12_trying 510 = .ok (.aload_n 0, 1) := by decide +kernel
theorem dX12_trying_511 : decode cX12_trying 511 = .ok (.iload_n 1, 1) := by decide +kernel
theorem dX12_trying_512 : decode cX12_trying 512 = .ok (.aload_n 0, 1) := by decide +kernel
theorem dX12_trying_513 : decode cX12_trying 513 = .ok (.getfield 396, 3) := by decide +kernel
theorem dX12_trying_516 : decode cX12_trying 516 = .ok (.invokevirtual 555, 3) := by decide +kernel
theorem dX12_trying_519 : decode cX12_trying 519 = .ok (.return_, 1) := by decide +kernel
theorem dX12_endTry_0 : decode cX12_endTry 0 = .ok (.aload_n 0, 1) := by decide +kernel
theorem dX12_endTry_1 : decode cX12_endTry 1 = .ok (.dup, 1) := by decide +kernel
theorem dX12_endTry_2 : decode cX12_endTry 2 = .ok (.getfield 370, 3) := by decide +kernel
theorem dX12_endTry_5 : decode cX12_endTry 5 = .ok (.iconst 1, 1) := by decide +kernel
theorem dX12_endTry_6 : decode cX12_endTry 6 = .ok (.isub, 1) := by decide +kernel
theorem dX12_endTry_7 : decode cX12_endTry 7 = .ok (.putfield 370, 3) := by decide +kernel
theorem dX12_endTry_10 : decode cX12_endTry 10 = .ok (.aload_n 0, 1) := by decide +kernel
theorem dX12_endTry_11 : decode cX12_endTry 11 = .ok (.getfield 111, 3) := by decide +kernel
theorem dX12_endTry_14 : decode cX12_endTry 14 = .ok (.aload_n 0, 1) := by decide +kernel
theorem dX12_endTry_15 : decode cX12_endTry 15 = .ok (.getfield 180, 3) := by decide +kernel
theorem dX12_endTry_18 : decode cX12_endTry 18 = .ok (.iload_n 1, 1) := by decide +kernel
theorem dX12_endTry_19 : decode cX12_endTry 19 = .ok (.iaload, 1) := by decide +kernel
theorem dX12_endTry_20 : decode cX12_endTry 20 = .ok (.aload_n 0, 1) := by decide +kernel
theorem dX12_endTry_21 : decode cX12_endTry 21 = .ok (.getfield 358, 3) := by decide +kernel
theorem dX12_endTry_24 : decode cX12_endTry 24 = .ok (.iastore, 1) := by decide +kernel
theorem dX12_endTry_25 : decode cX12_endTry 25 = .ok (.aload_n 0, 1) := by decide +kernel
theorem dX12_endTry_26 : decode cX12_endTry 26 = .ok (.aload_n 0, 1) := by decide +kernel
theorem dX12_endTry_27 : decode cX12_endTry 27 = .ok (.getfield 180, 3) := by decide +kernel
theorem dX12_endTry_30 : decode cX12_endTry 30 = .ok (.iload_n 1, 1) := by decide +kernel
theorem dX12_endTry_31 : decode cX12_endTry 31 = .ok (.iaload, 1) := by decide +kernel
theorem dX12_endTry_32 : decode cX12_endTry 32 = .ok (.iload_n 2, 1) := by decide +kernel
theorem dX12_endTry_33 : decode cX12_endTry 33 = .ok (.invokevirtual 558, 3) := by decide +kernel
theorem dX12_endTry_36 : decode cX12_endTry 36 = .ok (.aload_n 0, 1) := by decide +kernel
theorem dX12_endTry_37 : decode cX12_endTry 37 = .ok (.iload_n 2, 1) := by decide +kernel
theorem dX12_endTry_38 : decode cX12_endTry 38 = .ok (.ifCond .eq 17, 3) := by decide +kernel
theorem dX12_endTry_41 : decode cX12_endTry 41 = .ok (.aload_n 0, 1) := by decide +kernel
theorem dX12_endTry_42 : decode cX12_endTry 42 = .ok (.getfield 186, 3) := by decide +kernel
theorem dX12_endTry_45 : decode cX12_endTry 45 = .ok (.iload_n 1, 1) := by decide +kernel
theorem dX12_endTry_46 : decode cX12_endTry 46 = .ok (.iaload, 1) := by decide +kernel
theorem dX12_endTry_47 : decode cX12_endTry 47 = .ok (.iconst 1, 1) := by decide +kernel
theorem dX12_endTry_48 : decode cX12_endTry 48 = .ok (.if_icmp .ne 7, 3) := by decide +kernel
theorem dX12_endTry_51 : decode cX12_endTry 51 = .ok (.iconst 1, 1) := by decide +kernel
theorem dX12_endTry_52 : decode cX12_endTry 52 = .ok (.goto 4, 3) := by decide +kernel
theorem dX12_endTry_55 : decode cX12_endTry 55 = .ok (.iconst 0, 1) := by decide +kernel
theorem dX12_endTry_56 : decode cX12_endTry 56 = .ok (.invokevirtual 490, 3) := by decide +kernel
theorem dX12_endTry_59 : decode cX12_endTry 59 = .ok (.return_, 1) := by decide +kernel
theorem dX12_catching_0 : decode cX12_catching 0 = .ok (.aload_n 0, 1) := by decide +kernel
theorem dX12_catching_1 : decode cX12_catching 1 = .ok (.getfield 561, 3) := by decide +kernel
theorem dX12_catching_4 : decode cX12_catching 4 = .ok (.istore_n 2, 1) := by decide +kernel
theorem dX12_catching_5 : decode cX12_catching 5 = .ok (.aload_n 0, 1) := by decide +kernel
theorem dX12_catching_6 : decode cX12_catching 6 = .ok (.invokevirtual 345, 3) := by decide +kernel
theorem dX12_catching_9 : decode cX12_catching 9 = .ok (.aload_n 0, 1) := by decide +kernel
theorem dX12_catching_10 : decode cX12_catching 10 = .ok (.bipush 40, 2) := by decide +kernel
theorem dX12_catching_12 : decode cX12_catching 12 = .ok (.invokevirtual 475, 3) := by decide +kernel
theorem dX12_catching_15 : decode cX12_catching 15 = .ok (.pop, 1) := by decide +kernel
theorem dX12_catching_16 : decode cX12_catching 16 = .ok (.iconst 1, 1) := by decide +kernel
theorem dX12_catching_17 : decode cX12_catching 17 = .ok (.istore_n 3, 1) := by decide +kernel
theorem dX12_catching_18 : decode cX12_catching 18 = .ok (.iload_n 3, 1) := by decide +kernel
theorem dX12_catching_19 : decode cX12_catching 19 = .ok (.ifCond .eq 237, 3) := by decide +kernel
theorem dX12_catching_22 : decode cX12_catching 22 = .ok (.aload_n 0, 1) := by decide +kernel
theorem dX12_catching_23 : decode cX12_catching 23 = .ok (.getfield 291, 3) := by decide +kernel
theorem dX12_catching_26 : decode cX12_catching 26 = .ok (.ifCond .ne 230, 3) := by decide +kernel
theorem dX12_catching_29 : decode cX12_catching 29 = .ok (.aload_n 0, 1) := by decide +kernel
theorem dX12_catching_30 : decode cX12_catching 30 = .ok (.aload_n 0, 1) := by decide +kernel
theorem dX12_catching_31 : decode cX12_catching 31 = .ok (.getfield 307, 3) := by decide +kernel
theorem dX12_catching_34 : decode cX12_catching 34 = .ok (.iconst 5, 1) := by decide +kernel
theorem dX12_catching_35 : decode cX12_catching 35 = .ok (.if_icmp .ne 7, 3) := by decide +kernel
