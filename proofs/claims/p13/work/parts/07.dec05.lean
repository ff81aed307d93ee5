section
theorem dX12_list_75 : decode cX12_list 75 = .ok (.getfield 180, 3) := by decide +kernel
theorem dX12_list_78 : decode cX12_list 78 = .ok (.iload_n 1, 1) := by decide +kernel
theorem dX12_list_79 : decode cX12_list 79 = .ok (.iaload, 1) := by decide +kernel
theorem dX12_list_80 : decode cX12_list 80 = .ok (.iconst 1, 1) := by decide +kernel
theorem dX12_list_81 : decode cX12_list 81 = .ok (.if_icmp .ne 7, 3) := by decide +kernel
theorem dX12_list_84 : decode cX12_list 84 = .ok (.iconst 1, 1) := by decide +kernel
theorem dX12_list_85 : decode cX12_list 85 = .ok (.goto 4, 3) := by decide +kernel
theorem dX12_list_88 : decode cX12_list 88 = .ok (.iconst 0, 1) := by decide +kernel
theorem dX12_list_89 : decode cX12_list 89 = .ok (.invokevirtual 490, 3) := by decide +kernel
theorem dX12_list_92 : decode cX12_list 92 = .ok (.return_, 1) := by decide +kernel
theorem dX12_list_93 : decode cX12_list 93 = .ok (.aload_n 0, 1) := by decide +kernel
theorem dX12_list_94 : decode cX12_list 94 = .ok (.getfield 180, 3) := by decide +kernel
theorem dX12_list_97 : decode cX12_list 97 = .ok (.iload_n 1, 1) := by decide +kernel
theorem dX12_list_98 : decode cX12_list 98 = .ok (.iaload, 1) := by decide +kernel
theorem dX12_list_99 : decode cX12_list 99 = .ok (.ifCond .ne 11, 3) := by decide +kernel
theorem dX12_list_102 : decode cX12_list 102 = .ok (.aload_n 0, 1) := by decide +kernel
theorem dX12_list_103 : decode cX12_list 103 = .ok (.aload_n 0, 1) := by decide +kernel
theorem dX12_list_104 : decode cX12_list 104 = .ok (.getfield 304, 3) := by decide +kernel
theorem dX12_list_107 : decode cX12_list 107 = .ok (.invokevirtual 487, 3) := by decide +kernel
theorem dX12_list_110 : decode cX12_list 110 = .ok (.aload_n 0, 1) := by decide +kernel
theorem dX12_list_111 : decode cX12_list 111 = .ok (.iconst 1, 1) := by decide +kernel
theorem dX12_list_112 : decode cX12_list 112 = .ok (.iconst 2, 1) := by decide +kernel
theorem dX12_list_113 : decode cX12_list 113 = .ok (.invokevirtual 393, 3) := by decide +kernel
theorem dX12_list_116 : decode cX12_list 116 = .ok (.return_, 1) := by decide +kernel
theorem dX12_block_0 : decode cX12_block 0 = .ok (.aload_n 0, 1) := by decide +kernel
theorem dX12_block_1 : decode cX12_block 1 = .ok (.getfield 177, 3) := by decide +kernel
theorem dX12_block_4 : decode cX12_block 4 = .ok (.iload_n 1, 1) := by decide +kernel
theorem dX12_block_5 : decode cX12_block 5 = .ok (.iaload, 1) := by decide +kernel
theorem dX12_block_6 : decode cX12_block 6 = .ok (.ifCond .ne 27, 3) := by decide +kernel
theorem dX12_block_9 : decode cX12_block 9 = .ok (.aload_n 0, 1) := by decide +kernel
theorem dX12_block_10 : decode cX12_block 10 = .ok (.bipush 123, 2) := by decide +kernel
theorem dX12_block_12 : decode cX12_block 12 = .ok (.invokevirtual 475, 3) := by decide +kernel
theorem dX12_block_15 : decode cX12_block 15 = .ok (.pop, 1) := by decide +kernel
theorem dX12_block_16 : decode cX12_block 16 = .ok (.aload_n 0, 1) := by decide +kernel
theorem dX12_block_17 : decode cX12_block 17 = .ok (.getfield 180, 3) := by decide +kernel
theorem dX12_block_20 : decode cX12_block 20 = .ok (.iload_n 1, 1) := by decide +kernel
theorem dX12_block_21 : decode cX12_block 21 = .ok (.aload_n 0, 1) := by decide +kernel
theorem dX12_block_22 : decode cX12_block 22 = .ok (.getfield 361, 3) := by decide +kernel
theorem dX12_block_25 : decode cX12_block 25 = .ok (.iastore, 1) := by decide +kernel
theorem dX12_block_26 : decode cX12_block 26 = .ok (.aload_n 0, 1) := by decide +kernel
theorem dX12_block_27 : decode cX12_block 27 = .ok (.iconst 1, 1) := by decide +kernel
theorem dX12_block_28 : decode cX12_block 28 = .ok (.iconst 1, 1) := by decide +kernel
theorem dX12_block_29 : decode cX12_block 29 = .ok (.invokevirtual 393, 3) := by decide +kernel
theorem dX12_block_32 : decode cX12_block 32 = .ok (.return_, 1) := by decide +kernel
theorem dX12_block_33 : decode cX12_block 33 = .ok (.aload_n 0, 1) := by decide +kernel
theorem dX12_block_34 : decode cX12_block 34 = .ok (.bipush 125, 2) := by decide +kernel
theorem dX12_block_36 : decode cX12_block 36 = .ok (.invokevirtual 468, 3) := by decide +kernel
theorem dX12_block_39 : decode cX12_block 39 = .ok (.pop, 1) := by decide +kernel
theorem dX12_block_40 : decode cX12_block 40 = .ok (.aload_n 0, 1) := by decide +kernel
theorem dX12_block_41 : decode cX12_block 41 = .ok (.aload_n 0, 1) := by decide +kernel
theorem dX12_block_42 : decode cX12_block 42 = .ok (.getfield 180, 3) := by decide +kernel
theorem dX12_block_45 : decode cX12_block 45 = .ok (.iload_n 1, 1) := by decide +kernel
theorem dX12_block_46 : decode cX12_block 46 = .ok (.iaload, 1) := by decide +kernel
theorem dX12_block_47 : decode cX12_block 47 = .ok (.putfield 361, 3) := by decide +kernel
theorem dX12_block_50 : decode cX12_block 50 = .ok (.aload_n 0, 1) := by decide +kernel
theorem dX12_block_51 : decode cX12_block 51 = .ok (.dup, 1) := by decide +kernel
theorem dX12_block_52 : decode cX12_block 52 = .ok (.getfield 387, 3) := by decide +kernel
theorem dX12_block_55 : decode cX12_block 55 = .ok (.iconst 1, 1) := by decide +kernel
theorem dX12_block_56 : decode cX12_block 56 = .ok (.isub, 1) := by decide +kernel
theorem dX12_block_57 : decode cX12_block 57 = .ok (.putfield 387, 3) := by decide +kernel
theorem dX12_block_60 : decode cX12_block 60 = .ok (.return_, 1) := by decide +kernel
theorem dX12_stat_0 : decode cX12_stat 0 = .ok (.aload_n 0, 1) := by decide +kernel
theorem dX12_stat_1 : decode cX12_stat 1 = .ok (.dup, 1) := by decide +kernel
theorem dX12_stat_2 : decode cX12_stat 2 = .ok (.getfield 494, 3) := by decide +kernel
theorem dX12_stat_5 : decode cX12_stat 5 = .ok (.iconst 1, 1) := by decide +kernel
theorem dX12_stat_6 : decode cX12_stat 6 = .ok (.iadd, 1) := by decide +kernel
theorem dX12_stat_7 : decode cX12_stat 7 = .ok (.putfield 494, 3) := by decide +kernel
theorem dX12_stat_10 : decode cX12_stat 10 = .ok (.aload_n 0, 1) := by decide +kernel
theorem dX12_stat_11 : decode cX12_stat 11 = .ok (.getfield 307, 3) := by decide +kernel
theorem dX12_stat_14 : decode cX12_stat 14 = .ok (.bipush 123, 2) := by decide +kernel
theorem dX12_stat_16 : decode cX12_stat 16 = .ok (.if_icmp .ne 11, 3) := by decide +kernel
theorem dX12_stat_19 : decode cX12_stat 19 = .ok (.aload_n 0, 1) := by decide +kernel
theorem dX12_stat_20 : decode cX12_stat 20 = .ok (.getfield 174, 3) := by decide +kernel
theorem dX12_stat_23 : decode cX12_stat 23 = .ok (.iload_n 1, 1) := by decide +kernel
theorem dX12_stat_24 : decode cX12_stat 24 = .ok (.iconst 3, 1) := by decide +kernel
theorem dX12_stat_25 : decode cX12_stat 25 = .ok (.iastore, 1) := by decide +kernel
theorem dX12_stat_26 : decode cX12_stat 26 = .ok (.return_, 1) := by decide +kernel
theorem dX12_stat_27 : decode cX12_stat 27 = .ok (.aload_n 0, 1) := by decide +kernel
theorem dX12_stat_28 : decode cX12_stat 28 = .ok (.getfield 174, 3) := by decide +kernel
theorem dX12_stat_31 : decode cX12_stat 31 = .ok (.iload_n 1, 1) := by decide +kernel
theorem dX12_stat_32 : decode cX12_stat 32 = .ok (.aload_n 0, 1) := by decide +kernel
theorem dX12_stat_33 : decode cX12_stat 33 = .ok (.getfield 307, 3) := by decide +kernel
theorem dX12_stat_36 : decode cX12_stat 36 = .ok (.sipush 410, 3) := by decide +kernel
theorem dX12_stat_39 : decode cX12_stat 39 = .ok (.if_icmp .eq 13, 3) := by decide +kernel
theorem dX12_stat_42 : decode cX12_stat 42 = .ok (.aload_n 0, 1) := by decide +kernel
theorem dX12_stat_43 : decode cX12_stat 43 = .ok (.getfield 307, 3) := by decide +kernel
theorem dX12_stat_46 : decode cX12_stat 46 = .ok (.sipush 411, 3) := by decide +kernel
theorem dX12_stat_49 : decode cX12_stat 49 = .ok (.if_icmp .ne 7, 3) := by decide +kernel
theorem dX12_stat_52 : decode cX12_stat 52 = .ok (.iconst 4, 1) := by decide +kernel
theorem dX12_stat_53 : decode cX12_stat 53 = .ok (.goto 186, 3) := by decide +kernel
theorem dX12_stat_56 : decode cX12_stat 56 = .ok (.aload_n 0, 1) := by decide +kernel
theorem dX12_stat_57 : decode cX12_stat 57 = .ok (.getfield 307, 3) := by decide +kernel
theorem dX12_stat_60 : decode cX12_stat 60 = .ok (.iconst 2, 1) := by decide +kernel
theorem dX12_stat_61 : decode cX12_stat 61 = .ok (.if_icmp .ne 7, 3) := by decide +kernel
theorem dX12_stat_64 : decode cX12_stat 64 = .ok (.iconst 5, 1) := by decide +kernel
theorem dX12_stat_65 : decode cX12_stat 65 = .ok (.goto 174, 3) := by decide +kernel
theorem dX12_stat_68 : decode cX12_stat 68 = .ok (.aload_n 0, 1) := by decide +kernel
theorem dX12_stat_69 : decode cX12_stat 69 = .ok (.getfield 307, 3) := by decide +kernel
theorem dX12_stat_72 : decode cX12_stat 72 = .ok (.sipush 412, 3) := by decide +kernel
theorem dX12_stat_75 : decode cX12_stat 75 = .ok (.if_icmp .eq 23, 3) := by decide +kernel
theorem dX12_stat_78 : decode cX12_stat 78 = .ok (.aload_n 0, 1) := by decide +kernel
theorem dX12_stat_79 : decode cX12_stat 79 = .ok (.getfield 307, 3) := by decide +kernel
theorem dX12_stat_82 : decode cX12_stat 82 = .ok (.sipush 420, 3) := by decide +kernel
theorem dX12_stat_85 : decode cX12_stat 85 = .ok (.if_icmp .eq 13, 3) := by decide +kernel
theorem dX12_stat_88 : decode cX12_stat 88 = .ok (.aload_n 0, 1) := by decide +kernel
theorem dX12_stat_89 : decode cX12_stat 89 = .ok (.getfield 307, 3) := by decide +kernel
theorem dX12_stat_92 : decode cX12_stat 92 = .ok (.sipush 431, 3) := by decide +kernel
theorem dX12_stat_95 : decode cX12_stat 95 = .ok (.if_icmp .ne 8, 3) := by decide +kernel
theorem dX12_stat_98 : decode cX12_stat 98 = .ok (.bipush 6, 2) := by decide +kernel
theorem dX12_stat_100 : decode cX12_stat 100 = .ok (.goto 139, 3) := by decide +kernel
theorem dX12_stat_103 : decode cX12_stat 103 = .ok (.aload_n 0, 1) := by decide +kernel
theorem dX12_stat_104 : decode cX12_stat 104 = .ok (.getfield 307, 3) := by decide +kernel
theorem dX12_stat_107 : decode cX12_stat 107 = .ok (.sipush 421, 3) := by decide +kernel
theorem dX12_stat_110 : decode cX12_stat 110 = .ok (.if_icmp .ne 8, 3) := by decide +kernel
theorem dX12_stat_113 : decode cX12_stat 113 = .ok (.bipush 7, 2) := by decide +kernel
theorem dX12_stat_115 : decode cX12_stat 115 = .ok (.goto 124, 3) := by decide +kernel
theorem dX12_stat_118 : decode cX12_stat 118 = .ok (.aload_n 0, 1) := by decide +kernel
theorem dX12_stat_119 : decode cX12_stat 119 = .ok (.getfield 307, 3) := by decide +kernel
theorem dX12_stat_122 : decode cX12_stat 122 = .ok (.sipush 427, 3) := by decide +kernel
theorem dX12_stat_125 : decode cX12_stat 125 = .ok (.if_icmp .ne 8, 3) := by decide +kernel
theorem dX12_stat_128 : decode cX12_stat 128 = .ok (.bipush 8, 2) := by decide +kernel
theorem dX12_stat_130 : decode cX12_stat 130 = .ok (.goto 109, 3) := by decide +kernel
theorem dX12_stat_133 : decode cX12_stat 133 = .ok (.aload_n 0, 1) := by decide +kernel
theorem dX12_stat_134 : decode cX12_stat 134 = .ok (.getfield 307, 3) := by decide +kernel
theorem dX12_stat_137 : decode cX12_stat 137 = .ok (.sipush 413, 3) := by decide +kernel
theorem dX12_stat_140 : decode cX12_stat 140 = .ok (.if_icmp .ne 8, 3) := by decide +kernel
theorem dX12_stat_143 : decode cX12_stat 143 = .ok (.bipush 9, 2) := by decide +kernel
theorem dX12_stat_145 : decode cX12_stat 145 = .ok (.goto 94, 3) := by decide +kernel
theorem dX12_stat_148 : decode cX12_stat 148 = .ok (.aload_n 0, 1) := by decide +kernel
theorem dX12_stat_149 : decode cX12_stat 149 = .ok (.getfield 307, 3) := by decide +kernel
theorem dX12_stat_152 : decode cX12_stat 152 = .ok (.sipush 415, 3) := by decide +kernel
theorem dX12_stat_155 : decode cX12_stat 155 = .ok (.if_icmp .ne 8, 3) := by decide +kernel
theorem dX12_stat_158 : decode cX12_stat 158 = .ok (.bipush 10, 2) := by decide +kernel
theorem dX12_stat_160 : decode cX12_stat 160 = .ok (.goto 79, 3) := by decide +kernel
theorem dX12_stat_163 : decode cX12_stat 163 = .ok (.aload_n 0, 1) := by decide +kernel
theorem dX12_stat_164 : decode cX12_stat 164 = .ok (.getfield 307, 3) := by decide +kernel
theorem dX12_stat_167 : decode cX12_stat 167 = .ok (.sipush 416, 3) := by decide +kernel
theorem dX12_stat_170 : decode cX12_stat 170 = .ok (.if_icmp .ne 8, 3) := by decide +kernel
theorem dX12_stat_173 : decode cX12_stat 173 = .ok (.bipush 11, 2) := by decide +kernel
theorem dX12_stat_175 : decode cX12_stat 175 = .ok (.goto 64, 3) := by decide +kernel
theorem dX12_stat_178 : decode cX12_stat 178 = .ok (.aload_n 0, 1) := by decide +kernel
theorem dX12_stat_179 : decode cX12_stat 179 = .ok (.getfield 307, 3) := by decide +kernel
theorem dX12_stat_182 : decode cX12_stat 182 = .ok (.sipush 417, 3) := by decide +kernel
theorem dX12_stat_185 : decode cX12_stat 185 = .ok (.if_icmp .ne 8, 3) := by decide +kernel
theorem dX12_stat_188 : decode cX12_stat 188 = .ok (.bipush 12, 2) := by decide +kernel
theorem dX12_stat_190 : decode cX12_stat 190 = .ok (.goto 49, 3) := by decide +kernel
theorem dX12_stat_193 : decode cX12_stat 193 = .ok (.aload_n 0, 1) := by decide +kernel
theorem dX12_stat_194 : decode cX12_stat 194 = .ok (.getfield 307, 3) := by decide +kernel
theorem dX12_stat_197 : decode cX12_stat 197 = .ok (.sipush 422, 3) := by decide +kernel
theorem dX12_stat_200 : decode cX12_stat 200 = .ok (.if_icmp .ne 8, 3) := by decide +kernel
theorem dX12_stat_203 : decode cX12_stat 203 = .ok (.bipush 13, 2) := by decide +kernel
theorem dX12_stat_205 : decode cX12_stat 205 = .ok (.goto 34, 3) := by decide +kernel
theorem dX12_stat_208 : decode cX12_stat 208 = .ok (.aload_n 0, 1) := by decide +kernel
theorem dX12_stat_209 : decode cX12_stat 209 = .ok (.getfield 307, 3) := by decide +kernel
theorem dX12_stat_212 : decode cX12_stat 212 = .ok (.sipush 428, 3) := by decide +kernel
theorem dX12_stat_215 : decode cX12_stat 215 = .ok (.if_icmp .ne 8, 3) := by decide +kernel
theorem dX12_stat_218 : decode cX12_stat 218 = .ok (.bipush 14, 2) := by decide +kernel
theorem dX12_stat_220 : decode cX12_stat 220 = .ok (.goto 19, 3) := by decide +kernel
theorem dX12_stat_223 : decode cX12_stat 223 = .ok (.aload_n 0, 1) := by decide +kernel
theorem dX12_stat_224 : decode cX12_stat 224 = .ok (.getfield 307, 3) := by decide +kernel
theorem dX12_stat_227 : decode cX12_stat 227 = .ok (.sipush 423, 3) := by decide +kernel
theorem dX12_stat_230 : decode cX12_stat 230 = .ok (.if_icmp .ne 8, 3) := by decide +kernel
theorem dX12_stat_233 : decode cX12_stat 233 = .ok (.bipush 15, 2) := by decide +kernel
theorem dX12_stat_235 : decode cX12_stat 235 = .ok (.goto 4, 3) := by decide +kernel
theorem dX12_stat_238 : decode cX12_stat 238 = .ok (.iconst 2, 1) := by decide +kernel
theorem dX12_stat_239 : decode cX12_stat 239 = .ok (.iastore, 1) := by decide +kernel
theorem dX12_stat_240 : decode cX12_stat 240 = .ok (.aload_n 0, 1) := by decide +kernel
theorem dX12_stat_241 : decode cX12_stat 241 = .ok (.getfield 174, 3) := by decide +kernel
theorem dX12_stat_244 : decode cX12_stat 244 = .ok (.iload_n 1, 1) := by decide +kernel
theorem dX12_stat_245 : decode cX12_stat 245 = .ok (.iaload, 1) := by decide +kernel
theorem dX12_stat_246 : decode cX12_stat 246 = .ok (.iconst 2, 1) := by decide +kernel
theorem dX12_stat_247 : decode cX12_stat 247 = .ok (.if_icmp .eq 21, 3) := by decide +kernel
theorem dX12_stat_250 : decode cX12_stat 250 = .ok (.aload_n 0, 1) := by decide +kernel
theorem dX12_stat_251 : decode cX12_stat 251 = .ok (.getfield 174, 3) := by decide +kernel
theorem dX12_stat_254 : decode cX12_stat 254 = .ok (.iload_n 1, 1) := by decide +kernel
theorem dX12_stat_255 : decode cX12_stat 255 = .ok (.iaload, 1) := by decide +kernel
theorem dX12_stat_256 : decode cX12_stat 256 = .ok (.iconst 5, 1) := by decide +kernel
theorem dX12_stat_257 : decode cX12_stat 257 = .ok (.if_icmp .eq 10, 3) := by decide +kernel
theorem dX12_stat_260 : decode cX12_stat 260 = .ok (.aload_n 0, 1) := by decide +kernel
theorem dX12_stat_261 : decode cX12_stat 261 = .ok (.iconst 1, 1) := by decide +kernel
theorem dX12_stat_262 : decode cX12_stat 262 = .ok (.iconst 0, 1) := by decide +kernel
theorem dX12_stat_263 : decode cX12_stat 263 = .ok (.invokevirtual 464, 3) := by decide +kernel
theorem dX12_stat_266 : decode cX12_stat 266 = .ok (.pop, 1) := by decide +kernel
theorem dX12_stat_267 : decode cX12_stat 267 = .ok (.return_, 1) := by decide +kernel
theorem dX12_stat_268 : decode cX12_stat 268 = .ok (.aload_n 0, 1) := by decide +kernel
theorem dX12_stat_269 : decode cX12_stat 269 = .ok (.aload_n 0, 1) := by decide +kernel
theorem dX12_stat_270 : decode cX12_stat 270 = .ok (.getfield 307, 3) := by decide +kernel
theorem dX12_stat_273 : decode cX12_stat 273 = .ok (.bipush 59, 2) := by decide +kernel
theorem dX12_stat_275 : decode cX12_stat 275 = .ok (.if_icmp .eq 23, 3) := by decide +kernel
theorem dX12_stat_278 : decode cX12_stat 278 = .ok (.aload_n 0, 1) := by decide +kernel
theorem dX12_stat_279 : decode cX12_stat 279 = .ok (.getfield 307, 3) := by decide +kernel
theorem dX12_stat_282 : decode cX12_stat 282 = .ok (.sipush 418, 3) := by decide +kernel
theorem dX12_stat_285 : decode cX12_stat 285 = .ok (.if_icmp .eq 13, 3) := by decide +kernel
theorem dX12_stat_288 : decode cX12_stat 288 = .ok (.aload_n 0, 1) := by decide +kernel
theorem dX12_stat_289 : decode cX12_stat 289 = .ok (.getfield 307, 3) := by decide +kernel
theorem dX12_stat_292 : decode cX12_stat 292 = .ok (.sipush 419, 3) := by decide +kernel
theorem dX12_stat_295 : decode cX12_stat 295 = .ok (.if_icmp .ne 7, 3) := by decide +kernel
theorem dX12_stat_298 : decode cX12_stat 298 = .ok (.iconst 1, 1) := by decide +kernel
theorem dX12_stat_299 : decode cX12_stat 299 = .ok (.goto 4, 3) := by decide +kernel
theorem dX12_stat_302 : decode cX12_stat 302 = .ok (.iconst 0, 1) := by decide +kernel
theorem dX12_stat_303 : decode cX12_stat 303 = .ok (.invokevirtual 341, 3) := by decide +kernel
theorem dX12_stat_306 : decode cX12_stat 306 = .ok (.ifCond .eq 40, 3) := by decide +kernel
theorem dX12_stat_309 : decode cX12_stat 309 = .ok (.aload_n 0, 1) := by decide +kernel
theorem dX12_stat_310 : decode cX12_stat 310 = .ok (.iconst 1, 1) := by decide +kernel
theorem dX12_stat_311 : decode cX12_stat 311 = .ok (.iconst 0, 1) := by decide +kernel
theorem dX12_stat_312 : decode cX12_stat 312 = .ok (.invokevirtual 464, 3) := by decide +kernel
theorem dX12_stat_315 : decode cX12_stat 315 = .ok (.pop, 1) := by decide +kernel
theorem dX12_stat_316 : decode cX12_stat 316 = .ok (.aload_n 0, 1) := by decide +kernel
theorem dX12_stat_317 : decode cX12_stat 317 = .ok (.getfield 307, 3) := by decide +kernel
theorem dX12_stat_320 : decode cX12_stat 320 = .ok (.bipush 59, 2) := by decide +kernel
theorem dX12_stat_322 : decode cX12_stat 322 = .ok (.if_icmp .ne 15, 3) := by decide +kernel
theorem dX12_stat_325 : decode cX12_stat 325 = .ok (.aload_n 0, 1) := by decide +kernel
theorem dX12_stat_326 : decode cX12_stat 326 = .ok (.invokevirtual 345, 3) := by decide +kernel
theorem dX12_stat_329 : decode cX12_stat 329 = .ok (.aload_n 0, 1) := by decide +kernel
theorem dX12_stat_330 : decode cX12_stat 330 = .ok (.iconst 1, 1) := by decide +kernel
theorem dX12_stat_331 : decode cX12_stat 331 = .ok (.invokevirtual 490, 3) := by decide +kernel
theorem dX12_stat_334 : decode cX12_stat 334 = .ok (.goto 12, 3) := by decide +kernel
theorem dX12_stat_337 : decode cX12_stat 337 = .ok (.aload_n 0, 1) := by decide +kernel
theorem dX12_stat_338 : decode cX12_stat 338 = .ok (.invokevirtual 497, 3) := by decide +kernel
theorem dX12_stat_341 : decode cX12_stat 341 = .ok (.aload_n 0, 1) := by decide +kernel
theorem dX12_stat_342 : decode cX12_stat 342 = .ok (.iconst 0, 1) := by decide +kernel
theorem dX12_stat_343 : decode cX12_stat 343 = .ok (.invokevirtual 490, 3) := by decide +kernel
theorem dX12_stat_346 : decode cX12_stat 346 = .ok (.return_, 1) := by decide +kernel
theorem dX12_telling_0 : decode cX12_telling 0 = .ok (.aload_n 0, 1) := by decide +kernel
theorem dX12_telling_1 : decode cX12_telling 1 = .ok (.aload_n 0, 1) := by decide +kernel
theorem dX12_telling_2 : decode cX12_telling 2 = .ok (.getfield 307, 3) := by decide +kernel
theorem dX12_telling_5 : decode cX12_telling 5 = .ok (.iconst 2, 1) := by decide +kernel
theorem dX12_telling_6 : decode cX12_telling 6 = .ok (.if_icmp .ne 7, 3) := by decide +kernel
theorem dX12_telling_9 : decode cX12_telling 9 = .ok (.iconst 1, 1) := by decide +kernel
theorem dX12_telling_10 : decode cX12_telling 10 = .ok (.goto 4, 3) := by decide +kernel
theorem dX12_telling_13 : decode cX12_telling 13 = .ok (.iconst 0, 1) := by decide +kernel
theorem dX12_telling_14 : decode cX12_telling 14 = .ok (.invokevirtual 341, 3) := by decide +kernel
theorem dX12_telling_17 : decode cX12_telling 17 = .ok (.ifCond .ne 5, 3) := by decide +kernel
theorem dX12_telling_20 : decode cX12_telling 20 = .ok (.iconst 0, 1) := by decide +kernel
theorem dX12_telling_21 : decode cX12_telling 21 = .ok (.ireturn, 1) := by decide +kernel
theorem dX12_telling_22 : decode cX12_telling 22 = .ok (.aload_n 0, 1) := by decide +kernel
theorem dX12_telling_23 : decode cX12_telling 23 = .ok (.aload_n 0, 1) := by decide +kernel
theorem dX12_telling_24 : decode cX12_telling 24 = .ok (.getfield 327, 3) := by decide +kernel
theorem dX12_telling_27 : decode cX12_telling 27 = .ok (.invokevirtual 471, 3) := by decide +kernel
theorem dX12_telling_30 : decode cX12_telling 30 = .ok (.ifCond .lt 14, 3) := by decide +kernel
theorem dX12_telling_33 : decode cX12_telling 33 = .ok (.aload_n 0, 1) := by decide +kernel
theorem dX12_telling_34 : decode cX12_telling 34 = .ok (.iconst 4, 1) := by decide +kernel
theorem dX12_telling_35 : decode cX12_telling 35 = .ok (.aload_n 0, 1) := by decide +kernel
theorem dX12_telling_36 : decode cX12_telling 36 = .ok (.getfield 304, 3) := by decide +kernel
theorem dX12_telling_39 : decode cX12_telling 39 = .ok (.invokevirtual 337, 3) := by decide +kernel
theorem dX12_telling_42 : decode cX12_telling 42 = .ok (.iconst 0, 1) := by decide +kernel
theorem dX12_telling_43 : decode cX12_telling 43 = .ok (.ireturn, 1) := by decide +kernel
theorem dX12_telling_44 : decode cX12_telling 44 = .ok (.aload_n 0, 1) := by decide +kernel
theorem dX12_telling_45 : decode cX12_telling 45 = .ok (.dup, 1) := by decide +kernel
theorem dX12_telling_46 : decode cX12_telling 46 = .ok (.getfield 500, 3) := by decide +kernel
theorem dX12_telling_49 : decode cX12_telling 49 = .ok (.iconst 1, 1) := by decide +kernel
theorem dX12_telling_50 : decode cX12_telling 50 = .ok (.iadd, 1) := by decide +kernel
theorem dX12_telling_51 : decode cX12_telling 51 = .ok (.putfield 500, 3) := by decide +kernel
theorem dX12_telling_54 : decode cX12_telling 54 = .ok (.aload_n 0, 1) := by decide +kernel
theorem dX12_telling_55 : decode cX12_telling 55 = .ok (.getfield 204, 3) := by decide +kernel
theorem dX12_telling_58 : decode cX12_telling 58 = .ok (.iload_n 1, 1) := by decide +kernel
theorem dX12_telling_59 : decode cX12_telling 59 = .ok (.aload_n 0, 1) := by decide +kernel
theorem dX12_telling_60 : decode cX12_telling 60 = .ok (.getfield 327, 3) := by decide +kernel
theorem dX12_telling_63 : decode cX12_telling 63 = .ok (.lastore, 1) := by decide +kernel
theorem dX12_telling_64 : decode cX12_telling 64 = .ok (.aload_n 0, 1) := by decide +kernel
theorem dX12_telling_65 : decode cX12_telling 65 = .ok (.invokevirtual 345, 3) := by decide +kernel
theorem dX12_telling_68 : decode cX12_telling 68 = .ok (.iconst 1, 1) := by decide +kernel
theorem dX12_telling_69 : decode cX12_telling 69 = .ok (.ireturn, 1) := by decide +kernel
theorem dX12_tell_0 : decode cX12_tell 0 = .ok (.aload_n 0, 1) := by decide +kernel
theorem dX12_tell_1 : decode cX12_tell 1 = .ok (.getfield 177, 3) := by decide +kernel
theorem dX12_tell_4 : decode cX12_tell 4 = .ok (.iload_n 1, 1) := by decide +kernel
theorem dX12_tell_5 : decode cX12_tell 5 = .ok (.iaload, 1) := by decide +kernel
theorem dX12_tell_6 : decode cX12_tell 6 = .ok (.ifCond .ne 37, 3) := by decide +kernel
theorem dX12_tell_9 : decode cX12_tell 9 = .ok (.aload_n 0, 1) := by decide +kernel
theorem dX12_tell_10 : decode cX12_tell 10 = .ok (.invokevirtual 345, 3) := by decide +kernel
theorem dX12_tell_13 : decode cX12_tell 13 = .ok (.aload_n 0, 1) := by decide +kernel
theorem dX12_tell_14 : decode cX12_tell 14 = .ok (.getfield 291, 3) := by decide +kernel
theorem dX12_tell_17 : decode cX12_tell 17 = .ok (.ifCond .ne 25, 3) := by decide +kernel
theorem dX12_tell_20 : decode cX12_tell 20 = .ok (.aload_n 0, 1) := by decide +kernel
theorem dX12_tell_21 : decode cX12_tell 21 = .ok (.iload_n 1, 1) := by decide +kernel
theorem dX12_tell_22 : decode cX12_tell 22 = .ok (.invokevirtual 503, 3) := by decide +kernel
theorem dX12_tell_25 : decode cX12_tell 25 = .ok (.ifCond .eq 17, 3) := by decide +kernel
theorem dX12_tell_28 : decode cX12_tell 28 = .ok (.aload_n 0, 1) := by decide +kernel
theorem dX12_tell_29 : decode cX12_tell 29 = .ok (.bipush 61, 2) := by decide +kernel
theorem dX12_tell_31 : decode cX12_tell 31 = .ok (.invokevirtual 355, 3) := by decide +kernel
theorem dX12_tell_34 : decode cX12_tell 34 = .ok (.pop, 1) := by decide +kernel
theorem dX12_tell_35 : decode cX12_tell 35 = .ok (.aload_n 0, 1) := by decide +kernel
theorem dX12_tell_36 : decode cX12_tell 36 = .ok (.iconst 1, 1) := by decide +kernel
theorem dX12_tell_37 : decode cX12_tell 37 = .ok (.bipush 16, 2) := by decide +kernel
theorem dX12_tell_39 : decode cX12_tell 39 = .ok (.invokevirtual 393, 3) := by decide +kernel
theorem dX12_tell_42 : decode cX12_tell 42 = .ok (.return_, 1) := by decide +kernel
theorem dX12_tell_43 : decode cX12_tell 43 = .ok (.aload_n 0, 1) := by decide +kernel
theorem dX12_tell_44 : decode cX12_tell 44 = .ok (.iconst 5, 1) := by decide +kernel
theorem dX12_tell_45 : decode cX12_tell 45 = .ok (.aload_n 0, 1) := by decide +kernel
theorem dX12_tell_46 : decode cX12_tell 46 = .ok (.aload_n 0, 1) := by decide +kernel
theorem dX12_tell_47 : decode cX12_tell 47 = .ok (.getfield 204, 3) := by decide +kernel
theorem dX12_tell_50 : decode cX12_tell 50 = .ok (.iload_n 1, 1) := by decide +kernel
theorem dX12_tell_51 : decode cX12_tell 51 = .ok (.laload, 1) := by decide +kernel
theorem dX12_tell_52 : decode cX12_tell 52 = .ok (.iconst 0, 1) := by decide +kernel
theorem dX12_tell_53 : decode cX12_tell 53 = .ok (.invokevirtual 506, 3) := by decide +kernel
theorem dX12_tell_56 : decode cX12_tell 56 = .ok (.invokevirtual 464, 3) := by decide +kernel
theorem dX12_tell_59 : decode cX12_tell 59 = .ok (.pop, 1) := by decide +kernel
theorem dX12_tell_60 : decode cX12_tell 60 = .ok (.aload_n 0, 1) := by decide +kernel
theorem dX12_tell_61 : decode cX12_tell 61 = .ok (.bipush 59, 2) := by decide +kernel
theorem dX12_tell_63 : decode cX12_tell 63 = .ok (.invokevirtual 355, 3) := by decide +kernel
theorem dX12_tell_66 : decode cX12_tell 66 = .ok (.pop, 1) := by decide +kernel
theorem dX12_tell_67 : decode cX12_tell 67 = .ok (.aload_n 0, 1) := by decide +kernel
theorem dX12_tell_68 : decode cX12_tell 68 = .ok (.iconst 1, 1) := by decide +kernel
theorem dX12_tell_69 : decode cX12_tell 69 = .ok (.invokevirtual 490, 3) := by decide +kernel
theorem dX12_tell_72 : decode cX12_tell 72 = .ok (.return_, 1) := by decide +kernel
theorem dX12_got_0 : decode cX12_got 0 = .ok (.aload_n 0, 1) := by decide +kernel
theorem dX12_got_1 : decode cX12_got 1 = .ok (.lload_n 1, 1) := by decide +kernel
theorem dX12_got_2 : decode cX12_got 2 = .ok (.invokevirtual 471, 3) := by decide +kernel
theorem dX12_got_5 : decode cX12_got 5 = .ok (.istore 4, 2) := by decide +kernel
theorem dX12_got_7 : decode cX12_got 7 = .ok (.iload 4, 2) := by decide +kernel
theorem dX12_got_9 : decode cX12_got 9 = .ok (.ifCond .lt 13, 3) := by decide +kernel
theorem dX12_got_12 : decode cX12_got 12 = .ok (.aload_n 0, 1) := by decide +kernel
theorem dX12_got_13 : decode cX12_got 13 = .ok (.getfield 132, 3) := by decide +kernel
theorem dX12_got_16 : decode cX12_got 16 = .ok (.iload 4, 2) := by decide +kernel
theorem dX12_got_18 : decode cX12_got 18 = .ok (.baload, 1) := by decide +kernel
theorem dX12_got_19 : decode cX12_got 19 = .ok (.ifCond .eq 11, 3) := by decide +kernel
theorem dX12_got_22 : decode cX12_got 22 = .ok (.aload_n 0, 1) := by decide +kernel
theorem dX12_got_23 : decode cX12_got 23 = .ok (.iconst 3, 1) := by decide +kernel
theorem dX12_got_24 : decode cX12_got 24 = .ok (.iload_n 3, 1) := by decide +kernel
theorem dX12_got_25 : decode cX12_got 25 = .ok (.invokevirtual 337, 3) := by decide +kernel
theorem dX12_got_28 : decode cX12_got 28 = .ok (.iconst (-1), 1) := by decide +kernel
theorem dX12_got_29 : decode cX12_got 29 = .ok (.ireturn, 1) := by decide +kernel
theorem dX12_got_30 : decode cX12_got 30 = .ok (.aload_n 0, 1) := by decide +kernel
theorem dX12_got_31 : decode cX12_got 31 = .ok (.getfield 129, 3) := by decide +kernel
theorem dX12_got_34 : decode cX12_got 34 = .ok (.iload 4, 2) := by decide +kernel
theorem dX12_got_36 : decode cX12_got 36 = .ok (.iaload, 1) := by decide +kernel
theorem dX12_got_37 : decode cX12_got 37 = .ok (.ireturn, 1) := by decide +kernel
theorem dX12_named_0 : decode cX12_named 0 = .ok (.aload_n 0, 1) := by decide +kernel
theorem dX12_named_1 : decode cX12_named 1 = .ok (.getfield 177, 3) := by decide +kernel
theorem dX12_named_4 : decode cX12_named 4 = .ok (.iload_n 1, 1) := by decide +kernel
theorem dX12_named_5 : decode cX12_named 5 = .ok (.iaload, 1) := by decide +kernel
theorem dX12_named_6 : decode cX12_named 6 = .ok (.iconst 1, 1) := by decide +kernel
theorem dX12_named_7 : decode cX12_named 7 = .ok (.if_icmp .ne 60, 3) := by decide +kernel
theorem dX12_named_10 : decode cX12_named 10 = .ok (.aload_n 0, 1) := by decide +kernel
theorem dX12_named_11 : decode cX12_named 11 = .ok (.getfield 180, 3) := by decide +kernel
theorem dX12_named_14 : decode cX12_named 14 = .ok (.iload_n 1, 1) := by decide +kernel
theorem dX12_named_15 : decode cX12_named 15 = .ok (.iaload, 1) := by decide +kernel
theorem dX12_named_16 : decode cX12_named 16 = .ok (.istore_n 2, 1) := by decide +kernel
theorem dX12_named_17 : decode cX12_named 17 = .ok (.aload_n 0, 1) := by decide +kernel
theorem dX12_named_18 : decode cX12_named 18 = .ok (.aload_n 0, 1) := by decide +kernel
theorem dX12_named_19 : decode cX12_named 19 = .ok (.getfield 147, 3) := by decide +kernel
theorem dX12_named_22 : decode cX12_named 22 = .ok (.iload_n 2, 1) := by decide +kernel
theorem dX12_named_23 : decode cX12_named 23 = .ok (.iaload, 1) := by decide +kernel
theorem dX12_named_24 : decode cX12_named 24 = .ok (.aload_n 0, 1) := by decide +kernel
theorem dX12_named_25 : decode cX12_named 25 = .ok (.getfield 358, 3) := by decide +kernel
theorem dX12_named_28 : decode cX12_named 28 = .ok (.invokevirtual 510, 3) := by decide +kernel
theorem dX12_named_31 : decode cX12_named 31 = .ok (.aload_n 0, 1) := by decide +kernel
theorem dX12_named_32 : decode cX12_named 32 = .ok (.dup, 1) := by decide +kernel
theorem dX12_named_33 : decode cX12_named 33 = .ok (.getfield 367, 3) := by decide +kernel
theorem dX12_named_36 : decode cX12_named 36 = .ok (.iconst 1, 1) := by decide +kernel
theorem dX12_named_37 : decode cX12_named 37 = .ok (.isub, 1) := by decide +kernel
theorem dX12_named_38 : decode cX12_named 38 = .ok (.putfield 367, 3) := by decide +kernel
theorem dX12_named_41 : decode cX12_named 41 = .ok (.aload_n 0, 1) := by decide +kernel
theorem dX12_named_42 : decode cX12_named 42 = .ok (.aload_n 0, 1) := by decide +kernel
theorem dX12_named_43 : decode cX12_named 43 = .ok (.getfield 396, 3) := by decide +kernel
theorem dX12_named_46 : decode cX12_named 46 = .ok (.ifCond .ne 12, 3) := by decide +kernel
theorem dX12_named_49 : decode cX12_named 49 = .ok (.aload_n 0, 1) := by decide +kernel
theorem dX12_named_50 : decode cX12_named 50 = .ok (.getfield 153, 3) := by decide +kernel
theorem dX12_named_53 : decode cX12_named 53 = .ok (.iload_n 2, 1) := by decide +kernel
theorem dX12_named_54 : decode cX12_named 54 = .ok (.baload, 1) := by decide +kernel
theorem dX12_named_55 : decode cX12_named 55 = .ok (.ifCond .eq 7, 3) := by decide +kernel
theorem dX12_named_58 : decode cX12_named 58 = .ok (.iconst 1, 1) := by decide +kernel
theorem dX12_named_59 : decode cX12_named 59 = .ok (.goto 4, 3) := by decide +kernel
theorem dX12_named_62 : decode cX12_named 62 = .ok (.iconst 0, 1) := by decide +kernel
theorem dX12_named_63 : decode cX12_named 63 = .ok (.invokevirtual 490, 3) := by decide +kernel
theorem dX12_named_66 : decode cX12_named 66 = .ok (.return_, 1) := by decide +kernel
theorem dX12_named_67 : decode cX12_named 67 = .ok (.aload_n 0, 1) := by decide +kernel
theorem dX12_named_68 : decode cX12_named 68 = .ok (.getfield 177, 3) := by decide +kernel
theorem dX12_named_71 : decode cX12_named 71 = .ok (.iload_n 1, 1) := by decide +kernel
theorem dX12_named_72 : decode cX12_named 72 = .ok (.iaload, 1) := by decide +kernel
theorem dX12_named_73 : decode cX12_named 73 = .ok (.iconst 2, 1) := by decide +kernel
theorem dX12_named_74 : decode cX12_named 74 = .ok (.if_icmp .ne 28, 3) := by decide +kernel
theorem dX12_named_77 : decode cX12_named 77 = .ok (.aload_n 0, 1) := by decide +kernel
theorem dX12_named_78 : decode cX12_named 78 = .ok (.iconst 5, 1) := by decide +kernel
theorem dX12_named_79 : decode cX12_named 79 = .ok (.aload_n 0, 1) := by decide +kernel
theorem dX12_named_80 : decode cX12_named 80 = .ok (.getfield 180, 3) := by decide +kernel
theorem dX12_named_83 : decode cX12_named 83 = .ok (.iload_n 1, 1) := by decide +kernel
theorem dX12_named_84 : decode cX12_named 84 = .ok (.iaload, 1) := by decide +kernel
theorem dX12_named_85 : decode cX12_named 85 = .ok (.invokevirtual 464, 3) := by decide +kernel
theorem dX12_named_88 : decode cX12_named 88 = .ok (.pop, 1) := by decide +kernel
theorem dX12_named_89 : decode cX12_named 89 = .ok (.aload_n 0, 1) := by decide +kernel
theorem dX12_named_90 : decode cX12_named 90 = .ok (.bipush 59, 2) := by decide +kernel
theorem dX12_named_92 : decode cX12_named 92 = .ok (.invokevirtual 355, 3) := by decide +kernel
theorem dX12_named_95 : decode cX12_named 95 = .ok (.pop, 1) := by decide +kernel
theorem dX12_named_96 : decode cX12_named 96 = .ok (.aload_n 0, 1) := by decide +kernel
theorem dX12_named_97 : decode cX12_named 97 = .ok (.iconst 1, 1) := by decide +kernel
theorem dX12_named_98 : decode cX12_named 98 = .ok (.invokevirtual 490, 3) := by decide +kernel
theorem dX12_named_101 : decode cX12_named 101 = .ok (.return_, 1) := by decide +kernel
theorem dX12_named_102 : decode cX12_named 102 = .ok (.aload_n 0, 1) := by decide +kernel
theorem dX12_named_103 : decode cX12_named 103 = .ok (.getfield 327, 3) := by decide +kernel
theorem dX12_named_106 : decode cX12_named 106 = .ok (.lstore_n 2, 1) := by decide +kernel
theorem dX12_named_107 : decode cX12_named 107 = .ok (.aload_n 0, 1) := by decide +kernel
theorem dX12_named_108 : decode cX12_named 108 = .ok (.getfield 304, 3) := by decide +kernel
theorem dX12_named_111 : decode cX12_named 111 = .ok (.istore 4, 2) := by decide +kernel
theorem dX12_named_113 : decode cX12_named 113 = .ok (.aload_n 0, 1) := by decide +kernel
theorem dX12_named_114 : decode cX12_named 114 = .ok (.invokevirtual 345, 3) := by decide +kernel
theorem dX12_named_117 : decode cX12_named 117 = .ok (.aload_n 0, 1) := by decide +kernel
theorem dX12_named_118 : decode cX12_named 118 = .ok (.getfield 307, 3) := by decide +kernel
theorem dX12_named_121 : decode cX12_named 121 = .ok (.bipush 58, 2) := by decide +kernel
theorem dX12_named_123 : decode cX12_named 123 = .ok (.if_icmp .ne 12, 3) := by decide +kernel
theorem dX12_named_126 : decode cX12_named 126 = .ok (.aload_n 0, 1) := by decide +kernel
theorem dX12_named_127 : decode cX12_named 127 = .ok (.iload_n 1, 1) := by decide +kernel
theorem dX12_named_128 : decode cX12_named 128 = .ok (.lload_n 2, 1) := by decide +kernel
theorem dX12_named_129 : decode cX12_named 129 = .ok (.iload 4, 2) := by decide +kernel
theorem dX12_named_131 : decode cX12_named 131 = .ok (.invokevirtual 513, 3) := by decide +kernel
theorem dX12_named_134 : decode cX12_named 134 = .ok (.return_, 1) := by decide +kernel
theorem dX12_named_135 : decode cX12_named 135 = .ok (.aload_n 0, 1) := by decide +kernel
theorem dX12_named_136 : decode cX12_named 136 = .ok (.lload_n 2, 1) := by decide +kernel
theorem dX12_named_137 : decode cX12_named 137 = .ok (.iload 4, 2) := by decide +kernel
theorem dX12_named_139 : decode cX12_named 139 = .ok (.invokevirtual 517, 3) := by decide +kernel
theorem dX12_named_142 : decode cX12_named 142 = .ok (.istore 5, 2) := by decide +kernel
theorem dX12_named_144 : decode cX12_named 144 = .ok (.aload_n 0, 1) := by decide +kernel
theorem dX12_named_145 : decode cX12_named 145 = .ok (.getfield 291, 3) := by decide +kernel
theorem dX12_named_148 : decode cX12_named 148 = .ok (.ifCond .ne 34, 3) := by decide +kernel
theorem dX12_named_151 : decode cX12_named 151 = .ok (.aload_n 0, 1) := by decide +kernel
theorem dX12_named_152 : decode cX12_named 152 = .ok (.aload_n 0, 1) := by decide +kernel
theorem dX12_named_153 : decode cX12_named 153 = .ok (.getfield 307, 3) := by decide +kernel
theorem dX12_named_156 : decode cX12_named 156 = .ok (.bipush 61, 2) := by decide +kernel
theorem dX12_named_158 : decode cX12_named 158 = .ok (.if_icmp .eq 13, 3) := by decide +kernel
theorem dX12_named_161 : decode cX12_named 161 = .ok (.aload_n 0, 1) := by decide +kernel
theorem dX12_named_162 : decode cX12_named 162 = .ok (.getfield 307, 3) := by decide +kernel
theorem dX12_named_165 : decode cX12_named 165 = .ok (.sipush 307, 3) := by decide +kernel
theorem dX12_named_168 : decode cX12_named 168 = .ok (.if_icmp .ne 7, 3) := by decide +kernel
theorem dX12_named_171 : decode cX12_named 171 = .ok (.iconst 1, 1) := by decide +kernel
theorem dX12_named_172 : decode cX12_named 172 = .ok (.goto 4, 3) := by decide +kernel
theorem dX12_named_175 : decode cX12_named 175 = .ok (.iconst 0, 1) := by decide +kernel
theorem dX12_named_176 : decode cX12_named 176 = .ok (.invokevirtual 341, 3) := by decide +kernel
theorem dX12_named_179 : decode cX12_named 179 = .ok (.ifCond .ne 4, 3) := by decide +kernel
theorem dX12_named_182 : decode cX12_named 182 = .ok (.return_, 1) := by decide +kernel
theorem dX12_named_183 : decode cX12_named 183 = .ok (.aload_n 0, 1) := by decide +kernel
theorem dX12_named_184 : decode cX12_named 184 = .ok (.iconst 1, 1) := by decide +kernel
theorem dX12_named_185 : decode cX12_named 185 = .ok (.iconst 0, 1) := by decide +kernel
theorem dX12_named_186 : decode cX12_named 186 = .ok (.invokevirtual 464, 3) := by decide +kernel
theorem dX12_named_189 : decode cX12_named 189 = .ok (.pop, 1) := by decide +kernel
theorem dX12_named_190 : decode cX12_named 190 = .ok (.aload_n 0, 1) := by decide +kernel
theorem dX12_named_191 : decode cX12_named 191 = .ok (.getfield 307, 3) := by decide +kernel
theorem dX12_named_194 : decode cX12_named 194 = .ok (.sipush 307, 3) := by decide +kernel
theorem dX12_named_197 : decode cX12_named 197 = .ok (.if_icmp .ne 7, 3) := by decide +kernel
theorem dX12_named_200 : decode cX12_named 200 = .ok (.iconst 1, 1) := by decide +kernel
theorem dX12_named_201 : decode cX12_named 201 = .ok (.goto 4, 3) := by decide +kernel
theorem dX12_named_204 : decode cX12_named 204 = .ok (.iconst 0, 1) := by decide +kernel
theorem dX12_named_205 : decode cX12_named 205 = .ok (.istore 6, 2) := by decide +kernel
theorem dX12_named_207 : decode cX12_named 207 = .ok (.aload_n 0, 1) := by decide +kernel
theorem dX12_named_208 : decode cX12_named 208 = .ok (.invokevirtual 345, 3) := by decide +kernel
theorem dX12_named_211 : decode cX12_named 211 = .ok (.iload 6, 2) := by decide +kernel
theorem dX12_named_213 : decode cX12_named 213 = .ok (.ifCond .eq 27, 3) := by decide +kernel
theorem dX12_named_216 : decode cX12_named 216 = .ok (.aload_n 0, 1) := by decide +kernel
theorem dX12_named_217 : decode cX12_named 217 = .ok (.bipush 6, 2) := by decide +kernel
theorem dX12_named_219 : decode cX12_named 219 = .ok (.iload 5, 2) := by decide +kernel
theorem dX12_named_221 : decode cX12_named 221 = .ok (.invokevirtual 464, 3) := by decide +kernel
end
section
theorem dX12_named_224 : decode cX12_named 224 = .ok (.pop, 1) := by decide +kernel
theorem dX12_named_225 : decode cX12_named 225 = .ok (.aload_n 0, 1) := by decide +kernel
theorem dX12_named_226 : decode cX12_named 226 = .ok (.bipush 59, 2) := by decide +kernel
theorem dX12_named_228 : decode cX12_named 228 = .ok (.invokevirtual 355, 3) := by decide +kernel
theorem dX12_named_231 : decode cX12_named 231 = .ok (.pop, 1) := by decide +kernel
theorem dX12_named_232 : decode cX12_named 232 = .ok (.aload_n 0, 1) := by decide +kernel
theorem dX12_named_233 : decode cX12_named 233 = .ok (.iconst 1, 1) := by decide +kernel
theorem dX12_named_234 : decode cX12_named 234 = .ok (.invokevirtual 490, 3) := by decide +kernel
theorem dX12_named_237 : decode cX12_named 237 = .ok (.goto 18, 3) := by decide +kernel
theorem dX12_named_240 : decode cX12_named 240 = .ok (.aload_n 0, 1) := by decide +kernel
theorem dX12_named_241 : decode cX12_named 241 = .ok (.getfield 180, 3) := by decide +kernel
theorem dX12_named_244 : decode cX12_named 244 = .ok (.iload_n 1, 1) := by decide +kernel
theorem dX12_named_245 : decode cX12_named 245 = .ok (.iload 5, 2) := by decide +kernel
theorem dX12_named_247 : decode cX12_named 247 = .ok (.iastore, 1) := by decide +kernel
theorem dX12_named_248 : decode cX12_named 248 = .ok (.aload_n 0, 1) := by decide +kernel
theorem dX12_named_249 : decode cX12_named 249 = .ok (.iconst 2, 1) := by decide +kernel
theorem dX12_named_250 : decode cX12_named 250 = .ok (.bipush 16, 2) := by decide +kernel
theorem dX12_named_252 : decode cX12_named 252 = .ok (.invokevirtual 393, 3) := by decide +kernel
theorem dX12_named_255 : decode cX12_named 255 = .ok (.return_, 1) := by decide +kernel
theorem dX12_label_0 : decode cX12_label 0 = .ok (.aload_n 0, 1) := by decide +kernel
theorem dX12_label_1 : decode cX12_label 1 = .ok (.getfield 367, 3) := by decide +kernel
theorem dX12_label_4 : decode cX12_label 4 = .ok (.iconst 1, 1) := by decide +kernel
theorem dX12_label_5 : decode cX12_label 5 = .ok (.isub, 1) := by decide +kernel
theorem dX12_label_6 : decode cX12_label 6 = .ok (.istore 5, 2) := by decide +kernel
theorem dX12_label_8 : decode cX12_label 8 = .ok (.iload 5, 2) := by decide +kernel
theorem dX12_label_10 : decode cX12_label 10 = .ok (.ifCond .lt 50, 3) := by decide +kernel
theorem dX12_label_13 : decode cX12_label 13 = .ok (.aload_n 0, 1) := by decide +kernel
theorem dX12_label_14 : decode cX12_label 14 = .ok (.getfield 135, 3) := by decide +kernel
theorem dX12_label_17 : decode cX12_label 17 = .ok (.iload 5, 2) := by decide +kernel
theorem dX12_label_19 : decode cX12_label 19 = .ok (.iaload, 1) := by decide +kernel
theorem dX12_label_20 : decode cX12_label 20 = .ok (.iconst 3, 1) := by decide +kernel
theorem dX12_label_21 : decode cX12_label 21 = .ok (.if_icmp .eq 39, 3) := by decide +kernel
theorem dX12_label_24 : decode cX12_label 24 = .ok (.aload_n 0, 1) := by decide +kernel
theorem dX12_label_25 : decode cX12_label 25 = .ok (.getfield 135, 3) := by decide +kernel
theorem dX12_label_28 : decode cX12_label 28 = .ok (.iload 5, 2) := by decide +kernel
theorem dX12_label_30 : decode cX12_label 30 = .ok (.iaload, 1) := by decide +kernel
theorem dX12_label_31 : decode cX12_label 31 = .ok (.iconst 2, 1) := by decide +kernel
theorem dX12_label_32 : decode cX12_label 32 = .ok (.if_icmp .ne 22, 3) := by decide +kernel
theorem dX12_label_35 : decode cX12_label 35 = .ok (.aload_n 0, 1) := by decide +kernel
theorem dX12_label_36 : decode cX12_label 36 = .ok (.getfield 138, 3) := by decide +kernel
theorem dX12_label_39 : decode cX12_label 39 = .ok (.iload 5, 2) := by decide +kernel
theorem dX12_label_41 : decode cX12_label 41 = .ok (.laload, 1) := by decide +kernel
theorem dX12_label_42 : decode cX12_label 42 = .ok (.lload_n 2, 1) := by decide +kernel
theorem dX12_label_43 : decode cX12_label 43 = .ok (.lcmp, 1) := by decide +kernel
theorem dX12_label_44 : decode cX12_label 44 = .ok (.ifCond .ne 10, 3) := by decide +kernel
theorem dX12_label_47 : decode cX12_label 47 = .ok (.aload_n 0, 1) := by decide +kernel
theorem dX12_label_48 : decode cX12_label 48 = .ok (.iconst 4, 1) := by decide +kernel
theorem dX12_label_49 : decode cX12_label 49 = .ok (.iload 4, 2) := by decide +kernel
theorem dX12_label_51 : decode cX12_label 51 = .ok (.invokevirtual 337, 3) := by decide +kernel
theorem dX12_label_54 : decode cX12_label 54 = .ok (.iinc 5 (-1), 3) := by decide +kernel
theorem dX12_label_57 : decode cX12_label 57 = .ok (.goto (-49), 3) := by decide +kernel
theorem dX12_label_60 : decode cX12_label 60 = .ok (.aload_n 0, 1) := by decide +kernel
theorem dX12_label_61 : decode cX12_label 61 = .ok (.iconst 2, 1) := by decide +kernel
theorem dX12_label_62 : decode cX12_label 62 = .ok (.lload_n 2, 1) := by decide +kernel
theorem dX12_label_63 : decode cX12_label 63 = .ok (.invokevirtual 373, 3) := by decide +kernel
theorem dX12_label_66 : decode cX12_label 66 = .ok (.istore 5, 2) := by decide +kernel
theorem dX12_label_68 : decode cX12_label 68 = .ok (.aload_n 0, 1) := by decide +kernel
theorem dX12_label_69 : decode cX12_label 69 = .ok (.getfield 180, 3) := by decide +kernel
theorem dX12_label_72 : decode cX12_label 72 = .ok (.iload_n 1, 1) := by decide +kernel
theorem dX12_label_73 : decode cX12_label 73 = .ok (.iload 5, 2) := by decide +kernel
theorem dX12_label_75 : decode cX12_label 75 = .ok (.iastore, 1) := by decide +kernel
theorem dX12_label_76 : decode cX12_label 76 = .ok (.aload_n 0, 1) := by decide +kernel
theorem dX12_label_77 : decode cX12_label 77 = .ok (.invokevirtual 345, 3) := by decide +kernel
theorem dX12_label_80 : decode cX12_label 80 = .ok (.aload_n 0, 1) := by decide +kernel
theorem dX12_label_81 : decode cX12_label 81 = .ok (.getfield 307, 3) := by decide +kernel
theorem dX12_label_84 : decode cX12_label 84 = .ok (.sipush 415, 3) := by decide +kernel
theorem dX12_label_87 : decode cX12_label 87 = .ok (.if_icmp .eq 23, 3) := by decide +kernel
theorem dX12_label_90 : decode cX12_label 90 = .ok (.aload_n 0, 1) := by decide +kernel
theorem dX12_label_91 : decode cX12_label 91 = .ok (.getfield 307, 3) := by decide +kernel
theorem dX12_label_94 : decode cX12_label 94 = .ok (.sipush 416, 3) := by decide +kernel
theorem dX12_label_97 : decode cX12_label 97 = .ok (.if_icmp .eq 13, 3) := by decide +kernel
theorem dX12_label_100 : decode cX12_label 100 = .ok (.aload_n 0, 1) := by decide +kernel
theorem dX12_label_101 : decode cX12_label 101 = .ok (.getfield 307, 3) := by decide +kernel
theorem dX12_label_104 : decode cX12_label 104 = .ok (.sipush 417, 3) := by decide +kernel
theorem dX12_label_107 : decode cX12_label 107 = .ok (.if_icmp .ne 64, 3) := by decide +kernel
theorem dX12_label_110 : decode cX12_label 110 = .ok (.aload_n 0, 1) := by decide +kernel
theorem dX12_label_111 : decode cX12_label 111 = .ok (.getfield 141, 3) := by decide +kernel
theorem dX12_label_114 : decode cX12_label 114 = .ok (.iload 5, 2) := by decide +kernel
theorem dX12_label_116 : decode cX12_label 116 = .ok (.bipush (-3), 2) := by decide +kernel
theorem dX12_label_118 : decode cX12_label 118 = .ok (.iastore, 1) := by decide +kernel
theorem dX12_label_119 : decode cX12_label 119 = .ok (.iload 5, 2) := by decide +kernel
theorem dX12_label_121 : decode cX12_label 121 = .ok (.iconst 1, 1) := by decide +kernel
theorem dX12_label_122 : decode cX12_label 122 = .ok (.isub, 1) := by decide +kernel
theorem dX12_label_123 : decode cX12_label 123 = .ok (.istore 6, 2) := by decide +kernel
theorem dX12_label_125 : decode cX12_label 125 = .ok (.iload 6, 2) := by decide +kernel
theorem dX12_label_127 : decode cX12_label 127 = .ok (.ifCond .lt 41, 3) := by decide +kernel
theorem dX12_label_130 : decode cX12_label 130 = .ok (.aload_n 0, 1) := by decide +kernel
theorem dX12_label_131 : decode cX12_label 131 = .ok (.getfield 135, 3) := by decide +kernel
theorem dX12_label_134 : decode cX12_label 134 = .ok (.iload 6, 2) := by decide +kernel
theorem dX12_label_136 : decode cX12_label 136 = .ok (.iaload, 1) := by decide +kernel
theorem dX12_label_137 : decode cX12_label 137 = .ok (.iconst 2, 1) := by decide +kernel
theorem dX12_label_138 : decode cX12_label 138 = .ok (.if_icmp .ne 30, 3) := by decide +kernel
theorem dX12_label_141 : decode cX12_label 141 = .ok (.aload_n 0, 1) := by decide +kernel
theorem dX12_label_142 : decode cX12_label 142 = .ok (.getfield 141, 3) := by decide +kernel
theorem dX12_label_145 : decode cX12_label 145 = .ok (.iload 6, 2) := by decide +kernel
theorem dX12_label_147 : decode cX12_label 147 = .ok (.iaload, 1) := by decide +kernel
theorem dX12_label_148 : decode cX12_label 148 = .ok (.bipush (-2), 2) := by decide +kernel
theorem dX12_label_150 : decode cX12_label 150 = .ok (.if_icmp .ne 18, 3) := by decide +kernel
theorem dX12_label_153 : decode cX12_label 153 = .ok (.aload_n 0, 1) := by decide +kernel
theorem dX12_label_154 : decode cX12_label 154 = .ok (.getfield 141, 3) := by decide +kernel
theorem dX12_label_157 : decode cX12_label 157 = .ok (.iload 6, 2) := by decide +kernel
theorem dX12_label_159 : decode cX12_label 159 = .ok (.bipush (-3), 2) := by decide +kernel
theorem dX12_label_161 : decode cX12_label 161 = .ok (.iastore, 1) := by decide +kernel
theorem dX12_label_162 : decode cX12_label 162 = .ok (.iinc 6 (-1), 3) := by decide +kernel
theorem dX12_label_165 : decode cX12_label 165 = .ok (.goto (-40), 3) := by decide +kernel
theorem dX12_label_168 : decode cX12_label 168 = .ok (.goto 20, 3) := by decide +kernel
theorem dX12_label_171 : decode cX12_label 171 = .ok (.aload_n 0, 1) := by decide +kernel
theorem dX12_label_172 : decode cX12_label 172 = .ok (.getfield 307, 3) := by decide +kernel
theorem dX12_label_175 : decode cX12_label 175 = .ok (.iconst 2, 1) := by decide +kernel
theorem dX12_label_176 : decode cX12_label 176 = .ok (.if_icmp .ne 12, 3) := by decide +kernel
theorem dX12_label_179 : decode cX12_label 179 = .ok (.aload_n 0, 1) := by decide +kernel
theorem dX12_label_180 : decode cX12_label 180 = .ok (.getfield 141, 3) := by decide +kernel
theorem dX12_label_183 : decode cX12_label 183 = .ok (.iload 5, 2) := by decide +kernel
theorem dX12_label_185 : decode cX12_label 185 = .ok (.bipush (-2), 2) := by decide +kernel
theorem dX12_label_187 : decode cX12_label 187 = .ok (.iastore, 1) := by decide +kernel
theorem dX12_label_188 : decode cX12_label 188 = .ok (.aload_n 0, 1) := by decide +kernel
theorem dX12_label_189 : decode cX12_label 189 = .ok (.iconst 1, 1) := by decide +kernel
theorem dX12_label_190 : decode cX12_label 190 = .ok (.invokevirtual 521, 3) := by decide +kernel
theorem dX12_label_193 : decode cX12_label 193 = .ok (.return_, 1) := by decide +kernel
theorem dX12_isInArms_0 : decode cX12_isInArms 0 = .ok (.iconst 0, 1) := by decide +kernel
theorem dX12_isInArms_1 : decode cX12_isInArms 1 = .ok (.istore_n 1, 1) := by decide +kernel
theorem dX12_isInArms_2 : decode cX12_isInArms 2 = .ok (.iload_n 1, 1) := by decide +kernel
theorem dX12_isInArms_3 : decode cX12_isInArms 3 = .ok (.aload_n 0, 1) := by decide +kernel
theorem dX12_isInArms_4 : decode cX12_isInArms 4 = .ok (.getfield 367, 3) := by decide +kernel
theorem dX12_isInArms_7 : decode cX12_isInArms 7 = .ok (.if_icmp .ge 21, 3) := by decide +kernel
theorem dX12_isInArms_10 : decode cX12_isInArms 10 = .ok (.aload_n 0, 1) := by decide +kernel
theorem dX12_isInArms_11 : decode cX12_isInArms 11 = .ok (.getfield 135, 3) := by decide +kernel
theorem dX12_isInArms_14 : decode cX12_isInArms 14 = .ok (.iload_n 1, 1) := by decide +kernel
theorem dX12_isInArms_15 : decode cX12_isInArms 15 = .ok (.iaload, 1) := by decide +kernel
theorem dX12_isInArms_16 : decode cX12_isInArms 16 = .ok (.iconst 3, 1) := by decide +kernel
theorem dX12_isInArms_17 : decode cX12_isInArms 17 = .ok (.if_icmp .ne 5, 3) := by decide +kernel
theorem dX12_isInArms_20 : decode cX12_isInArms 20 = .ok (.iconst 1, 1) := by decide +kernel
theorem dX12_isInArms_21 : decode cX12_isInArms 21 = .ok (.ireturn, 1) := by decide +kernel
theorem dX12_isInArms_22 : decode cX12_isInArms 22 = .ok (.iinc 1 1, 3) := by decide +kernel
theorem dX12_isInArms_25 : decode cX12_isInArms 25 = .ok (.goto (-23), 3) := by decide +kernel
theorem dX12_isInArms_28 : decode cX12_isInArms 28 = .ok (.iconst 0, 1) := by decide +kernel
theorem dX12_isInArms_29 : decode cX12_isInArms 29 = .ok (.ireturn, 1) := by decide +kernel
theorem dX12_ending_0 : decode cX12_ending 0 = .ok (.aload_n 0, 1) := by decide +kernel
theorem dX12_ending_1 : decode cX12_ending 1 = .ok (.getfield 177, 3) := by decide +kernel
theorem dX12_ending_4 : decode cX12_ending 4 = .ok (.iload_n 1, 1) := by decide +kernel
theorem dX12_ending_5 : decode cX12_ending 5 = .ok (.iaload, 1) := by decide +kernel
theorem dX12_ending_6 : decode cX12_ending 6 = .ok (.ifCond .ne 69, 3) := by decide +kernel
theorem dX12_ending_9 : decode cX12_ending 9 = .ok (.aload_n 0, 1) := by decide +kernel
theorem dX12_ending_10 : decode cX12_ending 10 = .ok (.getfield 180, 3) := by decide +kernel
theorem dX12_ending_13 : decode cX12_ending 13 = .ok (.iload_n 1, 1) := by decide +kernel
theorem dX12_ending_14 : decode cX12_ending 14 = .ok (.aload_n 0, 1) := by decide +kernel
theorem dX12_ending_15 : decode cX12_ending 15 = .ok (.getfield 307, 3) := by decide +kernel
theorem dX12_ending_18 : decode cX12_ending 18 = .ok (.iastore, 1) := by decide +kernel
theorem dX12_ending_19 : decode cX12_ending 19 = .ok (.aload_n 0, 1) := by decide +kernel
theorem dX12_ending_20 : decode cX12_ending 20 = .ok (.getfield 307, 3) := by decide +kernel
theorem dX12_ending_23 : decode cX12_ending 23 = .ok (.sipush 420, 3) := by decide +kernel
theorem dX12_ending_26 : decode cX12_ending 26 = .ok (.if_icmp .ne 10, 3) := by decide +kernel
theorem dX12_ending_29 : decode cX12_ending 29 = .ok (.aload_n 0, 1) := by decide +kernel
theorem dX12_ending_30 : decode cX12_ending 30 = .ok (.invokevirtual 524, 3) := by decide +kernel
theorem dX12_ending_33 : decode cX12_ending 33 = .ok (.ifCond .ne 20, 3) := by decide +kernel
theorem dX12_ending_36 : decode cX12_ending 36 = .ok (.aload_n 0, 1) := by decide +kernel
theorem dX12_ending_37 : decode cX12_ending 37 = .ok (.getfield 307, 3) := by decide +kernel
theorem dX12_ending_40 : decode cX12_ending 40 = .ok (.sipush 431, 3) := by decide +kernel
theorem dX12_ending_43 : decode cX12_ending 43 = .ok (.if_icmp .ne 20, 3) := by decide +kernel
theorem dX12_ending_46 : decode cX12_ending 46 = .ok (.aload_n 0, 1) := by decide +kernel
theorem dX12_ending_47 : decode cX12_ending 47 = .ok (.invokevirtual 524, 3) := by decide +kernel
theorem dX12_ending_50 : decode cX12_ending 50 = .ok (.ifCond .ne 13, 3) := by decide +kernel
theorem dX12_ending_53 : decode cX12_ending 53 = .ok (.aload_n 0, 1) := by decide +kernel
theorem dX12_ending_54 : decode cX12_ending 54 = .ok (.iconst 5, 1) := by decide +kernel
theorem dX12_ending_55 : decode cX12_ending 55 = .ok (.aload_n 0, 1) := by decide +kernel
theorem dX12_ending_56 : decode cX12_ending 56 = .ok (.getfield 304, 3) := by decide +kernel
theorem dX12_ending_59 : decode cX12_ending 59 = .ok (.invokevirtual 337, 3) := by decide +kernel
theorem dX12_ending_62 : decode cX12_ending 62 = .ok (.return_, 1) := by decide +kernel
theorem dX12_ending_63 : decode cX12_ending 63 = .ok (.aload_n 0, 1) := by decide +kernel
theorem dX12_ending_64 : decode cX12_ending 64 = .ok (.invokevirtual 345, 3) := by decide +kernel
theorem dX12_ending_67 : decode cX12_ending 67 = .ok (.aload_n 0, 1) := by decide +kernel
theorem dX12_ending_68 : decode cX12_ending 68 = .ok (.iconst 1, 1) := by decide +kernel
theorem dX12_ending_69 : decode cX12_ending 69 = .ok (.bipush 16, 2) := by decide +kernel
theorem dX12_ending_71 : decode cX12_ending 71 = .ok (.invokevirtual 393, 3) := by decide +kernel
theorem dX12_ending_74 : decode cX12_ending 74 = .ok (.return_, 1) := by decide +kernel
theorem dX12_ending_75 : decode cX12_ending 75 = .ok (.aload_n 0, 1) := by decide +kernel
theorem dX12_ending_76 : decode cX12_ending 76 = .ok (.aload_n 0, 1) := by decide +kernel
theorem dX12_ending_77 : decode cX12_ending 77 = .ok (.getfield 180, 3) := by decide +kernel
theorem dX12_ending_80 : decode cX12_ending 80 = .ok (.iload_n 1, 1) := by decide +kernel
theorem dX12_ending_81 : decode cX12_ending 81 = .ok (.iaload, 1) := by decide +kernel
theorem dX12_ending_82 : decode cX12_ending 82 = .ok (.sipush 412, 3) := by decide +kernel
theorem dX12_ending_85 : decode cX12_ending 85 = .ok (.if_icmp .ne 8, 3) := by decide +kernel
theorem dX12_ending_88 : decode cX12_ending 88 = .ok (.bipush 16, 2) := by decide +kernel
theorem dX12_ending_90 : decode cX12_ending 90 = .ok (.goto 22, 3) := by decide +kernel
theorem dX12_ending_93 : decode cX12_ending 93 = .ok (.aload_n 0, 1) := by decide +kernel
theorem dX12_ending_94 : decode cX12_ending 94 = .ok (.getfield 180, 3) := by decide +kernel
theorem dX12_ending_97 : decode cX12_ending 97 = .ok (.iload_n 1, 1) := by decide +kernel
theorem dX12_ending_98 : decode cX12_ending 98 = .ok (.iaload, 1) := by decide +kernel
theorem dX12_ending_99 : decode cX12_ending 99 = .ok (.sipush 420, 3) := by decide +kernel
theorem dX12_ending_102 : decode cX12_ending 102 = .ok (.if_icmp .ne 8, 3) := by decide +kernel
theorem dX12_ending_105 : decode cX12_ending 105 = .ok (.bipush 17, 2) := by decide +kernel
theorem dX12_ending_107 : decode cX12_ending 107 = .ok (.goto 5, 3) := by decide +kernel
theorem dX12_ending_110 : decode cX12_ending 110 = .ok (.bipush 18, 2) := by decide +kernel
theorem dX12_ending_112 : decode cX12_ending 112 = .ok (.iconst 0, 1) := by decide +kernel
theorem dX12_ending_113 : decode cX12_ending 113 = .ok (.invokevirtual 464, 3) := by decide +kernel
theorem dX12_ending_116 : decode cX12_ending 116 = .ok (.istore_n 2, 1) := by decide +kernel
theorem dX12_ending_117 : decode cX12_ending 117 = .ok (.iconst 0, 1) := by decide +kernel
theorem dX12_ending_118 : decode cX12_ending 118 = .ok (.istore_n 3, 1) := by decide +kernel
theorem dX12_ending_119 : decode cX12_ending 119 = .ok (.iload_n 3, 1) := by decide +kernel
theorem dX12_ending_120 : decode cX12_ending 120 = .ok (.aload_n 0, 1) := by decide +kernel
theorem dX12_ending_121 : decode cX12_ending 121 = .ok (.getfield 367, 3) := by decide +kernel
theorem dX12_ending_124 : decode cX12_ending 124 = .ok (.if_icmp .ge 40, 3) := by decide +kernel
theorem dX12_ending_127 : decode cX12_ending 127 = .ok (.aload_n 0, 1) := by decide +kernel
theorem dX12_ending_128 : decode cX12_ending 128 = .ok (.getfield 90, 3) := by decide +kernel
theorem dX12_ending_131 : decode cX12_ending 131 = .ok (.iload_n 2, 1) := by decide +kernel
theorem dX12_ending_132 : decode cX12_ending 132 = .ok (.aload_n 0, 1) := by decide +kernel
theorem dX12_ending_133 : decode cX12_ending 133 = .ok (.getfield 135, 3) := by decide +kernel
theorem dX12_ending_136 : decode cX12_ending 136 = .ok (.iload_n 3, 1) := by decide +kernel
theorem dX12_ending_137 : decode cX12_ending 137 = .ok (.iaload, 1) := by decide +kernel
theorem dX12_ending_138 : decode cX12_ending 138 = .ok (.iconst 3, 1) := by decide +kernel
theorem dX12_ending_139 : decode cX12_ending 139 = .ok (.if_icmp .ne 12, 3) := by decide +kernel
theorem dX12_ending_142 : decode cX12_ending 142 = .ok (.aload_n 0, 1) := by decide +kernel
theorem dX12_ending_143 : decode cX12_ending 143 = .ok (.getfield 144, 3) := by decide +kernel
theorem dX12_ending_146 : decode cX12_ending 146 = .ok (.iload_n 3, 1) := by decide +kernel
theorem dX12_ending_147 : decode cX12_ending 147 = .ok (.iaload, 1) := by decide +kernel
theorem dX12_ending_148 : decode cX12_ending 148 = .ok (.goto 9, 3) := by decide +kernel
theorem dX12_ending_151 : decode cX12_ending 151 = .ok (.aload_n 0, 1) := by decide +kernel
theorem dX12_ending_152 : decode cX12_ending 152 = .ok (.getfield 90, 3) := by decide +kernel
theorem dX12_ending_155 : decode cX12_ending 155 = .ok (.iload_n 2, 1) := by decide +kernel
theorem dX12_ending_156 : decode cX12_ending 156 = .ok (.iaload, 1) := by decide +kernel
theorem dX12_ending_157 : decode cX12_ending 157 = .ok (.iastore, 1) := by decide +kernel
theorem dX12_ending_158 : decode cX12_ending 158 = .ok (.iinc 3 1, 3) := by decide +kernel
theorem dX12_ending_161 : decode cX12_ending 161 = .ok (.goto (-42), 3) := by decide +kernel
theorem dX12_ending_164 : decode cX12_ending 164 = .ok (.aload_n 0, 1) := by decide +kernel
theorem dX12_ending_165 : decode cX12_ending 165 = .ok (.bipush 59, 2) := by decide +kernel
theorem dX12_ending_167 : decode cX12_ending 167 = .ok (.invokevirtual 355, 3) := by decide +kernel
theorem dX12_ending_170 : decode cX12_ending 170 = .ok (.pop, 1) := by decide +kernel
theorem dX12_ending_171 : decode cX12_ending 171 = .ok (.aload_n 0, 1) := by decide +kernel
theorem dX12_ending_172 : decode cX12_ending 172 = .ok (.aload_n 0, 1) := by decide +kernel
theorem dX12_ending_173 : decode cX12_ending 173 = .ok (.getfield 180, 3) := by decide +kernel
theorem dX12_ending_176 : decode cX12_ending 176 = .ok (.iload_n 1, 1) := by decide +kernel
theorem dX12_ending_177 : decode cX12_ending 177 = .ok (.iaload, 1) := by decide +kernel
theorem dX12_ending_178 : decode cX12_ending 178 = .ok (.sipush 412, 3) := by decide +kernel
theorem dX12_ending_181 : decode cX12_ending 181 = .ok (.if_icmp .ne 7, 3) := by decide +kernel
theorem dX12_ending_184 : decode cX12_ending 184 = .ok (.iconst 1, 1) := by decide +kernel
theorem dX12_ending_185 : decode cX12_ending 185 = .ok (.goto 4, 3) := by decide +kernel
theorem dX12_ending_188 : decode cX12_ending 188 = .ok (.iconst 0, 1) := by decide +kernel
theorem dX12_ending_189 : decode cX12_ending 189 = .ok (.invokevirtual 490, 3) := by decide +kernel
theorem dX12_ending_192 : decode cX12_ending 192 = .ok (.return_, 1) := by decide +kernel
theorem dX12_jump_0 : decode cX12_jump 0 = .ok (.aload_n 0, 1) := by decide +kernel
theorem dX12_jump_1 : decode cX12_jump 1 = .ok (.getfield 307, 3) := by decide +kernel
theorem dX12_jump_4 : decode cX12_jump 4 = .ok (.sipush 418, 3) := by decide +kernel
theorem dX12_jump_7 : decode cX12_jump 7 = .ok (.if_icmp .ne 7, 3) := by decide +kernel
theorem dX12_jump_10 : decode cX12_jump 10 = .ok (.iconst 1, 1) := by decide +kernel
theorem dX12_jump_11 : decode cX12_jump 11 = .ok (.goto 4, 3) := by decide +kernel
theorem dX12_jump_14 : decode cX12_jump 14 = .ok (.iconst 0, 1) := by decide +kernel
theorem dX12_jump_15 : decode cX12_jump 15 = .ok (.istore_n 1, 1) := by decide +kernel
theorem dX12_jump_16 : decode cX12_jump 16 = .ok (.aload_n 0, 1) := by decide +kernel
theorem dX12_jump_17 : decode cX12_jump 17 = .ok (.getfield 304, 3) := by decide +kernel
theorem dX12_jump_20 : decode cX12_jump 20 = .ok (.istore_n 2, 1) := by decide +kernel
theorem dX12_jump_21 : decode cX12_jump 21 = .ok (.aload_n 0, 1) := by decide +kernel
theorem dX12_jump_22 : decode cX12_jump 22 = .ok (.dup, 1) := by decide +kernel
theorem dX12_jump_23 : decode cX12_jump 23 = .ok (.getfield 527, 3) := by decide +kernel
theorem dX12_jump_26 : decode cX12_jump 26 = .ok (.iconst 1, 1) := by decide +kernel
theorem dX12_jump_27 : decode cX12_jump 27 = .ok (.iadd, 1) := by decide +kernel
theorem dX12_jump_28 : decode cX12_jump 28 = .ok (.putfield 527, 3) := by decide +kernel
theorem dX12_jump_31 : decode cX12_jump 31 = .ok (.aload_n 0, 1) := by decide +kernel
theorem dX12_jump_32 : decode cX12_jump 32 = .ok (.invokevirtual 345, 3) := by decide +kernel
theorem dX12_jump_35 : decode cX12_jump 35 = .ok (.aload_n 0, 1) := by decide +kernel
theorem dX12_jump_36 : decode cX12_jump 36 = .ok (.getfield 307, 3) := by decide +kernel
theorem dX12_jump_39 : decode cX12_jump 39 = .ok (.iconst 2, 1) := by decide +kernel
theorem dX12_jump_40 : decode cX12_jump 40 = .ok (.if_icmp .ne 7, 3) := by decide +kernel
theorem dX12_jump_43 : decode cX12_jump 43 = .ok (.iconst 1, 1) := by decide +kernel
theorem dX12_jump_44 : decode cX12_jump 44 = .ok (.goto 4, 3) := by decide +kernel
theorem dX12_jump_47 : decode cX12_jump 47 = .ok (.iconst 0, 1) := by decide +kernel
theorem dX12_jump_48 : decode cX12_jump 48 = .ok (.istore_n 3, 1) := by decide +kernel
theorem dX12_jump_49 : decode cX12_jump 49 = .ok (.iconst (-1), 1) := by decide +kernel
theorem dX12_jump_50 : decode cX12_jump 50 = .ok (.istore 4, 2) := by decide +kernel
theorem dX12_jump_52 : decode cX12_jump 52 = .ok (.aload_n 0, 1) := by decide +kernel
theorem dX12_jump_53 : decode cX12_jump 53 = .ok (.getfield 367, 3) := by decide +kernel
theorem dX12_jump_56 : decode cX12_jump 56 = .ok (.iconst 1, 1) := by decide +kernel
theorem dX12_jump_57 : decode cX12_jump 57 = .ok (.isub, 1) := by decide +kernel
theorem dX12_jump_58 : decode cX12_jump 58 = .ok (.istore 5, 2) := by decide +kernel
theorem dX12_jump_60 : decode cX12_jump 60 = .ok (.iload 5, 2) := by decide +kernel
theorem dX12_jump_62 : decode cX12_jump 62 = .ok (.ifCond .lt 109, 3) := by decide +kernel
theorem dX12_jump_65 : decode cX12_jump 65 = .ok (.aload_n 0, 1) := by decide +kernel
theorem dX12_jump_66 : decode cX12_jump 66 = .ok (.getfield 135, 3) := by decide +kernel
theorem dX12_jump_69 : decode cX12_jump 69 = .ok (.iload 5, 2) := by decide +kernel
theorem dX12_jump_71 : decode cX12_jump 71 = .ok (.iaload, 1) := by decide +kernel
theorem dX12_jump_72 : decode cX12_jump 72 = .ok (.iconst 3, 1) := by decide +kernel
theorem dX12_jump_73 : decode cX12_jump 73 = .ok (.if_icmp .eq 98, 3) := by decide +kernel
theorem dX12_jump_76 : decode cX12_jump 76 = .ok (.iload 4, 2) := by decide +kernel
theorem dX12_jump_78 : decode cX12_jump 78 = .ok (.ifCond .ge 93, 3) := by decide +kernel
theorem dX12_jump_81 : decode cX12_jump 81 = .ok (.iload_n 3, 1) := by decide +kernel
theorem dX12_jump_82 : decode cX12_jump 82 = .ok (.ifCond .eq 37, 3) := by decide +kernel
theorem dX12_jump_85 : decode cX12_jump 85 = .ok (.aload_n 0, 1) := by decide +kernel
theorem dX12_jump_86 : decode cX12_jump 86 = .ok (.getfield 135, 3) := by decide +kernel
theorem dX12_jump_89 : decode cX12_jump 89 = .ok (.iload 5, 2) := by decide +kernel
theorem dX12_jump_91 : decode cX12_jump 91 = .ok (.iaload, 1) := by decide +kernel
theorem dX12_jump_92 : decode cX12_jump 92 = .ok (.iconst 2, 1) := by decide +kernel
theorem dX12_jump_93 : decode cX12_jump 93 = .ok (.if_icmp .ne 22, 3) := by decide +kernel
theorem dX12_jump_96 : decode cX12_jump 96 = .ok (.aload_n 0, 1) := by decide +kernel
theorem dX12_jump_97 : decode cX12_jump 97 = .ok (.getfield 138, 3) := by decide +kernel
theorem dX12_jump_100 : decode cX12_jump 100 = .ok (.iload 5, 2) := by decide +kernel
theorem dX12_jump_102 : decode cX12_jump 102 = .ok (.laload, 1) := by decide +kernel
theorem dX12_jump_103 : decode cX12_jump 103 = .ok (.aload_n 0, 1) := by decide +kernel
theorem dX12_jump_104 : decode cX12_jump 104 = .ok (.getfield 327, 3) := by decide +kernel
theorem dX12_jump_107 : decode cX12_jump 107 = .ok (.lcmp, 1) := by decide +kernel
theorem dX12_jump_108 : decode cX12_jump 108 = .ok (.ifCond .ne 7, 3) := by decide +kernel
theorem dX12_jump_111 : decode cX12_jump 111 = .ok (.iconst 1, 1) := by decide +kernel
theorem dX12_jump_112 : decode cX12_jump 112 = .ok (.goto 37, 3) := by decide +kernel
theorem dX12_jump_115 : decode cX12_jump 115 = .ok (.iconst 0, 1) := by decide +kernel
theorem dX12_jump_116 : decode cX12_jump 116 = .ok (.goto 33, 3) := by decide +kernel
theorem dX12_jump_119 : decode cX12_jump 119 = .ok (.aload_n 0, 1) := by decide +kernel
theorem dX12_jump_120 : decode cX12_jump 120 = .ok (.getfield 135, 3) := by decide +kernel
theorem dX12_jump_123 : decode cX12_jump 123 = .ok (.iload 5, 2) := by decide +kernel
theorem dX12_jump_125 : decode cX12_jump 125 = .ok (.iaload, 1) := by decide +kernel
theorem dX12_jump_126 : decode cX12_jump 126 = .ok (.ifCond .eq 18, 3) := by decide +kernel
theorem dX12_jump_129 : decode cX12_jump 129 = .ok (.iload_n 1, 1) := by decide +kernel
theorem dX12_jump_130 : decode cX12_jump 130 = .ok (.ifCond .eq 18, 3) := by decide +kernel
theorem dX12_jump_133 : decode cX12_jump 133 = .ok (.aload_n 0, 1) := by decide +kernel
theorem dX12_jump_134 : decode cX12_jump 134 = .ok (.getfield 135, 3) := by decide +kernel
theorem dX12_jump_137 : decode cX12_jump 137 = .ok (.iload 5, 2) := by decide +kernel
theorem dX12_jump_139 : decode cX12_jump 139 = .ok (.iaload, 1) := by decide +kernel
theorem dX12_jump_140 : decode cX12_jump 140 = .ok (.iconst 1, 1) := by decide +kernel
theorem dX12_jump_141 : decode cX12_jump 141 = .ok (.if_icmp .ne 7, 3) := by decide +kernel
theorem dX12_jump_144 : decode cX12_jump 144 = .ok (.iconst 1, 1) := by decide +kernel
theorem dX12_jump_145 : decode cX12_jump 145 = .ok (.goto 4, 3) := by decide +kernel
theorem dX12_jump_148 : decode cX12_jump 148 = .ok (.iconst 0, 1) := by decide +kernel
theorem dX12_jump_149 : decode cX12_jump 149 = .ok (.istore 6, 2) := by decide +kernel
theorem dX12_jump_151 : decode cX12_jump 151 = .ok (.iload 6, 2) := by decide +kernel
theorem dX12_jump_153 : decode cX12_jump 153 = .ok (.ifCond .eq 8, 3) := by decide +kernel
theorem dX12_jump_156 : decode cX12_jump 156 = .ok (.iload 5, 2) := by decide +kernel
theorem dX12_jump_158 : decode cX12_jump 158 = .ok (.goto 5, 3) := by decide +kernel
theorem dX12_jump_161 : decode cX12_jump 161 = .ok (.iload 4, 2) := by decide +kernel
theorem dX12_jump_163 : decode cX12_jump 163 = .ok (.istore 4, 2) := by decide +kernel
theorem dX12_jump_165 : decode cX12_jump 165 = .ok (.iinc 5 (-1), 3) := by decide +kernel
theorem dX12_jump_168 : decode cX12_jump 168 = .ok (.goto (-108), 3) := by decide +kernel
theorem dX12_jump_171 : decode cX12_jump 171 = .ok (.iload 4, 2) := by decide +kernel
theorem dX12_jump_173 : decode cX12_jump 173 = .ok (.ifCond .ge 29, 3) := by decide +kernel
theorem dX12_jump_176 : decode cX12_jump 176 = .ok (.aload_n 0, 1) := by decide +kernel
theorem dX12_jump_177 : decode cX12_jump 177 = .ok (.iload_n 3, 1) := by decide +kernel
theorem dX12_jump_178 : decode cX12_jump 178 = .ok (.ifCond .eq 7, 3) := by decide +kernel
theorem dX12_jump_181 : decode cX12_jump 181 = .ok (.iconst 3, 1) := by decide +kernel
theorem dX12_jump_182 : decode cX12_jump 182 = .ok (.goto 4, 3) := by decide +kernel
theorem dX12_jump_185 : decode cX12_jump 185 = .ok (.iconst 5, 1) := by decide +kernel
theorem dX12_jump_186 : decode cX12_jump 186 = .ok (.iload_n 3, 1) := by decide +kernel
theorem dX12_jump_187 : decode cX12_jump 187 = .ok (.ifCond .eq 10, 3) := by decide +kernel
theorem dX12_jump_190 : decode cX12_jump 190 = .ok (.aload_n 0, 1) := by decide +kernel
theorem dX12_jump_191 : decode cX12_jump 191 = .ok (.getfield 304, 3) := by decide +kernel
theorem dX12_jump_194 : decode cX12_jump 194 = .ok (.goto 4, 3) := by decide +kernel
theorem dX12_jump_197 : decode cX12_jump 197 = .ok (.iload_n 2, 1) := by decide +kernel
theorem dX12_jump_198 : decode cX12_jump 198 = .ok (.invokevirtual 337, 3) := by decide +kernel
theorem dX12_jump_201 : decode cX12_jump 201 = .ok (.return_, 1) := by decide +kernel
theorem dX12_jump_202 : decode cX12_jump 202 = .ok (.iload_n 3, 1) := by decide +kernel
theorem dX12_jump_203 : decode cX12_jump 203 = .ok (.ifCond .eq 31, 3) := by decide +kernel
theorem dX12_jump_206 : decode cX12_jump 206 = .ok (.iload_n 1, 1) := by decide +kernel
theorem dX12_jump_207 : decode cX12_jump 207 = .ok (.ifCond .ne 27, 3) := by decide +kernel
theorem dX12_jump_210 : decode cX12_jump 210 = .ok (.aload_n 0, 1) := by decide +kernel
theorem dX12_jump_211 : decode cX12_jump 211 = .ok (.getfield 141, 3) := by decide +kernel
theorem dX12_jump_214 : decode cX12_jump 214 = .ok (.iload 4, 2) := by decide +kernel
theorem dX12_jump_216 : decode cX12_jump 216 = .ok (.iaload, 1) := by decide +kernel
theorem dX12_jump_217 : decode cX12_jump 217 = .ok (.istore 4, 2) := by decide +kernel
theorem dX12_jump_219 : decode cX12_jump 219 = .ok (.iload 4, 2) := by decide +kernel
theorem dX12_jump_221 : decode cX12_jump 221 = .ok (.ifCond .ge 13, 3) := by decide +kernel
theorem dX12_jump_224 : decode cX12_jump 224 = .ok (.aload_n 0, 1) := by decide +kernel
theorem dX12_jump_225 : decode cX12_jump 225 = .ok (.iconst 5, 1) := by decide +kernel
theorem dX12_jump_226 : decode cX12_jump 226 = .ok (.aload_n 0, 1) := by decide +kernel
theorem dX12_jump_227 : decode cX12_jump 227 = .ok (.getfield 304, 3) := by decide +kernel
theorem dX12_jump_230 : decode cX12_jump 230 = .ok (.invokevirtual 337, 3) := by decide +kernel
theorem dX12_jump_233 : decode cX12_jump 233 = .ok (.return_, 1) := by decide +kernel
theorem dX12_jump_234 : decode cX12_jump 234 = .ok (.aload_n 0, 1) := by decide +kernel
theorem dX12_jump_235 : decode cX12_jump 235 = .ok (.bipush 36, 2) := by decide +kernel
theorem dX12_jump_237 : decode cX12_jump 237 = .ok (.iload_n 1, 1) := by decide +kernel
theorem dX12_jump_238 : decode cX12_jump 238 = .ok (.ifCond .eq 13, 3) := by decide +kernel
theorem dX12_jump_241 : decode cX12_jump 241 = .ok (.aload_n 0, 1) := by decide +kernel
theorem dX12_jump_242 : decode cX12_jump 242 = .ok (.getfield 147, 3) := by decide +kernel
theorem dX12_jump_245 : decode cX12_jump 245 = .ok (.iload 4, 2) := by decide +kernel
theorem dX12_jump_247 : decode cX12_jump 247 = .ok (.iaload, 1) := by decide +kernel
theorem dX12_jump_248 : decode cX12_jump 248 = .ok (.goto 10, 3) := by decide +kernel
theorem dX12_jump_251 : decode cX12_jump 251 = .ok (.aload_n 0, 1) := by decide +kernel
theorem dX12_jump_252 : decode cX12_jump 252 = .ok (.getfield 150, 3) := by decide +kernel
theorem dX12_jump_255 : decode cX12_jump 255 = .ok (.iload 4, 2) := by decide +kernel
theorem dX12_jump_257 : decode cX12_jump 257 = .ok (.iaload, 1) := by decide +kernel
theorem dX12_jump_258 : decode cX12_jump 258 = .ok (.invokevirtual 464, 3) := by decide +kernel
theorem dX12_jump_261 : decode cX12_jump 261 = .ok (.istore 5, 2) := by decide +kernel
theorem dX12_jump_263 : decode cX12_jump 263 = .ok (.aload_n 0, 1) := by decide +kernel
theorem dX12_jump_264 : decode cX12_jump 264 = .ok (.getfield 90, 3) := by decide +kernel
theorem dX12_jump_267 : decode cX12_jump 267 = .ok (.iload 5, 2) := by decide +kernel
theorem dX12_jump_269 : decode cX12_jump 269 = .ok (.aload_n 0, 1) := by decide +kernel
theorem dX12_jump_270 : decode cX12_jump 270 = .ok (.getfield 144, 3) := by decide +kernel
theorem dX12_jump_273 : decode cX12_jump 273 = .ok (.iload 4, 2) := by decide +kernel
theorem dX12_jump_275 : decode cX12_jump 275 = .ok (.iaload, 1) := by decide +kernel
theorem dX12_jump_276 : decode cX12_jump 276 = .ok (.iastore, 1) := by decide +kernel
theorem dX12_jump_277 : decode cX12_jump 277 = .ok (.iload_n 1, 1) := by decide +kernel
theorem dX12_jump_278 : decode cX12_jump 278 = .ok (.ifCond .eq 15, 3) := by decide +kernel
theorem dX12_jump_281 : decode cX12_jump 281 = .ok (.aload_n 0, 1) := by decide +kernel
theorem dX12_jump_282 : decode cX12_jump 282 = .ok (.getfield 147, 3) := by decide +kernel
theorem dX12_jump_285 : decode cX12_jump 285 = .ok (.iload 4, 2) := by decide +kernel
theorem dX12_jump_287 : decode cX12_jump 287 = .ok (.iload 5, 2) := by decide +kernel
theorem dX12_jump_289 : decode cX12_jump 289 = .ok (.iastore, 1) := by decide +kernel
theorem dX12_jump_290 : decode cX12_jump 290 = .ok (.goto 12, 3) := by decide +kernel
theorem dX12_jump_293 : decode cX12_jump 293 = .ok (.aload_n 0, 1) := by decide +kernel
theorem dX12_jump_294 : decode cX12_jump 294 = .ok (.getfield 150, 3) := by decide +kernel
theorem dX12_jump_297 : decode cX12_jump 297 = .ok (.iload 4, 2) := by decide +kernel
theorem dX12_jump_299 : decode cX12_jump 299 = .ok (.iload 5, 2) := by decide +kernel
theorem dX12_jump_301 : decode cX12_jump 301 = .ok (.iastore, 1) := by decide +kernel
theorem dX12_jump_302 : decode cX12_jump 302 = .ok (.aload_n 0, 1) := by decide +kernel
theorem dX12_jump_303 : decode cX12_jump 303 = .ok (.iload 4, 2) := by decide +kernel
theorem dX12_jump_305 : decode cX12_jump 305 = .ok (.iload_n 1, 1) := by decide +kernel
theorem dX12_jump_306 : decode cX12_jump 306 = .ok (.invokevirtual 530, 3) := by decide +kernel
theorem dX12_jump_309 : decode cX12_jump 309 = .ok (.iload_n 3, 1) := by decide +kernel
theorem dX12_jump_310 : decode cX12_jump 310 = .ok (.ifCond .eq 7, 3) := by decide +kernel
theorem dX12_jump_313 : decode cX12_jump 313 = .ok (.aload_n 0, 1) := by decide +kernel
theorem dX12_jump_314 : decode cX12_jump 314 = .ok (.invokevirtual 345, 3) := by decide +kernel
theorem dX12_jump_317 : decode cX12_jump 317 = .ok (.aload_n 0, 1) := by decide +kernel
theorem dX12_jump_318 : decode cX12_jump 318 = .ok (.bipush 59, 2) := by decide +kernel
theorem dX12_jump_320 : decode cX12_jump 320 = .ok (.invokevirtual 355, 3) := by decide +kernel
theorem dX12_jump_323 : decode cX12_jump 323 = .ok (.pop, 1) := by decide +kernel
theorem dX12_jump_324 : decode cX12_jump 324 = .ok (.return_, 1) := by decide +kernel
theorem dX12_throwing_0 : decode cX12_throwing 0 = .ok (.aload_n 0, 1) := by decide +kernel
theorem dX12_throwing_1 : decode cX12_throwing 1 = .ok (.getfield 177, 3) := by decide +kernel
theorem dX12_throwing_4 : decode cX12_throwing 4 = .ok (.iload_n 1, 1) := by decide +kernel
theorem dX12_throwing_5 : decode cX12_throwing 5 = .ok (.iaload, 1) := by decide +kernel
theorem dX12_throwing_6 : decode cX12_throwing 6 = .ok (.iconst 1, 1) := by decide +kernel
theorem dX12_throwing_7 : decode cX12_throwing 7 = .ok (.if_icmp .ne 29, 3) := by decide +kernel
theorem dX12_throwing_10 : decode cX12_throwing 10 = .ok (.aload_n 0, 1) := by decide +kernel
theorem dX12_throwing_11 : decode cX12_throwing 11 = .ok (.bipush 19, 2) := by decide +kernel
theorem dX12_throwing_13 : decode cX12_throwing 13 = .ok (.aload_n 0, 1) := by decide +kernel
theorem dX12_throwing_14 : decode cX12_throwing 14 = .ok (.getfield 180, 3) := by decide +kernel
theorem dX12_throwing_17 : decode cX12_throwing 17 = .ok (.iload_n 1, 1) := by decide +kernel
theorem dX12_throwing_18 : decode cX12_throwing 18 = .ok (.iaload, 1) := by decide +kernel
theorem dX12_throwing_19 : decode cX12_throwing 19 = .ok (.invokevirtual 464, 3) := by decide +kernel
theorem dX12_throwing_22 : decode cX12_throwing 22 = .ok (.pop, 1) := by decide +kernel
theorem dX12_throwing_23 : decode cX12_throwing 23 = .ok (.aload_n 0, 1) := by decide +kernel
theorem dX12_throwing_24 : decode cX12_throwing 24 = .ok (.bipush 59, 2) := by decide +kernel
theorem dX12_throwing_26 : decode cX12_throwing 26 = .ok (.invokevirtual 355, 3) := by decide +kernel
theorem dX12_throwing_29 : decode cX12_throwing 29 = .ok (.pop, 1) := by decide +kernel
theorem dX12_throwing_30 : decode cX12_throwing 30 = .ok (.aload_n 0, 1) := by decide +kernel
theorem dX12_throwing_31 : decode cX12_throwing 31 = .ok (.iconst 0, 1) := by decide +kernel
theorem dX12_throwing_32 : decode cX12_throwing 32 = .ok (.invokevirtual 490, 3) := by decide +kernel
theorem dX12_throwing_35 : decode cX12_throwing 35 = .ok (.return_, 1) := by decide +kernel
theorem dX12_throwing_36 : decode cX12_throwing 36 = .ok (.aload_n 0, 1) := by decide +kernel
theorem dX12_throwing_37 : decode cX12_throwing 37 = .ok (.invokevirtual 345, 3) := by decide +kernel
theorem dX12_throwing_40 : decode cX12_throwing 40 = .ok (.aload_n 0, 1) := by decide +kernel
theorem dX12_throwing_41 : decode cX12_throwing 41 = .ok (.aload_n 0, 1) := by decide +kernel
theorem dX12_throwing_42 : decode cX12_throwing 42 = .ok (.getfield 307, 3) := by decide +kernel
theorem dX12_throwing_45 : decode cX12_throwing 45 = .ok (.iconst 5, 1) := by decide +kernel
theorem dX12_throwing_46 : decode cX12_throwing 46 = .ok (.if_icmp .eq 11, 3) := by decide +kernel
theorem dX12_throwing_49 : decode cX12_throwing 49 = .ok (.aload_n 0, 1) := by decide +kernel
theorem dX12_throwing_50 : decode cX12_throwing 50 = .ok (.getfield 307, 3) := by decide +kernel
theorem dX12_throwing_53 : decode cX12_throwing 53 = .ok (.iconst 2, 1) := by decide +kernel
theorem dX12_throwing_54 : decode cX12_throwing 54 = .ok (.if_icmp .ne 7, 3) := by decide +kernel
theorem dX12_throwing_57 : decode cX12_throwing 57 = .ok (.iconst 1, 1) := by decide +kernel
theorem dX12_throwing_58 : decode cX12_throwing 58 = .ok (.goto 4, 3) := by decide +kernel
theorem dX12_throwing_61 : decode cX12_throwing 61 = .ok (.iconst 0, 1) := by decide +kernel
theorem dX12_throwing_62 : decode cX12_throwing 62 = .ok (.invokevirtual 341, 3) := by decide +kernel
theorem dX12_throwing_65 : decode cX12_throwing 65 = .ok (.ifCond .ne 4, 3) := by decide +kernel
theorem dX12_throwing_68 : decode cX12_throwing 68 = .ok (.return_, 1) := by decide +kernel
theorem dX12_throwing_69 : decode cX12_throwing 69 = .ok (.aload_n 0, 1) := by decide +kernel
end
section
theorem dX12_throwing_70 : decode cX12_throwing 70 = .ok (.getfield 307, 3) := by decide +kernel
theorem dX12_throwing_73 : decode cX12_throwing 73 = .ok (.iconst 5, 1) := by decide +kernel
theorem dX12_throwing_74 : decode cX12_throwing 74 = .ok (.if_icmp .ne 46, 3) := by decide +kernel
theorem dX12_throwing_77 : decode cX12_throwing 77 = .ok (.aload_n 0, 1) := by decide +kernel
theorem dX12_throwing_78 : decode cX12_throwing 78 = .ok (.getfield 314, 3) := by decide +kernel
theorem dX12_throwing_81 : decode cX12_throwing 81 = .ok (.aload_n 0, 1) := by decide +kernel
theorem dX12_throwing_82 : decode cX12_throwing 82 = .ok (.getfield 13, 3) := by decide +kernel
theorem dX12_throwing_85 : decode cX12_throwing 85 = .ok (.if_icmp .lt 13, 3) := by decide +kernel
theorem dX12_throwing_88 : decode cX12_throwing 88 = .ok (.aload_n 0, 1) := by decide +kernel
theorem dX12_throwing_89 : decode cX12_throwing 89 = .ok (.iconst 3, 1) := by decide +kernel
theorem dX12_throwing_90 : decode cX12_throwing 90 = .ok (.aload_n 0, 1) := by decide +kernel
theorem dX12_throwing_91 : decode cX12_throwing 91 = .ok (.getfield 304, 3) := by decide +kernel
theorem dX12_throwing_94 : decode cX12_throwing 94 = .ok (.invokevirtual 337, 3) := by decide +kernel
theorem dX12_throwing_97 : decode cX12_throwing 97 = .ok (.return_, 1) := by decide +kernel
theorem dX12_throwing_98 : decode cX12_throwing 98 = .ok (.aload_n 0, 1) := by decide +kernel
theorem dX12_throwing_99 : decode cX12_throwing 99 = .ok (.getfield 180, 3) := by decide +kernel
theorem dX12_throwing_102 : decode cX12_throwing 102 = .ok (.iload_n 1, 1) := by decide +kernel
theorem dX12_throwing_103 : decode cX12_throwing 103 = .ok (.aload_n 0, 1) := by decide +kernel
theorem dX12_throwing_104 : decode cX12_throwing 104 = .ok (.getfield 314, 3) := by decide +kernel
theorem dX12_throwing_107 : decode cX12_throwing 107 = .ok (.iastore, 1) := by decide +kernel
theorem dX12_throwing_108 : decode cX12_throwing 108 = .ok (.aload_n 0, 1) := by decide +kernel
theorem dX12_throwing_109 : decode cX12_throwing 109 = .ok (.invokevirtual 345, 3) := by decide +kernel
theorem dX12_throwing_112 : decode cX12_throwing 112 = .ok (.aload_n 0, 1) := by decide +kernel
theorem dX12_throwing_113 : decode cX12_throwing 113 = .ok (.iconst 1, 1) := by decide +kernel
theorem dX12_throwing_114 : decode cX12_throwing 114 = .ok (.bipush 16, 2) := by decide +kernel
theorem dX12_throwing_116 : decode cX12_throwing 116 = .ok (.invokevirtual 393, 3) := by decide +kernel
theorem dX12_throwing_119 : decode cX12_throwing 119 = .ok (.return_, 1) := by decide +kernel
theorem dX12_throwing_120 : decode cX12_throwing 120 = .ok (.aload_n 0, 1) := by decide +kernel
theorem dX12_throwing_121 : decode cX12_throwing 121 = .ok (.aload_n 0, 1) := by decide +kernel
theorem dX12_throwing_122 : decode cX12_throwing 122 = .ok (.getfield 327, 3) := by decide +kernel
theorem dX12_throwing_125 : decode cX12_throwing 125 = .ok (.invokevirtual 471, 3) := by decide +kernel
theorem dX12_throwing_128 : decode cX12_throwing 128 = .ok (.istore_n 2, 1) := by decide +kernel
theorem dX12_throwing_129 : decode cX12_throwing 129 = .ok (.iload_n 2, 1) := by decide +kernel
theorem dX12_throwing_130 : decode cX12_throwing 130 = .ok (.ifCond .lt 12, 3) := by decide +kernel
theorem dX12_throwing_133 : decode cX12_throwing 133 = .ok (.aload_n 0, 1) := by decide +kernel
theorem dX12_throwing_134 : decode cX12_throwing 134 = .ok (.getfield 132, 3) := by decide +kernel
theorem dX12_throwing_137 : decode cX12_throwing 137 = .ok (.iload_n 2, 1) := by decide +kernel
theorem dX12_throwing_138 : decode cX12_throwing 138 = .ok (.baload, 1) := by decide +kernel
theorem dX12_throwing_139 : decode cX12_throwing 139 = .ok (.ifCond .ne 13, 3) := by decide +kernel
theorem dX12_throwing_142 : decode cX12_throwing 142 = .ok (.aload_n 0, 1) := by decide +kernel
theorem dX12_throwing_143 : decode cX12_throwing 143 = .ok (.iconst 3, 1) := by decide +kernel
theorem dX12_throwing_144 : decode cX12_throwing 144 = .ok (.aload_n 0, 1) := by decide +kernel
theorem dX12_throwing_145 : decode cX12_throwing 145 = .ok (.getfield 304, 3) := by decide +kernel
theorem dX12_throwing_148 : decode cX12_throwing 148 = .ok (.invokevirtual 337, 3) := by decide +kernel
theorem dX12_throwing_151 : decode cX12_throwing 151 = .ok (.return_, 1) := by decide +kernel
theorem dX12_throwing_152 : decode cX12_throwing 152 = .ok (.aload_n 0, 1) := by decide +kernel
theorem dX12_throwing_153 : decode cX12_throwing 153 = .ok (.bipush 21, 2) := by decide +kernel
theorem dX12_throwing_155 : decode cX12_throwing 155 = .ok (.aload_n 0, 1) := by decide +kernel
theorem dX12_throwing_156 : decode cX12_throwing 156 = .ok (.getfield 129, 3) := by decide +kernel
theorem dX12_throwing_159 : decode cX12_throwing 159 = .ok (.iload_n 2, 1) := by decide +kernel
theorem dX12_throwing_160 : decode cX12_throwing 160 = .ok (.iaload, 1) := by decide +kernel
theorem dX12_throwing_161 : decode cX12_throwing 161 = .ok (.invokevirtual 464, 3) := by decide +kernel
theorem dX12_throwing_164 : decode cX12_throwing 164 = .ok (.pop, 1) := by decide +kernel
theorem dX12_throwing_165 : decode cX12_throwing 165 = .ok (.aload_n 0, 1) := by decide +kernel
theorem dX12_throwing_166 : decode cX12_throwing 166 = .ok (.invokevirtual 345, 3) := by decide +kernel
theorem dX12_throwing_169 : decode cX12_throwing 169 = .ok (.aload_n 0, 1) := by decide +kernel
theorem dX12_throwing_170 : decode cX12_throwing 170 = .ok (.bipush 59, 2) := by decide +kernel
theorem dX12_throwing_172 : decode cX12_throwing 172 = .ok (.invokevirtual 355, 3) := by decide +kernel
theorem dX12_throwing_175 : decode cX12_throwing 175 = .ok (.pop, 1) := by decide +kernel
theorem dX12_throwing_176 : decode cX12_throwing 176 = .ok (.aload_n 0, 1) := by decide +kernel
theorem dX12_throwing_177 : decode cX12_throwing 177 = .ok (.iconst 0, 1) := by decide +kernel
theorem dX12_throwing_178 : decode cX12_throwing 178 = .ok (.invokevirtual 490, 3) := by decide +kernel
theorem dX12_throwing_181 : decode cX12_throwing 181 = .ok (.return_, 1) := by decide +kernel
theorem dX12_asserted_0 : decode cX12_asserted 0 = .ok (.aload_n 0, 1) := by decide +kernel
theorem dX12_asserted_1 : decode cX12_asserted 1 = .ok (.getfield 177, 3) := by decide +kernel
theorem dX12_asserted_4 : decode cX12_asserted 4 = .ok (.iload_n 1, 1) := by decide +kernel
theorem dX12_asserted_5 : decode cX12_asserted 5 = .ok (.iaload, 1) := by decide +kernel
theorem dX12_asserted_6 : decode cX12_asserted 6 = .ok (.lookupswitch 106 #[(0, 26), (1, 53)], 26) := by decide +kernel
theorem dX12_asserted_32 : decode cX12_asserted 32 = .ok (.aload_n 0, 1) := by decide +kernel
theorem dX12_asserted_33 : decode cX12_asserted 33 = .ok (.invokevirtual 345, 3) := by decide +kernel
theorem dX12_asserted_36 : decode cX12_asserted 36 = .ok (.aload_n 0, 1) := by decide +kernel
theorem dX12_asserted_37 : decode cX12_asserted 37 = .ok (.getfield 180, 3) := by decide +kernel
theorem dX12_asserted_40 : decode cX12_asserted 40 = .ok (.iload_n 1, 1) := by decide +kernel
theorem dX12_asserted_41 : decode cX12_asserted 41 = .ok (.aload_n 0, 1) := by decide +kernel
theorem dX12_asserted_42 : decode cX12_asserted 42 = .ok (.bipush 22, 2) := by decide +kernel
theorem dX12_asserted_44 : decode cX12_asserted 44 = .ok (.iconst 0, 1) := by decide +kernel
theorem dX12_asserted_45 : decode cX12_asserted 45 = .ok (.invokevirtual 464, 3) := by decide +kernel
theorem dX12_asserted_48 : decode cX12_asserted 48 = .ok (.iastore, 1) := by decide +kernel
theorem dX12_asserted_49 : decode cX12_asserted 49 = .ok (.aload_n 0, 1) := by decide +kernel
theorem dX12_asserted_50 : decode cX12_asserted 50 = .ok (.iconst 1, 1) := by decide +kernel
theorem dX12_asserted_51 : decode cX12_asserted 51 = .ok (.bipush 20, 2) := by decide +kernel
theorem dX12_asserted_53 : decode cX12_asserted 53 = .ok (.invokevirtual 393, 3) := by decide +kernel
theorem dX12_asserted_56 : decode cX12_asserted 56 = .ok (.goto 106, 3) := by decide +kernel
theorem dX12_asserted_59 : decode cX12_asserted 59 = .ok (.aload_n 0, 1) := by decide +kernel
theorem dX12_asserted_60 : decode cX12_asserted 60 = .ok (.getfield 183, 3) := by decide +kernel
theorem dX12_asserted_63 : decode cX12_asserted 63 = .ok (.iload_n 1, 1) := by decide +kernel
theorem dX12_asserted_64 : decode cX12_asserted 64 = .ok (.aload_n 0, 1) := by decide +kernel
theorem dX12_asserted_65 : decode cX12_asserted 65 = .ok (.bipush 14, 2) := by decide +kernel
theorem dX12_asserted_67 : decode cX12_asserted 67 = .ok (.iconst 0, 1) := by decide +kernel
theorem dX12_asserted_68 : decode cX12_asserted 68 = .ok (.invokevirtual 464, 3) := by decide +kernel
theorem dX12_asserted_71 : decode cX12_asserted 71 = .ok (.iastore, 1) := by decide +kernel
theorem dX12_asserted_72 : decode cX12_asserted 72 = .ok (.aload_n 0, 1) := by decide +kernel
theorem dX12_asserted_73 : decode cX12_asserted 73 = .ok (.getfield 307, 3) := by decide +kernel
theorem dX12_asserted_76 : decode cX12_asserted 76 = .ok (.bipush 58, 2) := by decide +kernel
theorem dX12_asserted_78 : decode cX12_asserted 78 = .ok (.if_icmp .ne 17, 3) := by decide +kernel
theorem dX12_asserted_81 : decode cX12_asserted 81 = .ok (.aload_n 0, 1) := by decide +kernel
theorem dX12_asserted_82 : decode cX12_asserted 82 = .ok (.invokevirtual 345, 3) := by decide +kernel
theorem dX12_asserted_85 : decode cX12_asserted 85 = .ok (.aload_n 0, 1) := by decide +kernel
theorem dX12_asserted_86 : decode cX12_asserted 86 = .ok (.iconst 2, 1) := by decide +kernel
theorem dX12_asserted_87 : decode cX12_asserted 87 = .ok (.bipush 16, 2) := by decide +kernel
theorem dX12_asserted_89 : decode cX12_asserted 89 = .ok (.invokevirtual 393, 3) := by decide +kernel
theorem dX12_asserted_92 : decode cX12_asserted 92 = .ok (.goto 70, 3) := by decide +kernel
theorem dX12_asserted_95 : decode cX12_asserted 95 = .ok (.aload_n 0, 1) := by decide +kernel
theorem dX12_asserted_96 : decode cX12_asserted 96 = .ok (.iconst 2, 1) := by decide +kernel
theorem dX12_asserted_97 : decode cX12_asserted 97 = .ok (.iconst 0, 1) := by decide +kernel
theorem dX12_asserted_98 : decode cX12_asserted 98 = .ok (.invokevirtual 464, 3) := by decide +kernel
theorem dX12_asserted_101 : decode cX12_asserted 101 = .ok (.pop, 1) := by decide +kernel
theorem dX12_asserted_102 : decode cX12_asserted 102 = .ok (.aload_n 0, 1) := by decide +kernel
theorem dX12_asserted_103 : decode cX12_asserted 103 = .ok (.getfield 177, 3) := by decide +kernel
theorem dX12_asserted_106 : decode cX12_asserted 106 = .ok (.iload_n 1, 1) := by decide +kernel
theorem dX12_asserted_107 : decode cX12_asserted 107 = .ok (.iconst 2, 1) := by decide +kernel
theorem dX12_asserted_108 : decode cX12_asserted 108 = .ok (.iastore, 1) := by decide +kernel
theorem dX12_asserted_109 : decode cX12_asserted 109 = .ok (.goto 53, 3) := by decide +kernel
theorem dX12_asserted_112 : decode cX12_asserted 112 = .ok (.aload_n 0, 1) := by decide +kernel
theorem dX12_asserted_113 : decode cX12_asserted 113 = .ok (.bipush 19, 2) := by decide +kernel
theorem dX12_asserted_115 : decode cX12_asserted 115 = .ok (.iconst 3, 1) := by decide +kernel
theorem dX12_asserted_116 : decode cX12_asserted 116 = .ok (.invokevirtual 464, 3) := by decide +kernel
theorem dX12_asserted_119 : decode cX12_asserted 119 = .ok (.pop, 1) := by decide +kernel
theorem dX12_asserted_120 : decode cX12_asserted 120 = .ok (.aload_n 0, 1) := by decide +kernel
theorem dX12_asserted_121 : decode cX12_asserted 121 = .ok (.getfield 87, 3) := by decide +kernel
theorem dX12_asserted_124 : decode cX12_asserted 124 = .ok (.aload_n 0, 1) := by decide +kernel
theorem dX12_asserted_125 : decode cX12_asserted 125 = .ok (.getfield 180, 3) := by decide +kernel
theorem dX12_asserted_128 : decode cX12_asserted 128 = .ok (.iload_n 1, 1) := by decide +kernel
theorem dX12_asserted_129 : decode cX12_asserted 129 = .ok (.iaload, 1) := by decide +kernel
theorem dX12_asserted_130 : decode cX12_asserted 130 = .ok (.aload_n 0, 1) := by decide +kernel
theorem dX12_asserted_131 : decode cX12_asserted 131 = .ok (.getfield 358, 3) := by decide +kernel
theorem dX12_asserted_134 : decode cX12_asserted 134 = .ok (.iastore, 1) := by decide +kernel
theorem dX12_asserted_135 : decode cX12_asserted 135 = .ok (.aload_n 0, 1) := by decide +kernel
theorem dX12_asserted_136 : decode cX12_asserted 136 = .ok (.getfield 87, 3) := by decide +kernel
theorem dX12_asserted_139 : decode cX12_asserted 139 = .ok (.aload_n 0, 1) := by decide +kernel
theorem dX12_asserted_140 : decode cX12_asserted 140 = .ok (.getfield 183, 3) := by decide +kernel
theorem dX12_asserted_143 : decode cX12_asserted 143 = .ok (.iload_n 1, 1) := by decide +kernel
theorem dX12_asserted_144 : decode cX12_asserted 144 = .ok (.iaload, 1) := by decide +kernel
theorem dX12_asserted_145 : decode cX12_asserted 145 = .ok (.aload_n 0, 1) := by decide +kernel
theorem dX12_asserted_146 : decode cX12_asserted 146 = .ok (.getfield 358, 3) := by decide +kernel
theorem dX12_asserted_149 : decode cX12_asserted 149 = .ok (.iastore, 1) := by decide +kernel
theorem dX12_asserted_150 : decode cX12_asserted 150 = .ok (.aload_n 0, 1) := by decide +kernel
theorem dX12_asserted_151 : decode cX12_asserted 151 = .ok (.bipush 59, 2) := by decide +kernel
theorem dX12_asserted_153 : decode cX12_asserted 153 = .ok (.invokevirtual 355, 3) := by decide +kernel
theorem dX12_asserted_156 : decode cX12_asserted 156 = .ok (.pop, 1) := by decide +kernel
theorem dX12_asserted_157 : decode cX12_asserted 157 = .ok (.aload_n 0, 1) := by decide +kernel
theorem dX12_asserted_158 : decode cX12_asserted 158 = .ok (.iconst 1, 1) := by decide +kernel
theorem dX12_asserted_159 : decode cX12_asserted 159 = .ok (.invokevirtual 490, 3) := by decide +kernel
theorem dX12_asserted_162 : decode cX12_asserted 162 = .ok (.return_, 1) := by decide +kernel
theorem dX12_branch_0 : decode cX12_branch 0 = .ok (.aload_n 0, 1) := by decide +kernel
theorem dX12_branch_1 : decode cX12_branch 1 = .ok (.getfield 177, 3) := by decide +kernel
theorem dX12_branch_4 : decode cX12_branch 4 = .ok (.iload_n 1, 1) := by decide +kernel
theorem dX12_branch_5 : decode cX12_branch 5 = .ok (.iaload, 1) := by decide +kernel
theorem dX12_branch_6 : decode cX12_branch 6 = .ok (.tableswitch 166 0 2 #[26, 47, 75], 26) := by decide +kernel
theorem dX12_branch_32 : decode cX12_branch 32 = .ok (.aload_n 0, 1) := by decide +kernel
theorem dX12_branch_33 : decode cX12_branch 33 = .ok (.invokevirtual 345, 3) := by decide +kernel
theorem dX12_branch_36 : decode cX12_branch 36 = .ok (.aload_n 0, 1) := by decide +kernel
theorem dX12_branch_37 : decode cX12_branch 37 = .ok (.bipush 40, 2) := by decide +kernel
theorem dX12_branch_39 : decode cX12_branch 39 = .ok (.invokevirtual 475, 3) := by decide +kernel
theorem dX12_branch_42 : decode cX12_branch 42 = .ok (.pop, 1) := by decide +kernel
theorem dX12_branch_43 : decode cX12_branch 43 = .ok (.aload_n 0, 1) := by decide +kernel
theorem dX12_branch_44 : decode cX12_branch 44 = .ok (.iconst 1, 1) := by decide +kernel
theorem dX12_branch_45 : decode cX12_branch 45 = .ok (.bipush 20, 2) := by decide +kernel
theorem dX12_branch_47 : decode cX12_branch 47 = .ok (.invokevirtual 393, 3) := by decide +kernel
theorem dX12_branch_50 : decode cX12_branch 50 = .ok (.goto 163, 3) := by decide +kernel
theorem dX12_branch_53 : decode cX12_branch 53 = .ok (.aload_n 0, 1) := by decide +kernel
theorem dX12_branch_54 : decode cX12_branch 54 = .ok (.bipush 41, 2) := by decide +kernel
theorem dX12_branch_56 : decode cX12_branch 56 = .ok (.invokevirtual 468, 3) := by decide +kernel
theorem dX12_branch_59 : decode cX12_branch 59 = .ok (.pop, 1) := by decide +kernel
theorem dX12_branch_60 : decode cX12_branch 60 = .ok (.aload_n 0, 1) := by decide +kernel
theorem dX12_branch_61 : decode cX12_branch 61 = .ok (.getfield 180, 3) := by decide +kernel
theorem dX12_branch_64 : decode cX12_branch 64 = .ok (.iload_n 1, 1) := by decide +kernel
theorem dX12_branch_65 : decode cX12_branch 65 = .ok (.aload_n 0, 1) := by decide +kernel
theorem dX12_branch_66 : decode cX12_branch 66 = .ok (.bipush 13, 2) := by decide +kernel
theorem dX12_branch_68 : decode cX12_branch 68 = .ok (.iconst 0, 1) := by decide +kernel
theorem dX12_branch_69 : decode cX12_branch 69 = .ok (.invokevirtual 464, 3) := by decide +kernel
theorem dX12_branch_72 : decode cX12_branch 72 = .ok (.iastore, 1) := by decide +kernel
theorem dX12_branch_73 : decode cX12_branch 73 = .ok (.aload_n 0, 1) := by decide +kernel
theorem dX12_branch_74 : decode cX12_branch 74 = .ok (.iconst 2, 1) := by decide +kernel
theorem dX12_branch_75 : decode cX12_branch 75 = .ok (.invokevirtual 521, 3) := by decide +kernel
theorem dX12_branch_78 : decode cX12_branch 78 = .ok (.goto 135, 3) := by decide +kernel
theorem dX12_branch_81 : decode cX12_branch 81 = .ok (.aload_n 0, 1) := by decide +kernel
theorem dX12_branch_82 : decode cX12_branch 82 = .ok (.getfield 307, 3) := by decide +kernel
theorem dX12_branch_85 : decode cX12_branch 85 = .ok (.sipush 414, 3) := by decide +kernel
theorem dX12_branch_88 : decode cX12_branch 88 = .ok (.if_icmp .ne 61, 3) := by decide +kernel
theorem dX12_branch_91 : decode cX12_branch 91 = .ok (.aload_n 0, 1) := by decide +kernel
theorem dX12_branch_92 : decode cX12_branch 92 = .ok (.invokevirtual 345, 3) := by decide +kernel
theorem dX12_branch_95 : decode cX12_branch 95 = .ok (.aload_n 0, 1) := by decide +kernel
theorem dX12_branch_96 : decode cX12_branch 96 = .ok (.getfield 183, 3) := by decide +kernel
theorem dX12_branch_99 : decode cX12_branch 99 = .ok (.iload_n 1, 1) := by decide +kernel
theorem dX12_branch_100 : decode cX12_branch 100 = .ok (.aload_n 0, 1) := by decide +kernel
theorem dX12_branch_101 : decode cX12_branch 101 = .ok (.getfield 396, 3) := by decide +kernel
theorem dX12_branch_104 : decode cX12_branch 104 = .ok (.ifCond .eq 7, 3) := by decide +kernel
theorem dX12_branch_107 : decode cX12_branch 107 = .ok (.iconst 1, 1) := by decide +kernel
theorem dX12_branch_108 : decode cX12_branch 108 = .ok (.goto 4, 3) := by decide +kernel
theorem dX12_branch_111 : decode cX12_branch 111 = .ok (.iconst 0, 1) := by decide +kernel
theorem dX12_branch_112 : decode cX12_branch 112 = .ok (.iastore, 1) := by decide +kernel
theorem dX12_branch_113 : decode cX12_branch 113 = .ok (.aload_n 0, 1) := by decide +kernel
theorem dX12_branch_114 : decode cX12_branch 114 = .ok (.getfield 186, 3) := by decide +kernel
theorem dX12_branch_117 : decode cX12_branch 117 = .ok (.iload_n 1, 1) := by decide +kernel
theorem dX12_branch_118 : decode cX12_branch 118 = .ok (.aload_n 0, 1) := by decide +kernel
theorem dX12_branch_119 : decode cX12_branch 119 = .ok (.bipush 15, 2) := by decide +kernel
theorem dX12_branch_121 : decode cX12_branch 121 = .ok (.iconst 0, 1) := by decide +kernel
theorem dX12_branch_122 : decode cX12_branch 122 = .ok (.invokevirtual 464, 3) := by decide +kernel
theorem dX12_branch_125 : decode cX12_branch 125 = .ok (.iastore, 1) := by decide +kernel
theorem dX12_branch_126 : decode cX12_branch 126 = .ok (.aload_n 0, 1) := by decide +kernel
theorem dX12_branch_127 : decode cX12_branch 127 = .ok (.getfield 87, 3) := by decide +kernel
theorem dX12_branch_130 : decode cX12_branch 130 = .ok (.aload_n 0, 1) := by decide +kernel
theorem dX12_branch_131 : decode cX12_branch 131 = .ok (.getfield 180, 3) := by decide +kernel
theorem dX12_branch_134 : decode cX12_branch 134 = .ok (.iload_n 1, 1) := by decide +kernel
theorem dX12_branch_135 : decode cX12_branch 135 = .ok (.iaload, 1) := by decide +kernel
theorem dX12_branch_136 : decode cX12_branch 136 = .ok (.aload_n 0, 1) := by decide +kernel
theorem dX12_branch_137 : decode cX12_branch 137 = .ok (.getfield 358, 3) := by decide +kernel
theorem dX12_branch_140 : decode cX12_branch 140 = .ok (.iastore, 1) := by decide +kernel
theorem dX12_branch_141 : decode cX12_branch 141 = .ok (.aload_n 0, 1) := by decide +kernel
theorem dX12_branch_142 : decode cX12_branch 142 = .ok (.iconst 3, 1) := by decide +kernel
theorem dX12_branch_143 : decode cX12_branch 143 = .ok (.invokevirtual 521, 3) := by decide +kernel
theorem dX12_branch_146 : decode cX12_branch 146 = .ok (.goto 67, 3) := by decide +kernel
theorem dX12_branch_149 : decode cX12_branch 149 = .ok (.aload_n 0, 1) := by decide +kernel
theorem dX12_branch_150 : decode cX12_branch 150 = .ok (.getfield 87, 3) := by decide +kernel
theorem dX12_branch_153 : decode cX12_branch 153 = .ok (.aload_n 0, 1) := by decide +kernel
theorem dX12_branch_154 : decode cX12_branch 154 = .ok (.getfield 180, 3) := by decide +kernel
theorem dX12_branch_157 : decode cX12_branch 157 = .ok (.iload_n 1, 1) := by decide +kernel
theorem dX12_branch_158 : decode cX12_branch 158 = .ok (.iaload, 1) := by decide +kernel
theorem dX12_branch_159 : decode cX12_branch 159 = .ok (.aload_n 0, 1) := by decide +kernel
theorem dX12_branch_160 : decode cX12_branch 160 = .ok (.getfield 358, 3) := by decide +kernel
theorem dX12_branch_163 : decode cX12_branch 163 = .ok (.iastore, 1) := by decide +kernel
theorem dX12_branch_164 : decode cX12_branch 164 = .ok (.aload_n 0, 1) := by decide +kernel
theorem dX12_branch_165 : decode cX12_branch 165 = .ok (.iconst 1, 1) := by decide +kernel
theorem dX12_branch_166 : decode cX12_branch 166 = .ok (.invokevirtual 490, 3) := by decide +kernel
theorem dX12_branch_169 : decode cX12_branch 169 = .ok (.goto 44, 3) := by decide +kernel
theorem dX12_branch_172 : decode cX12_branch 172 = .ok (.aload_n 0, 1) := by decide +kernel
theorem dX12_branch_173 : decode cX12_branch 173 = .ok (.getfield 87, 3) := by decide +kernel
theorem dX12_branch_176 : decode cX12_branch 176 = .ok (.aload_n 0, 1) := by decide +kernel
theorem dX12_branch_177 : decode cX12_branch 177 = .ok (.getfield 186, 3) := by decide +kernel
theorem dX12_branch_180 : decode cX12_branch 180 = .ok (.iload_n 1, 1) := by decide +kernel
theorem dX12_branch_181 : decode cX12_branch 181 = .ok (.iaload, 1) := by decide +kernel
theorem dX12_branch_182 : decode cX12_branch 182 = .ok (.aload_n 0, 1) := by decide +kernel
theorem dX12_branch_183 : decode cX12_branch 183 = .ok (.getfield 358, 3) := by decide +kernel
theorem dX12_branch_186 : decode cX12_branch 186 = .ok (.iastore, 1) := by decide +kernel
theorem dX12_branch_187 : decode cX12_branch 187 = .ok (.aload_n 0, 1) := by decide +kernel
theorem dX12_branch_188 : decode cX12_branch 188 = .ok (.aload_n 0, 1) := by decide +kernel
theorem dX12_branch_189 : decode cX12_branch 189 = .ok (.getfield 396, 3) := by decide +kernel
theorem dX12_branch_192 : decode cX12_branch 192 = .ok (.ifCond .ne 13, 3) := by decide +kernel
theorem dX12_branch_195 : decode cX12_branch 195 = .ok (.aload_n 0, 1) := by decide +kernel
theorem dX12_branch_196 : decode cX12_branch 196 = .ok (.getfield 183, 3) := by decide +kernel
theorem dX12_branch_199 : decode cX12_branch 199 = .ok (.iload_n 1, 1) := by decide +kernel
theorem dX12_branch_200 : decode cX12_branch 200 = .ok (.iaload, 1) := by decide +kernel
theorem dX12_branch_201 : decode cX12_branch 201 = .ok (.iconst 1, 1) := by decide +kernel
theorem dX12_branch_202 : decode cX12_branch 202 = .ok (.if_icmp .ne 7, 3) := by decide +kernel
theorem dX12_branch_205 : decode cX12_branch 205 = .ok (.iconst 1, 1) := by decide +kernel
theorem dX12_branch_206 : decode cX12_branch 206 = .ok (.goto 4, 3) := by decide +kernel
theorem dX12_branch_209 : decode cX12_branch 209 = .ok (.iconst 0, 1) := by decide +kernel
theorem dX12_branch_210 : decode cX12_branch 210 = .ok (.invokevirtual 490, 3) := by decide +kernel
theorem dX12_branch_213 : decode cX12_branch 213 = .ok (.return_, 1) := by decide +kernel
theorem dX12_isJustTrue_0 : decode cX12_isJustTrue 0 = .ok (.iload_n 1, 1) := by decide +kernel
theorem dX12_isJustTrue_1 : decode cX12_isJustTrue 1 = .ok (.ifCond .le 17, 3) := by decide +kernel
theorem dX12_isJustTrue_4 : decode cX12_isJustTrue 4 = .ok (.aload_n 0, 1) := by decide +kernel
theorem dX12_isJustTrue_5 : decode cX12_isJustTrue 5 = .ok (.getfield 294, 3) := by decide +kernel
theorem dX12_isJustTrue_8 : decode cX12_isJustTrue 8 = .ok (.iload_n 1, 1) := by decide +kernel
theorem dX12_isJustTrue_9 : decode cX12_isJustTrue 9 = .ok (.iconst 1, 1) := by decide +kernel
theorem dX12_isJustTrue_10 : decode cX12_isJustTrue 10 = .ok (.iadd, 1) := by decide +kernel
theorem dX12_isJustTrue_11 : decode cX12_isJustTrue 11 = .ok (.if_icmp .ne 7, 3) := by decide +kernel
theorem dX12_isJustTrue_14 : decode cX12_isJustTrue 14 = .ok (.iconst 1, 1) := by decide +kernel
theorem dX12_isJustTrue_15 : decode cX12_isJustTrue 15 = .ok (.goto 4, 3) := by decide +kernel
theorem dX12_isJustTrue_18 : decode cX12_isJustTrue 18 = .ok (.iconst 0, 1) := by decide +kernel
theorem dX12_isJustTrue_19 : decode cX12_isJustTrue 19 = .ok (.ireturn, 1) := by decide +kernel
theorem dX12_whiles_0 : decode cX12_whiles 0 = .ok (.aload_n 0, 1) := by decide +kernel
theorem dX12_whiles_1 : decode cX12_whiles 1 = .ok (.getfield 177, 3) := by decide +kernel
theorem dX12_whiles_4 : decode cX12_whiles 4 = .ok (.iload_n 1, 1) := by decide +kernel
theorem dX12_whiles_5 : decode cX12_whiles 5 = .ok (.iaload, 1) := by decide +kernel
theorem dX12_whiles_6 : decode cX12_whiles 6 = .ok (.lookupswitch 150 #[(0, 26), (1, 81)], 26) := by decide +kernel
theorem dX12_whiles_32 : decode cX12_whiles 32 = .ok (.aload_n 0, 1) := by decide +kernel
theorem dX12_whiles_33 : decode cX12_whiles 33 = .ok (.invokevirtual 345, 3) := by decide +kernel
theorem dX12_whiles_36 : decode cX12_whiles 36 = .ok (.aload_n 0, 1) := by decide +kernel
theorem dX12_whiles_37 : decode cX12_whiles 37 = .ok (.getfield 180, 3) := by decide +kernel
theorem dX12_whiles_40 : decode cX12_whiles 40 = .ok (.iload_n 1, 1) := by decide +kernel
theorem dX12_whiles_41 : decode cX12_whiles 41 = .ok (.aload_n 0, 1) := by decide +kernel
theorem dX12_whiles_42 : decode cX12_whiles 42 = .ok (.getfield 358, 3) := by decide +kernel
theorem dX12_whiles_45 : decode cX12_whiles 45 = .ok (.iastore, 1) := by decide +kernel
theorem dX12_whiles_46 : decode cX12_whiles 46 = .ok (.aload_n 0, 1) := by decide +kernel
theorem dX12_whiles_47 : decode cX12_whiles 47 = .ok (.bipush 40, 2) := by decide +kernel
theorem dX12_whiles_49 : decode cX12_whiles 49 = .ok (.invokevirtual 475, 3) := by decide +kernel
theorem dX12_whiles_52 : decode cX12_whiles 52 = .ok (.pop, 1) := by decide +kernel
theorem dX12_whiles_53 : decode cX12_whiles 53 = .ok (.aload_n 0, 1) := by decide +kernel
theorem dX12_whiles_54 : decode cX12_whiles 54 = .ok (.getfield 189, 3) := by decide +kernel
theorem dX12_whiles_57 : decode cX12_whiles 57 = .ok (.iload_n 1, 1) := by decide +kernel
theorem dX12_whiles_58 : decode cX12_whiles 58 = .ok (.aload_n 0, 1) := by decide +kernel
theorem dX12_whiles_59 : decode cX12_whiles 59 = .ok (.getfield 307, 3) := by decide +kernel
theorem dX12_whiles_62 : decode cX12_whiles 62 = .ok (.sipush 432, 3) := by decide +kernel
theorem dX12_whiles_65 : decode cX12_whiles 65 = .ok (.if_icmp .ne 10, 3) := by decide +kernel
theorem dX12_whiles_68 : decode cX12_whiles 68 = .ok (.aload_n 0, 1) := by decide +kernel
theorem dX12_whiles_69 : decode cX12_whiles 69 = .ok (.getfield 294, 3) := by decide +kernel
theorem dX12_whiles_72 : decode cX12_whiles 72 = .ok (.goto 4, 3) := by decide +kernel
theorem dX12_whiles_75 : decode cX12_whiles 75 = .ok (.iconst 0, 1) := by decide +kernel
theorem dX12_whiles_76 : decode cX12_whiles 76 = .ok (.iastore, 1) := by decide +kernel
theorem dX12_whiles_77 : decode cX12_whiles 77 = .ok (.aload_n 0, 1) := by decide +kernel
theorem dX12_whiles_78 : decode cX12_whiles 78 = .ok (.iconst 1, 1) := by decide +kernel
theorem dX12_whiles_79 : decode cX12_whiles 79 = .ok (.bipush 20, 2) := by decide +kernel
theorem dX12_whiles_81 : decode cX12_whiles 81 = .ok (.invokevirtual 393, 3) := by decide +kernel
theorem dX12_whiles_84 : decode cX12_whiles 84 = .ok (.goto 174, 3) := by decide +kernel
theorem dX12_whiles_87 : decode cX12_whiles 87 = .ok (.aload_n 0, 1) := by decide +kernel
theorem dX12_whiles_88 : decode cX12_whiles 88 = .ok (.getfield 195, 3) := by decide +kernel
theorem dX12_whiles_91 : decode cX12_whiles 91 = .ok (.iload_n 1, 1) := by decide +kernel
theorem dX12_whiles_92 : decode cX12_whiles 92 = .ok (.aload_n 0, 1) := by decide +kernel
theorem dX12_whiles_93 : decode cX12_whiles 93 = .ok (.aload_n 0, 1) := by decide +kernel
theorem dX12_whiles_94 : decode cX12_whiles 94 = .ok (.getfield 189, 3) := by decide +kernel
theorem dX12_whiles_97 : decode cX12_whiles 97 = .ok (.iload_n 1, 1) := by decide +kernel
theorem dX12_whiles_98 : decode cX12_whiles 98 = .ok (.iaload, 1) := by decide +kernel
theorem dX12_whiles_99 : decode cX12_whiles 99 = .ok (.invokevirtual 533, 3) := by decide +kernel
theorem dX12_whiles_102 : decode cX12_whiles 102 = .ok (.ifCond .eq 7, 3) := by decide +kernel
theorem dX12_whiles_105 : decode cX12_whiles 105 = .ok (.iconst 1, 1) := by decide +kernel
theorem dX12_whiles_106 : decode cX12_whiles 106 = .ok (.goto 4, 3) := by decide +kernel
theorem dX12_whiles_109 : decode cX12_whiles 109 = .ok (.iconst 0, 1) := by decide +kernel
theorem dX12_whiles_110 : decode cX12_whiles 110 = .ok (.iastore, 1) := by decide +kernel
theorem dX12_whiles_111 : decode cX12_whiles 111 = .ok (.aload_n 0, 1) := by decide +kernel
theorem dX12_whiles_112 : decode cX12_whiles 112 = .ok (.bipush 41, 2) := by decide +kernel
theorem dX12_whiles_114 : decode cX12_whiles 114 = .ok (.invokevirtual 468, 3) := by decide +kernel
theorem dX12_whiles_117 : decode cX12_whiles 117 = .ok (.pop, 1) := by decide +kernel
theorem dX12_whiles_118 : decode cX12_whiles 118 = .ok (.aload_n 0, 1) := by decide +kernel
theorem dX12_whiles_119 : decode cX12_whiles 119 = .ok (.getfield 183, 3) := by decide +kernel
theorem dX12_whiles_122 : decode cX12_whiles 122 = .ok (.iload_n 1, 1) := by decide +kernel
theorem dX12_whiles_123 : decode cX12_whiles 123 = .ok (.aload_n 0, 1) := by decide +kernel
theorem dX12_whiles_124 : decode cX12_whiles 124 = .ok (.bipush 13, 2) := by decide +kernel
theorem dX12_whiles_126 : decode cX12_whiles 126 = .ok (.iconst 0, 1) := by decide +kernel
theorem dX12_whiles_127 : decode cX12_whiles 127 = .ok (.invokevirtual 464, 3) := by decide +kernel
theorem dX12_whiles_130 : decode cX12_whiles 130 = .ok (.iastore, 1) := by decide +kernel
theorem dX12_whiles_131 : decode cX12_whiles 131 = .ok (.aload_n 0, 1) := by decide +kernel
theorem dX12_whiles_132 : decode cX12_whiles 132 = .ok (.iconst 1, 1) := by decide +kernel
theorem dX12_whiles_133 : decode cX12_whiles 133 = .ok (.iconst 0, 1) := by decide +kernel
theorem dX12_whiles_134 : decode cX12_whiles 134 = .ok (.invokevirtual 464, 3) := by decide +kernel
theorem dX12_whiles_137 : decode cX12_whiles 137 = .ok (.pop, 1) := by decide +kernel
theorem dX12_whiles_138 : decode cX12_whiles 138 = .ok (.aload_n 0, 1) := by decide +kernel
theorem dX12_whiles_139 : decode cX12_whiles 139 = .ok (.getfield 186, 3) := by decide +kernel
theorem dX12_whiles_142 : decode cX12_whiles 142 = .ok (.iload_n 1, 1) := by decide +kernel
theorem dX12_whiles_143 : decode cX12_whiles 143 = .ok (.aload_n 0, 1) := by decide +kernel
theorem dX12_whiles_144 : decode cX12_whiles 144 = .ok (.invokevirtual 536, 3) := by decide +kernel
theorem dX12_whiles_147 : decode cX12_whiles 147 = .ok (.iastore, 1) := by decide +kernel
theorem dX12_whiles_148 : decode cX12_whiles 148 = .ok (.aload_n 0, 1) := by decide +kernel
theorem dX12_whiles_149 : decode cX12_whiles 149 = .ok (.iconst 2, 1) := by decide +kernel
theorem dX12_whiles_150 : decode cX12_whiles 150 = .ok (.invokevirtual 521, 3) := by decide +kernel
theorem dX12_whiles_153 : decode cX12_whiles 153 = .ok (.goto 105, 3) := by decide +kernel
theorem dX12_whiles_156 : decode cX12_whiles 156 = .ok (.aload_n 0, 1) := by decide +kernel
theorem dX12_whiles_157 : decode cX12_whiles 157 = .ok (.getfield 186, 3) := by decide +kernel
theorem dX12_whiles_160 : decode cX12_whiles 160 = .ok (.iload_n 1, 1) := by decide +kernel
theorem dX12_whiles_161 : decode cX12_whiles 161 = .ok (.iaload, 1) := by decide +kernel
theorem dX12_whiles_162 : decode cX12_whiles 162 = .ok (.istore_n 2, 1) := by decide +kernel
theorem dX12_whiles_163 : decode cX12_whiles 163 = .ok (.aload_n 0, 1) := by decide +kernel
theorem dX12_whiles_164 : decode cX12_whiles 164 = .ok (.aload_n 0, 1) := by decide +kernel
theorem dX12_whiles_165 : decode cX12_whiles 165 = .ok (.getfield 150, 3) := by decide +kernel
theorem dX12_whiles_168 : decode cX12_whiles 168 = .ok (.iload_n 2, 1) := by decide +kernel
theorem dX12_whiles_169 : decode cX12_whiles 169 = .ok (.iaload, 1) := by decide +kernel
theorem dX12_whiles_170 : decode cX12_whiles 170 = .ok (.aload_n 0, 1) := by decide +kernel
theorem dX12_whiles_171 : decode cX12_whiles 171 = .ok (.getfield 180, 3) := by decide +kernel
theorem dX12_whiles_174 : decode cX12_whiles 174 = .ok (.iload_n 1, 1) := by decide +kernel
theorem dX12_whiles_175 : decode cX12_whiles 175 = .ok (.iaload, 1) := by decide +kernel
theorem dX12_whiles_176 : decode cX12_whiles 176 = .ok (.invokevirtual 510, 3) := by decide +kernel
theorem dX12_whiles_179 : decode cX12_whiles 179 = .ok (.aload_n 0, 1) := by decide +kernel
theorem dX12_whiles_180 : decode cX12_whiles 180 = .ok (.bipush 15, 2) := by decide +kernel
theorem dX12_whiles_182 : decode cX12_whiles 182 = .ok (.aload_n 0, 1) := by decide +kernel
theorem dX12_whiles_183 : decode cX12_whiles 183 = .ok (.getfield 180, 3) := by decide +kernel
theorem dX12_whiles_186 : decode cX12_whiles 186 = .ok (.iload_n 1, 1) := by decide +kernel
theorem dX12_whiles_187 : decode cX12_whiles 187 = .ok (.iaload, 1) := by decide +kernel
theorem dX12_whiles_188 : decode cX12_whiles 188 = .ok (.invokevirtual 464, 3) := by decide +kernel
theorem dX12_whiles_191 : decode cX12_whiles 191 = .ok (.pop, 1) := by decide +kernel
theorem dX12_whiles_192 : decode cX12_whiles 192 = .ok (.aload_n 0, 1) := by decide +kernel
theorem dX12_whiles_193 : decode cX12_whiles 193 = .ok (.getfield 87, 3) := by decide +kernel
theorem dX12_whiles_196 : decode cX12_whiles 196 = .ok (.aload_n 0, 1) := by decide +kernel
theorem dX12_whiles_197 : decode cX12_whiles 197 = .ok (.getfield 183, 3) := by decide +kernel
theorem dX12_whiles_200 : decode cX12_whiles 200 = .ok (.iload_n 1, 1) := by decide +kernel
theorem dX12_whiles_201 : decode cX12_whiles 201 = .ok (.iaload, 1) := by decide +kernel
theorem dX12_whiles_202 : decode cX12_whiles 202 = .ok (.aload_n 0, 1) := by decide +kernel
theorem dX12_whiles_203 : decode cX12_whiles 203 = .ok (.getfield 358, 3) := by decide +kernel
theorem dX12_whiles_206 : decode cX12_whiles 206 = .ok (.iastore, 1) := by decide +kernel
theorem dX12_whiles_207 : decode cX12_whiles 207 = .ok (.aload_n 0, 1) := by decide +kernel
theorem dX12_whiles_208 : decode cX12_whiles 208 = .ok (.aload_n 0, 1) := by decide +kernel
theorem dX12_whiles_209 : decode cX12_whiles 209 = .ok (.getfield 147, 3) := by decide +kernel
theorem dX12_whiles_212 : decode cX12_whiles 212 = .ok (.iload_n 2, 1) := by decide +kernel
theorem dX12_whiles_213 : decode cX12_whiles 213 = .ok (.iaload, 1) := by decide +kernel
theorem dX12_whiles_214 : decode cX12_whiles 214 = .ok (.aload_n 0, 1) := by decide +kernel
theorem dX12_whiles_215 : decode cX12_whiles 215 = .ok (.getfield 358, 3) := by decide +kernel
theorem dX12_whiles_218 : decode cX12_whiles 218 = .ok (.invokevirtual 510, 3) := by decide +kernel
theorem dX12_whiles_221 : decode cX12_whiles 221 = .ok (.aload_n 0, 1) := by decide +kernel
theorem dX12_whiles_222 : decode cX12_whiles 222 = .ok (.dup, 1) := by decide +kernel
theorem dX12_whiles_223 : decode cX12_whiles 223 = .ok (.getfield 367, 3) := by decide +kernel
theorem dX12_whiles_226 : decode cX12_whiles 226 = .ok (.iconst 1, 1) := by decide +kernel
theorem dX12_whiles_227 : decode cX12_whiles 227 = .ok (.isub, 1) := by decide +kernel
theorem dX12_whiles_228 : decode cX12_whiles 228 = .ok (.putfield 367, 3) := by decide +kernel
theorem dX12_whiles_231 : decode cX12_whiles 231 = .ok (.aload_n 0, 1) := by decide +kernel
theorem dX12_whiles_232 : decode cX12_whiles 232 = .ok (.aload_n 0, 1) := by decide +kernel
theorem dX12_whiles_233 : decode cX12_whiles 233 = .ok (.getfield 195, 3) := by decide +kernel
theorem dX12_whiles_236 : decode cX12_whiles 236 = .ok (.iload_n 1, 1) := by decide +kernel
theorem dX12_whiles_237 : decode cX12_whiles 237 = .ok (.iaload, 1) := by decide +kernel
theorem dX12_whiles_238 : decode cX12_whiles 238 = .ok (.ifCond .eq 12, 3) := by decide +kernel
theorem dX12_whiles_241 : decode cX12_whiles 241 = .ok (.aload_n 0, 1) := by decide +kernel
theorem dX12_whiles_242 : decode cX12_whiles 242 = .ok (.getfield 153, 3) := by decide +kernel
theorem dX12_whiles_245 : decode cX12_whiles 245 = .ok (.iload_n 2, 1) := by decide +kernel
theorem dX12_whiles_246 : decode cX12_whiles 246 = .ok (.baload, 1) := by decide +kernel
theorem dX12_whiles_247 : decode cX12_whiles 247 = .ok (.ifCond .eq 7, 3) := by decide +kernel
theorem dX12_whiles_250 : decode cX12_whiles 250 = .ok (.iconst 1, 1) := by decide +kernel
theorem dX12_whiles_251 : decode cX12_whiles 251 = .ok (.goto 4, 3) := by decide +kernel
theorem dX12_whiles_254 : decode cX12_whiles 254 = .ok (.iconst 0, 1) := by decide +kernel
theorem dX12_whiles_255 : decode cX12_whiles 255 = .ok (.invokevirtual 490, 3) := by decide +kernel
theorem dX12_whiles_258 : decode cX12_whiles 258 = .ok (.return_, 1) := by decide +kernel
theorem dX12_repeats_0 : decode cX12_repeats 0 = .ok (.aload_n 0, 1) := by decide +kernel
theorem dX12_repeats_1 : decode cX12_repeats 1 = .ok (.getfield 177, 3) := by decide +kernel
theorem dX12_repeats_4 : decode cX12_repeats 4 = .ok (.iload_n 1, 1) := by decide +kernel
theorem dX12_repeats_5 : decode cX12_repeats 5 = .ok (.iaload, 1) := by decide +kernel
theorem dX12_repeats_6 : decode cX12_repeats 6 = .ok (.lookupswitch 199 #[(0, 26), (1, 60)], 26) := by decide +kernel
theorem dX12_repeats_32 : decode cX12_repeats 32 = .ok (.aload_n 0, 1) := by decide +kernel
theorem dX12_repeats_33 : decode cX12_repeats 33 = .ok (.invokevirtual 345, 3) := by decide +kernel
theorem dX12_repeats_36 : decode cX12_repeats 36 = .ok (.aload_n 0, 1) := by decide +kernel
theorem dX12_repeats_37 : decode cX12_repeats 37 = .ok (.getfield 180, 3) := by decide +kernel
theorem dX12_repeats_40 : decode cX12_repeats 40 = .ok (.iload_n 1, 1) := by decide +kernel
theorem dX12_repeats_41 : decode cX12_repeats 41 = .ok (.aload_n 0, 1) := by decide +kernel
theorem dX12_repeats_42 : decode cX12_repeats 42 = .ok (.iconst 1, 1) := by decide +kernel
theorem dX12_repeats_43 : decode cX12_repeats 43 = .ok (.iconst 0, 1) := by decide +kernel
theorem dX12_repeats_44 : decode cX12_repeats 44 = .ok (.invokevirtual 464, 3) := by decide +kernel
theorem dX12_repeats_47 : decode cX12_repeats 47 = .ok (.iastore, 1) := by decide +kernel
theorem dX12_repeats_48 : decode cX12_repeats 48 = .ok (.aload_n 0, 1) := by decide +kernel
theorem dX12_repeats_49 : decode cX12_repeats 49 = .ok (.getfield 186, 3) := by decide +kernel
theorem dX12_repeats_52 : decode cX12_repeats 52 = .ok (.iload_n 1, 1) := by decide +kernel
theorem dX12_repeats_53 : decode cX12_repeats 53 = .ok (.aload_n 0, 1) := by decide +kernel
theorem dX12_repeats_54 : decode cX12_repeats 54 = .ok (.invokevirtual 536, 3) := by decide +kernel
theorem dX12_repeats_57 : decode cX12_repeats 57 = .ok (.iastore, 1) := by decide +kernel
theorem dX12_repeats_58 : decode cX12_repeats 58 = .ok (.aload_n 0, 1) := by decide +kernel
theorem dX12_repeats_59 : decode cX12_repeats 59 = .ok (.iconst 1, 1) := by decide +kernel
theorem dX12_repeats_60 : decode cX12_repeats 60 = .ok (.invokevirtual 521, 3) := by decide +kernel
theorem dX12_repeats_63 : decode cX12_repeats 63 = .ok (.goto 227, 3) := by decide +kernel
theorem dX12_repeats_66 : decode cX12_repeats 66 = .ok (.aload_n 0, 1) := by decide +kernel
theorem dX12_repeats_67 : decode cX12_repeats 67 = .ok (.getfield 186, 3) := by decide +kernel
theorem dX12_repeats_70 : decode cX12_repeats 70 = .ok (.iload_n 1, 1) := by decide +kernel
theorem dX12_repeats_71 : decode cX12_repeats 71 = .ok (.iaload, 1) := by decide +kernel
theorem dX12_repeats_72 : decode cX12_repeats 72 = .ok (.istore_n 2, 1) := by decide +kernel
theorem dX12_repeats_73 : decode cX12_repeats 73 = .ok (.aload_n 0, 1) := by decide +kernel
theorem dX12_repeats_74 : decode cX12_repeats 74 = .ok (.aload_n 0, 1) := by decide +kernel
theorem dX12_repeats_75 : decode cX12_repeats 75 = .ok (.getfield 150, 3) := by decide +kernel
theorem dX12_repeats_78 : decode cX12_repeats 78 = .ok (.iload_n 2, 1) := by decide +kernel
theorem dX12_repeats_79 : decode cX12_repeats 79 = .ok (.iaload, 1) := by decide +kernel
theorem dX12_repeats_80 : decode cX12_repeats 80 = .ok (.aload_n 0, 1) := by decide +kernel
theorem dX12_repeats_81 : decode cX12_repeats 81 = .ok (.getfield 358, 3) := by decide +kernel
theorem dX12_repeats_84 : decode cX12_repeats 84 = .ok (.invokevirtual 510, 3) := by decide +kernel
theorem dX12_repeats_87 : decode cX12_repeats 87 = .ok (.aload_n 0, 1) := by decide +kernel
theorem dX12_repeats_88 : decode cX12_repeats 88 = .ok (.getfield 183, 3) := by decide +kernel
theorem dX12_repeats_91 : decode cX12_repeats 91 = .ok (.iload_n 1, 1) := by decide +kernel
theorem dX12_repeats_92 : decode cX12_repeats 92 = .ok (.aload_n 0, 1) := by decide +kernel
theorem dX12_repeats_93 : decode cX12_repeats 93 = .ok (.getfield 396, 3) := by decide +kernel
theorem dX12_repeats_96 : decode cX12_repeats 96 = .ok (.ifCond .ne 12, 3) := by decide +kernel
theorem dX12_repeats_99 : decode cX12_repeats 99 = .ok (.aload_n 0, 1) := by decide +kernel
theorem dX12_repeats_100 : decode cX12_repeats 100 = .ok (.getfield 156, 3) := by decide +kernel
theorem dX12_repeats_103 : decode cX12_repeats 103 = .ok (.iload_n 2, 1) := by decide +kernel
theorem dX12_repeats_104 : decode cX12_repeats 104 = .ok (.baload, 1) := by decide +kernel
theorem dX12_repeats_105 : decode cX12_repeats 105 = .ok (.ifCond .eq 7, 3) := by decide +kernel
theorem dX12_repeats_108 : decode cX12_repeats 108 = .ok (.iconst 1, 1) := by decide +kernel
theorem dX12_repeats_109 : decode cX12_repeats 109 = .ok (.goto 4, 3) := by decide +kernel
end
