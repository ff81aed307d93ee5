theorem dX12_list_75 : decode cX12_list 75 = .ok (.getfield 180, 3) := by decide +kernel
theorem dX12_list_78 : decode cX12_list 78 = .ok (.iload_n 1, 1) := by decide +kernel
theorem dX12_list_79 : decode cX12_list 79 = .ok (.iaload, 1) := by decide +kernel
theorem dX12_list_80 : decode cX12_list 80 = .ok (.iconst 1, 1) := by decide +kernel
theorem dX12_list_81 : decode cX12_list 81 = .ok (.if_icmp .ne 7, 3) := by decide +kernel
theorem dX12_list_84 : decode cX12_list 84 = .ok (.iconst 1, 1) := by decide +kernel
theorem dX12_list_85 : decode cX12_list 85 = .ok (.goto 4, 3) := by decide +kernel
theorem dX12_list_88 : decode cX12_list 88 = .ok (.iconst 0, 1) := by decide +kernel
theorem dX12_list_89 : decode cX12_list 89 = .ok (.invokevirtual 490, 3) := by decide +kernel
theorem dX12_list_92 : decode cX12_list 92 = .ok (.return_, 1) := by decide +kernel
theorem dX12_list_93 : decode cX12_list 93 = .ok (.aload_n 0, 1) := by decide +kernel
theorem dX12_list_94 : decode cX12_list 94 = .ok (.getfield 180, 3) := by decide +kernel
theorem dX12_list_97 : decode cX12_list 97 = .ok (.iload_n 1, 1) := by decide +kernel
theorem dX12_list_98 : decode cX12_list 98 = .ok (.iaload, 1) := by decide +kernel
theorem dX12_list_99 : decode cX12_list 99 = .ok (.ifCond .ne 11, 3) := by decide +kernel
theorem dX12_list_102 : decode cX12_list 102 = .ok (.aload_n 0, 1) := by decide +kernel
theorem dX12_list_103 : decode cX12_list 103 = .ok (.aload_n 0, 1) := by decide +kernel
theorem dX12_list_104 : decode cX12_list 104 = .ok (.getfield 304, 3) := by decide +kernel
theorem dX12_list_107 : decode cX12_list 107 = .ok (.invokevirtual 487, 3) := by decide +kernel
theorem dX12_list_110 : decode cX12_list 110 = .ok (.aload_n 0, 1) := by decide +kernel
theorem dX12_list_111 : decode cX12_list 111 = .ok (.iconst 1, 1) := by decide +kernel
theorem dX12_list_112 : decode cX12_list 112 = .ok (.iconst 2, 1) := by decide +kernel
theorem dX12_list_113 : decode cX12_list 113 = .ok (.invokevirtual 393, 3) := by decide +kernel
theorem dX12_list_116 : decode cX12_list 116 = .ok (.return_, 1) := by decide +kernel
theorem dX12_block_0 : decode cX12_block 0 = .ok (.aload_n 0, 1) := by decide +kernel
theorem dX12_block_1 : decode cX12_block 1 = .ok (.getfield 177, 3) := by decide +kernel
theorem dX12_block_4 : decode cX12_block 4 = .ok (.iload_n 1, 1) := by decide +kernel
theorem dX12_block_5 : decode cX12_block 5 = .ok (.iaload, 1) := by decide +kernel
theorem dX12_block_6 : decode cX12_block 6 = .ok (.ifCond .ne 27, 3) := by decide +kernel
theorem dX12_block_9 : decode cX12_block 9 = .ok (.aload_n 0, 1) := by decide +kernel
theorem dX12_block_10 : decode cX12_block 10 = .ok (.bipush 123, 2) := by decide +kernel
theorem dX12_block_12 : decode cX12_block 12 = .ok (.invokevirtual 475, 3) := by decide +kernel
theorem dX12_block_15 : decode cX12_block 15 = .ok (.pop, 1) := by decide +kernel
theorem dX12_block_16 : decode cX12_block 16 = .ok (.aload_n 0, 1) := by decide +kernel
theorem dX12_block_17 : decode cX12_block 17 = .ok (.getfield 180, 3) := by decide +kernel
theorem dX12_block_20 : decode cX12_block 20 = .ok (.iload_n 1, 1) := by decide +kernel
theorem dX12_block_21 : decode cX12_block 21 = .ok (.aload_n 0, 1) := by decide +kernel
theorem dX12_block_22 : decode cX12_block 22 = .ok (.getfield 361, 3) := by decide +kernel
theorem dX12_block_25 : decode cX12_block 25 = .ok (.iastore, 1) := by decide +kernel
theorem dX12_block_26 : decode cX12_block 26 = .ok (.aload_n 0, 1) := by decide +kernel
theorem dX12_block_27 : decode cX12_block 27 = .ok (.iconst 1, 1) := by decide +kernel
theorem dX12_block_28 : decode cX12_block 28 = .ok (.iconst 1, 1) := by decide +kernel
theorem dX12_block_29 : decode cX12_block 29 = .ok (.invokevirtual 393, 3) := by decide +kernel
theorem dX12_block_32 : decode cX12_block 32 = .ok (.return_, 1) := by decide +kernel
theorem dX12_block_33 : decode cX12_block 33 = .ok (.aload_n 0, 1) := by decide +kernel
theorem dX12_block_34 : decode cX12_block 34 = .ok (.bipush 125, 2) := by decide +kernel
theorem dX12_block_36 : decode cX12_block 36 = .ok (.invokevirtual 468, 3) := by decide +kernel
theorem dX12_block_39 : decode cX12_block 39 = .ok (.pop, 1) := by decide +kernel
theorem dX12_block_40 : decode cX12_block 40 = .ok (.aload_n 0, 1) := by decide +kernel
theorem dX12_block_41 : decode cX12_block 41 = .ok (.aload_n 0, 1) := by decide +kernel
theorem dX12_block_42 : decode cX12_block 42 = .ok (.getfield 180, 3) := by decide +kernel
theorem dX12_block_45 : decode cX12_block 45 = .ok (.iload_n 1, 1) := by decide +kernel
theorem dX12_block_46 : decode cX12_block 46 = .ok (.iaload, 1) := by decide +kernel
theorem dX12_block_47 : decode cX12_block 47 = .ok (.putfield 361, 3) := by decide +kernel
theorem dX12_block_50 : decode cX12_block 50 = .ok (.aload_n 0, 1) := by decide +kernel
theorem dX12_block_51 : decode cX12_block 51 = .ok (.dup, 1) := by decide +kernel
theorem dX12_block_52 : decode cX12_block 52 = .ok (.getfield 387, 3) := by decide +kernel
theorem dX12_block_55 : decode cX12_block 55 = .ok (.iconst 1, 1) := by decide +kernel
theorem dX12_block_56 : decode cX12_block 56 = .ok (.isub, 1) := by decide +kernel
theorem dX12_block_57 : decode cX12_block 57 = .ok (.putfield 387, 3) := by decide +kernel
theorem dX12_block_60 : decode cX12_block 60 = .ok (.return_, 1) := by decide +kernel
theorem dX12_stat_0 : decode cX12_stat 0 = .ok (.aload_n 0, 1) := by decide +kernel
theorem dX12_stat_1 : decode cX12_stat 1 = .ok (.dup, 1) := by decide +kernel
theorem dX12_stat_2 : decode cX12_stat 2 = .ok (.getfield 494, 3) := by decide +kernel
theorem dX12_stat_5 : decode cX12_stat 5 = .ok (.iconst 1, 1) := by decide +kernel
theorem dX12_stat_6 : decode cX12_stat 6 = .ok (.iadd, 1) := by decide +kernel
theorem dX12_stat_7 : decode cX12_stat 7 = .ok (.putfield 494, 3) := by decide +kernel
theorem dX12_stat_10 : decode cX12_stat 10 = .ok (.aload_n 0, 1) := by decide +kernel
theorem dX12_stat_11 : decode cX12_stat 11 = .ok (.getfield 307, 3) := by decide +kernel
theorem dX12_stat_14 : decode cX12_stat 14 = .ok (.bipush 123, 2) := by decide +kernel
theorem dX12_stat_16 : decode cX12_stat 16 = .ok (.if_icmp .ne 11, 3) := by decide +kernel
theorem dX12_stat_19 : decode cX12_stat 19 = .ok (.aload_n 0, 1) := by decide +kernel
theorem dX12_stat_20 : decode cX12_stat 20 = .ok (.getfield 174, 3) := by decide +kernel
theorem dX12_stat_23 : decode cX12_stat 23 = .ok (.iload_n 1, 1) := by decide +kernel
theorem dX12_stat_24 : decode cX12_stat 24 = .ok (.iconst 3, 1) := by decide +kernel
theorem dX12_stat_25 : decode cX12_stat 25 = .ok (.iastore, 1) := by decide +kernel
theorem dX12_stat_26 : decode cX12_stat 26 = .ok (.return_, 1) := by decide +kernel
theorem dX12_stat_27 : decode cX12_stat 27 = .ok (.aload_n 0, 1) := by decide +kernel
theorem dX12_stat_28 : decode cX12_stat 28 = .ok (.getfield 174, 3) := by decide +kernel
theorem dX12_stat_31 : decode cX12_stat 31 = .ok (.iload_n 1, 1) := by decide +kernel
theorem dX12_stat_32 : decode cX12_stat 32 = .ok (.aload_n 0, 1) := by decide +kernel
theorem dX12_stat_33 : decode cX12_stat 33 = .ok (.getfield 307, 3) := by decide +kernel
theorem dX12_stat_36 : decode cX12_stat 36 = .ok (.sipush 410, 3) := by decide +kernel
theorem dX12_stat_39 : decode cX12_stat 39 = .ok (.if_icmp .eq 13, 3) := by decide +kernel
theorem dX12_stat_42 : decode cX12_stat 42 = .ok (.aload_n 0, 1) := by decide +kernel
theorem dX12_stat_43 : decode cX12_stat 43 = .ok (.getfield 307, 3) := by decide +kernel
theorem dX12_stat_46 : decode cX12_stat 46 = .ok (.sipush 411, 3) := by decide +kernel
theorem dX12_stat_49 : decode cX12_stat 49 = .ok (.if_icmp .ne 7, 3) := by decide +kernel
theorem dX12_stat_52 : decode cX12_stat 52 = .ok (.iconst 4, 1) := by decide +kernel
theorem dX12_stat_53 : decode cX12_stat 53 = .ok (.goto 186, 3) := by decide +kernel
theorem dX12_stat_56 : decode cX12_stat 56 = .ok (.aload_n 0, 1) := by decide +kernel
theorem dX12_stat_57 : decode cX12_stat 57 = .ok (.getfield 307, 3) := by decide +kernel
theorem dX12_stat_60 : decode cX12_stat 60 = .ok (.iconst 2, 1) := by decide +kernel
theorem dX12_stat_61 : decode cX12_stat 61 = .ok (.if_icmp .ne 7, 3) := by decide +kernel
theorem dX12_stat_64 : decode cX12_stat 64 = .ok (.iconst 5, 1) := by decide +kernel
theorem dX12_stat_65 : decode cX12_stat 65 = .ok (.goto 174, 3) := by decide +kernel
theorem dX12_stat_68 : decode cX12_stat 68 = .ok (.aload_n 0, 1) := by decide +kernel
theorem dX12_stat_69 : decode cX12_stat 69 = .ok (.getfield 307, 3) := by decide +kernel
theorem dX12_stat_72 : decode cX12_stat 72 = .ok (.sipush 412, 3) := by decide +kernel
theorem dX12_stat_75 : decode cX12_stat 75 = .ok (.if_icmp .eq 23, 3) := by decide +kernel
theorem dX12_stat_78 : decode cX12_stat 78 = .ok (.aload_n 0, 1) := by decide +kernel
theorem dX12_stat_79 : decode cX12_stat 79 = .ok (.getfield 307, 3) := by decide +kernel
theorem dX12_stat_82 : decode cX12_stat 82 = .ok (.sipush 420, 3) := by decide +kernel
theorem dX12_stat_85 : decode cX12_stat 85 = .ok (.if_icmp .eq 13, 3) := by decide +kernel
theorem dX12_stat_88 : decode cX12_stat 88 = .ok (.aload_n 0, 1) := by decide +kernel
theorem dX12_stat_89 : decode cX12_stat 89 = .ok (.getfield 307, 3) := by decide +kernel
theorem dX12_stat_92 : decode cX12_stat 92 = .ok (.sipush 431, 3) := by decide +kernel
theorem dX12_stat_95 : decode cX12_stat 95 = .ok (.if_icmp .ne 8, 3) := by decide +kernel
theorem dX12_stat_98 : decode cX12_stat 98 = .ok (.bipush 6, 2) := by decide +kernel
theorem dX12_stat_100 : decode cX12_stat 100 = .ok (.goto 139, 3) := by decide +kernel
theorem dX12_stat_103 : decode cX12_stat 103 = .ok (.aload_n 0, 1) := by decide +kernel
theorem dX12_stat_104 : decode cX12_stat 104 = .ok (.getfield 307, 3) := by decide +kernel
theorem dX12_stat_107 : decode cX12_stat 107 = .ok (.sipush 421, 3) := by decide +kernel
theorem dX12_stat_110 : decode cX12_stat 110 = .ok (.if_icmp .ne 8, 3) := by decide +kernel
theorem dX12_stat_113 : decode cX12_stat 113 = .ok (.bipush 7, 2) := by decide +kernel
theorem dX12_stat_115 : decode cX12_stat 115 = .ok (.goto 124, 3) := by decide +kernel
theorem dX12_stat_118 : decode cX12_stat 118 = .ok (.aload_n 0, 1) := by decide +kernel
theorem dX12_stat_119 : decode cX12_stat 119 = .ok (.getfield 307, 3) := by decide +kernel
theorem dX12_stat_122 : decode cX12_stat 122 = .ok (.sipush 427, 3) := by decide +kernel
theorem dX12_stat_125 : decode cX12_stat 125 = .ok (.if_icmp .ne 8, 3) := by decide +kernel
theorem dX12_stat_128 : decode cX12_stat 128 = .ok (.bipush 8, 2) := by decide +kernel
theorem dX12_stat_130 : decode cX12_stat 130 = .ok (.goto 109, 3) := by decide +kernel
theorem dX12_stat_133 : decode cX12_stat 133 = .ok (.aload_n 0, 1) := by decide +kernel
theorem dX12_stat_134 : decode cX12_stat 134 = .ok (.getfield 307, 3) := by decide +kernel
theorem dX12_stat_137 : decode cX12_stat 137 = .ok (.sipush 413, 3) := by decide +kernel
theorem dX12_stat_140 : decode cX12_stat 140 = .ok (.if_icmp .ne 8, 3) := by decide +kernel
theorem dX12_stat_143 : decode cX12_stat 143 = .ok (.bipush 9, 2) := by decide +kernel
theorem dX12_stat_145 : decode cX12_stat 145 = .ok (.goto 94, 3) := by decide +kernel
theorem dX12_stat_148 : decode cX12_stat 148 = .ok (.aload_n 0, 1) := by decide +kernel
theorem dX12_stat_149 : decode cX12_stat 149 = .ok (.getfield 307, 3) := by decide +kernel
theorem dX12_stat_152 : decode cX12_stat 152 = .ok (.sipush 415, 3) := by decide +kernel
theorem dX12_stat_155 : decode cX12_stat 155 = .ok (.if_icmp .ne 8, 3) := by decide +kernel
theorem dX12_stat_158 : decode cX12_stat 158 = .ok (.bipush 10, 2) := by decide +kernel
theorem dX12_stat_160 : decode cX12_stat 160 = .ok (.goto 79, 3) := by decide +kernel
theorem dX12_stat_163 : decode cX12_stat 163 = .ok (.aload_n 0, 1) := by decide +kernel
theorem dX12_stat_164 : decode cX12_stat 164 = .ok (.getfield 307, 3) := by decide +kernel
theorem dX12_stat_167 : decode cX12_stat 167 = .ok (.sipush 416, 3) := by decide +kernel
theorem dX12_stat_170 : decode cX12_stat 170 = .ok (.if_icmp .ne 8, 3) := by decide +kernel
theorem dX12_stat_173 : decode cX12_stat 173 = .ok (.bipush 11, 2) := by decide +kernel
theorem dX12_stat_175 : decode cX12_stat 175 = .ok (.goto 64, 3) := by decide +kernel
theorem dX12_stat_178 : decode cX12_stat 178 = .ok (.aload_n 0, 1) := by decide +kernel
theorem dX12_stat_179 : decode cX12_stat 179 = .ok (.getfield 307, 3) := by decide +kernel
theorem dX12_stat_182 : decode cX12_stat 182 = .ok (.sipush 417, 3) := by decide +kernel
theorem dX12_stat_185 : decode cX12_stat 185 = .ok (.if_icmp .ne 8, 3) := by decide +kernel
theorem dX12_stat_188 : decode cX12_stat 188 = .ok (.bipush 12, 2) := by decide +kernel
theorem dX12_stat_190 : decode cX12_stat 190 = .ok (.goto 49, 3) := by decide +kernel
theorem dX12_stat_193 : decode cX12_stat 193 = .ok (.aload_n 0, 1) := by decide +kernel
theorem dX12_stat_194 : decode cX12_stat 194 = .ok (.getfield 307, 3) := by decide +kernel
theorem dX12_stat_197 : decode cX12_stat 197 = .ok (.sipush 422, 3) := by decide +kernel
theorem dX12_stat_200 : decode cX12_stat 200 = .ok (.if_icmp .ne 8, 3) := by decide +kernel
theorem dX12_stat_203 : decode cX12_stat 203 = .ok (.bipush 13, 2) := by decide +kernel
theorem dX12_stat_205 : decode cX12_stat 205 = .ok (.goto 34, 3) := by decide +kernel
theorem dX12_stat_208 : decode cX12_stat 208 = .ok (.aload_n 0, 1) := by decide +kernel
theorem dX12_stat_209 : decode cX12_stat 209 = .ok (.getfield 307, 3) := by decide +kernel
theorem dX12_stat_212 : decode cX12_stat 212 = .ok (.sipush 428, 3) := by decide +kernel
theorem dX12_stat_215 : decode cX12_stat 215 = .ok (.if_icmp .ne 8, 3) := by decide +kernel
theorem dX12_stat_218 : decode cX12_stat 218 = .ok (.bipush 14, 2) := by decide +kernel
theorem dX12_stat_220 : decode cX12_stat 220 = .ok (.goto 19, 3) := by decide +kernel
theorem dX12_stat_223 : decode cX12_stat 223 = .ok (.aload_n 0, 1) := by decide +kernel
theorem dX12_stat_224 : decode cX12_stat 224 = .ok (.getfield 307, 3) := by decide +kernel
theorem dX12_stat_227 : decode cX12_stat 227 = .ok (.sipush 423, 3) := by decide +kernel
theorem dX12_stat_230 : decode cX12_stat 230 = .ok (.if_icmp .ne 8, 3) := by decide +kernel
theorem dX12_stat_233 : decode cX12_stat 233 = .ok (.bipush 15, 2) := by decide +kernel
theorem dX12_stat_235 : decode cX12_stat 235 = .ok (.goto 4, 3) := by decide +kernel
theorem dX12_stat_238 : decode cX12_stat 238 = .ok (.iconst 2, 1) := by decide +kernel
theorem dX12_stat_239 : decode cX12_stat 239 = .ok (.iastore, 1) := by decide +kernel
theorem dX12_stat_240 : decode cX12_stat 240 = .ok (.aload_n 0, 1) := by decide +kernel
theorem dX12_stat_241 : decode cX12_stat 241 = .ok (.getfield 174, 3) := by decide +kernel
theorem dX12_stat_244 : decode cX12_stat 244 = .ok (.iload_n 1, 1) := by decide +kernel
theorem dX12_stat_245 : decode cX12_stat 245 = .ok (.iaload, 1) := by decide +kernel
theorem dX12_stat_246 : decode cX12_stat 246 = .ok (.iconst 2, 1) := by decide +kernel
theorem dX12_stat_247 : decode cX12_stat 247 = .ok (.if_icmp .eq 21, 3) := by decide +kernel
theorem dX12_stat_250 : decode cX12_stat 250 = .ok (.aload_n 0, 1) := by decide +kernel
theorem dX12_stat_251 : decode cX12_stat 251 = .ok (.getfield 174, 3) := by decide +kernel
theorem dX12_stat_254 : decode cX12_stat 254 = .ok (.iload_n 1, 1) := by decide +kernel
theorem dX12_stat_255 : decode cX12_stat 255 = .ok (.iaload, 1) := by decide +kernel
theorem dX12_stat_256 : decode cX12_stat 256 = .ok (.iconst 5, 1) := by decide +kernel
theorem dX12_stat_257 : decode cX12_stat 257 = .ok (.if_icmp .eq 10, 3) := by decide +kernel
theorem dX12_stat_260 : decode cX12_stat 260 = .ok (.aload_n 0, 1) := by decide +kernel
theorem dX12_stat_261 : decode cX12_stat 261 = .ok (.iconst 1, 1) := by decide +kernel
theorem dX12_stat_262 : decode cX12_stat 262 = .ok (.iconst 0, 1) := by decide +kernel
theorem dX12_stat_263 : decode cX12_stat 263 = .ok (.invokevirtual 464, 3) := by decide +kernel
theorem dX12_stat_266 : decode cX12_stat 266 = .ok (.pop, 1) := by decide +kernel
theorem dX12_stat_267 : decode cX12_stat 267 = .ok (.return_, 1) := by decide +kernel
theorem dX12_stat_268 : decode cX12_stat 268 = .ok (.aload_n 0, 1) := by decide +kernel
theorem dX12_stat_269 : decode cX12_stat 269 = .ok (.aload_n 0, 1) := by decide +kernel
theorem dX12_stat_270 : decode cX12_stat 270 = .ok (.getfield 307, 3) := by decide +kernel
theorem dX12_stat_273 : decode cX12_stat 273 = .ok (.bipush 59, 2) := by decide +kernel
theorem dX12_stat_275 : decode cX12_stat 275 = .ok (.if_icmp .eq 23, 3) := by decide +kernel
theorem dX12_stat_278 : decode cX12_stat 278 = .ok (.aload_n 0, 1) := by decide +kernel
theorem dX12_stat_279 : decode cX12_stat 279 = .ok (.getfield 307, 3) := by decide +kernel
theorem dX12_stat_282 : decode cX12_stat 282 = .ok (.sipush 418, 3) := by decide +kernel
theorem dX12_stat_285 : decode cX12_stat 285 = .ok (.if_icmp .eq 13, 3) := by decide +kernel
theorem dX12_stat_288 : decode cX12_stat 288 = .ok (.aload_n 0, 1) := by decide +kernel
theorem dX12_stat_289 : decode cX12_stat 289 = .ok (.getfield 307, 3) := by decide +kernel
theorem dX12_stat_292 : decode cX12_stat 292 = .ok (.sipush 419, 3) := by decide +kernel
theorem dX12_stat_295 : decode cX12_stat 295 = .ok (.if_icmp .ne 7, 3) := by decide +kernel
theorem dX12_stat_298 : decode cX12_stat 298 = .ok (.iconst 1, 1) := by decide +kernel
theorem dX12_stat_299 : decode cX12_stat 299 = .ok (.goto 4, 3) := by decide +kernel
theorem dX12_stat_302 : decode cX12_stat 302 = .ok (.iconst 0, 1) := by decide +kernel
theorem dX12_stat_303 : decode cX12_stat 303 = .ok (.invokevirtual 341, 3) := by decide +kernel
theorem dX12_stat_306 : decode cX12_stat 306 = .ok (.ifCond .eq 40, 3) := by decide +kernel
theorem dX12_stat_309 : decode cX12_stat 309 = .ok (.aload_n 0, 1) := by decide +kernel
theorem dX12_stat_310 : decode cX12_stat 310 = .ok (.iconst 1, 1) := by decide +kernel
theorem dX12_stat_311 : decode cX12_stat 311 = .ok (.iconst 0, 1) := by decide +kernel
theorem dX12_stat_312 : decode cX12_stat 312 = .ok (.invokevirtual 464, 3) := by decide +kernel
theorem dX12_stat_315 : decode cX12_stat 315 = .ok (.pop, 1) := by decide +kernel
theorem dX12_stat_316 : decode cX12_stat 316 = .ok (.aload_n 0, 1) := by decide +kernel
theorem dX12_stat_317 : decode cX12_stat 317 = .ok (.getfield 307, 3) := by decide +kernel
theorem dX12_stat_320 : decode cX12_stat 320 = .ok (.bipush 59, 2) := by decide +kernel
theorem dX12_stat_322 : decode cX12_stat 322 = .ok (.if_icmp .ne 15, 3) := by decide +kernel
theorem dX12_stat_325 : decode cX12_stat 325 = .ok (.aload_n 0, 1) := by decide +kernel
theorem dX12_stat_326 : decode cX12_stat 326 = .ok (.invokevirtual 345, 3) := by decide +kernel
theorem dX12_stat_329 : decode cX12_stat 329 = .ok (.aload_n 0, 1) := by decide +kernel
theorem dX12_stat_330 : decode cX12_stat 330 = .ok (.iconst 1, 1) := by decide +kernel
theorem dX12_stat_331 : decode cX12_stat 331 = .ok (.invokevirtual 490, 3) := by decide +kernel
theorem dX12_stat_334 : decode cX12_stat 334 = .ok (.goto 12, 3) := by decide +kernel
theorem dX12_stat_337 : decode cX12_stat 337 = .ok (.aload_n 0, 1) := by decide +kernel
theorem dX12_stat_338 : decode cX12_stat 338 = .ok (.invokevirtual 497, 3) := by decide +kernel
theorem dX12_stat_341 : decode cX12_stat 341 = .ok (.aload_n 0, 1) := by decide +kernel
theorem dX12_stat_342 : decode cX12_stat 342 = .ok (.iconst 0, 1) := by decide +kernel
theorem dX12_stat_343 : decode cX12_stat 343 = .ok (.invokevirtual 490, 3) := by decide +kernel
theorem dX12_stat_346 : decode cX12_stat 346 = .ok (.return_, 1) := by decide +kernel
theorem dX12_telling_0 : decode cX12_telling 0 = .ok (.aload_n 0, 1) := by decide +kernel
theorem dX12_telling_1 : decode cX12_telling 1 = .ok (.aload_n 0, 1) := by decide +kernel
theorem dX12_telling_2 : decode cX12_telling 2 = .ok (.getfield 307, 3) := by decide +kernel
theorem dX12_telling_5 : decode cX12_telling 5 = .ok (.iconst 2, 1) := by decide +kernel
theorem dX12_telling_6 : decode cX12_telling 6 = .ok (.if_icmp .ne 7, 3) := by decide +kernel
theorem dX12_telling_9 : decode cX12_telling 9 = .ok (.iconst 1, 1) := by decide +kernel
theorem dX12_telling_10 : decode cX12_telling 10 = .ok (.goto 4, 3) := by decide +kernel
theorem dX12_telling_13 : decode cX12_telling 13 = .ok (.iconst 0, 1) := by decide +kernel
theorem dX12_telling_14 : decode cX12_telling 14 = .ok (.invokevirtual 341, 3) := by decide +kernel
theorem dX12_telling_17 : decode cX12_telling 17 = .ok (.ifCond .ne 5, 3) := by decide +kernel
theorem dX12_telling_20 : decode cX12_telling 20 = .ok (.iconst 0, 1) := by decide +kernel
theorem dX12_telling_21 : decode cX12_telling 21 = .ok (.ireturn, 1) := by decide +kernel
theorem dX12_telling_22 : decode cX12_telling 22 = .ok (.aload_n 0, 1) := by decide +kernel
theorem dX12_telling_23 : decode cX12_telling 23 = .ok (.aload_n 0, 1) := by decide +kernel
theorem dX12_telling_24 : decode cX12_telling 24 = .ok (.getfield 327, 3) := by decide +kernel
theorem dX12_telling_27 : decode cX12_telling 27 = .ok (.invokevirtual 471, 3) := by decide +kernel
theorem dX12_telling_30 : decode cX12_telling 30 = .ok (.ifCond .lt 14, 3) := by decide +kernel
theorem dX12_telling_33 : decode cX12_telling 33 = .ok (.aload_n 0, 1) := by decide +kernel
theorem dX12_telling_34 : decode cX12_telling 34 = .ok (.iconst 4, 1) := by decide +kernel
theorem dX12_telling_35 : decode cX12_telling 35 = .ok (.aload_n 0, 1) := by decide +kernel
theorem dX12_telling_36 : decode cX12_telling 36 = .ok (.getfield 304, 3) := by decide +kernel
theorem dX12_telling_39 : decode cX12_telling 39 = .ok (.invokevirtual 337, 3) := by decide +kernel
theorem dX12_telling_42 : decode cX12_telling 42 = .ok (.iconst 0, 1) := by decide +kernel
theorem dX12_telling_43 : decode cX12_telling 43 = .ok (.ireturn, 1) := by decide +kernel
theorem dX12_telling_44 : decode cX12_telling 44 = .ok (.aload_n 0, 1) := by decide +kernel
theorem dX12_telling_45 : decode cX12_telling 45 = .ok (.dup, 1) := by decide +kernel
theorem dX12_telling_46 : decode cX12_telling 46 = .ok (.getfield 500, 3) := by decide +kernel
theorem dX12_telling_49 : decode cX12_telling 49 = .ok (.iconst 1, 1) := by decide +kernel
theorem dX12_telling_50 : decode cX12_telling 50 = .ok (.iadd, 1) := by decide +kernel
theorem dX12_telling_51 : decode cX12_telling 51 = .ok (.putfield 500, 3) := by decide +kernel
theorem dX12_telling_54 : decode cX12_telling 54 = .ok (.aload_n 0, 1) := by decide +kernel
theorem dX12_telling_55 : decode cX12_telling 55 = .ok (.getfield 204, 3) := by decide +kernel
theorem dX12_telling_58 : decode cX12_telling 58 = .ok (.iload_n 1, 1) := by decide +kernel
theorem dX12_telling_59 : decode cX12_telling 59 = .ok (.aload_n 0, 1) := by decide +kernel
theorem dX12_telling_60 : decode cX12_telling 60 = .ok (.getfield 327, 3) := by decide +kernel
theorem dX12_telling_63 : decode cX12_telling 63 = .ok (.lastore, 1) := by decide +kernel
theorem dX12_telling_64 : decode cX12_telling 64 = .ok (.aload_n 0, 1) := by decide +kernel
theorem dX12_telling_65 : decode cX12_telling 65 = .ok (.invokevirtual 345, 3) := by decide +kernel
theorem dX12_telling_68 : decode cX12_telling 68 = .ok (.iconst 1, 1) := by decide +kernel
theorem dX12_telling_69 : decode cX12_telling 69 = .ok (.ireturn, 1) := by decide +kernel
theorem dX12_tell_0 : decode cX12_tell 0 = .ok (.aload_n 0, 1) := by decide +kernel
theorem dX12_tell_1 : decode cX12_tell 1 = .ok (.getfield 177, 3) := by decide +kernel
theorem dX12_tell_4 : decode cX12_tell 4 = .ok (.iload_n 1, 1) := by decide +kernel
theorem dX12_tell_5 : decode cX12_tell 5 = .ok (.iaload, 1) := by decide +kernel
theorem dX12_tell_6 : decode cX12_tell 6 = .ok (.ifCond .ne 37, 3) := by decide +kernel
theorem dX12_tell_9 : decode cX12_tell 9 = .ok (.aload_n 0, 1) := by decide +kernel
theorem dX12_tell_10 : decode cX12_tell 10 = .ok (.invokevirtual 345, 3) := by decide +kernel
theorem dX12_tell_13 : decode cX12_tell 13 = .ok (.aload_n 0, 1) := by decide +kernel
theorem dX12_tell_14 : decode cX12_tell 14 = .ok (.getfield 291, 3) := by decide +kernel
theorem dX12_tell_17 : decode cX12_tell 17 = .ok (.ifCond .ne 25, 3) := by decide +kernel
theorem dX12_tell_20 : decode cX12_tell 20 = .ok (.aload_n 0, 1) := by decide +kernel
theorem dX12_tell_21 : decode cX12_tell 21 = .ok (.iload_n 1, 1) := by decide +kernel
theorem dX12_tell_22 : decode cX12_tell 22 = .ok (.invokevirtual 503, 3) := by decide +kernel
theorem dX12_tell_25 : decode cX12_tell 25 = .ok (.ifCond .eq 17, 3) := by decide +kernel
theorem dX12_tell_28 : decode cX12_tell 28 = .ok (.aload_n 0, 1) := by decide +kernel
theorem dX12_tell_29 : decode cX12_tell 29 = .ok (.bipush 61, 2) := by decide +kernel
theorem dX12_tell_31 : decode cX12_tell 31 = .ok (.invokevirtual 355, 3) := by decide +kernel
theorem dX12_tell_34 : decode cX12_tell 34 = .ok (.pop, 1) := by decide +kernel
theorem dX12_tell_35 : decode cX12_tell 35 = .ok (.aload_n 0, 1) := by decide +kernel
theorem dX12_tell_36 : decode cX12_tell 36 = .ok (.iconst 1, 1) := by decide +kernel
theorem dX12_tell_37 : decode cX12_tell 37 = .ok (.bipush 16, 2) := by decide +kernel
theorem dX12_tell_39 : decode cX12_tell 39 = .ok (.invokevirtual 393, 3) := by decide +kernel
theorem dX12_tell_42 : decode cX12_tell 42 = .ok (.return_, 1) := by decide +kernel
theorem dX12_tell_43 : decode cX12_tell 43 = .ok (.aload_n 0, 1) := by decide +kernel
theorem dX12_tell_44 : decode cX12_tell 44 = .ok (.iconst 5, 1) := by decide +kernel
theorem dX12_tell_45 : decode cX12_tell 45 = .ok (.aload_n 0, 1) := by decide +kernel
theorem dX12_tell_46 : decode cX12_tell 46 = .ok (.aload_n 0, 1) := by decide +kernel
theorem dX12_tell_47 : decode cX12_tell 47 = .ok (.getfield 204, 3) := by decide +kernel
theorem dX12_tell_50 : decode cX12_tell 50 = .ok (.iload_n 1, 1) := by decide +kernel
theorem dX12_tell_51 : decode cX12_tell 51 = .ok (.laload, 1) := by decide +kernel
theorem dX12_tell_52 : decode cX12_tell 52 = .ok (.iconst 0, 1) := by decide +kernel
theorem dX12_tell_53 : decode cX12_tell 53 = .ok (.invokevirtual 506, 3) := by decide +kernel
theorem dX12_tell_56 : decode cX12_tell 56 = .ok (.invokevirtual 464, 3) := by decide +kernel
theorem dX12_tell_59 : decode cX12_tell 59 = .ok (.pop, 1) := by decide +kernel
theorem dX12_tell_60 : decode cX12_tell 60 = .ok (.aload_n 0, 1) := by decide +kernel
theorem dX12_tell_61 : decode cX12_tell 61 = .ok (.bipush 59, 2) := by decide +kernel
theorem dX12_tell_63 : decode cX12_tell 63 = .ok (.invokevirtual 355, 3) := by decide +kernel
theorem dX12_tell_66 : decode cX12_tell 66 = .ok (.pop, 1) := by decide +kernel
theorem dX12_tell_67 : decode cX12_tell 67 = .ok (.aload_n 0, 1) := by decide +kernel
theorem dX12_tell_68 : decode cX12_tell 68 = .ok (.iconst 1, 1) := by decide +kernel
theorem dX12_tell_69 : decode cX12_tell 69 = .ok (.invokevirtual 490, 3) := by decide +kernel
theorem dX12_tell_72 : decode cX12_tell 72 = .ok (.return_, 1) := by decide +kernel
theorem dX12_got_0 : decode cX12_got 0 = .ok (.aload_n 0, 1) := by decide +kernel
theorem dX12_got_1 : decode cX12_got 1 = .ok (.lload_n 1, 1) := by decide +kernel
theorem dX12_got_2 : decode cX12_got 2 = .ok (.invokevirtual 471, 3) := by decide +kernel
theorem dX12_got_5 : decode cX12_got 5 = .ok (.istore 4, 2) := by decide +kernel
theorem dX12_got_7 : decode cX12_got 7 = .ok (.iload 4, 2) := by decide +kernel
theorem dX12_got_9 : decode cX12_got 9 = .ok (.ifCond .lt 13, 3) := by decide +kernel
theorem dX12_got_12 : decode cX12_got 12 = .ok (.aload_n 0, 1) := by decide +kernel
theorem dX12_got_13 : decode cX12_got 13 = .ok (.getfield 132, 3) := by decide +kernel
theorem dX12_got_16 : decode cX12_got 16 = .ok (.iload 4, 2) := by decide +kernel
theorem dX12_got_18 : decode cX12_got 18 = .ok (.baload, 1) := by decide +kernel
theorem dX12_got_19 : decode cX12_got 19 = .ok (.ifCond .eq 11, 3) := by decide +kernel
theorem dX12_got_22 : decode cX12_got 22 = .ok (.aload_n 0, 1) := by decide +kernel
theorem dX12_got_23 : decode cX12_got 23 = .ok (.iconst 3, 1) := by decide +kernel
theorem dX12_got_24 : decode cX12_got 24 = .ok (.iload_n 3, 1) := by decide +kernel
theorem dX12_got_25 : decode cX12_got 25 = .ok (.invokevirtual 337, 3) := by decide +kernel
theorem dX12_got_28 : decode cX12_got 28 = .ok (.iconst (-1), 1) := by decide +kernel
theorem dX12_got_29 : decode cX12_got 29 = .ok (.ireturn, 1) := by decide +kernel
theorem dX12_got_30 : decode cX12_got 30 = .ok (.aload_n 0, 1) := by decide +kernel
theorem dX12_got_31 : decode cX12_got 31 = .ok (.getfield 129, 3) := by decide +kernel
theorem dX12_got_34 : decode cX12_got 34 = .ok (.iload 4, 2) := by decide +kernel
theorem dX12_got_36 : decode cX12_got 36 = .ok (.iaload, 1) := by decide +kernel
theorem dX12_got_37 : decode cX12_got 37 = .ok (.ireturn, 1) := by decide +kernel
theorem dX12_named_0 : decode cX12_named 0 = .ok (.aload_n 0, 1) := by decide +kernel
theorem dX12_named_1 : decode cX12_named 1 = .ok (.getfield 177, 3) := by decide +kernel
theorem dX12_named_4 : decode cX12_named 4 = .ok (.iload_n 1, 1) := by decide +kernel
theorem dX12_named_5 : decode cX12_named 5 = .ok (.iaload, 1) := by decide +kernel
theorem dX12_named_6 : decode cX12_named 6 = .ok (.iconst 1, 1) := by decide +kernel
theorem dX12_named_7 : decode cX12_named 7 = .ok (.if_icmp .ne 60, 3) := by decide +kernel
theorem dX12_named_10 : decode cX12_named 10 = .ok (.aload_n 0, 1) := by decide +kernel
theorem dX12_named_11 : decode cX12_named 11 = .ok (.getfield 180, 3) := by decide +kernel
theorem dX12_named_14 : decode cX12_named 14 = .ok (.iload_n 1, 1) := by decide +kernel
theorem dX12_named_15 : decode cX12_named 15 = .ok (.iaload, 1) := by decide +kernel
theorem dX12_named_16 : decode cX12_named 16 = .ok (.istore_n 2, 1) := by decide +kernel
theorem dX12_named_17 : decode cX12_named 17 = .ok (.aload_n 0, 1) := by decide +kernel
theorem dX12_named_18 : decode cX12_named 18 = .ok (.aload_n 0, 1) := by decide +kernel
theorem dX12_named_19 : decode cX12_named 19 = .ok (.getfield 147, 3) := by decide +kernel
theorem dX12_named_22 : decode cX12_named 22 = .ok (.iload_n 2, 1) := by decide +kernel
theorem dX12_named_23 : decode cX12_named 23 = .ok (.iaload, 1) := by decide +kernel
theorem dX12_named_24 : decode cX12_named 24 = .ok (.aload_n 0, 1) := by decide +kernel
theorem dX12_named_25 : decode cX12_named 25 = .ok (.getfield 358, 3) := by decide +kernel
theorem dX12_named_28 : decode cX12_named 28 = .ok (.invokevirtual 510, 3) := by decide +kernel
theorem dX12_named_31 : decode cX12_named 31 = .ok (.aload_n 0, 1) := by decide +kernel
theorem dX12_named_32 : decode cX12_named 32 = .ok (.dup, 1) := by decide +kernel
theorem dX12_named_33 : decode cX12_named 33 = .ok (.getfield 367, 3) := by decide +kernel
theorem dX12_named_36 : decode cX12_named 36 = .ok (.iconst 1, 1) := by decide +kernel
theorem dX12_named_37 : decode cX12_named 37 = .ok (.isub, 1) := by decide +kernel
theorem dX12_named_38 : decode cX12_named 38 = .ok (.putfield 367, 3) := by decide +kernel
theorem dX12_named_41 : decode cX12_named 41 = .ok (.aload_n 0, 1) := by decide +kernel
theorem dX12_named_42 : decode cX12_named 42 = .ok (.aload_n 0, 1) := by decide +kernel
theorem dX12_named_43 : decode cX12_named 43 = .ok (.getfield 396, 3) := by decide +kernel
theorem dX12_named_46 : decode cX12_named 46 = .ok (.ifCond .ne 12, 3) := by decide +kernel
theorem dX12_named_49 : decode cX12_named 49 = .ok (.aload_n 0, 1) := by decide +kernel
theorem dX12_named_50 : decode cX12_named 50 = .ok (.getfield 153, 3) := by decide +kernel
theorem dX12_named_53 : decode cX12_named 53 = .ok (.iload_n 2, 1) := by decide +kernel
theorem dX12_named_54 : decode cX12_named 54 = .ok (.baload, 1) := by decide +kernel
theorem dX12_named_55 : decode cX12_named 55 = .ok (.ifCond .eq 7, 3) := by decide +kernel
theorem dX12_named_58 : decode cX12_named 58 = .ok (.iconst 1, 1) := by decide +kernel
theorem dX12_named_59 : decode cX12_named 59 = .ok (.goto 4, 3) := by decide +kernel
theorem dX12_named_62 : decode cX12_named 62 = .ok (.iconst 0, 1) := by decide +kernel
theorem dX12_named_63 : decode cX12_named 63 = .ok (.invokevirtual 490, 3) := by decide +kernel
theorem dX12_named_66 : decode cX12_named 66 = .ok (.return_, 1) := by decide +kernel
theorem dX12_named_67 : decode cX12_named 67 = .ok (.aload_n 0, 1) := by decide +kernel
theorem dX12_named_68 : decode cX12_named 68 = .ok (.getfield 177, 3) := by decide +kernel
theorem dX12_named_71 : decode cX12_named 71 = .ok (.iload_n 1, 1) := by decide +kernel
theorem dX12_named_72 : decode cX12_named 72 = .ok (.iaload, 1) := by decide +kernel
theorem dX12_named_73 : decode cX12_named 73 = .ok (.iconst 2, 1) := by decide +kernel
theorem dX12_named_74 : decode cX12_named 74 = .ok (.if_icmp .ne 28, 3) := by decide +kernel
theorem dX12_named_77 : decode cX12_named 77 = .ok (.aload_n 0, 1) := by decide +kernel
theorem dX12_named_78 : decode cX12_named 78 = .ok (.iconst 5, 1) := by decide +kernel
theorem dX12_named_79 : decode cX12_named 79 = .ok (.aload_n 0, 1) := by decide +kernel
theorem dX12_named_80 : decode cX12_named 80 = .ok (.getfield 180, 3) := by decide +kernel
theorem dX12_named_83 : decode cX12_named 83 = .ok (.iload_n 1, 1) := by decide +kernel
theorem dX12_named_84 : decode cX12_named 84 = .ok (.iaload, 1) := by decide +kernel
theorem dX12_named_85 : decode cX12_named 85 = .ok (.invokevirtual 464, 3) := by decide +kernel
theorem dX12_named_88 : decode cX12_named 88 = .ok (.pop, 1) := by decide +kernel
theorem dX12_named_89 : decode cX12_named 89 = .ok (.aload_n 0, 1) := by decide +kernel
theorem dX12_named_90 : decode cX12_named 90 = .ok (.bipush 59, 2) := by decide +kernel
theorem dX12_named_92 : decode cX12_named 92 = .ok (.invokevirtual 355, 3) := by decide +kernel
theorem dX12_named_95 : decode cX12_named 95 = .ok (.pop, 1) := by decide +kernel
theorem dX12_named_96 : decode cX12_named 96 = .ok (.aload_n 0, 1) := by decide +kernel
theorem dX12_named_97 : decode cX12_named 97 = .ok (.iconst 1, 1) := by decide +kernel
theorem dX12_named_98 : decode cX12_named 98 = .ok (.invokevirtual 490, 3) := by decide +kernel
theorem dX12_named_101 : decode cX12_named 101 = .ok (.return_, 1) := by decide +kernel
theorem dX12_named_102 : decode cX12_named 102 = .ok (.aload_n 0, 1) := by decide +kernel
theorem dX12_named_103 : decode cX12_named 103 = .ok (.getfield 327, 3) := by decide +kernel
theorem dX12_named_106 : decode cX12_named 106 = .ok (.lstore_n 2, 1) := by decide +kernel
theorem dX12_named_107 : decode cX12_named 107 = .ok (.aload_n 0, 1) := by decide +kernel
theorem dX12_named_108 : decode cX12_named 108 = .ok (.getfield 304, 3) := by decide +kernel
theorem dX12_named_111 : decode cX12_named 111 = .ok (.istore 4, 2) := by decide +kernel
theorem dX12_named_113 : decode cX12_named 113 = .ok (.aload_n 0, 1) := by decide +kernel
theorem dX12_named_114 : decode cX12_named 114 = .ok (.invokevirtual 345, 3) := by decide +kernel
theorem dX12_named_117 : decode cX12_named 117 = .ok (.aload_n 0, 1) := by decide +kernel
theorem dX12_named_118 : decode cX12_named 118 = .ok (.getfield 307, 3) := by decide +kernel
theorem dX12_named_121 : decode cX12_named 121 = .ok (.bipush 58, 2) := by decide +kernel
theorem dX12_named_123 : decode cX12_named 123 = .ok (.if_icmp .ne 12, 3) := by decide +kernel
theorem dX12_named_126 : decode cX12_named 126 = .ok (.aload_n 0, 1) := by decide +kernel
theorem dX12_named_127 : decode cX12_named 127 = .ok (.iload_n 1, 1) := by decide +kernel
theorem dX12_named_128 : decode cX12_named 128 = .ok (.lload_n 2, 1) := by decide +kernel
theorem dX12_named_129 : decode cX12_named 129 = .ok (.iload 4, 2) := by decide +kernel
theorem dX12_named_131 : decode cX12_named 131 = .ok (.invokevirtual 513, 3) := by decide +kernel
theorem dX12_named_134 : decode cX12_named 134 = .ok (.return_, 1) := by decide +kernel
theorem dX12_named_135 : decode cX12_named 135 = .ok (.aload_n 0, 1) := by decide +kernel
theorem dX12_named_136 : decode cX12_named 136 = .ok (.lload_n 2, 1) := by decide +kernel
theorem dX12_named_137 : decode cX12_named 137 = .ok (.iload 4, 2) := by decide +kernel
theorem dX12_named_139 : decode cX12_named 139 = .ok (.invokevirtual 517, 3) := by decide +kernel
theorem dX12_named_142 : decode cX12_named 142 = .ok (.istore 5, 2) := by decide +kernel
theorem dX12_named_144 : decode cX12_named 144 = .ok (.aload_n 0, 1) := by decide +kernel
theorem dX12_named_145 : decode cX12_named 145 = .ok (.getfield 291, 3) := by decide +kernel
theorem dX12_named_148 : decode cX12_named 148 = .ok (.ifCond .ne 34, 3) := by decide +kernel
theorem dX12_named_151 : decode cX12_named 151 = .ok (.aload_n 0, 1) := by decide +kernel
theorem dX12_named_152 : decode cX12_named 152 = .ok (.aload_n 0, 1) := by decide +kernel
theorem dX12_named_153 : decode cX12_named 153 = .ok (.getfield 307, 3) := by decide +kernel
theorem dX12_named_156 : decode cX12_named 156 = .ok (.bipush 61, 2) := by decide +kernel
theorem dX12_named_158 : decode cX12_named 158 = .ok (.if_icmp .eq 13, 3) := by decide +kernel
theorem dX12_named_161 : decode cX12_named 161 = .ok (.aload_n 0, 1) := by decide +kernel
theorem dX12_named_162 : decode cX12_named 162 = .ok (.getfield 307, 3) := by decide +kernel
theorem dX12_named_165 : decode cX12_named 165 = .ok (.sipush 307, 3) := by decide +kernel
theorem dX12_named_168 : decode cX12_named 168 = .ok (.if_icmp .ne 7, 3) := by decide +kernel
theorem dX12_named_171 : decode cX12_named 171 = .ok (.iconst 1, 1) := by decide +kernel
theorem dX12_named_172 : decode cX12_named 172 = .ok (.goto 4, 3) := by decide +kernel
theorem dX12_named_175 : decode cX12_named 175 = .ok (.iconst 0, 1) := by decide +kernel
theorem dX12_named_176 : decode cX12_named 176 = .ok (.invokevirtual 341, 3) := by decide +kernel
theorem dX12_named_179 : decode cX12_named 179 = .ok (.ifCond .ne 4, 3) := by decide +kernel
theorem dX12_named_182 : decode cX12_named 182 = .ok (.return_, 1) := by decide +kernel
theorem dX12_named_183 : decode cX12_named 183 = .ok (.aload_n 0, 1) := by decide +kernel
theorem dX12_named_184 : decode cX12_named 184 = .ok (.iconst 1, 1) := by decide +kernel
theorem dX12_named_185 : decode cX12_named 185 = .ok (.iconst 0, 1) := by decide +kernel
theorem dX12_named_186 : decode cX12_named 186 = .ok (.invokevirtual 464, 3) := by decide +kernel
theorem dX12_named_189 : decode cX12_named 189 = .ok (.pop, 1) := by decide +kernel
theorem dX12_named_190 : decode cX12_named 190 = .ok (.aload_n 0, 1) := by decide +kernel
theorem dX12_named_191 : decode cX12_named 191 = .ok (.getfield 307, 3) := by decide +kernel
theorem dX12_named_194 : decode cX12_named 194 = .ok (.sipush 307, 3) := by decide +kernel
theorem dX12_named_197 : decode cX12_named 197 = .ok (.if_icmp .ne 7, 3) := by decide +kernel
theorem dX12_named_200 : decode cX12_named 200 = .ok (.iconst 1, 1) := by decide +kernel
theorem dX12_named_201 : decode cX12_named 201 = .ok (.goto 4, 3) := by decide +kernel
theorem dX12_named_204 : decode cX12_named 204 = .ok (.iconst 0, 1) := by decide +kernel
theorem dX12_named_205 : decode cX12_named 205 = .ok (.istore 6, 2) := by decide +kernel
theorem dX12_named_207 : decode cX12_named 207 = .ok (.aload_n 0, 1) := by decide +kernel
theorem dX12_named_208 : decode cX12_named 208 = .ok (.invokevirtual 345, 3) := by decide +kernel
theorem dX12_named_211 : decode cX12_named 211 = .ok (.iload 6, 2) := by decide +kernel
theorem dX12_named_213 : decode cX12_named 213 = .ok (.ifCond .eq 27, 3) := by decide +kernel
theorem dX12_named_216 : decode cX12_named 216 = .ok (.aload_n 0, 1) := by decide +kernel
theorem dX12_named_217 : decode cX12_named 217 = .ok (.bipush 6, 2) := by decide +kernel
theorem dX12_named_219 : decode cX12_named 219 = .ok (.iload 5, 2) := by decide +kernel
theorem dX12_named_221 : decode cX12_named 221 = .ok (.invokevirtual 464, 3) := by decide +kernel
