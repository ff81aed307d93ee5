theorem dX12_repeats_112 : decode cX12_repeats 112 = .ok (.iconst 0, 1) := by decide +kernel
theorem dX12_repeats_113 : decode cX12_repeats 113 = .ok (.iastore, 1) := by decide +kernel
theorem dX12_repeats_114 : decode cX12_repeats 114 = .ok (.aload_n 0, 1) := by decide +kernel
theorem dX12_repeats_115 : decode cX12_repeats 115 = .ok (.getfield 198, 3) := by decide +kernel
theorem dX12_repeats_118 : decode cX12_repeats 118 = .ok (.iload_n 1, 1) := by decide +kernel
theorem dX12_repeats_119 : decode cX12_repeats 119 = .ok (.aload_n 0, 1) := by decide +kernel
theorem dX12_repeats_120 : decode cX12_repeats 120 = .ok (.getfield 153, 3) := by decide +kernel
theorem dX12_repeats_123 : decode cX12_repeats 123 = .ok (.iload_n 2, 1) := by decide +kernel
theorem dX12_repeats_124 : decode cX12_repeats 124 = .ok (.baload, 1) := by decide +kernel
theorem dX12_repeats_125 : decode cX12_repeats 125 = .ok (.ifCond .eq 7, 3) := by decide +kernel
theorem dX12_repeats_128 : decode cX12_repeats 128 = .ok (.iconst 1, 1) := by decide +kernel
theorem dX12_repeats_129 : decode cX12_repeats 129 = .ok (.goto 4, 3) := by decide +kernel
theorem dX12_repeats_132 : decode cX12_repeats 132 = .ok (.iconst 0, 1) := by decide +kernel
theorem dX12_repeats_133 : decode cX12_repeats 133 = .ok (.iastore, 1) := by decide +kernel
theorem dX12_repeats_134 : decode cX12_repeats 134 = .ok (.aload_n 0, 1) := by decide +kernel
theorem dX12_repeats_135 : decode cX12_repeats 135 = .ok (.getfield 192, 3) := by decide +kernel
theorem dX12_repeats_138 : decode cX12_repeats 138 = .ok (.iload_n 1, 1) := by decide +kernel
theorem dX12_repeats_139 : decode cX12_repeats 139 = .ok (.aload_n 0, 1) := by decide +kernel
theorem dX12_repeats_140 : decode cX12_repeats 140 = .ok (.getfield 147, 3) := by decide +kernel
theorem dX12_repeats_143 : decode cX12_repeats 143 = .ok (.iload_n 2, 1) := by decide +kernel
theorem dX12_repeats_144 : decode cX12_repeats 144 = .ok (.iaload, 1) := by decide +kernel
theorem dX12_repeats_145 : decode cX12_repeats 145 = .ok (.iastore, 1) := by decide +kernel
theorem dX12_repeats_146 : decode cX12_repeats 146 = .ok (.aload_n 0, 1) := by decide +kernel
theorem dX12_repeats_147 : decode cX12_repeats 147 = .ok (.dup, 1) := by decide +kernel
theorem dX12_repeats_148 : decode cX12_repeats 148 = .ok (.getfield 367, 3) := by decide +kernel
theorem dX12_repeats_151 : decode cX12_repeats 151 = .ok (.iconst 1, 1) := by decide +kernel
theorem dX12_repeats_152 : decode cX12_repeats 152 = .ok (.isub, 1) := by decide +kernel
theorem dX12_repeats_153 : decode cX12_repeats 153 = .ok (.putfield 367, 3) := by decide +kernel
theorem dX12_repeats_156 : decode cX12_repeats 156 = .ok (.aload_n 0, 1) := by decide +kernel
theorem dX12_repeats_157 : decode cX12_repeats 157 = .ok (.sipush 415, 3) := by decide +kernel
theorem dX12_repeats_160 : decode cX12_repeats 160 = .ok (.invokevirtual 355, 3) := by decide +kernel
theorem dX12_repeats_163 : decode cX12_repeats 163 = .ok (.pop, 1) := by decide +kernel
theorem dX12_repeats_164 : decode cX12_repeats 164 = .ok (.aload_n 0, 1) := by decide +kernel
theorem dX12_repeats_165 : decode cX12_repeats 165 = .ok (.bipush 40, 2) := by decide +kernel
theorem dX12_repeats_167 : decode cX12_repeats 167 = .ok (.invokevirtual 475, 3) := by decide +kernel
theorem dX12_repeats_170 : decode cX12_repeats 170 = .ok (.pop, 1) := by decide +kernel
theorem dX12_repeats_171 : decode cX12_repeats 171 = .ok (.aload_n 0, 1) := by decide +kernel
theorem dX12_repeats_172 : decode cX12_repeats 172 = .ok (.getfield 189, 3) := by decide +kernel
theorem dX12_repeats_175 : decode cX12_repeats 175 = .ok (.iload_n 1, 1) := by decide +kernel
theorem dX12_repeats_176 : decode cX12_repeats 176 = .ok (.aload_n 0, 1) := by decide +kernel
theorem dX12_repeats_177 : decode cX12_repeats 177 = .ok (.getfield 307, 3) := by decide +kernel
theorem dX12_repeats_180 : decode cX12_repeats 180 = .ok (.sipush 432, 3) := by decide +kernel
theorem dX12_repeats_183 : decode cX12_repeats 183 = .ok (.if_icmp .ne 10, 3) := by decide +kernel
theorem dX12_repeats_186 : decode cX12_repeats 186 = .ok (.aload_n 0, 1) := by decide +kernel
theorem dX12_repeats_187 : decode cX12_repeats 187 = .ok (.getfield 294, 3) := by decide +kernel
theorem dX12_repeats_190 : decode cX12_repeats 190 = .ok (.goto 4, 3) := by decide +kernel
theorem dX12_repeats_193 : decode cX12_repeats 193 = .ok (.iconst 0, 1) := by decide +kernel
theorem dX12_repeats_194 : decode cX12_repeats 194 = .ok (.iastore, 1) := by decide +kernel
theorem dX12_repeats_195 : decode cX12_repeats 195 = .ok (.aload_n 0, 1) := by decide +kernel
theorem dX12_repeats_196 : decode cX12_repeats 196 = .ok (.iconst 2, 1) := by decide +kernel
theorem dX12_repeats_197 : decode cX12_repeats 197 = .ok (.bipush 20, 2) := by decide +kernel
theorem dX12_repeats_199 : decode cX12_repeats 199 = .ok (.invokevirtual 393, 3) := by decide +kernel
theorem dX12_repeats_202 : decode cX12_repeats 202 = .ok (.goto 88, 3) := by decide +kernel
theorem dX12_repeats_205 : decode cX12_repeats 205 = .ok (.aload_n 0, 1) := by decide +kernel
theorem dX12_repeats_206 : decode cX12_repeats 206 = .ok (.aload_n 0, 1) := by decide +kernel
theorem dX12_repeats_207 : decode cX12_repeats 207 = .ok (.getfield 189, 3) := by decide +kernel
theorem dX12_repeats_210 : decode cX12_repeats 210 = .ok (.iload_n 1, 1) := by decide +kernel
theorem dX12_repeats_211 : decode cX12_repeats 211 = .ok (.iaload, 1) := by decide +kernel
theorem dX12_repeats_212 : decode cX12_repeats 212 = .ok (.invokevirtual 533, 3) := by decide +kernel
theorem dX12_repeats_215 : decode cX12_repeats 215 = .ok (.istore_n 3, 1) := by decide +kernel
theorem dX12_repeats_216 : decode cX12_repeats 216 = .ok (.aload_n 0, 1) := by decide +kernel
theorem dX12_repeats_217 : decode cX12_repeats 217 = .ok (.bipush 41, 2) := by decide +kernel
theorem dX12_repeats_219 : decode cX12_repeats 219 = .ok (.invokevirtual 468, 3) := by decide +kernel
theorem dX12_repeats_222 : decode cX12_repeats 222 = .ok (.pop, 1) := by decide +kernel
theorem dX12_repeats_223 : decode cX12_repeats 223 = .ok (.aload_n 0, 1) := by decide +kernel
theorem dX12_repeats_224 : decode cX12_repeats 224 = .ok (.bipush 59, 2) := by decide +kernel
theorem dX12_repeats_226 : decode cX12_repeats 226 = .ok (.invokevirtual 355, 3) := by decide +kernel
theorem dX12_repeats_229 : decode cX12_repeats 229 = .ok (.pop, 1) := by decide +kernel
theorem dX12_repeats_230 : decode cX12_repeats 230 = .ok (.aload_n 0, 1) := by decide +kernel
theorem dX12_repeats_231 : decode cX12_repeats 231 = .ok (.bipush 14, 2) := by decide +kernel
theorem dX12_repeats_233 : decode cX12_repeats 233 = .ok (.aload_n 0, 1) := by decide +kernel
theorem dX12_repeats_234 : decode cX12_repeats 234 = .ok (.getfield 180, 3) := by decide +kernel
theorem dX12_repeats_237 : decode cX12_repeats 237 = .ok (.iload_n 1, 1) := by decide +kernel
theorem dX12_repeats_238 : decode cX12_repeats 238 = .ok (.iaload, 1) := by decide +kernel
theorem dX12_repeats_239 : decode cX12_repeats 239 = .ok (.invokevirtual 464, 3) := by decide +kernel
theorem dX12_repeats_242 : decode cX12_repeats 242 = .ok (.pop, 1) := by decide +kernel
theorem dX12_repeats_243 : decode cX12_repeats 243 = .ok (.aload_n 0, 1) := by decide +kernel
theorem dX12_repeats_244 : decode cX12_repeats 244 = .ok (.aload_n 0, 1) := by decide +kernel
theorem dX12_repeats_245 : decode cX12_repeats 245 = .ok (.getfield 192, 3) := by decide +kernel
theorem dX12_repeats_248 : decode cX12_repeats 248 = .ok (.iload_n 1, 1) := by decide +kernel
theorem dX12_repeats_249 : decode cX12_repeats 249 = .ok (.iaload, 1) := by decide +kernel
theorem dX12_repeats_250 : decode cX12_repeats 250 = .ok (.aload_n 0, 1) := by decide +kernel
theorem dX12_repeats_251 : decode cX12_repeats 251 = .ok (.getfield 358, 3) := by decide +kernel
theorem dX12_repeats_254 : decode cX12_repeats 254 = .ok (.invokevirtual 510, 3) := by decide +kernel
theorem dX12_repeats_257 : decode cX12_repeats 257 = .ok (.aload_n 0, 1) := by decide +kernel
theorem dX12_repeats_258 : decode cX12_repeats 258 = .ok (.aload_n 0, 1) := by decide +kernel
theorem dX12_repeats_259 : decode cX12_repeats 259 = .ok (.getfield 183, 3) := by decide +kernel
theorem dX12_repeats_262 : decode cX12_repeats 262 = .ok (.iload_n 1, 1) := by decide +kernel
theorem dX12_repeats_263 : decode cX12_repeats 263 = .ok (.iaload, 1) := by decide +kernel
theorem dX12_repeats_264 : decode cX12_repeats 264 = .ok (.iconst 1, 1) := by decide +kernel
theorem dX12_repeats_265 : decode cX12_repeats 265 = .ok (.if_icmp .ne 7, 3) := by decide +kernel
theorem dX12_repeats_268 : decode cX12_repeats 268 = .ok (.iload_n 3, 1) := by decide +kernel
theorem dX12_repeats_269 : decode cX12_repeats 269 = .ok (.ifCond .eq 13, 3) := by decide +kernel
theorem dX12_repeats_272 : decode cX12_repeats 272 = .ok (.aload_n 0, 1) := by decide +kernel
theorem dX12_repeats_273 : decode cX12_repeats 273 = .ok (.getfield 198, 3) := by decide +kernel
theorem dX12_repeats_276 : decode cX12_repeats 276 = .ok (.iload_n 1, 1) := by decide +kernel
theorem dX12_repeats_277 : decode cX12_repeats 277 = .ok (.iaload, 1) := by decide +kernel
theorem dX12_repeats_278 : decode cX12_repeats 278 = .ok (.iconst 1, 1) := by decide +kernel
theorem dX12_repeats_279 : decode cX12_repeats 279 = .ok (.if_icmp .ne 7, 3) := by decide +kernel
theorem dX12_repeats_282 : decode cX12_repeats 282 = .ok (.iconst 1, 1) := by decide +kernel
theorem dX12_repeats_283 : decode cX12_repeats 283 = .ok (.goto 4, 3) := by decide +kernel
theorem dX12_repeats_286 : decode cX12_repeats 286 = .ok (.iconst 0, 1) := by decide +kernel
theorem dX12_repeats_287 : decode cX12_repeats 287 = .ok (.invokevirtual 490, 3) := by decide +kernel
theorem dX12_repeats_290 : decode cX12_repeats 290 = .ok (.return_, 1) := by decide +kernel
theorem dX12_fors_0 : decode cX12_fors 0 = .ok (.aload_n 0, 1) := by decide +kernel
theorem dX12_fors_1 : decode cX12_fors 1 = .ok (.getfield 177, 3) := by decide +kernel
theorem dX12_fors_4 : decode cX12_fors 4 = .ok (.iload_n 1, 1) := by decide +kernel
theorem dX12_fors_5 : decode cX12_fors 5 = .ok (.iaload, 1) := by decide +kernel
theorem dX12_fors_6 : decode cX12_fors 6 = .ok (.tableswitch 466 0 8 #[50, 79, 106, 128, 225, 259, 267, 290, 351], 50) := by decide +kernel
theorem dX12_fors_56 : decode cX12_fors 56 = .ok (.aload_n 0, 1) := by decide +kernel
theorem dX12_fors_57 : decode cX12_fors 57 = .ok (.getfield 195, 3) := by decide +kernel
theorem dX12_fors_60 : decode cX12_fors 60 = .ok (.iload_n 1, 1) := by decide +kernel
theorem dX12_fors_61 : decode cX12_fors 61 = .ok (.aload_n 0, 1) := by decide +kernel
theorem dX12_fors_62 : decode cX12_fors 62 = .ok (.getfield 361, 3) := by decide +kernel
theorem dX12_fors_65 : decode cX12_fors 65 = .ok (.iastore, 1) := by decide +kernel
theorem dX12_fors_66 : decode cX12_fors 66 = .ok (.aload_n 0, 1) := by decide +kernel
theorem dX12_fors_67 : decode cX12_fors 67 = .ok (.invokevirtual 345, 3) := by decide +kernel
theorem dX12_fors_70 : decode cX12_fors 70 = .ok (.aload_n 0, 1) := by decide +kernel
theorem dX12_fors_71 : decode cX12_fors 71 = .ok (.bipush 40, 2) := by decide +kernel
theorem dX12_fors_73 : decode cX12_fors 73 = .ok (.invokevirtual 475, 3) := by decide +kernel
theorem dX12_fors_76 : decode cX12_fors 76 = .ok (.pop, 1) := by decide +kernel
theorem dX12_fors_77 : decode cX12_fors 77 = .ok (.aload_n 0, 1) := by decide +kernel
theorem dX12_fors_78 : decode cX12_fors 78 = .ok (.iload_n 1, 1) := by decide +kernel
theorem dX12_fors_79 : decode cX12_fors 79 = .ok (.invokevirtual 540, 3) := by decide +kernel
theorem dX12_fors_82 : decode cX12_fors 82 = .ok (.goto 395, 3) := by decide +kernel
theorem dX12_fors_85 : decode cX12_fors 85 = .ok (.aload_n 0, 1) := by decide +kernel
theorem dX12_fors_86 : decode cX12_fors 86 = .ok (.iconst 5, 1) := by decide +kernel
theorem dX12_fors_87 : decode cX12_fors 87 = .ok (.aload_n 0, 1) := by decide +kernel
theorem dX12_fors_88 : decode cX12_fors 88 = .ok (.aload_n 0, 1) := by decide +kernel
theorem dX12_fors_89 : decode cX12_fors 89 = .ok (.getfield 204, 3) := by decide +kernel
theorem dX12_fors_92 : decode cX12_fors 92 = .ok (.iload_n 1, 1) := by decide +kernel
theorem dX12_fors_93 : decode cX12_fors 93 = .ok (.laload, 1) := by decide +kernel
theorem dX12_fors_94 : decode cX12_fors 94 = .ok (.iconst 0, 1) := by decide +kernel
theorem dX12_fors_95 : decode cX12_fors 95 = .ok (.invokevirtual 506, 3) := by decide +kernel
theorem dX12_fors_98 : decode cX12_fors 98 = .ok (.invokevirtual 464, 3) := by decide +kernel
theorem dX12_fors_101 : decode cX12_fors 101 = .ok (.pop, 1) := by decide +kernel
theorem dX12_fors_102 : decode cX12_fors 102 = .ok (.aload_n 0, 1) := by decide +kernel
theorem dX12_fors_103 : decode cX12_fors 103 = .ok (.getfield 177, 3) := by decide +kernel
theorem dX12_fors_106 : decode cX12_fors 106 = .ok (.iload_n 1, 1) := by decide +kernel
theorem dX12_fors_107 : decode cX12_fors 107 = .ok (.iconst 3, 1) := by decide +kernel
theorem dX12_fors_108 : decode cX12_fors 108 = .ok (.iastore, 1) := by decide +kernel
theorem dX12_fors_109 : decode cX12_fors 109 = .ok (.goto 368, 3) := by decide +kernel
theorem dX12_fors_112 : decode cX12_fors 112 = .ok (.aload_n 0, 1) := by decide +kernel
theorem dX12_fors_113 : decode cX12_fors 113 = .ok (.iconst 5, 1) := by decide +kernel
theorem dX12_fors_114 : decode cX12_fors 114 = .ok (.aload_n 0, 1) := by decide +kernel
theorem dX12_fors_115 : decode cX12_fors 115 = .ok (.getfield 180, 3) := by decide +kernel
theorem dX12_fors_118 : decode cX12_fors 118 = .ok (.iload_n 1, 1) := by decide +kernel
theorem dX12_fors_119 : decode cX12_fors 119 = .ok (.iaload, 1) := by decide +kernel
theorem dX12_fors_120 : decode cX12_fors 120 = .ok (.invokevirtual 464, 3) := by decide +kernel
theorem dX12_fors_123 : decode cX12_fors 123 = .ok (.pop, 1) := by decide +kernel
theorem dX12_fors_124 : decode cX12_fors 124 = .ok (.aload_n 0, 1) := by decide +kernel
theorem dX12_fors_125 : decode cX12_fors 125 = .ok (.getfield 177, 3) := by decide +kernel
theorem dX12_fors_128 : decode cX12_fors 128 = .ok (.iload_n 1, 1) := by decide +kernel
theorem dX12_fors_129 : decode cX12_fors 129 = .ok (.iconst 3, 1) := by decide +kernel
theorem dX12_fors_130 : decode cX12_fors 130 = .ok (.iastore, 1) := by decide +kernel
theorem dX12_fors_131 : decode cX12_fors 131 = .ok (.goto 346, 3) := by decide +kernel
theorem dX12_fors_134 : decode cX12_fors 134 = .ok (.aload_n 0, 1) := by decide +kernel
theorem dX12_fors_135 : decode cX12_fors 135 = .ok (.bipush 59, 2) := by decide +kernel
theorem dX12_fors_137 : decode cX12_fors 137 = .ok (.invokevirtual 355, 3) := by decide +kernel
theorem dX12_fors_140 : decode cX12_fors 140 = .ok (.pop, 1) := by decide +kernel
theorem dX12_fors_141 : decode cX12_fors 141 = .ok (.aload_n 0, 1) := by decide +kernel
theorem dX12_fors_142 : decode cX12_fors 142 = .ok (.getfield 180, 3) := by decide +kernel
theorem dX12_fors_145 : decode cX12_fors 145 = .ok (.iload_n 1, 1) := by decide +kernel
theorem dX12_fors_146 : decode cX12_fors 146 = .ok (.aload_n 0, 1) := by decide +kernel
theorem dX12_fors_147 : decode cX12_fors 147 = .ok (.getfield 358, 3) := by decide +kernel
theorem dX12_fors_150 : decode cX12_fors 150 = .ok (.iastore, 1) := by decide +kernel
theorem dX12_fors_151 : decode cX12_fors 151 = .ok (.aload_n 0, 1) := by decide +kernel
theorem dX12_fors_152 : decode cX12_fors 152 = .ok (.getfield 189, 3) := by decide +kernel
theorem dX12_fors_155 : decode cX12_fors 155 = .ok (.iload_n 1, 1) := by decide +kernel
theorem dX12_fors_156 : decode cX12_fors 156 = .ok (.aload_n 0, 1) := by decide +kernel
theorem dX12_fors_157 : decode cX12_fors 157 = .ok (.getfield 307, 3) := by decide +kernel
theorem dX12_fors_160 : decode cX12_fors 160 = .ok (.sipush 432, 3) := by decide +kernel
theorem dX12_fors_163 : decode cX12_fors 163 = .ok (.if_icmp .ne 10, 3) := by decide +kernel
theorem dX12_fors_166 : decode cX12_fors 166 = .ok (.aload_n 0, 1) := by decide +kernel
theorem dX12_fors_167 : decode cX12_fors 167 = .ok (.getfield 294, 3) := by decide +kernel
theorem dX12_fors_170 : decode cX12_fors 170 = .ok (.goto 4, 3) := by decide +kernel
theorem dX12_fors_173 : decode cX12_fors 173 = .ok (.iconst 0, 1) := by decide +kernel
theorem dX12_fors_174 : decode cX12_fors 174 = .ok (.iastore, 1) := by decide +kernel
theorem dX12_fors_175 : decode cX12_fors 175 = .ok (.aload_n 0, 1) := by decide +kernel
theorem dX12_fors_176 : decode cX12_fors 176 = .ok (.getfield 198, 3) := by decide +kernel
theorem dX12_fors_179 : decode cX12_fors 179 = .ok (.iload_n 1, 1) := by decide +kernel
theorem dX12_fors_180 : decode cX12_fors 180 = .ok (.aload_n 0, 1) := by decide +kernel
theorem dX12_fors_181 : decode cX12_fors 181 = .ok (.getfield 307, 3) := by decide +kernel
theorem dX12_fors_184 : decode cX12_fors 184 = .ok (.bipush 59, 2) := by decide +kernel
theorem dX12_fors_186 : decode cX12_fors 186 = .ok (.if_icmp .ne 7, 3) := by decide +kernel
theorem dX12_fors_189 : decode cX12_fors 189 = .ok (.iconst 1, 1) := by decide +kernel
theorem dX12_fors_190 : decode cX12_fors 190 = .ok (.goto 4, 3) := by decide +kernel
theorem dX12_fors_193 : decode cX12_fors 193 = .ok (.iconst 0, 1) := by decide +kernel
theorem dX12_fors_194 : decode cX12_fors 194 = .ok (.iastore, 1) := by decide +kernel
theorem dX12_fors_195 : decode cX12_fors 195 = .ok (.aload_n 0, 1) := by decide +kernel
theorem dX12_fors_196 : decode cX12_fors 196 = .ok (.getfield 307, 3) := by decide +kernel
theorem dX12_fors_199 : decode cX12_fors 199 = .ok (.bipush 59, 2) := by decide +kernel
theorem dX12_fors_201 : decode cX12_fors 201 = .ok (.if_icmp .ne 20, 3) := by decide +kernel
theorem dX12_fors_204 : decode cX12_fors 204 = .ok (.aload_n 0, 1) := by decide +kernel
theorem dX12_fors_205 : decode cX12_fors 205 = .ok (.iconst 2, 1) := by decide +kernel
theorem dX12_fors_206 : decode cX12_fors 206 = .ok (.iconst 1, 1) := by decide +kernel
theorem dX12_fors_207 : decode cX12_fors 207 = .ok (.invokevirtual 464, 3) := by decide +kernel
theorem dX12_fors_210 : decode cX12_fors 210 = .ok (.pop, 1) := by decide +kernel
theorem dX12_fors_211 : decode cX12_fors 211 = .ok (.aload_n 0, 1) := by decide +kernel
theorem dX12_fors_212 : decode cX12_fors 212 = .ok (.getfield 177, 3) := by decide +kernel
theorem dX12_fors_215 : decode cX12_fors 215 = .ok (.iload_n 1, 1) := by decide +kernel
theorem dX12_fors_216 : decode cX12_fors 216 = .ok (.iconst 5, 1) := by decide +kernel
theorem dX12_fors_217 : decode cX12_fors 217 = .ok (.iastore, 1) := by decide +kernel
theorem dX12_fors_218 : decode cX12_fors 218 = .ok (.goto 259, 3) := by decide +kernel
theorem dX12_fors_221 : decode cX12_fors 221 = .ok (.aload_n 0, 1) := by decide +kernel
theorem dX12_fors_222 : decode cX12_fors 222 = .ok (.iconst 4, 1) := by decide +kernel
theorem dX12_fors_223 : decode cX12_fors 223 = .ok (.bipush 20, 2) := by decide +kernel
theorem dX12_fors_225 : decode cX12_fors 225 = .ok (.invokevirtual 393, 3) := by decide +kernel
theorem dX12_fors_228 : decode cX12_fors 228 = .ok (.goto 249, 3) := by decide +kernel
theorem dX12_fors_231 : decode cX12_fors 231 = .ok (.aload_n 0, 1) := by decide +kernel
theorem dX12_fors_232 : decode cX12_fors 232 = .ok (.getfield 198, 3) := by decide +kernel
theorem dX12_fors_235 : decode cX12_fors 235 = .ok (.iload_n 1, 1) := by decide +kernel
theorem dX12_fors_236 : decode cX12_fors 236 = .ok (.aload_n 0, 1) := by decide +kernel
theorem dX12_fors_237 : decode cX12_fors 237 = .ok (.aload_n 0, 1) := by decide +kernel
theorem dX12_fors_238 : decode cX12_fors 238 = .ok (.getfield 189, 3) := by decide +kernel
theorem dX12_fors_241 : decode cX12_fors 241 = .ok (.iload_n 1, 1) := by decide +kernel
theorem dX12_fors_242 : decode cX12_fors 242 = .ok (.iaload, 1) := by decide +kernel
theorem dX12_fors_243 : decode cX12_fors 243 = .ok (.invokevirtual 533, 3) := by decide +kernel
theorem dX12_fors_246 : decode cX12_fors 246 = .ok (.ifCond .eq 7, 3) := by decide +kernel
theorem dX12_fors_249 : decode cX12_fors 249 = .ok (.iconst 1, 1) := by decide +kernel
theorem dX12_fors_250 : decode cX12_fors 250 = .ok (.goto 4, 3) := by decide +kernel
theorem dX12_fors_253 : decode cX12_fors 253 = .ok (.iconst 0, 1) := by decide +kernel
theorem dX12_fors_254 : decode cX12_fors 254 = .ok (.iastore, 1) := by decide +kernel
theorem dX12_fors_255 : decode cX12_fors 255 = .ok (.aload_n 0, 1) := by decide +kernel
theorem dX12_fors_256 : decode cX12_fors 256 = .ok (.getfield 177, 3) := by decide +kernel
theorem dX12_fors_259 : decode cX12_fors 259 = .ok (.iload_n 1, 1) := by decide +kernel
theorem dX12_fors_260 : decode cX12_fors 260 = .ok (.iconst 5, 1) := by decide +kernel
theorem dX12_fors_261 : decode cX12_fors 261 = .ok (.iastore, 1) := by decide +kernel
theorem dX12_fors_262 : decode cX12_fors 262 = .ok (.goto 215, 3) := by decide +kernel
theorem dX12_fors_265 : decode cX12_fors 265 = .ok (.aload_n 0, 1) := by decide +kernel
theorem dX12_fors_266 : decode cX12_fors 266 = .ok (.iload_n 1, 1) := by decide +kernel
theorem dX12_fors_267 : decode cX12_fors 267 = .ok (.invokevirtual 543, 3) := by decide +kernel
theorem dX12_fors_270 : decode cX12_fors 270 = .ok (.goto 207, 3) := by decide +kernel
theorem dX12_fors_273 : decode cX12_fors 273 = .ok (.aload_n 0, 1) := by decide +kernel
theorem dX12_fors_274 : decode cX12_fors 274 = .ok (.iconst 5, 1) := by decide +kernel
theorem dX12_fors_275 : decode cX12_fors 275 = .ok (.aload_n 0, 1) := by decide +kernel
theorem dX12_fors_276 : decode cX12_fors 276 = .ok (.getfield 201, 3) := by decide +kernel
theorem dX12_fors_279 : decode cX12_fors 279 = .ok (.iload_n 1, 1) := by decide +kernel
theorem dX12_fors_280 : decode cX12_fors 280 = .ok (.iaload, 1) := by decide +kernel
theorem dX12_fors_281 : decode cX12_fors 281 = .ok (.invokevirtual 464, 3) := by decide +kernel
theorem dX12_fors_284 : decode cX12_fors 284 = .ok (.pop, 1) := by decide +kernel
theorem dX12_fors_285 : decode cX12_fors 285 = .ok (.aload_n 0, 1) := by decide +kernel
theorem dX12_fors_286 : decode cX12_fors 286 = .ok (.getfield 177, 3) := by decide +kernel
theorem dX12_fors_289 : decode cX12_fors 289 = .ok (.iload_n 1, 1) := by decide +kernel
theorem dX12_fors_290 : decode cX12_fors 290 = .ok (.bipush 7, 2) := by decide +kernel
theorem dX12_fors_292 : decode cX12_fors 292 = .ok (.iastore, 1) := by decide +kernel
theorem dX12_fors_293 : decode cX12_fors 293 = .ok (.goto 184, 3) := by decide +kernel
theorem dX12_fors_296 : decode cX12_fors 296 = .ok (.aload_n 0, 1) := by decide +kernel
theorem dX12_fors_297 : decode cX12_fors 297 = .ok (.bipush 15, 2) := by decide +kernel
theorem dX12_fors_299 : decode cX12_fors 299 = .ok (.aload_n 0, 1) := by decide +kernel
theorem dX12_fors_300 : decode cX12_fors 300 = .ok (.getfield 180, 3) := by decide +kernel
theorem dX12_fors_303 : decode cX12_fors 303 = .ok (.iload_n 1, 1) := by decide +kernel
theorem dX12_fors_304 : decode cX12_fors 304 = .ok (.iaload, 1) := by decide +kernel
theorem dX12_fors_305 : decode cX12_fors 305 = .ok (.invokevirtual 464, 3) := by decide +kernel
theorem dX12_fors_308 : decode cX12_fors 308 = .ok (.pop, 1) := by decide +kernel
theorem dX12_fors_309 : decode cX12_fors 309 = .ok (.aload_n 0, 1) := by decide +kernel
theorem dX12_fors_310 : decode cX12_fors 310 = .ok (.bipush 41, 2) := by decide +kernel
theorem dX12_fors_312 : decode cX12_fors 312 = .ok (.invokevirtual 468, 3) := by decide +kernel
theorem dX12_fors_315 : decode cX12_fors 315 = .ok (.pop, 1) := by decide +kernel
theorem dX12_fors_316 : decode cX12_fors 316 = .ok (.aload_n 0, 1) := by decide +kernel
theorem dX12_fors_317 : decode cX12_fors 317 = .ok (.getfield 87, 3) := by decide +kernel
theorem dX12_fors_320 : decode cX12_fors 320 = .ok (.aload_n 0, 1) := by decide +kernel
theorem dX12_fors_321 : decode cX12_fors 321 = .ok (.getfield 186, 3) := by decide +kernel
theorem dX12_fors_324 : decode cX12_fors 324 = .ok (.iload_n 1, 1) := by decide +kernel
theorem dX12_fors_325 : decode cX12_fors 325 = .ok (.iaload, 1) := by decide +kernel
theorem dX12_fors_326 : decode cX12_fors 326 = .ok (.aload_n 0, 1) := by decide +kernel
theorem dX12_fors_327 : decode cX12_fors 327 = .ok (.getfield 358, 3) := by decide +kernel
theorem dX12_fors_330 : decode cX12_fors 330 = .ok (.iastore, 1) := by decide +kernel
theorem dX12_fors_331 : decode cX12_fors 331 = .ok (.aload_n 0, 1) := by decide +kernel
theorem dX12_fors_332 : decode cX12_fors 332 = .ok (.iconst 1, 1) := by decide +kernel
theorem dX12_fors_333 : decode cX12_fors 333 = .ok (.iconst 0, 1) := by decide +kernel
theorem dX12_fors_334 : decode cX12_fors 334 = .ok (.invokevirtual 464, 3) := by decide +kernel
theorem dX12_fors_337 : decode cX12_fors 337 = .ok (.pop, 1) := by decide +kernel
theorem dX12_fors_338 : decode cX12_fors 338 = .ok (.aload_n 0, 1) := by decide +kernel
theorem dX12_fors_339 : decode cX12_fors 339 = .ok (.getfield 201, 3) := by decide +kernel
theorem dX12_fors_342 : decode cX12_fors 342 = .ok (.iload_n 1, 1) := by decide +kernel
theorem dX12_fors_343 : decode cX12_fors 343 = .ok (.aload_n 0, 1) := by decide +kernel
theorem dX12_fors_344 : decode cX12_fors 344 = .ok (.invokevirtual 536, 3) := by decide +kernel
theorem dX12_fors_347 : decode cX12_fors 347 = .ok (.iastore, 1) := by decide +kernel
theorem dX12_fors_348 : decode cX12_fors 348 = .ok (.aload_n 0, 1) := by decide +kernel
theorem dX12_fors_349 : decode cX12_fors 349 = .ok (.bipush 8, 2) := by decide +kernel
theorem dX12_fors_351 : decode cX12_fors 351 = .ok (.invokevirtual 521, 3) := by decide +kernel
theorem dX12_fors_354 : decode cX12_fors 354 = .ok (.goto 123, 3) := by decide +kernel
theorem dX12_fors_357 : decode cX12_fors 357 = .ok (.aload_n 0, 1) := by decide +kernel
theorem dX12_fors_358 : decode cX12_fors 358 = .ok (.getfield 201, 3) := by decide +kernel
theorem dX12_fors_361 : decode cX12_fors 361 = .ok (.iload_n 1, 1) := by decide +kernel
theorem dX12_fors_362 : decode cX12_fors 362 = .ok (.iaload, 1) := by decide +kernel
theorem dX12_fors_363 : decode cX12_fors 363 = .ok (.istore_n 2, 1) := by decide +kernel
theorem dX12_fors_364 : decode cX12_fors 364 = .ok (.aload_n 0, 1) := by decide +kernel
theorem dX12_fors_365 : decode cX12_fors 365 = .ok (.aload_n 0, 1) := by decide +kernel
theorem dX12_fors_366 : decode cX12_fors 366 = .ok (.getfield 150, 3) := by decide +kernel
theorem dX12_fors_369 : decode cX12_fors 369 = .ok (.iload_n 2, 1) := by decide +kernel
theorem dX12_fors_370 : decode cX12_fors 370 = .ok (.iaload, 1) := by decide +kernel
theorem dX12_fors_371 : decode cX12_fors 371 = .ok (.aload_n 0, 1) := by decide +kernel
theorem dX12_fors_372 : decode cX12_fors 372 = .ok (.getfield 192, 3) := by decide +kernel
theorem dX12_fors_375 : decode cX12_fors 375 = .ok (.iload_n 1, 1) := by decide +kernel
theorem dX12_fors_376 : decode cX12_fors 376 = .ok (.iaload, 1) := by decide +kernel
theorem dX12_fors_377 : decode cX12_fors 377 = .ok (.invokevirtual 510, 3) := by decide +kernel
theorem dX12_fors_380 : decode cX12_fors 380 = .ok (.aload_n 0, 1) := by decide +kernel
theorem dX12_fors_381 : decode cX12_fors 381 = .ok (.bipush 15, 2) := by decide +kernel
theorem dX12_fors_383 : decode cX12_fors 383 = .ok (.aload_n 0, 1) := by decide +kernel
theorem dX12_fors_384 : decode cX12_fors 384 = .ok (.getfield 192, 3) := by decide +kernel
theorem dX12_fors_387 : decode cX12_fors 387 = .ok (.iload_n 1, 1) := by decide +kernel
theorem dX12_fors_388 : decode cX12_fors 388 = .ok (.iaload, 1) := by decide +kernel
theorem dX12_fors_389 : decode cX12_fors 389 = .ok (.invokevirtual 464, 3) := by decide +kernel
theorem dX12_fors_392 : decode cX12_fors 392 = .ok (.pop, 1) := by decide +kernel
theorem dX12_fors_393 : decode cX12_fors 393 = .ok (.aload_n 0, 1) := by decide +kernel
theorem dX12_fors_394 : decode cX12_fors 394 = .ok (.getfield 87, 3) := by decide +kernel
theorem dX12_fors_397 : decode cX12_fors 397 = .ok (.aload_n 0, 1) := by decide +kernel
theorem dX12_fors_398 : decode cX12_fors 398 = .ok (.getfield 183, 3) := by decide +kernel
theorem dX12_fors_401 : decode cX12_fors 401 = .ok (.iload_n 1, 1) := by decide +kernel
theorem dX12_fors_402 : decode cX12_fors 402 = .ok (.iaload, 1) := by decide +kernel
theorem dX12_fors_403 : decode cX12_fors 403 = .ok (.aload_n 0, 1) := by decide +kernel
theorem dX12_fors_404 : decode cX12_fors 404 = .ok (.getfield 358, 3) := by decide +kernel
theorem dX12_fors_407 : decode cX12_fors 407 = .ok (.iastore, 1) := by decide +kernel
theorem dX12_fors_408 : decode cX12_fors 408 = .ok (.aload_n 0, 1) := by decide +kernel
theorem dX12_fors_409 : decode cX12_fors 409 = .ok (.aload_n 0, 1) := by decide +kernel
theorem dX12_fors_410 : decode cX12_fors 410 = .ok (.getfield 147, 3) := by decide +kernel
theorem dX12_fors_413 : decode cX12_fors 413 = .ok (.iload_n 2, 1) := by decide +kernel
theorem dX12_fors_414 : decode cX12_fors 414 = .ok (.iaload, 1) := by decide +kernel
theorem dX12_fors_415 : decode cX12_fors 415 = .ok (.aload_n 0, 1) := by decide +kernel
theorem dX12_fors_416 : decode cX12_fors 416 = .ok (.getfield 358, 3) := by decide +kernel
theorem dX12_fors_419 : decode cX12_fors 419 = .ok (.invokevirtual 510, 3) := by decide +kernel
theorem dX12_fors_422 : decode cX12_fors 422 = .ok (.aload_n 0, 1) := by decide +kernel
theorem dX12_fors_423 : decode cX12_fors 423 = .ok (.dup, 1) := by decide +kernel
theorem dX12_fors_424 : decode cX12_fors 424 = .ok (.getfield 367, 3) := by decide +kernel
theorem dX12_fors_427 : decode cX12_fors 427 = .ok (.iconst 1, 1) := by decide +kernel
theorem dX12_fors_428 : decode cX12_fors 428 = .ok (.isub, 1) := by decide +kernel
theorem dX12_fors_429 : decode cX12_fors 429 = .ok (.putfield 367, 3) := by decide +kernel
theorem dX12_fors_432 : decode cX12_fors 432 = .ok (.aload_n 0, 1) := by decide +kernel
theorem dX12_fors_433 : decode cX12_fors 433 = .ok (.aload_n 0, 1) := by decide +kernel
theorem dX12_fors_434 : decode cX12_fors 434 = .ok (.getfield 195, 3) := by decide +kernel
theorem dX12_fors_437 : decode cX12_fors 437 = .ok (.iload_n 1, 1) := by decide +kernel
theorem dX12_fors_438 : decode cX12_fors 438 = .ok (.iaload, 1) := by decide +kernel
theorem dX12_fors_439 : decode cX12_fors 439 = .ok (.putfield 361, 3) := by decide +kernel
theorem dX12_fors_442 : decode cX12_fors 442 = .ok (.aload_n 0, 1) := by decide +kernel
theorem dX12_fors_443 : decode cX12_fors 443 = .ok (.aload_n 0, 1) := by decide +kernel
theorem dX12_fors_444 : decode cX12_fors 444 = .ok (.getfield 198, 3) := by decide +kernel
theorem dX12_fors_447 : decode cX12_fors 447 = .ok (.iload_n 1, 1) := by decide +kernel
theorem dX12_fors_448 : decode cX12_fors 448 = .ok (.iaload, 1) := by decide +kernel
theorem dX12_fors_449 : decode cX12_fors 449 = .ok (.ifCond .eq 12, 3) := by decide +kernel
theorem dX12_fors_452 : decode cX12_fors 452 = .ok (.aload_n 0, 1) := by decide +kernel
theorem dX12_fors_453 : decode cX12_fors 453 = .ok (.getfield 153, 3) := by decide +kernel
theorem dX12_fors_456 : decode cX12_fors 456 = .ok (.iload_n 2, 1) := by decide +kernel
theorem dX12_fors_457 : decode cX12_fors 457 = .ok (.baload, 1) := by decide +kernel
theorem dX12_fors_458 : decode cX12_fors 458 = .ok (.ifCond .eq 7, 3) := by decide +kernel
theorem dX12_fors_461 : decode cX12_fors 461 = .ok (.iconst 1, 1) := by decide +kernel
theorem dX12_fors_462 : decode cX12_fors 462 = .ok (.goto 4, 3) := by decide +kernel
theorem dX12_fors_465 : decode cX12_fors 465 = .ok (.iconst 0, 1) := by decide +kernel
theorem dX12_fors_466 : decode cX12_fors 466 = .ok (.invokevirtual 490, 3) := by decide +kernel
theorem dX12_fors_469 : decode cX12_fors 469 = .ok (.goto 8, 3) := by decide +kernel
theorem dX12_fors_472 : decode cX12_fors 472 = .ok (.aload_n 0, 1) := by decide +kernel
theorem dX12_fors_473 : decode cX12_fors 473 = .ok (.iload_n 1, 1) := by decide +kernel
theorem dX12_fors_474 : decode cX12_fors 474 = .ok (.invokevirtual 546, 3) := by decide +kernel
theorem dX12_fors_477 : decode cX12_fors 477 = .ok (.return_, 1) := by decide +kernel
theorem dX12_forHead_0 : decode cX12_forHead 0 = .ok (.aload_n 0, 1) := by decide +kernel
theorem dX12_forHead_1 : decode cX12_forHead 1 = .ok (.getfield 291, 3) := by decide +kernel
theorem dX12_forHead_4 : decode cX12_forHead 4 = .ok (.ifCond .eq 4, 3) := by decide +kernel
theorem dX12_forHead_7 : decode cX12_forHead 7 = .ok (.return_, 1) := by decide +kernel
theorem dX12_forHead_8 : decode cX12_forHead 8 = .ok (.aload_n 0, 1) := by decide +kernel
theorem dX12_forHead_9 : decode cX12_forHead 9 = .ok (.getfield 307, 3) := by decide +kernel
theorem dX12_forHead_12 : decode cX12_forHead 12 = .ok (.sipush 410, 3) := by decide +kernel
theorem dX12_forHead_15 : decode cX12_forHead 15 = .ok (.if_icmp .ne 130, 3) := by decide +kernel
theorem dX12_forHead_18 : decode cX12_forHead 18 = .ok (.aload_n 0, 1) := by decide +kernel
theorem dX12_forHead_19 : decode cX12_forHead 19 = .ok (.invokevirtual 345, 3) := by decide +kernel
theorem dX12_forHead_22 : decode cX12_forHead 22 = .ok (.aload_n 0, 1) := by decide +kernel
theorem dX12_forHead_23 : decode cX12_forHead 23 = .ok (.iload_n 1, 1) := by decide +kernel
theorem dX12_forHead_24 : decode cX12_forHead 24 = .ok (.invokevirtual 503, 3) := by decide +kernel
theorem dX12_forHead_27 : decode cX12_forHead 27 = .ok (.ifCond .eq 33, 3) := by decide +kernel
theorem dX12_forHead_30 : decode cX12_forHead 30 = .ok (.aload_n 0, 1) := by decide +kernel
theorem dX12_forHead_31 : decode cX12_forHead 31 = .ok (.aload_n 0, 1) := by decide +kernel
theorem dX12_forHead_32 : decode cX12_forHead 32 = .ok (.getfield 307, 3) := by decide +kernel
theorem dX12_forHead_35 : decode cX12_forHead 35 = .ok (.bipush 61, 2) := by decide +kernel
theorem dX12_forHead_37 : decode cX12_forHead 37 = .ok (.if_icmp .eq 12, 3) := by decide +kernel
theorem dX12_forHead_40 : decode cX12_forHead 40 = .ok (.aload_n 0, 1) := by decide +kernel
theorem dX12_forHead_41 : decode cX12_forHead 41 = .ok (.getfield 307, 3) := by decide +kernel
theorem dX12_forHead_44 : decode cX12_forHead 44 = .ok (.bipush 58, 2) := by decide +kernel
theorem dX12_forHead_46 : decode cX12_forHead 46 = .ok (.if_icmp .ne 7, 3) := by decide +kernel
theorem dX12_forHead_49 : decode cX12_forHead 49 = .ok (.iconst 1, 1) := by decide +kernel
theorem dX12_forHead_50 : decode cX12_forHead 50 = .ok (.goto 4, 3) := by decide +kernel
theorem dX12_forHead_53 : decode cX12_forHead 53 = .ok (.iconst 0, 1) := by decide +kernel
theorem dX12_forHead_54 : decode cX12_forHead 54 = .ok (.invokevirtual 341, 3) := by decide +kernel
theorem dX12_forHead_57 : decode cX12_forHead 57 = .ok (.ifCond .ne 4, 3) := by decide +kernel
theorem dX12_forHead_60 : decode cX12_forHead 60 = .ok (.return_, 1) := by decide +kernel
theorem dX12_forHead_61 : decode cX12_forHead 61 = .ok (.aload_n 0, 1) := by decide +kernel
theorem dX12_forHead_62 : decode cX12_forHead 62 = .ok (.getfield 307, 3) := by decide +kernel
theorem dX12_forHead_65 : decode cX12_forHead 65 = .ok (.bipush 58, 2) := by decide +kernel
theorem dX12_forHead_67 : decode cX12_forHead 67 = .ok (.if_icmp .ne 7, 3) := by decide +kernel
theorem dX12_forHead_70 : decode cX12_forHead 70 = .ok (.iconst 1, 1) := by decide +kernel
theorem dX12_forHead_71 : decode cX12_forHead 71 = .ok (.goto 4, 3) := by decide +kernel
theorem dX12_forHead_74 : decode cX12_forHead 74 = .ok (.iconst 0, 1) := by decide +kernel
theorem dX12_forHead_75 : decode cX12_forHead 75 = .ok (.istore_n 2, 1) := by decide +kernel
theorem dX12_forHead_76 : decode cX12_forHead 76 = .ok (.aload_n 0, 1) := by decide +kernel
theorem dX12_forHead_77 : decode cX12_forHead 77 = .ok (.invokevirtual 345, 3) := by decide +kernel
theorem dX12_forHead_80 : decode cX12_forHead 80 = .ok (.iload_n 2, 1) := by decide +kernel
theorem dX12_forHead_81 : decode cX12_forHead 81 = .ok (.ifCond .ne 13, 3) := by decide +kernel
theorem dX12_forHead_84 : decode cX12_forHead 84 = .ok (.aload_n 0, 1) := by decide +kernel
theorem dX12_forHead_85 : decode cX12_forHead 85 = .ok (.iconst 1, 1) := by decide +kernel
theorem dX12_forHead_86 : decode cX12_forHead 86 = .ok (.bipush 16, 2) := by decide +kernel
theorem dX12_forHead_88 : decode cX12_forHead 88 = .ok (.invokevirtual 393, 3) := by decide +kernel
theorem dX12_forHead_91 : decode cX12_forHead 91 = .ok (.goto 51, 3) := by decide +kernel
theorem dX12_forHead_94 : decode cX12_forHead 94 = .ok (.aload_n 0, 1) := by decide +kernel
theorem dX12_forHead_95 : decode cX12_forHead 95 = .ok (.getfield 307, 3) := by decide +kernel
theorem dX12_forHead_98 : decode cX12_forHead 98 = .ok (.sipush 434, 3) := by decide +kernel
theorem dX12_forHead_101 : decode cX12_forHead 101 = .ok (.if_icmp .ne 26, 3) := by decide +kernel
theorem dX12_forHead_104 : decode cX12_forHead 104 = .ok (.aload_n 0, 1) := by decide +kernel
theorem dX12_forHead_105 : decode cX12_forHead 105 = .ok (.invokevirtual 345, 3) := by decide +kernel
theorem dX12_forHead_108 : decode cX12_forHead 108 = .ok (.aload_n 0, 1) := by decide +kernel
theorem dX12_forHead_109 : decode cX12_forHead 109 = .ok (.bipush 20, 2) := by decide +kernel
theorem dX12_forHead_111 : decode cX12_forHead 111 = .ok (.iconst 1, 1) := by decide +kernel
theorem dX12_forHead_112 : decode cX12_forHead 112 = .ok (.invokevirtual 464, 3) := by decide +kernel
theorem dX12_forHead_115 : decode cX12_forHead 115 = .ok (.pop, 1) := by decide +kernel
theorem dX12_forHead_116 : decode cX12_forHead 116 = .ok (.aload_n 0, 1) := by decide +kernel
theorem dX12_forHead_117 : decode cX12_forHead 117 = .ok (.getfield 177, 3) := by decide +kernel
theorem dX12_forHead_120 : decode cX12_forHead 120 = .ok (.iload_n 1, 1) := by decide +kernel
theorem dX12_forHead_121 : decode cX12_forHead 121 = .ok (.bipush 12, 2) := by decide +kernel
theorem dX12_forHead_123 : decode cX12_forHead 123 = .ok (.iastore, 1) := by decide +kernel
theorem dX12_forHead_124 : decode cX12_forHead 124 = .ok (.goto 18, 3) := by decide +kernel
theorem dX12_forHead_127 : decode cX12_forHead 127 = .ok (.aload_n 0, 1) := by decide +kernel
theorem dX12_forHead_128 : decode cX12_forHead 128 = .ok (.getfield 186, 3) := by decide +kernel
theorem dX12_forHead_131 : decode cX12_forHead 131 = .ok (.iload_n 1, 1) := by decide +kernel
theorem dX12_forHead_132 : decode cX12_forHead 132 = .ok (.iconst 0, 1) := by decide +kernel
theorem dX12_forHead_133 : decode cX12_forHead 133 = .ok (.iastore, 1) := by decide +kernel
theorem dX12_forHead_134 : decode cX12_forHead 134 = .ok (.aload_n 0, 1) := by decide +kernel
theorem dX12_forHead_135 : decode cX12_forHead 135 = .ok (.bipush 10, 2) := by decide +kernel
theorem dX12_forHead_137 : decode cX12_forHead 137 = .ok (.bipush 16, 2) := by decide +kernel
theorem dX12_forHead_139 : decode cX12_forHead 139 = .ok (.invokevirtual 393, 3) := by decide +kernel
theorem dX12_forHead_142 : decode cX12_forHead 142 = .ok (.goto 96, 3) := by decide +kernel
theorem dX12_forHead_145 : decode cX12_forHead 145 = .ok (.aload_n 0, 1) := by decide +kernel
theorem dX12_forHead_146 : decode cX12_forHead 146 = .ok (.getfield 307, 3) := by decide +kernel
theorem dX12_forHead_149 : decode cX12_forHead 149 = .ok (.iconst 2, 1) := by decide +kernel
theorem dX12_forHead_150 : decode cX12_forHead 150 = .ok (.if_icmp .ne 60, 3) := by decide +kernel
theorem dX12_forHead_153 : decode cX12_forHead 153 = .ok (.aload_n 0, 1) := by decide +kernel
theorem dX12_forHead_154 : decode cX12_forHead 154 = .ok (.getfield 180, 3) := by decide +kernel
theorem dX12_forHead_157 : decode cX12_forHead 157 = .ok (.iload_n 1, 1) := by decide +kernel
theorem dX12_forHead_158 : decode cX12_forHead 158 = .ok (.aload_n 0, 1) := by decide +kernel
theorem dX12_forHead_159 : decode cX12_forHead 159 = .ok (.aload_n 0, 1) := by decide +kernel
theorem dX12_forHead_160 : decode cX12_forHead 160 = .ok (.getfield 327, 3) := by decide +kernel
theorem dX12_forHead_163 : decode cX12_forHead 163 = .ok (.aload_n 0, 1) := by decide +kernel
theorem dX12_forHead_164 : decode cX12_forHead 164 = .ok (.getfield 304, 3) := by decide +kernel
theorem dX12_forHead_167 : decode cX12_forHead 167 = .ok (.invokevirtual 517, 3) := by decide +kernel
theorem dX12_forHead_170 : decode cX12_forHead 170 = .ok (.iastore, 1) := by decide +kernel
theorem dX12_forHead_171 : decode cX12_forHead 171 = .ok (.aload_n 0, 1) := by decide +kernel
theorem dX12_forHead_172 : decode cX12_forHead 172 = .ok (.invokevirtual 345, 3) := by decide +kernel
theorem dX12_forHead_175 : decode cX12_forHead 175 = .ok (.aload_n 0, 1) := by decide +kernel
theorem dX12_forHead_176 : decode cX12_forHead 176 = .ok (.aload_n 0, 1) := by decide +kernel
theorem dX12_forHead_177 : decode cX12_forHead 177 = .ok (.getfield 307, 3) := by decide +kernel
theorem dX12_forHead_180 : decode cX12_forHead 180 = .ok (.bipush 61, 2) := by decide +kernel
theorem dX12_forHead_182 : decode cX12_forHead 182 = .ok (.if_icmp .ne 7, 3) := by decide +kernel
theorem dX12_forHead_185 : decode cX12_forHead 185 = .ok (.iconst 1, 1) := by decide +kernel
