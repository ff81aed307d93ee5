theorem dX12_readName_83 : decode cX12_readName 83 = .ok (.aload_n 0, 1) := by decide +kernel
theorem dX12_readName_84 : decode cX12_readName 84 = .ok (.bipush 6, 2) := by decide +kernel
theorem dX12_readName_86 : decode cX12_readName 86 = .ok (.putfield 307, 3) := by decide +kernel
theorem dX12_readName_89 : decode cX12_readName 89 = .ok (.return_, 1) := by decide +kernel
theorem dX12_readName_90 : decode cX12_readName 90 = .ok (.aload_n 0, 1) := by decide +kernel
theorem dX12_readName_91 : decode cX12_readName 91 = .ok (.aload_n 0, 1) := by decide +kernel
theorem dX12_readName_92 : decode cX12_readName 92 = .ok (.getfield 304, 3) := by decide +kernel
theorem dX12_readName_95 : decode cX12_readName 95 = .ok (.invokevirtual 300, 3) := by decide +kernel
theorem dX12_readName_98 : decode cX12_readName 98 = .ok (.istore_n 2, 1) := by decide +kernel
theorem dX12_readName_99 : decode cX12_readName 99 = .ok (.aload_n 0, 1) := by decide +kernel
theorem dX12_readName_100 : decode cX12_readName 100 = .ok (.aload_n 0, 1) := by decide +kernel
theorem dX12_readName_101 : decode cX12_readName 101 = .ok (.getfield 304, 3) := by decide +kernel
theorem dX12_readName_104 : decode cX12_readName 104 = .ok (.iconst 1, 1) := by decide +kernel
theorem dX12_readName_105 : decode cX12_readName 105 = .ok (.iadd, 1) := by decide +kernel
theorem dX12_readName_106 : decode cX12_readName 106 = .ok (.invokevirtual 300, 3) := by decide +kernel
theorem dX12_readName_109 : decode cX12_readName 109 = .ok (.bipush 48, 2) := by decide +kernel
theorem dX12_readName_111 : decode cX12_readName 111 = .ok (.isub, 1) := by decide +kernel
theorem dX12_readName_112 : decode cX12_readName 112 = .ok (.istore_n 3, 1) := by decide +kernel
theorem dX12_readName_113 : decode cX12_readName 113 = .ok (.aload_n 0, 1) := by decide +kernel
theorem dX12_readName_114 : decode cX12_readName 114 = .ok (.iconst 2, 1) := by decide +kernel
theorem dX12_readName_115 : decode cX12_readName 115 = .ok (.putfield 307, 3) := by decide +kernel
theorem dX12_readName_118 : decode cX12_readName 118 = .ok (.iload_n 1, 1) := by decide +kernel
theorem dX12_readName_119 : decode cX12_readName 119 = .ok (.iconst 2, 1) := by decide +kernel
theorem dX12_readName_120 : decode cX12_readName 120 = .ok (.if_icmp .ne 48, 3) := by decide +kernel
theorem dX12_readName_123 : decode cX12_readName 123 = .ok (.iload_n 2, 1) := by decide +kernel
theorem dX12_readName_124 : decode cX12_readName 124 = .ok (.bipush 109, 2) := by decide +kernel
theorem dX12_readName_126 : decode cX12_readName 126 = .ok (.if_icmp .eq 9, 3) := by decide +kernel
theorem dX12_readName_129 : decode cX12_readName 129 = .ok (.iload_n 2, 1) := by decide +kernel
theorem dX12_readName_130 : decode cX12_readName 130 = .ok (.bipush 114, 2) := by decide +kernel
theorem dX12_readName_132 : decode cX12_readName 132 = .ok (.if_icmp .ne 36, 3) := by decide +kernel
theorem dX12_readName_135 : decode cX12_readName 135 = .ok (.iload_n 3, 1) := by decide +kernel
theorem dX12_readName_136 : decode cX12_readName 136 = .ok (.iconst 0, 1) := by decide +kernel
theorem dX12_readName_137 : decode cX12_readName 137 = .ok (.bipush 7, 2) := by decide +kernel
theorem dX12_readName_139 : decode cX12_readName 139 = .ok (.invokestatic 279, 3) := by decide +kernel
theorem dX12_readName_142 : decode cX12_readName 142 = .ok (.ifCond .eq 26, 3) := by decide +kernel
theorem dX12_readName_145 : decode cX12_readName 145 = .ok (.aload_n 0, 1) := by decide +kernel
theorem dX12_readName_146 : decode cX12_readName 146 = .ok (.iload_n 2, 1) := by decide +kernel
theorem dX12_readName_147 : decode cX12_readName 147 = .ok (.bipush 109, 2) := by decide +kernel
theorem dX12_readName_149 : decode cX12_readName 149 = .ok (.if_icmp .ne 7, 3) := by decide +kernel
theorem dX12_readName_152 : decode cX12_readName 152 = .ok (.iconst 3, 1) := by decide +kernel
theorem dX12_readName_153 : decode cX12_readName 153 = .ok (.goto 4, 3) := by decide +kernel
theorem dX12_readName_156 : decode cX12_readName 156 = .ok (.iconst 4, 1) := by decide +kernel
theorem dX12_readName_157 : decode cX12_readName 157 = .ok (.putfield 307, 3) := by decide +kernel
theorem dX12_readName_160 : decode cX12_readName 160 = .ok (.aload_n 0, 1) := by decide +kernel
theorem dX12_readName_161 : decode cX12_readName 161 = .ok (.iload_n 3, 1) := by decide +kernel
theorem dX12_readName_162 : decode cX12_readName 162 = .ok (.putfield 314, 3) := by decide +kernel
theorem dX12_readName_165 : decode cX12_readName 165 = .ok (.goto 140, 3) := by decide +kernel
theorem dX12_readName_168 : decode cX12_readName 168 = .ok (.iload_n 2, 1) := by decide +kernel
theorem dX12_readName_169 : decode cX12_readName 169 = .ok (.bipush 101, 2) := by decide +kernel
theorem dX12_readName_171 : decode cX12_readName 171 = .ok (.if_icmp .ne 86, 3) := by decide +kernel
theorem dX12_readName_174 : decode cX12_readName 174 = .ok (.iload_n 1, 1) := by decide +kernel
theorem dX12_readName_175 : decode cX12_readName 175 = .ok (.iconst 2, 1) := by decide +kernel
theorem dX12_readName_176 : decode cX12_readName 176 = .ok (.if_icmp .ne 13, 3) := by decide +kernel
theorem dX12_readName_179 : decode cX12_readName 179 = .ok (.iload_n 3, 1) := by decide +kernel
theorem dX12_readName_180 : decode cX12_readName 180 = .ok (.iconst 0, 1) := by decide +kernel
theorem dX12_readName_181 : decode cX12_readName 181 = .ok (.bipush 9, 2) := by decide +kernel
theorem dX12_readName_183 : decode cX12_readName 183 = .ok (.invokestatic 279, 3) := by decide +kernel
theorem dX12_readName_186 : decode cX12_readName 186 = .ok (.ifCond .ne 34, 3) := by decide +kernel
theorem dX12_readName_189 : decode cX12_readName 189 = .ok (.iload_n 1, 1) := by decide +kernel
theorem dX12_readName_190 : decode cX12_readName 190 = .ok (.iconst 3, 1) := by decide +kernel
theorem dX12_readName_191 : decode cX12_readName 191 = .ok (.if_icmp .ne 66, 3) := by decide +kernel
theorem dX12_readName_194 : decode cX12_readName 194 = .ok (.iload_n 3, 1) := by decide +kernel
theorem dX12_readName_195 : decode cX12_readName 195 = .ok (.iconst 1, 1) := by decide +kernel
theorem dX12_readName_196 : decode cX12_readName 196 = .ok (.if_icmp .ne 61, 3) := by decide +kernel
theorem dX12_readName_199 : decode cX12_readName 199 = .ok (.aload_n 0, 1) := by decide +kernel
theorem dX12_readName_200 : decode cX12_readName 200 = .ok (.aload_n 0, 1) := by decide +kernel
theorem dX12_readName_201 : decode cX12_readName 201 = .ok (.getfield 304, 3) := by decide +kernel
theorem dX12_readName_204 : decode cX12_readName 204 = .ok (.iconst 2, 1) := by decide +kernel
theorem dX12_readName_205 : decode cX12_readName 205 = .ok (.iadd, 1) := by decide +kernel
theorem dX12_readName_206 : decode cX12_readName 206 = .ok (.invokevirtual 300, 3) := by decide +kernel
theorem dX12_readName_209 : decode cX12_readName 209 = .ok (.bipush 48, 2) := by decide +kernel
theorem dX12_readName_211 : decode cX12_readName 211 = .ok (.isub, 1) := by decide +kernel
theorem dX12_readName_212 : decode cX12_readName 212 = .ok (.iconst 0, 1) := by decide +kernel
theorem dX12_readName_213 : decode cX12_readName 213 = .ok (.iconst 1, 1) := by decide +kernel
theorem dX12_readName_214 : decode cX12_readName 214 = .ok (.invokestatic 279, 3) := by decide +kernel
theorem dX12_readName_217 : decode cX12_readName 217 = .ok (.ifCond .eq 40, 3) := by decide +kernel
theorem dX12_readName_220 : decode cX12_readName 220 = .ok (.aload_n 0, 1) := by decide +kernel
theorem dX12_readName_221 : decode cX12_readName 221 = .ok (.iconst 5, 1) := by decide +kernel
theorem dX12_readName_222 : decode cX12_readName 222 = .ok (.putfield 307, 3) := by decide +kernel
theorem dX12_readName_225 : decode cX12_readName 225 = .ok (.aload_n 0, 1) := by decide +kernel
theorem dX12_readName_226 : decode cX12_readName 226 = .ok (.iload_n 1, 1) := by decide +kernel
theorem dX12_readName_227 : decode cX12_readName 227 = .ok (.iconst 2, 1) := by decide +kernel
theorem dX12_readName_228 : decode cX12_readName 228 = .ok (.if_icmp .ne 7, 3) := by decide +kernel
theorem dX12_readName_231 : decode cX12_readName 231 = .ok (.iload_n 3, 1) := by decide +kernel
theorem dX12_readName_232 : decode cX12_readName 232 = .ok (.goto 19, 3) := by decide +kernel
theorem dX12_readName_235 : decode cX12_readName 235 = .ok (.bipush 10, 2) := by decide +kernel
theorem dX12_readName_237 : decode cX12_readName 237 = .ok (.aload_n 0, 1) := by decide +kernel
theorem dX12_readName_238 : decode cX12_readName 238 = .ok (.aload_n 0, 1) := by decide +kernel
theorem dX12_readName_239 : decode cX12_readName 239 = .ok (.getfield 304, 3) := by decide +kernel
theorem dX12_readName_242 : decode cX12_readName 242 = .ok (.iconst 2, 1) := by decide +kernel
theorem dX12_readName_243 : decode cX12_readName 243 = .ok (.iadd, 1) := by decide +kernel
theorem dX12_readName_244 : decode cX12_readName 244 = .ok (.invokevirtual 300, 3) := by decide +kernel
theorem dX12_readName_247 : decode cX12_readName 247 = .ok (.iadd, 1) := by decide +kernel
theorem dX12_readName_248 : decode cX12_readName 248 = .ok (.bipush 48, 2) := by decide +kernel
theorem dX12_readName_250 : decode cX12_readName 250 = .ok (.isub, 1) := by decide +kernel
theorem dX12_readName_251 : decode cX12_readName 251 = .ok (.putfield 314, 3) := by decide +kernel
theorem dX12_readName_254 : decode cX12_readName 254 = .ok (.goto 51, 3) := by decide +kernel
theorem dX12_readName_257 : decode cX12_readName 257 = .ok (.iconst 0, 1) := by decide +kernel
theorem dX12_readName_258 : decode cX12_readName 258 = .ok (.istore 4, 2) := by decide +kernel
theorem dX12_readName_260 : decode cX12_readName 260 = .ok (.iload 4, 2) := by decide +kernel
theorem dX12_readName_262 : decode cX12_readName 262 = .ok (.bipush 25, 2) := by decide +kernel
theorem dX12_readName_264 : decode cX12_readName 264 = .ok (.if_icmp .ge 41, 3) := by decide +kernel
theorem dX12_readName_267 : decode cX12_readName 267 = .ok (.aload_n 0, 1) := by decide +kernel
theorem dX12_readName_268 : decode cX12_readName 268 = .ok (.aload_n 0, 1) := by decide +kernel
theorem dX12_readName_269 : decode cX12_readName 269 = .ok (.getfield 80, 3) := by decide +kernel
theorem dX12_readName_272 : decode cX12_readName 272 = .ok (.iload 4, 2) := by decide +kernel
theorem dX12_readName_274 : decode cX12_readName 274 = .ok (.laload, 1) := by decide +kernel
theorem dX12_readName_275 : decode cX12_readName 275 = .ok (.aload_n 0, 1) := by decide +kernel
theorem dX12_readName_276 : decode cX12_readName 276 = .ok (.getfield 327, 3) := by decide +kernel
theorem dX12_readName_279 : decode cX12_readName 279 = .ok (.lcmp, 1) := by decide +kernel
theorem dX12_readName_280 : decode cX12_readName 280 = .ok (.ifCond .ne 12, 3) := by decide +kernel
theorem dX12_readName_283 : decode cX12_readName 283 = .ok (.sipush 410, 3) := by decide +kernel
theorem dX12_readName_286 : decode cX12_readName 286 = .ok (.iload 4, 2) := by decide +kernel
theorem dX12_readName_288 : decode cX12_readName 288 = .ok (.iadd, 1) := by decide +kernel
theorem dX12_readName_289 : decode cX12_readName 289 = .ok (.goto 7, 3) := by decide +kernel
theorem dX12_readName_292 : decode cX12_readName 292 = .ok (.aload_n 0, 1) := by decide +kernel
theorem dX12_readName_293 : decode cX12_readName 293 = .ok (.getfield 307, 3) := by decide +kernel
theorem dX12_readName_296 : decode cX12_readName 296 = .ok (.putfield 307, 3) := by decide +kernel
theorem dX12_readName_299 : decode cX12_readName 299 = .ok (.iinc 4 1, 3) := by decide +kernel
theorem dX12_readName_302 : decode cX12_readName 302 = .ok (.goto (-42), 3) := by decide +kernel
theorem dX12_readName_305 : decode cX12_readName 305 = .ok (.return_, 1) := by decide +kernel
theorem dX12_readSign_0 : decode cX12_readSign 0 = .ok (.aload_n 0, 1) := by decide +kernel
theorem dX12_readSign_1 : decode cX12_readSign 1 = .ok (.dup, 1) := by decide +kernel
theorem dX12_readSign_2 : decode cX12_readSign 2 = .ok (.getfield 297, 3) := by decide +kernel
theorem dX12_readSign_5 : decode cX12_readSign 5 = .ok (.iconst 1, 1) := by decide +kernel
theorem dX12_readSign_6 : decode cX12_readSign 6 = .ok (.iadd, 1) := by decide +kernel
theorem dX12_readSign_7 : decode cX12_readSign 7 = .ok (.putfield 297, 3) := by decide +kernel
theorem dX12_readSign_10 : decode cX12_readSign 10 = .ok (.aload_n 0, 1) := by decide +kernel
theorem dX12_readSign_11 : decode cX12_readSign 11 = .ok (.aload_n 0, 1) := by decide +kernel
theorem dX12_readSign_12 : decode cX12_readSign 12 = .ok (.getfield 297, 3) := by decide +kernel
theorem dX12_readSign_15 : decode cX12_readSign 15 = .ok (.invokevirtual 300, 3) := by decide +kernel
theorem dX12_readSign_18 : decode cX12_readSign 18 = .ok (.istore_n 2, 1) := by decide +kernel
theorem dX12_readSign_19 : decode cX12_readSign 19 = .ok (.iload_n 1, 1) := by decide +kernel
theorem dX12_readSign_20 : decode cX12_readSign 20 = .ok (.bipush 60, 2) := by decide +kernel
theorem dX12_readSign_22 : decode cX12_readSign 22 = .ok (.if_icmp .ne 15, 3) := by decide +kernel
theorem dX12_readSign_25 : decode cX12_readSign 25 = .ok (.iload_n 2, 1) := by decide +kernel
theorem dX12_readSign_26 : decode cX12_readSign 26 = .ok (.bipush 61, 2) := by decide +kernel
theorem dX12_readSign_28 : decode cX12_readSign 28 = .ok (.if_icmp .ne 9, 3) := by decide +kernel
theorem dX12_readSign_31 : decode cX12_readSign 31 = .ok (.sipush 300, 3) := by decide +kernel
theorem dX12_readSign_34 : decode cX12_readSign 34 = .ok (.goto 130, 3) := by decide +kernel
theorem dX12_readSign_37 : decode cX12_readSign 37 = .ok (.iload_n 1, 1) := by decide +kernel
theorem dX12_readSign_38 : decode cX12_readSign 38 = .ok (.bipush 62, 2) := by decide +kernel
theorem dX12_readSign_40 : decode cX12_readSign 40 = .ok (.if_icmp .ne 15, 3) := by decide +kernel
theorem dX12_readSign_43 : decode cX12_readSign 43 = .ok (.iload_n 2, 1) := by decide +kernel
theorem dX12_readSign_44 : decode cX12_readSign 44 = .ok (.bipush 61, 2) := by decide +kernel
theorem dX12_readSign_46 : decode cX12_readSign 46 = .ok (.if_icmp .ne 9, 3) := by decide +kernel
theorem dX12_readSign_49 : decode cX12_readSign 49 = .ok (.sipush 301, 3) := by decide +kernel
theorem dX12_readSign_52 : decode cX12_readSign 52 = .ok (.goto 112, 3) := by decide +kernel
theorem dX12_readSign_55 : decode cX12_readSign 55 = .ok (.iload_n 1, 1) := by decide +kernel
theorem dX12_readSign_56 : decode cX12_readSign 56 = .ok (.bipush 61, 2) := by decide +kernel
theorem dX12_readSign_58 : decode cX12_readSign 58 = .ok (.if_icmp .ne 15, 3) := by decide +kernel
theorem dX12_readSign_61 : decode cX12_readSign 61 = .ok (.iload_n 2, 1) := by decide +kernel
theorem dX12_readSign_62 : decode cX12_readSign 62 = .ok (.bipush 61, 2) := by decide +kernel
theorem dX12_readSign_64 : decode cX12_readSign 64 = .ok (.if_icmp .ne 9, 3) := by decide +kernel
theorem dX12_readSign_67 : decode cX12_readSign 67 = .ok (.sipush 302, 3) := by decide +kernel
theorem dX12_readSign_70 : decode cX12_readSign 70 = .ok (.goto 94, 3) := by decide +kernel
theorem dX12_readSign_73 : decode cX12_readSign 73 = .ok (.iload_n 1, 1) := by decide +kernel
theorem dX12_readSign_74 : decode cX12_readSign 74 = .ok (.bipush 33, 2) := by decide +kernel
theorem dX12_readSign_76 : decode cX12_readSign 76 = .ok (.if_icmp .ne 15, 3) := by decide +kernel
theorem dX12_readSign_79 : decode cX12_readSign 79 = .ok (.iload_n 2, 1) := by decide +kernel
theorem dX12_readSign_80 : decode cX12_readSign 80 = .ok (.bipush 61, 2) := by decide +kernel
theorem dX12_readSign_82 : decode cX12_readSign 82 = .ok (.if_icmp .ne 9, 3) := by decide +kernel
theorem dX12_readSign_85 : decode cX12_readSign 85 = .ok (.sipush 303, 3) := by decide +kernel
theorem dX12_readSign_88 : decode cX12_readSign 88 = .ok (.goto 76, 3) := by decide +kernel
theorem dX12_readSign_91 : decode cX12_readSign 91 = .ok (.iload_n 1, 1) := by decide +kernel
theorem dX12_readSign_92 : decode cX12_readSign 92 = .ok (.bipush 38, 2) := by decide +kernel
theorem dX12_readSign_94 : decode cX12_readSign 94 = .ok (.if_icmp .ne 15, 3) := by decide +kernel
theorem dX12_readSign_97 : decode cX12_readSign 97 = .ok (.iload_n 2, 1) := by decide +kernel
theorem dX12_readSign_98 : decode cX12_readSign 98 = .ok (.bipush 38, 2) := by decide +kernel
theorem dX12_readSign_100 : decode cX12_readSign 100 = .ok (.if_icmp .ne 9, 3) := by decide +kernel
theorem dX12_readSign_103 : decode cX12_readSign 103 = .ok (.sipush 304, 3) := by decide +kernel
theorem dX12_readSign_106 : decode cX12_readSign 106 = .ok (.goto 58, 3) := by decide +kernel
theorem dX12_readSign_109 : decode cX12_readSign 109 = .ok (.iload_n 1, 1) := by decide +kernel
theorem dX12_readSign_110 : decode cX12_readSign 110 = .ok (.bipush 124, 2) := by decide +kernel
theorem dX12_readSign_112 : decode cX12_readSign 112 = .ok (.if_icmp .ne 15, 3) := by decide +kernel
theorem dX12_readSign_115 : decode cX12_readSign 115 = .ok (.iload_n 2, 1) := by decide +kernel
theorem dX12_readSign_116 : decode cX12_readSign 116 = .ok (.bipush 124, 2) := by decide +kernel
theorem dX12_readSign_118 : decode cX12_readSign 118 = .ok (.if_icmp .ne 9, 3) := by decide +kernel
theorem dX12_readSign_121 : decode cX12_readSign 121 = .ok (.sipush 305, 3) := by decide +kernel
theorem dX12_readSign_124 : decode cX12_readSign 124 = .ok (.goto 40, 3) := by decide +kernel
theorem dX12_readSign_127 : decode cX12_readSign 127 = .ok (.iload_n 1, 1) := by decide +kernel
theorem dX12_readSign_128 : decode cX12_readSign 128 = .ok (.bipush 45, 2) := by decide +kernel
theorem dX12_readSign_130 : decode cX12_readSign 130 = .ok (.if_icmp .ne 15, 3) := by decide +kernel
theorem dX12_readSign_133 : decode cX12_readSign 133 = .ok (.iload_n 2, 1) := by decide +kernel
theorem dX12_readSign_134 : decode cX12_readSign 134 = .ok (.bipush 62, 2) := by decide +kernel
theorem dX12_readSign_136 : decode cX12_readSign 136 = .ok (.if_icmp .ne 9, 3) := by decide +kernel
theorem dX12_readSign_139 : decode cX12_readSign 139 = .ok (.sipush 306, 3) := by decide +kernel
theorem dX12_readSign_142 : decode cX12_readSign 142 = .ok (.goto 22, 3) := by decide +kernel
theorem dX12_readSign_145 : decode cX12_readSign 145 = .ok (.iload_n 1, 1) := by decide +kernel
theorem dX12_readSign_146 : decode cX12_readSign 146 = .ok (.bipush 43, 2) := by decide +kernel
theorem dX12_readSign_148 : decode cX12_readSign 148 = .ok (.if_icmp .ne 15, 3) := by decide +kernel
theorem dX12_readSign_151 : decode cX12_readSign 151 = .ok (.iload_n 2, 1) := by decide +kernel
theorem dX12_readSign_152 : decode cX12_readSign 152 = .ok (.bipush 43, 2) := by decide +kernel
theorem dX12_readSign_154 : decode cX12_readSign 154 = .ok (.if_icmp .ne 9, 3) := by decide +kernel
theorem dX12_readSign_157 : decode cX12_readSign 157 = .ok (.sipush 307, 3) := by decide +kernel
theorem dX12_readSign_160 : decode cX12_readSign 160 = .ok (.goto 4, 3) := by decide +kernel
theorem dX12_readSign_163 : decode cX12_readSign 163 = .ok (.iconst 0, 1) := by decide +kernel
theorem dX12_readSign_164 : decode cX12_readSign 164 = .ok (.istore_n 3, 1) := by decide +kernel
theorem dX12_readSign_165 : decode cX12_readSign 165 = .ok (.iload_n 3, 1) := by decide +kernel
theorem dX12_readSign_166 : decode cX12_readSign 166 = .ok (.ifCond .le 19, 3) := by decide +kernel
theorem dX12_readSign_169 : decode cX12_readSign 169 = .ok (.aload_n 0, 1) := by decide +kernel
theorem dX12_readSign_170 : decode cX12_readSign 170 = .ok (.dup, 1) := by decide +kernel
theorem dX12_readSign_171 : decode cX12_readSign 171 = .ok (.getfield 297, 3) := by decide +kernel
theorem dX12_readSign_174 : decode cX12_readSign 174 = .ok (.iconst 1, 1) := by decide +kernel
theorem dX12_readSign_175 : decode cX12_readSign 175 = .ok (.iadd, 1) := by decide +kernel
theorem dX12_readSign_176 : decode cX12_readSign 176 = .ok (.putfield 297, 3) := by decide +kernel
theorem dX12_readSign_179 : decode cX12_readSign 179 = .ok (.aload_n 0, 1) := by decide +kernel
theorem dX12_readSign_180 : decode cX12_readSign 180 = .ok (.iload_n 3, 1) := by decide +kernel
theorem dX12_readSign_181 : decode cX12_readSign 181 = .ok (.putfield 307, 3) := by decide +kernel
theorem dX12_readSign_184 : decode cX12_readSign 184 = .ok (.return_, 1) := by decide +kernel
theorem dX12_readSign_185 : decode cX12_readSign 185 = .ok (.iload_n 1, 1) := by decide +kernel
theorem dX12_readSign_186 : decode cX12_readSign 186 = .ok (.bipush 123, 2) := by decide +kernel
theorem dX12_readSign_188 : decode cX12_readSign 188 = .ok (.if_icmp .eq 111, 3) := by decide +kernel
theorem dX12_readSign_191 : decode cX12_readSign 191 = .ok (.iload_n 1, 1) := by decide +kernel
theorem dX12_readSign_192 : decode cX12_readSign 192 = .ok (.bipush 125, 2) := by decide +kernel
theorem dX12_readSign_194 : decode cX12_readSign 194 = .ok (.if_icmp .eq 105, 3) := by decide +kernel
theorem dX12_readSign_197 : decode cX12_readSign 197 = .ok (.iload_n 1, 1) := by decide +kernel
theorem dX12_readSign_198 : decode cX12_readSign 198 = .ok (.bipush 40, 2) := by decide +kernel
theorem dX12_readSign_200 : decode cX12_readSign 200 = .ok (.if_icmp .eq 99, 3) := by decide +kernel
theorem dX12_readSign_203 : decode cX12_readSign 203 = .ok (.iload_n 1, 1) := by decide +kernel
theorem dX12_readSign_204 : decode cX12_readSign 204 = .ok (.bipush 41, 2) := by decide +kernel
theorem dX12_readSign_206 : decode cX12_readSign 206 = .ok (.if_icmp .eq 93, 3) := by decide +kernel
theorem dX12_readSign_209 : decode cX12_readSign 209 = .ok (.iload_n 1, 1) := by decide +kernel
theorem dX12_readSign_210 : decode cX12_readSign 210 = .ok (.bipush 91, 2) := by decide +kernel
theorem dX12_readSign_212 : decode cX12_readSign 212 = .ok (.if_icmp .eq 87, 3) := by decide +kernel
theorem dX12_readSign_215 : decode cX12_readSign 215 = .ok (.iload_n 1, 1) := by decide +kernel
theorem dX12_readSign_216 : decode cX12_readSign 216 = .ok (.bipush 93, 2) := by decide +kernel
theorem dX12_readSign_218 : decode cX12_readSign 218 = .ok (.if_icmp .eq 81, 3) := by decide +kernel
theorem dX12_readSign_221 : decode cX12_readSign 221 = .ok (.iload_n 1, 1) := by decide +kernel
theorem dX12_readSign_222 : decode cX12_readSign 222 = .ok (.bipush 59, 2) := by decide +kernel
theorem dX12_readSign_224 : decode cX12_readSign 224 = .ok (.if_icmp .eq 75, 3) := by decide +kernel
theorem dX12_readSign_227 : decode cX12_readSign 227 = .ok (.iload_n 1, 1) := by decide +kernel
theorem dX12_readSign_228 : decode cX12_readSign 228 = .ok (.bipush 58, 2) := by decide +kernel
theorem dX12_readSign_230 : decode cX12_readSign 230 = .ok (.if_icmp .eq 69, 3) := by decide +kernel
theorem dX12_readSign_233 : decode cX12_readSign 233 = .ok (.iload_n 1, 1) := by decide +kernel
theorem dX12_readSign_234 : decode cX12_readSign 234 = .ok (.bipush 44, 2) := by decide +kernel
theorem dX12_readSign_236 : decode cX12_readSign 236 = .ok (.if_icmp .eq 63, 3) := by decide +kernel
theorem dX12_readSign_239 : decode cX12_readSign 239 = .ok (.iload_n 1, 1) := by decide +kernel
theorem dX12_readSign_240 : decode cX12_readSign 240 = .ok (.bipush 61, 2) := by decide +kernel
theorem dX12_readSign_242 : decode cX12_readSign 242 = .ok (.if_icmp .eq 57, 3) := by decide +kernel
theorem dX12_readSign_245 : decode cX12_readSign 245 = .ok (.iload_n 1, 1) := by decide +kernel
theorem dX12_readSign_246 : decode cX12_readSign 246 = .ok (.bipush 43, 2) := by decide +kernel
theorem dX12_readSign_248 : decode cX12_readSign 248 = .ok (.if_icmp .eq 51, 3) := by decide +kernel
theorem dX12_readSign_251 : decode cX12_readSign 251 = .ok (.iload_n 1, 1) := by decide +kernel
theorem dX12_readSign_252 : decode cX12_readSign 252 = .ok (.bipush 45, 2) := by decide +kernel
theorem dX12_readSign_254 : decode cX12_readSign 254 = .ok (.if_icmp .eq 45, 3) := by decide +kernel
theorem dX12_readSign_257 : decode cX12_readSign 257 = .ok (.iload_n 1, 1) := by decide +kernel
theorem dX12_readSign_258 : decode cX12_readSign 258 = .ok (.bipush 42, 2) := by decide +kernel
theorem dX12_readSign_260 : decode cX12_readSign 260 = .ok (.if_icmp .eq 39, 3) := by decide +kernel
theorem dX12_readSign_263 : decode cX12_readSign 263 = .ok (.iload_n 1, 1) := by decide +kernel
theorem dX12_readSign_264 : decode cX12_readSign 264 = .ok (.bipush 47, 2) := by decide +kernel
theorem dX12_readSign_266 : decode cX12_readSign 266 = .ok (.if_icmp .eq 33, 3) := by decide +kernel
theorem dX12_readSign_269 : decode cX12_readSign 269 = .ok (.iload_n 1, 1) := by decide +kernel
theorem dX12_readSign_270 : decode cX12_readSign 270 = .ok (.bipush 37, 2) := by decide +kernel
theorem dX12_readSign_272 : decode cX12_readSign 272 = .ok (.if_icmp .eq 27, 3) := by decide +kernel
theorem dX12_readSign_275 : decode cX12_readSign 275 = .ok (.iload_n 1, 1) := by decide +kernel
theorem dX12_readSign_276 : decode cX12_readSign 276 = .ok (.bipush 60, 2) := by decide +kernel
theorem dX12_readSign_278 : decode cX12_readSign 278 = .ok (.if_icmp .eq 21, 3) := by decide +kernel
theorem dX12_readSign_281 : decode cX12_readSign 281 = .ok (.iload_n 1, 1) := by decide +kernel
theorem dX12_readSign_282 : decode cX12_readSign 282 = .ok (.bipush 62, 2) := by decide +kernel
theorem dX12_readSign_284 : decode cX12_readSign 284 = .ok (.if_icmp .eq 15, 3) := by decide +kernel
theorem dX12_readSign_287 : decode cX12_readSign 287 = .ok (.iload_n 1, 1) := by decide +kernel
theorem dX12_readSign_288 : decode cX12_readSign 288 = .ok (.bipush 33, 2) := by decide +kernel
theorem dX12_readSign_290 : decode cX12_readSign 290 = .ok (.if_icmp .eq 9, 3) := by decide +kernel
theorem dX12_readSign_293 : decode cX12_readSign 293 = .ok (.iload_n 1, 1) := by decide +kernel
theorem dX12_readSign_294 : decode cX12_readSign 294 = .ok (.bipush 124, 2) := by decide +kernel
theorem dX12_readSign_296 : decode cX12_readSign 296 = .ok (.if_icmp .ne 7, 3) := by decide +kernel
theorem dX12_readSign_299 : decode cX12_readSign 299 = .ok (.iconst 1, 1) := by decide +kernel
theorem dX12_readSign_300 : decode cX12_readSign 300 = .ok (.goto 4, 3) := by decide +kernel
theorem dX12_readSign_303 : decode cX12_readSign 303 = .ok (.iconst 0, 1) := by decide +kernel
theorem dX12_readSign_304 : decode cX12_readSign 304 = .ok (.istore 4, 2) := by decide +kernel
theorem dX12_readSign_306 : decode cX12_readSign 306 = .ok (.aload_n 0, 1) := by decide +kernel
theorem dX12_readSign_307 : decode cX12_readSign 307 = .ok (.iload 4, 2) := by decide +kernel
theorem dX12_readSign_309 : decode cX12_readSign 309 = .ok (.ifCond .eq 7, 3) := by decide +kernel
theorem dX12_readSign_312 : decode cX12_readSign 312 = .ok (.iload_n 1, 1) := by decide +kernel
theorem dX12_readSign_313 : decode cX12_readSign 313 = .ok (.goto 5, 3) := by decide +kernel
theorem dX12_readSign_316 : decode cX12_readSign 316 = .ok (.bipush 6, 2) := by decide +kernel
theorem dX12_readSign_318 : decode cX12_readSign 318 = .ok (.putfield 307, 3) := by decide +kernel
theorem dX12_readSign_321 : decode cX12_readSign 321 = .ok (.return_, 1) := by decide +kernel
theorem dX12_fail_0 : decode cX12_fail 0 = .ok (.aload_n 0, 1) := by decide +kernel
theorem dX12_fail_1 : decode cX12_fail 1 = .ok (.getfield 291, 3) := by decide +kernel
theorem dX12_fail_4 : decode cX12_fail 4 = .ok (.ifCond .ne 13, 3) := by decide +kernel
theorem dX12_fail_7 : decode cX12_fail 7 = .ok (.aload_n 0, 1) := by decide +kernel
theorem dX12_fail_8 : decode cX12_fail 8 = .ok (.iload_n 1, 1) := by decide +kernel
theorem dX12_fail_9 : decode cX12_fail 9 = .ok (.putfield 291, 3) := by decide +kernel
theorem dX12_fail_12 : decode cX12_fail 12 = .ok (.aload_n 0, 1) := by decide +kernel
theorem dX12_fail_13 : decode cX12_fail 13 = .ok (.iload_n 2, 1) := by decide +kernel
theorem dX12_fail_14 : decode cX12_fail 14 = .ok (.putfield 331, 3) := by decide +kernel
theorem dX12_fail_17 : decode cX12_fail 17 = .ok (.return_, 1) := by decide +kernel
theorem dX12_note_0 : decode cX12_note 0 = .ok (.aload_n 0, 1) := by decide +kernel
theorem dX12_note_1 : decode cX12_note 1 = .ok (.getfield 291, 3) := by decide +kernel
theorem dX12_note_4 : decode cX12_note 4 = .ok (.ifCond .ne 15, 3) := by decide +kernel
theorem dX12_note_7 : decode cX12_note 7 = .ok (.aload_n 0, 1) := by decide +kernel
theorem dX12_note_8 : decode cX12_note 8 = .ok (.getfield 334, 3) := by decide +kernel
theorem dX12_note_11 : decode cX12_note 11 = .ok (.ifCond .ge 8, 3) := by decide +kernel
theorem dX12_note_14 : decode cX12_note 14 = .ok (.aload_n 0, 1) := by decide +kernel
theorem dX12_note_15 : decode cX12_note 15 = .ok (.iload_n 1, 1) := by decide +kernel
theorem dX12_note_16 : decode cX12_note 16 = .ok (.putfield 334, 3) := by decide +kernel
theorem dX12_note_19 : decode cX12_note 19 = .ok (.return_, 1) := by decide +kernel
theorem dX12_can_0 : decode cX12_can 0 = .ok (.aload_n 0, 1) := by decide +kernel
theorem dX12_can_1 : decode cX12_can 1 = .ok (.getfield 291, 3) := by decide +kernel
theorem dX12_can_4 : decode cX12_can 4 = .ok (.ifCond .ne 38, 3) := by decide +kernel
theorem dX12_can_7 : decode cX12_can 7 = .ok (.iload_n 1, 1) := by decide +kernel
theorem dX12_can_8 : decode cX12_can 8 = .ok (.ifCond .eq 12, 3) := by decide +kernel
theorem dX12_can_11 : decode cX12_can 11 = .ok (.aload_n 0, 1) := by decide +kernel
theorem dX12_can_12 : decode cX12_can 12 = .ok (.getfield 307, 3) := by decide +kernel
theorem dX12_can_15 : decode cX12_can 15 = .ok (.bipush 6, 2) := by decide +kernel
theorem dX12_can_17 : decode cX12_can 17 = .ok (.if_icmp .ne 25, 3) := by decide +kernel
theorem dX12_can_20 : decode cX12_can 20 = .ok (.aload_n 0, 1) := by decide +kernel
theorem dX12_can_21 : decode cX12_can 21 = .ok (.aload_n 0, 1) := by decide +kernel
theorem dX12_can_22 : decode cX12_can 22 = .ok (.getfield 307, 3) := by decide +kernel
theorem dX12_can_25 : decode cX12_can 25 = .ok (.bipush 6, 2) := by decide +kernel
theorem dX12_can_27 : decode cX12_can 27 = .ok (.if_icmp .ne 7, 3) := by decide +kernel
theorem dX12_can_30 : decode cX12_can 30 = .ok (.iconst 1, 1) := by decide +kernel
theorem dX12_can_31 : decode cX12_can 31 = .ok (.goto 4, 3) := by decide +kernel
theorem dX12_can_34 : decode cX12_can 34 = .ok (.iconst 2, 1) := by decide +kernel
theorem dX12_can_35 : decode cX12_can 35 = .ok (.aload_n 0, 1) := by decide +kernel
theorem dX12_can_36 : decode cX12_can 36 = .ok (.getfield 304, 3) := by decide +kernel
theorem dX12_can_39 : decode cX12_can 39 = .ok (.invokevirtual 337, 3) := by decide +kernel
theorem dX12_can_42 : decode cX12_can 42 = .ok (.aload_n 0, 1) := by decide +kernel
theorem dX12_can_43 : decode cX12_can 43 = .ok (.getfield 291, 3) := by decide +kernel
theorem dX12_can_46 : decode cX12_can 46 = .ok (.ifCond .ne 7, 3) := by decide +kernel
theorem dX12_can_49 : decode cX12_can 49 = .ok (.iconst 1, 1) := by decide +kernel
theorem dX12_can_50 : decode cX12_can 50 = .ok (.goto 4, 3) := by decide +kernel
theorem dX12_can_53 : decode cX12_can 53 = .ok (.iconst 0, 1) := by decide +kernel
theorem dX12_can_54 : decode cX12_can 54 = .ok (.ireturn, 1) := by decide +kernel
theorem dX12_need_0 : decode cX12_need 0 = .ok (.aload_n 0, 1) := by decide +kernel
theorem dX12_need_1 : decode cX12_need 1 = .ok (.getfield 291, 3) := by decide +kernel
theorem dX12_need_4 : decode cX12_need 4 = .ok (.ifCond .ne 27, 3) := by decide +kernel
theorem dX12_need_7 : decode cX12_need 7 = .ok (.aload_n 0, 1) := by decide +kernel
theorem dX12_need_8 : decode cX12_need 8 = .ok (.aload_n 0, 1) := by decide +kernel
theorem dX12_need_9 : decode cX12_need 9 = .ok (.getfield 307, 3) := by decide +kernel
theorem dX12_need_12 : decode cX12_need 12 = .ok (.iload_n 1, 1) := by decide +kernel
theorem dX12_need_13 : decode cX12_need 13 = .ok (.if_icmp .ne 7, 3) := by decide +kernel
theorem dX12_need_16 : decode cX12_need 16 = .ok (.iconst 1, 1) := by decide +kernel
theorem dX12_need_17 : decode cX12_need 17 = .ok (.goto 4, 3) := by decide +kernel
theorem dX12_need_20 : decode cX12_need 20 = .ok (.iconst 0, 1) := by decide +kernel
theorem dX12_need_21 : decode cX12_need 21 = .ok (.invokevirtual 341, 3) := by decide +kernel
theorem dX12_need_24 : decode cX12_need 24 = .ok (.ifCond .eq 7, 3) := by decide +kernel
theorem dX12_need_27 : decode cX12_need 27 = .ok (.aload_n 0, 1) := by decide +kernel
theorem dX12_need_28 : decode cX12_need 28 = .ok (.invokevirtual 345, 3) := by decide +kernel
theorem dX12_need_31 : decode cX12_need 31 = .ok (.aload_n 0, 1) := by decide +kernel
theorem dX12_need_32 : decode cX12_need 32 = .ok (.getfield 291, 3) := by decide +kernel
theorem dX12_need_35 : decode cX12_need 35 = .ok (.ifCond .ne 7, 3) := by decide +kernel
theorem dX12_need_38 : decode cX12_need 38 = .ok (.iconst 1, 1) := by decide +kernel
theorem dX12_need_39 : decode cX12_need 39 = .ok (.goto 4, 3) := by decide +kernel
theorem dX12_need_42 : decode cX12_need 42 = .ok (.iconst 0, 1) := by decide +kernel
theorem dX12_need_43 : decode cX12_need 43 = .ok (.ireturn, 1) := by decide +kernel
theorem dX12_opens_0 : decode cX12_opens 0 = .ok (.aload_n 0, 1) := by decide +kernel
theorem dX12_opens_1 : decode cX12_opens 1 = .ok (.dup, 1) := by decide +kernel
theorem dX12_opens_2 : decode cX12_opens 2 = .ok (.getfield 348, 3) := by decide +kernel
theorem dX12_opens_5 : decode cX12_opens 5 = .ok (.iconst 1, 1) := by decide +kernel
theorem dX12_opens_6 : decode cX12_opens 6 = .ok (.iadd, 1) := by decide +kernel
theorem dX12_opens_7 : decode cX12_opens 7 = .ok (.putfield 348, 3) := by decide +kernel
theorem dX12_opens_10 : decode cX12_opens 10 = .ok (.aload_n 0, 1) := by decide +kernel
theorem dX12_opens_11 : decode cX12_opens 11 = .ok (.getfield 348, 3) := by decide +kernel
theorem dX12_opens_14 : decode cX12_opens 14 = .ok (.bipush 20, 2) := by decide +kernel
theorem dX12_opens_16 : decode cX12_opens 16 = .ok (.if_icmp .le 13, 3) := by decide +kernel
theorem dX12_opens_19 : decode cX12_opens 19 = .ok (.aload_n 0, 1) := by decide +kernel
theorem dX12_opens_20 : decode cX12_opens 20 = .ok (.bipush 6, 2) := by decide +kernel
theorem dX12_opens_22 : decode cX12_opens 22 = .ok (.aload_n 0, 1) := by decide +kernel
theorem dX12_opens_23 : decode cX12_opens 23 = .ok (.getfield 304, 3) := by decide +kernel
theorem dX12_opens_26 : decode cX12_opens 26 = .ok (.invokevirtual 337, 3) := by decide +kernel
theorem dX12_opens_29 : decode cX12_opens 29 = .ok (.aload_n 0, 1) := by decide +kernel
theorem dX12_opens_30 : decode cX12_opens 30 = .ok (.getfield 291, 3) := by decide +kernel
theorem dX12_opens_33 : decode cX12_opens 33 = .ok (.ifCond .ne 7, 3) := by decide +kernel
theorem dX12_opens_36 : decode cX12_opens 36 = .ok (.iconst 1, 1) := by decide +kernel
theorem dX12_opens_37 : decode cX12_opens 37 = .ok (.goto 4, 3) := by decide +kernel
theorem dX12_opens_40 : decode cX12_opens 40 = .ok (.iconst 0, 1) := by decide +kernel
theorem dX12_opens_41 : decode cX12_opens 41 = .ok (.ireturn, 1) := by decide +kernel
theorem dX12_open_0 : decode cX12_open 0 = .ok (.aload_n 0, 1) := by decide +kernel
theorem dX12_open_1 : decode cX12_open 1 = .ok (.getfield 291, 3) := by decide +kernel
theorem dX12_open_4 : decode cX12_open 4 = .ok (.ifCond .ne 34, 3) := by decide +kernel
theorem dX12_open_7 : decode cX12_open 7 = .ok (.aload_n 0, 1) := by decide +kernel
theorem dX12_open_8 : decode cX12_open 8 = .ok (.aload_n 0, 1) := by decide +kernel
theorem dX12_open_9 : decode cX12_open 9 = .ok (.getfield 307, 3) := by decide +kernel
theorem dX12_open_12 : decode cX12_open 12 = .ok (.iload_n 1, 1) := by decide +kernel
theorem dX12_open_13 : decode cX12_open 13 = .ok (.if_icmp .ne 7, 3) := by decide +kernel
theorem dX12_open_16 : decode cX12_open 16 = .ok (.iconst 1, 1) := by decide +kernel
theorem dX12_open_17 : decode cX12_open 17 = .ok (.goto 4, 3) := by decide +kernel
theorem dX12_open_20 : decode cX12_open 20 = .ok (.iconst 0, 1) := by decide +kernel
theorem dX12_open_21 : decode cX12_open 21 = .ok (.invokevirtual 341, 3) := by decide +kernel
theorem dX12_open_24 : decode cX12_open 24 = .ok (.ifCond .eq 14, 3) := by decide +kernel
theorem dX12_open_27 : decode cX12_open 27 = .ok (.aload_n 0, 1) := by decide +kernel
theorem dX12_open_28 : decode cX12_open 28 = .ok (.invokevirtual 351, 3) := by decide +kernel
theorem dX12_open_31 : decode cX12_open 31 = .ok (.ifCond .eq 7, 3) := by decide +kernel
theorem dX12_open_34 : decode cX12_open 34 = .ok (.aload_n 0, 1) := by decide +kernel
theorem dX12_open_35 : decode cX12_open 35 = .ok (.invokevirtual 345, 3) := by decide +kernel
theorem dX12_open_38 : decode cX12_open 38 = .ok (.aload_n 0, 1) := by decide +kernel
theorem dX12_open_39 : decode cX12_open 39 = .ok (.getfield 291, 3) := by decide +kernel
theorem dX12_open_42 : decode cX12_open 42 = .ok (.ifCond .ne 7, 3) := by decide +kernel
theorem dX12_open_45 : decode cX12_open 45 = .ok (.iconst 1, 1) := by decide +kernel
theorem dX12_open_46 : decode cX12_open 46 = .ok (.goto 4, 3) := by decide +kernel
theorem dX12_open_49 : decode cX12_open 49 = .ok (.iconst 0, 1) := by decide +kernel
theorem dX12_open_50 : decode cX12_open 50 = .ok (.ireturn, 1) := by decide +kernel
theorem dX12_shut_0 : decode cX12_shut 0 = .ok (.aload_n 0, 1) := by decide +kernel
theorem dX12_shut_1 : decode cX12_shut 1 = .ok (.iload_n 1, 1) := by decide +kernel
theorem dX12_shut_2 : decode cX12_shut 2 = .ok (.invokevirtual 355, 3) := by decide +kernel
theorem dX12_shut_5 : decode cX12_shut 5 = .ok (.ifCond .eq 13, 3) := by decide +kernel
theorem dX12_shut_8 : decode cX12_shut 8 = .ok (.aload_n 0, 1) := by decide +kernel
theorem dX12_shut_9 : decode cX12_shut 9 = .ok (.dup, 1) := by decide +kernel
theorem dX12_shut_10 : decode cX12_shut 10 = .ok (.getfield 348, 3) := by decide +kernel
theorem dX12_shut_13 : decode cX12_shut 13 = .ok (.iconst 1, 1) := by decide +kernel
theorem dX12_shut_14 : decode cX12_shut 14 = .ok (.isub, 1) := by decide +kernel
theorem dX12_shut_15 : decode cX12_shut 15 = .ok (.putfield 348, 3) := by decide +kernel
theorem dX12_shut_18 : decode cX12_shut 18 = .ok (.aload_n 0, 1) := by decide +kernel
theorem dX12_shut_19 : decode cX12_shut 19 = .ok (.getfield 291, 3) := by decide +kernel
theorem dX12_shut_22 : decode cX12_shut 22 = .ok (.ifCond .ne 7, 3) := by decide +kernel
theorem dX12_shut_25 : decode cX12_shut 25 = .ok (.iconst 1, 1) := by decide +kernel
theorem dX12_shut_26 : decode cX12_shut 26 = .ok (.goto 4, 3) := by decide +kernel
theorem dX12_shut_29 : decode cX12_shut 29 = .ok (.iconst 0, 1) := by decide +kernel
theorem dX12_shut_30 : decode cX12_shut 30 = .ok (.ireturn, 1) := by decide +kernel
theorem dX12_emit_0 : decode cX12_emit 0 = .ok (.aload_n 0, 1) := by decide +kernel
theorem dX12_emit_1 : decode cX12_emit 1 = .ok (.getfield 358, 3) := by decide +kernel
theorem dX12_emit_4 : decode cX12_emit 4 = .ok (.sipush 3000, 3) := by decide +kernel
theorem dX12_emit_7 : decode cX12_emit 7 = .ok (.if_icmp .ge 10, 3) := by decide +kernel
theorem dX12_emit_10 : decode cX12_emit 10 = .ok (.aload_n 0, 1) := by decide +kernel
theorem dX12_emit_11 : decode cX12_emit 11 = .ok (.getfield 358, 3) := by decide +kernel
theorem dX12_emit_14 : decode cX12_emit 14 = .ok (.goto 6, 3) := by decide +kernel
theorem dX12_emit_17 : decode cX12_emit 17 = .ok (.sipush 2999, 3) := by decide +kernel
theorem dX12_emit_20 : decode cX12_emit 20 = .ok (.istore_n 3, 1) := by decide +kernel
theorem dX12_emit_21 : decode cX12_emit 21 = .ok (.aload_n 0, 1) := by decide +kernel
theorem dX12_emit_22 : decode cX12_emit 22 = .ok (.getfield 84, 3) := by decide +kernel
theorem dX12_emit_25 : decode cX12_emit 25 = .ok (.iload_n 3, 1) := by decide +kernel
theorem dX12_emit_26 : decode cX12_emit 26 = .ok (.iload_n 1, 1) := by decide +kernel
theorem dX12_emit_27 : decode cX12_emit 27 = .ok (.iastore, 1) := by decide +kernel
theorem dX12_emit_28 : decode cX12_emit 28 = .ok (.aload_n 0, 1) := by decide +kernel
theorem dX12_emit_29 : decode cX12_emit 29 = .ok (.getfield 87, 3) := by decide +kernel
theorem dX12_emit_32 : decode cX12_emit 32 = .ok (.iload_n 3, 1) := by decide +kernel
theorem dX12_emit_33 : decode cX12_emit 33 = .ok (.iload_n 2, 1) := by decide +kernel
theorem dX12_emit_34 : decode cX12_emit 34 = .ok (.iastore, 1) := by decide +kernel
theorem dX12_emit_35 : decode cX12_emit 35 = .ok (.aload_n 0, 1) := by decide +kernel
theorem dX12_emit_36 : decode cX12_emit 36 = .ok (.getfield 90, 3) := by decide +kernel
theorem dX12_emit_39 : decode cX12_emit 39 = .ok (.iload_n 3, 1) := by decide +kernel
theorem dX12_emit_40 : decode cX12_emit 40 = .ok (.iconst 0, 1) := by decide +kernel
theorem dX12_emit_41 : decode cX12_emit 41 = .ok (.iastore, 1) := by decide +kernel
theorem dX12_emit_42 : decode cX12_emit 42 = .ok (.aload_n 0, 1) := by decide +kernel
theorem dX12_emit_43 : decode cX12_emit 43 = .ok (.iload_n 3, 1) := by decide +kernel
theorem dX12_emit_44 : decode cX12_emit 44 = .ok (.iconst 1, 1) := by decide +kernel
theorem dX12_emit_45 : decode cX12_emit 45 = .ok (.iadd, 1) := by decide +kernel
theorem dX12_emit_46 : decode cX12_emit 46 = .ok (.putfield 358, 3) := by decide +kernel
theorem dX12_emit_49 : decode cX12_emit 49 = .ok (.iload_n 3, 1) := by decide +kernel
theorem dX12_emit_50 : decode cX12_emit 50 = .ok (.ireturn, 1) := by decide +kernel
theorem dX12_seenAs_0 : decode cX12_seenAs 0 = .ok (.aload_n 0, 1) := by decide +kernel
theorem dX12_seenAs_1 : decode cX12_seenAs 1 = .ok (.getfield 361, 3) := by decide +kernel
theorem dX12_seenAs_4 : decode cX12_seenAs 4 = .ok (.iconst 1, 1) := by decide +kernel
theorem dX12_seenAs_5 : decode cX12_seenAs 5 = .ok (.isub, 1) := by decide +kernel
theorem dX12_seenAs_6 : decode cX12_seenAs 6 = .ok (.istore_n 3, 1) := by decide +kernel
theorem dX12_seenAs_7 : decode cX12_seenAs 7 = .ok (.iload_n 3, 1) := by decide +kernel
theorem dX12_seenAs_8 : decode cX12_seenAs 8 = .ok (.ifCond .lt 22, 3) := by decide +kernel
