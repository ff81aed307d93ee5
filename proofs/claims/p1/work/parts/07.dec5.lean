theorem dX12_list_28 : decode cX12_list 28 = .ok (.ifCond .eq 7, 3) := by decide +kernel
theorem dX12_list_31 : decode cX12_list 31 = .ok (.iconst 1, 1) := by decide +kernel
theorem dX12_list_32 : decode cX12_list 32 = .ok (.goto 4, 3) := by decide +kernel
theorem dX12_list_35 : decode cX12_list 35 = .ok (.iconst 0, 1) := by decide +kernel
theorem dX12_list_36 : decode cX12_list 36 = .ok (.iastore, 1) := by decide +kernel
theorem dX12_list_37 : decode cX12_list 37 = .ok (.aload_n 0, 1) := by decide +kernel
theorem dX12_list_38 : decode cX12_list 38 = .ok (.getfield 307, 3) := by decide +kernel
theorem dX12_list_41 : decode cX12_list 41 = .ok (.bipush 125, 2) := by decide +kernel
theorem dX12_list_43 : decode cX12_list 43 = .ok (.if_icmp .eq 30, 3) := by decide +kernel
theorem dX12_list_46 : decode cX12_list 46 = .ok (.aload_n 0, 1) := by decide +kernel
theorem dX12_list_47 : decode cX12_list 47 = .ok (.getfield 307, 3) := by decide +kernel
theorem dX12_list_50 : decode cX12_list 50 = .ok (.sipush 429, 3) := by decide +kernel
theorem dX12_list_53 : decode cX12_list 53 = .ok (.if_icmp .eq 20, 3) := by decide +kernel
theorem dX12_list_56 : decode cX12_list 56 = .ok (.aload_n 0, 1) := by decide +kernel
theorem dX12_list_57 : decode cX12_list 57 = .ok (.getfield 307, 3) := by decide +kernel
theorem dX12_list_60 : decode cX12_list 60 = .ok (.sipush 430, 3) := by decide +kernel
theorem dX12_list_63 : decode cX12_list 63 = .ok (.if_icmp .eq 10, 3) := by decide +kernel
theorem dX12_list_66 : decode cX12_list 66 = .ok (.aload_n 0, 1) := by decide +kernel
theorem dX12_list_67 : decode cX12_list 67 = .ok (.getfield 307, 3) := by decide +kernel
theorem dX12_list_70 : decode cX12_list 70 = .ok (.ifCond .ne 23, 3) := by decide +kernel
theorem dX12_list_73 : decode cX12_list 73 = .ok (.aload_n 0, 1) := by decide +kernel
theorem dX12_list_74 : decode cX12_list 74 = .ok (.aload_n 0, 1) := by decide +kernel
theorem dX12_list_75 : decode cX12_list 75 = .ok (.getfield 180, 3) := by decide +kernel
theorem dX12_list_78 : decode cX12_list 78 = .ok (.iload_n 1, 1) := by decide +kernel
theorem dX12_list_79 : decode cX12_list 79 = .ok (.iaload, 1) := by decide +kernel
theorem dX12_list_80 : decode cX12_list 80 = .ok (.iconst 1, 1) := by decide +kernel
theorem dX12_list_81 : decode cX12_list 81 = .ok (.if_icmp .ne 7, 3) := by decide +kernel
theorem dX12_list_84 : decode cX12_list 84 = .ok (.iconst 1, 1) := by decide +kernel
theorem dX12_list_85 : decode cX12_list 85 = .ok (.goto 4, 3) := by decide +kernel
theorem dX12_list_88 : decode cX12_list 88 = .ok (.iconst 0, 1) := by decide +kernel
theorem dX12_list_89 : decode cX12_list 89 = .ok (.invokevirtual 490, 3) := by decide +kernel
theorem dX12_list_92 : decode cX12_list 92 = .ok (.return_, 1) := by decide +kernel
theorem dX12_list_93 : decode cX12_list 93 = .ok (.aload_n 0, 1) := by decide +kernel
theorem dX12_list_94 : decode cX12_list 94 = .ok (.getfield 180, 3) := by decide +kernel
theorem dX12_list_97 : decode cX12_list 97 = .ok (.iload_n 1, 1) := by decide +kernel
theorem dX12_list_98 : decode cX12_list 98 = .ok (.iaload, 1) := by decide +kernel
theorem dX12_list_99 : decode cX12_list 99 = .ok (.ifCond .ne 11, 3) := by decide +kernel
theorem dX12_list_102 : decode cX12_list 102 = .ok (.aload_n 0, 1) := by decide +kernel
theorem dX12_list_103 : decode cX12_list 103 = .ok (.aload_n 0, 1) := by decide +kernel
theorem dX12_list_104 : decode cX12_list 104 = .ok (.getfield 304, 3) := by decide +kernel
theorem dX12_list_107 : decode cX12_list 107 = .ok (.invokevirtual 487, 3) := by decide +kernel
theorem dX12_list_110 : decode cX12_list 110 = .ok (.aload_n 0, 1) := by decide +kernel
theorem dX12_list_111 : decode cX12_list 111 = .ok (.iconst 1, 1) := by decide +kernel
theorem dX12_list_112 : decode cX12_list 112 = .ok (.iconst 2, 1) := by decide +kernel
theorem dX12_list_113 : decode cX12_list 113 = .ok (.invokevirtual 393, 3) := by decide +kernel
theorem dX12_list_116 : decode cX12_list 116 = .ok (.return_, 1) := by decide +kernel
theorem dX12_over_0 : decode cX12_over 0 = .ok (.aload_n 0, 1) := by decide +kernel
theorem dX12_over_1 : decode cX12_over 1 = .ok (.iload_n 1, 1) := by decide +kernel
theorem dX12_over_2 : decode cX12_over 2 = .ok (.putfield 396, 3) := by decide +kernel
theorem dX12_over_5 : decode cX12_over 5 = .ok (.aload_n 0, 1) := by decide +kernel
theorem dX12_over_6 : decode cX12_over 6 = .ok (.dup, 1) := by decide +kernel
theorem dX12_over_7 : decode cX12_over 7 = .ok (.getfield 387, 3) := by decide +kernel
theorem dX12_over_10 : decode cX12_over 10 = .ok (.iconst 1, 1) := by decide +kernel
theorem dX12_over_11 : decode cX12_over 11 = .ok (.isub, 1) := by decide +kernel
theorem dX12_over_12 : decode cX12_over 12 = .ok (.putfield 387, 3) := by decide +kernel
theorem dX12_over_15 : decode cX12_over 15 = .ok (.return_, 1) := by decide +kernel
theorem dX12_parse_0 : decode cX12_parse 0 = .ok (.aload_n 0, 1) := by decide +kernel
theorem dX12_parse_1 : decode cX12_parse 1 = .ok (.iconst (-1), 1) := by decide +kernel
theorem dX12_parse_2 : decode cX12_parse 2 = .ok (.putfield 387, 3) := by decide +kernel
theorem dX12_parse_5 : decode cX12_parse 5 = .ok (.aload_n 0, 1) := by decide +kernel
theorem dX12_parse_6 : decode cX12_parse 6 = .ok (.iconst 1, 1) := by decide +kernel
theorem dX12_parse_7 : decode cX12_parse 7 = .ok (.invokevirtual 390, 3) := by decide +kernel
theorem dX12_parse_10 : decode cX12_parse 10 = .ok (.aload_n 0, 1) := by decide +kernel
theorem dX12_parse_11 : decode cX12_parse 11 = .ok (.getfield 387, 3) := by decide +kernel
theorem dX12_parse_14 : decode cX12_parse 14 = .ok (.ifCond .lt 270, 3) := by decide +kernel
theorem dX12_parse_17 : decode cX12_parse 17 = .ok (.aload_n 0, 1) := by decide +kernel
theorem dX12_parse_18 : decode cX12_parse 18 = .ok (.getfield 291, 3) := by decide +kernel
theorem dX12_parse_21 : decode cX12_parse 21 = .ok (.ifCond .ne 263, 3) := by decide +kernel
theorem dX12_parse_24 : decode cX12_parse 24 = .ok (.aload_n 0, 1) := by decide +kernel
theorem dX12_parse_25 : decode cX12_parse 25 = .ok (.getfield 174, 3) := by decide +kernel
theorem dX12_parse_28 : decode cX12_parse 28 = .ok (.aload_n 0, 1) := by decide +kernel
theorem dX12_parse_29 : decode cX12_parse 29 = .ok (.getfield 387, 3) := by decide +kernel
theorem dX12_parse_32 : decode cX12_parse 32 = .ok (.iaload, 1) := by decide +kernel
theorem dX12_parse_33 : decode cX12_parse 33 = .ok (.tableswitch 240 1 15 #[75, 86, 97, 108, 119, 130, 141, 152, 163, 174, 185, 196, 207, 218, 229], 75) := by decide +kernel
theorem dX12_parse_108 : decode cX12_parse 108 = .ok (.aload_n 0, 1) := by decide +kernel
theorem dX12_parse_109 : decode cX12_parse 109 = .ok (.aload_n 0, 1) := by decide +kernel
theorem dX12_parse_110 : decode cX12_parse 110 = .ok (.getfield 387, 3) := by decide +kernel
theorem dX12_parse_113 : decode cX12_parse 113 = .ok (.invokevirtual 399, 3) := by decide +kernel
theorem dX12_parse_116 : decode cX12_parse 116 = .ok (.goto (-106), 3) := by decide +kernel
theorem dX12_parse_119 : decode cX12_parse 119 = .ok (.aload_n 0, 1) := by decide +kernel
theorem dX12_parse_120 : decode cX12_parse 120 = .ok (.aload_n 0, 1) := by decide +kernel
theorem dX12_parse_121 : decode cX12_parse 121 = .ok (.getfield 387, 3) := by decide +kernel
theorem dX12_parse_124 : decode cX12_parse 124 = .ok (.invokevirtual 402, 3) := by decide +kernel
theorem dX12_parse_127 : decode cX12_parse 127 = .ok (.goto (-117), 3) := by decide +kernel
theorem dX12_parse_130 : decode cX12_parse 130 = .ok (.aload_n 0, 1) := by decide +kernel
theorem dX12_parse_131 : decode cX12_parse 131 = .ok (.aload_n 0, 1) := by decide +kernel
theorem dX12_parse_132 : decode cX12_parse 132 = .ok (.getfield 387, 3) := by decide +kernel
theorem dX12_parse_135 : decode cX12_parse 135 = .ok (.invokevirtual 405, 3) := by decide +kernel
theorem dX12_parse_138 : decode cX12_parse 138 = .ok (.goto (-128), 3) := by decide +kernel
theorem dX12_parse_141 : decode cX12_parse 141 = .ok (.aload_n 0, 1) := by decide +kernel
theorem dX12_parse_142 : decode cX12_parse 142 = .ok (.aload_n 0, 1) := by decide +kernel
theorem dX12_parse_143 : decode cX12_parse 143 = .ok (.getfield 387, 3) := by decide +kernel
theorem dX12_parse_146 : decode cX12_parse 146 = .ok (.invokevirtual 408, 3) := by decide +kernel
theorem dX12_parse_149 : decode cX12_parse 149 = .ok (.goto (-139), 3) := by decide +kernel
theorem dX12_parse_152 : decode cX12_parse 152 = .ok (.aload_n 0, 1) := by decide +kernel
theorem dX12_parse_153 : decode cX12_parse 153 = .ok (.aload_n 0, 1) := by decide +kernel
theorem dX12_parse_154 : decode cX12_parse 154 = .ok (.getfield 387, 3) := by decide +kernel
theorem dX12_parse_157 : decode cX12_parse 157 = .ok (.invokevirtual 411, 3) := by decide +kernel
theorem dX12_parse_160 : decode cX12_parse 160 = .ok (.goto (-150), 3) := by decide +kernel
theorem dX12_parse_163 : decode cX12_parse 163 = .ok (.aload_n 0, 1) := by decide +kernel
theorem dX12_parse_164 : decode cX12_parse 164 = .ok (.aload_n 0, 1) := by decide +kernel
theorem dX12_parse_165 : decode cX12_parse 165 = .ok (.getfield 387, 3) := by decide +kernel
theorem dX12_parse_168 : decode cX12_parse 168 = .ok (.invokevirtual 414, 3) := by decide +kernel
theorem dX12_parse_171 : decode cX12_parse 171 = .ok (.goto (-161), 3) := by decide +kernel
theorem dX12_parse_174 : decode cX12_parse 174 = .ok (.aload_n 0, 1) := by decide +kernel
theorem dX12_parse_175 : decode cX12_parse 175 = .ok (.aload_n 0, 1) := by decide +kernel
theorem dX12_parse_176 : decode cX12_parse 176 = .ok (.getfield 387, 3) := by decide +kernel
theorem dX12_parse_179 : decode cX12_parse 179 = .ok (.invokevirtual 417, 3) := by decide +kernel
theorem dX12_parse_182 : decode cX12_parse 182 = .ok (.goto (-172), 3) := by decide +kernel
theorem dX12_parse_185 : decode cX12_parse 185 = .ok (.aload_n 0, 1) := by decide +kernel
theorem dX12_parse_186 : decode cX12_parse 186 = .ok (.aload_n 0, 1) := by decide +kernel
theorem dX12_parse_187 : decode cX12_parse 187 = .ok (.getfield 387, 3) := by decide +kernel
theorem dX12_parse_190 : decode cX12_parse 190 = .ok (.invokevirtual 420, 3) := by decide +kernel
theorem dX12_parse_193 : decode cX12_parse 193 = .ok (.goto (-183), 3) := by decide +kernel
theorem dX12_parse_196 : decode cX12_parse 196 = .ok (.aload_n 0, 1) := by decide +kernel
theorem dX12_parse_197 : decode cX12_parse 197 = .ok (.aload_n 0, 1) := by decide +kernel
theorem dX12_parse_198 : decode cX12_parse 198 = .ok (.getfield 387, 3) := by decide +kernel
theorem dX12_parse_201 : decode cX12_parse 201 = .ok (.invokevirtual 423, 3) := by decide +kernel
theorem dX12_parse_204 : decode cX12_parse 204 = .ok (.goto (-194), 3) := by decide +kernel
theorem dX12_parse_207 : decode cX12_parse 207 = .ok (.aload_n 0, 1) := by decide +kernel
theorem dX12_parse_208 : decode cX12_parse 208 = .ok (.aload_n 0, 1) := by decide +kernel
theorem dX12_parse_209 : decode cX12_parse 209 = .ok (.getfield 387, 3) := by decide +kernel
theorem dX12_parse_212 : decode cX12_parse 212 = .ok (.invokevirtual 426, 3) := by decide +kernel
theorem dX12_parse_215 : decode cX12_parse 215 = .ok (.goto (-205), 3) := by decide +kernel
theorem dX12_parse_218 : decode cX12_parse 218 = .ok (.aload_n 0, 1) := by decide +kernel
theorem dX12_parse_219 : decode cX12_parse 219 = .ok (.aload_n 0, 1) := by decide +kernel
theorem dX12_parse_220 : decode cX12_parse 220 = .ok (.getfield 387, 3) := by decide +kernel
theorem dX12_parse_223 : decode cX12_parse 223 = .ok (.invokevirtual 429, 3) := by decide +kernel
theorem dX12_parse_226 : decode cX12_parse 226 = .ok (.goto (-216), 3) := by decide +kernel
theorem dX12_parse_229 : decode cX12_parse 229 = .ok (.aload_n 0, 1) := by decide +kernel
theorem dX12_parse_230 : decode cX12_parse 230 = .ok (.aload_n 0, 1) := by decide +kernel
theorem dX12_parse_231 : decode cX12_parse 231 = .ok (.getfield 387, 3) := by decide +kernel
theorem dX12_parse_234 : decode cX12_parse 234 = .ok (.invokevirtual 432, 3) := by decide +kernel
theorem dX12_parse_237 : decode cX12_parse 237 = .ok (.goto (-227), 3) := by decide +kernel
theorem dX12_parse_240 : decode cX12_parse 240 = .ok (.aload_n 0, 1) := by decide +kernel
theorem dX12_parse_241 : decode cX12_parse 241 = .ok (.aload_n 0, 1) := by decide +kernel
theorem dX12_parse_242 : decode cX12_parse 242 = .ok (.getfield 387, 3) := by decide +kernel
theorem dX12_parse_245 : decode cX12_parse 245 = .ok (.invokevirtual 435, 3) := by decide +kernel
theorem dX12_parse_248 : decode cX12_parse 248 = .ok (.goto (-238), 3) := by decide +kernel
theorem dX12_parse_251 : decode cX12_parse 251 = .ok (.aload_n 0, 1) := by decide +kernel
theorem dX12_parse_252 : decode cX12_parse 252 = .ok (.aload_n 0, 1) := by decide +kernel
theorem dX12_parse_253 : decode cX12_parse 253 = .ok (.getfield 387, 3) := by decide +kernel
theorem dX12_parse_256 : decode cX12_parse 256 = .ok (.invokevirtual 438, 3) := by decide +kernel
theorem dX12_parse_259 : decode cX12_parse 259 = .ok (.goto (-249), 3) := by decide +kernel
theorem dX12_parse_262 : decode cX12_parse 262 = .ok (.aload_n 0, 1) := by decide +kernel
theorem dX12_parse_263 : decode cX12_parse 263 = .ok (.aload_n 0, 1) := by decide +kernel
theorem dX12_parse_264 : decode cX12_parse 264 = .ok (.getfield 387, 3) := by decide +kernel
theorem dX12_parse_267 : decode cX12_parse 267 = .ok (.invokevirtual 441, 3) := by decide +kernel
theorem dX12_parse_270 : decode cX12_parse 270 = .ok (.goto (-260), 3) := by decide +kernel
theorem dX12_parse_273 : decode cX12_parse 273 = .ok (.aload_n 0, 1) := by decide +kernel
theorem dX12_parse_274 : decode cX12_parse 274 = .ok (.aload_n 0, 1) := by decide +kernel
theorem dX12_parse_275 : decode cX12_parse 275 = .ok (.getfield 387, 3) := by decide +kernel
theorem dX12_parse_278 : decode cX12_parse 278 = .ok (.invokevirtual 444, 3) := by decide +kernel
theorem dX12_parse_281 : decode cX12_parse 281 = .ok (.goto (-271), 3) := by decide +kernel
theorem dX12_parse_284 : decode cX12_parse 284 = .ok (.return_, 1) := by decide +kernel
theorem dX12_can_0 : decode cX12_can 0 = .ok (.aload_n 0, 1) := by decide +kernel
theorem dX12_can_1 : decode cX12_can 1 = .ok (.getfield 291, 3) := by decide +kernel
theorem dX12_can_4 : decode cX12_can 4 = .ok (.ifCond .ne 38, 3) := by decide +kernel
theorem dX12_can_7 : decode cX12_can 7 = .ok (.iload_n 1, 1) := by decide +kernel
theorem dX12_can_8 : decode cX12_can 8 = .ok (.ifCond .eq 12, 3) := by decide +kernel
theorem dX12_can_11 : decode cX12_can 11 = .ok (.aload_n 0, 1) := by decide +kernel
theorem dX12_can_12 : decode cX12_can 12 = .ok (.getfield 307, 3) := by decide +kernel
theorem dX12_can_15 : decode cX12_can 15 = .ok (.bipush 6, 2) := by decide +kernel
theorem dX12_can_17 : decode cX12_can 17 = .ok (.if_icmp .ne 25, 3) := by decide +kernel
theorem dX12_can_20 : decode cX12_can 20 = .ok (.aload_n 0, 1) := by decide +kernel
theorem dX12_can_21 : decode cX12_can 21 = .ok (.aload_n 0, 1) := by decide +kernel
theorem dX12_can_22 : decode cX12_can 22 = .ok (.getfield 307, 3) := by decide +kernel
theorem dX12_can_25 : decode cX12_can 25 = .ok (.bipush 6, 2) := by decide +kernel
theorem dX12_can_27 : decode cX12_can 27 = .ok (.if_icmp .ne 7, 3) := by decide +kernel
theorem dX12_can_30 : decode cX12_can 30 = .ok (.iconst 1, 1) := by decide +kernel
theorem dX12_can_31 : decode cX12_can 31 = .ok (.goto 4, 3) := by decide +kernel
theorem dX12_can_34 : decode cX12_can 34 = .ok (.iconst 2, 1) := by decide +kernel
theorem dX12_can_35 : decode cX12_can 35 = .ok (.aload_n 0, 1) := by decide +kernel
theorem dX12_can_36 : decode cX12_can 36 = .ok (.getfield 304, 3) := by decide +kernel
theorem dX12_can_39 : decode cX12_can 39 = .ok (.invokevirtual 337, 3) := by decide +kernel
theorem dX12_can_42 : decode cX12_can 42 = .ok (.aload_n 0, 1) := by decide +kernel
theorem dX12_can_43 : decode cX12_can 43 = .ok (.getfield 291, 3) := by decide +kernel
theorem dX12_can_46 : decode cX12_can 46 = .ok (.ifCond .ne 7, 3) := by decide +kernel
theorem dX12_can_49 : decode cX12_can 49 = .ok (.iconst 1, 1) := by decide +kernel
theorem dX12_can_50 : decode cX12_can 50 = .ok (.goto 4, 3) := by decide +kernel
theorem dX12_can_53 : decode cX12_can 53 = .ok (.iconst 0, 1) := by decide +kernel
theorem dX12_can_54 : decode cX12_can 54 = .ok (.ireturn, 1) := by decide +kernel
theorem dX12_read_0 : decode cX12_read 0 = .ok (.aload_n 0, 1) := by decide +kernel
theorem dX12_read_1 : decode cX12_read 1 = .ok (.iconst 0, 1) := by decide +kernel
theorem dX12_read_2 : decode cX12_read 2 = .ok (.putfield 273, 3) := by decide +kernel
theorem dX12_read_5 : decode cX12_read 5 = .ok (.aload_n 0, 1) := by decide +kernel
theorem dX12_read_6 : decode cX12_read 6 = .ok (.iconst 0, 1) := by decide +kernel
theorem dX12_read_7 : decode cX12_read 7 = .ok (.putfield 361, 3) := by decide +kernel
theorem dX12_read_10 : decode cX12_read 10 = .ok (.aload_n 0, 1) := by decide +kernel
theorem dX12_read_11 : decode cX12_read 11 = .ok (.iconst 0, 1) := by decide +kernel
theorem dX12_read_12 : decode cX12_read 12 = .ok (.putfield 364, 3) := by decide +kernel
theorem dX12_read_15 : decode cX12_read 15 = .ok (.aload_n 0, 1) := by decide +kernel
theorem dX12_read_16 : decode cX12_read 16 = .ok (.iconst 0, 1) := by decide +kernel
theorem dX12_read_17 : decode cX12_read 17 = .ok (.putfield 367, 3) := by decide +kernel
theorem dX12_read_20 : decode cX12_read 20 = .ok (.aload_n 0, 1) := by decide +kernel
theorem dX12_read_21 : decode cX12_read 21 = .ok (.iconst 0, 1) := by decide +kernel
theorem dX12_read_22 : decode cX12_read 22 = .ok (.putfield 348, 3) := by decide +kernel
theorem dX12_read_25 : decode cX12_read 25 = .ok (.aload_n 0, 1) := by decide +kernel
theorem dX12_read_26 : decode cX12_read 26 = .ok (.iconst 0, 1) := by decide +kernel
theorem dX12_read_27 : decode cX12_read 27 = .ok (.putfield 494, 3) := by decide +kernel
theorem dX12_read_30 : decode cX12_read 30 = .ok (.aload_n 0, 1) := by decide +kernel
theorem dX12_read_31 : decode cX12_read 31 = .ok (.iconst 0, 1) := by decide +kernel
theorem dX12_read_32 : decode cX12_read 32 = .ok (.putfield 500, 3) := by decide +kernel
theorem dX12_read_35 : decode cX12_read 35 = .ok (.aload_n 0, 1) := by decide +kernel
theorem dX12_read_36 : decode cX12_read 36 = .ok (.iconst 0, 1) := by decide +kernel
theorem dX12_read_37 : decode cX12_read 37 = .ok (.putfield 527, 3) := by decide +kernel
theorem dX12_read_40 : decode cX12_read 40 = .ok (.aload_n 0, 1) := by decide +kernel
theorem dX12_read_41 : decode cX12_read 41 = .ok (.iconst 0, 1) := by decide +kernel
theorem dX12_read_42 : decode cX12_read 42 = .ok (.putfield 358, 3) := by decide +kernel
theorem dX12_read_45 : decode cX12_read 45 = .ok (.aload_n 0, 1) := by decide +kernel
theorem dX12_read_46 : decode cX12_read 46 = .ok (.iconst 0, 1) := by decide +kernel
theorem dX12_read_47 : decode cX12_read 47 = .ok (.putfield 478, 3) := by decide +kernel
theorem dX12_read_50 : decode cX12_read 50 = .ok (.aload_n 0, 1) := by decide +kernel
theorem dX12_read_51 : decode cX12_read 51 = .ok (.iconst 0, 1) := by decide +kernel
theorem dX12_read_52 : decode cX12_read 52 = .ok (.putfield 549, 3) := by decide +kernel
theorem dX12_read_55 : decode cX12_read 55 = .ok (.aload_n 0, 1) := by decide +kernel
theorem dX12_read_56 : decode cX12_read 56 = .ok (.iconst 0, 1) := by decide +kernel
theorem dX12_read_57 : decode cX12_read 57 = .ok (.putfield 561, 3) := by decide +kernel
theorem dX12_read_60 : decode cX12_read 60 = .ok (.aload_n 0, 1) := by decide +kernel
theorem dX12_read_61 : decode cX12_read 61 = .ok (.iconst 0, 1) := by decide +kernel
theorem dX12_read_62 : decode cX12_read 62 = .ok (.putfield 377, 3) := by decide +kernel
theorem dX12_read_65 : decode cX12_read 65 = .ok (.aload_n 0, 1) := by decide +kernel
theorem dX12_read_66 : decode cX12_read 66 = .ok (.iconst 0, 1) := by decide +kernel
theorem dX12_read_67 : decode cX12_read 67 = .ok (.putfield 384, 3) := by decide +kernel
theorem dX12_read_70 : decode cX12_read 70 = .ok (.aload_n 0, 1) := by decide +kernel
theorem dX12_read_71 : decode cX12_read 71 = .ok (.iconst 0, 1) := by decide +kernel
theorem dX12_read_72 : decode cX12_read 72 = .ok (.putfield 370, 3) := by decide +kernel
theorem dX12_read_75 : decode cX12_read 75 = .ok (.aload_n 0, 1) := by decide +kernel
theorem dX12_read_76 : decode cX12_read 76 = .ok (.iconst 0, 1) := by decide +kernel
theorem dX12_read_77 : decode cX12_read 77 = .ok (.putfield 297, 3) := by decide +kernel
theorem dX12_read_80 : decode cX12_read 80 = .ok (.aload_n 0, 1) := by decide +kernel
theorem dX12_read_81 : decode cX12_read 81 = .ok (.iconst 0, 1) := by decide +kernel
theorem dX12_read_82 : decode cX12_read 82 = .ok (.putfield 291, 3) := by decide +kernel
theorem dX12_read_85 : decode cX12_read 85 = .ok (.aload_n 0, 1) := by decide +kernel
theorem dX12_read_86 : decode cX12_read 86 = .ok (.iconst (-1), 1) := by decide +kernel
theorem dX12_read_87 : decode cX12_read 87 = .ok (.putfield 334, 3) := by decide +kernel
theorem dX12_read_90 : decode cX12_read 90 = .ok (.aload_n 0, 1) := by decide +kernel
theorem dX12_read_91 : decode cX12_read 91 = .ok (.iconst 0, 1) := by decide +kernel
theorem dX12_read_92 : decode cX12_read 92 = .ok (.putfield 294, 3) := by decide +kernel
theorem dX12_read_95 : decode cX12_read 95 = .ok (.aload_n 0, 1) := by decide +kernel
theorem dX12_read_96 : decode cX12_read 96 = .ok (.ldc2_w 564, 3) := by decide +kernel
theorem dX12_read_99 : decode cX12_read 99 = .ok (.iconst 0, 1) := by decide +kernel
theorem dX12_read_100 : decode cX12_read 100 = .ok (.invokevirtual 506, 3) := by decide +kernel
theorem dX12_read_103 : decode cX12_read 103 = .ok (.pop, 1) := by decide +kernel
theorem dX12_read_104 : decode cX12_read 104 = .ok (.aload_n 0, 1) := by decide +kernel
theorem dX12_read_105 : decode cX12_read 105 = .ok (.ldc2_w 566, 3) := by decide +kernel
theorem dX12_read_108 : decode cX12_read 108 = .ok (.iconst 0, 1) := by decide +kernel
theorem dX12_read_109 : decode cX12_read 109 = .ok (.invokevirtual 506, 3) := by decide +kernel
theorem dX12_read_112 : decode cX12_read 112 = .ok (.pop, 1) := by decide +kernel
theorem dX12_read_113 : decode cX12_read 113 = .ok (.aload_n 0, 1) := by decide +kernel
theorem dX12_read_114 : decode cX12_read 114 = .ok (.invokevirtual 345, 3) := by decide +kernel
theorem dX12_read_117 : decode cX12_read 117 = .ok (.aload_n 0, 1) := by decide +kernel
theorem dX12_read_118 : decode cX12_read 118 = .ok (.invokevirtual 568, 3) := by decide +kernel
theorem dX12_read_121 : decode cX12_read 121 = .ok (.aload_n 0, 1) := by decide +kernel
theorem dX12_read_122 : decode cX12_read 122 = .ok (.aload_n 0, 1) := by decide +kernel
theorem dX12_read_123 : decode cX12_read 123 = .ok (.getfield 307, 3) := by decide +kernel
theorem dX12_read_126 : decode cX12_read 126 = .ok (.ifCond .ne 7, 3) := by decide +kernel
theorem dX12_read_129 : decode cX12_read 129 = .ok (.iconst 1, 1) := by decide +kernel
theorem dX12_read_130 : decode cX12_read 130 = .ok (.goto 4, 3) := by decide +kernel
theorem dX12_read_133 : decode cX12_read 133 = .ok (.iconst 0, 1) := by decide +kernel
theorem dX12_read_134 : decode cX12_read 134 = .ok (.invokevirtual 341, 3) := by decide +kernel
theorem dX12_read_137 : decode cX12_read 137 = .ok (.pop, 1) := by decide +kernel
theorem dX12_read_138 : decode cX12_read 138 = .ok (.aload_n 0, 1) := by decide +kernel
theorem dX12_read_139 : decode cX12_read 139 = .ok (.iconst 0, 1) := by decide +kernel
theorem dX12_read_140 : decode cX12_read 140 = .ok (.putfield 276, 3) := by decide +kernel
theorem dX12_read_143 : decode cX12_read 143 = .ok (.aload_n 0, 1) := by decide +kernel
theorem dX12_read_144 : decode cX12_read 144 = .ok (.getfield 291, 3) := by decide +kernel
theorem dX12_read_147 : decode cX12_read 147 = .ok (.ifCond .ne 20, 3) := by decide +kernel
theorem dX12_read_150 : decode cX12_read 150 = .ok (.aload_n 0, 1) := by decide +kernel
theorem dX12_read_151 : decode cX12_read 151 = .ok (.getfield 334, 3) := by decide +kernel
theorem dX12_read_154 : decode cX12_read 154 = .ok (.ifCond .lt 13, 3) := by decide +kernel
theorem dX12_read_157 : decode cX12_read 157 = .ok (.aload_n 0, 1) := by decide +kernel
theorem dX12_read_158 : decode cX12_read 158 = .ok (.bipush 7, 2) := by decide +kernel
theorem dX12_read_160 : decode cX12_read 160 = .ok (.aload_n 0, 1) := by decide +kernel
theorem dX12_read_161 : decode cX12_read 161 = .ok (.getfield 334, 3) := by decide +kernel
theorem dX12_read_164 : decode cX12_read 164 = .ok (.invokevirtual 337, 3) := by decide +kernel
theorem dX12_read_167 : decode cX12_read 167 = .ok (.aload_n 0, 1) := by decide +kernel
theorem dX12_read_168 : decode cX12_read 168 = .ok (.aload_n 0, 1) := by decide +kernel
theorem dX12_read_169 : decode cX12_read 169 = .ok (.getfield 396, 3) := by decide +kernel
theorem dX12_read_172 : decode cX12_read 172 = .ok (.putfield 571, 3) := by decide +kernel
theorem dX12_read_175 : decode cX12_read 175 = .ok (.aload_n 0, 1) := by decide +kernel
theorem dX12_read_176 : decode cX12_read 176 = .ok (.aload_n 0, 1) := by decide +kernel
theorem dX12_read_177 : decode cX12_read 177 = .ok (.getfield 291, 3) := by decide +kernel
theorem dX12_read_180 : decode cX12_read 180 = .ok (.putfield 574, 3) := by decide +kernel
theorem dX12_read_183 : decode cX12_read 183 = .ok (.aload_n 0, 1) := by decide +kernel
theorem dX12_read_184 : decode cX12_read 184 = .ok (.aload_n 0, 1) := by decide +kernel
theorem dX12_read_185 : decode cX12_read 185 = .ok (.getfield 291, 3) := by decide +kernel
theorem dX12_read_188 : decode cX12_read 188 = .ok (.ifCond .ne 7, 3) := by decide +kernel
theorem dX12_read_191 : decode cX12_read 191 = .ok (.iconst 1, 1) := by decide +kernel
theorem dX12_read_192 : decode cX12_read 192 = .ok (.goto 4, 3) := by decide +kernel
theorem dX12_read_195 : decode cX12_read 195 = .ok (.iconst 0, 1) := by decide +kernel
theorem dX12_read_196 : decode cX12_read 196 = .ok (.putfield 577, 3) := by decide +kernel
theorem dX12_read_199 : decode cX12_read 199 = .ok (.aload_n 0, 1) := by decide +kernel
theorem dX12_read_200 : decode cX12_read 200 = .ok (.iconst 0, 1) := by decide +kernel
theorem dX12_read_201 : decode cX12_read 201 = .ok (.putfield 580, 3) := by decide +kernel
theorem dX12_read_204 : decode cX12_read 204 = .ok (.aload_n 0, 1) := by decide +kernel
theorem dX12_read_205 : decode cX12_read 205 = .ok (.iconst 0, 1) := by decide +kernel
theorem dX12_read_206 : decode cX12_read 206 = .ok (.putfield 583, 3) := by decide +kernel
theorem dX12_read_209 : decode cX12_read 209 = .ok (.aload_n 0, 1) := by decide +kernel
theorem dX12_read_210 : decode cX12_read 210 = .ok (.getfield 291, 3) := by decide +kernel
theorem dX12_read_213 : decode cX12_read 213 = .ok (.ifCond .eq 13, 3) := by decide +kernel
theorem dX12_read_216 : decode cX12_read 216 = .ok (.bipush (-10), 2) := by decide +kernel
theorem dX12_read_218 : decode cX12_read 218 = .ok (.aload_n 0, 1) := by decide +kernel
theorem dX12_read_219 : decode cX12_read 219 = .ok (.getfield 331, 3) := by decide +kernel
theorem dX12_read_222 : decode cX12_read 222 = .ok (.isub, 1) := by decide +kernel
theorem dX12_read_223 : decode cX12_read 223 = .ok (.goto 7, 3) := by decide +kernel
theorem dX12_read_226 : decode cX12_read 226 = .ok (.aload_n 0, 1) := by decide +kernel
theorem dX12_read_227 : decode cX12_read 227 = .ok (.getfield 494, 3) := by decide +kernel
theorem dX12_read_230 : decode cX12_read 230 = .ok (.ireturn, 1) := by decide +kernel
theorem dX12_fault_0 : decode cX12_fault 0 = .ok (.aload_n 0, 1) := by decide +kernel
theorem dX12_fault_1 : decode cX12_fault 1 = .ok (.iconst 0, 1) := by decide +kernel
theorem dX12_fault_2 : decode cX12_fault 2 = .ok (.putfield 273, 3) := by decide +kernel
theorem dX12_fault_5 : decode cX12_fault 5 = .ok (.aload_n 0, 1) := by decide +kernel
theorem dX12_fault_6 : decode cX12_fault 6 = .ok (.getfield 574, 3) := by decide +kernel
theorem dX12_fault_9 : decode cX12_fault 9 = .ok (.ireturn, 1) := by decide +kernel
theorem dX12_program_0 : decode cX12_program 0 = .ok (.aload_n 0, 1) := by decide +kernel
theorem dX12_program_1 : decode cX12_program 1 = .ok (.iconst 0, 1) := by decide +kernel
theorem dX12_program_2 : decode cX12_program 2 = .ok (.putfield 273, 3) := by decide +kernel
theorem dX12_program_5 : decode cX12_program 5 = .ok (.iload_n 1, 1) := by decide +kernel
theorem dX12_program_6 : decode cX12_program 6 = .ok (.iconst 0, 1) := by decide +kernel
theorem dX12_program_7 : decode cX12_program 7 = .ok (.iconst 3, 1) := by decide +kernel
theorem dX12_program_8 : decode cX12_program 8 = .ok (.invokestatic 279, 3) := by decide +kernel
theorem dX12_program_11 : decode cX12_program 11 = .ok (.ifCond .ne 5, 3) := by decide +kernel
theorem dX12_program_14 : decode cX12_program 14 = .ok (.iconst (-1), 1) := by decide +kernel
theorem dX12_program_15 : decode cX12_program 15 = .ok (.ireturn, 1) := by decide +kernel
theorem dX12_program_16 : decode cX12_program 16 = .ok (.aload_n 0, 1) := by decide +kernel
theorem dX12_program_17 : decode cX12_program 17 = .ok (.getfield 577, 3) := by decide +kernel
theorem dX12_program_20 : decode cX12_program 20 = .ok (.ifCond .ne 6, 3) := by decide +kernel
theorem dX12_program_23 : decode cX12_program 23 = .ok (.bipush (-3), 2) := by decide +kernel
theorem dX12_program_25 : decode cX12_program 25 = .ok (.ireturn, 1) := by decide +kernel
theorem dX12_program_26 : decode cX12_program 26 = .ok (.iload_n 1, 1) := by decide +kernel
theorem dX12_program_27 : decode cX12_program 27 = .ok (.ifCond .ne 10, 3) := by decide +kernel
theorem dX12_program_30 : decode cX12_program 30 = .ok (.aload_n 0, 1) := by decide +kernel
theorem dX12_program_31 : decode cX12_program 31 = .ok (.getfield 494, 3) := by decide +kernel
theorem dX12_program_34 : decode cX12_program 34 = .ok (.goto 39, 3) := by decide +kernel
theorem dX12_program_37 : decode cX12_program 37 = .ok (.iload_n 1, 1) := by decide +kernel
theorem dX12_program_38 : decode cX12_program 38 = .ok (.iconst 1, 1) := by decide +kernel
theorem dX12_program_39 : decode cX12_program 39 = .ok (.if_icmp .ne 18, 3) := by decide +kernel
theorem dX12_program_42 : decode cX12_program 42 = .ok (.aload_n 0, 1) := by decide +kernel
theorem dX12_program_43 : decode cX12_program 43 = .ok (.getfield 571, 3) := by decide +kernel
theorem dX12_program_46 : decode cX12_program 46 = .ok (.ifCond .eq 7, 3) := by decide +kernel
theorem dX12_program_49 : decode cX12_program 49 = .ok (.iconst 1, 1) := by decide +kernel
theorem dX12_program_50 : decode cX12_program 50 = .ok (.goto 23, 3) := by decide +kernel
theorem dX12_program_53 : decode cX12_program 53 = .ok (.iconst 0, 1) := by decide +kernel
theorem dX12_program_54 : decode cX12_program 54 = .ok (.goto 19, 3) := by decide +kernel
theorem dX12_program_57 : decode cX12_program 57 = .ok (.iload_n 1, 1) := by decide +kernel
theorem dX12_program_58 : decode cX12_program 58 = .ok (.iconst 2, 1) := by decide +kernel
theorem dX12_program_59 : decode cX12_program 59 = .ok (.if_icmp .ne 10, 3) := by decide +kernel
theorem dX12_program_62 : decode cX12_program 62 = .ok (.aload_n 0, 1) := by decide +kernel
theorem dX12_program_63 : decode cX12_program 63 = .ok (.getfield 500, 3) := by decide +kernel
theorem dX12_program_66 : decode cX12_program 66 = .ok (.goto 7, 3) := by decide +kernel
theorem dX12_program_69 : decode cX12_program 69 = .ok (.aload_n 0, 1) := by decide +kernel
theorem dX12_program_70 : decode cX12_program 70 = .ok (.getfield 527, 3) := by decide +kernel
theorem dX12_program_73 : decode cX12_program 73 = .ok (.ireturn, 1) := by decide +kernel
theorem dX12_run_0 : decode cX12_run 0 = .ok (.aload_n 0, 1) := by decide +kernel
theorem dX12_run_1 : decode cX12_run 1 = .ok (.iconst 0, 1) := by decide +kernel
theorem dX12_run_2 : decode cX12_run 2 = .ok (.putfield 273, 3) := by decide +kernel
theorem dX12_run_5 : decode cX12_run 5 = .ok (.aload_n 0, 1) := by decide +kernel
theorem dX12_run_6 : decode cX12_run 6 = .ok (.getfield 577, 3) := by decide +kernel
theorem dX12_run_9 : decode cX12_run 9 = .ok (.ifCond .ne 6, 3) := by decide +kernel
theorem dX12_run_12 : decode cX12_run 12 = .ok (.bipush (-3), 2) := by decide +kernel
theorem dX12_run_14 : decode cX12_run 14 = .ok (.ireturn, 1) := by decide +kernel
theorem dX12_run_15 : decode cX12_run 15 = .ok (.iconst 0, 1) := by decide +kernel
theorem dX12_run_16 : decode cX12_run 16 = .ok (.istore_n 3, 1) := by decide +kernel
theorem dX12_run_17 : decode cX12_run 17 = .ok (.iload_n 3, 1) := by decide +kernel
theorem dX12_run_18 : decode cX12_run 18 = .ok (.sipush 460, 3) := by decide +kernel
theorem dX12_run_21 : decode cX12_run 21 = .ok (.if_icmp .ge 16, 3) := by decide +kernel
theorem dX12_run_24 : decode cX12_run 24 = .ok (.aload_n 0, 1) := by decide +kernel
theorem dX12_run_25 : decode cX12_run 25 = .ok (.getfield 213, 3) := by decide +kernel
theorem dX12_run_28 : decode cX12_run 28 = .ok (.iload_n 3, 1) := by decide +kernel
theorem dX12_run_29 : decode cX12_run 29 = .ok (.iconst 0, 1) := by decide +kernel
theorem dX12_run_30 : decode cX12_run 30 = .ok (.iastore, 1) := by decide +kernel
theorem dX12_run_31 : decode cX12_run 31 = .ok (.iinc 3 1, 3) := by decide +kernel
theorem dX12_run_34 : decode cX12_run 34 = .ok (.goto (-17), 3) := by decide +kernel
theorem dX12_run_37 : decode cX12_run 37 = .ok (.iconst 0, 1) := by decide +kernel
theorem dX12_run_38 : decode cX12_run 38 = .ok (.istore_n 3, 1) := by decide +kernel
theorem dX12_run_39 : decode cX12_run 39 = .ok (.iload_n 3, 1) := by decide +kernel
theorem dX12_run_40 : decode cX12_run 40 = .ok (.bipush 8, 2) := by decide +kernel
theorem dX12_run_42 : decode cX12_run 42 = .ok (.if_icmp .ge 16, 3) := by decide +kernel
theorem dX12_run_45 : decode cX12_run 45 = .ok (.aload_n 0, 1) := by decide +kernel
theorem dX12_run_46 : decode cX12_run 46 = .ok (.getfield 231, 3) := by decide +kernel
theorem dX12_run_49 : decode cX12_run 49 = .ok (.iload_n 3, 1) := by decide +kernel
theorem dX12_run_50 : decode cX12_run 50 = .ok (.iconst 0, 1) := by decide +kernel
theorem dX12_run_51 : decode cX12_run 51 = .ok (.iastore, 1) := by decide +kernel
theorem dX12_run_52 : decode cX12_run 52 = .ok (.iinc 3 1, 3) := by decide +kernel
theorem dX12_run_55 : decode cX12_run 55 = .ok (.goto (-16), 3) := by decide +kernel
theorem dX12_run_58 : decode cX12_run 58 = .ok (.aload_n 0, 1) := by decide +kernel
theorem dX12_run_59 : decode cX12_run 59 = .ok (.getfield 213, 3) := by decide +kernel
theorem dX12_run_62 : decode cX12_run 62 = .ok (.iconst 0, 1) := by decide +kernel
theorem dX12_run_63 : decode cX12_run 63 = .ok (.iload_n 1, 1) := by decide +kernel
theorem dX12_run_64 : decode cX12_run 64 = .ok (.iastore, 1) := by decide +kernel
theorem dX12_run_65 : decode cX12_run 65 = .ok (.aload_n 0, 1) := by decide +kernel
theorem dX12_run_66 : decode cX12_run 66 = .ok (.getfield 213, 3) := by decide +kernel
theorem dX12_run_69 : decode cX12_run 69 = .ok (.iconst 1, 1) := by decide +kernel
theorem dX12_run_70 : decode cX12_run 70 = .ok (.iload_n 2, 1) := by decide +kernel
theorem dX12_run_71 : decode cX12_run 71 = .ok (.iastore, 1) := by decide +kernel
theorem dX12_run_72 : decode cX12_run 72 = .ok (.aload_n 0, 1) := by decide +kernel
theorem dX12_run_73 : decode cX12_run 73 = .ok (.iconst 0, 1) := by decide +kernel
theorem dX12_run_74 : decode cX12_run 74 = .ok (.putfield 639, 3) := by decide +kernel
theorem dX12_run_77 : decode cX12_run 77 = .ok (.aload_n 0, 1) := by decide +kernel
theorem dX12_run_78 : decode cX12_run 78 = .ok (.iconst 0, 1) := by decide +kernel
theorem dX12_run_79 : decode cX12_run 79 = .ok (.putfield 583, 3) := by decide +kernel
theorem dX12_run_82 : decode cX12_run 82 = .ok (.aload_n 0, 1) := by decide +kernel
theorem dX12_run_83 : decode cX12_run 83 = .ok (.iconst 0, 1) := by decide +kernel
theorem dX12_run_84 : decode cX12_run 84 = .ok (.putfield 592, 3) := by decide +kernel
theorem dX12_run_87 : decode cX12_run 87 = .ok (.aload_n 0, 1) := by decide +kernel
theorem dX12_run_88 : decode cX12_run 88 = .ok (.iconst 0, 1) := by decide +kernel
theorem dX12_run_89 : decode cX12_run 89 = .ok (.putfield 600, 3) := by decide +kernel
theorem dX12_run_92 : decode cX12_run 92 = .ok (.aload_n 0, 1) := by decide +kernel
theorem dX12_run_93 : decode cX12_run 93 = .ok (.iconst 0, 1) := by decide +kernel
theorem dX12_run_94 : decode cX12_run 94 = .ok (.putfield 621, 3) := by decide +kernel
theorem dX12_run_97 : decode cX12_run 97 = .ok (.aload_n 0, 1) := by decide +kernel
theorem dX12_run_98 : decode cX12_run 98 = .ok (.iconst 0, 1) := by decide +kernel
theorem dX12_run_99 : decode cX12_run 99 = .ok (.putfield 586, 3) := by decide +kernel
theorem dX12_run_102 : decode cX12_run 102 = .ok (.aload_n 0, 1) := by decide +kernel
theorem dX12_run_103 : decode cX12_run 103 = .ok (.iconst 0, 1) := by decide +kernel
theorem dX12_run_104 : decode cX12_run 104 = .ok (.putfield 589, 3) := by decide +kernel
theorem dX12_run_107 : decode cX12_run 107 = .ok (.aload_n 0, 1) := by decide +kernel
theorem dX12_run_108 : decode cX12_run 108 = .ok (.iconst 1, 1) := by decide +kernel
theorem dX12_run_109 : decode cX12_run 109 = .ok (.putfield 580, 3) := by decide +kernel
