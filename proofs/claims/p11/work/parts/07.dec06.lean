theorem dX12_named_224 : decode cX12_named 224 = .ok (.pop, 1) := by decide +kernel
theorem dX12_named_225 : decode cX12_named 225 = .ok (.aload_n 0, 1) := by decide +kernel
theorem dX12_named_226 : decode cX12_named 226 = .ok (.bipush 59, 2) := by decide +kernel
theorem dX12_named_228 : decode cX12_named 228 = .ok (.invokevirtual 355, 3) := by decide +kernel
theorem dX12_named_231 : decode cX12_named 231 = .ok (.pop, 1) := by decide +kernel
theorem dX12_named_232 : decode cX12_named 232 = .ok (.aload_n 0, 1) := by decide +kernel
theorem dX12_named_233 : decode cX12_named 233 = .ok (.iconst 1, 1) := by decide +kernel
theorem dX12_named_234 : decode cX12_named 234 = .ok (.invokevirtual 490, 3) := by decide +kernel
theorem dX12_named_237 : decode cX12_named 237 = .ok (.goto 18, 3) := by decide +kernel
theorem dX12_named_240 : decode cX12_named 240 = .ok (.aload_n 0, 1) := by decide +kernel
theorem dX12_named_241 : decode cX12_named 241 = .ok (.getfield 180, 3) := by decide +kernel
theorem dX12_named_244 : decode cX12_named 244 = .ok (.iload_n 1, 1) := by decide +kernel
theorem dX12_named_245 : decode cX12_named 245 = .ok (.iload 5, 2) := by decide +kernel
theorem dX12_named_247 : decode cX12_named 247 = .ok (.iastore, 1) := by decide +kernel
theorem dX12_named_248 : decode cX12_named 248 = .ok (.aload_n 0, 1) := by decide +kernel
theorem dX12_named_249 : decode cX12_named 249 = .ok (.iconst 2, 1) := by decide +kernel
theorem dX12_named_250 : decode cX12_named 250 = .ok (.bipush 16, 2) := by decide +kernel
theorem dX12_named_252 : decode cX12_named 252 = .ok (.invokevirtual 393, 3) := by decide +kernel
theorem dX12_named_255 : decode cX12_named 255 = .ok (.return_, 1) := by decide +kernel
theorem dX12_label_0 : decode cX12_label 0 = .ok (.aload_n 0, 1) := by decide +kernel
theorem dX12_label_1 : decode cX12_label 1 = .ok (.getfield 367, 3) := by decide +kernel
theorem dX12_label_4 : decode cX12_label 4 = .ok (.iconst 1, 1) := by decide +kernel
theorem dX12_label_5 : decode cX12_label 5 = .ok (.isub, 1) := by decide +kernel
theorem dX12_label_6 : decode cX12_label 6 = .ok (.istore 5, 2) := by decide +kernel
theorem dX12_label_8 : decode cX12_label 8 = .ok (.iload 5, 2) := by decide +kernel
theorem dX12_label_10 : decode cX12_label 10 = .ok (.ifCond .lt 50, 3) := by decide +kernel
theorem dX12_label_13 : decode cX12_label 13 = .ok (.aload_n 0, 1) := by decide +kernel
theorem dX12_label_14 : decode cX12_label 14 = .ok (.getfield 135, 3) := by decide +kernel
theorem dX12_label_17 : decode cX12_label 17 = .ok (.iload 5, 2) := by decide +kernel
theorem dX12_label_19 : decode cX12_label 19 = .ok (.iaload, 1) := by decide +kernel
theorem dX12_label_20 : decode cX12_label 20 = .ok (.iconst 3, 1) := by decide +kernel
theorem dX12_label_21 : decode cX12_label 21 = .ok (.if_icmp .eq 39, 3) := by decide +kernel
theorem dX12_label_24 : decode cX12_label 24 = .ok (.aload_n 0, 1) := by decide +kernel
theorem dX12_label_25 : decode cX12_label 25 = .ok (.getfield 135, 3) := by decide +kernel
theorem dX12_label_28 : decode cX12_label 28 = .ok (.iload 5, 2) := by decide +kernel
theorem dX12_label_30 : decode cX12_label 30 = .ok (.iaload, 1) := by decide +kernel
theorem dX12_label_31 : decode cX12_label 31 = .ok (.iconst 2, 1) := by decide +kernel
theorem dX12_label_32 : decode cX12_label 32 = .ok (.if_icmp .ne 22, 3) := by decide +kernel
theorem dX12_label_35 : decode cX12_label 35 = .ok (.aload_n 0, 1) := by decide +kernel
theorem dX12_label_36 : decode cX12_label 36 = .ok (.getfield 138, 3) := by decide +kernel
theorem dX12_label_39 : decode cX12_label 39 = .ok (.iload 5, 2) := by decide +kernel
theorem dX12_label_41 : decode cX12_label 41 = .ok (.laload, 1) := by decide +kernel
theorem dX12_label_42 : decode cX12_label 42 = .ok (.lload_n 2, 1) := by decide +kernel
theorem dX12_label_43 : decode cX12_label 43 = .ok (.lcmp, 1) := by decide +kernel
theorem dX12_label_44 : decode cX12_label 44 = .ok (.ifCond .ne 10, 3) := by decide +kernel
theorem dX12_label_47 : decode cX12_label 47 = .ok (.aload_n 0, 1) := by decide +kernel
theorem dX12_label_48 : decode cX12_label 48 = .ok (.iconst 4, 1) := by decide +kernel
theorem dX12_label_49 : decode cX12_label 49 = .ok (.iload 4, 2) := by decide +kernel
theorem dX12_label_51 : decode cX12_label 51 = .ok (.invokevirtual 337, 3) := by decide +kernel
theorem dX12_label_54 : decode cX12_label 54 = .ok (.iinc 5 (-1), 3) := by decide +kernel
theorem dX12_label_57 : decode cX12_label 57 = .ok (.goto (-49), 3) := by decide +kernel
theorem dX12_label_60 : decode cX12_label 60 = .ok (.aload_n 0, 1) := by decide +kernel
theorem dX12_label_61 : decode cX12_label 61 = .ok (.iconst 2, 1) := by decide +kernel
theorem dX12_label_62 : decode cX12_label 62 = .ok (.lload_n 2, 1) := by decide +kernel
theorem dX12_label_63 : decode cX12_label 63 = .ok (.invokevirtual 373, 3) := by decide +kernel
theorem dX12_label_66 : decode cX12_label 66 = .ok (.istore 5, 2) := by decide +kernel
theorem dX12_label_68 : decode cX12_label 68 = .ok (.aload_n 0, 1) := by decide +kernel
theorem dX12_label_69 : decode cX12_label 69 = .ok (.getfield 180, 3) := by decide +kernel
theorem dX12_label_72 : decode cX12_label 72 = .ok (.iload_n 1, 1) := by decide +kernel
theorem dX12_label_73 : decode cX12_label 73 = .ok (.iload 5, 2) := by decide +kernel
theorem dX12_label_75 : decode cX12_label 75 = .ok (.iastore, 1) := by decide +kernel
theorem dX12_label_76 : decode cX12_label 76 = .ok (.aload_n 0, 1) := by decide +kernel
theorem dX12_label_77 : decode cX12_label 77 = .ok (.invokevirtual 345, 3) := by decide +kernel
theorem dX12_label_80 : decode cX12_label 80 = .ok (.aload_n 0, 1) := by decide +kernel
theorem dX12_label_81 : decode cX12_label 81 = .ok (.getfield 307, 3) := by decide +kernel
theorem dX12_label_84 : decode cX12_label 84 = .ok (.sipush 415, 3) := by decide +kernel
theorem dX12_label_87 : decode cX12_label 87 = .ok (.if_icmp .eq 23, 3) := by decide +kernel
theorem dX12_label_90 : decode cX12_label 90 = .ok (.aload_n 0, 1) := by decide +kernel
theorem dX12_label_91 : decode cX12_label 91 = .ok (.getfield 307, 3) := by decide +kernel
theorem dX12_label_94 : decode cX12_label 94 = .ok (.sipush 416, 3) := by decide +kernel
theorem dX12_label_97 : decode cX12_label 97 = .ok (.if_icmp .eq 13, 3) := by decide +kernel
theorem dX12_label_100 : decode cX12_label 100 = .ok (.aload_n 0, 1) := by decide +kernel
theorem dX12_label_101 : decode cX12_label 101 = .ok (.getfield 307, 3) := by decide +kernel
theorem dX12_label_104 : decode cX12_label 104 = .ok (.sipush 417, 3) := by decide +kernel
theorem dX12_label_107 : decode cX12_label 107 = .ok (.if_icmp .ne 64, 3) := by decide +kernel
theorem dX12_label_110 : decode cX12_label 110 = .ok (.aload_n 0, 1) := by decide +kernel
theorem dX12_label_111 : decode cX12_label 111 = .ok (.getfield 141, 3) := by decide +kernel
theorem dX12_label_114 : decode cX12_label 114 = .ok (.iload 5, 2) := by decide +kernel
theorem dX12_label_116 : decode cX12_label 116 = .ok (.bipush (-3), 2) := by decide +kernel
theorem dX12_label_118 : decode cX12_label 118 = .ok (.iastore, 1) := by decide +kernel
theorem dX12_label_119 : decode cX12_label 119 = .ok (.iload 5, 2) := by decide +kernel
theorem dX12_label_121 : decode cX12_label 121 = .ok (.iconst 1, 1) := by decide +kernel
theorem dX12_label_122 : decode cX12_label 122 = .ok (.isub, 1) := by decide +kernel
theorem dX12_label_123 : decode cX12_label 123 = .ok (.istore 6, 2) := by decide +kernel
theorem dX12_label_125 : decode cX12_label 125 = .ok (.iload 6, 2) := by decide +kernel
theorem dX12_label_127 : decode cX12_label 127 = .ok (.ifCond .lt 41, 3) := by decide +kernel
theorem dX12_label_130 : decode cX12_label 130 = .ok (.aload_n 0, 1) := by decide +kernel
theorem dX12_label_131 : decode cX12_label 131 = .ok (.getfield 135, 3) := by decide +kernel
theorem dX12_label_134 : decode cX12_label 134 = .ok (.iload 6, 2) := by decide +kernel
theorem dX12_label_136 : decode cX12_label 136 = .ok (.iaload, 1) := by decide +kernel
theorem dX12_label_137 : decode cX12_label 137 = .ok (.iconst 2, 1) := by decide +kernel
theorem dX12_label_138 : decode cX12_label 138 = .ok (.if_icmp .ne 30, 3) := by decide +kernel
theorem dX12_label_141 : decode cX12_label 141 = .ok (.aload_n 0, 1) := by decide +kernel
theorem dX12_label_142 : decode cX12_label 142 = .ok (.getfield 141, 3) := by decide +kernel
theorem dX12_label_145 : decode cX12_label 145 = .ok (.iload 6, 2) := by decide +kernel
theorem dX12_label_147 : decode cX12_label 147 = .ok (.iaload, 1) := by decide +kernel
theorem dX12_label_148 : decode cX12_label 148 = .ok (.bipush (-2), 2) := by decide +kernel
theorem dX12_label_150 : decode cX12_label 150 = .ok (.if_icmp .ne 18, 3) := by decide +kernel
theorem dX12_label_153 : decode cX12_label 153 = .ok (.aload_n 0, 1) := by decide +kernel
theorem dX12_label_154 : decode cX12_label 154 = .ok (.getfield 141, 3) := by decide +kernel
theorem dX12_label_157 : decode cX12_label 157 = .ok (.iload 6, 2) := by decide +kernel
theorem dX12_label_159 : decode cX12_label 159 = .ok (.bipush (-3), 2) := by decide +kernel
theorem dX12_label_161 : decode cX12_label 161 = .ok (.iastore, 1) := by decide +kernel
theorem dX12_label_162 : decode cX12_label 162 = .ok (.iinc 6 (-1), 3) := by decide +kernel
theorem dX12_label_165 : decode cX12_label 165 = .ok (.goto (-40), 3) := by decide +kernel
theorem dX12_label_168 : decode cX12_label 168 = .ok (.goto 20, 3) := by decide +kernel
theorem dX12_label_171 : decode cX12_label 171 = .ok (.aload_n 0, 1) := by decide +kernel
theorem dX12_label_172 : decode cX12_label 172 = .ok (.getfield 307, 3) := by decide +kernel
theorem dX12_label_175 : decode cX12_label 175 = .ok (.iconst 2, 1) := by decide +kernel
theorem dX12_label_176 : decode cX12_label 176 = .ok (.if_icmp .ne 12, 3) := by decide +kernel
theorem dX12_label_179 : decode cX12_label 179 = .ok (.aload_n 0, 1) := by decide +kernel
theorem dX12_label_180 : decode cX12_label 180 = .ok (.getfield 141, 3) := by decide +kernel
theorem dX12_label_183 : decode cX12_label 183 = .ok (.iload 5, 2) := by decide +kernel
theorem dX12_label_185 : decode cX12_label 185 = .ok (.bipush (-2), 2) := by decide +kernel
theorem dX12_label_187 : decode cX12_label 187 = .ok (.iastore, 1) := by decide +kernel
theorem dX12_label_188 : decode cX12_label 188 = .ok (.aload_n 0, 1) := by decide +kernel
theorem dX12_label_189 : decode cX12_label 189 = .ok (.iconst 1, 1) := by decide +kernel
theorem dX12_label_190 : decode cX12_label 190 = .ok (.invokevirtual 521, 3) := by decide +kernel
theorem dX12_label_193 : decode cX12_label 193 = .ok (.return_, 1) := by decide +kernel
theorem dX12_isInArms_0 : decode cX12_isInArms 0 = .ok (.iconst 0, 1) := by decide +kernel
theorem dX12_isInArms_1 : decode cX12_isInArms 1 = .ok (.istore_n 1, 1) := by decide +kernel
theorem dX12_isInArms_2 : decode cX12_isInArms 2 = .ok (.iload_n 1, 1) := by decide +kernel
theorem dX12_isInArms_3 : decode cX12_isInArms 3 = .ok (.aload_n 0, 1) := by decide +kernel
theorem dX12_isInArms_4 : decode cX12_isInArms 4 = .ok (.getfield 367, 3) := by decide +kernel
theorem dX12_isInArms_7 : decode cX12_isInArms 7 = .ok (.if_icmp .ge 21, 3) := by decide +kernel
theorem dX12_isInArms_10 : decode cX12_isInArms 10 = .ok (.aload_n 0, 1) := by decide +kernel
theorem dX12_isInArms_11 : decode cX12_isInArms 11 = .ok (.getfield 135, 3) := by decide +kernel
theorem dX12_isInArms_14 : decode cX12_isInArms 14 = .ok (.iload_n 1, 1) := by decide +kernel
theorem dX12_isInArms_15 : decode cX12_isInArms 15 = .ok (.iaload, 1) := by decide +kernel
theorem dX12_isInArms_16 : decode cX12_isInArms 16 = .ok (.iconst 3, 1) := by decide +kernel
theorem dX12_isInArms_17 : decode cX12_isInArms 17 = .ok (.if_icmp .ne 5, 3) := by decide +kernel
theorem dX12_isInArms_20 : decode cX12_isInArms 20 = .ok (.iconst 1, 1) := by decide +kernel
theorem dX12_isInArms_21 : decode cX12_isInArms 21 = .ok (.ireturn, 1) := by decide +kernel
theorem dX12_isInArms_22 : decode cX12_isInArms 22 = .ok (.iinc 1 1, 3) := by decide +kernel
theorem dX12_isInArms_25 : decode cX12_isInArms 25 = .ok (.goto (-23), 3) := by decide +kernel
theorem dX12_isInArms_28 : decode cX12_isInArms 28 = .ok (.iconst 0, 1) := by decide +kernel
theorem dX12_isInArms_29 : decode cX12_isInArms 29 = .ok (.ireturn, 1) := by decide +kernel
theorem dX12_ending_0 : decode cX12_ending 0 = .ok (.aload_n 0, 1) := by decide +kernel
theorem dX12_ending_1 : decode cX12_ending 1 = .ok (.getfield 177, 3) := by decide +kernel
theorem dX12_ending_4 : decode cX12_ending 4 = .ok (.iload_n 1, 1) := by decide +kernel
theorem dX12_ending_5 : decode cX12_ending 5 = .ok (.iaload, 1) := by decide +kernel
theorem dX12_ending_6 : decode cX12_ending 6 = .ok (.ifCond .ne 69, 3) := by decide +kernel
theorem dX12_ending_9 : decode cX12_ending 9 = .ok (.aload_n 0, 1) := by decide +kernel
theorem dX12_ending_10 : decode cX12_ending 10 = .ok (.getfield 180, 3) := by decide +kernel
theorem dX12_ending_13 : decode cX12_ending 13 = .ok (.iload_n 1, 1) := by decide +kernel
theorem dX12_ending_14 : decode cX12_ending 14 = .ok (.aload_n 0, 1) := by decide +kernel
theorem dX12_ending_15 : decode cX12_ending 15 = .ok (.getfield 307, 3) := by decide +kernel
theorem dX12_ending_18 : decode cX12_ending 18 = .ok (.iastore, 1) := by decide +kernel
theorem dX12_ending_19 : decode cX12_ending 19 = .ok (.aload_n 0, 1) := by decide +kernel
theorem dX12_ending_20 : decode cX12_ending 20 = .ok (.getfield 307, 3) := by decide +kernel
theorem dX12_ending_23 : decode cX12_ending 23 = .ok (.sipush 420, 3) := by decide +kernel
theorem dX12_ending_26 : decode cX12_ending 26 = .ok (.if_icmp .ne 10, 3) := by decide +kernel
theorem dX12_ending_29 : decode cX12_ending 29 = .ok (.aload_n 0, 1) := by decide +kernel
theorem dX12_ending_30 : decode cX12_ending 30 = .ok (.invokevirtual 524, 3) := by decide +kernel
theorem dX12_ending_33 : decode cX12_ending 33 = .ok (.ifCond .ne 20, 3) := by decide +kernel
theorem dX12_ending_36 : decode cX12_ending 36 = .ok (.aload_n 0, 1) := by decide +kernel
theorem dX12_ending_37 : decode cX12_ending 37 = .ok (.getfield 307, 3) := by decide +kernel
theorem dX12_ending_40 : decode cX12_ending 40 = .ok (.sipush 431, 3) := by decide +kernel
theorem dX12_ending_43 : decode cX12_ending 43 = .ok (.if_icmp .ne 20, 3) := by decide +kernel
theorem dX12_ending_46 : decode cX12_ending 46 = .ok (.aload_n 0, 1) := by decide +kernel
theorem dX12_ending_47 : decode cX12_ending 47 = .ok (.invokevirtual 524, 3) := by decide +kernel
theorem dX12_ending_50 : decode cX12_ending 50 = .ok (.ifCond .ne 13, 3) := by decide +kernel
theorem dX12_ending_53 : decode cX12_ending 53 = .ok (.aload_n 0, 1) := by decide +kernel
theorem dX12_ending_54 : decode cX12_ending 54 = .ok (.iconst 5, 1) := by decide +kernel
theorem dX12_ending_55 : decode cX12_ending 55 = .ok (.aload_n 0, 1) := by decide +kernel
theorem dX12_ending_56 : decode cX12_ending 56 = .ok (.getfield 304, 3) := by decide +kernel
theorem dX12_ending_59 : decode cX12_ending 59 = .ok (.invokevirtual 337, 3) := by decide +kernel
theorem dX12_ending_62 : decode cX12_ending 62 = .ok (.return_, 1) := by decide +kernel
theorem dX12_ending_63 : decode cX12_ending 63 = .ok (.aload_n 0, 1) := by decide +kernel
theorem dX12_ending_64 : decode cX12_ending 64 = .ok (.invokevirtual 345, 3) := by decide +kernel
theorem dX12_ending_67 : decode cX12_ending 67 = .ok (.aload_n 0, 1) := by decide +kernel
theorem dX12_ending_68 : decode cX12_ending 68 = .ok (.iconst 1, 1) := by decide +kernel
theorem dX12_ending_69 : decode cX12_ending 69 = .ok (.bipush 16, 2) := by decide +kernel
theorem dX12_ending_71 : decode cX12_ending 71 = .ok (.invokevirtual 393, 3) := by decide +kernel
theorem dX12_ending_74 : decode cX12_ending 74 = .ok (.return_, 1) := by decide +kernel
theorem dX12_ending_75 : decode cX12_ending 75 = .ok (.aload_n 0, 1) := by decide +kernel
theorem dX12_ending_76 : decode cX12_ending 76 = .ok (.aload_n 0, 1) := by decide +kernel
theorem dX12_ending_77 : decode cX12_ending 77 = .ok (.getfield 180, 3) := by decide +kernel
theorem dX12_ending_80 : decode cX12_ending 80 = .ok (.iload_n 1, 1) := by decide +kernel
theorem dX12_ending_81 : decode cX12_ending 81 = .ok (.iaload, 1) := by decide +kernel
theorem dX12_ending_82 : decode cX12_ending 82 = .ok (.sipush 412, 3) := by decide +kernel
theorem dX12_ending_85 : decode cX12_ending 85 = .ok (.if_icmp .ne 8, 3) := by decide +kernel
theorem dX12_ending_88 : decode cX12_ending 88 = .ok (.bipush 16, 2) := by decide +kernel
theorem dX12_ending_90 : decode cX12_ending 90 = .ok (.goto 22, 3) := by decide +kernel
theorem dX12_ending_93 : decode cX12_ending 93 = .ok (.aload_n 0, 1) := by decide +kernel
theorem dX12_ending_94 : decode cX12_ending 94 = .ok (.getfield 180, 3) := by decide +kernel
theorem dX12_ending_97 : decode cX12_ending 97 = .ok (.iload_n 1, 1) := by decide +kernel
theorem dX12_ending_98 : decode cX12_ending 98 = .ok (.iaload, 1) := by decide +kernel
theorem dX12_ending_99 : decode cX12_ending 99 = .ok (.sipush 420, 3) := by decide +kernel
theorem dX12_ending_102 : decode cX12_ending 102 = .ok (.if_icmp .ne 8, 3) := by decide +kernel
theorem dX12_ending_105 : decode cX12_ending 105 = .ok (.bipush 17, 2) := by decide +kernel
theorem dX12_ending_107 : decode cX12_ending 107 = .ok (.goto 5, 3) := by decide +kernel
theorem dX12_ending_110 : decode cX12_ending 110 = .ok (.bipush 18, 2) := by decide +kernel
theorem dX12_ending_112 : decode cX12_ending 112 = .ok (.iconst 0, 1) := by decide +kernel
theorem dX12_ending_113 : decode cX12_ending 113 = .ok (.invokevirtual 464, 3) := by decide +kernel
theorem dX12_ending_116 : decode cX12_ending 116 = .ok (.istore_n 2, 1) := by decide +kernel
theorem dX12_ending_117 : decode cX12_ending 117 = .ok (.iconst 0, 1) := by decide +kernel
theorem dX12_ending_118 : decode cX12_ending 118 = .ok (.istore_n 3, 1) := by decide +kernel
theorem dX12_ending_119 : decode cX12_ending 119 = .ok (.iload_n 3, 1) := by decide +kernel
theorem dX12_ending_120 : decode cX12_ending 120 = .ok (.aload_n 0, 1) := by decide +kernel
theorem dX12_ending_121 : decode cX12_ending 121 = .ok (.getfield 367, 3) := by decide +kernel
theorem dX12_ending_124 : decode cX12_ending 124 = .ok (.if_icmp .ge 40, 3) := by decide +kernel
theorem dX12_ending_127 : decode cX12_ending 127 = .ok (.aload_n 0, 1) := by decide +kernel
theorem dX12_ending_128 : decode cX12_ending 128 = .ok (.getfield 90, 3) := by decide +kernel
theorem dX12_ending_131 : decode cX12_ending 131 = .ok (.iload_n 2, 1) := by decide +kernel
theorem dX12_ending_132 : decode cX12_ending 132 = .ok (.aload_n 0, 1) := by decide +kernel
theorem dX12_ending_133 : decode cX12_ending 133 = .ok (.getfield 135, 3) := by decide +kernel
theorem dX12_ending_136 : decode cX12_ending 136 = .ok (.iload_n 3, 1) := by decide +kernel
theorem dX12_ending_137 : decode cX12_ending 137 = .ok (.iaload, 1) := by decide +kernel
theorem dX12_ending_138 : decode cX12_ending 138 = .ok (.iconst 3, 1) := by decide +kernel
theorem dX12_ending_139 : decode cX12_ending 139 = .ok (.if_icmp .ne 12, 3) := by decide +kernel
theorem dX12_ending_142 : decode cX12_ending 142 = .ok (.aload_n 0, 1) := by decide +kernel
theorem dX12_ending_143 : decode cX12_ending 143 = .ok (.getfield 144, 3) := by decide +kernel
theorem dX12_ending_146 : decode cX12_ending 146 = .ok (.iload_n 3, 1) := by decide +kernel
theorem dX12_ending_147 : decode cX12_ending 147 = .ok (.iaload, 1) := by decide +kernel
theorem dX12_ending_148 : decode cX12_ending 148 = .ok (.goto 9, 3) := by decide +kernel
theorem dX12_ending_151 : decode cX12_ending 151 = .ok (.aload_n 0, 1) := by decide +kernel
theorem dX12_ending_152 : decode cX12_ending 152 = .ok (.getfield 90, 3) := by decide +kernel
theorem dX12_ending_155 : decode cX12_ending 155 = .ok (.iload_n 2, 1) := by decide +kernel
theorem dX12_ending_156 : decode cX12_ending 156 = .ok (.iaload, 1) := by decide +kernel
theorem dX12_ending_157 : decode cX12_ending 157 = .ok (.iastore, 1) := by decide +kernel
theorem dX12_ending_158 : decode cX12_ending 158 = .ok (.iinc 3 1, 3) := by decide +kernel
theorem dX12_ending_161 : decode cX12_ending 161 = .ok (.goto (-42), 3) := by decide +kernel
theorem dX12_ending_164 : decode cX12_ending 164 = .ok (.aload_n 0, 1) := by decide +kernel
theorem dX12_ending_165 : decode cX12_ending 165 = .ok (.bipush 59, 2) := by decide +kernel
theorem dX12_ending_167 : decode cX12_ending 167 = .ok (.invokevirtual 355, 3) := by decide +kernel
theorem dX12_ending_170 : decode cX12_ending 170 = .ok (.pop, 1) := by decide +kernel
theorem dX12_ending_171 : decode cX12_ending 171 = .ok (.aload_n 0, 1) := by decide +kernel
theorem dX12_ending_172 : decode cX12_ending 172 = .ok (.aload_n 0, 1) := by decide +kernel
theorem dX12_ending_173 : decode cX12_ending 173 = .ok (.getfield 180, 3) := by decide +kernel
theorem dX12_ending_176 : decode cX12_ending 176 = .ok (.iload_n 1, 1) := by decide +kernel
theorem dX12_ending_177 : decode cX12_ending 177 = .ok (.iaload, 1) := by decide +kernel
theorem dX12_ending_178 : decode cX12_ending 178 = .ok (.sipush 412, 3) := by decide +kernel
theorem dX12_ending_181 : decode cX12_ending 181 = .ok (.if_icmp .ne 7, 3) := by decide +kernel
theorem dX12_ending_184 : decode cX12_ending 184 = .ok (.iconst 1, 1) := by decide +kernel
theorem dX12_ending_185 : decode cX12_ending 185 = .ok (.goto 4, 3) := by decide +kernel
theorem dX12_ending_188 : decode cX12_ending 188 = .ok (.iconst 0, 1) := by decide +kernel
theorem dX12_ending_189 : decode cX12_ending 189 = .ok (.invokevirtual 490, 3) := by decide +kernel
theorem dX12_ending_192 : decode cX12_ending 192 = .ok (.return_, 1) := by decide +kernel
theorem dX12_jump_0 : decode cX12_jump 0 = .ok (.aload_n 0, 1) := by decide +kernel
theorem dX12_jump_1 : decode cX12_jump 1 = .ok (.getfield 307, 3) := by decide +kernel
theorem dX12_jump_4 : decode cX12_jump 4 = .ok (.sipush 418, 3) := by decide +kernel
theorem dX12_jump_7 : decode cX12_jump 7 = .ok (.if_icmp .ne 7, 3) := by decide +kernel
theorem dX12_jump_10 : decode cX12_jump 10 = .ok (.iconst 1, 1) := by decide +kernel
theorem dX12_jump_11 : decode cX12_jump 11 = .ok (.goto 4, 3) := by decide +kernel
theorem dX12_jump_14 : decode cX12_jump 14 = .ok (.iconst 0, 1) := by decide +kernel
theorem dX12_jump_15 : decode cX12_jump 15 = .ok (.istore_n 1, 1) := by decide +kernel
theorem dX12_jump_16 : decode cX12_jump 16 = .ok (.aload_n 0, 1) := by decide +kernel
theorem dX12_jump_17 : decode cX12_jump 17 = .ok (.getfield 304, 3) := by decide +kernel
theorem dX12_jump_20 : decode cX12_jump 20 = .ok (.istore_n 2, 1) := by decide +kernel
theorem dX12_jump_21 : decode cX12_jump 21 = .ok (.aload_n 0, 1) := by decide +kernel
theorem dX12_jump_22 : decode cX12_jump 22 = .ok (.dup, 1) := by decide +kernel
theorem dX12_jump_23 : decode cX12_jump 23 = .ok (.getfield 527, 3) := by decide +kernel
theorem dX12_jump_26 : decode cX12_jump 26 = .ok (.iconst 1, 1) := by decide +kernel
theorem dX12_jump_27 : decode cX12_jump 27 = .ok (.iadd, 1) := by decide +kernel
theorem dX12_jump_28 : decode cX12_jump 28 = .ok (.putfield 527, 3) := by decide +kernel
theorem dX12_jump_31 : decode cX12_jump 31 = .ok (.aload_n 0, 1) := by decide +kernel
theorem dX12_jump_32 : decode cX12_jump 32 = .ok (.invokevirtual 345, 3) := by decide +kernel
theorem dX12_jump_35 : decode cX12_jump 35 = .ok (.aload_n 0, 1) := by decide +kernel
theorem dX12_jump_36 : decode cX12_jump 36 = .ok (.getfield 307, 3) := by decide +kernel
theorem dX12_jump_39 : decode cX12_jump 39 = .ok (.iconst 2, 1) := by decide +kernel
theorem dX12_jump_40 : decode cX12_jump 40 = .ok (.if_icmp .ne 7, 3) := by decide +kernel
theorem dX12_jump_43 : decode cX12_jump 43 = .ok (.iconst 1, 1) := by decide +kernel
theorem dX12_jump_44 : decode cX12_jump 44 = .ok (.goto 4, 3) := by decide +kernel
theorem dX12_jump_47 : decode cX12_jump 47 = .ok (.iconst 0, 1) := by decide +kernel
theorem dX12_jump_48 : decode cX12_jump 48 = .ok (.istore_n 3, 1) := by decide +kernel
theorem dX12_jump_49 : decode cX12_jump 49 = .ok (.iconst (-1), 1) := by decide +kernel
theorem dX12_jump_50 : decode cX12_jump 50 = .ok (.istore 4, 2) := by decide +kernel
theorem dX12_jump_52 : decode cX12_jump 52 = .ok (.aload_n 0, 1) := by decide +kernel
theorem dX12_jump_53 : decode cX12_jump 53 = .ok (.getfield 367, 3) := by decide +kernel
theorem dX12_jump_56 : decode cX12_jump 56 = .ok (.iconst 1, 1) := by decide +kernel
theorem dX12_jump_57 : decode cX12_jump 57 = .ok (.isub, 1) := by decide +kernel
theorem dX12_jump_58 : decode cX12_jump 58 = .ok (.istore 5, 2) := by decide +kernel
theorem dX12_jump_60 : decode cX12_jump 60 = .ok (.iload 5, 2) := by decide +kernel
theorem dX12_jump_62 : decode cX12_jump 62 = .ok (.ifCond .lt 109, 3) := by decide +kernel
theorem dX12_jump_65 : decode cX12_jump 65 = .ok (.aload_n 0, 1) := by decide +kernel
theorem dX12_jump_66 : decode cX12_jump 66 = .ok (.getfield 135, 3) := by decide +kernel
theorem dX12_jump_69 : decode cX12_jump 69 = .ok (.iload 5, 2) := by decide +kernel
theorem dX12_jump_71 : decode cX12_jump 71 = .ok (.iaload, 1) := by decide +kernel
theorem dX12_jump_72 : decode cX12_jump 72 = .ok (.iconst 3, 1) := by decide +kernel
theorem dX12_jump_73 : decode cX12_jump 73 = .ok (.if_icmp .eq 98, 3) := by decide +kernel
theorem dX12_jump_76 : decode cX12_jump 76 = .ok (.iload 4, 2) := by decide +kernel
theorem dX12_jump_78 : decode cX12_jump 78 = .ok (.ifCond .ge 93, 3) := by decide +kernel
theorem dX12_jump_81 : decode cX12_jump 81 = .ok (.iload_n 3, 1) := by decide +kernel
theorem dX12_jump_82 : decode cX12_jump 82 = .ok (.ifCond .eq 37, 3) := by decide +kernel
theorem dX12_jump_85 : decode cX12_jump 85 = .ok (.aload_n 0, 1) := by decide +kernel
theorem dX12_jump_86 : decode cX12_jump 86 = .ok (.getfield 135, 3) := by decide +kernel
theorem dX12_jump_89 : decode cX12_jump 89 = .ok (.iload 5, 2) := by decide +kernel
theorem dX12_jump_91 : decode cX12_jump 91 = .ok (.iaload, 1) := by decide +kernel
theorem dX12_jump_92 : decode cX12_jump 92 = .ok (.iconst 2, 1) := by decide +kernel
theorem dX12_jump_93 : decode cX12_jump 93 = .ok (.if_icmp .ne 22, 3) := by decide +kernel
theorem dX12_jump_96 : decode cX12_jump 96 = .ok (.aload_n 0, 1) := by decide +kernel
theorem dX12_jump_97 : decode cX12_jump 97 = .ok (.getfield 138, 3) := by decide +kernel
theorem dX12_jump_100 : decode cX12_jump 100 = .ok (.iload 5, 2) := by decide +kernel
theorem dX12_jump_102 : decode cX12_jump 102 = .ok (.laload, 1) := by decide +kernel
theorem dX12_jump_103 : decode cX12_jump 103 = .ok (.aload_n 0, 1) := by decide +kernel
theorem dX12_jump_104 : decode cX12_jump 104 = .ok (.getfield 327, 3) := by decide +kernel
theorem dX12_jump_107 : decode cX12_jump 107 = .ok (.lcmp, 1) := by decide +kernel
theorem dX12_jump_108 : decode cX12_jump 108 = .ok (.ifCond .ne 7, 3) := by decide +kernel
theorem dX12_jump_111 : decode cX12_jump 111 = .ok (.iconst 1, 1) := by decide +kernel
theorem dX12_jump_112 : decode cX12_jump 112 = .ok (.goto 37, 3) := by decide +kernel
theorem dX12_jump_115 : decode cX12_jump 115 = .ok (.iconst 0, 1) := by decide +kernel
theorem dX12_jump_116 : decode cX12_jump 116 = .ok (.goto 33, 3) := by decide +kernel
theorem dX12_jump_119 : decode cX12_jump 119 = .ok (.aload_n 0, 1) := by decide +kernel
theorem dX12_jump_120 : decode cX12_jump 120 = .ok (.getfield 135, 3) := by decide +kernel
theorem dX12_jump_123 : decode cX12_jump 123 = .ok (.iload 5, 2) := by decide +kernel
theorem dX12_jump_125 : decode cX12_jump 125 = .ok (.iaload, 1) := by decide +kernel
theorem dX12_jump_126 : decode cX12_jump 126 = .ok (.ifCond .eq 18, 3) := by decide +kernel
theorem dX12_jump_129 : decode cX12_jump 129 = .ok (.iload_n 1, 1) := by decide +kernel
theorem dX12_jump_130 : decode cX12_jump 130 = .ok (.ifCond .eq 18, 3) := by decide +kernel
theorem dX12_jump_133 : decode cX12_jump 133 = .ok (.aload_n 0, 1) := by decide +kernel
theorem dX12_jump_134 : decode cX12_jump 134 = .ok (.getfield 135, 3) := by decide +kernel
theorem dX12_jump_137 : decode cX12_jump 137 = .ok (.iload 5, 2) := by decide +kernel
theorem dX12_jump_139 : decode cX12_jump 139 = .ok (.iaload, 1) := by decide +kernel
theorem dX12_jump_140 : decode cX12_jump 140 = .ok (.iconst 1, 1) := by decide +kernel
theorem dX12_jump_141 : decode cX12_jump 141 = .ok (.if_icmp .ne 7, 3) := by decide +kernel
theorem dX12_jump_144 : decode cX12_jump 144 = .ok (.iconst 1, 1) := by decide +kernel
theorem dX12_jump_145 : decode cX12_jump 145 = .ok (.goto 4, 3) := by decide +kernel
theorem dX12_jump_148 : decode cX12_jump 148 = .ok (.iconst 0, 1) := by decide +kernel
theorem dX12_jump_149 : decode cX12_jump 149 = .ok (.istore 6, 2) := by decide +kernel
theorem dX12_jump_151 : decode cX12_jump 151 = .ok (.iload 6, 2) := by decide +kernel
theorem dX12_jump_153 : decode cX12_jump 153 = .ok (.ifCond .eq 8, 3) := by decide +kernel
theorem dX12_jump_156 : decode cX12_jump 156 = .ok (.iload 5, 2) := by decide +kernel
theorem dX12_jump_158 : decode cX12_jump 158 = .ok (.goto 5, 3) := by decide +kernel
theorem dX12_jump_161 : decode cX12_jump 161 = .ok (.iload 4, 2) := by decide +kernel
theorem dX12_jump_163 : decode cX12_jump 163 = .ok (.istore 4, 2) := by decide +kernel
theorem dX12_jump_165 : decode cX12_jump 165 = .ok (.iinc 5 (-1), 3) := by decide +kernel
theorem dX12_jump_168 : decode cX12_jump 168 = .ok (.goto (-108), 3) := by decide +kernel
theorem dX12_jump_171 : decode cX12_jump 171 = .ok (.iload 4, 2) := by decide +kernel
theorem dX12_jump_173 : decode cX12_jump 173 = .ok (.ifCond .ge 29, 3) := by decide +kernel
theorem dX12_jump_176 : decode cX12_jump 176 = .ok (.aload_n 0, 1) := by decide +kernel
theorem dX12_jump_177 : decode cX12_jump 177 = .ok (.iload_n 3, 1) := by decide +kernel
theorem dX12_jump_178 : decode cX12_jump 178 = .ok (.ifCond .eq 7, 3) := by decide +kernel
theorem dX12_jump_181 : decode cX12_jump 181 = .ok (.iconst 3, 1) := by decide +kernel
theorem dX12_jump_182 : decode cX12_jump 182 = .ok (.goto 4, 3) := by decide +kernel
theorem dX12_jump_185 : decode cX12_jump 185 = .ok (.iconst 5, 1) := by decide +kernel
theorem dX12_jump_186 : decode cX12_jump 186 = .ok (.iload_n 3, 1) := by decide +kernel
theorem dX12_jump_187 : decode cX12_jump 187 = .ok (.ifCond .eq 10, 3) := by decide +kernel
theorem dX12_jump_190 : decode cX12_jump 190 = .ok (.aload_n 0, 1) := by decide +kernel
theorem dX12_jump_191 : decode cX12_jump 191 = .ok (.getfield 304, 3) := by decide +kernel
theorem dX12_jump_194 : decode cX12_jump 194 = .ok (.goto 4, 3) := by decide +kernel
theorem dX12_jump_197 : decode cX12_jump 197 = .ok (.iload_n 2, 1) := by decide +kernel
theorem dX12_jump_198 : decode cX12_jump 198 = .ok (.invokevirtual 337, 3) := by decide +kernel
theorem dX12_jump_201 : decode cX12_jump 201 = .ok (.return_, 1) := by decide +kernel
theorem dX12_jump_202 : decode cX12_jump 202 = .ok (.iload_n 3, 1) := by decide +kernel
theorem dX12_jump_203 : decode cX12_jump 203 = .ok (.ifCond .eq 31, 3) := by decide +kernel
theorem dX12_jump_206 : decode cX12_jump 206 = .ok (.iload_n 1, 1) := by decide +kernel
theorem dX12_jump_207 : decode cX12_jump 207 = .ok (.ifCond .ne 27, 3) := by decide +kernel
theorem dX12_jump_210 : decode cX12_jump 210 = .ok (.aload_n 0, 1) := by decide +kernel
theorem dX12_jump_211 : decode cX12_jump 211 = .ok (.getfield 141, 3) := by decide +kernel
theorem dX12_jump_214 : decode cX12_jump 214 = .ok (.iload 4, 2) := by decide +kernel
theorem dX12_jump_216 : decode cX12_jump 216 = .ok (.iaload, 1) := by decide +kernel
theorem dX12_jump_217 : decode cX12_jump 217 = .ok (.istore 4, 2) := by decide +kernel
theorem dX12_jump_219 : decode cX12_jump 219 = .ok (.iload 4, 2) := by decide +kernel
theorem dX12_jump_221 : decode cX12_jump 221 = .ok (.ifCond .ge 13, 3) := by decide +kernel
theorem dX12_jump_224 : decode cX12_jump 224 = .ok (.aload_n 0, 1) := by decide +kernel
theorem dX12_jump_225 : decode cX12_jump 225 = .ok (.iconst 5, 1) := by decide +kernel
theorem dX12_jump_226 : decode cX12_jump 226 = .ok (.aload_n 0, 1) := by decide +kernel
theorem dX12_jump_227 : decode cX12_jump 227 = .ok (.getfield 304, 3) := by decide +kernel
theorem dX12_jump_230 : decode cX12_jump 230 = .ok (.invokevirtual 337, 3) := by decide +kernel
theorem dX12_jump_233 : decode cX12_jump 233 = .ok (.return_, 1) := by decide +kernel
theorem dX12_jump_234 : decode cX12_jump 234 = .ok (.aload_n 0, 1) := by decide +kernel
theorem dX12_jump_235 : decode cX12_jump 235 = .ok (.bipush 36, 2) := by decide +kernel
theorem dX12_jump_237 : decode cX12_jump 237 = .ok (.iload_n 1, 1) := by decide +kernel
theorem dX12_jump_238 : decode cX12_jump 238 = .ok (.ifCond .eq 13, 3) := by decide +kernel
theorem dX12_jump_241 : decode cX12_jump 241 = .ok (.aload_n 0, 1) := by decide +kernel
theorem dX12_jump_242 : decode cX12_jump 242 = .ok (.getfield 147, 3) := by decide +kernel
theorem dX12_jump_245 : decode cX12_jump 245 = .ok (.iload 4, 2) := by decide +kernel
theorem dX12_jump_247 : decode cX12_jump 247 = .ok (.iaload, 1) := by decide +kernel
theorem dX12_jump_248 : decode cX12_jump 248 = .ok (.goto 10, 3) := by decide +kernel
theorem dX12_jump_251 : decode cX12_jump 251 = .ok (.aload_n 0, 1) := by decide +kernel
theorem dX12_jump_252 : decode cX12_jump 252 = .ok (.getfield 150, 3) := by decide +kernel
theorem dX12_jump_255 : decode cX12_jump 255 = .ok (.iload 4, 2) := by decide +kernel
theorem dX12_jump_257 : decode cX12_jump 257 = .ok (.iaload, 1) := by decide +kernel
theorem dX12_jump_258 : decode cX12_jump 258 = .ok (.invokevirtual 464, 3) := by decide +kernel
theorem dX12_jump_261 : decode cX12_jump 261 = .ok (.istore 5, 2) := by decide +kernel
theorem dX12_jump_263 : decode cX12_jump 263 = .ok (.aload_n 0, 1) := by decide +kernel
theorem dX12_jump_264 : decode cX12_jump 264 = .ok (.getfield 90, 3) := by decide +kernel
theorem dX12_jump_267 : decode cX12_jump 267 = .ok (.iload 5, 2) := by decide +kernel
theorem dX12_jump_269 : decode cX12_jump 269 = .ok (.aload_n 0, 1) := by decide +kernel
theorem dX12_jump_270 : decode cX12_jump 270 = .ok (.getfield 144, 3) := by decide +kernel
theorem dX12_jump_273 : decode cX12_jump 273 = .ok (.iload 4, 2) := by decide +kernel
theorem dX12_jump_275 : decode cX12_jump 275 = .ok (.iaload, 1) := by decide +kernel
theorem dX12_jump_276 : decode cX12_jump 276 = .ok (.iastore, 1) := by decide +kernel
theorem dX12_jump_277 : decode cX12_jump 277 = .ok (.iload_n 1, 1) := by decide +kernel
theorem dX12_jump_278 : decode cX12_jump 278 = .ok (.ifCond .eq 15, 3) := by decide +kernel
theorem dX12_jump_281 : decode cX12_jump 281 = .ok (.aload_n 0, 1) := by decide +kernel
theorem dX12_jump_282 : decode cX12_jump 282 = .ok (.getfield 147, 3) := by decide +kernel
theorem dX12_jump_285 : decode cX12_jump 285 = .ok (.iload 4, 2) := by decide +kernel
theorem dX12_jump_287 : decode cX12_jump 287 = .ok (.iload 5, 2) := by decide +kernel
theorem dX12_jump_289 : decode cX12_jump 289 = .ok (.iastore, 1) := by decide +kernel
theorem dX12_jump_290 : decode cX12_jump 290 = .ok (.goto 12, 3) := by decide +kernel
theorem dX12_jump_293 : decode cX12_jump 293 = .ok (.aload_n 0, 1) := by decide +kernel
theorem dX12_jump_294 : decode cX12_jump 294 = .ok (.getfield 150, 3) := by decide +kernel
theorem dX12_jump_297 : decode cX12_jump 297 = .ok (.iload 4, 2) := by decide +kernel
theorem dX12_jump_299 : decode cX12_jump 299 = .ok (.iload 5, 2) := by decide +kernel
theorem dX12_jump_301 : decode cX12_jump 301 = .ok (.iastore, 1) := by decide +kernel
theorem dX12_jump_302 : decode cX12_jump 302 = .ok (.aload_n 0, 1) := by decide +kernel
theorem dX12_jump_303 : decode cX12_jump 303 = .ok (.iload 4, 2) := by decide +kernel
theorem dX12_jump_305 : decode cX12_jump 305 = .ok (.iload_n 1, 1) := by decide +kernel
theorem dX12_jump_306 : decode cX12_jump 306 = .ok (.invokevirtual 530, 3) := by decide +kernel
theorem dX12_jump_309 : decode cX12_jump 309 = .ok (.iload_n 3, 1) := by decide +kernel
theorem dX12_jump_310 : decode cX12_jump 310 = .ok (.ifCond .eq 7, 3) := by decide +kernel
theorem dX12_jump_313 : decode cX12_jump 313 = .ok (.aload_n 0, 1) := by decide +kernel
theorem dX12_jump_314 : decode cX12_jump 314 = .ok (.invokevirtual 345, 3) := by decide +kernel
theorem dX12_jump_317 : decode cX12_jump 317 = .ok (.aload_n 0, 1) := by decide +kernel
theorem dX12_jump_318 : decode cX12_jump 318 = .ok (.bipush 59, 2) := by decide +kernel
theorem dX12_jump_320 : decode cX12_jump 320 = .ok (.invokevirtual 355, 3) := by decide +kernel
theorem dX12_jump_323 : decode cX12_jump 323 = .ok (.pop, 1) := by decide +kernel
theorem dX12_jump_324 : decode cX12_jump 324 = .ok (.return_, 1) := by decide +kernel
theorem dX12_throwing_0 : decode cX12_throwing 0 = .ok (.aload_n 0, 1) := by decide +kernel
theorem dX12_throwing_1 : decode cX12_throwing 1 = .ok (.getfield 177, 3) := by decide +kernel
theorem dX12_throwing_4 : decode cX12_throwing 4 = .ok (.iload_n 1, 1) := by decide +kernel
theorem dX12_throwing_5 : decode cX12_throwing 5 = .ok (.iaload, 1) := by decide +kernel
theorem dX12_throwing_6 : decode cX12_throwing 6 = .ok (.iconst 1, 1) := by decide +kernel
theorem dX12_throwing_7 : decode cX12_throwing 7 = .ok (.if_icmp .ne 29, 3) := by decide +kernel
theorem dX12_throwing_10 : decode cX12_throwing 10 = .ok (.aload_n 0, 1) := by decide +kernel
theorem dX12_throwing_11 : decode cX12_throwing 11 = .ok (.bipush 19, 2) := by decide +kernel
theorem dX12_throwing_13 : decode cX12_throwing 13 = .ok (.aload_n 0, 1) := by decide +kernel
theorem dX12_throwing_14 : decode cX12_throwing 14 = .ok (.getfield 180, 3) := by decide +kernel
theorem dX12_throwing_17 : decode cX12_throwing 17 = .ok (.iload_n 1, 1) := by decide +kernel
theorem dX12_throwing_18 : decode cX12_throwing 18 = .ok (.iaload, 1) := by decide +kernel
theorem dX12_throwing_19 : decode cX12_throwing 19 = .ok (.invokevirtual 464, 3) := by decide +kernel
theorem dX12_throwing_22 : decode cX12_throwing 22 = .ok (.pop, 1) := by decide +kernel
theorem dX12_throwing_23 : decode cX12_throwing 23 = .ok (.aload_n 0, 1) := by decide +kernel
theorem dX12_throwing_24 : decode cX12_throwing 24 = .ok (.bipush 59, 2) := by decide +kernel
theorem dX12_throwing_26 : decode cX12_throwing 26 = .ok (.invokevirtual 355, 3) := by decide +kernel
theorem dX12_throwing_29 : decode cX12_throwing 29 = .ok (.pop, 1) := by decide +kernel
theorem dX12_throwing_30 : decode cX12_throwing 30 = .ok (.aload_n 0, 1) := by decide +kernel
theorem dX12_throwing_31 : decode cX12_throwing 31 = .ok (.iconst 0, 1) := by decide +kernel
theorem dX12_throwing_32 : decode cX12_throwing 32 = .ok (.invokevirtual 490, 3) := by decide +kernel
theorem dX12_throwing_35 : decode cX12_throwing 35 = .ok (.return_, 1) := by decide +kernel
theorem dX12_throwing_36 : decode cX12_throwing 36 = .ok (.aload_n 0, 1) := by decide +kernel
theorem dX12_throwing_37 : decode cX12_throwing 37 = .ok (.invokevirtual 345, 3) := by decide +kernel
theorem dX12_throwing_40 : decode cX12_throwing 40 = .ok (.aload_n 0, 1) := by decide +kernel
theorem dX12_throwing_41 : decode cX12_throwing 41 = .ok (.aload_n 0, 1) := by decide +kernel
theorem dX12_throwing_42 : decode cX12_throwing 42 = .ok (.getfield 307, 3) := by decide +kernel
theorem dX12_throwing_45 : decode cX12_throwing 45 = .ok (.iconst 5, 1) := by decide +kernel
theorem dX12_throwing_46 : decode cX12_throwing 46 = .ok (.if_icmp .eq 11, 3) := by decide +kernel
theorem dX12_throwing_49 : decode cX12_throwing 49 = .ok (.aload_n 0, 1) := by decide +kernel
theorem dX12_throwing_50 : decode cX12_throwing 50 = .ok (.getfield 307, 3) := by decide +kernel
theorem dX12_throwing_53 : decode cX12_throwing 53 = .ok (.iconst 2, 1) := by decide +kernel
theorem dX12_throwing_54 : decode cX12_throwing 54 = .ok (.if_icmp .ne 7, 3) := by decide +kernel
theorem dX12_throwing_57 : decode cX12_throwing 57 = .ok (.iconst 1, 1) := by decide +kernel
theorem dX12_throwing_58 : decode cX12_throwing 58 = .ok (.goto 4, 3) := by decide +kernel
theorem dX12_throwing_61 : decode cX12_throwing 61 = .ok (.iconst 0, 1) := by decide +kernel
theorem dX12_throwing_62 : decode cX12_throwing 62 = .ok (.invokevirtual 341, 3) := by decide +kernel
theorem dX12_throwing_65 : decode cX12_throwing 65 = .ok (.ifCond .ne 4, 3) := by decide +kernel
theorem dX12_throwing_68 : decode cX12_throwing 68 = .ok (.return_, 1) := by decide +kernel
theorem dX12_throwing_69 : decode cX12_throwing 69 = .ok (.aload_n 0, 1) := by decide +kernel
