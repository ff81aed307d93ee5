theorem dX12_forHead_186 : decode cX12_forHead 186 = .ok (.goto 4, 3) := by decide +kernel
theorem dX12_forHead_189 : decode cX12_forHead 189 = .ok (.iconst 0, 1) := by decide +kernel
theorem dX12_forHead_190 : decode cX12_forHead 190 = .ok (.invokevirtual 341, 3) := by decide +kernel
theorem dX12_forHead_193 : decode cX12_forHead 193 = .ok (.ifCond .eq 45, 3) := by decide +kernel
theorem dX12_forHead_196 : decode cX12_forHead 196 = .ok (.aload_n 0, 1) := by decide +kernel
theorem dX12_forHead_197 : decode cX12_forHead 197 = .ok (.invokevirtual 345, 3) := by decide +kernel
theorem dX12_forHead_200 : decode cX12_forHead 200 = .ok (.aload_n 0, 1) := by decide +kernel
theorem dX12_forHead_201 : decode cX12_forHead 201 = .ok (.iconst 2, 1) := by decide +kernel
theorem dX12_forHead_202 : decode cX12_forHead 202 = .ok (.bipush 16, 2) := by decide +kernel
theorem dX12_forHead_204 : decode cX12_forHead 204 = .ok (.invokevirtual 393, 3) := by decide +kernel
theorem dX12_forHead_207 : decode cX12_forHead 207 = .ok (.goto 31, 3) := by decide +kernel
theorem dX12_forHead_210 : decode cX12_forHead 210 = .ok (.aload_n 0, 1) := by decide +kernel
theorem dX12_forHead_211 : decode cX12_forHead 211 = .ok (.aload_n 0, 1) := by decide +kernel
theorem dX12_forHead_212 : decode cX12_forHead 212 = .ok (.getfield 307, 3) := by decide +kernel
theorem dX12_forHead_215 : decode cX12_forHead 215 = .ok (.bipush 59, 2) := by decide +kernel
theorem dX12_forHead_217 : decode cX12_forHead 217 = .ok (.if_icmp .ne 7, 3) := by decide +kernel
theorem dX12_forHead_220 : decode cX12_forHead 220 = .ok (.iconst 1, 1) := by decide +kernel
theorem dX12_forHead_221 : decode cX12_forHead 221 = .ok (.goto 4, 3) := by decide +kernel
theorem dX12_forHead_224 : decode cX12_forHead 224 = .ok (.iconst 0, 1) := by decide +kernel
theorem dX12_forHead_225 : decode cX12_forHead 225 = .ok (.invokevirtual 341, 3) := by decide +kernel
theorem dX12_forHead_228 : decode cX12_forHead 228 = .ok (.ifCond .eq 10, 3) := by decide +kernel
theorem dX12_forHead_231 : decode cX12_forHead 231 = .ok (.aload_n 0, 1) := by decide +kernel
theorem dX12_forHead_232 : decode cX12_forHead 232 = .ok (.getfield 177, 3) := by decide +kernel
theorem dX12_forHead_235 : decode cX12_forHead 235 = .ok (.iload_n 1, 1) := by decide +kernel
theorem dX12_forHead_236 : decode cX12_forHead 236 = .ok (.iconst 3, 1) := by decide +kernel
theorem dX12_forHead_237 : decode cX12_forHead 237 = .ok (.iastore, 1) := by decide +kernel
theorem dX12_forHead_238 : decode cX12_forHead 238 = .ok (.return_, 1) := by decide +kernel
theorem dX12_forBehind_0 : decode cX12_forBehind 0 = .ok (.aload_n 0, 1) := by decide +kernel
theorem dX12_forBehind_1 : decode cX12_forBehind 1 = .ok (.bipush 59, 2) := by decide +kernel
theorem dX12_forBehind_3 : decode cX12_forBehind 3 = .ok (.invokevirtual 355, 3) := by decide +kernel
theorem dX12_forBehind_6 : decode cX12_forBehind 6 = .ok (.pop, 1) := by decide +kernel
theorem dX12_forBehind_7 : decode cX12_forBehind 7 = .ok (.aload_n 0, 1) := by decide +kernel
theorem dX12_forBehind_8 : decode cX12_forBehind 8 = .ok (.getfield 183, 3) := by decide +kernel
theorem dX12_forBehind_11 : decode cX12_forBehind 11 = .ok (.iload_n 1, 1) := by decide +kernel
theorem dX12_forBehind_12 : decode cX12_forBehind 12 = .ok (.aload_n 0, 1) := by decide +kernel
theorem dX12_forBehind_13 : decode cX12_forBehind 13 = .ok (.bipush 13, 2) := by decide +kernel
theorem dX12_forBehind_15 : decode cX12_forBehind 15 = .ok (.iconst 0, 1) := by decide +kernel
theorem dX12_forBehind_16 : decode cX12_forBehind 16 = .ok (.invokevirtual 464, 3) := by decide +kernel
theorem dX12_forBehind_19 : decode cX12_forBehind 19 = .ok (.iastore, 1) := by decide +kernel
theorem dX12_forBehind_20 : decode cX12_forBehind 20 = .ok (.aload_n 0, 1) := by decide +kernel
theorem dX12_forBehind_21 : decode cX12_forBehind 21 = .ok (.getfield 186, 3) := by decide +kernel
theorem dX12_forBehind_24 : decode cX12_forBehind 24 = .ok (.iload_n 1, 1) := by decide +kernel
theorem dX12_forBehind_25 : decode cX12_forBehind 25 = .ok (.aload_n 0, 1) := by decide +kernel
theorem dX12_forBehind_26 : decode cX12_forBehind 26 = .ok (.bipush 15, 2) := by decide +kernel
theorem dX12_forBehind_28 : decode cX12_forBehind 28 = .ok (.iconst 0, 1) := by decide +kernel
theorem dX12_forBehind_29 : decode cX12_forBehind 29 = .ok (.invokevirtual 464, 3) := by decide +kernel
theorem dX12_forBehind_32 : decode cX12_forBehind 32 = .ok (.iastore, 1) := by decide +kernel
theorem dX12_forBehind_33 : decode cX12_forBehind 33 = .ok (.aload_n 0, 1) := by decide +kernel
theorem dX12_forBehind_34 : decode cX12_forBehind 34 = .ok (.getfield 192, 3) := by decide +kernel
theorem dX12_forBehind_37 : decode cX12_forBehind 37 = .ok (.iload_n 1, 1) := by decide +kernel
theorem dX12_forBehind_38 : decode cX12_forBehind 38 = .ok (.aload_n 0, 1) := by decide +kernel
theorem dX12_forBehind_39 : decode cX12_forBehind 39 = .ok (.getfield 358, 3) := by decide +kernel
theorem dX12_forBehind_42 : decode cX12_forBehind 42 = .ok (.iastore, 1) := by decide +kernel
theorem dX12_forBehind_43 : decode cX12_forBehind 43 = .ok (.aload_n 0, 1) := by decide +kernel
theorem dX12_forBehind_44 : decode cX12_forBehind 44 = .ok (.getfield 291, 3) := by decide +kernel
theorem dX12_forBehind_47 : decode cX12_forBehind 47 = .ok (.ifCond .ne 12, 3) := by decide +kernel
theorem dX12_forBehind_50 : decode cX12_forBehind 50 = .ok (.aload_n 0, 1) := by decide +kernel
theorem dX12_forBehind_51 : decode cX12_forBehind 51 = .ok (.getfield 307, 3) := by decide +kernel
theorem dX12_forBehind_54 : decode cX12_forBehind 54 = .ok (.bipush 41, 2) := by decide +kernel
theorem dX12_forBehind_56 : decode cX12_forBehind 56 = .ok (.if_icmp .ne 12, 3) := by decide +kernel
theorem dX12_forBehind_59 : decode cX12_forBehind 59 = .ok (.aload_n 0, 1) := by decide +kernel
theorem dX12_forBehind_60 : decode cX12_forBehind 60 = .ok (.getfield 177, 3) := by decide +kernel
theorem dX12_forBehind_63 : decode cX12_forBehind 63 = .ok (.iload_n 1, 1) := by decide +kernel
theorem dX12_forBehind_64 : decode cX12_forBehind 64 = .ok (.bipush 7, 2) := by decide +kernel
theorem dX12_forBehind_66 : decode cX12_forBehind 66 = .ok (.iastore, 1) := by decide +kernel
theorem dX12_forBehind_67 : decode cX12_forBehind 67 = .ok (.return_, 1) := by decide +kernel
theorem dX12_forBehind_68 : decode cX12_forBehind 68 = .ok (.aload_n 0, 1) := by decide +kernel
theorem dX12_forBehind_69 : decode cX12_forBehind 69 = .ok (.aload_n 0, 1) := by decide +kernel
theorem dX12_forBehind_70 : decode cX12_forBehind 70 = .ok (.getfield 307, 3) := by decide +kernel
theorem dX12_forBehind_73 : decode cX12_forBehind 73 = .ok (.iconst 2, 1) := by decide +kernel
theorem dX12_forBehind_74 : decode cX12_forBehind 74 = .ok (.if_icmp .ne 7, 3) := by decide +kernel
theorem dX12_forBehind_77 : decode cX12_forBehind 77 = .ok (.iconst 1, 1) := by decide +kernel
theorem dX12_forBehind_78 : decode cX12_forBehind 78 = .ok (.goto 4, 3) := by decide +kernel
theorem dX12_forBehind_81 : decode cX12_forBehind 81 = .ok (.iconst 0, 1) := by decide +kernel
theorem dX12_forBehind_82 : decode cX12_forBehind 82 = .ok (.invokevirtual 341, 3) := by decide +kernel
theorem dX12_forBehind_85 : decode cX12_forBehind 85 = .ok (.ifCond .ne 4, 3) := by decide +kernel
theorem dX12_forBehind_88 : decode cX12_forBehind 88 = .ok (.return_, 1) := by decide +kernel
theorem dX12_forBehind_89 : decode cX12_forBehind 89 = .ok (.aload_n 0, 1) := by decide +kernel
theorem dX12_forBehind_90 : decode cX12_forBehind 90 = .ok (.getfield 201, 3) := by decide +kernel
theorem dX12_forBehind_93 : decode cX12_forBehind 93 = .ok (.iload_n 1, 1) := by decide +kernel
theorem dX12_forBehind_94 : decode cX12_forBehind 94 = .ok (.aload_n 0, 1) := by decide +kernel
theorem dX12_forBehind_95 : decode cX12_forBehind 95 = .ok (.aload_n 0, 1) := by decide +kernel
theorem dX12_forBehind_96 : decode cX12_forBehind 96 = .ok (.getfield 327, 3) := by decide +kernel
theorem dX12_forBehind_99 : decode cX12_forBehind 99 = .ok (.aload_n 0, 1) := by decide +kernel
theorem dX12_forBehind_100 : decode cX12_forBehind 100 = .ok (.getfield 304, 3) := by decide +kernel
theorem dX12_forBehind_103 : decode cX12_forBehind 103 = .ok (.invokevirtual 517, 3) := by decide +kernel
theorem dX12_forBehind_106 : decode cX12_forBehind 106 = .ok (.iastore, 1) := by decide +kernel
theorem dX12_forBehind_107 : decode cX12_forBehind 107 = .ok (.aload_n 0, 1) := by decide +kernel
theorem dX12_forBehind_108 : decode cX12_forBehind 108 = .ok (.invokevirtual 345, 3) := by decide +kernel
theorem dX12_forBehind_111 : decode cX12_forBehind 111 = .ok (.aload_n 0, 1) := by decide +kernel
theorem dX12_forBehind_112 : decode cX12_forBehind 112 = .ok (.aload_n 0, 1) := by decide +kernel
theorem dX12_forBehind_113 : decode cX12_forBehind 113 = .ok (.getfield 307, 3) := by decide +kernel
theorem dX12_forBehind_116 : decode cX12_forBehind 116 = .ok (.bipush 61, 2) := by decide +kernel
theorem dX12_forBehind_118 : decode cX12_forBehind 118 = .ok (.if_icmp .eq 13, 3) := by decide +kernel
theorem dX12_forBehind_121 : decode cX12_forBehind 121 = .ok (.aload_n 0, 1) := by decide +kernel
theorem dX12_forBehind_122 : decode cX12_forBehind 122 = .ok (.getfield 307, 3) := by decide +kernel
theorem dX12_forBehind_125 : decode cX12_forBehind 125 = .ok (.sipush 307, 3) := by decide +kernel
theorem dX12_forBehind_128 : decode cX12_forBehind 128 = .ok (.if_icmp .ne 7, 3) := by decide +kernel
theorem dX12_forBehind_131 : decode cX12_forBehind 131 = .ok (.iconst 1, 1) := by decide +kernel
theorem dX12_forBehind_132 : decode cX12_forBehind 132 = .ok (.goto 4, 3) := by decide +kernel
theorem dX12_forBehind_135 : decode cX12_forBehind 135 = .ok (.iconst 0, 1) := by decide +kernel
theorem dX12_forBehind_136 : decode cX12_forBehind 136 = .ok (.invokevirtual 341, 3) := by decide +kernel
theorem dX12_forBehind_139 : decode cX12_forBehind 139 = .ok (.ifCond .ne 4, 3) := by decide +kernel
theorem dX12_forBehind_142 : decode cX12_forBehind 142 = .ok (.return_, 1) := by decide +kernel
theorem dX12_forBehind_143 : decode cX12_forBehind 143 = .ok (.aload_n 0, 1) := by decide +kernel
theorem dX12_forBehind_144 : decode cX12_forBehind 144 = .ok (.getfield 307, 3) := by decide +kernel
theorem dX12_forBehind_147 : decode cX12_forBehind 147 = .ok (.sipush 307, 3) := by decide +kernel
theorem dX12_forBehind_150 : decode cX12_forBehind 150 = .ok (.if_icmp .ne 7, 3) := by decide +kernel
theorem dX12_forBehind_153 : decode cX12_forBehind 153 = .ok (.iconst 1, 1) := by decide +kernel
theorem dX12_forBehind_154 : decode cX12_forBehind 154 = .ok (.goto 4, 3) := by decide +kernel
theorem dX12_forBehind_157 : decode cX12_forBehind 157 = .ok (.iconst 0, 1) := by decide +kernel
theorem dX12_forBehind_158 : decode cX12_forBehind 158 = .ok (.istore_n 2, 1) := by decide +kernel
theorem dX12_forBehind_159 : decode cX12_forBehind 159 = .ok (.aload_n 0, 1) := by decide +kernel
theorem dX12_forBehind_160 : decode cX12_forBehind 160 = .ok (.invokevirtual 345, 3) := by decide +kernel
theorem dX12_forBehind_163 : decode cX12_forBehind 163 = .ok (.iload_n 2, 1) := by decide +kernel
theorem dX12_forBehind_164 : decode cX12_forBehind 164 = .ok (.ifCond .eq 27, 3) := by decide +kernel
theorem dX12_forBehind_167 : decode cX12_forBehind 167 = .ok (.aload_n 0, 1) := by decide +kernel
theorem dX12_forBehind_168 : decode cX12_forBehind 168 = .ok (.bipush 6, 2) := by decide +kernel
theorem dX12_forBehind_170 : decode cX12_forBehind 170 = .ok (.aload_n 0, 1) := by decide +kernel
theorem dX12_forBehind_171 : decode cX12_forBehind 171 = .ok (.getfield 201, 3) := by decide +kernel
theorem dX12_forBehind_174 : decode cX12_forBehind 174 = .ok (.iload_n 1, 1) := by decide +kernel
theorem dX12_forBehind_175 : decode cX12_forBehind 175 = .ok (.iaload, 1) := by decide +kernel
theorem dX12_forBehind_176 : decode cX12_forBehind 176 = .ok (.invokevirtual 464, 3) := by decide +kernel
theorem dX12_forBehind_179 : decode cX12_forBehind 179 = .ok (.pop, 1) := by decide +kernel
theorem dX12_forBehind_180 : decode cX12_forBehind 180 = .ok (.aload_n 0, 1) := by decide +kernel
theorem dX12_forBehind_181 : decode cX12_forBehind 181 = .ok (.getfield 177, 3) := by decide +kernel
theorem dX12_forBehind_184 : decode cX12_forBehind 184 = .ok (.iload_n 1, 1) := by decide +kernel
theorem dX12_forBehind_185 : decode cX12_forBehind 185 = .ok (.bipush 7, 2) := by decide +kernel
theorem dX12_forBehind_187 : decode cX12_forBehind 187 = .ok (.iastore, 1) := by decide +kernel
theorem dX12_forBehind_188 : decode cX12_forBehind 188 = .ok (.goto 11, 3) := by decide +kernel
theorem dX12_forBehind_191 : decode cX12_forBehind 191 = .ok (.aload_n 0, 1) := by decide +kernel
theorem dX12_forBehind_192 : decode cX12_forBehind 192 = .ok (.bipush 6, 2) := by decide +kernel
theorem dX12_forBehind_194 : decode cX12_forBehind 194 = .ok (.bipush 16, 2) := by decide +kernel
theorem dX12_forBehind_196 : decode cX12_forBehind 196 = .ok (.invokevirtual 393, 3) := by decide +kernel
theorem dX12_forBehind_199 : decode cX12_forBehind 199 = .ok (.return_, 1) := by decide +kernel
theorem dX12_rows_0 : decode cX12_rows 0 = .ok (.aload_n 0, 1) := by decide +kernel
theorem dX12_rows_1 : decode cX12_rows 1 = .ok (.getfield 177, 3) := by decide +kernel
theorem dX12_rows_4 : decode cX12_rows 4 = .ok (.iload_n 1, 1) := by decide +kernel
theorem dX12_rows_5 : decode cX12_rows 5 = .ok (.iaload, 1) := by decide +kernel
theorem dX12_rows_6 : decode cX12_rows 6 = .ok (.bipush 10, 2) := by decide +kernel
theorem dX12_rows_8 : decode cX12_rows 8 = .ok (.if_icmp .ne 61, 3) := by decide +kernel
theorem dX12_rows_11 : decode cX12_rows 11 = .ok (.aload_n 0, 1) := by decide +kernel
theorem dX12_rows_12 : decode cX12_rows 12 = .ok (.getfield 186, 3) := by decide +kernel
theorem dX12_rows_15 : decode cX12_rows 15 = .ok (.iload_n 1, 1) := by decide +kernel
theorem dX12_rows_16 : decode cX12_rows 16 = .ok (.dup2, 1) := by decide +kernel
theorem dX12_rows_17 : decode cX12_rows 17 = .ok (.iaload, 1) := by decide +kernel
theorem dX12_rows_18 : decode cX12_rows 18 = .ok (.iconst 1, 1) := by decide +kernel
theorem dX12_rows_19 : decode cX12_rows 19 = .ok (.iadd, 1) := by decide +kernel
theorem dX12_rows_20 : decode cX12_rows 20 = .ok (.iastore, 1) := by decide +kernel
theorem dX12_rows_21 : decode cX12_rows 21 = .ok (.aload_n 0, 1) := by decide +kernel
theorem dX12_rows_22 : decode cX12_rows 22 = .ok (.getfield 307, 3) := by decide +kernel
theorem dX12_rows_25 : decode cX12_rows 25 = .ok (.bipush 44, 2) := by decide +kernel
theorem dX12_rows_27 : decode cX12_rows 27 = .ok (.if_icmp .ne 18, 3) := by decide +kernel
theorem dX12_rows_30 : decode cX12_rows 30 = .ok (.aload_n 0, 1) := by decide +kernel
theorem dX12_rows_31 : decode cX12_rows 31 = .ok (.invokevirtual 345, 3) := by decide +kernel
theorem dX12_rows_34 : decode cX12_rows 34 = .ok (.aload_n 0, 1) := by decide +kernel
theorem dX12_rows_35 : decode cX12_rows 35 = .ok (.bipush 10, 2) := by decide +kernel
theorem dX12_rows_37 : decode cX12_rows 37 = .ok (.bipush 16, 2) := by decide +kernel
theorem dX12_rows_39 : decode cX12_rows 39 = .ok (.invokevirtual 393, 3) := by decide +kernel
theorem dX12_rows_42 : decode cX12_rows 42 = .ok (.goto 219, 3) := by decide +kernel
theorem dX12_rows_45 : decode cX12_rows 45 = .ok (.aload_n 0, 1) := by decide +kernel
theorem dX12_rows_46 : decode cX12_rows 46 = .ok (.bipush 23, 2) := by decide +kernel
theorem dX12_rows_48 : decode cX12_rows 48 = .ok (.aload_n 0, 1) := by decide +kernel
theorem dX12_rows_49 : decode cX12_rows 49 = .ok (.getfield 186, 3) := by decide +kernel
theorem dX12_rows_52 : decode cX12_rows 52 = .ok (.iload_n 1, 1) := by decide +kernel
theorem dX12_rows_53 : decode cX12_rows 53 = .ok (.iaload, 1) := by decide +kernel
theorem dX12_rows_54 : decode cX12_rows 54 = .ok (.invokevirtual 464, 3) := by decide +kernel
theorem dX12_rows_57 : decode cX12_rows 57 = .ok (.pop, 1) := by decide +kernel
theorem dX12_rows_58 : decode cX12_rows 58 = .ok (.aload_n 0, 1) := by decide +kernel
theorem dX12_rows_59 : decode cX12_rows 59 = .ok (.getfield 177, 3) := by decide +kernel
theorem dX12_rows_62 : decode cX12_rows 62 = .ok (.iload_n 1, 1) := by decide +kernel
theorem dX12_rows_63 : decode cX12_rows 63 = .ok (.bipush 12, 2) := by decide +kernel
theorem dX12_rows_65 : decode cX12_rows 65 = .ok (.iastore, 1) := by decide +kernel
theorem dX12_rows_66 : decode cX12_rows 66 = .ok (.goto 195, 3) := by decide +kernel
theorem dX12_rows_69 : decode cX12_rows 69 = .ok (.aload_n 0, 1) := by decide +kernel
theorem dX12_rows_70 : decode cX12_rows 70 = .ok (.getfield 177, 3) := by decide +kernel
theorem dX12_rows_73 : decode cX12_rows 73 = .ok (.iload_n 1, 1) := by decide +kernel
theorem dX12_rows_74 : decode cX12_rows 74 = .ok (.iaload, 1) := by decide +kernel
theorem dX12_rows_75 : decode cX12_rows 75 = .ok (.bipush 12, 2) := by decide +kernel
theorem dX12_rows_77 : decode cX12_rows 77 = .ok (.if_icmp .ne 76, 3) := by decide +kernel
theorem dX12_rows_80 : decode cX12_rows 80 = .ok (.aload_n 0, 1) := by decide +kernel
theorem dX12_rows_81 : decode cX12_rows 81 = .ok (.aload_n 0, 1) := by decide +kernel
theorem dX12_rows_82 : decode cX12_rows 82 = .ok (.getfield 204, 3) := by decide +kernel
theorem dX12_rows_85 : decode cX12_rows 85 = .ok (.iload_n 1, 1) := by decide +kernel
theorem dX12_rows_86 : decode cX12_rows 86 = .ok (.laload, 1) := by decide +kernel
theorem dX12_rows_87 : decode cX12_rows 87 = .ok (.iconst 0, 1) := by decide +kernel
theorem dX12_rows_88 : decode cX12_rows 88 = .ok (.invokevirtual 506, 3) := by decide +kernel
theorem dX12_rows_91 : decode cX12_rows 91 = .ok (.istore_n 2, 1) := by decide +kernel
theorem dX12_rows_92 : decode cX12_rows 92 = .ok (.aload_n 0, 1) := by decide +kernel
theorem dX12_rows_93 : decode cX12_rows 93 = .ok (.bipush 41, 2) := by decide +kernel
theorem dX12_rows_95 : decode cX12_rows 95 = .ok (.invokevirtual 468, 3) := by decide +kernel
theorem dX12_rows_98 : decode cX12_rows 98 = .ok (.pop, 1) := by decide +kernel
theorem dX12_rows_99 : decode cX12_rows 99 = .ok (.aload_n 0, 1) := by decide +kernel
theorem dX12_rows_100 : decode cX12_rows 100 = .ok (.dup, 1) := by decide +kernel
theorem dX12_rows_101 : decode cX12_rows 101 = .ok (.getfield 370, 3) := by decide +kernel
theorem dX12_rows_104 : decode cX12_rows 104 = .ok (.iconst 1, 1) := by decide +kernel
theorem dX12_rows_105 : decode cX12_rows 105 = .ok (.iadd, 1) := by decide +kernel
theorem dX12_rows_106 : decode cX12_rows 106 = .ok (.putfield 370, 3) := by decide +kernel
theorem dX12_rows_109 : decode cX12_rows 109 = .ok (.aload_n 0, 1) := by decide +kernel
theorem dX12_rows_110 : decode cX12_rows 110 = .ok (.getfield 180, 3) := by decide +kernel
theorem dX12_rows_113 : decode cX12_rows 113 = .ok (.iload_n 1, 1) := by decide +kernel
theorem dX12_rows_114 : decode cX12_rows 114 = .ok (.aload_n 0, 1) := by decide +kernel
theorem dX12_rows_115 : decode cX12_rows 115 = .ok (.bipush 24, 2) := by decide +kernel
theorem dX12_rows_117 : decode cX12_rows 117 = .ok (.iconst 0, 1) := by decide +kernel
theorem dX12_rows_118 : decode cX12_rows 118 = .ok (.invokevirtual 464, 3) := by decide +kernel
theorem dX12_rows_121 : decode cX12_rows 121 = .ok (.iastore, 1) := by decide +kernel
theorem dX12_rows_122 : decode cX12_rows 122 = .ok (.aload_n 0, 1) := by decide +kernel
theorem dX12_rows_123 : decode cX12_rows 123 = .ok (.getfield 90, 3) := by decide +kernel
theorem dX12_rows_126 : decode cX12_rows 126 = .ok (.aload_n 0, 1) := by decide +kernel
theorem dX12_rows_127 : decode cX12_rows 127 = .ok (.getfield 180, 3) := by decide +kernel
theorem dX12_rows_130 : decode cX12_rows 130 = .ok (.iload_n 1, 1) := by decide +kernel
theorem dX12_rows_131 : decode cX12_rows 131 = .ok (.iaload, 1) := by decide +kernel
theorem dX12_rows_132 : decode cX12_rows 132 = .ok (.iload_n 2, 1) := by decide +kernel
theorem dX12_rows_133 : decode cX12_rows 133 = .ok (.iastore, 1) := by decide +kernel
theorem dX12_rows_134 : decode cX12_rows 134 = .ok (.aload_n 0, 1) := by decide +kernel
theorem dX12_rows_135 : decode cX12_rows 135 = .ok (.getfield 201, 3) := by decide +kernel
theorem dX12_rows_138 : decode cX12_rows 138 = .ok (.iload_n 1, 1) := by decide +kernel
theorem dX12_rows_139 : decode cX12_rows 139 = .ok (.aload_n 0, 1) := by decide +kernel
theorem dX12_rows_140 : decode cX12_rows 140 = .ok (.invokevirtual 536, 3) := by decide +kernel
theorem dX12_rows_143 : decode cX12_rows 143 = .ok (.iastore, 1) := by decide +kernel
theorem dX12_rows_144 : decode cX12_rows 144 = .ok (.aload_n 0, 1) := by decide +kernel
theorem dX12_rows_145 : decode cX12_rows 145 = .ok (.bipush 13, 2) := by decide +kernel
theorem dX12_rows_147 : decode cX12_rows 147 = .ok (.invokevirtual 521, 3) := by decide +kernel
theorem dX12_rows_150 : decode cX12_rows 150 = .ok (.goto 111, 3) := by decide +kernel
theorem dX12_rows_153 : decode cX12_rows 153 = .ok (.aload_n 0, 1) := by decide +kernel
theorem dX12_rows_154 : decode cX12_rows 154 = .ok (.getfield 201, 3) := by decide +kernel
theorem dX12_rows_157 : decode cX12_rows 157 = .ok (.iload_n 1, 1) := by decide +kernel
theorem dX12_rows_158 : decode cX12_rows 158 = .ok (.iaload, 1) := by decide +kernel
theorem dX12_rows_159 : decode cX12_rows 159 = .ok (.istore_n 2, 1) := by decide +kernel
theorem dX12_rows_160 : decode cX12_rows 160 = .ok (.aload_n 0, 1) := by decide +kernel
theorem dX12_rows_161 : decode cX12_rows 161 = .ok (.aload_n 0, 1) := by decide +kernel
theorem dX12_rows_162 : decode cX12_rows 162 = .ok (.getfield 150, 3) := by decide +kernel
theorem dX12_rows_165 : decode cX12_rows 165 = .ok (.iload_n 2, 1) := by decide +kernel
theorem dX12_rows_166 : decode cX12_rows 166 = .ok (.iaload, 1) := by decide +kernel
theorem dX12_rows_167 : decode cX12_rows 167 = .ok (.aload_n 0, 1) := by decide +kernel
theorem dX12_rows_168 : decode cX12_rows 168 = .ok (.getfield 180, 3) := by decide +kernel
theorem dX12_rows_171 : decode cX12_rows 171 = .ok (.iload_n 1, 1) := by decide +kernel
theorem dX12_rows_172 : decode cX12_rows 172 = .ok (.iaload, 1) := by decide +kernel
theorem dX12_rows_173 : decode cX12_rows 173 = .ok (.invokevirtual 510, 3) := by decide +kernel
theorem dX12_rows_176 : decode cX12_rows 176 = .ok (.aload_n 0, 1) := by decide +kernel
theorem dX12_rows_177 : decode cX12_rows 177 = .ok (.bipush 15, 2) := by decide +kernel
theorem dX12_rows_179 : decode cX12_rows 179 = .ok (.aload_n 0, 1) := by decide +kernel
theorem dX12_rows_180 : decode cX12_rows 180 = .ok (.getfield 180, 3) := by decide +kernel
theorem dX12_rows_183 : decode cX12_rows 183 = .ok (.iload_n 1, 1) := by decide +kernel
theorem dX12_rows_184 : decode cX12_rows 184 = .ok (.iaload, 1) := by decide +kernel
theorem dX12_rows_185 : decode cX12_rows 185 = .ok (.invokevirtual 464, 3) := by decide +kernel
theorem dX12_rows_188 : decode cX12_rows 188 = .ok (.pop, 1) := by decide +kernel
theorem dX12_rows_189 : decode cX12_rows 189 = .ok (.aload_n 0, 1) := by decide +kernel
theorem dX12_rows_190 : decode cX12_rows 190 = .ok (.getfield 87, 3) := by decide +kernel
theorem dX12_rows_193 : decode cX12_rows 193 = .ok (.aload_n 0, 1) := by decide +kernel
theorem dX12_rows_194 : decode cX12_rows 194 = .ok (.getfield 180, 3) := by decide +kernel
theorem dX12_rows_197 : decode cX12_rows 197 = .ok (.iload_n 1, 1) := by decide +kernel
theorem dX12_rows_198 : decode cX12_rows 198 = .ok (.iaload, 1) := by decide +kernel
theorem dX12_rows_199 : decode cX12_rows 199 = .ok (.aload_n 0, 1) := by decide +kernel
theorem dX12_rows_200 : decode cX12_rows 200 = .ok (.getfield 358, 3) := by decide +kernel
theorem dX12_rows_203 : decode cX12_rows 203 = .ok (.iastore, 1) := by decide +kernel
theorem dX12_rows_204 : decode cX12_rows 204 = .ok (.aload_n 0, 1) := by decide +kernel
theorem dX12_rows_205 : decode cX12_rows 205 = .ok (.aload_n 0, 1) := by decide +kernel
theorem dX12_rows_206 : decode cX12_rows 206 = .ok (.getfield 147, 3) := by decide +kernel
theorem dX12_rows_209 : decode cX12_rows 209 = .ok (.iload_n 2, 1) := by decide +kernel
theorem dX12_rows_210 : decode cX12_rows 210 = .ok (.iaload, 1) := by decide +kernel
theorem dX12_rows_211 : decode cX12_rows 211 = .ok (.aload_n 0, 1) := by decide +kernel
theorem dX12_rows_212 : decode cX12_rows 212 = .ok (.getfield 358, 3) := by decide +kernel
theorem dX12_rows_215 : decode cX12_rows 215 = .ok (.invokevirtual 510, 3) := by decide +kernel
theorem dX12_rows_218 : decode cX12_rows 218 = .ok (.aload_n 0, 1) := by decide +kernel
theorem dX12_rows_219 : decode cX12_rows 219 = .ok (.bipush 25, 2) := by decide +kernel
theorem dX12_rows_221 : decode cX12_rows 221 = .ok (.iconst 0, 1) := by decide +kernel
theorem dX12_rows_222 : decode cX12_rows 222 = .ok (.invokevirtual 464, 3) := by decide +kernel
theorem dX12_rows_225 : decode cX12_rows 225 = .ok (.pop, 1) := by decide +kernel
theorem dX12_rows_226 : decode cX12_rows 226 = .ok (.aload_n 0, 1) := by decide +kernel
theorem dX12_rows_227 : decode cX12_rows 227 = .ok (.dup, 1) := by decide +kernel
theorem dX12_rows_228 : decode cX12_rows 228 = .ok (.getfield 370, 3) := by decide +kernel
theorem dX12_rows_231 : decode cX12_rows 231 = .ok (.iconst 1, 1) := by decide +kernel
theorem dX12_rows_232 : decode cX12_rows 232 = .ok (.isub, 1) := by decide +kernel
theorem dX12_rows_233 : decode cX12_rows 233 = .ok (.putfield 370, 3) := by decide +kernel
theorem dX12_rows_236 : decode cX12_rows 236 = .ok (.aload_n 0, 1) := by decide +kernel
theorem dX12_rows_237 : decode cX12_rows 237 = .ok (.dup, 1) := by decide +kernel
theorem dX12_rows_238 : decode cX12_rows 238 = .ok (.getfield 367, 3) := by decide +kernel
theorem dX12_rows_241 : decode cX12_rows 241 = .ok (.iconst 1, 1) := by decide +kernel
theorem dX12_rows_242 : decode cX12_rows 242 = .ok (.isub, 1) := by decide +kernel
theorem dX12_rows_243 : decode cX12_rows 243 = .ok (.putfield 367, 3) := by decide +kernel
theorem dX12_rows_246 : decode cX12_rows 246 = .ok (.aload_n 0, 1) := by decide +kernel
theorem dX12_rows_247 : decode cX12_rows 247 = .ok (.aload_n 0, 1) := by decide +kernel
theorem dX12_rows_248 : decode cX12_rows 248 = .ok (.getfield 195, 3) := by decide +kernel
theorem dX12_rows_251 : decode cX12_rows 251 = .ok (.iload_n 1, 1) := by decide +kernel
theorem dX12_rows_252 : decode cX12_rows 252 = .ok (.iaload, 1) := by decide +kernel
theorem dX12_rows_253 : decode cX12_rows 253 = .ok (.putfield 361, 3) := by decide +kernel
theorem dX12_rows_256 : decode cX12_rows 256 = .ok (.aload_n 0, 1) := by decide +kernel
theorem dX12_rows_257 : decode cX12_rows 257 = .ok (.iconst 1, 1) := by decide +kernel
theorem dX12_rows_258 : decode cX12_rows 258 = .ok (.invokevirtual 490, 3) := by decide +kernel
theorem dX12_rows_261 : decode cX12_rows 261 = .ok (.return_, 1) := by decide +kernel
theorem dX12_lock_0 : decode cX12_lock 0 = .ok (.aload_n 0, 1) := by decide +kernel
theorem dX12_lock_1 : decode cX12_lock 1 = .ok (.getfield 177, 3) := by decide +kernel
theorem dX12_lock_4 : decode cX12_lock 4 = .ok (.iload_n 1, 1) := by decide +kernel
theorem dX12_lock_5 : decode cX12_lock 5 = .ok (.iaload, 1) := by decide +kernel
theorem dX12_lock_6 : decode cX12_lock 6 = .ok (.ifCond .ne 112, 3) := by decide +kernel
theorem dX12_lock_9 : decode cX12_lock 9 = .ok (.aload_n 0, 1) := by decide +kernel
theorem dX12_lock_10 : decode cX12_lock 10 = .ok (.invokevirtual 345, 3) := by decide +kernel
theorem dX12_lock_13 : decode cX12_lock 13 = .ok (.aload_n 0, 1) := by decide +kernel
theorem dX12_lock_14 : decode cX12_lock 14 = .ok (.bipush 40, 2) := by decide +kernel
theorem dX12_lock_16 : decode cX12_lock 16 = .ok (.invokevirtual 475, 3) := by decide +kernel
theorem dX12_lock_19 : decode cX12_lock 19 = .ok (.pop, 1) := by decide +kernel
theorem dX12_lock_20 : decode cX12_lock 20 = .ok (.aload_n 0, 1) := by decide +kernel
theorem dX12_lock_21 : decode cX12_lock 21 = .ok (.aload_n 0, 1) := by decide +kernel
theorem dX12_lock_22 : decode cX12_lock 22 = .ok (.getfield 307, 3) := by decide +kernel
theorem dX12_lock_25 : decode cX12_lock 25 = .ok (.iconst 3, 1) := by decide +kernel
theorem dX12_lock_26 : decode cX12_lock 26 = .ok (.if_icmp .eq 13, 3) := by decide +kernel
theorem dX12_lock_29 : decode cX12_lock 29 = .ok (.aload_n 0, 1) := by decide +kernel
theorem dX12_lock_30 : decode cX12_lock 30 = .ok (.getfield 307, 3) := by decide +kernel
theorem dX12_lock_33 : decode cX12_lock 33 = .ok (.sipush 434, 3) := by decide +kernel
theorem dX12_lock_36 : decode cX12_lock 36 = .ok (.if_icmp .ne 7, 3) := by decide +kernel
theorem dX12_lock_39 : decode cX12_lock 39 = .ok (.iconst 1, 1) := by decide +kernel
theorem dX12_lock_40 : decode cX12_lock 40 = .ok (.goto 4, 3) := by decide +kernel
theorem dX12_lock_43 : decode cX12_lock 43 = .ok (.iconst 0, 1) := by decide +kernel
theorem dX12_lock_44 : decode cX12_lock 44 = .ok (.invokevirtual 341, 3) := by decide +kernel
theorem dX12_lock_47 : decode cX12_lock 47 = .ok (.ifCond .eq 47, 3) := by decide +kernel
theorem dX12_lock_50 : decode cX12_lock 50 = .ok (.aload_n 0, 1) := by decide +kernel
theorem dX12_lock_51 : decode cX12_lock 51 = .ok (.aload_n 0, 1) := by decide +kernel
theorem dX12_lock_52 : decode cX12_lock 52 = .ok (.getfield 307, 3) := by decide +kernel
theorem dX12_lock_55 : decode cX12_lock 55 = .ok (.sipush 434, 3) := by decide +kernel
theorem dX12_lock_58 : decode cX12_lock 58 = .ok (.if_icmp .ne 8, 3) := by decide +kernel
theorem dX12_lock_61 : decode cX12_lock 61 = .ok (.bipush 20, 2) := by decide +kernel
theorem dX12_lock_63 : decode cX12_lock 63 = .ok (.goto 5, 3) := by decide +kernel
theorem dX12_lock_66 : decode cX12_lock 66 = .ok (.bipush 26, 2) := by decide +kernel
theorem dX12_lock_68 : decode cX12_lock 68 = .ok (.aload_n 0, 1) := by decide +kernel
theorem dX12_lock_69 : decode cX12_lock 69 = .ok (.getfield 307, 3) := by decide +kernel
theorem dX12_lock_72 : decode cX12_lock 72 = .ok (.sipush 434, 3) := by decide +kernel
theorem dX12_lock_75 : decode cX12_lock 75 = .ok (.if_icmp .ne 7, 3) := by decide +kernel
theorem dX12_lock_78 : decode cX12_lock 78 = .ok (.iconst 1, 1) := by decide +kernel
theorem dX12_lock_79 : decode cX12_lock 79 = .ok (.goto 7, 3) := by decide +kernel
theorem dX12_lock_82 : decode cX12_lock 82 = .ok (.aload_n 0, 1) := by decide +kernel
theorem dX12_lock_83 : decode cX12_lock 83 = .ok (.getfield 314, 3) := by decide +kernel
theorem dX12_lock_86 : decode cX12_lock 86 = .ok (.invokevirtual 464, 3) := by decide +kernel
theorem dX12_lock_89 : decode cX12_lock 89 = .ok (.pop, 1) := by decide +kernel
theorem dX12_lock_90 : decode cX12_lock 90 = .ok (.aload_n 0, 1) := by decide +kernel
theorem dX12_lock_91 : decode cX12_lock 91 = .ok (.invokevirtual 345, 3) := by decide +kernel
theorem dX12_lock_94 : decode cX12_lock 94 = .ok (.aload_n 0, 1) := by decide +kernel
theorem dX12_lock_95 : decode cX12_lock 95 = .ok (.bipush 41, 2) := by decide +kernel
theorem dX12_lock_97 : decode cX12_lock 97 = .ok (.invokevirtual 468, 3) := by decide +kernel
theorem dX12_lock_100 : decode cX12_lock 100 = .ok (.pop, 1) := by decide +kernel
theorem dX12_lock_101 : decode cX12_lock 101 = .ok (.aload_n 0, 1) := by decide +kernel
theorem dX12_lock_102 : decode cX12_lock 102 = .ok (.dup, 1) := by decide +kernel
theorem dX12_lock_103 : decode cX12_lock 103 = .ok (.getfield 370, 3) := by decide +kernel
theorem dX12_lock_106 : decode cX12_lock 106 = .ok (.iconst 1, 1) := by decide +kernel
theorem dX12_lock_107 : decode cX12_lock 107 = .ok (.iadd, 1) := by decide +kernel
theorem dX12_lock_108 : decode cX12_lock 108 = .ok (.putfield 370, 3) := by decide +kernel
theorem dX12_lock_111 : decode cX12_lock 111 = .ok (.aload_n 0, 1) := by decide +kernel
theorem dX12_lock_112 : decode cX12_lock 112 = .ok (.iconst 1, 1) := by decide +kernel
theorem dX12_lock_113 : decode cX12_lock 113 = .ok (.iconst 3, 1) := by decide +kernel
theorem dX12_lock_114 : decode cX12_lock 114 = .ok (.invokevirtual 393, 3) := by decide +kernel
theorem dX12_lock_117 : decode cX12_lock 117 = .ok (.return_, 1) := by decide +kernel
theorem dX12_lock_118 : decode cX12_lock 118 = .ok (.aload_n 0, 1) := by decide +kernel
theorem dX12_lock_119 : decode cX12_lock 119 = .ok (.bipush 27, 2) := by decide +kernel
theorem dX12_lock_121 : decode cX12_lock 121 = .ok (.iconst 0, 1) := by decide +kernel
theorem dX12_lock_122 : decode cX12_lock 122 = .ok (.invokevirtual 464, 3) := by decide +kernel
theorem dX12_lock_125 : decode cX12_lock 125 = .ok (.pop, 1) := by decide +kernel
theorem dX12_lock_126 : decode cX12_lock 126 = .ok (.aload_n 0, 1) := by decide +kernel
theorem dX12_lock_127 : decode cX12_lock 127 = .ok (.dup, 1) := by decide +kernel
theorem dX12_lock_128 : decode cX12_lock 128 = .ok (.getfield 370, 3) := by decide +kernel
theorem dX12_lock_131 : decode cX12_lock 131 = .ok (.iconst 1, 1) := by decide +kernel
theorem dX12_lock_132 : decode cX12_lock 132 = .ok (.isub, 1) := by decide +kernel
theorem dX12_lock_133 : decode cX12_lock 133 = .ok (.putfield 370, 3) := by decide +kernel
theorem dX12_lock_136 : decode cX12_lock 136 = .ok (.aload_n 0, 1) := by decide +kernel
theorem dX12_lock_137 : decode cX12_lock 137 = .ok (.dup, 1) := by decide +kernel
theorem dX12_lock_138 : decode cX12_lock 138 = .ok (.getfield 387, 3) := by decide +kernel
theorem dX12_lock_141 : decode cX12_lock 141 = .ok (.iconst 1, 1) := by decide +kernel
theorem dX12_lock_142 : decode cX12_lock 142 = .ok (.isub, 1) := by decide +kernel
theorem dX12_lock_143 : decode cX12_lock 143 = .ok (.putfield 387, 3) := by decide +kernel
theorem dX12_lock_146 : decode cX12_lock 146 = .ok (.return_, 1) := by decide +kernel
theorem dX12_groups_0 : decode cX12_groups 0 = .ok (.aload_n 0, 1) := by decide +kernel
theorem dX12_groups_1 : decode cX12_groups 1 = .ok (.getfield 177, 3) := by decide +kernel
theorem dX12_groups_4 : decode cX12_groups 4 = .ok (.iload_n 1, 1) := by decide +kernel
theorem dX12_groups_5 : decode cX12_groups 5 = .ok (.iaload, 1) := by decide +kernel
theorem dX12_groups_6 : decode cX12_groups 6 = .ok (.tableswitch 332 0 2 #[26, 47, 127], 26) := by decide +kernel
theorem dX12_groups_32 : decode cX12_groups 32 = .ok (.aload_n 0, 1) := by decide +kernel
theorem dX12_groups_33 : decode cX12_groups 33 = .ok (.invokevirtual 345, 3) := by decide +kernel
theorem dX12_groups_36 : decode cX12_groups 36 = .ok (.aload_n 0, 1) := by decide +kernel
theorem dX12_groups_37 : decode cX12_groups 37 = .ok (.bipush 40, 2) := by decide +kernel
theorem dX12_groups_39 : decode cX12_groups 39 = .ok (.invokevirtual 475, 3) := by decide +kernel
theorem dX12_groups_42 : decode cX12_groups 42 = .ok (.pop, 1) := by decide +kernel
theorem dX12_groups_43 : decode cX12_groups 43 = .ok (.aload_n 0, 1) := by decide +kernel
theorem dX12_groups_44 : decode cX12_groups 44 = .ok (.iconst 1, 1) := by decide +kernel
theorem dX12_groups_45 : decode cX12_groups 45 = .ok (.bipush 16, 2) := by decide +kernel
theorem dX12_groups_47 : decode cX12_groups 47 = .ok (.invokevirtual 393, 3) := by decide +kernel
theorem dX12_groups_50 : decode cX12_groups 50 = .ok (.goto 313, 3) := by decide +kernel
theorem dX12_groups_53 : decode cX12_groups 53 = .ok (.aload_n 0, 1) := by decide +kernel
theorem dX12_groups_54 : decode cX12_groups 54 = .ok (.bipush 41, 2) := by decide +kernel
theorem dX12_groups_56 : decode cX12_groups 56 = .ok (.invokevirtual 468, 3) := by decide +kernel
theorem dX12_groups_59 : decode cX12_groups 59 = .ok (.pop, 1) := by decide +kernel
theorem dX12_groups_60 : decode cX12_groups 60 = .ok (.aload_n 0, 1) := by decide +kernel
theorem dX12_groups_61 : decode cX12_groups 61 = .ok (.getfield 180, 3) := by decide +kernel
theorem dX12_groups_64 : decode cX12_groups 64 = .ok (.iload_n 1, 1) := by decide +kernel
theorem dX12_groups_65 : decode cX12_groups 65 = .ok (.aload_n 0, 1) := by decide +kernel
theorem dX12_groups_66 : decode cX12_groups 66 = .ok (.bipush 28, 2) := by decide +kernel
theorem dX12_groups_68 : decode cX12_groups 68 = .ok (.iconst (-1), 1) := by decide +kernel
theorem dX12_groups_69 : decode cX12_groups 69 = .ok (.invokevirtual 464, 3) := by decide +kernel
theorem dX12_groups_72 : decode cX12_groups 72 = .ok (.iastore, 1) := by decide +kernel
theorem dX12_groups_73 : decode cX12_groups 73 = .ok (.aload_n 0, 1) := by decide +kernel
theorem dX12_groups_74 : decode cX12_groups 74 = .ok (.getfield 183, 3) := by decide +kernel
theorem dX12_groups_77 : decode cX12_groups 77 = .ok (.iload_n 1, 1) := by decide +kernel
theorem dX12_groups_78 : decode cX12_groups 78 = .ok (.iconst (-1), 1) := by decide +kernel
theorem dX12_groups_79 : decode cX12_groups 79 = .ok (.iastore, 1) := by decide +kernel
theorem dX12_groups_80 : decode cX12_groups 80 = .ok (.aload_n 0, 1) := by decide +kernel
theorem dX12_groups_81 : decode cX12_groups 81 = .ok (.getfield 186, 3) := by decide +kernel
theorem dX12_groups_84 : decode cX12_groups 84 = .ok (.iload_n 1, 1) := by decide +kernel
theorem dX12_groups_85 : decode cX12_groups 85 = .ok (.iconst 0, 1) := by decide +kernel
theorem dX12_groups_86 : decode cX12_groups 86 = .ok (.iastore, 1) := by decide +kernel
theorem dX12_groups_87 : decode cX12_groups 87 = .ok (.aload_n 0, 1) := by decide +kernel
theorem dX12_groups_88 : decode cX12_groups 88 = .ok (.getfield 192, 3) := by decide +kernel
theorem dX12_groups_91 : decode cX12_groups 91 = .ok (.iload_n 1, 1) := by decide +kernel
theorem dX12_groups_92 : decode cX12_groups 92 = .ok (.iconst 1, 1) := by decide +kernel
theorem dX12_groups_93 : decode cX12_groups 93 = .ok (.iastore, 1) := by decide +kernel
theorem dX12_groups_94 : decode cX12_groups 94 = .ok (.aload_n 0, 1) := by decide +kernel
theorem dX12_groups_95 : decode cX12_groups 95 = .ok (.getfield 195, 3) := by decide +kernel
theorem dX12_groups_98 : decode cX12_groups 98 = .ok (.iload_n 1, 1) := by decide +kernel
theorem dX12_groups_99 : decode cX12_groups 99 = .ok (.aload_n 0, 1) := by decide +kernel
theorem dX12_groups_100 : decode cX12_groups 100 = .ok (.getfield 361, 3) := by decide +kernel
theorem dX12_groups_103 : decode cX12_groups 103 = .ok (.iastore, 1) := by decide +kernel
theorem dX12_groups_104 : decode cX12_groups 104 = .ok (.aload_n 0, 1) := by decide +kernel
theorem dX12_groups_105 : decode cX12_groups 105 = .ok (.getfield 198, 3) := by decide +kernel
theorem dX12_groups_108 : decode cX12_groups 108 = .ok (.iload_n 1, 1) := by decide +kernel
theorem dX12_groups_109 : decode cX12_groups 109 = .ok (.aload_n 0, 1) := by decide +kernel
theorem dX12_groups_110 : decode cX12_groups 110 = .ok (.iconst 1, 1) := by decide +kernel
theorem dX12_groups_111 : decode cX12_groups 111 = .ok (.lconst 0, 1) := by decide +kernel
theorem dX12_groups_112 : decode cX12_groups 112 = .ok (.invokevirtual 373, 3) := by decide +kernel
theorem dX12_groups_115 : decode cX12_groups 115 = .ok (.iastore, 1) := by decide +kernel
theorem dX12_groups_116 : decode cX12_groups 116 = .ok (.aload_n 0, 1) := by decide +kernel
theorem dX12_groups_117 : decode cX12_groups 117 = .ok (.bipush 123, 2) := by decide +kernel
theorem dX12_groups_119 : decode cX12_groups 119 = .ok (.invokevirtual 475, 3) := by decide +kernel
theorem dX12_groups_122 : decode cX12_groups 122 = .ok (.pop, 1) := by decide +kernel
theorem dX12_groups_123 : decode cX12_groups 123 = .ok (.aload_n 0, 1) := by decide +kernel
theorem dX12_groups_124 : decode cX12_groups 124 = .ok (.getfield 177, 3) := by decide +kernel
theorem dX12_groups_127 : decode cX12_groups 127 = .ok (.iload_n 1, 1) := by decide +kernel
theorem dX12_groups_128 : decode cX12_groups 128 = .ok (.iconst 2, 1) := by decide +kernel
theorem dX12_groups_129 : decode cX12_groups 129 = .ok (.iastore, 1) := by decide +kernel
theorem dX12_groups_130 : decode cX12_groups 130 = .ok (.goto 233, 3) := by decide +kernel
theorem dX12_groups_133 : decode cX12_groups 133 = .ok (.aload_n 0, 1) := by decide +kernel
theorem dX12_groups_134 : decode cX12_groups 134 = .ok (.getfield 307, 3) := by decide +kernel
theorem dX12_groups_137 : decode cX12_groups 137 = .ok (.sipush 429, 3) := by decide +kernel
theorem dX12_groups_140 : decode cX12_groups 140 = .ok (.if_icmp .ne 31, 3) := by decide +kernel
theorem dX12_groups_143 : decode cX12_groups 143 = .ok (.aload_n 0, 1) := by decide +kernel
theorem dX12_groups_144 : decode cX12_groups 144 = .ok (.invokevirtual 345, 3) := by decide +kernel
theorem dX12_groups_147 : decode cX12_groups 147 = .ok (.aload_n 0, 1) := by decide +kernel
theorem dX12_groups_148 : decode cX12_groups 148 = .ok (.iload_n 1, 1) := by decide +kernel
theorem dX12_groups_149 : decode cX12_groups 149 = .ok (.invokevirtual 484, 3) := by decide +kernel
theorem dX12_groups_152 : decode cX12_groups 152 = .ok (.ifCond .eq 211, 3) := by decide +kernel
theorem dX12_groups_155 : decode cX12_groups 155 = .ok (.aload_n 0, 1) := by decide +kernel
theorem dX12_groups_156 : decode cX12_groups 156 = .ok (.bipush 58, 2) := by decide +kernel
theorem dX12_groups_158 : decode cX12_groups 158 = .ok (.invokevirtual 355, 3) := by decide +kernel
theorem dX12_groups_161 : decode cX12_groups 161 = .ok (.pop, 1) := by decide +kernel
