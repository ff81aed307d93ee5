theorem dX12_run_112 : decode cX12_run 112 = .ok (.aload_n 0, 1) := by decide +kernel
theorem dX12_run_113 : decode cX12_run 113 = .ok (.iconst 0, 1) := by decide +kernel
theorem dX12_run_114 : decode cX12_run 114 = .ok (.putfield 636, 3) := by decide +kernel
theorem dX12_run_117 : decode cX12_run 117 = .ok (.aload_n 0, 1) := by decide +kernel
theorem dX12_run_118 : decode cX12_run 118 = .ok (.iconst 0, 1) := by decide +kernel
theorem dX12_run_119 : decode cX12_run 119 = .ok (.putfield 618, 3) := by decide +kernel
theorem dX12_run_122 : decode cX12_run 122 = .ok (.aload_n 0, 1) := by decide +kernel
theorem dX12_run_123 : decode cX12_run 123 = .ok (.getfield 618, 3) := by decide +kernel
theorem dX12_run_126 : decode cX12_run 126 = .ok (.ifCond .lt 37, 3) := by decide +kernel
theorem dX12_run_129 : decode cX12_run 129 = .ok (.aload_n 0, 1) := by decide +kernel
theorem dX12_run_130 : decode cX12_run 130 = .ok (.getfield 618, 3) := by decide +kernel
theorem dX12_run_133 : decode cX12_run 133 = .ok (.aload_n 0, 1) := by decide +kernel
theorem dX12_run_134 : decode cX12_run 134 = .ok (.getfield 358, 3) := by decide +kernel
theorem dX12_run_137 : decode cX12_run 137 = .ok (.if_icmp .ge 26, 3) := by decide +kernel
theorem dX12_run_140 : decode cX12_run 140 = .ok (.aload_n 0, 1) := by decide +kernel
theorem dX12_run_141 : decode cX12_run 141 = .ok (.getfield 618, 3) := by decide +kernel
theorem dX12_run_144 : decode cX12_run 144 = .ok (.istore_n 3, 1) := by decide +kernel
theorem dX12_run_145 : decode cX12_run 145 = .ok (.aload_n 0, 1) := by decide +kernel
theorem dX12_run_146 : decode cX12_run 146 = .ok (.dup, 1) := by decide +kernel
theorem dX12_run_147 : decode cX12_run 147 = .ok (.getfield 618, 3) := by decide +kernel
theorem dX12_run_150 : decode cX12_run 150 = .ok (.iconst 1, 1) := by decide +kernel
theorem dX12_run_151 : decode cX12_run 151 = .ok (.iadd, 1) := by decide +kernel
theorem dX12_run_152 : decode cX12_run 152 = .ok (.putfield 618, 3) := by decide +kernel
theorem dX12_run_155 : decode cX12_run 155 = .ok (.aload_n 0, 1) := by decide +kernel
theorem dX12_run_156 : decode cX12_run 156 = .ok (.iload_n 3, 1) := by decide +kernel
theorem dX12_run_157 : decode cX12_run 157 = .ok (.invokevirtual 671, 3) := by decide +kernel
theorem dX12_run_160 : decode cX12_run 160 = .ok (.goto (-38), 3) := by decide +kernel
theorem dX12_run_163 : decode cX12_run 163 = .ok (.aload_n 0, 1) := by decide +kernel
theorem dX12_run_164 : decode cX12_run 164 = .ok (.getfield 636, 3) := by decide +kernel
theorem dX12_run_167 : decode cX12_run 167 = .ok (.iconst 2, 1) := by decide +kernel
theorem dX12_run_168 : decode cX12_run 168 = .ok (.if_icmp .ne 7, 3) := by decide +kernel
theorem dX12_run_171 : decode cX12_run 171 = .ok (.iconst 1, 1) := by decide +kernel
theorem dX12_run_172 : decode cX12_run 172 = .ok (.goto 28, 3) := by decide +kernel
theorem dX12_run_175 : decode cX12_run 175 = .ok (.aload_n 0, 1) := by decide +kernel
theorem dX12_run_176 : decode cX12_run 176 = .ok (.getfield 636, 3) := by decide +kernel
theorem dX12_run_179 : decode cX12_run 179 = .ok (.iconst 3, 1) := by decide +kernel
theorem dX12_run_180 : decode cX12_run 180 = .ok (.if_icmp .ne 7, 3) := by decide +kernel
theorem dX12_run_183 : decode cX12_run 183 = .ok (.iconst 2, 1) := by decide +kernel
theorem dX12_run_184 : decode cX12_run 184 = .ok (.goto 16, 3) := by decide +kernel
theorem dX12_run_187 : decode cX12_run 187 = .ok (.aload_n 0, 1) := by decide +kernel
theorem dX12_run_188 : decode cX12_run 188 = .ok (.getfield 636, 3) := by decide +kernel
theorem dX12_run_191 : decode cX12_run 191 = .ok (.iconst 5, 1) := by decide +kernel
theorem dX12_run_192 : decode cX12_run 192 = .ok (.if_icmp .ne 7, 3) := by decide +kernel
theorem dX12_run_195 : decode cX12_run 195 = .ok (.iconst 3, 1) := by decide +kernel
theorem dX12_run_196 : decode cX12_run 196 = .ok (.goto 4, 3) := by decide +kernel
theorem dX12_run_199 : decode cX12_run 199 = .ok (.iconst 0, 1) := by decide +kernel
theorem dX12_run_200 : decode cX12_run 200 = .ok (.ireturn, 1) := by decide +kernel
theorem dX12_ran_0 : decode cX12_ran 0 = .ok (.aload_n 0, 1) := by decide +kernel
theorem dX12_ran_1 : decode cX12_ran 1 = .ok (.iconst 0, 1) := by decide +kernel
theorem dX12_ran_2 : decode cX12_ran 2 = .ok (.putfield 273, 3) := by decide +kernel
theorem dX12_ran_5 : decode cX12_ran 5 = .ok (.iload_n 1, 1) := by decide +kernel
theorem dX12_ran_6 : decode cX12_ran 6 = .ok (.iconst 0, 1) := by decide +kernel
theorem dX12_ran_7 : decode cX12_ran 7 = .ok (.bipush 6, 2) := by decide +kernel
theorem dX12_ran_9 : decode cX12_ran 9 = .ok (.invokestatic 279, 3) := by decide +kernel
theorem dX12_ran_12 : decode cX12_ran 12 = .ok (.ifCond .ne 5, 3) := by decide +kernel
theorem dX12_ran_15 : decode cX12_ran 15 = .ok (.iconst (-1), 1) := by decide +kernel
theorem dX12_ran_16 : decode cX12_ran 16 = .ok (.ireturn, 1) := by decide +kernel
theorem dX12_ran_17 : decode cX12_ran 17 = .ok (.aload_n 0, 1) := by decide +kernel
theorem dX12_ran_18 : decode cX12_ran 18 = .ok (.getfield 580, 3) := by decide +kernel
theorem dX12_ran_21 : decode cX12_ran 21 = .ok (.ifCond .ne 6, 3) := by decide +kernel
theorem dX12_ran_24 : decode cX12_ran 24 = .ok (.bipush (-3), 2) := by decide +kernel
theorem dX12_ran_26 : decode cX12_ran 26 = .ok (.ireturn, 1) := by decide +kernel
theorem dX12_ran_27 : decode cX12_ran 27 = .ok (.aload_n 0, 1) := by decide +kernel
theorem dX12_ran_28 : decode cX12_ran 28 = .ok (.getfield 636, 3) := by decide +kernel
theorem dX12_ran_31 : decode cX12_ran 31 = .ok (.iconst 3, 1) := by decide +kernel
theorem dX12_ran_32 : decode cX12_ran 32 = .ok (.if_icmp .ne 7, 3) := by decide +kernel
theorem dX12_ran_35 : decode cX12_ran 35 = .ok (.iconst 1, 1) := by decide +kernel
theorem dX12_ran_36 : decode cX12_ran 36 = .ok (.goto 4, 3) := by decide +kernel
theorem dX12_ran_39 : decode cX12_ran 39 = .ok (.iconst 0, 1) := by decide +kernel
theorem dX12_ran_40 : decode cX12_ran 40 = .ok (.istore_n 2, 1) := by decide +kernel
theorem dX12_ran_41 : decode cX12_ran 41 = .ok (.iconst 0, 1) := by decide +kernel
theorem dX12_ran_42 : decode cX12_ran 42 = .ok (.istore_n 3, 1) := by decide +kernel
theorem dX12_ran_43 : decode cX12_ran 43 = .ok (.iload_n 1, 1) := by decide +kernel
theorem dX12_ran_44 : decode cX12_ran 44 = .ok (.tableswitch 121 0 5 #[40, 45, 50, 67, 85, 103], 40) := by decide +kernel
theorem dX12_ran_84 : decode cX12_ran 84 = .ok (.aload_n 0, 1) := by decide +kernel
theorem dX12_ran_85 : decode cX12_ran 85 = .ok (.getfield 639, 3) := by decide +kernel
theorem dX12_ran_88 : decode cX12_ran 88 = .ok (.ireturn, 1) := by decide +kernel
theorem dX12_ran_89 : decode cX12_ran 89 = .ok (.aload_n 0, 1) := by decide +kernel
theorem dX12_ran_90 : decode cX12_ran 90 = .ok (.getfield 583, 3) := by decide +kernel
theorem dX12_ran_93 : decode cX12_ran 93 = .ok (.ireturn, 1) := by decide +kernel
theorem dX12_ran_94 : decode cX12_ran 94 = .ok (.aload_n 0, 1) := by decide +kernel
theorem dX12_ran_95 : decode cX12_ran 95 = .ok (.getfield 636, 3) := by decide +kernel
theorem dX12_ran_98 : decode cX12_ran 98 = .ok (.iconst 2, 1) := by decide +kernel
theorem dX12_ran_99 : decode cX12_ran 99 = .ok (.if_icmp .ne 10, 3) := by decide +kernel
theorem dX12_ran_102 : decode cX12_ran 102 = .ok (.aload_n 0, 1) := by decide +kernel
theorem dX12_ran_103 : decode cX12_ran 103 = .ok (.getfield 615, 3) := by decide +kernel
theorem dX12_ran_106 : decode cX12_ran 106 = .ok (.goto 4, 3) := by decide +kernel
theorem dX12_ran_109 : decode cX12_ran 109 = .ok (.iconst 0, 1) := by decide +kernel
theorem dX12_ran_110 : decode cX12_ran 110 = .ok (.ireturn, 1) := by decide +kernel
theorem dX12_ran_111 : decode cX12_ran 111 = .ok (.iload_n 2, 1) := by decide +kernel
theorem dX12_ran_112 : decode cX12_ran 112 = .ok (.ifCond .eq 15, 3) := by decide +kernel
theorem dX12_ran_115 : decode cX12_ran 115 = .ok (.aload_n 0, 1) := by decide +kernel
theorem dX12_ran_116 : decode cX12_ran 116 = .ok (.getfield 216, 3) := by decide +kernel
theorem dX12_ran_119 : decode cX12_ran 119 = .ok (.aload_n 0, 1) := by decide +kernel
theorem dX12_ran_120 : decode cX12_ran 120 = .ok (.getfield 595, 3) := by decide +kernel
theorem dX12_ran_123 : decode cX12_ran 123 = .ok (.iaload, 1) := by decide +kernel
theorem dX12_ran_124 : decode cX12_ran 124 = .ok (.goto 4, 3) := by decide +kernel
theorem dX12_ran_127 : decode cX12_ran 127 = .ok (.iconst (-1), 1) := by decide +kernel
theorem dX12_ran_128 : decode cX12_ran 128 = .ok (.ireturn, 1) := by decide +kernel
theorem dX12_ran_129 : decode cX12_ran 129 = .ok (.iload_n 2, 1) := by decide +kernel
theorem dX12_ran_130 : decode cX12_ran 130 = .ok (.ifCond .eq 15, 3) := by decide +kernel
theorem dX12_ran_133 : decode cX12_ran 133 = .ok (.aload_n 0, 1) := by decide +kernel
theorem dX12_ran_134 : decode cX12_ran 134 = .ok (.getfield 219, 3) := by decide +kernel
theorem dX12_ran_137 : decode cX12_ran 137 = .ok (.aload_n 0, 1) := by decide +kernel
theorem dX12_ran_138 : decode cX12_ran 138 = .ok (.getfield 595, 3) := by decide +kernel
theorem dX12_ran_141 : decode cX12_ran 141 = .ok (.iaload, 1) := by decide +kernel
theorem dX12_ran_142 : decode cX12_ran 142 = .ok (.goto 4, 3) := by decide +kernel
theorem dX12_ran_145 : decode cX12_ran 145 = .ok (.iconst 0, 1) := by decide +kernel
theorem dX12_ran_146 : decode cX12_ran 146 = .ok (.ireturn, 1) := by decide +kernel
theorem dX12_ran_147 : decode cX12_ran 147 = .ok (.iload_n 2, 1) := by decide +kernel
theorem dX12_ran_148 : decode cX12_ran 148 = .ok (.ifCond .eq 15, 3) := by decide +kernel
theorem dX12_ran_151 : decode cX12_ran 151 = .ok (.aload_n 0, 1) := by decide +kernel
theorem dX12_ran_152 : decode cX12_ran 152 = .ok (.getfield 222, 3) := by decide +kernel
theorem dX12_ran_155 : decode cX12_ran 155 = .ok (.aload_n 0, 1) := by decide +kernel
theorem dX12_ran_156 : decode cX12_ran 156 = .ok (.getfield 595, 3) := by decide +kernel
theorem dX12_ran_159 : decode cX12_ran 159 = .ok (.iaload, 1) := by decide +kernel
theorem dX12_ran_160 : decode cX12_ran 160 = .ok (.goto 4, 3) := by decide +kernel
theorem dX12_ran_163 : decode cX12_ran 163 = .ok (.iconst 0, 1) := by decide +kernel
theorem dX12_ran_164 : decode cX12_ran 164 = .ok (.ireturn, 1) := by decide +kernel
theorem dX12_ran_165 : decode cX12_ran 165 = .ok (.iconst 0, 1) := by decide +kernel
theorem dX12_ran_166 : decode cX12_ran 166 = .ok (.istore 4, 2) := by decide +kernel
theorem dX12_ran_168 : decode cX12_ran 168 = .ok (.iload 4, 2) := by decide +kernel
theorem dX12_ran_170 : decode cX12_ran 170 = .ok (.bipush 8, 2) := by decide +kernel
theorem dX12_ran_172 : decode cX12_ran 172 = .ok (.if_icmp .ge 19, 3) := by decide +kernel
theorem dX12_ran_175 : decode cX12_ran 175 = .ok (.iload_n 3, 1) := by decide +kernel
theorem dX12_ran_176 : decode cX12_ran 176 = .ok (.aload_n 0, 1) := by decide +kernel
theorem dX12_ran_177 : decode cX12_ran 177 = .ok (.getfield 231, 3) := by decide +kernel
theorem dX12_ran_180 : decode cX12_ran 180 = .ok (.iload 4, 2) := by decide +kernel
theorem dX12_ran_182 : decode cX12_ran 182 = .ok (.iaload, 1) := by decide +kernel
theorem dX12_ran_183 : decode cX12_ran 183 = .ok (.iadd, 1) := by decide +kernel
theorem dX12_ran_184 : decode cX12_ran 184 = .ok (.istore_n 3, 1) := by decide +kernel
theorem dX12_ran_185 : decode cX12_ran 185 = .ok (.iinc 4 1, 3) := by decide +kernel
theorem dX12_ran_188 : decode cX12_ran 188 = .ok (.goto (-20), 3) := by decide +kernel
theorem dX12_ran_191 : decode cX12_ran 191 = .ok (.iload_n 3, 1) := by decide +kernel
theorem dX12_ran_192 : decode cX12_ran 192 = .ok (.ireturn, 1) := by decide +kernel
theorem dX12_trace_0 : decode cX12_trace 0 = .ok (.aload_n 0, 1) := by decide +kernel
theorem dX12_trace_1 : decode cX12_trace 1 = .ok (.iconst 0, 1) := by decide +kernel
theorem dX12_trace_2 : decode cX12_trace 2 = .ok (.putfield 273, 3) := by decide +kernel
theorem dX12_trace_5 : decode cX12_trace 5 = .ok (.aload_n 0, 1) := by decide +kernel
theorem dX12_trace_6 : decode cX12_trace 6 = .ok (.getfield 580, 3) := by decide +kernel
theorem dX12_trace_9 : decode cX12_trace 9 = .ok (.ifCond .eq 26, 3) := by decide +kernel
theorem dX12_trace_12 : decode cX12_trace 12 = .ok (.iload_n 1, 1) := by decide +kernel
theorem dX12_trace_13 : decode cX12_trace 13 = .ok (.iconst 0, 1) := by decide +kernel
theorem dX12_trace_14 : decode cX12_trace 14 = .ok (.aload_n 0, 1) := by decide +kernel
theorem dX12_trace_15 : decode cX12_trace 15 = .ok (.getfield 583, 3) := by decide +kernel
theorem dX12_trace_18 : decode cX12_trace 18 = .ok (.iconst 1, 1) := by decide +kernel
theorem dX12_trace_19 : decode cX12_trace 19 = .ok (.isub, 1) := by decide +kernel
theorem dX12_trace_20 : decode cX12_trace 20 = .ok (.invokestatic 279, 3) := by decide +kernel
theorem dX12_trace_23 : decode cX12_trace 23 = .ok (.ifCond .eq 12, 3) := by decide +kernel
theorem dX12_trace_26 : decode cX12_trace 26 = .ok (.iload_n 2, 1) := by decide +kernel
theorem dX12_trace_27 : decode cX12_trace 27 = .ok (.iconst 0, 1) := by decide +kernel
theorem dX12_trace_28 : decode cX12_trace 28 = .ok (.iconst 1, 1) := by decide +kernel
theorem dX12_trace_29 : decode cX12_trace 29 = .ok (.invokestatic 279, 3) := by decide +kernel
theorem dX12_trace_32 : decode cX12_trace 32 = .ok (.ifCond .ne 5, 3) := by decide +kernel
theorem dX12_trace_35 : decode cX12_trace 35 = .ok (.iconst (-1), 1) := by decide +kernel
theorem dX12_trace_36 : decode cX12_trace 36 = .ok (.ireturn, 1) := by decide +kernel
theorem dX12_trace_37 : decode cX12_trace 37 = .ok (.iload_n 2, 1) := by decide +kernel
theorem dX12_trace_38 : decode cX12_trace 38 = .ok (.ifCond .ne 12, 3) := by decide +kernel
theorem dX12_trace_41 : decode cX12_trace 41 = .ok (.aload_n 0, 1) := by decide +kernel
theorem dX12_trace_42 : decode cX12_trace 42 = .ok (.getfield 207, 3) := by decide +kernel
theorem dX12_trace_45 : decode cX12_trace 45 = .ok (.iload_n 1, 1) := by decide +kernel
theorem dX12_trace_46 : decode cX12_trace 46 = .ok (.iaload, 1) := by decide +kernel
theorem dX12_trace_47 : decode cX12_trace 47 = .ok (.goto 9, 3) := by decide +kernel
theorem dX12_trace_50 : decode cX12_trace 50 = .ok (.aload_n 0, 1) := by decide +kernel
theorem dX12_trace_51 : decode cX12_trace 51 = .ok (.getfield 210, 3) := by decide +kernel
theorem dX12_trace_54 : decode cX12_trace 54 = .ok (.iload_n 1, 1) := by decide +kernel
theorem dX12_trace_55 : decode cX12_trace 55 = .ok (.iaload, 1) := by decide +kernel
theorem dX12_trace_56 : decode cX12_trace 56 = .ok (.ireturn, 1) := by decide +kernel
theorem dX12_suppressed_0 : decode cX12_suppressed 0 = .ok (.aload_n 0, 1) := by decide +kernel
theorem dX12_suppressed_1 : decode cX12_suppressed 1 = .ok (.iconst 0, 1) := by decide +kernel
theorem dX12_suppressed_2 : decode cX12_suppressed 2 = .ok (.putfield 273, 3) := by decide +kernel
theorem dX12_suppressed_5 : decode cX12_suppressed 5 = .ok (.aload_n 0, 1) := by decide +kernel
theorem dX12_suppressed_6 : decode cX12_suppressed 6 = .ok (.getfield 580, 3) := by decide +kernel
theorem dX12_suppressed_9 : decode cX12_suppressed 9 = .ok (.ifCond .eq 39, 3) := by decide +kernel
theorem dX12_suppressed_12 : decode cX12_suppressed 12 = .ok (.aload_n 0, 1) := by decide +kernel
theorem dX12_suppressed_13 : decode cX12_suppressed 13 = .ok (.getfield 636, 3) := by decide +kernel
theorem dX12_suppressed_16 : decode cX12_suppressed 16 = .ok (.iconst 3, 1) := by decide +kernel
theorem dX12_suppressed_17 : decode cX12_suppressed 17 = .ok (.if_icmp .ne 31, 3) := by decide +kernel
theorem dX12_suppressed_20 : decode cX12_suppressed 20 = .ok (.iload_n 1, 1) := by decide +kernel
theorem dX12_suppressed_21 : decode cX12_suppressed 21 = .ok (.iconst 0, 1) := by decide +kernel
theorem dX12_suppressed_22 : decode cX12_suppressed 22 = .ok (.aload_n 0, 1) := by decide +kernel
theorem dX12_suppressed_23 : decode cX12_suppressed 23 = .ok (.getfield 222, 3) := by decide +kernel
theorem dX12_suppressed_26 : decode cX12_suppressed 26 = .ok (.aload_n 0, 1) := by decide +kernel
theorem dX12_suppressed_27 : decode cX12_suppressed 27 = .ok (.getfield 595, 3) := by decide +kernel
theorem dX12_suppressed_30 : decode cX12_suppressed 30 = .ok (.iaload, 1) := by decide +kernel
theorem dX12_suppressed_31 : decode cX12_suppressed 31 = .ok (.iconst 1, 1) := by decide +kernel
theorem dX12_suppressed_32 : decode cX12_suppressed 32 = .ok (.isub, 1) := by decide +kernel
theorem dX12_suppressed_33 : decode cX12_suppressed 33 = .ok (.invokestatic 279, 3) := by decide +kernel
theorem dX12_suppressed_36 : decode cX12_suppressed 36 = .ok (.ifCond .eq 12, 3) := by decide +kernel
theorem dX12_suppressed_39 : decode cX12_suppressed 39 = .ok (.iload_n 2, 1) := by decide +kernel
theorem dX12_suppressed_40 : decode cX12_suppressed 40 = .ok (.iconst 0, 1) := by decide +kernel
theorem dX12_suppressed_41 : decode cX12_suppressed 41 = .ok (.iconst 1, 1) := by decide +kernel
theorem dX12_suppressed_42 : decode cX12_suppressed 42 = .ok (.invokestatic 279, 3) := by decide +kernel
theorem dX12_suppressed_45 : decode cX12_suppressed 45 = .ok (.ifCond .ne 5, 3) := by decide +kernel
theorem dX12_suppressed_48 : decode cX12_suppressed 48 = .ok (.iconst (-1), 1) := by decide +kernel
theorem dX12_suppressed_49 : decode cX12_suppressed 49 = .ok (.ireturn, 1) := by decide +kernel
theorem dX12_suppressed_50 : decode cX12_suppressed 50 = .ok (.iload_n 2, 1) := by decide +kernel
theorem dX12_suppressed_51 : decode cX12_suppressed 51 = .ok (.ifCond .ne 20, 3) := by decide +kernel
theorem dX12_suppressed_54 : decode cX12_suppressed 54 = .ok (.aload_n 0, 1) := by decide +kernel
theorem dX12_suppressed_55 : decode cX12_suppressed 55 = .ok (.getfield 225, 3) := by decide +kernel
theorem dX12_suppressed_58 : decode cX12_suppressed 58 = .ok (.bipush 8, 2) := by decide +kernel
theorem dX12_suppressed_60 : decode cX12_suppressed 60 = .ok (.aload_n 0, 1) := by decide +kernel
theorem dX12_suppressed_61 : decode cX12_suppressed 61 = .ok (.getfield 595, 3) := by decide +kernel
theorem dX12_suppressed_64 : decode cX12_suppressed 64 = .ok (.imul, 1) := by decide +kernel
theorem dX12_suppressed_65 : decode cX12_suppressed 65 = .ok (.iload_n 1, 1) := by decide +kernel
theorem dX12_suppressed_66 : decode cX12_suppressed 66 = .ok (.iadd, 1) := by decide +kernel
theorem dX12_suppressed_67 : decode cX12_suppressed 67 = .ok (.iaload, 1) := by decide +kernel
theorem dX12_suppressed_68 : decode cX12_suppressed 68 = .ok (.goto 17, 3) := by decide +kernel
theorem dX12_suppressed_71 : decode cX12_suppressed 71 = .ok (.aload_n 0, 1) := by decide +kernel
theorem dX12_suppressed_72 : decode cX12_suppressed 72 = .ok (.getfield 228, 3) := by decide +kernel
theorem dX12_suppressed_75 : decode cX12_suppressed 75 = .ok (.bipush 8, 2) := by decide +kernel
theorem dX12_suppressed_77 : decode cX12_suppressed 77 = .ok (.aload_n 0, 1) := by decide +kernel
theorem dX12_suppressed_78 : decode cX12_suppressed 78 = .ok (.getfield 595, 3) := by decide +kernel
theorem dX12_suppressed_81 : decode cX12_suppressed 81 = .ok (.imul, 1) := by decide +kernel
theorem dX12_suppressed_82 : decode cX12_suppressed 82 = .ok (.iload_n 1, 1) := by decide +kernel
theorem dX12_suppressed_83 : decode cX12_suppressed 83 = .ok (.iadd, 1) := by decide +kernel
theorem dX12_suppressed_84 : decode cX12_suppressed 84 = .ok (.iaload, 1) := by decide +kernel
theorem dX12_suppressed_85 : decode cX12_suppressed 85 = .ok (.ireturn, 1) := by decide +kernel
theorem dX12_rounds_0 : decode cX12_rounds 0 = .ok (.aload_n 0, 1) := by decide +kernel
theorem dX12_rounds_1 : decode cX12_rounds 1 = .ok (.iconst 0, 1) := by decide +kernel
theorem dX12_rounds_2 : decode cX12_rounds 2 = .ok (.putfield 273, 3) := by decide +kernel
theorem dX12_rounds_5 : decode cX12_rounds 5 = .ok (.iload_n 1, 1) := by decide +kernel
theorem dX12_rounds_6 : decode cX12_rounds 6 = .ok (.ifCond .lt 7, 3) := by decide +kernel
theorem dX12_rounds_9 : decode cX12_rounds 9 = .ok (.iload_n 2, 1) := by decide +kernel
theorem dX12_rounds_10 : decode cX12_rounds 10 = .ok (.ifCond .ge 5, 3) := by decide +kernel
theorem dX12_rounds_13 : decode cX12_rounds 13 = .ok (.iconst (-1), 1) := by decide +kernel
theorem dX12_rounds_14 : decode cX12_rounds 14 = .ok (.ireturn, 1) := by decide +kernel
theorem dX12_rounds_15 : decode cX12_rounds 15 = .ok (.iload_n 2, 1) := by decide +kernel
theorem dX12_rounds_16 : decode cX12_rounds 16 = .ok (.ifCond .ne 10, 3) := by decide +kernel
theorem dX12_rounds_19 : decode cX12_rounds 19 = .ok (.aload_n 0, 1) := by decide +kernel
theorem dX12_rounds_20 : decode cX12_rounds 20 = .ok (.iconst 1, 1) := by decide +kernel
theorem dX12_rounds_21 : decode cX12_rounds 21 = .ok (.putfield 273, 3) := by decide +kernel
theorem dX12_rounds_24 : decode cX12_rounds 24 = .ok (.iconst 0, 1) := by decide +kernel
theorem dX12_rounds_25 : decode cX12_rounds 25 = .ok (.ireturn, 1) := by decide +kernel
theorem dX12_rounds_26 : decode cX12_rounds 26 = .ok (.iload_n 1, 1) := by decide +kernel
theorem dX12_rounds_27 : decode cX12_rounds 27 = .ok (.iload_n 2, 1) := by decide +kernel
theorem dX12_rounds_28 : decode cX12_rounds 28 = .ok (.idiv, 1) := by decide +kernel
theorem dX12_rounds_29 : decode cX12_rounds 29 = .ok (.iload_n 1, 1) := by decide +kernel
theorem dX12_rounds_30 : decode cX12_rounds 30 = .ok (.iload_n 2, 1) := by decide +kernel
theorem dX12_rounds_31 : decode cX12_rounds 31 = .ok (.irem, 1) := by decide +kernel
theorem dX12_rounds_32 : decode cX12_rounds 32 = .ok (.ifCond .le 7, 3) := by decide +kernel
theorem dX12_rounds_35 : decode cX12_rounds 35 = .ok (.iconst 1, 1) := by decide +kernel
theorem dX12_rounds_36 : decode cX12_rounds 36 = .ok (.goto 4, 3) := by decide +kernel
theorem dX12_rounds_39 : decode cX12_rounds 39 = .ok (.iconst 0, 1) := by decide +kernel
theorem dX12_rounds_40 : decode cX12_rounds 40 = .ok (.iadd, 1) := by decide +kernel
theorem dX12_rounds_41 : decode cX12_rounds 41 = .ok (.ireturn, 1) := by decide +kernel
theorem dJ0_length_8abf5_0 : decode cJ0_length_8abf5 0 = .ok (.aload_n 0, 1) := by decide +kernel
theorem dJ0_length_8abf5_1 : decode cJ0_length_8abf5 1 = .ok (.getfield 9, 3) := by decide +kernel
theorem dJ0_length_8abf5_4 : decode cJ0_length_8abf5 4 = .ok (.arraylength, 1) := by decide +kernel
theorem dJ0_length_8abf5_5 : decode cJ0_length_8abf5 5 = .ok (.aload_n 0, 1) := by decide +kernel
theorem dJ0_length_8abf5_6 : decode cJ0_length_8abf5 6 = .ok (.invokevirtual 335, 3) := by decide +kernel
theorem dJ0_length_8abf5_9 : decode cJ0_length_8abf5 9 = .ok (.ishr, 1) := by decide +kernel
theorem dJ0_length_8abf5_10 : decode cJ0_length_8abf5 10 = .ok (.ireturn, 1) := by decide +kernel
theorem dJ0_coder_7d493_0 : decode cJ0_coder_7d493 0 = .ok (.getstatic 38, 3) := by decide +kernel
theorem dJ0_coder_7d493_3 : decode cJ0_coder_7d493 3 = .ok (.ifCond .eq 10, 3) := by decide +kernel
theorem dJ0_coder_7d493_6 : decode cJ0_coder_7d493 6 = .ok (.aload_n 0, 1) := by decide +kernel
theorem dJ0_coder_7d493_7 : decode cJ0_coder_7d493 7 = .ok (.getfield 15, 3) := by decide +kernel
theorem dJ0_coder_7d493_10 : decode cJ0_coder_7d493 10 = .ok (.goto 4, 3) := by decide +kernel
theorem dJ0_coder_7d493_13 : decode cJ0_coder_7d493 13 = .ok (.iconst 1, 1) := by decide +kernel
theorem dJ0_coder_7d493_14 : decode cJ0_coder_7d493 14 = .ok (.ireturn, 1) := by decide +kernel
theorem dJ0_charAt_5068e_0 : decode cJ0_charAt_5068e 0 = .ok (.aload_n 0, 1) := by decide +kernel
theorem dJ0_charAt_5068e_1 : decode cJ0_charAt_5068e 1 = .ok (.invokevirtual 492, 3) := by decide +kernel
theorem dJ0_charAt_5068e_4 : decode cJ0_charAt_5068e 4 = .ok (.ifCond .eq 12, 3) := by decide +kernel
theorem dJ0_charAt_5068e_7 : decode cJ0_charAt_5068e 7 = .ok (.aload_n 0, 1) := by decide +kernel
theorem dJ0_charAt_5068e_8 : decode cJ0_charAt_5068e 8 = .ok (.getfield 9, 3) := by decide +kernel
theorem dJ0_charAt_5068e_11 : decode cJ0_charAt_5068e 11 = .ok (.iload_n 1, 1) := by decide +kernel
theorem dJ0_charAt_5068e_12 : decode cJ0_charAt_5068e 12 = .ok (.invokestatic 495, 3) := by decide +kernel
theorem dJ0_charAt_5068e_15 : decode cJ0_charAt_5068e 15 = .ok (.ireturn, 1) := by decide +kernel
theorem dJ0_charAt_5068e_16 : decode cJ0_charAt_5068e 16 = .ok (.aload_n 0, 1) := by decide +kernel
theorem dJ0_charAt_5068e_17 : decode cJ0_charAt_5068e 17 = .ok (.getfield 9, 3) := by decide +kernel
theorem dJ0_charAt_5068e_20 : decode cJ0_charAt_5068e 20 = .ok (.iload_n 1, 1) := by decide +kernel
theorem dJ0_charAt_5068e_21 : decode cJ0_charAt_5068e 21 = .ok (.invokestatic 498, 3) := by decide +kernel
theorem dJ0_charAt_5068e_24 : decode cJ0_charAt_5068e 24 = .ok (.ireturn, 1) := by decide +kernel
theorem dJ0_isLatin1_aae02_0 : decode cJ0_isLatin1_aae02 0 = .ok (.getstatic 38, 3) := by decide +kernel
theorem dJ0_isLatin1_aae02_3 : decode cJ0_isLatin1_aae02 3 = .ok (.ifCond .eq 14, 3) := by decide +kernel
theorem dJ0_isLatin1_aae02_6 : decode cJ0_isLatin1_aae02 6 = .ok (.aload_n 0, 1) := by decide +kernel
theorem dJ0_isLatin1_aae02_7 : decode cJ0_isLatin1_aae02 7 = .ok (.getfield 15, 3) := by decide +kernel
theorem dJ0_isLatin1_aae02_10 : decode cJ0_isLatin1_aae02 10 = .ok (.ifCond .ne 7, 3) := by decide +kernel
theorem dJ0_isLatin1_aae02_13 : decode cJ0_isLatin1_aae02 13 = .ok (.iconst 1, 1) := by decide +kernel
theorem dJ0_isLatin1_aae02_14 : decode cJ0_isLatin1_aae02 14 = .ok (.goto 4, 3) := by decide +kernel
theorem dJ0_isLatin1_aae02_17 : decode cJ0_isLatin1_aae02 17 = .ok (.iconst 0, 1) := by decide +kernel
theorem dJ0_isLatin1_aae02_18 : decode cJ0_isLatin1_aae02 18 = .ok (.ireturn, 1) := by decide +kernel
theorem dJ0_checkIndex_df160_0 : decode cJ0_checkIndex_df160 0 = .ok (.iload_n 0, 1) := by decide +kernel
theorem dJ0_checkIndex_df160_1 : decode cJ0_checkIndex_df160 1 = .ok (.iload_n 1, 1) := by decide +kernel
theorem dJ0_checkIndex_df160_2 : decode cJ0_checkIndex_df160 2 = .ok (.getstatic 1053, 3) := by decide +kernel
theorem dJ0_checkIndex_df160_5 : decode cJ0_checkIndex_df160 5 = .ok (.invokestatic 1059, 3) := by decide +kernel
theorem dJ0_checkIndex_df160_8 : decode cJ0_checkIndex_df160 8 = .ok (.pop, 1) := by decide +kernel
theorem dJ0_checkIndex_df160_9 : decode cJ0_checkIndex_df160 9 = .ok (.return_, 1) := by decide +kernel
theorem dJ1_charAt_3b067_0 : decode cJ1_charAt_3b067 0 = .ok (.iload_n 1, 1) := by decide +kernel
theorem dJ1_charAt_3b067_1 : decode cJ1_charAt_3b067 1 = .ok (.aload_n 0, 1) := by decide +kernel
theorem dJ1_charAt_3b067_2 : decode cJ1_charAt_3b067 2 = .ok (.arraylength, 1) := by decide +kernel
theorem dJ1_charAt_3b067_3 : decode cJ1_charAt_3b067 3 = .ok (.invokestatic 9, 3) := by decide +kernel
theorem dJ1_charAt_3b067_6 : decode cJ1_charAt_3b067 6 = .ok (.aload_n 0, 1) := by decide +kernel
theorem dJ1_charAt_3b067_7 : decode cJ1_charAt_3b067 7 = .ok (.iload_n 1, 1) := by decide +kernel
theorem dJ1_charAt_3b067_8 : decode cJ1_charAt_3b067 8 = .ok (.baload, 1) := by decide +kernel
theorem dJ1_charAt_3b067_9 : decode cJ1_charAt_3b067 9 = .ok (.sipush 255, 3) := by decide +kernel
theorem dJ1_charAt_3b067_12 : decode cJ1_charAt_3b067 12 = .ok (.iand, 1) := by decide +kernel
theorem dJ1_charAt_3b067_13 : decode cJ1_charAt_3b067 13 = .ok (.i2c, 1) := by decide +kernel
theorem dJ1_charAt_3b067_14 : decode cJ1_charAt_3b067 14 = .ok (.ireturn, 1) := by decide +kernel
theorem dJ3_checkIndex_8e157_0 : decode cJ3_checkIndex_8e157 0 = .ok (.iload_n 0, 1) := by decide +kernel
theorem dJ3_checkIndex_8e157_1 : decode cJ3_checkIndex_8e157 1 = .ok (.ifCond .lt 8, 3) := by decide +kernel
theorem dJ3_checkIndex_8e157_4 : decode cJ3_checkIndex_8e157 4 = .ok (.iload_n 0, 1) := by decide +kernel
theorem dJ3_checkIndex_8e157_5 : decode cJ3_checkIndex_8e157 5 = .ok (.iload_n 1, 1) := by decide +kernel
theorem dJ3_checkIndex_8e157_6 : decode cJ3_checkIndex_8e157 6 = .ok (.if_icmp .lt 10, 3) := by decide +kernel
theorem dJ3_checkIndex_8e157_9 : decode cJ3_checkIndex_8e157 9 = .ok (.aload_n 2, 1) := by decide +kernel
theorem dJ3_checkIndex_8e157_10 : decode cJ3_checkIndex_8e157 10 = .ok (.iload_n 0, 1) := by decide +kernel
theorem dJ3_checkIndex_8e157_11 : decode cJ3_checkIndex_8e157 11 = .ok (.iload_n 1, 1) := by decide +kernel
theorem dJ3_checkIndex_8e157_12 : decode cJ3_checkIndex_8e157 12 = .ok (.invokestatic 95, 3) := by decide +kernel
theorem dJ3_checkIndex_8e157_15 : decode cJ3_checkIndex_8e157 15 = .ok (.athrow, 1) := by decide +kernel
theorem dJ3_checkIndex_8e157_16 : decode cJ3_checkIndex_8e157 16 = .ok (.iload_n 0, 1) := by decide +kernel
theorem dJ3_checkIndex_8e157_17 : decode cJ3_checkIndex_8e157 17 = .ok (.ireturn, 1) := by decide +kernel
theorem dL_law_0 : decode cL_law 0 = .ok (.new 8, 3) := by decide +kernel
theorem dL_law_3 : decode cL_law 3 = .ok (.dup, 1) := by decide +kernel
theorem dL_law_4 : decode cL_law 4 = .ok (.invokespecial 15, 3) := by decide +kernel
theorem dL_law_7 : decode cL_law 7 = .ok (.astore_n 1, 1) := by decide +kernel
theorem dL_law_8 : decode cL_law 8 = .ok (.new 16, 3) := by decide +kernel
theorem dL_law_11 : decode cL_law 11 = .ok (.dup, 1) := by decide +kernel
theorem dL_law_12 : decode cL_law 12 = .ok (.invokespecial 18, 3) := by decide +kernel
theorem dL_law_15 : decode cL_law 15 = .ok (.astore_n 2, 1) := by decide +kernel
theorem dL_law_16 : decode cL_law 16 = .ok (.iconst 1, 1) := by decide +kernel
theorem dL_law_17 : decode cL_law 17 = .ok (.newarray .long, 2) := by decide +kernel
theorem dL_law_19 : decode cL_law 19 = .ok (.astore_n 3, 1) := by decide +kernel
theorem dL_law_20 : decode cL_law 20 = .ok (.iconst 0, 1) := by decide +kernel
theorem dL_law_21 : decode cL_law 21 = .ok (.istore 4, 2) := by decide +kernel
theorem dL_law_23 : decode cL_law 23 = .ok (.iload 4, 2) := by decide +kernel
theorem dL_law_25 : decode cL_law 25 = .ok (.aload_n 0, 1) := by decide +kernel
theorem dL_law_26 : decode cL_law 26 = .ok (.arraylength, 1) := by decide +kernel
theorem dL_law_27 : decode cL_law 27 = .ok (.bipush 6, 2) := by decide +kernel
theorem dL_law_29 : decode cL_law 29 = .ok (.isub, 1) := by decide +kernel
theorem dL_law_30 : decode cL_law 30 = .ok (.if_icmp .gt 605, 3) := by decide +kernel
theorem dL_law_33 : decode cL_law 33 = .ok (.aload_n 0, 1) := by decide +kernel
theorem dL_law_34 : decode cL_law 34 = .ok (.iload 4, 2) := by decide +kernel
theorem dL_law_36 : decode cL_law 36 = .ok (.iaload, 1) := by decide +kernel
theorem dL_law_37 : decode cL_law 37 = .ok (.bipush 15, 2) := by decide +kernel
theorem dL_law_39 : decode cL_law 39 = .ok (.iand, 1) := by decide +kernel
theorem dL_law_40 : decode cL_law 40 = .ok (.tableswitch 589 0 13 #[72, 145, 170, 195, 256, 297, 310, 323, 348, 385, 410, 447, 484, 521], 72) := by decide +kernel
theorem dL_law_112 : decode cL_law 112 = .ok (.aload_n 1, 1) := by decide +kernel
theorem dL_law_113 : decode cL_law 113 = .ok (.aload_n 0, 1) := by decide +kernel
theorem dL_law_114 : decode cL_law 114 = .ok (.iload 4, 2) := by decide +kernel
theorem dL_law_116 : decode cL_law 116 = .ok (.iconst 1, 1) := by decide +kernel
theorem dL_law_117 : decode cL_law 117 = .ok (.iadd, 1) := by decide +kernel
theorem dL_law_118 : decode cL_law 118 = .ok (.iaload, 1) := by decide +kernel
theorem dL_law_119 : decode cL_law 119 = .ok (.aload_n 0, 1) := by decide +kernel
theorem dL_law_120 : decode cL_law 120 = .ok (.iload 4, 2) := by decide +kernel
theorem dL_law_122 : decode cL_law 122 = .ok (.iconst 2, 1) := by decide +kernel
theorem dL_law_123 : decode cL_law 123 = .ok (.iadd, 1) := by decide +kernel
theorem dL_law_124 : decode cL_law 124 = .ok (.iaload, 1) := by decide +kernel
theorem dL_law_125 : decode cL_law 125 = .ok (.aload_n 0, 1) := by decide +kernel
theorem dL_law_126 : decode cL_law 126 = .ok (.iload 4, 2) := by decide +kernel
theorem dL_law_128 : decode cL_law 128 = .ok (.iconst 3, 1) := by decide +kernel
theorem dL_law_129 : decode cL_law 129 = .ok (.iadd, 1) := by decide +kernel
theorem dL_law_130 : decode cL_law 130 = .ok (.iaload, 1) := by decide +kernel
theorem dL_law_131 : decode cL_law 131 = .ok (.aload_n 0, 1) := by decide +kernel
theorem dL_law_132 : decode cL_law 132 = .ok (.iload 4, 2) := by decide +kernel
theorem dL_law_134 : decode cL_law 134 = .ok (.iconst 4, 1) := by decide +kernel
theorem dL_law_135 : decode cL_law 135 = .ok (.iadd, 1) := by decide +kernel
theorem dL_law_136 : decode cL_law 136 = .ok (.iaload, 1) := by decide +kernel
theorem dL_law_137 : decode cL_law 137 = .ok (.aload_n 0, 1) := by decide +kernel
theorem dL_law_138 : decode cL_law 138 = .ok (.iload 4, 2) := by decide +kernel
theorem dL_law_140 : decode cL_law 140 = .ok (.iconst 5, 1) := by decide +kernel
theorem dL_law_141 : decode cL_law 141 = .ok (.iadd, 1) := by decide +kernel
theorem dL_law_142 : decode cL_law 142 = .ok (.iaload, 1) := by decide +kernel
theorem dL_law_143 : decode cL_law 143 = .ok (.invokevirtual 19, 3) := by decide +kernel
theorem dL_law_146 : decode cL_law 146 = .ok (.aload_n 2, 1) := by decide +kernel
theorem dL_law_147 : decode cL_law 147 = .ok (.aload_n 0, 1) := by decide +kernel
theorem dL_law_148 : decode cL_law 148 = .ok (.iload 4, 2) := by decide +kernel
theorem dL_law_150 : decode cL_law 150 = .ok (.iconst 1, 1) := by decide +kernel
theorem dL_law_151 : decode cL_law 151 = .ok (.iadd, 1) := by decide +kernel
theorem dL_law_152 : decode cL_law 152 = .ok (.iaload, 1) := by decide +kernel
theorem dL_law_153 : decode cL_law 153 = .ok (.aload_n 0, 1) := by decide +kernel
theorem dL_law_154 : decode cL_law 154 = .ok (.iload 4, 2) := by decide +kernel
theorem dL_law_156 : decode cL_law 156 = .ok (.iconst 2, 1) := by decide +kernel
theorem dL_law_157 : decode cL_law 157 = .ok (.iadd, 1) := by decide +kernel
theorem dL_law_158 : decode cL_law 158 = .ok (.iaload, 1) := by decide +kernel
theorem dL_law_159 : decode cL_law 159 = .ok (.aload_n 0, 1) := by decide +kernel
theorem dL_law_160 : decode cL_law 160 = .ok (.iload 4, 2) := by decide +kernel
theorem dL_law_162 : decode cL_law 162 = .ok (.iconst 3, 1) := by decide +kernel
theorem dL_law_163 : decode cL_law 163 = .ok (.iadd, 1) := by decide +kernel
theorem dL_law_164 : decode cL_law 164 = .ok (.iaload, 1) := by decide +kernel
theorem dL_law_165 : decode cL_law 165 = .ok (.aload_n 0, 1) := by decide +kernel
theorem dL_law_166 : decode cL_law 166 = .ok (.iload 4, 2) := by decide +kernel
theorem dL_law_168 : decode cL_law 168 = .ok (.iconst 4, 1) := by decide +kernel
theorem dL_law_169 : decode cL_law 169 = .ok (.iadd, 1) := by decide +kernel
theorem dL_law_170 : decode cL_law 170 = .ok (.iaload, 1) := by decide +kernel
theorem dL_law_171 : decode cL_law 171 = .ok (.aload_n 0, 1) := by decide +kernel
theorem dL_law_172 : decode cL_law 172 = .ok (.iload 4, 2) := by decide +kernel
theorem dL_law_174 : decode cL_law 174 = .ok (.iconst 5, 1) := by decide +kernel
theorem dL_law_175 : decode cL_law 175 = .ok (.iadd, 1) := by decide +kernel
theorem dL_law_176 : decode cL_law 176 = .ok (.iaload, 1) := by decide +kernel
theorem dL_law_177 : decode cL_law 177 = .ok (.invokevirtual 23, 3) := by decide +kernel
theorem dL_law_180 : decode cL_law 180 = .ok (.if_icmp .eq 449, 3) := by decide +kernel
theorem dL_law_183 : decode cL_law 183 = .ok (.iconst 0, 1) := by decide +kernel
theorem dL_law_184 : decode cL_law 184 = .ok (.ireturn, 1) := by decide +kernel
theorem dL_law_185 : decode cL_law 185 = .ok (.aload_n 1, 1) := by decide +kernel
theorem dL_law_186 : decode cL_law 186 = .ok (.aload_n 0, 1) := by decide +kernel
theorem dL_law_187 : decode cL_law 187 = .ok (.iload 4, 2) := by decide +kernel
theorem dL_law_189 : decode cL_law 189 = .ok (.iconst 1, 1) := by decide +kernel
theorem dL_law_190 : decode cL_law 190 = .ok (.iadd, 1) := by decide +kernel
theorem dL_law_191 : decode cL_law 191 = .ok (.iaload, 1) := by decide +kernel
theorem dL_law_192 : decode cL_law 192 = .ok (.invokevirtual 24, 3) := by decide +kernel
theorem dL_law_195 : decode cL_law 195 = .ok (.aload_n 2, 1) := by decide +kernel
theorem dL_law_196 : decode cL_law 196 = .ok (.aload_n 0, 1) := by decide +kernel
theorem dL_law_197 : decode cL_law 197 = .ok (.iload 4, 2) := by decide +kernel
theorem dL_law_199 : decode cL_law 199 = .ok (.iconst 1, 1) := by decide +kernel
theorem dL_law_200 : decode cL_law 200 = .ok (.iadd, 1) := by decide +kernel
theorem dL_law_201 : decode cL_law 201 = .ok (.iaload, 1) := by decide +kernel
theorem dL_law_202 : decode cL_law 202 = .ok (.invokevirtual 28, 3) := by decide +kernel
theorem dL_law_205 : decode cL_law 205 = .ok (.if_icmp .eq 424, 3) := by decide +kernel
theorem dL_law_208 : decode cL_law 208 = .ok (.iconst 0, 1) := by decide +kernel
theorem dL_law_209 : decode cL_law 209 = .ok (.ireturn, 1) := by decide +kernel
theorem dL_law_210 : decode cL_law 210 = .ok (.aload_n 1, 1) := by decide +kernel
theorem dL_law_211 : decode cL_law 211 = .ok (.aload_n 0, 1) := by decide +kernel
theorem dL_law_212 : decode cL_law 212 = .ok (.iload 4, 2) := by decide +kernel
theorem dL_law_214 : decode cL_law 214 = .ok (.iconst 1, 1) := by decide +kernel
theorem dL_law_215 : decode cL_law 215 = .ok (.iadd, 1) := by decide +kernel
theorem dL_law_216 : decode cL_law 216 = .ok (.iaload, 1) := by decide +kernel
theorem dL_law_217 : decode cL_law 217 = .ok (.invokevirtual 29, 3) := by decide +kernel
theorem dL_law_220 : decode cL_law 220 = .ok (.aload_n 2, 1) := by decide +kernel
theorem dL_law_221 : decode cL_law 221 = .ok (.aload_n 0, 1) := by decide +kernel
theorem dL_law_222 : decode cL_law 222 = .ok (.iload 4, 2) := by decide +kernel
