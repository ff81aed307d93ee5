theorem dX12_throwing_70 : decode cX12_throwing 70 = .ok (.getfield 307, 3) := by decide +kernel
theorem dX12_throwing_73 : decode cX12_throwing 73 = .ok (.iconst 5, 1) := by decide +kernel
theorem dX12_throwing_74 : decode cX12_throwing 74 = .ok (.if_icmp .ne 46, 3) := by decide +kernel
theorem dX12_throwing_77 : decode cX12_throwing 77 = .ok (.aload_n 0, 1) := by decide +kernel
theorem dX12_throwing_78 : decode cX12_throwing 78 = .ok (.getfield 314, 3) := by decide +kernel
theorem dX12_throwing_81 : decode cX12_throwing 81 = .ok (.aload_n 0, 1) := by decide +kernel
theorem dX12_throwing_82 : decode cX12_throwing 82 = .ok (.getfield 13, 3) := by decide +kernel
theorem dX12_throwing_85 : decode cX12_throwing 85 = .ok (.if_icmp .lt 13, 3) := by decide +kernel
theorem dX12_throwing_88 : decode cX12_throwing 88 = .ok (.aload_n 0, 1) := by decide +kernel
theorem dX12_throwing_89 : decode cX12_throwing 89 = .ok (.iconst 3, 1) := by decide +kernel
theorem dX12_throwing_90 : decode cX12_throwing 90 = .ok (.aload_n 0, 1) := by decide +kernel
theorem dX12_throwing_91 : decode cX12_throwing 91 = .ok (.getfield 304, 3) := by decide +kernel
theorem dX12_throwing_94 : decode cX12_throwing 94 = .ok (.invokevirtual 337, 3) := by decide +kernel
theorem dX12_throwing_97 : decode cX12_throwing 97 = .ok (.return_, 1) := by decide +kernel
theorem dX12_throwing_98 : decode cX12_throwing 98 = .ok (.aload_n 0, 1) := by decide +kernel
theorem dX12_throwing_99 : decode cX12_throwing 99 = .ok (.getfield 180, 3) := by decide +kernel
theorem dX12_throwing_102 : decode cX12_throwing 102 = .ok (.iload_n 1, 1) := by decide +kernel
theorem dX12_throwing_103 : decode cX12_throwing 103 = .ok (.aload_n 0, 1) := by decide +kernel
theorem dX12_throwing_104 : decode cX12_throwing 104 = .ok (.getfield 314, 3) := by decide +kernel
theorem dX12_throwing_107 : decode cX12_throwing 107 = .ok (.iastore, 1) := by decide +kernel
theorem dX12_throwing_108 : decode cX12_throwing 108 = .ok (.aload_n 0, 1) := by decide +kernel
theorem dX12_throwing_109 : decode cX12_throwing 109 = .ok (.invokevirtual 345, 3) := by decide +kernel
theorem dX12_throwing_112 : decode cX12_throwing 112 = .ok (.aload_n 0, 1) := by decide +kernel
theorem dX12_throwing_113 : decode cX12_throwing 113 = .ok (.iconst 1, 1) := by decide +kernel
theorem dX12_throwing_114 : decode cX12_throwing 114 = .ok (.bipush 16, 2) := by decide +kernel
theorem dX12_throwing_116 : decode cX12_throwing 116 = .ok (.invokevirtual 393, 3) := by decide +kernel
theorem dX12_throwing_119 : decode cX12_throwing 119 = .ok (.return_, 1) := by decide +kernel
theorem dX12_throwing_120 : decode cX12_throwing 120 = .ok (.aload_n 0, 1) := by decide +kernel
theorem dX12_throwing_121 : decode cX12_throwing 121 = .ok (.aload_n 0, 1) := by decide +kernel
theorem dX12_throwing_122 : decode cX12_throwing 122 = .ok (.getfield 327, 3) := by decide +kernel
theorem dX12_throwing_125 : decode cX12_throwing 125 = .ok (.invokevirtual 471, 3) := by decide +kernel
theorem dX12_throwing_128 : decode cX12_throwing 128 = .ok (.istore_n 2, 1) := by decide +kernel
theorem dX12_throwing_129 : decode cX12_throwing 129 = .ok (.iload_n 2, 1) := by decide +kernel
theorem dX12_throwing_130 : decode cX12_throwing 130 = .ok (.ifCond .lt 12, 3) := by decide +kernel
theorem dX12_throwing_133 : decode cX12_throwing 133 = .ok (.aload_n 0, 1) := by decide +kernel
theorem dX12_throwing_134 : decode cX12_throwing 134 = .ok (.getfield 132, 3) := by decide +kernel
theorem dX12_throwing_137 : decode cX12_throwing 137 = .ok (.iload_n 2, 1) := by decide +kernel
theorem dX12_throwing_138 : decode cX12_throwing 138 = .ok (.baload, 1) := by decide +kernel
theorem dX12_throwing_139 : decode cX12_throwing 139 = .ok (.ifCond .ne 13, 3) := by decide +kernel
theorem dX12_throwing_142 : decode cX12_throwing 142 = .ok (.aload_n 0, 1) := by decide +kernel
theorem dX12_throwing_143 : decode cX12_throwing 143 = .ok (.iconst 3, 1) := by decide +kernel
theorem dX12_throwing_144 : decode cX12_throwing 144 = .ok (.aload_n 0, 1) := by decide +kernel
theorem dX12_throwing_145 : decode cX12_throwing 145 = .ok (.getfield 304, 3) := by decide +kernel
theorem dX12_throwing_148 : decode cX12_throwing 148 = .ok (.invokevirtual 337, 3) := by decide +kernel
theorem dX12_throwing_151 : decode cX12_throwing 151 = .ok (.return_, 1) := by decide +kernel
theorem dX12_throwing_152 : decode cX12_throwing 152 = .ok (.aload_n 0, 1) := by decide +kernel
theorem dX12_throwing_153 : decode cX12_throwing 153 = .ok (.bipush 21, 2) := by decide +kernel
theorem dX12_throwing_155 : decode cX12_throwing 155 = .ok (.aload_n 0, 1) := by decide +kernel
theorem dX12_throwing_156 : decode cX12_throwing 156 = .ok (.getfield 129, 3) := by decide +kernel
theorem dX12_throwing_159 : decode cX12_throwing 159 = .ok (.iload_n 2, 1) := by decide +kernel
theorem dX12_throwing_160 : decode cX12_throwing 160 = .ok (.iaload, 1) := by decide +kernel
theorem dX12_throwing_161 : decode cX12_throwing 161 = .ok (.invokevirtual 464, 3) := by decide +kernel
theorem dX12_throwing_164 : decode cX12_throwing 164 = .ok (.pop, 1) := by decide +kernel
theorem dX12_throwing_165 : decode cX12_throwing 165 = .ok (.aload_n 0, 1) := by decide +kernel
theorem dX12_throwing_166 : decode cX12_throwing 166 = .ok (.invokevirtual 345, 3) := by decide +kernel
theorem dX12_throwing_169 : decode cX12_throwing 169 = .ok (.aload_n 0, 1) := by decide +kernel
theorem dX12_throwing_170 : decode cX12_throwing 170 = .ok (.bipush 59, 2) := by decide +kernel
theorem dX12_throwing_172 : decode cX12_throwing 172 = .ok (.invokevirtual 355, 3) := by decide +kernel
theorem dX12_throwing_175 : decode cX12_throwing 175 = .ok (.pop, 1) := by decide +kernel
theorem dX12_throwing_176 : decode cX12_throwing 176 = .ok (.aload_n 0, 1) := by decide +kernel
theorem dX12_throwing_177 : decode cX12_throwing 177 = .ok (.iconst 0, 1) := by decide +kernel
theorem dX12_throwing_178 : decode cX12_throwing 178 = .ok (.invokevirtual 490, 3) := by decide +kernel
theorem dX12_throwing_181 : decode cX12_throwing 181 = .ok (.return_, 1) := by decide +kernel
theorem dX12_asserted_0 : decode cX12_asserted 0 = .ok (.aload_n 0, 1) := by decide +kernel
theorem dX12_asserted_1 : decode cX12_asserted 1 = .ok (.getfield 177, 3) := by decide +kernel
theorem dX12_asserted_4 : decode cX12_asserted 4 = .ok (.iload_n 1, 1) := by decide +kernel
theorem dX12_asserted_5 : decode cX12_asserted 5 = .ok (.iaload, 1) := by decide +kernel
theorem dX12_asserted_6 : decode cX12_asserted 6 = .ok (.lookupswitch 106 #[(0, 26), (1, 53)], 26) := by decide +kernel
theorem dX12_asserted_32 : decode cX12_asserted 32 = .ok (.aload_n 0, 1) := by decide +kernel
theorem dX12_asserted_33 : decode cX12_asserted 33 = .ok (.invokevirtual 345, 3) := by decide +kernel
theorem dX12_asserted_36 : decode cX12_asserted 36 = .ok (.aload_n 0, 1) := by decide +kernel
theorem dX12_asserted_37 : decode cX12_asserted 37 = .ok (.getfield 180, 3) := by decide +kernel
theorem dX12_asserted_40 : decode cX12_asserted 40 = .ok (.iload_n 1, 1) := by decide +kernel
theorem dX12_asserted_41 : decode cX12_asserted 41 = .ok (.aload_n 0, 1) := by decide +kernel
theorem dX12_asserted_42 : decode cX12_asserted 42 = .ok (.bipush 22, 2) := by decide +kernel
theorem dX12_asserted_44 : decode cX12_asserted 44 = .ok (.iconst 0, 1) := by decide +kernel
theorem dX12_asserted_45 : decode cX12_asserted 45 = .ok (.invokevirtual 464, 3) := by decide +kernel
theorem dX12_asserted_48 : decode cX12_asserted 48 = .ok (.iastore, 1) := by decide +kernel
theorem dX12_asserted_49 : decode cX12_asserted 49 = .ok (.aload_n 0, 1) := by decide +kernel
theorem dX12_asserted_50 : decode cX12_asserted 50 = .ok (.iconst 1, 1) := by decide +kernel
theorem dX12_asserted_51 : decode cX12_asserted 51 = .ok (.bipush 20, 2) := by decide +kernel
theorem dX12_asserted_53 : decode cX12_asserted 53 = .ok (.invokevirtual 393, 3) := by decide +kernel
theorem dX12_asserted_56 : decode cX12_asserted 56 = .ok (.goto 106, 3) := by decide +kernel
theorem dX12_asserted_59 : decode cX12_asserted 59 = .ok (.aload_n 0, 1) := by decide +kernel
theorem dX12_asserted_60 : decode cX12_asserted 60 = .ok (.getfield 183, 3) := by decide +kernel
theorem dX12_asserted_63 : decode cX12_asserted 63 = .ok (.iload_n 1, 1) := by decide +kernel
theorem dX12_asserted_64 : decode cX12_asserted 64 = .ok (.aload_n 0, 1) := by decide +kernel
theorem dX12_asserted_65 : decode cX12_asserted 65 = .ok (.bipush 14, 2) := by decide +kernel
theorem dX12_asserted_67 : decode cX12_asserted 67 = .ok (.iconst 0, 1) := by decide +kernel
theorem dX12_asserted_68 : decode cX12_asserted 68 = .ok (.invokevirtual 464, 3) := by decide +kernel
theorem dX12_asserted_71 : decode cX12_asserted 71 = .ok (.iastore, 1) := by decide +kernel
theorem dX12_asserted_72 : decode cX12_asserted 72 = .ok (.aload_n 0, 1) := by decide +kernel
theorem dX12_asserted_73 : decode cX12_asserted 73 = .ok (.getfield 307, 3) := by decide +kernel
theorem dX12_asserted_76 : decode cX12_asserted 76 = .ok (.bipush 58, 2) := by decide +kernel
theorem dX12_asserted_78 : decode cX12_asserted 78 = .ok (.if_icmp .ne 17, 3) := by decide +kernel
theorem dX12_asserted_81 : decode cX12_asserted 81 = .ok (.aload_n 0, 1) := by decide +kernel
theorem dX12_asserted_82 : decode cX12_asserted 82 = .ok (.invokevirtual 345, 3) := by decide +kernel
theorem dX12_asserted_85 : decode cX12_asserted 85 = .ok (.aload_n 0, 1) := by decide +kernel
theorem dX12_asserted_86 : decode cX12_asserted 86 = .ok (.iconst 2, 1) := by decide +kernel
theorem dX12_asserted_87 : decode cX12_asserted 87 = .ok (.bipush 16, 2) := by decide +kernel
theorem dX12_asserted_89 : decode cX12_asserted 89 = .ok (.invokevirtual 393, 3) := by decide +kernel
theorem dX12_asserted_92 : decode cX12_asserted 92 = .ok (.goto 70, 3) := by decide +kernel
theorem dX12_asserted_95 : decode cX12_asserted 95 = .ok (.aload_n 0, 1) := by decide +kernel
theorem dX12_asserted_96 : decode cX12_asserted 96 = .ok (.iconst 2, 1) := by decide +kernel
theorem dX12_asserted_97 : decode cX12_asserted 97 = .ok (.iconst 0, 1) := by decide +kernel
theorem dX12_asserted_98 : decode cX12_asserted 98 = .ok (.invokevirtual 464, 3) := by decide +kernel
theorem dX12_asserted_101 : decode cX12_asserted 101 = .ok (.pop, 1) := by decide +kernel
theorem dX12_asserted_102 : decode cX12_asserted 102 = .ok (.aload_n 0, 1) := by decide +kernel
theorem dX12_asserted_103 : decode cX12_asserted 103 = .ok (.getfield 177, 3) := by decide +kernel
theorem dX12_asserted_106 : decode cX12_asserted 106 = .ok (.iload_n 1, 1) := by decide +kernel
theorem dX12_asserted_107 : decode cX12_asserted 107 = .ok (.iconst 2, 1) := by decide +kernel
theorem dX12_asserted_108 : decode cX12_asserted 108 = .ok (.iastore, 1) := by decide +kernel
theorem dX12_asserted_109 : decode cX12_asserted 109 = .ok (.goto 53, 3) := by decide +kernel
theorem dX12_asserted_112 : decode cX12_asserted 112 = .ok (.aload_n 0, 1) := by decide +kernel
theorem dX12_asserted_113 : decode cX12_asserted 113 = .ok (.bipush 19, 2) := by decide +kernel
theorem dX12_asserted_115 : decode cX12_asserted 115 = .ok (.iconst 3, 1) := by decide +kernel
theorem dX12_asserted_116 : decode cX12_asserted 116 = .ok (.invokevirtual 464, 3) := by decide +kernel
theorem dX12_asserted_119 : decode cX12_asserted 119 = .ok (.pop, 1) := by decide +kernel
theorem dX12_asserted_120 : decode cX12_asserted 120 = .ok (.aload_n 0, 1) := by decide +kernel
theorem dX12_asserted_121 : decode cX12_asserted 121 = .ok (.getfield 87, 3) := by decide +kernel
theorem dX12_asserted_124 : decode cX12_asserted 124 = .ok (.aload_n 0, 1) := by decide +kernel
theorem dX12_asserted_125 : decode cX12_asserted 125 = .ok (.getfield 180, 3) := by decide +kernel
theorem dX12_asserted_128 : decode cX12_asserted 128 = .ok (.iload_n 1, 1) := by decide +kernel
theorem dX12_asserted_129 : decode cX12_asserted 129 = .ok (.iaload, 1) := by decide +kernel
theorem dX12_asserted_130 : decode cX12_asserted 130 = .ok (.aload_n 0, 1) := by decide +kernel
theorem dX12_asserted_131 : decode cX12_asserted 131 = .ok (.getfield 358, 3) := by decide +kernel
theorem dX12_asserted_134 : decode cX12_asserted 134 = .ok (.iastore, 1) := by decide +kernel
theorem dX12_asserted_135 : decode cX12_asserted 135 = .ok (.aload_n 0, 1) := by decide +kernel
theorem dX12_asserted_136 : decode cX12_asserted 136 = .ok (.getfield 87, 3) := by decide +kernel
theorem dX12_asserted_139 : decode cX12_asserted 139 = .ok (.aload_n 0, 1) := by decide +kernel
theorem dX12_asserted_140 : decode cX12_asserted 140 = .ok (.getfield 183, 3) := by decide +kernel
theorem dX12_asserted_143 : decode cX12_asserted 143 = .ok (.iload_n 1, 1) := by decide +kernel
theorem dX12_asserted_144 : decode cX12_asserted 144 = .ok (.iaload, 1) := by decide +kernel
theorem dX12_asserted_145 : decode cX12_asserted 145 = .ok (.aload_n 0, 1) := by decide +kernel
theorem dX12_asserted_146 : decode cX12_asserted 146 = .ok (.getfield 358, 3) := by decide +kernel
theorem dX12_asserted_149 : decode cX12_asserted 149 = .ok (.iastore, 1) := by decide +kernel
theorem dX12_asserted_150 : decode cX12_asserted 150 = .ok (.aload_n 0, 1) := by decide +kernel
theorem dX12_asserted_151 : decode cX12_asserted 151 = .ok (.bipush 59, 2) := by decide +kernel
theorem dX12_asserted_153 : decode cX12_asserted 153 = .ok (.invokevirtual 355, 3) := by decide +kernel
theorem dX12_asserted_156 : decode cX12_asserted 156 = .ok (.pop, 1) := by decide +kernel
theorem dX12_asserted_157 : decode cX12_asserted 157 = .ok (.aload_n 0, 1) := by decide +kernel
theorem dX12_asserted_158 : decode cX12_asserted 158 = .ok (.iconst 1, 1) := by decide +kernel
theorem dX12_asserted_159 : decode cX12_asserted 159 = .ok (.invokevirtual 490, 3) := by decide +kernel
theorem dX12_asserted_162 : decode cX12_asserted 162 = .ok (.return_, 1) := by decide +kernel
theorem dX12_branch_0 : decode cX12_branch 0 = .ok (.aload_n 0, 1) := by decide +kernel
theorem dX12_branch_1 : decode cX12_branch 1 = .ok (.getfield 177, 3) := by decide +kernel
theorem dX12_branch_4 : decode cX12_branch 4 = .ok (.iload_n 1, 1) := by decide +kernel
theorem dX12_branch_5 : decode cX12_branch 5 = .ok (.iaload, 1) := by decide +kernel
theorem dX12_branch_6 : decode cX12_branch 6 = .ok (.tableswitch 166 0 2 #[26, 47, 75], 26) := by decide +kernel
theorem dX12_branch_32 : decode cX12_branch 32 = .ok (.aload_n 0, 1) := by decide +kernel
theorem dX12_branch_33 : decode cX12_branch 33 = .ok (.invokevirtual 345, 3) := by decide +kernel
theorem dX12_branch_36 : decode cX12_branch 36 = .ok (.aload_n 0, 1) := by decide +kernel
theorem dX12_branch_37 : decode cX12_branch 37 = .ok (.bipush 40, 2) := by decide +kernel
theorem dX12_branch_39 : decode cX12_branch 39 = .ok (.invokevirtual 475, 3) := by decide +kernel
theorem dX12_branch_42 : decode cX12_branch 42 = .ok (.pop, 1) := by decide +kernel
theorem dX12_branch_43 : decode cX12_branch 43 = .ok (.aload_n 0, 1) := by decide +kernel
theorem dX12_branch_44 : decode cX12_branch 44 = .ok (.iconst 1, 1) := by decide +kernel
theorem dX12_branch_45 : decode cX12_branch 45 = .ok (.bipush 20, 2) := by decide +kernel
theorem dX12_branch_47 : decode cX12_branch 47 = .ok (.invokevirtual 393, 3) := by decide +kernel
theorem dX12_branch_50 : decode cX12_branch 50 = .ok (.goto 163, 3) := by decide +kernel
theorem dX12_branch_53 : decode cX12_branch 53 = .ok (.aload_n 0, 1) := by decide +kernel
theorem dX12_branch_54 : decode cX12_branch 54 = .ok (.bipush 41, 2) := by decide +kernel
theorem dX12_branch_56 : decode cX12_branch 56 = .ok (.invokevirtual 468, 3) := by decide +kernel
theorem dX12_branch_59 : decode cX12_branch 59 = .ok (.pop, 1) := by decide +kernel
theorem dX12_branch_60 : decode cX12_branch 60 = .ok (.aload_n 0, 1) := by decide +kernel
theorem dX12_branch_61 : decode cX12_branch 61 = .ok (.getfield 180, 3) := by decide +kernel
theorem dX12_branch_64 : decode cX12_branch 64 = .ok (.iload_n 1, 1) := by decide +kernel
theorem dX12_branch_65 : decode cX12_branch 65 = .ok (.aload_n 0, 1) := by decide +kernel
theorem dX12_branch_66 : decode cX12_branch 66 = .ok (.bipush 13, 2) := by decide +kernel
theorem dX12_branch_68 : decode cX12_branch 68 = .ok (.iconst 0, 1) := by decide +kernel
theorem dX12_branch_69 : decode cX12_branch 69 = .ok (.invokevirtual 464, 3) := by decide +kernel
theorem dX12_branch_72 : decode cX12_branch 72 = .ok (.iastore, 1) := by decide +kernel
theorem dX12_branch_73 : decode cX12_branch 73 = .ok (.aload_n 0, 1) := by decide +kernel
theorem dX12_branch_74 : decode cX12_branch 74 = .ok (.iconst 2, 1) := by decide +kernel
theorem dX12_branch_75 : decode cX12_branch 75 = .ok (.invokevirtual 521, 3) := by decide +kernel
theorem dX12_branch_78 : decode cX12_branch 78 = .ok (.goto 135, 3) := by decide +kernel
theorem dX12_branch_81 : decode cX12_branch 81 = .ok (.aload_n 0, 1) := by decide +kernel
theorem dX12_branch_82 : decode cX12_branch 82 = .ok (.getfield 307, 3) := by decide +kernel
theorem dX12_branch_85 : decode cX12_branch 85 = .ok (.sipush 414, 3) := by decide +kernel
theorem dX12_branch_88 : decode cX12_branch 88 = .ok (.if_icmp .ne 61, 3) := by decide +kernel
theorem dX12_branch_91 : decode cX12_branch 91 = .ok (.aload_n 0, 1) := by decide +kernel
theorem dX12_branch_92 : decode cX12_branch 92 = .ok (.invokevirtual 345, 3) := by decide +kernel
theorem dX12_branch_95 : decode cX12_branch 95 = .ok (.aload_n 0, 1) := by decide +kernel
theorem dX12_branch_96 : decode cX12_branch 96 = .ok (.getfield 183, 3) := by decide +kernel
theorem dX12_branch_99 : decode cX12_branch 99 = .ok (.iload_n 1, 1) := by decide +kernel
theorem dX12_branch_100 : decode cX12_branch 100 = .ok (.aload_n 0, 1) := by decide +kernel
theorem dX12_branch_101 : decode cX12_branch 101 = .ok (.getfield 396, 3) := by decide +kernel
theorem dX12_branch_104 : decode cX12_branch 104 = .ok (.ifCond .eq 7, 3) := by decide +kernel
theorem dX12_branch_107 : decode cX12_branch 107 = .ok (.iconst 1, 1) := by decide +kernel
theorem dX12_branch_108 : decode cX12_branch 108 = .ok (.goto 4, 3) := by decide +kernel
theorem dX12_branch_111 : decode cX12_branch 111 = .ok (.iconst 0, 1) := by decide +kernel
theorem dX12_branch_112 : decode cX12_branch 112 = .ok (.iastore, 1) := by decide +kernel
theorem dX12_branch_113 : decode cX12_branch 113 = .ok (.aload_n 0, 1) := by decide +kernel
theorem dX12_branch_114 : decode cX12_branch 114 = .ok (.getfield 186, 3) := by decide +kernel
theorem dX12_branch_117 : decode cX12_branch 117 = .ok (.iload_n 1, 1) := by decide +kernel
theorem dX12_branch_118 : decode cX12_branch 118 = .ok (.aload_n 0, 1) := by decide +kernel
theorem dX12_branch_119 : decode cX12_branch 119 = .ok (.bipush 15, 2) := by decide +kernel
theorem dX12_branch_121 : decode cX12_branch 121 = .ok (.iconst 0, 1) := by decide +kernel
theorem dX12_branch_122 : decode cX12_branch 122 = .ok (.invokevirtual 464, 3) := by decide +kernel
theorem dX12_branch_125 : decode cX12_branch 125 = .ok (.iastore, 1) := by decide +kernel
theorem dX12_branch_126 : decode cX12_branch 126 = .ok (.aload_n 0, 1) := by decide +kernel
theorem dX12_branch_127 : decode cX12_branch 127 = .ok (.getfield 87, 3) := by decide +kernel
theorem dX12_branch_130 : decode cX12_branch 130 = .ok (.aload_n 0, 1) := by decide +kernel
theorem dX12_branch_131 : decode cX12_branch 131 = .ok (.getfield 180, 3) := by decide +kernel
theorem dX12_branch_134 : decode cX12_branch 134 = .ok (.iload_n 1, 1) := by decide +kernel
theorem dX12_branch_135 : decode cX12_branch 135 = .ok (.iaload, 1) := by decide +kernel
theorem dX12_branch_136 : decode cX12_branch 136 = .ok (.aload_n 0, 1) := by decide +kernel
theorem dX12_branch_137 : decode cX12_branch 137 = .ok (.getfield 358, 3) := by decide +kernel
theorem dX12_branch_140 : decode cX12_branch 140 = .ok (.iastore, 1) := by decide +kernel
theorem dX12_branch_141 : decode cX12_branch 141 = .ok (.aload_n 0, 1) := by decide +kernel
theorem dX12_branch_142 : decode cX12_branch 142 = .ok (.iconst 3, 1) := by decide +kernel
theorem dX12_branch_143 : decode cX12_branch 143 = .ok (.invokevirtual 521, 3) := by decide +kernel
theorem dX12_branch_146 : decode cX12_branch 146 = .ok (.goto 67, 3) := by decide +kernel
theorem dX12_branch_149 : decode cX12_branch 149 = .ok (.aload_n 0, 1) := by decide +kernel
theorem dX12_branch_150 : decode cX12_branch 150 = .ok (.getfield 87, 3) := by decide +kernel
theorem dX12_branch_153 : decode cX12_branch 153 = .ok (.aload_n 0, 1) := by decide +kernel
theorem dX12_branch_154 : decode cX12_branch 154 = .ok (.getfield 180, 3) := by decide +kernel
theorem dX12_branch_157 : decode cX12_branch 157 = .ok (.iload_n 1, 1) := by decide +kernel
theorem dX12_branch_158 : decode cX12_branch 158 = .ok (.iaload, 1) := by decide +kernel
theorem dX12_branch_159 : decode cX12_branch 159 = .ok (.aload_n 0, 1) := by decide +kernel
theorem dX12_branch_160 : decode cX12_branch 160 = .ok (.getfield 358, 3) := by decide +kernel
theorem dX12_branch_163 : decode cX12_branch 163 = .ok (.iastore, 1) := by decide +kernel
theorem dX12_branch_164 : decode cX12_branch 164 = .ok (.aload_n 0, 1) := by decide +kernel
theorem dX12_branch_165 : decode cX12_branch 165 = .ok (.iconst 1, 1) := by decide +kernel
theorem dX12_branch_166 : decode cX12_branch 166 = .ok (.invokevirtual 490, 3) := by decide +kernel
theorem dX12_branch_169 : decode cX12_branch 169 = .ok (.goto 44, 3) := by decide +kernel
theorem dX12_branch_172 : decode cX12_branch 172 = .ok (.aload_n 0, 1) := by decide +kernel
theorem dX12_branch_173 : decode cX12_branch 173 = .ok (.getfield 87, 3) := by decide +kernel
theorem dX12_branch_176 : decode cX12_branch 176 = .ok (.aload_n 0, 1) := by decide +kernel
theorem dX12_branch_177 : decode cX12_branch 177 = .ok (.getfield 186, 3) := by decide +kernel
theorem dX12_branch_180 : decode cX12_branch 180 = .ok (.iload_n 1, 1) := by decide +kernel
theorem dX12_branch_181 : decode cX12_branch 181 = .ok (.iaload, 1) := by decide +kernel
theorem dX12_branch_182 : decode cX12_branch 182 = .ok (.aload_n 0, 1) := by decide +kernel
theorem dX12_branch_183 : decode cX12_branch 183 = .ok (.getfield 358, 3) := by decide +kernel
theorem dX12_branch_186 : decode cX12_branch 186 = .ok (.iastore, 1) := by decide +kernel
theorem dX12_branch_187 : decode cX12_branch 187 = .ok (.aload_n 0, 1) := by decide +kernel
theorem dX12_branch_188 : decode cX12_branch 188 = .ok (.aload_n 0, 1) := by decide +kernel
theorem dX12_branch_189 : decode cX12_branch 189 = .ok (.getfield 396, 3) := by decide +kernel
theorem dX12_branch_192 : decode cX12_branch 192 = .ok (.ifCond .ne 13, 3) := by decide +kernel
theorem dX12_branch_195 : decode cX12_branch 195 = .ok (.aload_n 0, 1) := by decide +kernel
theorem dX12_branch_196 : decode cX12_branch 196 = .ok (.getfield 183, 3) := by decide +kernel
theorem dX12_branch_199 : decode cX12_branch 199 = .ok (.iload_n 1, 1) := by decide +kernel
theorem dX12_branch_200 : decode cX12_branch 200 = .ok (.iaload, 1) := by decide +kernel
theorem dX12_branch_201 : decode cX12_branch 201 = .ok (.iconst 1, 1) := by decide +kernel
theorem dX12_branch_202 : decode cX12_branch 202 = .ok (.if_icmp .ne 7, 3) := by decide +kernel
theorem dX12_branch_205 : decode cX12_branch 205 = .ok (.iconst 1, 1) := by decide +kernel
theorem dX12_branch_206 : decode cX12_branch 206 = .ok (.goto 4, 3) := by decide +kernel
theorem dX12_branch_209 : decode cX12_branch 209 = .ok (.iconst 0, 1) := by decide +kernel
theorem dX12_branch_210 : decode cX12_branch 210 = .ok (.invokevirtual 490, 3) := by decide +kernel
theorem dX12_branch_213 : decode cX12_branch 213 = .ok (.return_, 1) := by decide +kernel
theorem dX12_isJustTrue_0 : decode cX12_isJustTrue 0 = .ok (.iload_n 1, 1) := by decide +kernel
theorem dX12_isJustTrue_1 : decode cX12_isJustTrue 1 = .ok (.ifCond .le 17, 3) := by decide +kernel
theorem dX12_isJustTrue_4 : decode cX12_isJustTrue 4 = .ok (.aload_n 0, 1) := by decide +kernel
theorem dX12_isJustTrue_5 : decode cX12_isJustTrue 5 = .ok (.getfield 294, 3) := by decide +kernel
theorem dX12_isJustTrue_8 : decode cX12_isJustTrue 8 = .ok (.iload_n 1, 1) := by decide +kernel
theorem dX12_isJustTrue_9 : decode cX12_isJustTrue 9 = .ok (.iconst 1, 1) := by decide +kernel
theorem dX12_isJustTrue_10 : decode cX12_isJustTrue 10 = .ok (.iadd, 1) := by decide +kernel
theorem dX12_isJustTrue_11 : decode cX12_isJustTrue 11 = .ok (.if_icmp .ne 7, 3) := by decide +kernel
theorem dX12_isJustTrue_14 : decode cX12_isJustTrue 14 = .ok (.iconst 1, 1) := by decide +kernel
theorem dX12_isJustTrue_15 : decode cX12_isJustTrue 15 = .ok (.goto 4, 3) := by decide +kernel
theorem dX12_isJustTrue_18 : decode cX12_isJustTrue 18 = .ok (.iconst 0, 1) := by decide +kernel
theorem dX12_isJustTrue_19 : decode cX12_isJustTrue 19 = .ok (.ireturn, 1) := by decide +kernel
theorem dX12_whiles_0 : decode cX12_whiles 0 = .ok (.aload_n 0, 1) := by decide +kernel
theorem dX12_whiles_1 : decode cX12_whiles 1 = .ok (.getfield 177, 3) := by decide +kernel
theorem dX12_whiles_4 : decode cX12_whiles 4 = .ok (.iload_n 1, 1) := by decide +kernel
theorem dX12_whiles_5 : decode cX12_whiles 5 = .ok (.iaload, 1) := by decide +kernel
theorem dX12_whiles_6 : decode cX12_whiles 6 = .ok (.lookupswitch 150 #[(0, 26), (1, 81)], 26) := by decide +kernel
theorem dX12_whiles_32 : decode cX12_whiles 32 = .ok (.aload_n 0, 1) := by decide +kernel
theorem dX12_whiles_33 : decode cX12_whiles 33 = .ok (.invokevirtual 345, 3) := by decide +kernel
theorem dX12_whiles_36 : decode cX12_whiles 36 = .ok (.aload_n 0, 1) := by decide +kernel
theorem dX12_whiles_37 : decode cX12_whiles 37 = .ok (.getfield 180, 3) := by decide +kernel
theorem dX12_whiles_40 : decode cX12_whiles 40 = .ok (.iload_n 1, 1) := by decide +kernel
theorem dX12_whiles_41 : decode cX12_whiles 41 = .ok (.aload_n 0, 1) := by decide +kernel
theorem dX12_whiles_42 : decode cX12_whiles 42 = .ok (.getfield 358, 3) := by decide +kernel
theorem dX12_whiles_45 : decode cX12_whiles 45 = .ok (.iastore, 1) := by decide +kernel
theorem dX12_whiles_46 : decode cX12_whiles 46 = .ok (.aload_n 0, 1) := by decide +kernel
theorem dX12_whiles_47 : decode cX12_whiles 47 = .ok (.bipush 40, 2) := by decide +kernel
theorem dX12_whiles_49 : decode cX12_whiles 49 = .ok (.invokevirtual 475, 3) := by decide +kernel
theorem dX12_whiles_52 : decode cX12_whiles 52 = .ok (.pop, 1) := by decide +kernel
theorem dX12_whiles_53 : decode cX12_whiles 53 = .ok (.aload_n 0, 1) := by decide +kernel
theorem dX12_whiles_54 : decode cX12_whiles 54 = .ok (.getfield 189, 3) := by decide +kernel
theorem dX12_whiles_57 : decode cX12_whiles 57 = .ok (.iload_n 1, 1) := by decide +kernel
theorem dX12_whiles_58 : decode cX12_whiles 58 = .ok (.aload_n 0, 1) := by decide +kernel
theorem dX12_whiles_59 : decode cX12_whiles 59 = .ok (.getfield 307, 3) := by decide +kernel
theorem dX12_whiles_62 : decode cX12_whiles 62 = .ok (.sipush 432, 3) := by decide +kernel
theorem dX12_whiles_65 : decode cX12_whiles 65 = .ok (.if_icmp .ne 10, 3) := by decide +kernel
theorem dX12_whiles_68 : decode cX12_whiles 68 = .ok (.aload_n 0, 1) := by decide +kernel
theorem dX12_whiles_69 : decode cX12_whiles 69 = .ok (.getfield 294, 3) := by decide +kernel
theorem dX12_whiles_72 : decode cX12_whiles 72 = .ok (.goto 4, 3) := by decide +kernel
theorem dX12_whiles_75 : decode cX12_whiles 75 = .ok (.iconst 0, 1) := by decide +kernel
theorem dX12_whiles_76 : decode cX12_whiles 76 = .ok (.iastore, 1) := by decide +kernel
theorem dX12_whiles_77 : decode cX12_whiles 77 = .ok (.aload_n 0, 1) := by decide +kernel
theorem dX12_whiles_78 : decode cX12_whiles 78 = .ok (.iconst 1, 1) := by decide +kernel
theorem dX12_whiles_79 : decode cX12_whiles 79 = .ok (.bipush 20, 2) := by decide +kernel
theorem dX12_whiles_81 : decode cX12_whiles 81 = .ok (.invokevirtual 393, 3) := by decide +kernel
theorem dX12_whiles_84 : decode cX12_whiles 84 = .ok (.goto 174, 3) := by decide +kernel
theorem dX12_whiles_87 : decode cX12_whiles 87 = .ok (.aload_n 0, 1) := by decide +kernel
theorem dX12_whiles_88 : decode cX12_whiles 88 = .ok (.getfield 195, 3) := by decide +kernel
theorem dX12_whiles_91 : decode cX12_whiles 91 = .ok (.iload_n 1, 1) := by decide +kernel
theorem dX12_whiles_92 : decode cX12_whiles 92 = .ok (.aload_n 0, 1) := by decide +kernel
theorem dX12_whiles_93 : decode cX12_whiles 93 = .ok (.aload_n 0, 1) := by decide +kernel
theorem dX12_whiles_94 : decode cX12_whiles 94 = .ok (.getfield 189, 3) := by decide +kernel
theorem dX12_whiles_97 : decode cX12_whiles 97 = .ok (.iload_n 1, 1) := by decide +kernel
theorem dX12_whiles_98 : decode cX12_whiles 98 = .ok (.iaload, 1) := by decide +kernel
theorem dX12_whiles_99 : decode cX12_whiles 99 = .ok (.invokevirtual 533, 3) := by decide +kernel
theorem dX12_whiles_102 : decode cX12_whiles 102 = .ok (.ifCond .eq 7, 3) := by decide +kernel
theorem dX12_whiles_105 : decode cX12_whiles 105 = .ok (.iconst 1, 1) := by decide +kernel
theorem dX12_whiles_106 : decode cX12_whiles 106 = .ok (.goto 4, 3) := by decide +kernel
theorem dX12_whiles_109 : decode cX12_whiles 109 = .ok (.iconst 0, 1) := by decide +kernel
theorem dX12_whiles_110 : decode cX12_whiles 110 = .ok (.iastore, 1) := by decide +kernel
theorem dX12_whiles_111 : decode cX12_whiles 111 = .ok (.aload_n 0, 1) := by decide +kernel
theorem dX12_whiles_112 : decode cX12_whiles 112 = .ok (.bipush 41, 2) := by decide +kernel
theorem dX12_whiles_114 : decode cX12_whiles 114 = .ok (.invokevirtual 468, 3) := by decide +kernel
theorem dX12_whiles_117 : decode cX12_whiles 117 = .ok (.pop, 1) := by decide +kernel
theorem dX12_whiles_118 : decode cX12_whiles 118 = .ok (.aload_n 0, 1) := by decide +kernel
theorem dX12_whiles_119 : decode cX12_whiles 119 = .ok (.getfield 183, 3) := by decide +kernel
theorem dX12_whiles_122 : decode cX12_whiles 122 = .ok (.iload_n 1, 1) := by decide +kernel
theorem dX12_whiles_123 : decode cX12_whiles 123 = .ok (.aload_n 0, 1) := by decide +kernel
theorem dX12_whiles_124 : decode cX12_whiles 124 = .ok (.bipush 13, 2) := by decide +kernel
theorem dX12_whiles_126 : decode cX12_whiles 126 = .ok (.iconst 0, 1) := by decide +kernel
theorem dX12_whiles_127 : decode cX12_whiles 127 = .ok (.invokevirtual 464, 3) := by decide +kernel
theorem dX12_whiles_130 : decode cX12_whiles 130 = .ok (.iastore, 1) := by decide +kernel
theorem dX12_whiles_131 : decode cX12_whiles 131 = .ok (.aload_n 0, 1) := by decide +kernel
theorem dX12_whiles_132 : decode cX12_whiles 132 = .ok (.iconst 1, 1) := by decide +kernel
theorem dX12_whiles_133 : decode cX12_whiles 133 = .ok (.iconst 0, 1) := by decide +kernel
theorem dX12_whiles_134 : decode cX12_whiles 134 = .ok (.invokevirtual 464, 3) := by decide +kernel
theorem dX12_whiles_137 : decode cX12_whiles 137 = .ok (.pop, 1) := by decide +kernel
theorem dX12_whiles_138 : decode cX12_whiles 138 = .ok (.aload_n 0, 1) := by decide +kernel
theorem dX12_whiles_139 : decode cX12_whiles 139 = .ok (.getfield 186, 3) := by decide +kernel
theorem dX12_whiles_142 : decode cX12_whiles 142 = .ok (.iload_n 1, 1) := by decide +kernel
theorem dX12_whiles_143 : decode cX12_whiles 143 = .ok (.aload_n 0, 1) := by decide +kernel
theorem dX12_whiles_144 : decode cX12_whiles 144 = .ok (.invokevirtual 536, 3) := by decide +kernel
theorem dX12_whiles_147 : decode cX12_whiles 147 = .ok (.iastore, 1) := by decide +kernel
theorem dX12_whiles_148 : decode cX12_whiles 148 = .ok (.aload_n 0, 1) := by decide +kernel
theorem dX12_whiles_149 : decode cX12_whiles 149 = .ok (.iconst 2, 1) := by decide +kernel
theorem dX12_whiles_150 : decode cX12_whiles 150 = .ok (.invokevirtual 521, 3) := by decide +kernel
theorem dX12_whiles_153 : decode cX12_whiles 153 = .ok (.goto 105, 3) := by decide +kernel
theorem dX12_whiles_156 : decode cX12_whiles 156 = .ok (.aload_n 0, 1) := by decide +kernel
theorem dX12_whiles_157 : decode cX12_whiles 157 = .ok (.getfield 186, 3) := by decide +kernel
theorem dX12_whiles_160 : decode cX12_whiles 160 = .ok (.iload_n 1, 1) := by decide +kernel
theorem dX12_whiles_161 : decode cX12_whiles 161 = .ok (.iaload, 1) := by decide +kernel
theorem dX12_whiles_162 : decode cX12_whiles 162 = .ok (.istore_n 2, 1) := by decide +kernel
theorem dX12_whiles_163 : decode cX12_whiles 163 = .ok (.aload_n 0, 1) := by decide +kernel
theorem dX12_whiles_164 : decode cX12_whiles 164 = .ok (.aload_n 0, 1) := by decide +kernel
theorem dX12_whiles_165 : decode cX12_whiles 165 = .ok (.getfield 150, 3) := by decide +kernel
theorem dX12_whiles_168 : decode cX12_whiles 168 = .ok (.iload_n 2, 1) := by decide +kernel
theorem dX12_whiles_169 : decode cX12_whiles 169 = .ok (.iaload, 1) := by decide +kernel
theorem dX12_whiles_170 : decode cX12_whiles 170 = .ok (.aload_n 0, 1) := by decide +kernel
theorem dX12_whiles_171 : decode cX12_whiles 171 = .ok (.getfield 180, 3) := by decide +kernel
theorem dX12_whiles_174 : decode cX12_whiles 174 = .ok (.iload_n 1, 1) := by decide +kernel
theorem dX12_whiles_175 : decode cX12_whiles 175 = .ok (.iaload, 1) := by decide +kernel
theorem dX12_whiles_176 : decode cX12_whiles 176 = .ok (.invokevirtual 510, 3) := by decide +kernel
theorem dX12_whiles_179 : decode cX12_whiles 179 = .ok (.aload_n 0, 1) := by decide +kernel
theorem dX12_whiles_180 : decode cX12_whiles 180 = .ok (.bipush 15, 2) := by decide +kernel
theorem dX12_whiles_182 : decode cX12_whiles 182 = .ok (.aload_n 0, 1) := by decide +kernel
theorem dX12_whiles_183 : decode cX12_whiles 183 = .ok (.getfield 180, 3) := by decide +kernel
theorem dX12_whiles_186 : decode cX12_whiles 186 = .ok (.iload_n 1, 1) := by decide +kernel
theorem dX12_whiles_187 : decode cX12_whiles 187 = .ok (.iaload, 1) := by decide +kernel
theorem dX12_whiles_188 : decode cX12_whiles 188 = .ok (.invokevirtual 464, 3) := by decide +kernel
theorem dX12_whiles_191 : decode cX12_whiles 191 = .ok (.pop, 1) := by decide +kernel
theorem dX12_whiles_192 : decode cX12_whiles 192 = .ok (.aload_n 0, 1) := by decide +kernel
theorem dX12_whiles_193 : decode cX12_whiles 193 = .ok (.getfield 87, 3) := by decide +kernel
theorem dX12_whiles_196 : decode cX12_whiles 196 = .ok (.aload_n 0, 1) := by decide +kernel
theorem dX12_whiles_197 : decode cX12_whiles 197 = .ok (.getfield 183, 3) := by decide +kernel
theorem dX12_whiles_200 : decode cX12_whiles 200 = .ok (.iload_n 1, 1) := by decide +kernel
theorem dX12_whiles_201 : decode cX12_whiles 201 = .ok (.iaload, 1) := by decide +kernel
theorem dX12_whiles_202 : decode cX12_whiles 202 = .ok (.aload_n 0, 1) := by decide +kernel
theorem dX12_whiles_203 : decode cX12_whiles 203 = .ok (.getfield 358, 3) := by decide +kernel
theorem dX12_whiles_206 : decode cX12_whiles 206 = .ok (.iastore, 1) := by decide +kernel
theorem dX12_whiles_207 : decode cX12_whiles 207 = .ok (.aload_n 0, 1) := by decide +kernel
theorem dX12_whiles_208 : decode cX12_whiles 208 = .ok (.aload_n 0, 1) := by decide +kernel
theorem dX12_whiles_209 : decode cX12_whiles 209 = .ok (.getfield 147, 3) := by decide +kernel
theorem dX12_whiles_212 : decode cX12_whiles 212 = .ok (.iload_n 2, 1) := by decide +kernel
theorem dX12_whiles_213 : decode cX12_whiles 213 = .ok (.iaload, 1) := by decide +kernel
theorem dX12_whiles_214 : decode cX12_whiles 214 = .ok (.aload_n 0, 1) := by decide +kernel
theorem dX12_whiles_215 : decode cX12_whiles 215 = .ok (.getfield 358, 3) := by decide +kernel
theorem dX12_whiles_218 : decode cX12_whiles 218 = .ok (.invokevirtual 510, 3) := by decide +kernel
theorem dX12_whiles_221 : decode cX12_whiles 221 = .ok (.aload_n 0, 1) := by decide +kernel
theorem dX12_whiles_222 : decode cX12_whiles 222 = .ok (.dup, 1) := by decide +kernel
theorem dX12_whiles_223 : decode cX12_whiles 223 = .ok (.getfield 367, 3) := by decide +kernel
theorem dX12_whiles_226 : decode cX12_whiles 226 = .ok (.iconst 1, 1) := by decide +kernel
theorem dX12_whiles_227 : decode cX12_whiles 227 = .ok (.isub, 1) := by decide +kernel
theorem dX12_whiles_228 : decode cX12_whiles 228 = .ok (.putfield 367, 3) := by decide +kernel
theorem dX12_whiles_231 : decode cX12_whiles 231 = .ok (.aload_n 0, 1) := by decide +kernel
theorem dX12_whiles_232 : decode cX12_whiles 232 = .ok (.aload_n 0, 1) := by decide +kernel
theorem dX12_whiles_233 : decode cX12_whiles 233 = .ok (.getfield 195, 3) := by decide +kernel
theorem dX12_whiles_236 : decode cX12_whiles 236 = .ok (.iload_n 1, 1) := by decide +kernel
theorem dX12_whiles_237 : decode cX12_whiles 237 = .ok (.iaload, 1) := by decide +kernel
theorem dX12_whiles_238 : decode cX12_whiles 238 = .ok (.ifCond .eq 12, 3) := by decide +kernel
theorem dX12_whiles_241 : decode cX12_whiles 241 = .ok (.aload_n 0, 1) := by decide +kernel
theorem dX12_whiles_242 : decode cX12_whiles 242 = .ok (.getfield 153, 3) := by decide +kernel
theorem dX12_whiles_245 : decode cX12_whiles 245 = .ok (.iload_n 2, 1) := by decide +kernel
theorem dX12_whiles_246 : decode cX12_whiles 246 = .ok (.baload, 1) := by decide +kernel
theorem dX12_whiles_247 : decode cX12_whiles 247 = .ok (.ifCond .eq 7, 3) := by decide +kernel
theorem dX12_whiles_250 : decode cX12_whiles 250 = .ok (.iconst 1, 1) := by decide +kernel
theorem dX12_whiles_251 : decode cX12_whiles 251 = .ok (.goto 4, 3) := by decide +kernel
theorem dX12_whiles_254 : decode cX12_whiles 254 = .ok (.iconst 0, 1) := by decide +kernel
theorem dX12_whiles_255 : decode cX12_whiles 255 = .ok (.invokevirtual 490, 3) := by decide +kernel
theorem dX12_whiles_258 : decode cX12_whiles 258 = .ok (.return_, 1) := by decide +kernel
theorem dX12_repeats_0 : decode cX12_repeats 0 = .ok (.aload_n 0, 1) := by decide +kernel
theorem dX12_repeats_1 : decode cX12_repeats 1 = .ok (.getfield 177, 3) := by decide +kernel
theorem dX12_repeats_4 : decode cX12_repeats 4 = .ok (.iload_n 1, 1) := by decide +kernel
theorem dX12_repeats_5 : decode cX12_repeats 5 = .ok (.iaload, 1) := by decide +kernel
theorem dX12_repeats_6 : decode cX12_repeats 6 = .ok (.lookupswitch 199 #[(0, 26), (1, 60)], 26) := by decide +kernel
theorem dX12_repeats_32 : decode cX12_repeats 32 = .ok (.aload_n 0, 1) := by decide +kernel
theorem dX12_repeats_33 : decode cX12_repeats 33 = .ok (.invokevirtual 345, 3) := by decide +kernel
theorem dX12_repeats_36 : decode cX12_repeats 36 = .ok (.aload_n 0, 1) := by decide +kernel
theorem dX12_repeats_37 : decode cX12_repeats 37 = .ok (.getfield 180, 3) := by decide +kernel
theorem dX12_repeats_40 : decode cX12_repeats 40 = .ok (.iload_n 1, 1) := by decide +kernel
theorem dX12_repeats_41 : decode cX12_repeats 41 = .ok (.aload_n 0, 1) := by decide +kernel
theorem dX12_repeats_42 : decode cX12_repeats 42 = .ok (.iconst 1, 1) := by decide +kernel
theorem dX12_repeats_43 : decode cX12_repeats 43 = .ok (.iconst 0, 1) := by decide +kernel
theorem dX12_repeats_44 : decode cX12_repeats 44 = .ok (.invokevirtual 464, 3) := by decide +kernel
theorem dX12_repeats_47 : decode cX12_repeats 47 = .ok (.iastore, 1) := by decide +kernel
theorem dX12_repeats_48 : decode cX12_repeats 48 = .ok (.aload_n 0, 1) := by decide +kernel
theorem dX12_repeats_49 : decode cX12_repeats 49 = .ok (.getfield 186, 3) := by decide +kernel
theorem dX12_repeats_52 : decode cX12_repeats 52 = .ok (.iload_n 1, 1) := by decide +kernel
theorem dX12_repeats_53 : decode cX12_repeats 53 = .ok (.aload_n 0, 1) := by decide +kernel
theorem dX12_repeats_54 : decode cX12_repeats 54 = .ok (.invokevirtual 536, 3) := by decide +kernel
theorem dX12_repeats_57 : decode cX12_repeats 57 = .ok (.iastore, 1) := by decide +kernel
theorem dX12_repeats_58 : decode cX12_repeats 58 = .ok (.aload_n 0, 1) := by decide +kernel
theorem dX12_repeats_59 : decode cX12_repeats 59 = .ok (.iconst 1, 1) := by decide +kernel
theorem dX12_repeats_60 : decode cX12_repeats 60 = .ok (.invokevirtual 521, 3) := by decide +kernel
theorem dX12_repeats_63 : decode cX12_repeats 63 = .ok (.goto 227, 3) := by decide +kernel
theorem dX12_repeats_66 : decode cX12_repeats 66 = .ok (.aload_n 0, 1) := by decide +kernel
theorem dX12_repeats_67 : decode cX12_repeats 67 = .ok (.getfield 186, 3) := by decide +kernel
theorem dX12_repeats_70 : decode cX12_repeats 70 = .ok (.iload_n 1, 1) := by decide +kernel
theorem dX12_repeats_71 : decode cX12_repeats 71 = .ok (.iaload, 1) := by decide +kernel
theorem dX12_repeats_72 : decode cX12_repeats 72 = .ok (.istore_n 2, 1) := by decide +kernel
theorem dX12_repeats_73 : decode cX12_repeats 73 = .ok (.aload_n 0, 1) := by decide +kernel
theorem dX12_repeats_74 : decode cX12_repeats 74 = .ok (.aload_n 0, 1) := by decide +kernel
theorem dX12_repeats_75 : decode cX12_repeats 75 = .ok (.getfield 150, 3) := by decide +kernel
theorem dX12_repeats_78 : decode cX12_repeats 78 = .ok (.iload_n 2, 1) := by decide +kernel
theorem dX12_repeats_79 : decode cX12_repeats 79 = .ok (.iaload, 1) := by decide +kernel
theorem dX12_repeats_80 : decode cX12_repeats 80 = .ok (.aload_n 0, 1) := by decide +kernel
theorem dX12_repeats_81 : decode cX12_repeats 81 = .ok (.getfield 358, 3) := by decide +kernel
theorem dX12_repeats_84 : decode cX12_repeats 84 = .ok (.invokevirtual 510, 3) := by decide +kernel
theorem dX12_repeats_87 : decode cX12_repeats 87 = .ok (.aload_n 0, 1) := by decide +kernel
theorem dX12_repeats_88 : decode cX12_repeats 88 = .ok (.getfield 183, 3) := by decide +kernel
theorem dX12_repeats_91 : decode cX12_repeats 91 = .ok (.iload_n 1, 1) := by decide +kernel
theorem dX12_repeats_92 : decode cX12_repeats 92 = .ok (.aload_n 0, 1) := by decide +kernel
theorem dX12_repeats_93 : decode cX12_repeats 93 = .ok (.getfield 396, 3) := by decide +kernel
theorem dX12_repeats_96 : decode cX12_repeats 96 = .ok (.ifCond .ne 12, 3) := by decide +kernel
theorem dX12_repeats_99 : decode cX12_repeats 99 = .ok (.aload_n 0, 1) := by decide +kernel
theorem dX12_repeats_100 : decode cX12_repeats 100 = .ok (.getfield 156, 3) := by decide +kernel
theorem dX12_repeats_103 : decode cX12_repeats 103 = .ok (.iload_n 2, 1) := by decide +kernel
theorem dX12_repeats_104 : decode cX12_repeats 104 = .ok (.baload, 1) := by decide +kernel
theorem dX12_repeats_105 : decode cX12_repeats 105 = .ok (.ifCond .eq 7, 3) := by decide +kernel
theorem dX12_repeats_108 : decode cX12_repeats 108 = .ok (.iconst 1, 1) := by decide +kernel
theorem dX12_repeats_109 : decode cX12_repeats 109 = .ok (.goto 4, 3) := by decide +kernel
