theorem dX12_thing_46 : decode cX12_thing 46 = .ok (.bipush 17, 2) := by decide +kernel
theorem dX12_thing_48 : decode cX12_thing 48 = .ok (.aload_n 0, 1) := by decide +kernel
theorem dX12_thing_49 : decode cX12_thing 49 = .ok (.getfield 307, 3) := by decide +kernel
theorem dX12_thing_52 : decode cX12_thing 52 = .ok (.bipush 43, 2) := by decide +kernel
theorem dX12_thing_54 : decode cX12_thing 54 = .ok (.if_icmp .eq 12, 3) := by decide +kernel
theorem dX12_thing_57 : decode cX12_thing 57 = .ok (.aload_n 0, 1) := by decide +kernel
theorem dX12_thing_58 : decode cX12_thing 58 = .ok (.getfield 307, 3) := by decide +kernel
theorem dX12_thing_61 : decode cX12_thing 61 = .ok (.bipush 45, 2) := by decide +kernel
theorem dX12_thing_63 : decode cX12_thing 63 = .ok (.if_icmp .ne 7, 3) := by decide +kernel
theorem dX12_thing_66 : decode cX12_thing 66 = .ok (.iconst 1, 1) := by decide +kernel
theorem dX12_thing_67 : decode cX12_thing 67 = .ok (.goto 4, 3) := by decide +kernel
theorem dX12_thing_70 : decode cX12_thing 70 = .ok (.iconst 0, 1) := by decide +kernel
theorem dX12_thing_71 : decode cX12_thing 71 = .ok (.invokevirtual 447, 3) := by decide +kernel
theorem dX12_thing_74 : decode cX12_thing 74 = .ok (.goto 96, 3) := by decide +kernel
theorem dX12_thing_77 : decode cX12_thing 77 = .ok (.aload_n 0, 1) := by decide +kernel
theorem dX12_thing_78 : decode cX12_thing 78 = .ok (.iload_n 1, 1) := by decide +kernel
theorem dX12_thing_79 : decode cX12_thing 79 = .ok (.bipush 18, 2) := by decide +kernel
theorem dX12_thing_81 : decode cX12_thing 81 = .ok (.aload_n 0, 1) := by decide +kernel
theorem dX12_thing_82 : decode cX12_thing 82 = .ok (.getfield 307, 3) := by decide +kernel
theorem dX12_thing_85 : decode cX12_thing 85 = .ok (.bipush 42, 2) := by decide +kernel
theorem dX12_thing_87 : decode cX12_thing 87 = .ok (.if_icmp .eq 21, 3) := by decide +kernel
theorem dX12_thing_90 : decode cX12_thing 90 = .ok (.aload_n 0, 1) := by decide +kernel
theorem dX12_thing_91 : decode cX12_thing 91 = .ok (.getfield 307, 3) := by decide +kernel
theorem dX12_thing_94 : decode cX12_thing 94 = .ok (.bipush 47, 2) := by decide +kernel
theorem dX12_thing_96 : decode cX12_thing 96 = .ok (.if_icmp .eq 12, 3) := by decide +kernel
theorem dX12_thing_99 : decode cX12_thing 99 = .ok (.aload_n 0, 1) := by decide +kernel
theorem dX12_thing_100 : decode cX12_thing 100 = .ok (.getfield 307, 3) := by decide +kernel
theorem dX12_thing_103 : decode cX12_thing 103 = .ok (.bipush 37, 2) := by decide +kernel
theorem dX12_thing_105 : decode cX12_thing 105 = .ok (.if_icmp .ne 7, 3) := by decide +kernel
theorem dX12_thing_108 : decode cX12_thing 108 = .ok (.iconst 1, 1) := by decide +kernel
theorem dX12_thing_109 : decode cX12_thing 109 = .ok (.goto 4, 3) := by decide +kernel
theorem dX12_thing_112 : decode cX12_thing 112 = .ok (.iconst 0, 1) := by decide +kernel
theorem dX12_thing_113 : decode cX12_thing 113 = .ok (.invokevirtual 447, 3) := by decide +kernel
theorem dX12_thing_116 : decode cX12_thing 116 = .ok (.goto 54, 3) := by decide +kernel
theorem dX12_thing_119 : decode cX12_thing 119 = .ok (.aload_n 0, 1) := by decide +kernel
theorem dX12_thing_120 : decode cX12_thing 120 = .ok (.iload_n 1, 1) := by decide +kernel
theorem dX12_thing_121 : decode cX12_thing 121 = .ok (.invokevirtual 451, 3) := by decide +kernel
theorem dX12_thing_124 : decode cX12_thing 124 = .ok (.goto 46, 3) := by decide +kernel
theorem dX12_thing_127 : decode cX12_thing 127 = .ok (.aload_n 0, 1) := by decide +kernel
theorem dX12_thing_128 : decode cX12_thing 128 = .ok (.iload_n 1, 1) := by decide +kernel
theorem dX12_thing_129 : decode cX12_thing 129 = .ok (.invokevirtual 454, 3) := by decide +kernel
theorem dX12_thing_132 : decode cX12_thing 132 = .ok (.goto 38, 3) := by decide +kernel
theorem dX12_thing_135 : decode cX12_thing 135 = .ok (.aload_n 0, 1) := by decide +kernel
theorem dX12_thing_136 : decode cX12_thing 136 = .ok (.iload_n 1, 1) := by decide +kernel
theorem dX12_thing_137 : decode cX12_thing 137 = .ok (.bipush 21, 2) := by decide +kernel
theorem dX12_thing_139 : decode cX12_thing 139 = .ok (.sipush 305, 3) := by decide +kernel
theorem dX12_thing_142 : decode cX12_thing 142 = .ok (.bipush 11, 2) := by decide +kernel
theorem dX12_thing_144 : decode cX12_thing 144 = .ok (.invokevirtual 457, 3) := by decide +kernel
theorem dX12_thing_147 : decode cX12_thing 147 = .ok (.goto 23, 3) := by decide +kernel
theorem dX12_thing_150 : decode cX12_thing 150 = .ok (.aload_n 0, 1) := by decide +kernel
theorem dX12_thing_151 : decode cX12_thing 151 = .ok (.iload_n 1, 1) := by decide +kernel
theorem dX12_thing_152 : decode cX12_thing 152 = .ok (.bipush 22, 2) := by decide +kernel
theorem dX12_thing_154 : decode cX12_thing 154 = .ok (.sipush 304, 3) := by decide +kernel
theorem dX12_thing_157 : decode cX12_thing 157 = .ok (.bipush 12, 2) := by decide +kernel
theorem dX12_thing_159 : decode cX12_thing 159 = .ok (.invokevirtual 457, 3) := by decide +kernel
theorem dX12_thing_162 : decode cX12_thing 162 = .ok (.goto 8, 3) := by decide +kernel
theorem dX12_thing_165 : decode cX12_thing 165 = .ok (.aload_n 0, 1) := by decide +kernel
theorem dX12_thing_166 : decode cX12_thing 166 = .ok (.iload_n 1, 1) := by decide +kernel
theorem dX12_thing_167 : decode cX12_thing 167 = .ok (.invokevirtual 461, 3) := by decide +kernel
theorem dX12_thing_170 : decode cX12_thing 170 = .ok (.return_, 1) := by decide +kernel
theorem dX12_sums_0 : decode cX12_sums 0 = .ok (.aload_n 0, 1) := by decide +kernel
theorem dX12_sums_1 : decode cX12_sums 1 = .ok (.getfield 177, 3) := by decide +kernel
theorem dX12_sums_4 : decode cX12_sums 4 = .ok (.iload_n 1, 1) := by decide +kernel
theorem dX12_sums_5 : decode cX12_sums 5 = .ok (.iaload, 1) := by decide +kernel
theorem dX12_sums_6 : decode cX12_sums 6 = .ok (.ifCond .ne 10, 3) := by decide +kernel
theorem dX12_sums_9 : decode cX12_sums 9 = .ok (.aload_n 0, 1) := by decide +kernel
theorem dX12_sums_10 : decode cX12_sums 10 = .ok (.iconst 1, 1) := by decide +kernel
theorem dX12_sums_11 : decode cX12_sums 11 = .ok (.iload_n 2, 1) := by decide +kernel
theorem dX12_sums_12 : decode cX12_sums 12 = .ok (.invokevirtual 393, 3) := by decide +kernel
theorem dX12_sums_15 : decode cX12_sums 15 = .ok (.return_, 1) := by decide +kernel
theorem dX12_sums_16 : decode cX12_sums 16 = .ok (.aload_n 0, 1) := by decide +kernel
theorem dX12_sums_17 : decode cX12_sums 17 = .ok (.getfield 177, 3) := by decide +kernel
theorem dX12_sums_20 : decode cX12_sums 20 = .ok (.iload_n 1, 1) := by decide +kernel
theorem dX12_sums_21 : decode cX12_sums 21 = .ok (.iaload, 1) := by decide +kernel
theorem dX12_sums_22 : decode cX12_sums 22 = .ok (.iconst 2, 1) := by decide +kernel
theorem dX12_sums_23 : decode cX12_sums 23 = .ok (.if_icmp .ne 16, 3) := by decide +kernel
theorem dX12_sums_26 : decode cX12_sums 26 = .ok (.aload_n 0, 1) := by decide +kernel
theorem dX12_sums_27 : decode cX12_sums 27 = .ok (.bipush 8, 2) := by decide +kernel
theorem dX12_sums_29 : decode cX12_sums 29 = .ok (.aload_n 0, 1) := by decide +kernel
theorem dX12_sums_30 : decode cX12_sums 30 = .ok (.getfield 180, 3) := by decide +kernel
theorem dX12_sums_33 : decode cX12_sums 33 = .ok (.iload_n 1, 1) := by decide +kernel
theorem dX12_sums_34 : decode cX12_sums 34 = .ok (.iaload, 1) := by decide +kernel
theorem dX12_sums_35 : decode cX12_sums 35 = .ok (.invokevirtual 464, 3) := by decide +kernel
theorem dX12_sums_38 : decode cX12_sums 38 = .ok (.pop, 1) := by decide +kernel
theorem dX12_sums_39 : decode cX12_sums 39 = .ok (.iload_n 3, 1) := by decide +kernel
theorem dX12_sums_40 : decode cX12_sums 40 = .ok (.ifCond .eq 26, 3) := by decide +kernel
theorem dX12_sums_43 : decode cX12_sums 43 = .ok (.aload_n 0, 1) := by decide +kernel
theorem dX12_sums_44 : decode cX12_sums 44 = .ok (.getfield 180, 3) := by decide +kernel
theorem dX12_sums_47 : decode cX12_sums 47 = .ok (.iload_n 1, 1) := by decide +kernel
theorem dX12_sums_48 : decode cX12_sums 48 = .ok (.aload_n 0, 1) := by decide +kernel
theorem dX12_sums_49 : decode cX12_sums 49 = .ok (.getfield 307, 3) := by decide +kernel
theorem dX12_sums_52 : decode cX12_sums 52 = .ok (.iastore, 1) := by decide +kernel
theorem dX12_sums_53 : decode cX12_sums 53 = .ok (.aload_n 0, 1) := by decide +kernel
theorem dX12_sums_54 : decode cX12_sums 54 = .ok (.invokevirtual 345, 3) := by decide +kernel
theorem dX12_sums_57 : decode cX12_sums 57 = .ok (.aload_n 0, 1) := by decide +kernel
theorem dX12_sums_58 : decode cX12_sums 58 = .ok (.iconst 2, 1) := by decide +kernel
theorem dX12_sums_59 : decode cX12_sums 59 = .ok (.iload_n 2, 1) := by decide +kernel
theorem dX12_sums_60 : decode cX12_sums 60 = .ok (.invokevirtual 393, 3) := by decide +kernel
theorem dX12_sums_63 : decode cX12_sums 63 = .ok (.goto 13, 3) := by decide +kernel
theorem dX12_sums_66 : decode cX12_sums 66 = .ok (.aload_n 0, 1) := by decide +kernel
theorem dX12_sums_67 : decode cX12_sums 67 = .ok (.dup, 1) := by decide +kernel
theorem dX12_sums_68 : decode cX12_sums 68 = .ok (.getfield 387, 3) := by decide +kernel
theorem dX12_sums_71 : decode cX12_sums 71 = .ok (.iconst 1, 1) := by decide +kernel
theorem dX12_sums_72 : decode cX12_sums 72 = .ok (.isub, 1) := by decide +kernel
theorem dX12_sums_73 : decode cX12_sums 73 = .ok (.putfield 387, 3) := by decide +kernel
theorem dX12_sums_76 : decode cX12_sums 76 = .ok (.return_, 1) := by decide +kernel
theorem dX12_both_0 : decode cX12_both 0 = .ok (.aload_n 0, 1) := by decide +kernel
theorem dX12_both_1 : decode cX12_both 1 = .ok (.getfield 177, 3) := by decide +kernel
theorem dX12_both_4 : decode cX12_both 4 = .ok (.iload_n 1, 1) := by decide +kernel
theorem dX12_both_5 : decode cX12_both 5 = .ok (.iaload, 1) := by decide +kernel
theorem dX12_both_6 : decode cX12_both 6 = .ok (.ifCond .ne 10, 3) := by decide +kernel
theorem dX12_both_9 : decode cX12_both 9 = .ok (.aload_n 0, 1) := by decide +kernel
theorem dX12_both_10 : decode cX12_both 10 = .ok (.iconst 1, 1) := by decide +kernel
theorem dX12_both_11 : decode cX12_both 11 = .ok (.iload_n 2, 1) := by decide +kernel
theorem dX12_both_12 : decode cX12_both 12 = .ok (.invokevirtual 393, 3) := by decide +kernel
theorem dX12_both_15 : decode cX12_both 15 = .ok (.return_, 1) := by decide +kernel
theorem dX12_both_16 : decode cX12_both 16 = .ok (.aload_n 0, 1) := by decide +kernel
theorem dX12_both_17 : decode cX12_both 17 = .ok (.getfield 177, 3) := by decide +kernel
theorem dX12_both_20 : decode cX12_both 20 = .ok (.iload_n 1, 1) := by decide +kernel
theorem dX12_both_21 : decode cX12_both 21 = .ok (.iaload, 1) := by decide +kernel
theorem dX12_both_22 : decode cX12_both 22 = .ok (.iconst 2, 1) := by decide +kernel
theorem dX12_both_23 : decode cX12_both 23 = .ok (.if_icmp .ne 18, 3) := by decide +kernel
theorem dX12_both_26 : decode cX12_both 26 = .ok (.aload_n 0, 1) := by decide +kernel
theorem dX12_both_27 : decode cX12_both 27 = .ok (.getfield 87, 3) := by decide +kernel
theorem dX12_both_30 : decode cX12_both 30 = .ok (.aload_n 0, 1) := by decide +kernel
theorem dX12_both_31 : decode cX12_both 31 = .ok (.getfield 180, 3) := by decide +kernel
theorem dX12_both_34 : decode cX12_both 34 = .ok (.iload_n 1, 1) := by decide +kernel
theorem dX12_both_35 : decode cX12_both 35 = .ok (.iaload, 1) := by decide +kernel
theorem dX12_both_36 : decode cX12_both 36 = .ok (.aload_n 0, 1) := by decide +kernel
theorem dX12_both_37 : decode cX12_both 37 = .ok (.getfield 358, 3) := by decide +kernel
theorem dX12_both_40 : decode cX12_both 40 = .ok (.iastore, 1) := by decide +kernel
theorem dX12_both_41 : decode cX12_both 41 = .ok (.aload_n 0, 1) := by decide +kernel
theorem dX12_both_42 : decode cX12_both 42 = .ok (.getfield 307, 3) := by decide +kernel
theorem dX12_both_45 : decode cX12_both 45 = .ok (.iload_n 3, 1) := by decide +kernel
theorem dX12_both_46 : decode cX12_both 46 = .ok (.if_icmp .ne 29, 3) := by decide +kernel
theorem dX12_both_49 : decode cX12_both 49 = .ok (.aload_n 0, 1) := by decide +kernel
theorem dX12_both_50 : decode cX12_both 50 = .ok (.invokevirtual 345, 3) := by decide +kernel
theorem dX12_both_53 : decode cX12_both 53 = .ok (.aload_n 0, 1) := by decide +kernel
theorem dX12_both_54 : decode cX12_both 54 = .ok (.getfield 180, 3) := by decide +kernel
theorem dX12_both_57 : decode cX12_both 57 = .ok (.iload_n 1, 1) := by decide +kernel
theorem dX12_both_58 : decode cX12_both 58 = .ok (.aload_n 0, 1) := by decide +kernel
theorem dX12_both_59 : decode cX12_both 59 = .ok (.iload 4, 2) := by decide +kernel
theorem dX12_both_61 : decode cX12_both 61 = .ok (.iconst 0, 1) := by decide +kernel
theorem dX12_both_62 : decode cX12_both 62 = .ok (.invokevirtual 464, 3) := by decide +kernel
theorem dX12_both_65 : decode cX12_both 65 = .ok (.iastore, 1) := by decide +kernel
theorem dX12_both_66 : decode cX12_both 66 = .ok (.aload_n 0, 1) := by decide +kernel
theorem dX12_both_67 : decode cX12_both 67 = .ok (.iconst 2, 1) := by decide +kernel
theorem dX12_both_68 : decode cX12_both 68 = .ok (.iload_n 2, 1) := by decide +kernel
theorem dX12_both_69 : decode cX12_both 69 = .ok (.invokevirtual 393, 3) := by decide +kernel
theorem dX12_both_72 : decode cX12_both 72 = .ok (.goto 13, 3) := by decide +kernel
theorem dX12_both_75 : decode cX12_both 75 = .ok (.aload_n 0, 1) := by decide +kernel
theorem dX12_both_76 : decode cX12_both 76 = .ok (.dup, 1) := by decide +kernel
theorem dX12_both_77 : decode cX12_both 77 = .ok (.getfield 387, 3) := by decide +kernel
theorem dX12_both_80 : decode cX12_both 80 = .ok (.iconst 1, 1) := by decide +kernel
theorem dX12_both_81 : decode cX12_both 81 = .ok (.isub, 1) := by decide +kernel
theorem dX12_both_82 : decode cX12_both 82 = .ok (.putfield 387, 3) := by decide +kernel
theorem dX12_both_85 : decode cX12_both 85 = .ok (.return_, 1) := by decide +kernel
theorem dX12_factor_0 : decode cX12_factor 0 = .ok (.aload_n 0, 1) := by decide +kernel
theorem dX12_factor_1 : decode cX12_factor 1 = .ok (.getfield 177, 3) := by decide +kernel
theorem dX12_factor_4 : decode cX12_factor 4 = .ok (.iload_n 1, 1) := by decide +kernel
theorem dX12_factor_5 : decode cX12_factor 5 = .ok (.iaload, 1) := by decide +kernel
theorem dX12_factor_6 : decode cX12_factor 6 = .ok (.iconst 1, 1) := by decide +kernel
theorem dX12_factor_7 : decode cX12_factor 7 = .ok (.if_icmp .ne 32, 3) := by decide +kernel
theorem dX12_factor_10 : decode cX12_factor 10 = .ok (.aload_n 0, 1) := by decide +kernel
theorem dX12_factor_11 : decode cX12_factor 11 = .ok (.dup, 1) := by decide +kernel
theorem dX12_factor_12 : decode cX12_factor 12 = .ok (.getfield 348, 3) := by decide +kernel
theorem dX12_factor_15 : decode cX12_factor 15 = .ok (.iconst 1, 1) := by decide +kernel
theorem dX12_factor_16 : decode cX12_factor 16 = .ok (.isub, 1) := by decide +kernel
theorem dX12_factor_17 : decode cX12_factor 17 = .ok (.putfield 348, 3) := by decide +kernel
theorem dX12_factor_20 : decode cX12_factor 20 = .ok (.aload_n 0, 1) := by decide +kernel
theorem dX12_factor_21 : decode cX12_factor 21 = .ok (.bipush 7, 2) := by decide +kernel
theorem dX12_factor_23 : decode cX12_factor 23 = .ok (.iconst 0, 1) := by decide +kernel
theorem dX12_factor_24 : decode cX12_factor 24 = .ok (.invokevirtual 464, 3) := by decide +kernel
theorem dX12_factor_27 : decode cX12_factor 27 = .ok (.pop, 1) := by decide +kernel
theorem dX12_factor_28 : decode cX12_factor 28 = .ok (.aload_n 0, 1) := by decide +kernel
theorem dX12_factor_29 : decode cX12_factor 29 = .ok (.dup, 1) := by decide +kernel
theorem dX12_factor_30 : decode cX12_factor 30 = .ok (.getfield 387, 3) := by decide +kernel
theorem dX12_factor_33 : decode cX12_factor 33 = .ok (.iconst 1, 1) := by decide +kernel
theorem dX12_factor_34 : decode cX12_factor 34 = .ok (.isub, 1) := by decide +kernel
theorem dX12_factor_35 : decode cX12_factor 35 = .ok (.putfield 387, 3) := by decide +kernel
theorem dX12_factor_38 : decode cX12_factor 38 = .ok (.return_, 1) := by decide +kernel
theorem dX12_factor_39 : decode cX12_factor 39 = .ok (.aload_n 0, 1) := by decide +kernel
theorem dX12_factor_40 : decode cX12_factor 40 = .ok (.getfield 177, 3) := by decide +kernel
theorem dX12_factor_43 : decode cX12_factor 43 = .ok (.iload_n 1, 1) := by decide +kernel
theorem dX12_factor_44 : decode cX12_factor 44 = .ok (.iaload, 1) := by decide +kernel
theorem dX12_factor_45 : decode cX12_factor 45 = .ok (.iconst 2, 1) := by decide +kernel
theorem dX12_factor_46 : decode cX12_factor 46 = .ok (.if_icmp .ne 21, 3) := by decide +kernel
theorem dX12_factor_49 : decode cX12_factor 49 = .ok (.aload_n 0, 1) := by decide +kernel
theorem dX12_factor_50 : decode cX12_factor 50 = .ok (.bipush 41, 2) := by decide +kernel
theorem dX12_factor_52 : decode cX12_factor 52 = .ok (.invokevirtual 468, 3) := by decide +kernel
theorem dX12_factor_55 : decode cX12_factor 55 = .ok (.pop, 1) := by decide +kernel
theorem dX12_factor_56 : decode cX12_factor 56 = .ok (.aload_n 0, 1) := by decide +kernel
theorem dX12_factor_57 : decode cX12_factor 57 = .ok (.dup, 1) := by decide +kernel
theorem dX12_factor_58 : decode cX12_factor 58 = .ok (.getfield 387, 3) := by decide +kernel
theorem dX12_factor_61 : decode cX12_factor 61 = .ok (.iconst 1, 1) := by decide +kernel
theorem dX12_factor_62 : decode cX12_factor 62 = .ok (.isub, 1) := by decide +kernel
theorem dX12_factor_63 : decode cX12_factor 63 = .ok (.putfield 387, 3) := by decide +kernel
theorem dX12_factor_66 : decode cX12_factor 66 = .ok (.return_, 1) := by decide +kernel
theorem dX12_factor_67 : decode cX12_factor 67 = .ok (.aload_n 0, 1) := by decide +kernel
theorem dX12_factor_68 : decode cX12_factor 68 = .ok (.aload_n 0, 1) := by decide +kernel
theorem dX12_factor_69 : decode cX12_factor 69 = .ok (.getfield 307, 3) := by decide +kernel
theorem dX12_factor_72 : decode cX12_factor 72 = .ok (.iconst 1, 1) := by decide +kernel
theorem dX12_factor_73 : decode cX12_factor 73 = .ok (.if_icmp .eq 39, 3) := by decide +kernel
theorem dX12_factor_76 : decode cX12_factor 76 = .ok (.aload_n 0, 1) := by decide +kernel
theorem dX12_factor_77 : decode cX12_factor 77 = .ok (.getfield 307, 3) := by decide +kernel
theorem dX12_factor_80 : decode cX12_factor 80 = .ok (.iconst 2, 1) := by decide +kernel
theorem dX12_factor_81 : decode cX12_factor 81 = .ok (.if_icmp .eq 31, 3) := by decide +kernel
theorem dX12_factor_84 : decode cX12_factor 84 = .ok (.aload_n 0, 1) := by decide +kernel
theorem dX12_factor_85 : decode cX12_factor 85 = .ok (.getfield 307, 3) := by decide +kernel
theorem dX12_factor_88 : decode cX12_factor 88 = .ok (.bipush 45, 2) := by decide +kernel
theorem dX12_factor_90 : decode cX12_factor 90 = .ok (.if_icmp .eq 22, 3) := by decide +kernel
theorem dX12_factor_93 : decode cX12_factor 93 = .ok (.aload_n 0, 1) := by decide +kernel
theorem dX12_factor_94 : decode cX12_factor 94 = .ok (.getfield 307, 3) := by decide +kernel
theorem dX12_factor_97 : decode cX12_factor 97 = .ok (.bipush 40, 2) := by decide +kernel
theorem dX12_factor_99 : decode cX12_factor 99 = .ok (.if_icmp .eq 13, 3) := by decide +kernel
theorem dX12_factor_102 : decode cX12_factor 102 = .ok (.aload_n 0, 1) := by decide +kernel
theorem dX12_factor_103 : decode cX12_factor 103 = .ok (.getfield 307, 3) := by decide +kernel
theorem dX12_factor_106 : decode cX12_factor 106 = .ok (.sipush 428, 3) := by decide +kernel
theorem dX12_factor_109 : decode cX12_factor 109 = .ok (.if_icmp .ne 7, 3) := by decide +kernel
theorem dX12_factor_112 : decode cX12_factor 112 = .ok (.iconst 1, 1) := by decide +kernel
theorem dX12_factor_113 : decode cX12_factor 113 = .ok (.goto 4, 3) := by decide +kernel
theorem dX12_factor_116 : decode cX12_factor 116 = .ok (.iconst 0, 1) := by decide +kernel
theorem dX12_factor_117 : decode cX12_factor 117 = .ok (.invokevirtual 341, 3) := by decide +kernel
theorem dX12_factor_120 : decode cX12_factor 120 = .ok (.ifCond .ne 4, 3) := by decide +kernel
theorem dX12_factor_123 : decode cX12_factor 123 = .ok (.return_, 1) := by decide +kernel
theorem dX12_factor_124 : decode cX12_factor 124 = .ok (.aload_n 0, 1) := by decide +kernel
theorem dX12_factor_125 : decode cX12_factor 125 = .ok (.getfield 307, 3) := by decide +kernel
theorem dX12_factor_128 : decode cX12_factor 128 = .ok (.iconst 1, 1) := by decide +kernel
theorem dX12_factor_129 : decode cX12_factor 129 = .ok (.if_icmp .ne 30, 3) := by decide +kernel
theorem dX12_factor_132 : decode cX12_factor 132 = .ok (.aload_n 0, 1) := by decide +kernel
theorem dX12_factor_133 : decode cX12_factor 133 = .ok (.iconst 2, 1) := by decide +kernel
theorem dX12_factor_134 : decode cX12_factor 134 = .ok (.aload_n 0, 1) := by decide +kernel
theorem dX12_factor_135 : decode cX12_factor 135 = .ok (.getfield 314, 3) := by decide +kernel
theorem dX12_factor_138 : decode cX12_factor 138 = .ok (.invokevirtual 464, 3) := by decide +kernel
theorem dX12_factor_141 : decode cX12_factor 141 = .ok (.pop, 1) := by decide +kernel
theorem dX12_factor_142 : decode cX12_factor 142 = .ok (.aload_n 0, 1) := by decide +kernel
theorem dX12_factor_143 : decode cX12_factor 143 = .ok (.invokevirtual 345, 3) := by decide +kernel
theorem dX12_factor_146 : decode cX12_factor 146 = .ok (.aload_n 0, 1) := by decide +kernel
theorem dX12_factor_147 : decode cX12_factor 147 = .ok (.dup, 1) := by decide +kernel
theorem dX12_factor_148 : decode cX12_factor 148 = .ok (.getfield 387, 3) := by decide +kernel
theorem dX12_factor_151 : decode cX12_factor 151 = .ok (.iconst 1, 1) := by decide +kernel
theorem dX12_factor_152 : decode cX12_factor 152 = .ok (.isub, 1) := by decide +kernel
theorem dX12_factor_153 : decode cX12_factor 153 = .ok (.putfield 387, 3) := by decide +kernel
theorem dX12_factor_156 : decode cX12_factor 156 = .ok (.goto 140, 3) := by decide +kernel
theorem dX12_factor_159 : decode cX12_factor 159 = .ok (.aload_n 0, 1) := by decide +kernel
theorem dX12_factor_160 : decode cX12_factor 160 = .ok (.getfield 307, 3) := by decide +kernel
theorem dX12_factor_163 : decode cX12_factor 163 = .ok (.iconst 2, 1) := by decide +kernel
theorem dX12_factor_164 : decode cX12_factor 164 = .ok (.if_icmp .ne 68, 3) := by decide +kernel
theorem dX12_factor_167 : decode cX12_factor 167 = .ok (.aload_n 0, 1) := by decide +kernel
theorem dX12_factor_168 : decode cX12_factor 168 = .ok (.aload_n 0, 1) := by decide +kernel
theorem dX12_factor_169 : decode cX12_factor 169 = .ok (.getfield 327, 3) := by decide +kernel
theorem dX12_factor_172 : decode cX12_factor 172 = .ok (.invokevirtual 471, 3) := by decide +kernel
theorem dX12_factor_175 : decode cX12_factor 175 = .ok (.istore_n 2, 1) := by decide +kernel
theorem dX12_factor_176 : decode cX12_factor 176 = .ok (.iload_n 2, 1) := by decide +kernel
theorem dX12_factor_177 : decode cX12_factor 177 = .ok (.ifCond .ge 13, 3) := by decide +kernel
theorem dX12_factor_180 : decode cX12_factor 180 = .ok (.aload_n 0, 1) := by decide +kernel
theorem dX12_factor_181 : decode cX12_factor 181 = .ok (.iconst 3, 1) := by decide +kernel
theorem dX12_factor_182 : decode cX12_factor 182 = .ok (.aload_n 0, 1) := by decide +kernel
theorem dX12_factor_183 : decode cX12_factor 183 = .ok (.getfield 304, 3) := by decide +kernel
theorem dX12_factor_186 : decode cX12_factor 186 = .ok (.invokevirtual 337, 3) := by decide +kernel
theorem dX12_factor_189 : decode cX12_factor 189 = .ok (.return_, 1) := by decide +kernel
theorem dX12_factor_190 : decode cX12_factor 190 = .ok (.aload_n 0, 1) := by decide +kernel
theorem dX12_factor_191 : decode cX12_factor 191 = .ok (.aload_n 0, 1) := by decide +kernel
theorem dX12_factor_192 : decode cX12_factor 192 = .ok (.getfield 132, 3) := by decide +kernel
theorem dX12_factor_195 : decode cX12_factor 195 = .ok (.iload_n 2, 1) := by decide +kernel
theorem dX12_factor_196 : decode cX12_factor 196 = .ok (.baload, 1) := by decide +kernel
theorem dX12_factor_197 : decode cX12_factor 197 = .ok (.ifCond .eq 7, 3) := by decide +kernel
theorem dX12_factor_200 : decode cX12_factor 200 = .ok (.iconst 4, 1) := by decide +kernel
theorem dX12_factor_201 : decode cX12_factor 201 = .ok (.goto 4, 3) := by decide +kernel
theorem dX12_factor_204 : decode cX12_factor 204 = .ok (.iconst 3, 1) := by decide +kernel
theorem dX12_factor_205 : decode cX12_factor 205 = .ok (.aload_n 0, 1) := by decide +kernel
theorem dX12_factor_206 : decode cX12_factor 206 = .ok (.getfield 129, 3) := by decide +kernel
theorem dX12_factor_209 : decode cX12_factor 209 = .ok (.iload_n 2, 1) := by decide +kernel
theorem dX12_factor_210 : decode cX12_factor 210 = .ok (.iaload, 1) := by decide +kernel
theorem dX12_factor_211 : decode cX12_factor 211 = .ok (.invokevirtual 464, 3) := by decide +kernel
theorem dX12_factor_214 : decode cX12_factor 214 = .ok (.pop, 1) := by decide +kernel
theorem dX12_factor_215 : decode cX12_factor 215 = .ok (.aload_n 0, 1) := by decide +kernel
theorem dX12_factor_216 : decode cX12_factor 216 = .ok (.invokevirtual 345, 3) := by decide +kernel
theorem dX12_factor_219 : decode cX12_factor 219 = .ok (.aload_n 0, 1) := by decide +kernel
theorem dX12_factor_220 : decode cX12_factor 220 = .ok (.dup, 1) := by decide +kernel
theorem dX12_factor_221 : decode cX12_factor 221 = .ok (.getfield 387, 3) := by decide +kernel
theorem dX12_factor_224 : decode cX12_factor 224 = .ok (.iconst 1, 1) := by decide +kernel
theorem dX12_factor_225 : decode cX12_factor 225 = .ok (.isub, 1) := by decide +kernel
theorem dX12_factor_226 : decode cX12_factor 226 = .ok (.putfield 387, 3) := by decide +kernel
theorem dX12_factor_229 : decode cX12_factor 229 = .ok (.goto 67, 3) := by decide +kernel
theorem dX12_factor_232 : decode cX12_factor 232 = .ok (.aload_n 0, 1) := by decide +kernel
theorem dX12_factor_233 : decode cX12_factor 233 = .ok (.getfield 307, 3) := by decide +kernel
theorem dX12_factor_236 : decode cX12_factor 236 = .ok (.bipush 45, 2) := by decide +kernel
theorem dX12_factor_238 : decode cX12_factor 238 = .ok (.if_icmp .ne 24, 3) := by decide +kernel
theorem dX12_factor_241 : decode cX12_factor 241 = .ok (.aload_n 0, 1) := by decide +kernel
theorem dX12_factor_242 : decode cX12_factor 242 = .ok (.invokevirtual 351, 3) := by decide +kernel
theorem dX12_factor_245 : decode cX12_factor 245 = .ok (.ifCond .eq 51, 3) := by decide +kernel
theorem dX12_factor_248 : decode cX12_factor 248 = .ok (.aload_n 0, 1) := by decide +kernel
theorem dX12_factor_249 : decode cX12_factor 249 = .ok (.invokevirtual 345, 3) := by decide +kernel
theorem dX12_factor_252 : decode cX12_factor 252 = .ok (.aload_n 0, 1) := by decide +kernel
theorem dX12_factor_253 : decode cX12_factor 253 = .ok (.iconst 1, 1) := by decide +kernel
theorem dX12_factor_254 : decode cX12_factor 254 = .ok (.bipush 18, 2) := by decide +kernel
theorem dX12_factor_256 : decode cX12_factor 256 = .ok (.invokevirtual 393, 3) := by decide +kernel
theorem dX12_factor_259 : decode cX12_factor 259 = .ok (.goto 37, 3) := by decide +kernel
theorem dX12_factor_262 : decode cX12_factor 262 = .ok (.aload_n 0, 1) := by decide +kernel
theorem dX12_factor_263 : decode cX12_factor 263 = .ok (.getfield 307, 3) := by decide +kernel
theorem dX12_factor_266 : decode cX12_factor 266 = .ok (.bipush 40, 2) := by decide +kernel
theorem dX12_factor_268 : decode cX12_factor 268 = .ok (.if_icmp .ne 20, 3) := by decide +kernel
theorem dX12_factor_271 : decode cX12_factor 271 = .ok (.aload_n 0, 1) := by decide +kernel
theorem dX12_factor_272 : decode cX12_factor 272 = .ok (.bipush 40, 2) := by decide +kernel
theorem dX12_factor_274 : decode cX12_factor 274 = .ok (.invokevirtual 475, 3) := by decide +kernel
theorem dX12_factor_277 : decode cX12_factor 277 = .ok (.pop, 1) := by decide +kernel
theorem dX12_factor_278 : decode cX12_factor 278 = .ok (.aload_n 0, 1) := by decide +kernel
theorem dX12_factor_279 : decode cX12_factor 279 = .ok (.iconst 2, 1) := by decide +kernel
theorem dX12_factor_280 : decode cX12_factor 280 = .ok (.bipush 16, 2) := by decide +kernel
theorem dX12_factor_282 : decode cX12_factor 282 = .ok (.invokevirtual 393, 3) := by decide +kernel
theorem dX12_factor_285 : decode cX12_factor 285 = .ok (.goto 11, 3) := by decide +kernel
theorem dX12_factor_288 : decode cX12_factor 288 = .ok (.aload_n 0, 1) := by decide +kernel
theorem dX12_factor_289 : decode cX12_factor 289 = .ok (.getfield 174, 3) := by decide +kernel
theorem dX12_factor_292 : decode cX12_factor 292 = .ok (.iload_n 1, 1) := by decide +kernel
theorem dX12_factor_293 : decode cX12_factor 293 = .ok (.bipush 19, 2) := by decide +kernel
theorem dX12_factor_295 : decode cX12_factor 295 = .ok (.iastore, 1) := by decide +kernel
theorem dX12_factor_296 : decode cX12_factor 296 = .ok (.return_, 1) := by decide +kernel
theorem dX12_one_0 : decode cX12_one 0 = .ok (.aload_n 0, 1) := by decide +kernel
theorem dX12_one_1 : decode cX12_one 1 = .ok (.getfield 177, 3) := by decide +kernel
theorem dX12_one_4 : decode cX12_one 4 = .ok (.iload_n 1, 1) := by decide +kernel
theorem dX12_one_5 : decode cX12_one 5 = .ok (.iaload, 1) := by decide +kernel
theorem dX12_one_6 : decode cX12_one 6 = .ok (.tableswitch 299 0 3 #[30, 154, 185, 205], 30) := by decide +kernel
theorem dX12_one_36 : decode cX12_one 36 = .ok (.aload_n 0, 1) := by decide +kernel
theorem dX12_one_37 : decode cX12_one 37 = .ok (.getfield 307, 3) := by decide +kernel
theorem dX12_one_40 : decode cX12_one 40 = .ok (.bipush 33, 2) := by decide +kernel
theorem dX12_one_42 : decode cX12_one 42 = .ok (.if_icmp .ne 24, 3) := by decide +kernel
theorem dX12_one_45 : decode cX12_one 45 = .ok (.aload_n 0, 1) := by decide +kernel
theorem dX12_one_46 : decode cX12_one 46 = .ok (.invokevirtual 351, 3) := by decide +kernel
theorem dX12_one_49 : decode cX12_one 49 = .ok (.ifCond .eq 279, 3) := by decide +kernel
theorem dX12_one_52 : decode cX12_one 52 = .ok (.aload_n 0, 1) := by decide +kernel
theorem dX12_one_53 : decode cX12_one 53 = .ok (.invokevirtual 345, 3) := by decide +kernel
theorem dX12_one_56 : decode cX12_one 56 = .ok (.aload_n 0, 1) := by decide +kernel
theorem dX12_one_57 : decode cX12_one 57 = .ok (.iconst 1, 1) := by decide +kernel
theorem dX12_one_58 : decode cX12_one 58 = .ok (.bipush 22, 2) := by decide +kernel
theorem dX12_one_60 : decode cX12_one 60 = .ok (.invokevirtual 393, 3) := by decide +kernel
theorem dX12_one_63 : decode cX12_one 63 = .ok (.goto 265, 3) := by decide +kernel
theorem dX12_one_66 : decode cX12_one 66 = .ok (.aload_n 0, 1) := by decide +kernel
theorem dX12_one_67 : decode cX12_one 67 = .ok (.getfield 307, 3) := by decide +kernel
theorem dX12_one_70 : decode cX12_one 70 = .ok (.bipush 91, 2) := by decide +kernel
theorem dX12_one_72 : decode cX12_one 72 = .ok (.if_icmp .ne 20, 3) := by decide +kernel
theorem dX12_one_75 : decode cX12_one 75 = .ok (.aload_n 0, 1) := by decide +kernel
theorem dX12_one_76 : decode cX12_one 76 = .ok (.bipush 91, 2) := by decide +kernel
theorem dX12_one_78 : decode cX12_one 78 = .ok (.invokevirtual 475, 3) := by decide +kernel
theorem dX12_one_81 : decode cX12_one 81 = .ok (.pop, 1) := by decide +kernel
theorem dX12_one_82 : decode cX12_one 82 = .ok (.aload_n 0, 1) := by decide +kernel
theorem dX12_one_83 : decode cX12_one 83 = .ok (.iconst 2, 1) := by decide +kernel
theorem dX12_one_84 : decode cX12_one 84 = .ok (.bipush 20, 2) := by decide +kernel
theorem dX12_one_86 : decode cX12_one 86 = .ok (.invokevirtual 393, 3) := by decide +kernel
theorem dX12_one_89 : decode cX12_one 89 = .ok (.goto 239, 3) := by decide +kernel
theorem dX12_one_92 : decode cX12_one 92 = .ok (.aload_n 0, 1) := by decide +kernel
theorem dX12_one_93 : decode cX12_one 93 = .ok (.getfield 307, 3) := by decide +kernel
theorem dX12_one_96 : decode cX12_one 96 = .ok (.sipush 432, 3) := by decide +kernel
theorem dX12_one_99 : decode cX12_one 99 = .ok (.if_icmp .eq 13, 3) := by decide +kernel
theorem dX12_one_102 : decode cX12_one 102 = .ok (.aload_n 0, 1) := by decide +kernel
theorem dX12_one_103 : decode cX12_one 103 = .ok (.getfield 307, 3) := by decide +kernel
theorem dX12_one_106 : decode cX12_one 106 = .ok (.sipush 433, 3) := by decide +kernel
theorem dX12_one_109 : decode cX12_one 109 = .ok (.if_icmp .ne 41, 3) := by decide +kernel
theorem dX12_one_112 : decode cX12_one 112 = .ok (.aload_n 0, 1) := by decide +kernel
theorem dX12_one_113 : decode cX12_one 113 = .ok (.iconst 2, 1) := by decide +kernel
theorem dX12_one_114 : decode cX12_one 114 = .ok (.aload_n 0, 1) := by decide +kernel
theorem dX12_one_115 : decode cX12_one 115 = .ok (.getfield 307, 3) := by decide +kernel
theorem dX12_one_118 : decode cX12_one 118 = .ok (.sipush 432, 3) := by decide +kernel
theorem dX12_one_121 : decode cX12_one 121 = .ok (.if_icmp .ne 7, 3) := by decide +kernel
theorem dX12_one_124 : decode cX12_one 124 = .ok (.iconst 1, 1) := by decide +kernel
theorem dX12_one_125 : decode cX12_one 125 = .ok (.goto 4, 3) := by decide +kernel
theorem dX12_one_128 : decode cX12_one 128 = .ok (.iconst 0, 1) := by decide +kernel
theorem dX12_one_129 : decode cX12_one 129 = .ok (.invokevirtual 464, 3) := by decide +kernel
theorem dX12_one_132 : decode cX12_one 132 = .ok (.pop, 1) := by decide +kernel
theorem dX12_one_133 : decode cX12_one 133 = .ok (.aload_n 0, 1) := by decide +kernel
theorem dX12_one_134 : decode cX12_one 134 = .ok (.invokevirtual 345, 3) := by decide +kernel
theorem dX12_one_137 : decode cX12_one 137 = .ok (.aload_n 0, 1) := by decide +kernel
theorem dX12_one_138 : decode cX12_one 138 = .ok (.dup, 1) := by decide +kernel
theorem dX12_one_139 : decode cX12_one 139 = .ok (.getfield 387, 3) := by decide +kernel
theorem dX12_one_142 : decode cX12_one 142 = .ok (.iconst 1, 1) := by decide +kernel
theorem dX12_one_143 : decode cX12_one 143 = .ok (.isub, 1) := by decide +kernel
theorem dX12_one_144 : decode cX12_one 144 = .ok (.putfield 387, 3) := by decide +kernel
theorem dX12_one_147 : decode cX12_one 147 = .ok (.goto 181, 3) := by decide +kernel
theorem dX12_one_150 : decode cX12_one 150 = .ok (.aload_n 0, 1) := by decide +kernel
theorem dX12_one_151 : decode cX12_one 151 = .ok (.iconst 3, 1) := by decide +kernel
theorem dX12_one_152 : decode cX12_one 152 = .ok (.bipush 16, 2) := by decide +kernel
theorem dX12_one_154 : decode cX12_one 154 = .ok (.invokevirtual 393, 3) := by decide +kernel
theorem dX12_one_157 : decode cX12_one 157 = .ok (.goto 171, 3) := by decide +kernel
theorem dX12_one_160 : decode cX12_one 160 = .ok (.aload_n 0, 1) := by decide +kernel
theorem dX12_one_161 : decode cX12_one 161 = .ok (.dup, 1) := by decide +kernel
theorem dX12_one_162 : decode cX12_one 162 = .ok (.getfield 348, 3) := by decide +kernel
theorem dX12_one_165 : decode cX12_one 165 = .ok (.iconst 1, 1) := by decide +kernel
theorem dX12_one_166 : decode cX12_one 166 = .ok (.isub, 1) := by decide +kernel
theorem dX12_one_167 : decode cX12_one 167 = .ok (.putfield 348, 3) := by decide +kernel
theorem dX12_one_170 : decode cX12_one 170 = .ok (.aload_n 0, 1) := by decide +kernel
theorem dX12_one_171 : decode cX12_one 171 = .ok (.bipush 10, 2) := by decide +kernel
theorem dX12_one_173 : decode cX12_one 173 = .ok (.iconst 0, 1) := by decide +kernel
theorem dX12_one_174 : decode cX12_one 174 = .ok (.invokevirtual 464, 3) := by decide +kernel
theorem dX12_one_177 : decode cX12_one 177 = .ok (.pop, 1) := by decide +kernel
theorem dX12_one_178 : decode cX12_one 178 = .ok (.aload_n 0, 1) := by decide +kernel
theorem dX12_one_179 : decode cX12_one 179 = .ok (.dup, 1) := by decide +kernel
theorem dX12_one_180 : decode cX12_one 180 = .ok (.getfield 387, 3) := by decide +kernel
theorem dX12_one_183 : decode cX12_one 183 = .ok (.iconst 1, 1) := by decide +kernel
theorem dX12_one_184 : decode cX12_one 184 = .ok (.isub, 1) := by decide +kernel
theorem dX12_one_185 : decode cX12_one 185 = .ok (.putfield 387, 3) := by decide +kernel
theorem dX12_one_188 : decode cX12_one 188 = .ok (.goto 140, 3) := by decide +kernel
theorem dX12_one_191 : decode cX12_one 191 = .ok (.aload_n 0, 1) := by decide +kernel
theorem dX12_one_192 : decode cX12_one 192 = .ok (.bipush 93, 2) := by decide +kernel
theorem dX12_one_194 : decode cX12_one 194 = .ok (.invokevirtual 468, 3) := by decide +kernel
theorem dX12_one_197 : decode cX12_one 197 = .ok (.pop, 1) := by decide +kernel
theorem dX12_one_198 : decode cX12_one 198 = .ok (.aload_n 0, 1) := by decide +kernel
theorem dX12_one_199 : decode cX12_one 199 = .ok (.dup, 1) := by decide +kernel
theorem dX12_one_200 : decode cX12_one 200 = .ok (.getfield 387, 3) := by decide +kernel
theorem dX12_one_203 : decode cX12_one 203 = .ok (.iconst 1, 1) := by decide +kernel
theorem dX12_one_204 : decode cX12_one 204 = .ok (.isub, 1) := by decide +kernel
theorem dX12_one_205 : decode cX12_one 205 = .ok (.putfield 387, 3) := by decide +kernel
theorem dX12_one_208 : decode cX12_one 208 = .ok (.goto 120, 3) := by decide +kernel
theorem dX12_one_211 : decode cX12_one 211 = .ok (.aload_n 0, 1) := by decide +kernel
theorem dX12_one_212 : decode cX12_one 212 = .ok (.aload_n 0, 1) := by decide +kernel
theorem dX12_one_213 : decode cX12_one 213 = .ok (.getfield 307, 3) := by decide +kernel
theorem dX12_one_216 : decode cX12_one 216 = .ok (.bipush 60, 2) := by decide +kernel
theorem dX12_one_218 : decode cX12_one 218 = .ok (.if_icmp .eq 52, 3) := by decide +kernel
theorem dX12_one_221 : decode cX12_one 221 = .ok (.aload_n 0, 1) := by decide +kernel
theorem dX12_one_222 : decode cX12_one 222 = .ok (.getfield 307, 3) := by decide +kernel
theorem dX12_one_225 : decode cX12_one 225 = .ok (.sipush 300, 3) := by decide +kernel
theorem dX12_one_228 : decode cX12_one 228 = .ok (.if_icmp .eq 42, 3) := by decide +kernel
theorem dX12_one_231 : decode cX12_one 231 = .ok (.aload_n 0, 1) := by decide +kernel
theorem dX12_one_232 : decode cX12_one 232 = .ok (.getfield 307, 3) := by decide +kernel
theorem dX12_one_235 : decode cX12_one 235 = .ok (.bipush 62, 2) := by decide +kernel
theorem dX12_one_237 : decode cX12_one 237 = .ok (.if_icmp .eq 33, 3) := by decide +kernel
theorem dX12_one_240 : decode cX12_one 240 = .ok (.aload_n 0, 1) := by decide +kernel
theorem dX12_one_241 : decode cX12_one 241 = .ok (.getfield 307, 3) := by decide +kernel
theorem dX12_one_244 : decode cX12_one 244 = .ok (.sipush 301, 3) := by decide +kernel
theorem dX12_one_247 : decode cX12_one 247 = .ok (.if_icmp .eq 23, 3) := by decide +kernel
theorem dX12_one_250 : decode cX12_one 250 = .ok (.aload_n 0, 1) := by decide +kernel
theorem dX12_one_251 : decode cX12_one 251 = .ok (.getfield 307, 3) := by decide +kernel
theorem dX12_one_254 : decode cX12_one 254 = .ok (.sipush 302, 3) := by decide +kernel
theorem dX12_one_257 : decode cX12_one 257 = .ok (.if_icmp .eq 13, 3) := by decide +kernel
theorem dX12_one_260 : decode cX12_one 260 = .ok (.aload_n 0, 1) := by decide +kernel
theorem dX12_one_261 : decode cX12_one 261 = .ok (.getfield 307, 3) := by decide +kernel
theorem dX12_one_264 : decode cX12_one 264 = .ok (.sipush 303, 3) := by decide +kernel
theorem dX12_one_267 : decode cX12_one 267 = .ok (.if_icmp .ne 7, 3) := by decide +kernel
theorem dX12_one_270 : decode cX12_one 270 = .ok (.iconst 1, 1) := by decide +kernel
theorem dX12_one_271 : decode cX12_one 271 = .ok (.goto 4, 3) := by decide +kernel
theorem dX12_one_274 : decode cX12_one 274 = .ok (.iconst 0, 1) := by decide +kernel
theorem dX12_one_275 : decode cX12_one 275 = .ok (.invokevirtual 341, 3) := by decide +kernel
theorem dX12_one_278 : decode cX12_one 278 = .ok (.ifCond .eq 50, 3) := by decide +kernel
theorem dX12_one_281 : decode cX12_one 281 = .ok (.aload_n 0, 1) := by decide +kernel
theorem dX12_one_282 : decode cX12_one 282 = .ok (.getfield 180, 3) := by decide +kernel
theorem dX12_one_285 : decode cX12_one 285 = .ok (.iload_n 1, 1) := by decide +kernel
theorem dX12_one_286 : decode cX12_one 286 = .ok (.aload_n 0, 1) := by decide +kernel
theorem dX12_one_287 : decode cX12_one 287 = .ok (.getfield 307, 3) := by decide +kernel
theorem dX12_one_290 : decode cX12_one 290 = .ok (.iastore, 1) := by decide +kernel
theorem dX12_one_291 : decode cX12_one 291 = .ok (.aload_n 0, 1) := by decide +kernel
theorem dX12_one_292 : decode cX12_one 292 = .ok (.invokevirtual 345, 3) := by decide +kernel
