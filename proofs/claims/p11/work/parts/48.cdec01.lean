theorem dX1_choice_63 : decode cX1_choice 63 = .ok (.invokevirtual 68, 3) := by decide +kernel
theorem dX1_choice_66 : decode cX1_choice 66 = .ok (.iconst 0, 1) := by decide +kernel
theorem dX1_choice_67 : decode cX1_choice 67 = .ok (.istore 5, 2) := by decide +kernel
theorem dX1_choice_69 : decode cX1_choice 69 = .ok (.iload 5, 2) := by decide +kernel
theorem dX1_choice_71 : decode cX1_choice 71 = .ok (.sipush 900, 3) := by decide +kernel
theorem dX1_choice_74 : decode cX1_choice 74 = .ok (.if_icmp .ge 39, 3) := by decide +kernel
theorem dX1_choice_77 : decode cX1_choice 77 = .ok (.aload_n 0, 1) := by decide +kernel
theorem dX1_choice_78 : decode cX1_choice 78 = .ok (.sipush 219, 3) := by decide +kernel
theorem dX1_choice_81 : decode cX1_choice 81 = .ok (.invokevirtual 42, 3) := by decide +kernel
theorem dX1_choice_84 : decode cX1_choice 84 = .ok (.ifCond .ne 13, 3) := by decide +kernel
theorem dX1_choice_87 : decode cX1_choice 87 = .ok (.aload_n 0, 1) := by decide +kernel
theorem dX1_choice_88 : decode cX1_choice 88 = .ok (.sipush 220, 3) := by decide +kernel
theorem dX1_choice_91 : decode cX1_choice 91 = .ok (.invokevirtual 42, 3) := by decide +kernel
theorem dX1_choice_94 : decode cX1_choice 94 = .ok (.ifCond .eq 19, 3) := by decide +kernel
theorem dX1_choice_97 : decode cX1_choice 97 = .ok (.aload_n 0, 1) := by decide +kernel
theorem dX1_choice_98 : decode cX1_choice 98 = .ok (.iload_n 3, 1) := by decide +kernel
theorem dX1_choice_99 : decode cX1_choice 99 = .ok (.iload 4, 2) := by decide +kernel
theorem dX1_choice_101 : decode cX1_choice 101 = .ok (.iload_n 2, 1) := by decide +kernel
theorem dX1_choice_102 : decode cX1_choice 102 = .ok (.invokevirtual 117, 3) := by decide +kernel
theorem dX1_choice_105 : decode cX1_choice 105 = .ok (.istore 4, 2) := by decide +kernel
theorem dX1_choice_107 : decode cX1_choice 107 = .ok (.iinc 5 1, 3) := by decide +kernel
theorem dX1_choice_110 : decode cX1_choice 110 = .ok (.goto (-41), 3) := by decide +kernel
theorem dX1_choice_113 : decode cX1_choice 113 = .ok (.iload 4, 2) := by decide +kernel
theorem dX1_choice_115 : decode cX1_choice 115 = .ok (.ifCond .ge 7, 3) := by decide +kernel
theorem dX1_choice_118 : decode cX1_choice 118 = .ok (.aload_n 0, 1) := by decide +kernel
theorem dX1_choice_119 : decode cX1_choice 119 = .ok (.invokevirtual 59, 3) := by decide +kernel
theorem dX1_choice_122 : decode cX1_choice 122 = .ok (.aload_n 0, 1) := by decide +kernel
theorem dX1_choice_123 : decode cX1_choice 123 = .ok (.bipush 125, 2) := by decide +kernel
theorem dX1_choice_125 : decode cX1_choice 125 = .ok (.invokevirtual 92, 3) := by decide +kernel
theorem dX1_choice_128 : decode cX1_choice 128 = .ok (.aload_n 0, 1) := by decide +kernel
theorem dX1_choice_129 : decode cX1_choice 129 = .ok (.getfield 22, 3) := by decide +kernel
theorem dX1_choice_132 : decode cX1_choice 132 = .ok (.iload_n 1, 1) := by decide +kernel
theorem dX1_choice_133 : decode cX1_choice 133 = .ok (.invokevirtual 121, 3) := by decide +kernel
theorem dX1_choice_136 : decode cX1_choice 136 = .ok (.aload_n 0, 1) := by decide +kernel
theorem dX1_choice_137 : decode cX1_choice 137 = .ok (.getfield 22, 3) := by decide +kernel
theorem dX1_choice_140 : decode cX1_choice 140 = .ok (.iload_n 3, 1) := by decide +kernel
theorem dX1_choice_141 : decode cX1_choice 141 = .ok (.iload 4, 2) := by decide +kernel
theorem dX1_choice_143 : decode cX1_choice 143 = .ok (.invokevirtual 124, 3) := by decide +kernel
theorem dX1_choice_146 : decode cX1_choice 146 = .ok (.aload_n 0, 1) := by decide +kernel
theorem dX1_choice_147 : decode cX1_choice 147 = .ok (.getfield 22, 3) := by decide +kernel
theorem dX1_choice_150 : decode cX1_choice 150 = .ok (.iload_n 2, 1) := by decide +kernel
theorem dX1_choice_151 : decode cX1_choice 151 = .ok (.invokevirtual 121, 3) := by decide +kernel
theorem dX1_choice_154 : decode cX1_choice 154 = .ok (.return_, 1) := by decide +kernel
theorem dX1_arm_0 : decode cX1_arm 0 = .ok (.aload_n 0, 1) := by decide +kernel
theorem dX1_arm_1 : decode cX1_arm 1 = .ok (.getfield 22, 3) := by decide +kernel
theorem dX1_arm_4 : decode cX1_arm 4 = .ok (.invokevirtual 110, 3) := by decide +kernel
theorem dX1_arm_7 : decode cX1_arm 7 = .ok (.istore 4, 2) := by decide +kernel
theorem dX1_arm_9 : decode cX1_arm 9 = .ok (.iload_n 2, 1) := by decide +kernel
theorem dX1_arm_10 : decode cX1_arm 10 = .ok (.istore 5, 2) := by decide +kernel
theorem dX1_arm_12 : decode cX1_arm 12 = .ok (.aload_n 0, 1) := by decide +kernel
theorem dX1_arm_13 : decode cX1_arm 13 = .ok (.sipush 220, 3) := by decide +kernel
theorem dX1_arm_16 : decode cX1_arm 16 = .ok (.invokevirtual 42, 3) := by decide +kernel
theorem dX1_arm_19 : decode cX1_arm 19 = .ok (.ifCond .eq 34, 3) := by decide +kernel
theorem dX1_arm_22 : decode cX1_arm 22 = .ok (.iload 5, 2) := by decide +kernel
theorem dX1_arm_24 : decode cX1_arm 24 = .ok (.ifCond .lt 15, 3) := by decide +kernel
theorem dX1_arm_27 : decode cX1_arm 27 = .ok (.aload_n 0, 1) := by decide +kernel
theorem dX1_arm_28 : decode cX1_arm 28 = .ok (.iconst 4, 1) := by decide +kernel
theorem dX1_arm_29 : decode cX1_arm 29 = .ok (.aload_n 0, 1) := by decide +kernel
theorem dX1_arm_30 : decode cX1_arm 30 = .ok (.getfield 18, 3) := by decide +kernel
theorem dX1_arm_33 : decode cX1_arm 33 = .ok (.getfield 46, 3) := by decide +kernel
theorem dX1_arm_36 : decode cX1_arm 36 = .ok (.invokevirtual 49, 3) := by decide +kernel
theorem dX1_arm_39 : decode cX1_arm 39 = .ok (.iload 4, 2) := by decide +kernel
theorem dX1_arm_41 : decode cX1_arm 41 = .ok (.istore 5, 2) := by decide +kernel
theorem dX1_arm_43 : decode cX1_arm 43 = .ok (.aload_n 0, 1) := by decide +kernel
theorem dX1_arm_44 : decode cX1_arm 44 = .ok (.getfield 18, 3) := by decide +kernel
theorem dX1_arm_47 : decode cX1_arm 47 = .ok (.invokevirtual 56, 3) := by decide +kernel
theorem dX1_arm_50 : decode cX1_arm 50 = .ok (.goto 50, 3) := by decide +kernel
theorem dX1_arm_53 : decode cX1_arm 53 = .ok (.aload_n 0, 1) := by decide +kernel
theorem dX1_arm_54 : decode cX1_arm 54 = .ok (.getfield 18, 3) := by decide +kernel
theorem dX1_arm_57 : decode cX1_arm 57 = .ok (.invokevirtual 56, 3) := by decide +kernel
theorem dX1_arm_60 : decode cX1_arm 60 = .ok (.aload_n 0, 1) := by decide +kernel
theorem dX1_arm_61 : decode cX1_arm 61 = .ok (.iload_n 1, 1) := by decide +kernel
theorem dX1_arm_62 : decode cX1_arm 62 = .ok (.iload 4, 2) := by decide +kernel
theorem dX1_arm_64 : decode cX1_arm 64 = .ok (.invokevirtual 127, 3) := by decide +kernel
theorem dX1_arm_67 : decode cX1_arm 67 = .ok (.iconst 0, 1) := by decide +kernel
theorem dX1_arm_68 : decode cX1_arm 68 = .ok (.istore 6, 2) := by decide +kernel
theorem dX1_arm_70 : decode cX1_arm 70 = .ok (.iload 6, 2) := by decide +kernel
theorem dX1_arm_72 : decode cX1_arm 72 = .ok (.sipush 900, 3) := by decide +kernel
theorem dX1_arm_75 : decode cX1_arm 75 = .ok (.if_icmp .ge 25, 3) := by decide +kernel
theorem dX1_arm_78 : decode cX1_arm 78 = .ok (.aload_n 0, 1) := by decide +kernel
theorem dX1_arm_79 : decode cX1_arm 79 = .ok (.bipush 44, 2) := by decide +kernel
theorem dX1_arm_81 : decode cX1_arm 81 = .ok (.invokevirtual 130, 3) := by decide +kernel
theorem dX1_arm_84 : decode cX1_arm 84 = .ok (.ifCond .eq 16, 3) := by decide +kernel
theorem dX1_arm_87 : decode cX1_arm 87 = .ok (.aload_n 0, 1) := by decide +kernel
theorem dX1_arm_88 : decode cX1_arm 88 = .ok (.iload_n 1, 1) := by decide +kernel
theorem dX1_arm_89 : decode cX1_arm 89 = .ok (.iload 4, 2) := by decide +kernel
theorem dX1_arm_91 : decode cX1_arm 91 = .ok (.invokevirtual 127, 3) := by decide +kernel
theorem dX1_arm_94 : decode cX1_arm 94 = .ok (.iinc 6 1, 3) := by decide +kernel
theorem dX1_arm_97 : decode cX1_arm 97 = .ok (.goto (-27), 3) := by decide +kernel
theorem dX1_arm_100 : decode cX1_arm 100 = .ok (.aload_n 0, 1) := by decide +kernel
theorem dX1_arm_101 : decode cX1_arm 101 = .ok (.sipush 134, 3) := by decide +kernel
theorem dX1_arm_104 : decode cX1_arm 104 = .ok (.invokevirtual 133, 3) := by decide +kernel
theorem dX1_arm_107 : decode cX1_arm 107 = .ok (.aload_n 0, 1) := by decide +kernel
theorem dX1_arm_108 : decode cX1_arm 108 = .ok (.getfield 22, 3) := by decide +kernel
theorem dX1_arm_111 : decode cX1_arm 111 = .ok (.iload 4, 2) := by decide +kernel
theorem dX1_arm_113 : decode cX1_arm 113 = .ok (.invokevirtual 121, 3) := by decide +kernel
theorem dX1_arm_116 : decode cX1_arm 116 = .ok (.aload_n 0, 1) := by decide +kernel
theorem dX1_arm_117 : decode cX1_arm 117 = .ok (.bipush 123, 2) := by decide +kernel
theorem dX1_arm_119 : decode cX1_arm 119 = .ok (.invokevirtual 42, 3) := by decide +kernel
theorem dX1_arm_122 : decode cX1_arm 122 = .ok (.ifCond .eq 11, 3) := by decide +kernel
theorem dX1_arm_125 : decode cX1_arm 125 = .ok (.aload_n 0, 1) := by decide +kernel
theorem dX1_arm_126 : decode cX1_arm 126 = .ok (.iload_n 3, 1) := by decide +kernel
theorem dX1_arm_127 : decode cX1_arm 127 = .ok (.invokevirtual 136, 3) := by decide +kernel
theorem dX1_arm_130 : decode cX1_arm 130 = .ok (.goto 23, 3) := by decide +kernel
theorem dX1_arm_133 : decode cX1_arm 133 = .ok (.aload_n 0, 1) := by decide +kernel
theorem dX1_arm_134 : decode cX1_arm 134 = .ok (.invokevirtual 89, 3) := by decide +kernel
theorem dX1_arm_137 : decode cX1_arm 137 = .ok (.aload_n 0, 1) := by decide +kernel
theorem dX1_arm_138 : decode cX1_arm 138 = .ok (.bipush 59, 2) := by decide +kernel
theorem dX1_arm_140 : decode cX1_arm 140 = .ok (.invokevirtual 133, 3) := by decide +kernel
theorem dX1_arm_143 : decode cX1_arm 143 = .ok (.aload_n 0, 1) := by decide +kernel
theorem dX1_arm_144 : decode cX1_arm 144 = .ok (.getfield 22, 3) := by decide +kernel
theorem dX1_arm_147 : decode cX1_arm 147 = .ok (.bipush 30, 2) := by decide +kernel
theorem dX1_arm_149 : decode cX1_arm 149 = .ok (.iload_n 3, 1) := by decide +kernel
theorem dX1_arm_150 : decode cX1_arm 150 = .ok (.invokevirtual 68, 3) := by decide +kernel
theorem dX1_arm_153 : decode cX1_arm 153 = .ok (.iload 5, 2) := by decide +kernel
theorem dX1_arm_155 : decode cX1_arm 155 = .ok (.ireturn, 1) := by decide +kernel
theorem dX1_caseNumber_0 : decode cX1_caseNumber 0 = .ok (.aload_n 0, 1) := by decide +kernel
theorem dX1_caseNumber_1 : decode cX1_caseNumber 1 = .ok (.bipush 45, 2) := by decide +kernel
theorem dX1_caseNumber_3 : decode cX1_caseNumber 3 = .ok (.invokevirtual 130, 3) := by decide +kernel
theorem dX1_caseNumber_6 : decode cX1_caseNumber 6 = .ok (.istore_n 3, 1) := by decide +kernel
theorem dX1_caseNumber_7 : decode cX1_caseNumber 7 = .ok (.aload_n 0, 1) := by decide +kernel
theorem dX1_caseNumber_8 : decode cX1_caseNumber 8 = .ok (.iconst 1, 1) := by decide +kernel
theorem dX1_caseNumber_9 : decode cX1_caseNumber 9 = .ok (.invokevirtual 42, 3) := by decide +kernel
theorem dX1_caseNumber_12 : decode cX1_caseNumber 12 = .ok (.ifCond .ne 8, 3) := by decide +kernel
theorem dX1_caseNumber_15 : decode cX1_caseNumber 15 = .ok (.aload_n 0, 1) := by decide +kernel
theorem dX1_caseNumber_16 : decode cX1_caseNumber 16 = .ok (.invokevirtual 59, 3) := by decide +kernel
theorem dX1_caseNumber_19 : decode cX1_caseNumber 19 = .ok (.return_, 1) := by decide +kernel
theorem dX1_caseNumber_20 : decode cX1_caseNumber 20 = .ok (.iload_n 3, 1) := by decide +kernel
theorem dX1_caseNumber_21 : decode cX1_caseNumber 21 = .ok (.ifCond .eq 14, 3) := by decide +kernel
theorem dX1_caseNumber_24 : decode cX1_caseNumber 24 = .ok (.aload_n 0, 1) := by decide +kernel
theorem dX1_caseNumber_25 : decode cX1_caseNumber 25 = .ok (.getfield 18, 3) := by decide +kernel
theorem dX1_caseNumber_28 : decode cX1_caseNumber 28 = .ok (.getfield 76, 3) := by decide +kernel
theorem dX1_caseNumber_31 : decode cX1_caseNumber 31 = .ok (.ineg, 1) := by decide +kernel
theorem dX1_caseNumber_32 : decode cX1_caseNumber 32 = .ok (.goto 10, 3) := by decide +kernel
theorem dX1_caseNumber_35 : decode cX1_caseNumber 35 = .ok (.aload_n 0, 1) := by decide +kernel
theorem dX1_caseNumber_36 : decode cX1_caseNumber 36 = .ok (.getfield 18, 3) := by decide +kernel
theorem dX1_caseNumber_39 : decode cX1_caseNumber 39 = .ok (.getfield 76, 3) := by decide +kernel
theorem dX1_caseNumber_42 : decode cX1_caseNumber 42 = .ok (.istore 4, 2) := by decide +kernel
theorem dX1_caseNumber_44 : decode cX1_caseNumber 44 = .ok (.aload_n 0, 1) := by decide +kernel
theorem dX1_caseNumber_45 : decode cX1_caseNumber 45 = .ok (.getfield 22, 3) := by decide +kernel
theorem dX1_caseNumber_48 : decode cX1_caseNumber 48 = .ok (.iload_n 1, 1) := by decide +kernel
theorem dX1_caseNumber_49 : decode cX1_caseNumber 49 = .ok (.iload 4, 2) := by decide +kernel
theorem dX1_caseNumber_51 : decode cX1_caseNumber 51 = .ok (.invokevirtual 139, 3) := by decide +kernel
theorem dX1_caseNumber_54 : decode cX1_caseNumber 54 = .ok (.ifCond .eq 16, 3) := by decide +kernel
theorem dX1_caseNumber_57 : decode cX1_caseNumber 57 = .ok (.aload_n 0, 1) := by decide +kernel
theorem dX1_caseNumber_58 : decode cX1_caseNumber 58 = .ok (.iconst 4, 1) := by decide +kernel
theorem dX1_caseNumber_59 : decode cX1_caseNumber 59 = .ok (.aload_n 0, 1) := by decide +kernel
theorem dX1_caseNumber_60 : decode cX1_caseNumber 60 = .ok (.getfield 18, 3) := by decide +kernel
theorem dX1_caseNumber_63 : decode cX1_caseNumber 63 = .ok (.getfield 46, 3) := by decide +kernel
theorem dX1_caseNumber_66 : decode cX1_caseNumber 66 = .ok (.invokevirtual 49, 3) := by decide +kernel
theorem dX1_caseNumber_69 : decode cX1_caseNumber 69 = .ok (.return_, 1) := by decide +kernel
theorem dX1_caseNumber_70 : decode cX1_caseNumber 70 = .ok (.aload_n 0, 1) := by decide +kernel
theorem dX1_caseNumber_71 : decode cX1_caseNumber 71 = .ok (.getfield 22, 3) := by decide +kernel
theorem dX1_caseNumber_74 : decode cX1_caseNumber 74 = .ok (.iload 4, 2) := by decide +kernel
theorem dX1_caseNumber_76 : decode cX1_caseNumber 76 = .ok (.iload_n 2, 1) := by decide +kernel
theorem dX1_caseNumber_77 : decode cX1_caseNumber 77 = .ok (.invokevirtual 143, 3) := by decide +kernel
theorem dX1_caseNumber_80 : decode cX1_caseNumber 80 = .ok (.aload_n 0, 1) := by decide +kernel
theorem dX1_caseNumber_81 : decode cX1_caseNumber 81 = .ok (.getfield 18, 3) := by decide +kernel
theorem dX1_caseNumber_84 : decode cX1_caseNumber 84 = .ok (.invokevirtual 56, 3) := by decide +kernel
theorem dX1_caseNumber_87 : decode cX1_caseNumber 87 = .ok (.return_, 1) := by decide +kernel
theorem dX1_condition_0 : decode cX1_condition 0 = .ok (.aload_n 0, 1) := by decide +kernel
theorem dX1_condition_1 : decode cX1_condition 1 = .ok (.invokevirtual 146, 3) := by decide +kernel
theorem dX1_condition_4 : decode cX1_condition 4 = .ok (.istore_n 1, 1) := by decide +kernel
theorem dX1_condition_5 : decode cX1_condition 5 = .ok (.aload_n 0, 1) := by decide +kernel
theorem dX1_condition_6 : decode cX1_condition 6 = .ok (.sipush 133, 3) := by decide +kernel
theorem dX1_condition_9 : decode cX1_condition 9 = .ok (.invokevirtual 42, 3) := by decide +kernel
theorem dX1_condition_12 : decode cX1_condition 12 = .ok (.ifCond .ne 5, 3) := by decide +kernel
theorem dX1_condition_15 : decode cX1_condition 15 = .ok (.iload_n 1, 1) := by decide +kernel
theorem dX1_condition_16 : decode cX1_condition 16 = .ok (.ireturn, 1) := by decide +kernel
theorem dX1_condition_17 : decode cX1_condition 17 = .ok (.aload_n 0, 1) := by decide +kernel
theorem dX1_condition_18 : decode cX1_condition 18 = .ok (.getfield 22, 3) := by decide +kernel
theorem dX1_condition_21 : decode cX1_condition 21 = .ok (.invokevirtual 110, 3) := by decide +kernel
theorem dX1_condition_24 : decode cX1_condition 24 = .ok (.istore_n 2, 1) := by decide +kernel
theorem dX1_condition_25 : decode cX1_condition 25 = .ok (.iconst 0, 1) := by decide +kernel
theorem dX1_condition_26 : decode cX1_condition 26 = .ok (.istore_n 3, 1) := by decide +kernel
theorem dX1_condition_27 : decode cX1_condition 27 = .ok (.iload_n 3, 1) := by decide +kernel
theorem dX1_condition_28 : decode cX1_condition 28 = .ok (.sipush 900, 3) := by decide +kernel
theorem dX1_condition_31 : decode cX1_condition 31 = .ok (.if_icmp .ge 34, 3) := by decide +kernel
theorem dX1_condition_34 : decode cX1_condition 34 = .ok (.aload_n 0, 1) := by decide +kernel
theorem dX1_condition_35 : decode cX1_condition 35 = .ok (.sipush 133, 3) := by decide +kernel
theorem dX1_condition_38 : decode cX1_condition 38 = .ok (.invokevirtual 130, 3) := by decide +kernel
theorem dX1_condition_41 : decode cX1_condition 41 = .ok (.ifCond .eq 24, 3) := by decide +kernel
theorem dX1_condition_44 : decode cX1_condition 44 = .ok (.aload_n 0, 1) := by decide +kernel
theorem dX1_condition_45 : decode cX1_condition 45 = .ok (.getfield 22, 3) := by decide +kernel
theorem dX1_condition_48 : decode cX1_condition 48 = .ok (.bipush 33, 2) := by decide +kernel
theorem dX1_condition_50 : decode cX1_condition 50 = .ok (.iload_n 2, 1) := by decide +kernel
theorem dX1_condition_51 : decode cX1_condition 51 = .ok (.invokevirtual 68, 3) := by decide +kernel
theorem dX1_condition_54 : decode cX1_condition 54 = .ok (.aload_n 0, 1) := by decide +kernel
theorem dX1_condition_55 : decode cX1_condition 55 = .ok (.invokevirtual 146, 3) := by decide +kernel
theorem dX1_condition_58 : decode cX1_condition 58 = .ok (.pop, 1) := by decide +kernel
theorem dX1_condition_59 : decode cX1_condition 59 = .ok (.iinc 3 1, 3) := by decide +kernel
theorem dX1_condition_62 : decode cX1_condition 62 = .ok (.goto (-35), 3) := by decide +kernel
theorem dX1_condition_65 : decode cX1_condition 65 = .ok (.aload_n 0, 1) := by decide +kernel
theorem dX1_condition_66 : decode cX1_condition 66 = .ok (.getfield 22, 3) := by decide +kernel
theorem dX1_condition_69 : decode cX1_condition 69 = .ok (.iload_n 2, 1) := by decide +kernel
theorem dX1_condition_70 : decode cX1_condition 70 = .ok (.invokevirtual 121, 3) := by decide +kernel
theorem dX1_condition_73 : decode cX1_condition 73 = .ok (.iconst 0, 1) := by decide +kernel
theorem dX1_condition_74 : decode cX1_condition 74 = .ok (.ireturn, 1) := by decide +kernel
theorem dX1_conjunction_0 : decode cX1_conjunction 0 = .ok (.aload_n 0, 1) := by decide +kernel
theorem dX1_conjunction_1 : decode cX1_conjunction 1 = .ok (.invokevirtual 150, 3) := by decide +kernel
theorem dX1_conjunction_4 : decode cX1_conjunction 4 = .ok (.istore_n 1, 1) := by decide +kernel
theorem dX1_conjunction_5 : decode cX1_conjunction 5 = .ok (.aload_n 0, 1) := by decide +kernel
theorem dX1_conjunction_6 : decode cX1_conjunction 6 = .ok (.sipush 132, 3) := by decide +kernel
theorem dX1_conjunction_9 : decode cX1_conjunction 9 = .ok (.invokevirtual 42, 3) := by decide +kernel
theorem dX1_conjunction_12 : decode cX1_conjunction 12 = .ok (.ifCond .ne 5, 3) := by decide +kernel
theorem dX1_conjunction_15 : decode cX1_conjunction 15 = .ok (.iload_n 1, 1) := by decide +kernel
theorem dX1_conjunction_16 : decode cX1_conjunction 16 = .ok (.ireturn, 1) := by decide +kernel
theorem dX1_conjunction_17 : decode cX1_conjunction 17 = .ok (.aload_n 0, 1) := by decide +kernel
theorem dX1_conjunction_18 : decode cX1_conjunction 18 = .ok (.getfield 22, 3) := by decide +kernel
theorem dX1_conjunction_21 : decode cX1_conjunction 21 = .ok (.invokevirtual 110, 3) := by decide +kernel
theorem dX1_conjunction_24 : decode cX1_conjunction 24 = .ok (.istore_n 2, 1) := by decide +kernel
theorem dX1_conjunction_25 : decode cX1_conjunction 25 = .ok (.iconst 0, 1) := by decide +kernel
theorem dX1_conjunction_26 : decode cX1_conjunction 26 = .ok (.istore_n 3, 1) := by decide +kernel
theorem dX1_conjunction_27 : decode cX1_conjunction 27 = .ok (.iload_n 3, 1) := by decide +kernel
theorem dX1_conjunction_28 : decode cX1_conjunction 28 = .ok (.sipush 900, 3) := by decide +kernel
theorem dX1_conjunction_31 : decode cX1_conjunction 31 = .ok (.if_icmp .ge 34, 3) := by decide +kernel
theorem dX1_conjunction_34 : decode cX1_conjunction 34 = .ok (.aload_n 0, 1) := by decide +kernel
theorem dX1_conjunction_35 : decode cX1_conjunction 35 = .ok (.sipush 132, 3) := by decide +kernel
theorem dX1_conjunction_38 : decode cX1_conjunction 38 = .ok (.invokevirtual 130, 3) := by decide +kernel
theorem dX1_conjunction_41 : decode cX1_conjunction 41 = .ok (.ifCond .eq 24, 3) := by decide +kernel
theorem dX1_conjunction_44 : decode cX1_conjunction 44 = .ok (.aload_n 0, 1) := by decide +kernel
theorem dX1_conjunction_45 : decode cX1_conjunction 45 = .ok (.getfield 22, 3) := by decide +kernel
theorem dX1_conjunction_48 : decode cX1_conjunction 48 = .ok (.bipush 32, 2) := by decide +kernel
theorem dX1_conjunction_50 : decode cX1_conjunction 50 = .ok (.iload_n 2, 1) := by decide +kernel
theorem dX1_conjunction_51 : decode cX1_conjunction 51 = .ok (.invokevirtual 68, 3) := by decide +kernel
theorem dX1_conjunction_54 : decode cX1_conjunction 54 = .ok (.aload_n 0, 1) := by decide +kernel
theorem dX1_conjunction_55 : decode cX1_conjunction 55 = .ok (.invokevirtual 150, 3) := by decide +kernel
theorem dX1_conjunction_58 : decode cX1_conjunction 58 = .ok (.pop, 1) := by decide +kernel
theorem dX1_conjunction_59 : decode cX1_conjunction 59 = .ok (.iinc 3 1, 3) := by decide +kernel
theorem dX1_conjunction_62 : decode cX1_conjunction 62 = .ok (.goto (-35), 3) := by decide +kernel
theorem dX1_conjunction_65 : decode cX1_conjunction 65 = .ok (.aload_n 0, 1) := by decide +kernel
theorem dX1_conjunction_66 : decode cX1_conjunction 66 = .ok (.getfield 22, 3) := by decide +kernel
theorem dX1_conjunction_69 : decode cX1_conjunction 69 = .ok (.iload_n 2, 1) := by decide +kernel
theorem dX1_conjunction_70 : decode cX1_conjunction 70 = .ok (.invokevirtual 121, 3) := by decide +kernel
theorem dX1_conjunction_73 : decode cX1_conjunction 73 = .ok (.iconst 0, 1) := by decide +kernel
theorem dX1_conjunction_74 : decode cX1_conjunction 74 = .ok (.ireturn, 1) := by decide +kernel
theorem dX1_one_0 : decode cX1_one 0 = .ok (.aload_n 0, 1) := by decide +kernel
theorem dX1_one_1 : decode cX1_one 1 = .ok (.getfield 18, 3) := by decide +kernel
theorem dX1_one_4 : decode cX1_one 4 = .ok (.getfield 53, 3) := by decide +kernel
theorem dX1_one_7 : decode cX1_one 7 = .ok (.lookupswitch 135 #[(33, 41), (91, 116), (222, 80), (223, 98)], 41) := by decide +kernel
theorem dX1_one_48 : decode cX1_one 48 = .ok (.aload_n 0, 1) := by decide +kernel
theorem dX1_one_49 : decode cX1_one 49 = .ok (.bipush 33, 2) := by decide +kernel
theorem dX1_one_51 : decode cX1_one 51 = .ok (.invokevirtual 85, 3) := by decide +kernel
theorem dX1_one_54 : decode cX1_one 54 = .ok (.aload_n 0, 1) := by decide +kernel
theorem dX1_one_55 : decode cX1_one 55 = .ok (.getfield 30, 3) := by decide +kernel
theorem dX1_one_58 : decode cX1_one 58 = .ok (.ifCond .ne 8, 3) := by decide +kernel
theorem dX1_one_61 : decode cX1_one 61 = .ok (.aload_n 0, 1) := by decide +kernel
theorem dX1_one_62 : decode cX1_one 62 = .ok (.invokevirtual 150, 3) := by decide +kernel
theorem dX1_one_65 : decode cX1_one 65 = .ok (.pop, 1) := by decide +kernel
theorem dX1_one_66 : decode cX1_one 66 = .ok (.aload_n 0, 1) := by decide +kernel
theorem dX1_one_67 : decode cX1_one 67 = .ok (.dup, 1) := by decide +kernel
theorem dX1_one_68 : decode cX1_one 68 = .ok (.getfield 62, 3) := by decide +kernel
theorem dX1_one_71 : decode cX1_one 71 = .ok (.iconst 1, 1) := by decide +kernel
theorem dX1_one_72 : decode cX1_one 72 = .ok (.isub, 1) := by decide +kernel
theorem dX1_one_73 : decode cX1_one 73 = .ok (.putfield 62, 3) := by decide +kernel
theorem dX1_one_76 : decode cX1_one 76 = .ok (.aload_n 0, 1) := by decide +kernel
theorem dX1_one_77 : decode cX1_one 77 = .ok (.getfield 22, 3) := by decide +kernel
theorem dX1_one_80 : decode cX1_one 80 = .ok (.iconst 5, 1) := by decide +kernel
theorem dX1_one_81 : decode cX1_one 81 = .ok (.iconst 0, 1) := by decide +kernel
theorem dX1_one_82 : decode cX1_one 82 = .ok (.invokevirtual 68, 3) := by decide +kernel
theorem dX1_one_85 : decode cX1_one 85 = .ok (.iconst 0, 1) := by decide +kernel
theorem dX1_one_86 : decode cX1_one 86 = .ok (.ireturn, 1) := by decide +kernel
theorem dX1_one_87 : decode cX1_one 87 = .ok (.aload_n 0, 1) := by decide +kernel
theorem dX1_one_88 : decode cX1_one 88 = .ok (.getfield 22, 3) := by decide +kernel
theorem dX1_one_91 : decode cX1_one 91 = .ok (.iconst 0, 1) := by decide +kernel
theorem dX1_one_92 : decode cX1_one 92 = .ok (.iconst 1, 1) := by decide +kernel
theorem dX1_one_93 : decode cX1_one 93 = .ok (.invokevirtual 68, 3) := by decide +kernel
theorem dX1_one_96 : decode cX1_one 96 = .ok (.aload_n 0, 1) := by decide +kernel
theorem dX1_one_97 : decode cX1_one 97 = .ok (.getfield 18, 3) := by decide +kernel
theorem dX1_one_100 : decode cX1_one 100 = .ok (.invokevirtual 56, 3) := by decide +kernel
theorem dX1_one_103 : decode cX1_one 103 = .ok (.iconst 1, 1) := by decide +kernel
theorem dX1_one_104 : decode cX1_one 104 = .ok (.ireturn, 1) := by decide +kernel
theorem dX1_one_105 : decode cX1_one 105 = .ok (.aload_n 0, 1) := by decide +kernel
theorem dX1_one_106 : decode cX1_one 106 = .ok (.getfield 22, 3) := by decide +kernel
theorem dX1_one_109 : decode cX1_one 109 = .ok (.iconst 0, 1) := by decide +kernel
theorem dX1_one_110 : decode cX1_one 110 = .ok (.iconst 0, 1) := by decide +kernel
theorem dX1_one_111 : decode cX1_one 111 = .ok (.invokevirtual 68, 3) := by decide +kernel
theorem dX1_one_114 : decode cX1_one 114 = .ok (.aload_n 0, 1) := by decide +kernel
theorem dX1_one_115 : decode cX1_one 115 = .ok (.getfield 18, 3) := by decide +kernel
theorem dX1_one_118 : decode cX1_one 118 = .ok (.invokevirtual 56, 3) := by decide +kernel
theorem dX1_one_121 : decode cX1_one 121 = .ok (.iconst 0, 1) := by decide +kernel
theorem dX1_one_122 : decode cX1_one 122 = .ok (.ireturn, 1) := by decide +kernel
theorem dX1_one_123 : decode cX1_one 123 = .ok (.aload_n 0, 1) := by decide +kernel
theorem dX1_one_124 : decode cX1_one 124 = .ok (.bipush 91, 2) := by decide +kernel
theorem dX1_one_126 : decode cX1_one 126 = .ok (.invokevirtual 85, 3) := by decide +kernel
theorem dX1_one_129 : decode cX1_one 129 = .ok (.aload_n 0, 1) := by decide +kernel
theorem dX1_one_130 : decode cX1_one 130 = .ok (.invokevirtual 153, 3) := by decide +kernel
theorem dX1_one_133 : decode cX1_one 133 = .ok (.pop, 1) := by decide +kernel
theorem dX1_one_134 : decode cX1_one 134 = .ok (.aload_n 0, 1) := by decide +kernel
theorem dX1_one_135 : decode cX1_one 135 = .ok (.bipush 93, 2) := by decide +kernel
theorem dX1_one_137 : decode cX1_one 137 = .ok (.invokevirtual 92, 3) := by decide +kernel
theorem dX1_one_140 : decode cX1_one 140 = .ok (.iconst 0, 1) := by decide +kernel
theorem dX1_one_141 : decode cX1_one 141 = .ok (.ireturn, 1) := by decide +kernel
theorem dX1_one_142 : decode cX1_one 142 = .ok (.aload_n 0, 1) := by decide +kernel
theorem dX1_one_143 : decode cX1_one 143 = .ok (.invokevirtual 156, 3) := by decide +kernel
theorem dX1_one_146 : decode cX1_one 146 = .ok (.iconst 0, 1) := by decide +kernel
theorem dX1_one_147 : decode cX1_one 147 = .ok (.ireturn, 1) := by decide +kernel
theorem dX1_comparison_0 : decode cX1_comparison 0 = .ok (.aload_n 0, 1) := by decide +kernel
theorem dX1_comparison_1 : decode cX1_comparison 1 = .ok (.invokevirtual 89, 3) := by decide +kernel
theorem dX1_comparison_4 : decode cX1_comparison 4 = .ok (.aload_n 0, 1) := by decide +kernel
theorem dX1_comparison_5 : decode cX1_comparison 5 = .ok (.getfield 18, 3) := by decide +kernel
theorem dX1_comparison_8 : decode cX1_comparison 8 = .ok (.getfield 53, 3) := by decide +kernel
theorem dX1_comparison_11 : decode cX1_comparison 11 = .ok (.invokestatic 159, 3) := by decide +kernel
theorem dX1_comparison_14 : decode cX1_comparison 14 = .ok (.istore_n 1, 1) := by decide +kernel
theorem dX1_comparison_15 : decode cX1_comparison 15 = .ok (.iload_n 1, 1) := by decide +kernel
theorem dX1_comparison_16 : decode cX1_comparison 16 = .ok (.ifCond .ge 8, 3) := by decide +kernel
theorem dX1_comparison_19 : decode cX1_comparison 19 = .ok (.aload_n 0, 1) := by decide +kernel
theorem dX1_comparison_20 : decode cX1_comparison 20 = .ok (.invokevirtual 59, 3) := by decide +kernel
theorem dX1_comparison_23 : decode cX1_comparison 23 = .ok (.return_, 1) := by decide +kernel
theorem dX1_comparison_24 : decode cX1_comparison 24 = .ok (.aload_n 0, 1) := by decide +kernel
theorem dX1_comparison_25 : decode cX1_comparison 25 = .ok (.getfield 18, 3) := by decide +kernel
theorem dX1_comparison_28 : decode cX1_comparison 28 = .ok (.invokevirtual 56, 3) := by decide +kernel
theorem dX1_comparison_31 : decode cX1_comparison 31 = .ok (.aload_n 0, 1) := by decide +kernel
theorem dX1_comparison_32 : decode cX1_comparison 32 = .ok (.invokevirtual 89, 3) := by decide +kernel
theorem dX1_comparison_35 : decode cX1_comparison 35 = .ok (.aload_n 0, 1) := by decide +kernel
theorem dX1_comparison_36 : decode cX1_comparison 36 = .ok (.getfield 22, 3) := by decide +kernel
theorem dX1_comparison_39 : decode cX1_comparison 39 = .ok (.iload_n 1, 1) := by decide +kernel
theorem dX1_comparison_40 : decode cX1_comparison 40 = .ok (.iconst 0, 1) := by decide +kernel
theorem dX1_comparison_41 : decode cX1_comparison 41 = .ok (.invokevirtual 68, 3) := by decide +kernel
theorem dX1_comparison_44 : decode cX1_comparison 44 = .ok (.return_, 1) := by decide +kernel
theorem dX1_comparing_0 : decode cX1_comparing 0 = .ok (.iload_n 0, 1) := by decide +kernel
theorem dX1_comparing_1 : decode cX1_comparing 1 = .ok (.lookupswitch 77 #[(60, 59), (62, 65), (128, 62), (129, 68), (130, 71), (131, 74)], 59) := by decide +kernel
theorem dX1_comparing_60 : decode cX1_comparing 60 = .ok (.bipush 12, 2) := by decide +kernel
theorem dX1_comparing_62 : decode cX1_comparing 62 = .ok (.ireturn, 1) := by decide +kernel
theorem dX1_comparing_63 : decode cX1_comparing 63 = .ok (.bipush 13, 2) := by decide +kernel
theorem dX1_comparing_65 : decode cX1_comparing 65 = .ok (.ireturn, 1) := by decide +kernel
theorem dX1_comparing_66 : decode cX1_comparing 66 = .ok (.bipush 14, 2) := by decide +kernel
theorem dX1_comparing_68 : decode cX1_comparing 68 = .ok (.ireturn, 1) := by decide +kernel
theorem dX1_comparing_69 : decode cX1_comparing 69 = .ok (.bipush 15, 2) := by decide +kernel
theorem dX1_comparing_71 : decode cX1_comparing 71 = .ok (.ireturn, 1) := by decide +kernel
theorem dX1_comparing_72 : decode cX1_comparing 72 = .ok (.bipush 16, 2) := by decide +kernel
theorem dX1_comparing_74 : decode cX1_comparing 74 = .ok (.ireturn, 1) := by decide +kernel
theorem dX1_comparing_75 : decode cX1_comparing 75 = .ok (.bipush 17, 2) := by decide +kernel
theorem dX1_comparing_77 : decode cX1_comparing 77 = .ok (.ireturn, 1) := by decide +kernel
theorem dX1_comparing_78 : decode cX1_comparing 78 = .ok (.iconst (-1), 1) := by decide +kernel
theorem dX1_comparing_79 : decode cX1_comparing 79 = .ok (.ireturn, 1) := by decide +kernel
theorem dX2_init_0 : decode cX2_init 0 = .ok (.aload_n 0, 1) := by decide +kernel
theorem dX2_init_1 : decode cX2_init 1 = .ok (.invokespecial 1, 3) := by decide +kernel
theorem dX2_init_4 : decode cX2_init 4 = .ok (.return_, 1) := by decide +kernel
theorem dX3_perform_0 : decode cX3_perform 0 = .ok (.iconst 0, 1) := by decide +kernel
theorem dX3_perform_1 : decode cX3_perform 1 = .ok (.istore_n 3, 1) := by decide +kernel
theorem dX3_perform_2 : decode cX3_perform 2 = .ok (.iload_n 3, 1) := by decide +kernel
theorem dX3_perform_3 : decode cX3_perform 3 = .ok (.aload_n 0, 1) := by decide +kernel
theorem dX3_perform_4 : decode cX3_perform 4 = .ok (.getfield 40, 3) := by decide +kernel
theorem dX3_perform_7 : decode cX3_perform 7 = .ok (.getfield 44, 3) := by decide +kernel
theorem dX3_perform_10 : decode cX3_perform 10 = .ok (.if_icmp .ge 25, 3) := by decide +kernel
theorem dX3_perform_13 : decode cX3_perform 13 = .ok (.iload_n 3, 1) := by decide +kernel
theorem dX3_perform_14 : decode cX3_perform 14 = .ok (.aload_n 0, 1) := by decide +kernel
theorem dX3_perform_15 : decode cX3_perform 15 = .ok (.getfield 9, 3) := by decide +kernel
theorem dX3_perform_18 : decode cX3_perform 18 = .ok (.arraylength, 1) := by decide +kernel
theorem dX3_perform_19 : decode cX3_perform 19 = .ok (.if_icmp .ge 16, 3) := by decide +kernel
theorem dX3_perform_22 : decode cX3_perform 22 = .ok (.aload_n 0, 1) := by decide +kernel
theorem dX3_perform_23 : decode cX3_perform 23 = .ok (.getfield 9, 3) := by decide +kernel
theorem dX3_perform_26 : decode cX3_perform 26 = .ok (.iload_n 3, 1) := by decide +kernel
theorem dX3_perform_27 : decode cX3_perform 27 = .ok (.iconst 0, 1) := by decide +kernel
theorem dX3_perform_28 : decode cX3_perform 28 = .ok (.iastore, 1) := by decide +kernel
theorem dX3_perform_29 : decode cX3_perform 29 = .ok (.iinc 3 1, 3) := by decide +kernel
theorem dX3_perform_32 : decode cX3_perform 32 = .ok (.goto (-30), 3) := by decide +kernel
theorem dX3_perform_35 : decode cX3_perform 35 = .ok (.aload_n 0, 1) := by decide +kernel
theorem dX3_perform_36 : decode cX3_perform 36 = .ok (.getfield 9, 3) := by decide +kernel
theorem dX3_perform_39 : decode cX3_perform 39 = .ok (.iconst 0, 1) := by decide +kernel
theorem dX3_perform_40 : decode cX3_perform 40 = .ok (.iload_n 1, 1) := by decide +kernel
theorem dX3_perform_41 : decode cX3_perform 41 = .ok (.invokestatic 50, 3) := by decide +kernel
theorem dX3_perform_44 : decode cX3_perform 44 = .ok (.aload_n 0, 1) := by decide +kernel
theorem dX3_perform_45 : decode cX3_perform 45 = .ok (.getfield 9, 3) := by decide +kernel
theorem dX3_perform_48 : decode cX3_perform 48 = .ok (.iconst 1, 1) := by decide +kernel
theorem dX3_perform_49 : decode cX3_perform 49 = .ok (.iload_n 2, 1) := by decide +kernel
theorem dX3_perform_50 : decode cX3_perform 50 = .ok (.invokestatic 50, 3) := by decide +kernel
theorem dX3_perform_53 : decode cX3_perform 53 = .ok (.aload_n 0, 1) := by decide +kernel
theorem dX3_perform_54 : decode cX3_perform 54 = .ok (.iconst 0, 1) := by decide +kernel
theorem dX3_perform_55 : decode cX3_perform 55 = .ok (.putfield 54, 3) := by decide +kernel
theorem dX3_perform_58 : decode cX3_perform 58 = .ok (.aload_n 0, 1) := by decide +kernel
theorem dX3_perform_59 : decode cX3_perform 59 = .ok (.iconst 0, 1) := by decide +kernel
theorem dX3_perform_60 : decode cX3_perform 60 = .ok (.putfield 57, 3) := by decide +kernel
theorem dX3_perform_63 : decode cX3_perform 63 = .ok (.aload_n 0, 1) := by decide +kernel
theorem dX3_perform_64 : decode cX3_perform 64 = .ok (.iconst 0, 1) := by decide +kernel
theorem dX3_perform_65 : decode cX3_perform 65 = .ok (.putfield 60, 3) := by decide +kernel
theorem dX3_perform_68 : decode cX3_perform 68 = .ok (.aload_n 0, 1) := by decide +kernel
theorem dX3_perform_69 : decode cX3_perform 69 = .ok (.iconst 0, 1) := by decide +kernel
theorem dX3_perform_70 : decode cX3_perform 70 = .ok (.putfield 63, 3) := by decide +kernel
theorem dX3_perform_73 : decode cX3_perform 73 = .ok (.aload_n 0, 1) := by decide +kernel
theorem dX3_perform_74 : decode cX3_perform 74 = .ok (.iconst 0, 1) := by decide +kernel
theorem dX3_perform_75 : decode cX3_perform 75 = .ok (.putfield 66, 3) := by decide +kernel
theorem dX3_perform_78 : decode cX3_perform 78 = .ok (.aload_n 0, 1) := by decide +kernel
theorem dX3_perform_79 : decode cX3_perform 79 = .ok (.iconst 0, 1) := by decide +kernel
theorem dX3_perform_80 : decode cX3_perform 80 = .ok (.putfield 69, 3) := by decide +kernel
theorem dX3_perform_83 : decode cX3_perform 83 = .ok (.aload_n 0, 1) := by decide +kernel
theorem dX3_perform_84 : decode cX3_perform 84 = .ok (.iconst 0, 1) := by decide +kernel
theorem dX3_perform_85 : decode cX3_perform 85 = .ok (.putfield 72, 3) := by decide +kernel
theorem dX3_perform_88 : decode cX3_perform 88 = .ok (.aload_n 0, 1) := by decide +kernel
theorem dX3_perform_89 : decode cX3_perform 89 = .ok (.iconst 0, 1) := by decide +kernel
theorem dX3_perform_90 : decode cX3_perform 90 = .ok (.putfield 75, 3) := by decide +kernel
theorem dX3_perform_93 : decode cX3_perform 93 = .ok (.aload_n 0, 1) := by decide +kernel
theorem dX3_perform_94 : decode cX3_perform 94 = .ok (.iconst 0, 1) := by decide +kernel
theorem dX3_perform_95 : decode cX3_perform 95 = .ok (.putfield 78, 3) := by decide +kernel
theorem dX3_perform_98 : decode cX3_perform 98 = .ok (.aload_n 0, 1) := by decide +kernel
theorem dX3_perform_99 : decode cX3_perform 99 = .ok (.aconst_null, 1) := by decide +kernel
theorem dX3_perform_100 : decode cX3_perform 100 = .ok (.putfield 81, 3) := by decide +kernel
theorem dX3_perform_103 : decode cX3_perform 103 = .ok (.aload_n 0, 1) := by decide +kernel
theorem dX3_perform_104 : decode cX3_perform 104 = .ok (.iconst (-1), 1) := by decide +kernel
theorem dX3_perform_105 : decode cX3_perform 105 = .ok (.putfield 85, 3) := by decide +kernel
theorem dX3_perform_108 : decode cX3_perform 108 = .ok (.iconst 0, 1) := by decide +kernel
theorem dX3_perform_109 : decode cX3_perform 109 = .ok (.istore_n 3, 1) := by decide +kernel
theorem dX3_perform_110 : decode cX3_perform 110 = .ok (.iload_n 3, 1) := by decide +kernel
theorem dX3_perform_111 : decode cX3_perform 111 = .ok (.ldc 88, 2) := by decide +kernel
theorem dX3_perform_113 : decode cX3_perform 113 = .ok (.if_icmp .ge 35, 3) := by decide +kernel
theorem dX3_perform_116 : decode cX3_perform 116 = .ok (.aload_n 0, 1) := by decide +kernel
theorem dX3_perform_117 : decode cX3_perform 117 = .ok (.getfield 85, 3) := by decide +kernel
theorem dX3_perform_120 : decode cX3_perform 120 = .ok (.iconst (-1), 1) := by decide +kernel
theorem dX3_perform_121 : decode cX3_perform 121 = .ok (.if_icmp .ne 27, 3) := by decide +kernel
theorem dX3_perform_124 : decode cX3_perform 124 = .ok (.aload_n 0, 1) := by decide +kernel
theorem dX3_perform_125 : decode cX3_perform 125 = .ok (.getfield 75, 3) := by decide +kernel
theorem dX3_perform_128 : decode cX3_perform 128 = .ok (.ifCond .ne 10, 3) := by decide +kernel
theorem dX3_perform_131 : decode cX3_perform 131 = .ok (.aload_n 0, 1) := by decide +kernel
theorem dX3_perform_132 : decode cX3_perform 132 = .ok (.invokevirtual 89, 3) := by decide +kernel
theorem dX3_perform_135 : decode cX3_perform 135 = .ok (.goto 7, 3) := by decide +kernel
theorem dX3_perform_138 : decode cX3_perform 138 = .ok (.aload_n 0, 1) := by decide +kernel
theorem dX3_perform_139 : decode cX3_perform 139 = .ok (.invokevirtual 92, 3) := by decide +kernel
theorem dX3_perform_142 : decode cX3_perform 142 = .ok (.iinc 3 1, 3) := by decide +kernel
theorem dX3_perform_145 : decode cX3_perform 145 = .ok (.goto (-35), 3) := by decide +kernel
theorem dX3_perform_148 : decode cX3_perform 148 = .ok (.aload_n 0, 1) := by decide +kernel
theorem dX3_perform_149 : decode cX3_perform 149 = .ok (.getfield 85, 3) := by decide +kernel
theorem dX3_perform_152 : decode cX3_perform 152 = .ok (.ireturn, 1) := by decide +kernel
theorem dX3_answer_0 : decode cX3_answer 0 = .ok (.aload_n 0, 1) := by decide +kernel
theorem dX3_answer_1 : decode cX3_answer 1 = .ok (.invokevirtual 95, 3) := by decide +kernel
theorem dX3_answer_4 : decode cX3_answer 4 = .ok (.astore_n 2, 1) := by decide +kernel
theorem dX3_answer_5 : decode cX3_answer 5 = .ok (.iload_n 1, 1) := by decide +kernel
theorem dX3_answer_6 : decode cX3_answer 6 = .ok (.tableswitch 104 0 5 #[38, 43, 48, 65, 78, 91], 38) := by decide +kernel
theorem dX3_answer_44 : decode cX3_answer 44 = .ok (.aload_n 0, 1) := by decide +kernel
theorem dX3_answer_45 : decode cX3_answer 45 = .ok (.getfield 69, 3) := by decide +kernel
theorem dX3_answer_48 : decode cX3_answer 48 = .ok (.ireturn, 1) := by decide +kernel
theorem dX3_answer_49 : decode cX3_answer 49 = .ok (.aload_n 0, 1) := by decide +kernel
theorem dX3_answer_50 : decode cX3_answer 50 = .ok (.getfield 66, 3) := by decide +kernel
theorem dX3_answer_53 : decode cX3_answer 53 = .ok (.ireturn, 1) := by decide +kernel
theorem dX3_answer_54 : decode cX3_answer 54 = .ok (.aload_n 0, 1) := by decide +kernel
theorem dX3_answer_55 : decode cX3_answer 55 = .ok (.getfield 85, 3) := by decide +kernel
theorem dX3_answer_58 : decode cX3_answer 58 = .ok (.iconst 1, 1) := by decide +kernel
theorem dX3_answer_59 : decode cX3_answer 59 = .ok (.if_icmp .ne 10, 3) := by decide +kernel
theorem dX3_answer_62 : decode cX3_answer 62 = .ok (.aload_n 0, 1) := by decide +kernel
theorem dX3_answer_63 : decode cX3_answer 63 = .ok (.getfield 78, 3) := by decide +kernel
theorem dX3_answer_66 : decode cX3_answer 66 = .ok (.goto 4, 3) := by decide +kernel
theorem dX3_answer_69 : decode cX3_answer 69 = .ok (.iconst 0, 1) := by decide +kernel
theorem dX3_answer_70 : decode cX3_answer 70 = .ok (.ireturn, 1) := by decide +kernel
theorem dX3_answer_71 : decode cX3_answer 71 = .ok (.aload_n 2, 1) := by decide +kernel
theorem dX3_answer_72 : decode cX3_answer 72 = .ok (.ifnonnull 7, 3) := by decide +kernel
theorem dX3_answer_75 : decode cX3_answer 75 = .ok (.iconst (-1), 1) := by decide +kernel
theorem dX3_answer_76 : decode cX3_answer 76 = .ok (.goto 7, 3) := by decide +kernel
theorem dX3_answer_79 : decode cX3_answer 79 = .ok (.aload_n 2, 1) := by decide +kernel
theorem dX3_answer_80 : decode cX3_answer 80 = .ok (.getfield 99, 3) := by decide +kernel
theorem dX3_answer_83 : decode cX3_answer 83 = .ok (.ireturn, 1) := by decide +kernel
