section
theorem dX6_labelled_15 : decode cX6_labelled 15 = .ok (.aload_n 0, 1) := by decide +kernel
theorem dX6_labelled_16 : decode cX6_labelled 16 = .ok (.iload_n 3, 1) := by decide +kernel
theorem dX6_labelled_17 : decode cX6_labelled 17 = .ok (.invokevirtual 88, 3) := by decide +kernel
theorem dX6_labelled_20 : decode cX6_labelled 20 = .ok (.astore 4, 2) := by decide +kernel
theorem dX6_labelled_22 : decode cX6_labelled 22 = .ok (.aload 4, 2) := by decide +kernel
theorem dX6_labelled_24 : decode cX6_labelled 24 = .ok (.ifnull 26, 3) := by decide +kernel
theorem dX6_labelled_27 : decode cX6_labelled 27 = .ok (.aload 4, 2) := by decide +kernel
theorem dX6_labelled_29 : decode cX6_labelled 29 = .ok (.getfield 41, 3) := by decide +kernel
theorem dX6_labelled_32 : decode cX6_labelled 32 = .ok (.sipush 303, 3) := by decide +kernel
theorem dX6_labelled_35 : decode cX6_labelled 35 = .ok (.if_icmp .ne 15, 3) := by decide +kernel
theorem dX6_labelled_38 : decode cX6_labelled 38 = .ok (.aload 4, 2) := by decide +kernel
theorem dX6_labelled_40 : decode cX6_labelled 40 = .ok (.getfield 53, 3) := by decide +kernel
theorem dX6_labelled_43 : decode cX6_labelled 43 = .ok (.lload_n 1, 1) := by decide +kernel
theorem dX6_labelled_44 : decode cX6_labelled 44 = .ok (.lcmp, 1) := by decide +kernel
theorem dX6_labelled_45 : decode cX6_labelled 45 = .ok (.ifCond .ne 5, 3) := by decide +kernel
theorem dX6_labelled_48 : decode cX6_labelled 48 = .ok (.iload_n 3, 1) := by decide +kernel
theorem dX6_labelled_49 : decode cX6_labelled 49 = .ok (.ireturn, 1) := by decide +kernel
theorem dX6_labelled_50 : decode cX6_labelled 50 = .ok (.iinc 3 (-1), 3) := by decide +kernel
theorem dX6_labelled_53 : decode cX6_labelled 53 = .ok (.goto (-46), 3) := by decide +kernel
theorem dX6_labelled_56 : decode cX6_labelled 56 = .ok (.iconst (-1), 1) := by decide +kernel
theorem dX6_labelled_57 : decode cX6_labelled 57 = .ok (.ireturn, 1) := by decide +kernel
theorem dX6_loopBehind_0 : decode cX6_loopBehind 0 = .ok (.iload_n 1, 1) := by decide +kernel
theorem dX6_loopBehind_1 : decode cX6_loopBehind 1 = .ok (.iconst 1, 1) := by decide +kernel
theorem dX6_loopBehind_2 : decode cX6_loopBehind 2 = .ok (.iadd, 1) := by decide +kernel
theorem dX6_loopBehind_3 : decode cX6_loopBehind 3 = .ok (.istore_n 2, 1) := by decide +kernel
theorem dX6_loopBehind_4 : decode cX6_loopBehind 4 = .ok (.iload_n 2, 1) := by decide +kernel
theorem dX6_loopBehind_5 : decode cX6_loopBehind 5 = .ok (.aload_n 0, 1) := by decide +kernel
theorem dX6_loopBehind_6 : decode cX6_loopBehind 6 = .ok (.getfield 21, 3) := by decide +kernel
theorem dX6_loopBehind_9 : decode cX6_loopBehind 9 = .ok (.if_icmp .ge 46, 3) := by decide +kernel
theorem dX6_loopBehind_12 : decode cX6_loopBehind 12 = .ok (.aload_n 0, 1) := by decide +kernel
theorem dX6_loopBehind_13 : decode cX6_loopBehind 13 = .ok (.iload_n 2, 1) := by decide +kernel
theorem dX6_loopBehind_14 : decode cX6_loopBehind 14 = .ok (.invokevirtual 88, 3) := by decide +kernel
theorem dX6_loopBehind_17 : decode cX6_loopBehind 17 = .ok (.astore_n 3, 1) := by decide +kernel
theorem dX6_loopBehind_18 : decode cX6_loopBehind 18 = .ok (.aload_n 3, 1) := by decide +kernel
theorem dX6_loopBehind_19 : decode cX6_loopBehind 19 = .ok (.ifnull 13, 3) := by decide +kernel
theorem dX6_loopBehind_22 : decode cX6_loopBehind 22 = .ok (.aload_n 3, 1) := by decide +kernel
theorem dX6_loopBehind_23 : decode cX6_loopBehind 23 = .ok (.getfield 41, 3) := by decide +kernel
theorem dX6_loopBehind_26 : decode cX6_loopBehind 26 = .ok (.sipush 303, 3) := by decide +kernel
theorem dX6_loopBehind_29 : decode cX6_loopBehind 29 = .ok (.if_icmp .eq 20, 3) := by decide +kernel
theorem dX6_loopBehind_32 : decode cX6_loopBehind 32 = .ok (.aload_n 3, 1) := by decide +kernel
theorem dX6_loopBehind_33 : decode cX6_loopBehind 33 = .ok (.ifnull 14, 3) := by decide +kernel
theorem dX6_loopBehind_36 : decode cX6_loopBehind 36 = .ok (.aload_n 3, 1) := by decide +kernel
theorem dX6_loopBehind_37 : decode cX6_loopBehind 37 = .ok (.invokevirtual 92, 3) := by decide +kernel
theorem dX6_loopBehind_40 : decode cX6_loopBehind 40 = .ok (.ifCond .eq 7, 3) := by decide +kernel
theorem dX6_loopBehind_43 : decode cX6_loopBehind 43 = .ok (.iload_n 2, 1) := by decide +kernel
theorem dX6_loopBehind_44 : decode cX6_loopBehind 44 = .ok (.goto 4, 3) := by decide +kernel
theorem dX6_loopBehind_47 : decode cX6_loopBehind 47 = .ok (.iconst (-1), 1) := by decide +kernel
theorem dX6_loopBehind_48 : decode cX6_loopBehind 48 = .ok (.ireturn, 1) := by decide +kernel
theorem dX6_loopBehind_49 : decode cX6_loopBehind 49 = .ok (.iinc 2 1, 3) := by decide +kernel
theorem dX6_loopBehind_52 : decode cX6_loopBehind 52 = .ok (.goto (-48), 3) := by decide +kernel
theorem dX6_loopBehind_55 : decode cX6_loopBehind 55 = .ok (.iconst (-1), 1) := by decide +kernel
theorem dX6_loopBehind_56 : decode cX6_loopBehind 56 = .ok (.ireturn, 1) := by decide +kernel
theorem dX6_addJump_0 : decode cX6_addJump 0 = .ok (.aload_n 0, 1) := by decide +kernel
theorem dX6_addJump_1 : decode cX6_addJump 1 = .ok (.getfield 17, 3) := by decide +kernel
theorem dX6_addJump_4 : decode cX6_addJump 4 = .ok (.aload_n 0, 1) := by decide +kernel
theorem dX6_addJump_5 : decode cX6_addJump 5 = .ok (.getfield 28, 3) := by decide +kernel
theorem dX6_addJump_8 : decode cX6_addJump 8 = .ok (.aload_n 1, 1) := by decide +kernel
theorem dX6_addJump_9 : decode cX6_addJump 9 = .ok (.iload_n 2, 1) := by decide +kernel
theorem dX6_addJump_10 : decode cX6_addJump 10 = .ok (.invokestatic 96, 3) := by decide +kernel
theorem dX6_addJump_13 : decode cX6_addJump 13 = .ok (.invokestatic 100, 3) := by decide +kernel
theorem dX6_addJump_16 : decode cX6_addJump 16 = .ok (.aload_n 0, 1) := by decide +kernel
theorem dX6_addJump_17 : decode cX6_addJump 17 = .ok (.dup, 1) := by decide +kernel
theorem dX6_addJump_18 : decode cX6_addJump 18 = .ok (.getfield 28, 3) := by decide +kernel
theorem dX6_addJump_21 : decode cX6_addJump 21 = .ok (.iconst 1, 1) := by decide +kernel
theorem dX6_addJump_22 : decode cX6_addJump 22 = .ok (.iadd, 1) := by decide +kernel
theorem dX6_addJump_23 : decode cX6_addJump 23 = .ok (.putfield 28, 3) := by decide +kernel
theorem dX6_addJump_26 : decode cX6_addJump 26 = .ok (.return_, 1) := by decide +kernel
theorem dX6_isGoneTo_0 : decode cX6_isGoneTo 0 = .ok (.aload_n 1, 1) := by decide +kernel
theorem dX6_isGoneTo_1 : decode cX6_isGoneTo 1 = .ok (.getfield 82, 3) := by decide +kernel
theorem dX6_isGoneTo_4 : decode cX6_isGoneTo 4 = .ok (.istore_n 3, 1) := by decide +kernel
theorem dX6_isGoneTo_5 : decode cX6_isGoneTo 5 = .ok (.iload_n 3, 1) := by decide +kernel
theorem dX6_isGoneTo_6 : decode cX6_isGoneTo 6 = .ok (.aload_n 0, 1) := by decide +kernel
theorem dX6_isGoneTo_7 : decode cX6_isGoneTo 7 = .ok (.getfield 28, 3) := by decide +kernel
theorem dX6_isGoneTo_10 : decode cX6_isGoneTo 10 = .ok (.if_icmp .ge 27, 3) := by decide +kernel
theorem dX6_isGoneTo_13 : decode cX6_isGoneTo 13 = .ok (.aload_n 0, 1) := by decide +kernel
theorem dX6_isGoneTo_14 : decode cX6_isGoneTo 14 = .ok (.getfield 17, 3) := by decide +kernel
theorem dX6_isGoneTo_17 : decode cX6_isGoneTo 17 = .ok (.iload_n 3, 1) := by decide +kernel
theorem dX6_isGoneTo_18 : decode cX6_isGoneTo 18 = .ok (.invokestatic 104, 3) := by decide +kernel
theorem dX6_isGoneTo_21 : decode cX6_isGoneTo 21 = .ok (.aload_n 1, 1) := by decide +kernel
theorem dX6_isGoneTo_22 : decode cX6_isGoneTo 22 = .ok (.iload_n 2, 1) := by decide +kernel
theorem dX6_isGoneTo_23 : decode cX6_isGoneTo 23 = .ok (.invokestatic 96, 3) := by decide +kernel
theorem dX6_isGoneTo_26 : decode cX6_isGoneTo 26 = .ok (.if_icmp .ne 5, 3) := by decide +kernel
theorem dX6_isGoneTo_29 : decode cX6_isGoneTo 29 = .ok (.iconst 1, 1) := by decide +kernel
theorem dX6_isGoneTo_30 : decode cX6_isGoneTo 30 = .ok (.ireturn, 1) := by decide +kernel
theorem dX6_isGoneTo_31 : decode cX6_isGoneTo 31 = .ok (.iinc 3 1, 3) := by decide +kernel
theorem dX6_isGoneTo_34 : decode cX6_isGoneTo 34 = .ok (.goto (-29), 3) := by decide +kernel
theorem dX6_isGoneTo_37 : decode cX6_isGoneTo 37 = .ok (.iconst 0, 1) := by decide +kernel
theorem dX6_isGoneTo_38 : decode cX6_isGoneTo 38 = .ok (.ireturn, 1) := by decide +kernel
theorem dX6_jumpTo_0 : decode cX6_jumpTo 0 = .ok (.iconst 2, 1) := by decide +kernel
theorem dX6_jumpTo_1 : decode cX6_jumpTo 1 = .ok (.aload_n 0, 1) := by decide +kernel
theorem dX6_jumpTo_2 : decode cX6_jumpTo 2 = .ok (.getfield 44, 3) := by decide +kernel
theorem dX6_jumpTo_5 : decode cX6_jumpTo 5 = .ok (.imul, 1) := by decide +kernel
theorem dX6_jumpTo_6 : decode cX6_jumpTo 6 = .ok (.iload_n 1, 1) := by decide +kernel
theorem dX6_jumpTo_7 : decode cX6_jumpTo 7 = .ok (.ifCond .eq 7, 3) := by decide +kernel
theorem dX6_jumpTo_10 : decode cX6_jumpTo 10 = .ok (.iconst 1, 1) := by decide +kernel
theorem dX6_jumpTo_11 : decode cX6_jumpTo 11 = .ok (.goto 4, 3) := by decide +kernel
theorem dX6_jumpTo_14 : decode cX6_jumpTo 14 = .ok (.iconst 0, 1) := by decide +kernel
theorem dX6_jumpTo_15 : decode cX6_jumpTo 15 = .ok (.iadd, 1) := by decide +kernel
theorem dX6_jumpTo_16 : decode cX6_jumpTo 16 = .ok (.ireturn, 1) := by decide +kernel
theorem dX6_loseJumps_0 : decode cX6_loseJumps 0 = .ok (.iload_n 1, 1) := by decide +kernel
theorem dX6_loseJumps_1 : decode cX6_loseJumps 1 = .ok (.istore_n 3, 1) := by decide +kernel
theorem dX6_loseJumps_2 : decode cX6_loseJumps 2 = .ok (.iload_n 3, 1) := by decide +kernel
theorem dX6_loseJumps_3 : decode cX6_loseJumps 3 = .ok (.iload_n 2, 1) := by decide +kernel
theorem dX6_loseJumps_4 : decode cX6_loseJumps 4 = .ok (.if_icmp .ge 18, 3) := by decide +kernel
theorem dX6_loseJumps_7 : decode cX6_loseJumps 7 = .ok (.aload_n 0, 1) := by decide +kernel
theorem dX6_loseJumps_8 : decode cX6_loseJumps 8 = .ok (.getfield 17, 3) := by decide +kernel
theorem dX6_loseJumps_11 : decode cX6_loseJumps 11 = .ok (.iload_n 3, 1) := by decide +kernel
theorem dX6_loseJumps_12 : decode cX6_loseJumps 12 = .ok (.iconst 0, 1) := by decide +kernel
theorem dX6_loseJumps_13 : decode cX6_loseJumps 13 = .ok (.invokestatic 100, 3) := by decide +kernel
theorem dX6_loseJumps_16 : decode cX6_loseJumps 16 = .ok (.iinc 3 1, 3) := by decide +kernel
theorem dX6_loseJumps_19 : decode cX6_loseJumps 19 = .ok (.goto (-17), 3) := by decide +kernel
theorem dX6_loseJumps_22 : decode cX6_loseJumps 22 = .ok (.return_, 1) := by decide +kernel
theorem dX7_translate_0 : decode cX7_translate 0 = .ok (.aload_n 0, 1) := by decide +kernel
theorem dX7_translate_1 : decode cX7_translate 1 = .ok (.getfield 20, 3) := by decide +kernel
theorem dX7_translate_4 : decode cX7_translate 4 = .ok (.invokevirtual 24, 3) := by decide +kernel
theorem dX7_translate_7 : decode cX7_translate 7 = .ok (.aload_n 0, 1) := by decide +kernel
theorem dX7_translate_8 : decode cX7_translate 8 = .ok (.getfield 29, 3) := by decide +kernel
theorem dX7_translate_11 : decode cX7_translate 11 = .ok (.iconst 0, 1) := by decide +kernel
theorem dX7_translate_12 : decode cX7_translate 12 = .ok (.putfield 33, 3) := by decide +kernel
theorem dX7_translate_15 : decode cX7_translate 15 = .ok (.aload_n 0, 1) := by decide +kernel
theorem dX7_translate_16 : decode cX7_translate 16 = .ok (.getfield 29, 3) := by decide +kernel
theorem dX7_translate_19 : decode cX7_translate 19 = .ok (.ldc2_w 39, 3) := by decide +kernel
theorem dX7_translate_22 : decode cX7_translate 22 = .ok (.aload_n 0, 1) := by decide +kernel
theorem dX7_translate_23 : decode cX7_translate 23 = .ok (.getfield 20, 3) := by decide +kernel
theorem dX7_translate_26 : decode cX7_translate 26 = .ok (.iconst 1, 1) := by decide +kernel
theorem dX7_translate_27 : decode cX7_translate 27 = .ok (.invokevirtual 41, 3) := by decide +kernel
theorem dX7_translate_30 : decode cX7_translate 30 = .ok (.iconst (-1), 1) := by decide +kernel
theorem dX7_translate_31 : decode cX7_translate 31 = .ok (.invokevirtual 45, 3) := by decide +kernel
theorem dX7_translate_34 : decode cX7_translate 34 = .ok (.aload_n 0, 1) := by decide +kernel
theorem dX7_translate_35 : decode cX7_translate 35 = .ok (.getfield 29, 3) := by decide +kernel
theorem dX7_translate_38 : decode cX7_translate 38 = .ok (.ldc2_w 49, 3) := by decide +kernel
theorem dX7_translate_41 : decode cX7_translate 41 = .ok (.aload_n 0, 1) := by decide +kernel
theorem dX7_translate_42 : decode cX7_translate 42 = .ok (.getfield 20, 3) := by decide +kernel
theorem dX7_translate_45 : decode cX7_translate 45 = .ok (.iconst 1, 1) := by decide +kernel
theorem dX7_translate_46 : decode cX7_translate 46 = .ok (.invokevirtual 41, 3) := by decide +kernel
theorem dX7_translate_49 : decode cX7_translate 49 = .ok (.iconst (-1), 1) := by decide +kernel
theorem dX7_translate_50 : decode cX7_translate 50 = .ok (.invokevirtual 45, 3) := by decide +kernel
theorem dX7_translate_53 : decode cX7_translate 53 = .ok (.aload_n 0, 1) := by decide +kernel
theorem dX7_translate_54 : decode cX7_translate 54 = .ok (.getfield 14, 3) := by decide +kernel
theorem dX7_translate_57 : decode cX7_translate 57 = .ok (.invokevirtual 51, 3) := by decide +kernel
theorem dX7_translate_60 : decode cX7_translate 60 = .ok (.aload_n 0, 1) := by decide +kernel
theorem dX7_translate_61 : decode cX7_translate 61 = .ok (.iconst 0, 1) := by decide +kernel
theorem dX7_translate_62 : decode cX7_translate 62 = .ok (.putfield 52, 3) := by decide +kernel
theorem dX7_translate_65 : decode cX7_translate 65 = .ok (.aload_n 0, 1) := by decide +kernel
theorem dX7_translate_66 : decode cX7_translate 66 = .ok (.iconst 0, 1) := by decide +kernel
theorem dX7_translate_67 : decode cX7_translate 67 = .ok (.putfield 55, 3) := by decide +kernel
theorem dX7_translate_70 : decode cX7_translate 70 = .ok (.aload_n 0, 1) := by decide +kernel
theorem dX7_translate_71 : decode cX7_translate 71 = .ok (.iconst 0, 1) := by decide +kernel
theorem dX7_translate_72 : decode cX7_translate 72 = .ok (.putfield 58, 3) := by decide +kernel
theorem dX7_translate_75 : decode cX7_translate 75 = .ok (.aload_n 0, 1) := by decide +kernel
theorem dX7_translate_76 : decode cX7_translate 76 = .ok (.iconst 1, 1) := by decide +kernel
theorem dX7_translate_77 : decode cX7_translate 77 = .ok (.putfield 61, 3) := by decide +kernel
theorem dX7_translate_80 : decode cX7_translate 80 = .ok (.aload_n 0, 1) := by decide +kernel
theorem dX7_translate_81 : decode cX7_translate 81 = .ok (.iconst (-1), 1) := by decide +kernel
theorem dX7_translate_82 : decode cX7_translate 82 = .ok (.putfield 65, 3) := by decide +kernel
theorem dX7_translate_85 : decode cX7_translate 85 = .ok (.aload_n 0, 1) := by decide +kernel
theorem dX7_translate_86 : decode cX7_translate 86 = .ok (.iconst 0, 1) := by decide +kernel
theorem dX7_translate_87 : decode cX7_translate 87 = .ok (.putfield 68, 3) := by decide +kernel
theorem dX7_translate_90 : decode cX7_translate 90 = .ok (.aload_n 0, 1) := by decide +kernel
theorem dX7_translate_91 : decode cX7_translate 91 = .ok (.getfield 71, 3) := by decide +kernel
theorem dX7_translate_94 : decode cX7_translate 94 = .ok (.iload_n 1, 1) := by decide +kernel
theorem dX7_translate_95 : decode cX7_translate 95 = .ok (.invokevirtual 75, 3) := by decide +kernel
theorem dX7_translate_98 : decode cX7_translate 98 = .ok (.aload_n 0, 1) := by decide +kernel
theorem dX7_translate_99 : decode cX7_translate 99 = .ok (.getfield 14, 3) := by decide +kernel
theorem dX7_translate_102 : decode cX7_translate 102 = .ok (.sipush 300, 3) := by decide +kernel
theorem dX7_translate_105 : decode cX7_translate 105 = .ok (.iconst 0, 1) := by decide +kernel
theorem dX7_translate_106 : decode cX7_translate 106 = .ok (.aload_n 0, 1) := by decide +kernel
theorem dX7_translate_107 : decode cX7_translate 107 = .ok (.getfield 29, 3) := by decide +kernel
theorem dX7_translate_110 : decode cX7_translate 110 = .ok (.getfield 33, 3) := by decide +kernel
theorem dX7_translate_113 : decode cX7_translate 113 = .ok (.invokevirtual 81, 3) := by decide +kernel
theorem dX7_translate_116 : decode cX7_translate 116 = .ok (.pop, 1) := by decide +kernel
theorem dX7_translate_117 : decode cX7_translate 117 = .ok (.aload_n 0, 1) := by decide +kernel
theorem dX7_translate_118 : decode cX7_translate 118 = .ok (.iconst 0, 1) := by decide +kernel
theorem dX7_translate_119 : decode cX7_translate 119 = .ok (.invokevirtual 85, 3) := by decide +kernel
theorem dX7_translate_122 : decode cX7_translate 122 = .ok (.aload_n 0, 1) := by decide +kernel
theorem dX7_translate_123 : decode cX7_translate 123 = .ok (.getfield 65, 3) := by decide +kernel
theorem dX7_translate_126 : decode cX7_translate 126 = .ok (.ifCond .lt 13, 3) := by decide +kernel
theorem dX7_translate_129 : decode cX7_translate 129 = .ok (.aload_n 0, 1) := by decide +kernel
theorem dX7_translate_130 : decode cX7_translate 130 = .ok (.bipush 7, 2) := by decide +kernel
theorem dX7_translate_132 : decode cX7_translate 132 = .ok (.aload_n 0, 1) := by decide +kernel
theorem dX7_translate_133 : decode cX7_translate 133 = .ok (.getfield 65, 3) := by decide +kernel
theorem dX7_translate_136 : decode cX7_translate 136 = .ok (.invokevirtual 88, 3) := by decide +kernel
theorem dX7_translate_139 : decode cX7_translate 139 = .ok (.aload_n 0, 1) := by decide +kernel
theorem dX7_translate_140 : decode cX7_translate 140 = .ok (.getfield 52, 3) := by decide +kernel
theorem dX7_translate_143 : decode cX7_translate 143 = .ok (.ireturn, 1) := by decide +kernel
theorem dX7_turns_0 : decode cX7_turns 0 = .ok (.iconst 0, 1) := by decide +kernel
theorem dX7_turns_1 : decode cX7_turns 1 = .ok (.istore_n 2, 1) := by decide +kernel
theorem dX7_turns_2 : decode cX7_turns 2 = .ok (.iload_n 2, 1) := by decide +kernel
theorem dX7_turns_3 : decode cX7_turns 3 = .ok (.sipush 10000, 3) := by decide +kernel
theorem dX7_turns_6 : decode cX7_turns 6 = .ok (.if_icmp .ge 158, 3) := by decide +kernel
theorem dX7_turns_9 : decode cX7_turns 9 = .ok (.aload_n 0, 1) := by decide +kernel
theorem dX7_turns_10 : decode cX7_turns 10 = .ok (.getfield 52, 3) := by decide +kernel
theorem dX7_turns_13 : decode cX7_turns 13 = .ok (.ifCond .ne 151, 3) := by decide +kernel
theorem dX7_turns_16 : decode cX7_turns 16 = .ok (.aload_n 0, 1) := by decide +kernel
theorem dX7_turns_17 : decode cX7_turns 17 = .ok (.getfield 14, 3) := by decide +kernel
theorem dX7_turns_20 : decode cX7_turns 20 = .ok (.getfield 92, 3) := by decide +kernel
theorem dX7_turns_23 : decode cX7_turns 23 = .ok (.iload_n 1, 1) := by decide +kernel
theorem dX7_turns_24 : decode cX7_turns 24 = .ok (.if_icmp .le 140, 3) := by decide +kernel
theorem dX7_turns_27 : decode cX7_turns 27 = .ok (.aload_n 0, 1) := by decide +kernel
theorem dX7_turns_28 : decode cX7_turns 28 = .ok (.getfield 14, 3) := by decide +kernel
theorem dX7_turns_31 : decode cX7_turns 31 = .ok (.aload_n 0, 1) := by decide +kernel
theorem dX7_turns_32 : decode cX7_turns 32 = .ok (.getfield 14, 3) := by decide +kernel
theorem dX7_turns_35 : decode cX7_turns 35 = .ok (.getfield 92, 3) := by decide +kernel
theorem dX7_turns_38 : decode cX7_turns 38 = .ok (.iconst 1, 1) := by decide +kernel
theorem dX7_turns_39 : decode cX7_turns 39 = .ok (.isub, 1) := by decide +kernel
theorem dX7_turns_40 : decode cX7_turns 40 = .ok (.invokevirtual 93, 3) := by decide +kernel
theorem dX7_turns_43 : decode cX7_turns 43 = .ok (.astore_n 3, 1) := by decide +kernel
theorem dX7_turns_44 : decode cX7_turns 44 = .ok (.aload_n 3, 1) := by decide +kernel
theorem dX7_turns_45 : decode cX7_turns 45 = .ok (.ifnonnull 4, 3) := by decide +kernel
theorem dX7_turns_48 : decode cX7_turns 48 = .ok (.return_, 1) := by decide +kernel
theorem dX7_turns_49 : decode cX7_turns 49 = .ok (.aload_n 3, 1) := by decide +kernel
theorem dX7_turns_50 : decode cX7_turns 50 = .ok (.invokevirtual 97, 3) := by decide +kernel
theorem dX7_turns_53 : decode cX7_turns 53 = .ok (.ifCond .eq 11, 3) := by decide +kernel
theorem dX7_turns_56 : decode cX7_turns 56 = .ok (.aload_n 0, 1) := by decide +kernel
theorem dX7_turns_57 : decode cX7_turns 57 = .ok (.aload_n 3, 1) := by decide +kernel
theorem dX7_turns_58 : decode cX7_turns 58 = .ok (.invokevirtual 103, 3) := by decide +kernel
theorem dX7_turns_61 : decode cX7_turns 61 = .ok (.goto 97, 3) := by decide +kernel
theorem dX7_turns_64 : decode cX7_turns 64 = .ok (.aload_n 3, 1) := by decide +kernel
theorem dX7_turns_65 : decode cX7_turns 65 = .ok (.getfield 107, 3) := by decide +kernel
theorem dX7_turns_68 : decode cX7_turns 68 = .ok (.sipush 305, 3) := by decide +kernel
theorem dX7_turns_71 : decode cX7_turns 71 = .ok (.if_icmp .ne 21, 3) := by decide +kernel
theorem dX7_turns_74 : decode cX7_turns 74 = .ok (.aload_n 0, 1) := by decide +kernel
theorem dX7_turns_75 : decode cX7_turns 75 = .ok (.sipush 215, 3) := by decide +kernel
theorem dX7_turns_78 : decode cX7_turns 78 = .ok (.invokevirtual 110, 3) := by decide +kernel
theorem dX7_turns_81 : decode cX7_turns 81 = .ok (.ifCond .eq 11, 3) := by decide +kernel
theorem dX7_turns_84 : decode cX7_turns 84 = .ok (.aload_n 0, 1) := by decide +kernel
theorem dX7_turns_85 : decode cX7_turns 85 = .ok (.aload_n 3, 1) := by decide +kernel
theorem dX7_turns_86 : decode cX7_turns 86 = .ok (.invokevirtual 114, 3) := by decide +kernel
theorem dX7_turns_89 : decode cX7_turns 89 = .ok (.goto 69, 3) := by decide +kernel
theorem dX7_turns_92 : decode cX7_turns 92 = .ok (.aload_n 3, 1) := by decide +kernel
theorem dX7_turns_93 : decode cX7_turns 93 = .ok (.getfield 107, 3) := by decide +kernel
theorem dX7_turns_96 : decode cX7_turns 96 = .ok (.sipush 305, 3) := by decide +kernel
theorem dX7_turns_99 : decode cX7_turns 99 = .ok (.if_icmp .ne 11, 3) := by decide +kernel
theorem dX7_turns_102 : decode cX7_turns 102 = .ok (.aload_n 0, 1) := by decide +kernel
theorem dX7_turns_103 : decode cX7_turns 103 = .ok (.aload_n 3, 1) := by decide +kernel
theorem dX7_turns_104 : decode cX7_turns 104 = .ok (.invokevirtual 117, 3) := by decide +kernel
theorem dX7_turns_107 : decode cX7_turns 107 = .ok (.goto 51, 3) := by decide +kernel
theorem dX7_turns_110 : decode cX7_turns 110 = .ok (.aload_n 0, 1) := by decide +kernel
theorem dX7_turns_111 : decode cX7_turns 111 = .ok (.bipush 125, 2) := by decide +kernel
theorem dX7_turns_113 : decode cX7_turns 113 = .ok (.invokevirtual 110, 3) := by decide +kernel
theorem dX7_turns_116 : decode cX7_turns 116 = .ok (.ifCond .ne 11, 3) := by decide +kernel
theorem dX7_turns_119 : decode cX7_turns 119 = .ok (.aload_n 0, 1) := by decide +kernel
theorem dX7_turns_120 : decode cX7_turns 120 = .ok (.iconst 0, 1) := by decide +kernel
theorem dX7_turns_121 : decode cX7_turns 121 = .ok (.invokevirtual 110, 3) := by decide +kernel
theorem dX7_turns_124 : decode cX7_turns 124 = .ok (.ifCond .eq 11, 3) := by decide +kernel
theorem dX7_turns_127 : decode cX7_turns 127 = .ok (.aload_n 0, 1) := by decide +kernel
theorem dX7_turns_128 : decode cX7_turns 128 = .ok (.aload_n 3, 1) := by decide +kernel
theorem dX7_turns_129 : decode cX7_turns 129 = .ok (.invokevirtual 120, 3) := by decide +kernel
theorem dX7_turns_132 : decode cX7_turns 132 = .ok (.goto 26, 3) := by decide +kernel
theorem dX7_turns_135 : decode cX7_turns 135 = .ok (.aload_n 3, 1) := by decide +kernel
theorem dX7_turns_136 : decode cX7_turns 136 = .ok (.getfield 107, 3) := by decide +kernel
theorem dX7_turns_139 : decode cX7_turns 139 = .ok (.sipush 218, 3) := by decide +kernel
theorem dX7_turns_142 : decode cX7_turns 142 = .ok (.if_icmp .ne 11, 3) := by decide +kernel
theorem dX7_turns_145 : decode cX7_turns 145 = .ok (.aload_n 0, 1) := by decide +kernel
theorem dX7_turns_146 : decode cX7_turns 146 = .ok (.aload_n 3, 1) := by decide +kernel
theorem dX7_turns_147 : decode cX7_turns 147 = .ok (.invokevirtual 123, 3) := by decide +kernel
theorem dX7_turns_150 : decode cX7_turns 150 = .ok (.goto 8, 3) := by decide +kernel
theorem dX7_turns_153 : decode cX7_turns 153 = .ok (.aload_n 0, 1) := by decide +kernel
theorem dX7_turns_154 : decode cX7_turns 154 = .ok (.iconst 0, 1) := by decide +kernel
theorem dX7_turns_155 : decode cX7_turns 155 = .ok (.invokevirtual 126, 3) := by decide +kernel
theorem dX7_turns_158 : decode cX7_turns 158 = .ok (.iinc 2 1, 3) := by decide +kernel
theorem dX7_turns_161 : decode cX7_turns 161 = .ok (.goto (-159), 3) := by decide +kernel
theorem dX7_turns_164 : decode cX7_turns 164 = .ok (.return_, 1) := by decide +kernel
theorem dX7_bodyTurn_0 : decode cX7_bodyTurn 0 = .ok (.aload_n 1, 1) := by decide +kernel
theorem dX7_bodyTurn_1 : decode cX7_bodyTurn 1 = .ok (.getfield 130, 3) := by decide +kernel
theorem dX7_bodyTurn_4 : decode cX7_bodyTurn 4 = .ok (.ifCond .eq 11, 3) := by decide +kernel
theorem dX7_bodyTurn_7 : decode cX7_bodyTurn 7 = .ok (.aload_n 0, 1) := by decide +kernel
theorem dX7_bodyTurn_8 : decode cX7_bodyTurn 8 = .ok (.aload_n 1, 1) := by decide +kernel
theorem dX7_bodyTurn_9 : decode cX7_bodyTurn 9 = .ok (.invokevirtual 133, 3) := by decide +kernel
theorem dX7_bodyTurn_12 : decode cX7_bodyTurn 12 = .ok (.goto 13, 3) := by decide +kernel
theorem dX7_bodyTurn_15 : decode cX7_bodyTurn 15 = .ok (.aload_n 1, 1) := by decide +kernel
theorem dX7_bodyTurn_16 : decode cX7_bodyTurn 16 = .ok (.iconst 1, 1) := by decide +kernel
theorem dX7_bodyTurn_17 : decode cX7_bodyTurn 17 = .ok (.putfield 130, 3) := by decide +kernel
theorem dX7_bodyTurn_20 : decode cX7_bodyTurn 20 = .ok (.aload_n 0, 1) := by decide +kernel
theorem dX7_bodyTurn_21 : decode cX7_bodyTurn 21 = .ok (.iconst 1, 1) := by decide +kernel
theorem dX7_bodyTurn_22 : decode cX7_bodyTurn 22 = .ok (.invokevirtual 126, 3) := by decide +kernel
theorem dX7_bodyTurn_25 : decode cX7_bodyTurn 25 = .ok (.return_, 1) := by decide +kernel
theorem dX7_groupTurn_0 : decode cX7_groupTurn 0 = .ok (.aload_n 0, 1) := by decide +kernel
theorem dX7_groupTurn_1 : decode cX7_groupTurn 1 = .ok (.sipush 219, 3) := by decide +kernel
theorem dX7_groupTurn_4 : decode cX7_groupTurn 4 = .ok (.invokevirtual 110, 3) := by decide +kernel
theorem dX7_groupTurn_7 : decode cX7_groupTurn 7 = .ok (.ifCond .ne 13, 3) := by decide +kernel
theorem dX7_groupTurn_10 : decode cX7_groupTurn 10 = .ok (.aload_n 0, 1) := by decide +kernel
theorem dX7_groupTurn_11 : decode cX7_groupTurn 11 = .ok (.sipush 220, 3) := by decide +kernel
theorem dX7_groupTurn_14 : decode cX7_groupTurn 14 = .ok (.invokevirtual 110, 3) := by decide +kernel
theorem dX7_groupTurn_17 : decode cX7_groupTurn 17 = .ok (.ifCond .eq 97, 3) := by decide +kernel
theorem dX7_groupTurn_20 : decode cX7_groupTurn 20 = .ok (.aload_n 0, 1) := by decide +kernel
theorem dX7_groupTurn_21 : decode cX7_groupTurn 21 = .ok (.getfield 20, 3) := by decide +kernel
theorem dX7_groupTurn_24 : decode cX7_groupTurn 24 = .ok (.invokevirtual 136, 3) := by decide +kernel
theorem dX7_groupTurn_27 : decode cX7_groupTurn 27 = .ok (.istore_n 2, 1) := by decide +kernel
theorem dX7_groupTurn_28 : decode cX7_groupTurn 28 = .ok (.aload_n 0, 1) := by decide +kernel
theorem dX7_groupTurn_29 : decode cX7_groupTurn 29 = .ok (.sipush 219, 3) := by decide +kernel
theorem dX7_groupTurn_32 : decode cX7_groupTurn 32 = .ok (.invokevirtual 110, 3) := by decide +kernel
theorem dX7_groupTurn_35 : decode cX7_groupTurn 35 = .ok (.istore_n 3, 1) := by decide +kernel
theorem dX7_groupTurn_36 : decode cX7_groupTurn 36 = .ok (.iload_n 3, 1) := by decide +kernel
theorem dX7_groupTurn_37 : decode cX7_groupTurn 37 = .ok (.ifCond .ne 22, 3) := by decide +kernel
theorem dX7_groupTurn_40 : decode cX7_groupTurn 40 = .ok (.aload_n 1, 1) := by decide +kernel
theorem dX7_groupTurn_41 : decode cX7_groupTurn 41 = .ok (.getfield 140, 3) := by decide +kernel
theorem dX7_groupTurn_44 : decode cX7_groupTurn 44 = .ok (.ifCond .lt 15, 3) := by decide +kernel
theorem dX7_groupTurn_47 : decode cX7_groupTurn 47 = .ok (.aload_n 0, 1) := by decide +kernel
theorem dX7_groupTurn_48 : decode cX7_groupTurn 48 = .ok (.iconst 4, 1) := by decide +kernel
theorem dX7_groupTurn_49 : decode cX7_groupTurn 49 = .ok (.aload_n 0, 1) := by decide +kernel
theorem dX7_groupTurn_50 : decode cX7_groupTurn 50 = .ok (.getfield 71, 3) := by decide +kernel
theorem dX7_groupTurn_53 : decode cX7_groupTurn 53 = .ok (.getfield 143, 3) := by decide +kernel
theorem dX7_groupTurn_56 : decode cX7_groupTurn 56 = .ok (.invokevirtual 88, 3) := by decide +kernel
theorem dX7_groupTurn_59 : decode cX7_groupTurn 59 = .ok (.aload_n 0, 1) := by decide +kernel
theorem dX7_groupTurn_60 : decode cX7_groupTurn 60 = .ok (.getfield 71, 3) := by decide +kernel
theorem dX7_groupTurn_63 : decode cX7_groupTurn 63 = .ok (.invokevirtual 146, 3) := by decide +kernel
theorem dX7_groupTurn_66 : decode cX7_groupTurn 66 = .ok (.iload_n 3, 1) := by decide +kernel
theorem dX7_groupTurn_67 : decode cX7_groupTurn 67 = .ok (.ifCond .eq 15, 3) := by decide +kernel
theorem dX7_groupTurn_70 : decode cX7_groupTurn 70 = .ok (.aload_n 0, 1) := by decide +kernel
theorem dX7_groupTurn_71 : decode cX7_groupTurn 71 = .ok (.aload_n 1, 1) := by decide +kernel
theorem dX7_groupTurn_72 : decode cX7_groupTurn 72 = .ok (.getfield 149, 3) := by decide +kernel
theorem dX7_groupTurn_75 : decode cX7_groupTurn 75 = .ok (.iload_n 2, 1) := by decide +kernel
theorem dX7_groupTurn_76 : decode cX7_groupTurn 76 = .ok (.invokevirtual 152, 3) := by decide +kernel
theorem dX7_groupTurn_79 : decode cX7_groupTurn 79 = .ok (.goto 8, 3) := by decide +kernel
theorem dX7_groupTurn_82 : decode cX7_groupTurn 82 = .ok (.aload_n 1, 1) := by decide +kernel
theorem dX7_groupTurn_83 : decode cX7_groupTurn 83 = .ok (.iload_n 2, 1) := by decide +kernel
theorem dX7_groupTurn_84 : decode cX7_groupTurn 84 = .ok (.putfield 140, 3) := by decide +kernel
theorem dX7_groupTurn_87 : decode cX7_groupTurn 87 = .ok (.aload_n 0, 1) := by decide +kernel
theorem dX7_groupTurn_88 : decode cX7_groupTurn 88 = .ok (.bipush 58, 2) := by decide +kernel
theorem dX7_groupTurn_90 : decode cX7_groupTurn 90 = .ok (.invokevirtual 155, 3) := by decide +kernel
theorem dX7_groupTurn_93 : decode cX7_groupTurn 93 = .ok (.aload_n 0, 1) := by decide +kernel
theorem dX7_groupTurn_94 : decode cX7_groupTurn 94 = .ok (.getfield 20, 3) := by decide +kernel
theorem dX7_groupTurn_97 : decode cX7_groupTurn 97 = .ok (.iload_n 2, 1) := by decide +kernel
theorem dX7_groupTurn_98 : decode cX7_groupTurn 98 = .ok (.invokevirtual 158, 3) := by decide +kernel
theorem dX7_groupTurn_101 : decode cX7_groupTurn 101 = .ok (.aload_n 1, 1) := by decide +kernel
theorem dX7_groupTurn_102 : decode cX7_groupTurn 102 = .ok (.iconst 1, 1) := by decide +kernel
theorem dX7_groupTurn_103 : decode cX7_groupTurn 103 = .ok (.putfield 130, 3) := by decide +kernel
theorem dX7_groupTurn_106 : decode cX7_groupTurn 106 = .ok (.aload_n 0, 1) := by decide +kernel
theorem dX7_groupTurn_107 : decode cX7_groupTurn 107 = .ok (.iconst 1, 1) := by decide +kernel
theorem dX7_groupTurn_108 : decode cX7_groupTurn 108 = .ok (.putfield 61, 3) := by decide +kernel
theorem dX7_groupTurn_111 : decode cX7_groupTurn 111 = .ok (.goto 22, 3) := by decide +kernel
theorem dX7_groupTurn_114 : decode cX7_groupTurn 114 = .ok (.aload_n 1, 1) := by decide +kernel
theorem dX7_groupTurn_115 : decode cX7_groupTurn 115 = .ok (.getfield 130, 3) := by decide +kernel
theorem dX7_groupTurn_118 : decode cX7_groupTurn 118 = .ok (.ifCond .eq 11, 3) := by decide +kernel
theorem dX7_groupTurn_121 : decode cX7_groupTurn 121 = .ok (.aload_n 0, 1) := by decide +kernel
theorem dX7_groupTurn_122 : decode cX7_groupTurn 122 = .ok (.iconst 0, 1) := by decide +kernel
theorem dX7_groupTurn_123 : decode cX7_groupTurn 123 = .ok (.invokevirtual 126, 3) := by decide +kernel
theorem dX7_groupTurn_126 : decode cX7_groupTurn 126 = .ok (.goto 7, 3) := by decide +kernel
theorem dX7_groupTurn_129 : decode cX7_groupTurn 129 = .ok (.aload_n 0, 1) := by decide +kernel
theorem dX7_groupTurn_130 : decode cX7_groupTurn 130 = .ok (.invokevirtual 161, 3) := by decide +kernel
theorem dX7_groupTurn_133 : decode cX7_groupTurn 133 = .ok (.return_, 1) := by decide +kernel
theorem dX7_statement_0 : decode cX7_statement 0 = .ok (.aload_n 0, 1) := by decide +kernel
theorem dX7_statement_1 : decode cX7_statement 1 = .ok (.getfield 61, 3) := by decide +kernel
theorem dX7_statement_4 : decode cX7_statement 4 = .ok (.ifCond .ne 14, 3) := by decide +kernel
theorem dX7_statement_7 : decode cX7_statement 7 = .ok (.aload_n 0, 1) := by decide +kernel
theorem dX7_statement_8 : decode cX7_statement 8 = .ok (.aload_n 0, 1) := by decide +kernel
theorem dX7_statement_9 : decode cX7_statement 9 = .ok (.getfield 71, 3) := by decide +kernel
theorem dX7_statement_12 : decode cX7_statement 12 = .ok (.getfield 143, 3) := by decide +kernel
theorem dX7_statement_15 : decode cX7_statement 15 = .ok (.invokevirtual 164, 3) := by decide +kernel
theorem dX7_statement_18 : decode cX7_statement 18 = .ok (.aload_n 0, 1) := by decide +kernel
theorem dX7_statement_19 : decode cX7_statement 19 = .ok (.iconst 1, 1) := by decide +kernel
theorem dX7_statement_20 : decode cX7_statement 20 = .ok (.putfield 61, 3) := by decide +kernel
theorem dX7_statement_23 : decode cX7_statement 23 = .ok (.aload_n 0, 1) := by decide +kernel
theorem dX7_statement_24 : decode cX7_statement 24 = .ok (.getfield 20, 3) := by decide +kernel
theorem dX7_statement_27 : decode cX7_statement 27 = .ok (.dup, 1) := by decide +kernel
theorem dX7_statement_28 : decode cX7_statement 28 = .ok (.getfield 167, 3) := by decide +kernel
theorem dX7_statement_31 : decode cX7_statement 31 = .ok (.iconst 1, 1) := by decide +kernel
theorem dX7_statement_32 : decode cX7_statement 32 = .ok (.iadd, 1) := by decide +kernel
theorem dX7_statement_33 : decode cX7_statement 33 = .ok (.putfield 167, 3) := by decide +kernel
theorem dX7_statement_36 : decode cX7_statement 36 = .ok (.aload_n 0, 1) := by decide +kernel
theorem dX7_statement_37 : decode cX7_statement 37 = .ok (.iconst 2, 1) := by decide +kernel
theorem dX7_statement_38 : decode cX7_statement 38 = .ok (.invokevirtual 110, 3) := by decide +kernel
theorem dX7_statement_41 : decode cX7_statement 41 = .ok (.ifCond .eq 10, 3) := by decide +kernel
theorem dX7_statement_44 : decode cX7_statement 44 = .ok (.aload_n 0, 1) := by decide +kernel
theorem dX7_statement_45 : decode cX7_statement 45 = .ok (.invokevirtual 170, 3) := by decide +kernel
theorem dX7_statement_48 : decode cX7_statement 48 = .ok (.goto 88, 3) := by decide +kernel
theorem dX7_statement_51 : decode cX7_statement 51 = .ok (.aload_n 0, 1) := by decide +kernel
theorem dX7_statement_52 : decode cX7_statement 52 = .ok (.bipush 123, 2) := by decide +kernel
theorem dX7_statement_54 : decode cX7_statement 54 = .ok (.invokevirtual 110, 3) := by decide +kernel
theorem dX7_statement_57 : decode cX7_statement 57 = .ok (.ifCond .eq 34, 3) := by decide +kernel
theorem dX7_statement_60 : decode cX7_statement 60 = .ok (.aload_n 0, 1) := by decide +kernel
theorem dX7_statement_61 : decode cX7_statement 61 = .ok (.bipush 123, 2) := by decide +kernel
theorem dX7_statement_63 : decode cX7_statement 63 = .ok (.invokevirtual 173, 3) := by decide +kernel
theorem dX7_statement_66 : decode cX7_statement 66 = .ok (.aload_n 0, 1) := by decide +kernel
theorem dX7_statement_67 : decode cX7_statement 67 = .ok (.getfield 14, 3) := by decide +kernel
theorem dX7_statement_70 : decode cX7_statement 70 = .ok (.sipush 301, 3) := by decide +kernel
theorem dX7_statement_73 : decode cX7_statement 73 = .ok (.aload_n 0, 1) := by decide +kernel
theorem dX7_statement_74 : decode cX7_statement 74 = .ok (.getfield 68, 3) := by decide +kernel
theorem dX7_statement_77 : decode cX7_statement 77 = .ok (.aload_n 0, 1) := by decide +kernel
theorem dX7_statement_78 : decode cX7_statement 78 = .ok (.getfield 29, 3) := by decide +kernel
theorem dX7_statement_81 : decode cX7_statement 81 = .ok (.getfield 33, 3) := by decide +kernel
theorem dX7_statement_84 : decode cX7_statement 84 = .ok (.invokevirtual 81, 3) := by decide +kernel
theorem dX7_statement_87 : decode cX7_statement 87 = .ok (.pop, 1) := by decide +kernel
theorem dX7_statement_88 : decode cX7_statement 88 = .ok (.goto 48, 3) := by decide +kernel
theorem dX7_statement_91 : decode cX7_statement 91 = .ok (.iload_n 1, 1) := by decide +kernel
theorem dX7_statement_92 : decode cX7_statement 92 = .ok (.ifCond .eq 30, 3) := by decide +kernel
theorem dX7_statement_95 : decode cX7_statement 95 = .ok (.aload_n 0, 1) := by decide +kernel
theorem dX7_statement_96 : decode cX7_statement 96 = .ok (.sipush 200, 3) := by decide +kernel
theorem dX7_statement_99 : decode cX7_statement 99 = .ok (.invokevirtual 110, 3) := by decide +kernel
theorem dX7_statement_102 : decode cX7_statement 102 = .ok (.ifCond .ne 13, 3) := by decide +kernel
theorem dX7_statement_105 : decode cX7_statement 105 = .ok (.aload_n 0, 1) := by decide +kernel
theorem dX7_statement_106 : decode cX7_statement 106 = .ok (.sipush 201, 3) := by decide +kernel
theorem dX7_statement_109 : decode cX7_statement 109 = .ok (.invokevirtual 110, 3) := by decide +kernel
theorem dX7_statement_112 : decode cX7_statement 112 = .ok (.ifCond .eq 10, 3) := by decide +kernel
theorem dX7_statement_115 : decode cX7_statement 115 = .ok (.aload_n 0, 1) := by decide +kernel
theorem dX7_statement_116 : decode cX7_statement 116 = .ok (.invokevirtual 161, 3) := by decide +kernel
theorem dX7_statement_119 : decode cX7_statement 119 = .ok (.goto 17, 3) := by decide +kernel
theorem dX7_statement_122 : decode cX7_statement 122 = .ok (.aload_n 0, 1) := by decide +kernel
theorem dX7_statement_123 : decode cX7_statement 123 = .ok (.getfield 20, 3) := by decide +kernel
theorem dX7_statement_126 : decode cX7_statement 126 = .ok (.bipush 51, 2) := by decide +kernel
theorem dX7_statement_128 : decode cX7_statement 128 = .ok (.iconst 0, 1) := by decide +kernel
theorem dX7_statement_129 : decode cX7_statement 129 = .ok (.invokevirtual 176, 3) := by decide +kernel
theorem dX7_statement_132 : decode cX7_statement 132 = .ok (.aload_n 0, 1) := by decide +kernel
theorem dX7_statement_133 : decode cX7_statement 133 = .ok (.invokevirtual 178, 3) := by decide +kernel
theorem dX7_statement_136 : decode cX7_statement 136 = .ok (.return_, 1) := by decide +kernel
theorem dX7_notReached_0 : decode cX7_notReached 0 = .ok (.aload_n 0, 1) := by decide +kernel
theorem dX7_notReached_1 : decode cX7_notReached 1 = .ok (.getfield 65, 3) := by decide +kernel
theorem dX7_notReached_4 : decode cX7_notReached 4 = .ok (.ifCond .ge 8, 3) := by decide +kernel
theorem dX7_notReached_7 : decode cX7_notReached 7 = .ok (.aload_n 0, 1) := by decide +kernel
theorem dX7_notReached_8 : decode cX7_notReached 8 = .ok (.iload_n 1, 1) := by decide +kernel
theorem dX7_notReached_9 : decode cX7_notReached 9 = .ok (.putfield 65, 3) := by decide +kernel
theorem dX7_notReached_12 : decode cX7_notReached 12 = .ok (.return_, 1) := by decide +kernel
theorem dX7_named_0 : decode cX7_named 0 = .ok (.aload_n 0, 1) := by decide +kernel
theorem dX7_named_1 : decode cX7_named 1 = .ok (.getfield 71, 3) := by decide +kernel
theorem dX7_named_4 : decode cX7_named 4 = .ok (.getfield 181, 3) := by decide +kernel
theorem dX7_named_7 : decode cX7_named 7 = .ok (.lstore_n 1, 1) := by decide +kernel
theorem dX7_named_8 : decode cX7_named 8 = .ok (.aload_n 0, 1) := by decide +kernel
theorem dX7_named_9 : decode cX7_named 9 = .ok (.getfield 71, 3) := by decide +kernel
theorem dX7_named_12 : decode cX7_named 12 = .ok (.getfield 143, 3) := by decide +kernel
theorem dX7_named_15 : decode cX7_named 15 = .ok (.istore_n 3, 1) := by decide +kernel
theorem dX7_named_16 : decode cX7_named 16 = .ok (.aload_n 0, 1) := by decide +kernel
theorem dX7_named_17 : decode cX7_named 17 = .ok (.getfield 71, 3) := by decide +kernel
theorem dX7_named_20 : decode cX7_named 20 = .ok (.invokevirtual 146, 3) := by decide +kernel
theorem dX7_named_23 : decode cX7_named 23 = .ok (.aload_n 0, 1) := by decide +kernel
theorem dX7_named_24 : decode cX7_named 24 = .ok (.bipush 58, 2) := by decide +kernel
theorem dX7_named_26 : decode cX7_named 26 = .ok (.invokevirtual 110, 3) := by decide +kernel
theorem dX7_named_29 : decode cX7_named 29 = .ok (.ifCond .ne 27, 3) := by decide +kernel
theorem dX7_named_32 : decode cX7_named 32 = .ok (.aload_n 0, 1) := by decide +kernel
theorem dX7_named_33 : decode cX7_named 33 = .ok (.getfield 20, 3) := by decide +kernel
theorem dX7_named_36 : decode cX7_named 36 = .ok (.bipush 51, 2) := by decide +kernel
theorem dX7_named_38 : decode cX7_named 38 = .ok (.iconst 0, 1) := by decide +kernel
theorem dX7_named_39 : decode cX7_named 39 = .ok (.invokevirtual 176, 3) := by decide +kernel
theorem dX7_named_42 : decode cX7_named 42 = .ok (.aload_n 0, 1) := by decide +kernel
theorem dX7_named_43 : decode cX7_named 43 = .ok (.lload_n 1, 1) := by decide +kernel
theorem dX7_named_44 : decode cX7_named 44 = .ok (.iload_n 3, 1) := by decide +kernel
theorem dX7_named_45 : decode cX7_named 45 = .ok (.iconst 1, 1) := by decide +kernel
theorem dX7_named_46 : decode cX7_named 46 = .ok (.invokevirtual 185, 3) := by decide +kernel
theorem dX7_named_49 : decode cX7_named 49 = .ok (.aload_n 0, 1) := by decide +kernel
theorem dX7_named_50 : decode cX7_named 50 = .ok (.bipush 59, 2) := by decide +kernel
theorem dX7_named_52 : decode cX7_named 52 = .ok (.invokevirtual 155, 3) := by decide +kernel
theorem dX7_named_55 : decode cX7_named 55 = .ok (.return_, 1) := by decide +kernel
theorem dX7_named_56 : decode cX7_named 56 = .ok (.aload_n 0, 1) := by decide +kernel
theorem dX7_named_57 : decode cX7_named 57 = .ok (.getfield 14, 3) := by decide +kernel
theorem dX7_named_60 : decode cX7_named 60 = .ok (.lload_n 1, 1) := by decide +kernel
theorem dX7_named_61 : decode cX7_named 61 = .ok (.invokevirtual 189, 3) := by decide +kernel
theorem dX7_named_64 : decode cX7_named 64 = .ok (.ifCond .lt 9, 3) := by decide +kernel
theorem dX7_named_67 : decode cX7_named 67 = .ok (.aload_n 0, 1) := by decide +kernel
theorem dX7_named_68 : decode cX7_named 68 = .ok (.iconst 4, 1) := by decide +kernel
theorem dX7_named_69 : decode cX7_named 69 = .ok (.iload_n 3, 1) := by decide +kernel
end
section
theorem dX7_named_70 : decode cX7_named 70 = .ok (.invokevirtual 88, 3) := by decide +kernel
theorem dX7_named_73 : decode cX7_named 73 = .ok (.aload_n 0, 1) := by decide +kernel
theorem dX7_named_74 : decode cX7_named 74 = .ok (.getfield 71, 3) := by decide +kernel
theorem dX7_named_77 : decode cX7_named 77 = .ok (.invokevirtual 146, 3) := by decide +kernel
theorem dX7_named_80 : decode cX7_named 80 = .ok (.aload_n 0, 1) := by decide +kernel
theorem dX7_named_81 : decode cX7_named 81 = .ok (.getfield 14, 3) := by decide +kernel
theorem dX7_named_84 : decode cX7_named 84 = .ok (.sipush 303, 3) := by decide +kernel
theorem dX7_named_87 : decode cX7_named 87 = .ok (.aload_n 0, 1) := by decide +kernel
theorem dX7_named_88 : decode cX7_named 88 = .ok (.getfield 68, 3) := by decide +kernel
theorem dX7_named_91 : decode cX7_named 91 = .ok (.aload_n 0, 1) := by decide +kernel
theorem dX7_named_92 : decode cX7_named 92 = .ok (.getfield 29, 3) := by decide +kernel
theorem dX7_named_95 : decode cX7_named 95 = .ok (.getfield 33, 3) := by decide +kernel
theorem dX7_named_98 : decode cX7_named 98 = .ok (.invokevirtual 81, 3) := by decide +kernel
theorem dX7_named_101 : decode cX7_named 101 = .ok (.astore 4, 2) := by decide +kernel
theorem dX7_named_103 : decode cX7_named 103 = .ok (.aload 4, 2) := by decide +kernel
theorem dX7_named_105 : decode cX7_named 105 = .ok (.lload_n 1, 1) := by decide +kernel
theorem dX7_named_106 : decode cX7_named 106 = .ok (.putfield 193, 3) := by decide +kernel
theorem dX7_named_109 : decode cX7_named 109 = .ok (.aload 4, 2) := by decide +kernel
theorem dX7_named_111 : decode cX7_named 111 = .ok (.aload_n 0, 1) := by decide +kernel
theorem dX7_named_112 : decode cX7_named 112 = .ok (.getfield 20, 3) := by decide +kernel
theorem dX7_named_115 : decode cX7_named 115 = .ok (.invokevirtual 136, 3) := by decide +kernel
theorem dX7_named_118 : decode cX7_named 118 = .ok (.putfield 196, 3) := by decide +kernel
theorem dX7_named_121 : decode cX7_named 121 = .ok (.return_, 1) := by decide +kernel
theorem dX7_change_0 : decode cX7_change 0 = .ok (.aload_n 0, 1) := by decide +kernel
theorem dX7_change_1 : decode cX7_change 1 = .ok (.getfield 29, 3) := by decide +kernel
theorem dX7_change_4 : decode cX7_change 4 = .ok (.lload_n 1, 1) := by decide +kernel
theorem dX7_change_5 : decode cX7_change 5 = .ok (.invokevirtual 199, 3) := by decide +kernel
theorem dX7_change_8 : decode cX7_change 8 = .ok (.istore 5, 2) := by decide +kernel
theorem dX7_change_10 : decode cX7_change 10 = .ok (.aload_n 0, 1) := by decide +kernel
theorem dX7_change_11 : decode cX7_change 11 = .ok (.bipush 61, 2) := by decide +kernel
theorem dX7_change_13 : decode cX7_change 13 = .ok (.invokevirtual 110, 3) := by decide +kernel
theorem dX7_change_16 : decode cX7_change 16 = .ok (.ifCond .ne 18, 3) := by decide +kernel
theorem dX7_change_19 : decode cX7_change 19 = .ok (.iload 4, 2) := by decide +kernel
theorem dX7_change_21 : decode cX7_change 21 = .ok (.ifCond .eq 17, 3) := by decide +kernel
theorem dX7_change_24 : decode cX7_change 24 = .ok (.aload_n 0, 1) := by decide +kernel
theorem dX7_change_25 : decode cX7_change 25 = .ok (.sipush 135, 3) := by decide +kernel
theorem dX7_change_28 : decode cX7_change 28 = .ok (.invokevirtual 110, 3) := by decide +kernel
theorem dX7_change_31 : decode cX7_change 31 = .ok (.ifCond .eq 7, 3) := by decide +kernel
theorem dX7_change_34 : decode cX7_change 34 = .ok (.iconst 1, 1) := by decide +kernel
theorem dX7_change_35 : decode cX7_change 35 = .ok (.goto 4, 3) := by decide +kernel
theorem dX7_change_38 : decode cX7_change 38 = .ok (.iconst 0, 1) := by decide +kernel
theorem dX7_change_39 : decode cX7_change 39 = .ok (.istore 6, 2) := by decide +kernel
theorem dX7_change_41 : decode cX7_change 41 = .ok (.iload 5, 2) := by decide +kernel
theorem dX7_change_43 : decode cX7_change 43 = .ok (.ifCond .lt 20, 3) := by decide +kernel
theorem dX7_change_46 : decode cX7_change 46 = .ok (.iload 6, 2) := by decide +kernel
theorem dX7_change_48 : decode cX7_change 48 = .ok (.ifCond .eq 24, 3) := by decide +kernel
theorem dX7_change_51 : decode cX7_change 51 = .ok (.aload_n 0, 1) := by decide +kernel
theorem dX7_change_52 : decode cX7_change 52 = .ok (.getfield 29, 3) := by decide +kernel
theorem dX7_change_55 : decode cX7_change 55 = .ok (.iload 5, 2) := by decide +kernel
theorem dX7_change_57 : decode cX7_change 57 = .ok (.invokevirtual 202, 3) := by decide +kernel
theorem dX7_change_60 : decode cX7_change 60 = .ok (.ifCond .eq 12, 3) := by decide +kernel
theorem dX7_change_63 : decode cX7_change 63 = .ok (.aload_n 0, 1) := by decide +kernel
theorem dX7_change_64 : decode cX7_change 64 = .ok (.iconst 3, 1) := by decide +kernel
theorem dX7_change_65 : decode cX7_change 65 = .ok (.iload_n 3, 1) := by decide +kernel
theorem dX7_change_66 : decode cX7_change 66 = .ok (.invokevirtual 88, 3) := by decide +kernel
theorem dX7_change_69 : decode cX7_change 69 = .ok (.goto 73, 3) := by decide +kernel
theorem dX7_change_72 : decode cX7_change 72 = .ok (.iload 6, 2) := by decide +kernel
theorem dX7_change_74 : decode cX7_change 74 = .ok (.ifCond .ne 10, 3) := by decide +kernel
theorem dX7_change_77 : decode cX7_change 77 = .ok (.aload_n 0, 1) := by decide +kernel
theorem dX7_change_78 : decode cX7_change 78 = .ok (.invokevirtual 161, 3) := by decide +kernel
theorem dX7_change_81 : decode cX7_change 81 = .ok (.goto 61, 3) := by decide +kernel
theorem dX7_change_84 : decode cX7_change 84 = .ok (.aload_n 0, 1) := by decide +kernel
theorem dX7_change_85 : decode cX7_change 85 = .ok (.sipush 135, 3) := by decide +kernel
theorem dX7_change_88 : decode cX7_change 88 = .ok (.invokevirtual 205, 3) := by decide +kernel
theorem dX7_change_91 : decode cX7_change 91 = .ok (.ifCond .eq 23, 3) := by decide +kernel
theorem dX7_change_94 : decode cX7_change 94 = .ok (.aload_n 0, 1) := by decide +kernel
theorem dX7_change_95 : decode cX7_change 95 = .ok (.getfield 20, 3) := by decide +kernel
theorem dX7_change_98 : decode cX7_change 98 = .ok (.iconst 3, 1) := by decide +kernel
theorem dX7_change_99 : decode cX7_change 99 = .ok (.aload_n 0, 1) := by decide +kernel
theorem dX7_change_100 : decode cX7_change 100 = .ok (.getfield 29, 3) := by decide +kernel
theorem dX7_change_103 : decode cX7_change 103 = .ok (.iload 5, 2) := by decide +kernel
theorem dX7_change_105 : decode cX7_change 105 = .ok (.invokevirtual 208, 3) := by decide +kernel
theorem dX7_change_108 : decode cX7_change 108 = .ok (.invokevirtual 176, 3) := by decide +kernel
theorem dX7_change_111 : decode cX7_change 111 = .ok (.goto 31, 3) := by decide +kernel
theorem dX7_change_114 : decode cX7_change 114 = .ok (.aload_n 0, 1) := by decide +kernel
theorem dX7_change_115 : decode cX7_change 115 = .ok (.getfield 71, 3) := by decide +kernel
theorem dX7_change_118 : decode cX7_change 118 = .ok (.invokevirtual 146, 3) := by decide +kernel
theorem dX7_change_121 : decode cX7_change 121 = .ok (.aload_n 0, 1) := by decide +kernel
theorem dX7_change_122 : decode cX7_change 122 = .ok (.invokevirtual 211, 3) := by decide +kernel
theorem dX7_change_125 : decode cX7_change 125 = .ok (.aload_n 0, 1) := by decide +kernel
theorem dX7_change_126 : decode cX7_change 126 = .ok (.getfield 20, 3) := by decide +kernel
theorem dX7_change_129 : decode cX7_change 129 = .ok (.iconst 2, 1) := by decide +kernel
theorem dX7_change_130 : decode cX7_change 130 = .ok (.aload_n 0, 1) := by decide +kernel
theorem dX7_change_131 : decode cX7_change 131 = .ok (.getfield 29, 3) := by decide +kernel
theorem dX7_change_134 : decode cX7_change 134 = .ok (.iload 5, 2) := by decide +kernel
theorem dX7_change_136 : decode cX7_change 136 = .ok (.invokevirtual 208, 3) := by decide +kernel
theorem dX7_change_139 : decode cX7_change 139 = .ok (.invokevirtual 176, 3) := by decide +kernel
theorem dX7_change_142 : decode cX7_change 142 = .ok (.return_, 1) := by decide +kernel
theorem dX7_plain_0 : decode cX7_plain 0 = .ok (.aload_n 0, 1) := by decide +kernel
theorem dX7_plain_1 : decode cX7_plain 1 = .ok (.getfield 71, 3) := by decide +kernel
theorem dX7_plain_4 : decode cX7_plain 4 = .ok (.getfield 214, 3) := by decide +kernel
theorem dX7_plain_7 : decode cX7_plain 7 = .ok (.lookupswitch 188 #[(59, 89), (200, 99), (201, 99), (202, 123), (208, 153), (209, 153), (210, 160), (211, 174), (217, 181), (221, 167)], 89) := by decide +kernel
theorem dX7_plain_96 : decode cX7_plain 96 = .ok (.aload_n 0, 1) := by decide +kernel
theorem dX7_plain_97 : decode cX7_plain 97 = .ok (.getfield 71, 3) := by decide +kernel
theorem dX7_plain_100 : decode cX7_plain 100 = .ok (.invokevirtual 146, 3) := by decide +kernel
theorem dX7_plain_103 : decode cX7_plain 103 = .ok (.goto 96, 3) := by decide +kernel
theorem dX7_plain_106 : decode cX7_plain 106 = .ok (.aload_n 0, 1) := by decide +kernel
theorem dX7_plain_107 : decode cX7_plain 107 = .ok (.getfield 71, 3) := by decide +kernel
theorem dX7_plain_110 : decode cX7_plain 110 = .ok (.invokevirtual 146, 3) := by decide +kernel
theorem dX7_plain_113 : decode cX7_plain 113 = .ok (.aload_n 0, 1) := by decide +kernel
theorem dX7_plain_114 : decode cX7_plain 114 = .ok (.aload_n 0, 1) := by decide +kernel
theorem dX7_plain_115 : decode cX7_plain 115 = .ok (.invokevirtual 217, 3) := by decide +kernel
theorem dX7_plain_118 : decode cX7_plain 118 = .ok (.invokevirtual 221, 3) := by decide +kernel
theorem dX7_plain_121 : decode cX7_plain 121 = .ok (.aload_n 0, 1) := by decide +kernel
theorem dX7_plain_122 : decode cX7_plain 122 = .ok (.bipush 59, 2) := by decide +kernel
theorem dX7_plain_124 : decode cX7_plain 124 = .ok (.invokevirtual 155, 3) := by decide +kernel
theorem dX7_plain_127 : decode cX7_plain 127 = .ok (.goto 72, 3) := by decide +kernel
theorem dX7_plain_130 : decode cX7_plain 130 = .ok (.aload_n 0, 1) := by decide +kernel
theorem dX7_plain_131 : decode cX7_plain 131 = .ok (.getfield 71, 3) := by decide +kernel
theorem dX7_plain_134 : decode cX7_plain 134 = .ok (.invokevirtual 146, 3) := by decide +kernel
theorem dX7_plain_137 : decode cX7_plain 137 = .ok (.aload_n 0, 1) := by decide +kernel
theorem dX7_plain_138 : decode cX7_plain 138 = .ok (.invokevirtual 211, 3) := by decide +kernel
theorem dX7_plain_141 : decode cX7_plain 141 = .ok (.aload_n 0, 1) := by decide +kernel
theorem dX7_plain_142 : decode cX7_plain 142 = .ok (.getfield 20, 3) := by decide +kernel
theorem dX7_plain_145 : decode cX7_plain 145 = .ok (.bipush 52, 2) := by decide +kernel
theorem dX7_plain_147 : decode cX7_plain 147 = .ok (.iconst 0, 1) := by decide +kernel
theorem dX7_plain_148 : decode cX7_plain 148 = .ok (.invokevirtual 176, 3) := by decide +kernel
theorem dX7_plain_151 : decode cX7_plain 151 = .ok (.aload_n 0, 1) := by decide +kernel
theorem dX7_plain_152 : decode cX7_plain 152 = .ok (.bipush 59, 2) := by decide +kernel
theorem dX7_plain_154 : decode cX7_plain 154 = .ok (.invokevirtual 155, 3) := by decide +kernel
theorem dX7_plain_157 : decode cX7_plain 157 = .ok (.goto 42, 3) := by decide +kernel
theorem dX7_plain_160 : decode cX7_plain 160 = .ok (.aload_n 0, 1) := by decide +kernel
theorem dX7_plain_161 : decode cX7_plain 161 = .ok (.invokevirtual 225, 3) := by decide +kernel
theorem dX7_plain_164 : decode cX7_plain 164 = .ok (.goto 35, 3) := by decide +kernel
theorem dX7_plain_167 : decode cX7_plain 167 = .ok (.aload_n 0, 1) := by decide +kernel
theorem dX7_plain_168 : decode cX7_plain 168 = .ok (.invokevirtual 228, 3) := by decide +kernel
theorem dX7_plain_171 : decode cX7_plain 171 = .ok (.goto 28, 3) := by decide +kernel
theorem dX7_plain_174 : decode cX7_plain 174 = .ok (.aload_n 0, 1) := by decide +kernel
theorem dX7_plain_175 : decode cX7_plain 175 = .ok (.invokevirtual 231, 3) := by decide +kernel
theorem dX7_plain_178 : decode cX7_plain 178 = .ok (.goto 21, 3) := by decide +kernel
theorem dX7_plain_181 : decode cX7_plain 181 = .ok (.aload_n 0, 1) := by decide +kernel
theorem dX7_plain_182 : decode cX7_plain 182 = .ok (.invokevirtual 234, 3) := by decide +kernel
theorem dX7_plain_185 : decode cX7_plain 185 = .ok (.goto 14, 3) := by decide +kernel
theorem dX7_plain_188 : decode cX7_plain 188 = .ok (.aload_n 0, 1) := by decide +kernel
theorem dX7_plain_189 : decode cX7_plain 189 = .ok (.invokevirtual 237, 3) := by decide +kernel
theorem dX7_plain_192 : decode cX7_plain 192 = .ok (.goto 7, 3) := by decide +kernel
theorem dX7_plain_195 : decode cX7_plain 195 = .ok (.aload_n 0, 1) := by decide +kernel
theorem dX7_plain_196 : decode cX7_plain 196 = .ok (.invokevirtual 240, 3) := by decide +kernel
theorem dX7_plain_199 : decode cX7_plain 199 = .ok (.return_, 1) := by decide +kernel
theorem dX7_compound_0 : decode cX7_compound 0 = .ok (.aload_n 0, 1) := by decide +kernel
theorem dX7_compound_1 : decode cX7_compound 1 = .ok (.getfield 71, 3) := by decide +kernel
theorem dX7_compound_4 : decode cX7_compound 4 = .ok (.getfield 214, 3) := by decide +kernel
theorem dX7_compound_7 : decode cX7_compound 7 = .ok (.tableswitch 126 203 218 #[77, 126, 84, 91, 98, 126, 126, 126, 126, 105, 119, 126, 126, 126, 126, 112], 77) := by decide +kernel
theorem dX7_compound_84 : decode cX7_compound 84 = .ok (.aload_n 0, 1) := by decide +kernel
theorem dX7_compound_85 : decode cX7_compound 85 = .ok (.invokevirtual 243, 3) := by decide +kernel
theorem dX7_compound_88 : decode cX7_compound 88 = .ok (.goto 49, 3) := by decide +kernel
theorem dX7_compound_91 : decode cX7_compound 91 = .ok (.aload_n 0, 1) := by decide +kernel
theorem dX7_compound_92 : decode cX7_compound 92 = .ok (.invokevirtual 246, 3) := by decide +kernel
theorem dX7_compound_95 : decode cX7_compound 95 = .ok (.goto 42, 3) := by decide +kernel
theorem dX7_compound_98 : decode cX7_compound 98 = .ok (.aload_n 0, 1) := by decide +kernel
theorem dX7_compound_99 : decode cX7_compound 99 = .ok (.invokevirtual 249, 3) := by decide +kernel
theorem dX7_compound_102 : decode cX7_compound 102 = .ok (.goto 35, 3) := by decide +kernel
theorem dX7_compound_105 : decode cX7_compound 105 = .ok (.aload_n 0, 1) := by decide +kernel
theorem dX7_compound_106 : decode cX7_compound 106 = .ok (.invokevirtual 252, 3) := by decide +kernel
theorem dX7_compound_109 : decode cX7_compound 109 = .ok (.goto 28, 3) := by decide +kernel
theorem dX7_compound_112 : decode cX7_compound 112 = .ok (.aload_n 0, 1) := by decide +kernel
theorem dX7_compound_113 : decode cX7_compound 113 = .ok (.invokevirtual 255, 3) := by decide +kernel
theorem dX7_compound_116 : decode cX7_compound 116 = .ok (.goto 21, 3) := by decide +kernel
theorem dX7_compound_119 : decode cX7_compound 119 = .ok (.aload_n 0, 1) := by decide +kernel
theorem dX7_compound_120 : decode cX7_compound 120 = .ok (.invokevirtual 258, 3) := by decide +kernel
theorem dX7_compound_123 : decode cX7_compound 123 = .ok (.goto 14, 3) := by decide +kernel
theorem dX7_compound_126 : decode cX7_compound 126 = .ok (.aload_n 0, 1) := by decide +kernel
theorem dX7_compound_127 : decode cX7_compound 127 = .ok (.invokevirtual 261, 3) := by decide +kernel
theorem dX7_compound_130 : decode cX7_compound 130 = .ok (.goto 7, 3) := by decide +kernel
theorem dX7_compound_133 : decode cX7_compound 133 = .ok (.aload_n 0, 1) := by decide +kernel
theorem dX7_compound_134 : decode cX7_compound 134 = .ok (.invokevirtual 161, 3) := by decide +kernel
theorem dX7_compound_137 : decode cX7_compound 137 = .ok (.return_, 1) := by decide +kernel
theorem dX7_newName_0 : decode cX7_newName 0 = .ok (.aload_n 0, 1) := by decide +kernel
theorem dX7_newName_1 : decode cX7_newName 1 = .ok (.getfield 71, 3) := by decide +kernel
theorem dX7_newName_4 : decode cX7_newName 4 = .ok (.getfield 181, 3) := by decide +kernel
theorem dX7_newName_7 : decode cX7_newName 7 = .ok (.lstore_n 1, 1) := by decide +kernel
theorem dX7_newName_8 : decode cX7_newName 8 = .ok (.aload_n 0, 1) := by decide +kernel
theorem dX7_newName_9 : decode cX7_newName 9 = .ok (.iconst 2, 1) := by decide +kernel
theorem dX7_newName_10 : decode cX7_newName 10 = .ok (.invokevirtual 110, 3) := by decide +kernel
theorem dX7_newName_13 : decode cX7_newName 13 = .ok (.ifCond .ne 10, 3) := by decide +kernel
theorem dX7_newName_16 : decode cX7_newName 16 = .ok (.aload_n 0, 1) := by decide +kernel
theorem dX7_newName_17 : decode cX7_newName 17 = .ok (.invokevirtual 161, 3) := by decide +kernel
theorem dX7_newName_20 : decode cX7_newName 20 = .ok (.goto 36, 3) := by decide +kernel
theorem dX7_newName_23 : decode cX7_newName 23 = .ok (.aload_n 0, 1) := by decide +kernel
theorem dX7_newName_24 : decode cX7_newName 24 = .ok (.getfield 29, 3) := by decide +kernel
theorem dX7_newName_27 : decode cX7_newName 27 = .ok (.lload_n 1, 1) := by decide +kernel
theorem dX7_newName_28 : decode cX7_newName 28 = .ok (.invokevirtual 199, 3) := by decide +kernel
theorem dX7_newName_31 : decode cX7_newName 31 = .ok (.ifCond .lt 18, 3) := by decide +kernel
theorem dX7_newName_34 : decode cX7_newName 34 = .ok (.aload_n 0, 1) := by decide +kernel
theorem dX7_newName_35 : decode cX7_newName 35 = .ok (.iconst 4, 1) := by decide +kernel
theorem dX7_newName_36 : decode cX7_newName 36 = .ok (.aload_n 0, 1) := by decide +kernel
theorem dX7_newName_37 : decode cX7_newName 37 = .ok (.getfield 71, 3) := by decide +kernel
theorem dX7_newName_40 : decode cX7_newName 40 = .ok (.getfield 143, 3) := by decide +kernel
theorem dX7_newName_43 : decode cX7_newName 43 = .ok (.invokevirtual 88, 3) := by decide +kernel
theorem dX7_newName_46 : decode cX7_newName 46 = .ok (.goto 10, 3) := by decide +kernel
theorem dX7_newName_49 : decode cX7_newName 49 = .ok (.aload_n 0, 1) := by decide +kernel
theorem dX7_newName_50 : decode cX7_newName 50 = .ok (.getfield 71, 3) := by decide +kernel
theorem dX7_newName_53 : decode cX7_newName 53 = .ok (.invokevirtual 146, 3) := by decide +kernel
theorem dX7_newName_56 : decode cX7_newName 56 = .ok (.lload_n 1, 1) := by decide +kernel
theorem dX7_newName_57 : decode cX7_newName 57 = .ok (.lreturn, 1) := by decide +kernel
theorem dX7_define_0 : decode cX7_define 0 = .ok (.aload_n 0, 1) := by decide +kernel
theorem dX7_define_1 : decode cX7_define 1 = .ok (.bipush 61, 2) := by decide +kernel
theorem dX7_define_3 : decode cX7_define 3 = .ok (.invokevirtual 155, 3) := by decide +kernel
theorem dX7_define_6 : decode cX7_define 6 = .ok (.aload_n 0, 1) := by decide +kernel
theorem dX7_define_7 : decode cX7_define 7 = .ok (.invokevirtual 211, 3) := by decide +kernel
theorem dX7_define_10 : decode cX7_define 10 = .ok (.aload_n 0, 1) := by decide +kernel
theorem dX7_define_11 : decode cX7_define 11 = .ok (.getfield 20, 3) := by decide +kernel
theorem dX7_define_14 : decode cX7_define 14 = .ok (.iconst 2, 1) := by decide +kernel
theorem dX7_define_15 : decode cX7_define 15 = .ok (.aload_n 0, 1) := by decide +kernel
theorem dX7_define_16 : decode cX7_define 16 = .ok (.lload_n 1, 1) := by decide +kernel
theorem dX7_define_17 : decode cX7_define 17 = .ok (.invokevirtual 264, 3) := by decide +kernel
theorem dX7_define_20 : decode cX7_define 20 = .ok (.invokevirtual 176, 3) := by decide +kernel
theorem dX7_define_23 : decode cX7_define 23 = .ok (.return_, 1) := by decide +kernel
theorem dX7_tell_0 : decode cX7_tell 0 = .ok (.aload_n 0, 1) := by decide +kernel
theorem dX7_tell_1 : decode cX7_tell 1 = .ok (.getfield 20, 3) := by decide +kernel
theorem dX7_tell_4 : decode cX7_tell 4 = .ok (.iconst 1, 1) := by decide +kernel
theorem dX7_tell_5 : decode cX7_tell 5 = .ok (.invokevirtual 41, 3) := by decide +kernel
theorem dX7_tell_8 : decode cX7_tell 8 = .ok (.istore_n 3, 1) := by decide +kernel
theorem dX7_tell_9 : decode cX7_tell 9 = .ok (.aload_n 0, 1) := by decide +kernel
theorem dX7_tell_10 : decode cX7_tell 10 = .ok (.getfield 29, 3) := by decide +kernel
theorem dX7_tell_13 : decode cX7_tell 13 = .ok (.lload_n 1, 1) := by decide +kernel
theorem dX7_tell_14 : decode cX7_tell 14 = .ok (.iload_n 3, 1) := by decide +kernel
theorem dX7_tell_15 : decode cX7_tell 15 = .ok (.iconst (-1), 1) := by decide +kernel
theorem dX7_tell_16 : decode cX7_tell 16 = .ok (.invokevirtual 45, 3) := by decide +kernel
theorem dX7_tell_19 : decode cX7_tell 19 = .ok (.aload_n 0, 1) := by decide +kernel
theorem dX7_tell_20 : decode cX7_tell 20 = .ok (.getfield 20, 3) := by decide +kernel
theorem dX7_tell_23 : decode cX7_tell 23 = .ok (.dup, 1) := by decide +kernel
theorem dX7_tell_24 : decode cX7_tell 24 = .ok (.getfield 267, 3) := by decide +kernel
theorem dX7_tell_27 : decode cX7_tell 27 = .ok (.iconst 1, 1) := by decide +kernel
theorem dX7_tell_28 : decode cX7_tell 28 = .ok (.iadd, 1) := by decide +kernel
theorem dX7_tell_29 : decode cX7_tell 29 = .ok (.putfield 267, 3) := by decide +kernel
theorem dX7_tell_32 : decode cX7_tell 32 = .ok (.iload_n 3, 1) := by decide +kernel
theorem dX7_tell_33 : decode cX7_tell 33 = .ok (.ireturn, 1) := by decide +kernel
theorem dX7_jump_0 : decode cX7_jump 0 = .ok (.aload_n 0, 1) := by decide +kernel
theorem dX7_jump_1 : decode cX7_jump 1 = .ok (.sipush 209, 3) := by decide +kernel
theorem dX7_jump_4 : decode cX7_jump 4 = .ok (.invokevirtual 110, 3) := by decide +kernel
theorem dX7_jump_7 : decode cX7_jump 7 = .ok (.istore_n 1, 1) := by decide +kernel
theorem dX7_jump_8 : decode cX7_jump 8 = .ok (.aload_n 0, 1) := by decide +kernel
theorem dX7_jump_9 : decode cX7_jump 9 = .ok (.getfield 71, 3) := by decide +kernel
theorem dX7_jump_12 : decode cX7_jump 12 = .ok (.getfield 143, 3) := by decide +kernel
theorem dX7_jump_15 : decode cX7_jump 15 = .ok (.istore_n 2, 1) := by decide +kernel
theorem dX7_jump_16 : decode cX7_jump 16 = .ok (.aload_n 0, 1) := by decide +kernel
theorem dX7_jump_17 : decode cX7_jump 17 = .ok (.getfield 20, 3) := by decide +kernel
theorem dX7_jump_20 : decode cX7_jump 20 = .ok (.dup, 1) := by decide +kernel
theorem dX7_jump_21 : decode cX7_jump 21 = .ok (.getfield 270, 3) := by decide +kernel
theorem dX7_jump_24 : decode cX7_jump 24 = .ok (.iconst 1, 1) := by decide +kernel
theorem dX7_jump_25 : decode cX7_jump 25 = .ok (.iadd, 1) := by decide +kernel
theorem dX7_jump_26 : decode cX7_jump 26 = .ok (.putfield 270, 3) := by decide +kernel
theorem dX7_jump_29 : decode cX7_jump 29 = .ok (.aload_n 0, 1) := by decide +kernel
theorem dX7_jump_30 : decode cX7_jump 30 = .ok (.getfield 71, 3) := by decide +kernel
theorem dX7_jump_33 : decode cX7_jump 33 = .ok (.invokevirtual 146, 3) := by decide +kernel
theorem dX7_jump_36 : decode cX7_jump 36 = .ok (.aload_n 0, 1) := by decide +kernel
theorem dX7_jump_37 : decode cX7_jump 37 = .ok (.iconst 2, 1) := by decide +kernel
theorem dX7_jump_38 : decode cX7_jump 38 = .ok (.invokevirtual 110, 3) := by decide +kernel
theorem dX7_jump_41 : decode cX7_jump 41 = .ok (.ifCond .eq 12, 3) := by decide +kernel
theorem dX7_jump_44 : decode cX7_jump 44 = .ok (.aload_n 0, 1) := by decide +kernel
theorem dX7_jump_45 : decode cX7_jump 45 = .ok (.iload_n 1, 1) := by decide +kernel
theorem dX7_jump_46 : decode cX7_jump 46 = .ok (.invokevirtual 273, 3) := by decide +kernel
theorem dX7_jump_49 : decode cX7_jump 49 = .ok (.istore_n 3, 1) := by decide +kernel
theorem dX7_jump_50 : decode cX7_jump 50 = .ok (.goto 22, 3) := by decide +kernel
theorem dX7_jump_53 : decode cX7_jump 53 = .ok (.aload_n 0, 1) := by decide +kernel
theorem dX7_jump_54 : decode cX7_jump 54 = .ok (.getfield 14, 3) := by decide +kernel
theorem dX7_jump_57 : decode cX7_jump 57 = .ok (.iload_n 1, 1) := by decide +kernel
theorem dX7_jump_58 : decode cX7_jump 58 = .ok (.invokevirtual 277, 3) := by decide +kernel
theorem dX7_jump_61 : decode cX7_jump 61 = .ok (.istore_n 3, 1) := by decide +kernel
theorem dX7_jump_62 : decode cX7_jump 62 = .ok (.iload_n 3, 1) := by decide +kernel
theorem dX7_jump_63 : decode cX7_jump 63 = .ok (.ifCond .ge 9, 3) := by decide +kernel
theorem dX7_jump_66 : decode cX7_jump 66 = .ok (.aload_n 0, 1) := by decide +kernel
theorem dX7_jump_67 : decode cX7_jump 67 = .ok (.iconst 5, 1) := by decide +kernel
theorem dX7_jump_68 : decode cX7_jump 68 = .ok (.iload_n 2, 1) := by decide +kernel
theorem dX7_jump_69 : decode cX7_jump 69 = .ok (.invokevirtual 88, 3) := by decide +kernel
theorem dX7_jump_72 : decode cX7_jump 72 = .ok (.aload_n 0, 1) := by decide +kernel
theorem dX7_jump_73 : decode cX7_jump 73 = .ok (.bipush 59, 2) := by decide +kernel
theorem dX7_jump_75 : decode cX7_jump 75 = .ok (.invokevirtual 155, 3) := by decide +kernel
theorem dX7_jump_78 : decode cX7_jump 78 = .ok (.aload_n 0, 1) := by decide +kernel
theorem dX7_jump_79 : decode cX7_jump 79 = .ok (.getfield 14, 3) := by decide +kernel
theorem dX7_jump_82 : decode cX7_jump 82 = .ok (.iload_n 3, 1) := by decide +kernel
theorem dX7_jump_83 : decode cX7_jump 83 = .ok (.invokevirtual 93, 3) := by decide +kernel
theorem dX7_jump_86 : decode cX7_jump 86 = .ok (.astore 4, 2) := by decide +kernel
theorem dX7_jump_88 : decode cX7_jump 88 = .ok (.aload 4, 2) := by decide +kernel
theorem dX7_jump_90 : decode cX7_jump 90 = .ok (.ifnull 39, 3) := by decide +kernel
theorem dX7_jump_93 : decode cX7_jump 93 = .ok (.aload_n 0, 1) := by decide +kernel
theorem dX7_jump_94 : decode cX7_jump 94 = .ok (.getfield 14, 3) := by decide +kernel
theorem dX7_jump_97 : decode cX7_jump 97 = .ok (.aload 4, 2) := by decide +kernel
theorem dX7_jump_99 : decode cX7_jump 99 = .ok (.iload_n 1, 1) := by decide +kernel
theorem dX7_jump_100 : decode cX7_jump 100 = .ok (.invokevirtual 280, 3) := by decide +kernel
theorem dX7_jump_103 : decode cX7_jump 103 = .ok (.aload_n 0, 1) := by decide +kernel
theorem dX7_jump_104 : decode cX7_jump 104 = .ok (.iload_n 1, 1) := by decide +kernel
theorem dX7_jump_105 : decode cX7_jump 105 = .ok (.ifCond .eq 11, 3) := by decide +kernel
theorem dX7_jump_108 : decode cX7_jump 108 = .ok (.aload 4, 2) := by decide +kernel
theorem dX7_jump_110 : decode cX7_jump 110 = .ok (.getfield 284, 3) := by decide +kernel
theorem dX7_jump_113 : decode cX7_jump 113 = .ok (.goto 8, 3) := by decide +kernel
theorem dX7_jump_116 : decode cX7_jump 116 = .ok (.aload 4, 2) := by decide +kernel
theorem dX7_jump_118 : decode cX7_jump 118 = .ok (.getfield 196, 3) := by decide +kernel
theorem dX7_jump_121 : decode cX7_jump 121 = .ok (.aload 4, 2) := by decide +kernel
theorem dX7_jump_123 : decode cX7_jump 123 = .ok (.getfield 287, 3) := by decide +kernel
theorem dX7_jump_126 : decode cX7_jump 126 = .ok (.invokevirtual 288, 3) := by decide +kernel
theorem dX7_jump_129 : decode cX7_jump 129 = .ok (.aload_n 0, 1) := by decide +kernel
theorem dX7_jump_130 : decode cX7_jump 130 = .ok (.iconst 0, 1) := by decide +kernel
theorem dX7_jump_131 : decode cX7_jump 131 = .ok (.putfield 61, 3) := by decide +kernel
theorem dX7_jump_134 : decode cX7_jump 134 = .ok (.return_, 1) := by decide +kernel
theorem dX7_labelTarget_0 : decode cX7_labelTarget 0 = .ok (.aload_n 0, 1) := by decide +kernel
theorem dX7_labelTarget_1 : decode cX7_labelTarget 1 = .ok (.getfield 14, 3) := by decide +kernel
theorem dX7_labelTarget_4 : decode cX7_labelTarget 4 = .ok (.aload_n 0, 1) := by decide +kernel
theorem dX7_labelTarget_5 : decode cX7_labelTarget 5 = .ok (.getfield 71, 3) := by decide +kernel
theorem dX7_labelTarget_8 : decode cX7_labelTarget 8 = .ok (.getfield 181, 3) := by decide +kernel
theorem dX7_labelTarget_11 : decode cX7_labelTarget 11 = .ok (.invokevirtual 189, 3) := by decide +kernel
theorem dX7_labelTarget_14 : decode cX7_labelTarget 14 = .ok (.istore_n 2, 1) := by decide +kernel
theorem dX7_labelTarget_15 : decode cX7_labelTarget 15 = .ok (.iload_n 2, 1) := by decide +kernel
theorem dX7_labelTarget_16 : decode cX7_labelTarget 16 = .ok (.ifCond .ge 18, 3) := by decide +kernel
theorem dX7_labelTarget_19 : decode cX7_labelTarget 19 = .ok (.aload_n 0, 1) := by decide +kernel
theorem dX7_labelTarget_20 : decode cX7_labelTarget 20 = .ok (.iconst 3, 1) := by decide +kernel
theorem dX7_labelTarget_21 : decode cX7_labelTarget 21 = .ok (.aload_n 0, 1) := by decide +kernel
theorem dX7_labelTarget_22 : decode cX7_labelTarget 22 = .ok (.getfield 71, 3) := by decide +kernel
theorem dX7_labelTarget_25 : decode cX7_labelTarget 25 = .ok (.getfield 143, 3) := by decide +kernel
theorem dX7_labelTarget_28 : decode cX7_labelTarget 28 = .ok (.invokevirtual 88, 3) := by decide +kernel
theorem dX7_labelTarget_31 : decode cX7_labelTarget 31 = .ok (.goto 32, 3) := by decide +kernel
theorem dX7_labelTarget_34 : decode cX7_labelTarget 34 = .ok (.iload_n 1, 1) := by decide +kernel
theorem dX7_labelTarget_35 : decode cX7_labelTarget 35 = .ok (.ifCond .eq 28, 3) := by decide +kernel
theorem dX7_labelTarget_38 : decode cX7_labelTarget 38 = .ok (.aload_n 0, 1) := by decide +kernel
theorem dX7_labelTarget_39 : decode cX7_labelTarget 39 = .ok (.getfield 14, 3) := by decide +kernel
theorem dX7_labelTarget_42 : decode cX7_labelTarget 42 = .ok (.iload_n 2, 1) := by decide +kernel
theorem dX7_labelTarget_43 : decode cX7_labelTarget 43 = .ok (.invokevirtual 291, 3) := by decide +kernel
theorem dX7_labelTarget_46 : decode cX7_labelTarget 46 = .ok (.istore_n 2, 1) := by decide +kernel
theorem dX7_labelTarget_47 : decode cX7_labelTarget 47 = .ok (.iload_n 2, 1) := by decide +kernel
theorem dX7_labelTarget_48 : decode cX7_labelTarget 48 = .ok (.ifCond .ge 15, 3) := by decide +kernel
theorem dX7_labelTarget_51 : decode cX7_labelTarget 51 = .ok (.aload_n 0, 1) := by decide +kernel
theorem dX7_labelTarget_52 : decode cX7_labelTarget 52 = .ok (.iconst 5, 1) := by decide +kernel
theorem dX7_labelTarget_53 : decode cX7_labelTarget 53 = .ok (.aload_n 0, 1) := by decide +kernel
theorem dX7_labelTarget_54 : decode cX7_labelTarget 54 = .ok (.getfield 71, 3) := by decide +kernel
theorem dX7_labelTarget_57 : decode cX7_labelTarget 57 = .ok (.getfield 143, 3) := by decide +kernel
theorem dX7_labelTarget_60 : decode cX7_labelTarget 60 = .ok (.invokevirtual 88, 3) := by decide +kernel
theorem dX7_labelTarget_63 : decode cX7_labelTarget 63 = .ok (.aload_n 0, 1) := by decide +kernel
theorem dX7_labelTarget_64 : decode cX7_labelTarget 64 = .ok (.getfield 71, 3) := by decide +kernel
theorem dX7_labelTarget_67 : decode cX7_labelTarget 67 = .ok (.invokevirtual 146, 3) := by decide +kernel
theorem dX7_labelTarget_70 : decode cX7_labelTarget 70 = .ok (.iload_n 2, 1) := by decide +kernel
theorem dX7_labelTarget_71 : decode cX7_labelTarget 71 = .ok (.ireturn, 1) := by decide +kernel
theorem dX7_leave_0 : decode cX7_leave 0 = .ok (.iload_n 2, 1) := by decide +kernel
theorem dX7_leave_1 : decode cX7_leave 1 = .ok (.aload_n 0, 1) := by decide +kernel
theorem dX7_leave_2 : decode cX7_leave 2 = .ok (.getfield 68, 3) := by decide +kernel
theorem dX7_leave_5 : decode cX7_leave 5 = .ok (.if_icmp .ne 16, 3) := by decide +kernel
theorem dX7_leave_8 : decode cX7_leave 8 = .ok (.aload_n 0, 1) := by decide +kernel
theorem dX7_leave_9 : decode cX7_leave 9 = .ok (.getfield 20, 3) := by decide +kernel
theorem dX7_leave_12 : decode cX7_leave 12 = .ok (.bipush 30, 2) := by decide +kernel
theorem dX7_leave_14 : decode cX7_leave 14 = .ok (.iload_n 1, 1) := by decide +kernel
theorem dX7_leave_15 : decode cX7_leave 15 = .ok (.invokevirtual 176, 3) := by decide +kernel
theorem dX7_leave_18 : decode cX7_leave 18 = .ok (.goto 18, 3) := by decide +kernel
theorem dX7_leave_21 : decode cX7_leave 21 = .ok (.aload_n 0, 1) := by decide +kernel
theorem dX7_leave_22 : decode cX7_leave 22 = .ok (.getfield 20, 3) := by decide +kernel
theorem dX7_leave_25 : decode cX7_leave 25 = .ok (.bipush 60, 2) := by decide +kernel
theorem dX7_leave_27 : decode cX7_leave 27 = .ok (.iload_n 1, 1) := by decide +kernel
theorem dX7_leave_28 : decode cX7_leave 28 = .ok (.bipush 32, 2) := by decide +kernel
theorem dX7_leave_30 : decode cX7_leave 30 = .ok (.imul, 1) := by decide +kernel
theorem dX7_leave_31 : decode cX7_leave 31 = .ok (.iload_n 2, 1) := by decide +kernel
theorem dX7_leave_32 : decode cX7_leave 32 = .ok (.iadd, 1) := by decide +kernel
theorem dX7_leave_33 : decode cX7_leave 33 = .ok (.invokevirtual 176, 3) := by decide +kernel
theorem dX7_leave_36 : decode cX7_leave 36 = .ok (.return_, 1) := by decide +kernel
theorem dX7_giveBack_0 : decode cX7_giveBack 0 = .ok (.aload_n 0, 1) := by decide +kernel
theorem dX7_giveBack_1 : decode cX7_giveBack 1 = .ok (.getfield 14, 3) := by decide +kernel
theorem dX7_giveBack_4 : decode cX7_giveBack 4 = .ok (.getfield 294, 3) := by decide +kernel
theorem dX7_giveBack_7 : decode cX7_giveBack 7 = .ok (.ifCond .lt 15, 3) := by decide +kernel
theorem dX7_giveBack_10 : decode cX7_giveBack 10 = .ok (.aload_n 0, 1) := by decide +kernel
theorem dX7_giveBack_11 : decode cX7_giveBack 11 = .ok (.iconst 5, 1) := by decide +kernel
theorem dX7_giveBack_12 : decode cX7_giveBack 12 = .ok (.aload_n 0, 1) := by decide +kernel
theorem dX7_giveBack_13 : decode cX7_giveBack 13 = .ok (.getfield 71, 3) := by decide +kernel
theorem dX7_giveBack_16 : decode cX7_giveBack 16 = .ok (.getfield 143, 3) := by decide +kernel
theorem dX7_giveBack_19 : decode cX7_giveBack 19 = .ok (.invokevirtual 88, 3) := by decide +kernel
theorem dX7_giveBack_22 : decode cX7_giveBack 22 = .ok (.aload_n 0, 1) := by decide +kernel
theorem dX7_giveBack_23 : decode cX7_giveBack 23 = .ok (.getfield 71, 3) := by decide +kernel
theorem dX7_giveBack_26 : decode cX7_giveBack 26 = .ok (.invokevirtual 146, 3) := by decide +kernel
theorem dX7_giveBack_29 : decode cX7_giveBack 29 = .ok (.aload_n 0, 1) := by decide +kernel
theorem dX7_giveBack_30 : decode cX7_giveBack 30 = .ok (.invokevirtual 211, 3) := by decide +kernel
theorem dX7_giveBack_33 : decode cX7_giveBack 33 = .ok (.aload_n 0, 1) := by decide +kernel
theorem dX7_giveBack_34 : decode cX7_giveBack 34 = .ok (.getfield 20, 3) := by decide +kernel
theorem dX7_giveBack_37 : decode cX7_giveBack 37 = .ok (.bipush 62, 2) := by decide +kernel
theorem dX7_giveBack_39 : decode cX7_giveBack 39 = .ok (.iconst 0, 1) := by decide +kernel
theorem dX7_giveBack_40 : decode cX7_giveBack 40 = .ok (.invokevirtual 176, 3) := by decide +kernel
theorem dX7_giveBack_43 : decode cX7_giveBack 43 = .ok (.aload_n 0, 1) := by decide +kernel
theorem dX7_giveBack_44 : decode cX7_giveBack 44 = .ok (.bipush 59, 2) := by decide +kernel
theorem dX7_giveBack_46 : decode cX7_giveBack 46 = .ok (.invokevirtual 155, 3) := by decide +kernel
theorem dX7_giveBack_49 : decode cX7_giveBack 49 = .ok (.aload_n 0, 1) := by decide +kernel
theorem dX7_giveBack_50 : decode cX7_giveBack 50 = .ok (.iconst 0, 1) := by decide +kernel
theorem dX7_giveBack_51 : decode cX7_giveBack 51 = .ok (.putfield 61, 3) := by decide +kernel
theorem dX7_giveBack_54 : decode cX7_giveBack 54 = .ok (.return_, 1) := by decide +kernel
theorem dX7_yieldValue_0 : decode cX7_yieldValue 0 = .ok (.aload_n 0, 1) := by decide +kernel
theorem dX7_yieldValue_1 : decode cX7_yieldValue 1 = .ok (.getfield 14, 3) := by decide +kernel
theorem dX7_yieldValue_4 : decode cX7_yieldValue 4 = .ok (.aload_n 0, 1) := by decide +kernel
theorem dX7_yieldValue_5 : decode cX7_yieldValue 5 = .ok (.getfield 14, 3) := by decide +kernel
theorem dX7_yieldValue_8 : decode cX7_yieldValue 8 = .ok (.getfield 294, 3) := by decide +kernel
theorem dX7_yieldValue_11 : decode cX7_yieldValue 11 = .ok (.invokevirtual 93, 3) := by decide +kernel
theorem dX7_yieldValue_14 : decode cX7_yieldValue 14 = .ok (.astore_n 1, 1) := by decide +kernel
theorem dX7_yieldValue_15 : decode cX7_yieldValue 15 = .ok (.aload_n 1, 1) := by decide +kernel
theorem dX7_yieldValue_16 : decode cX7_yieldValue 16 = .ok (.ifnonnull 16, 3) := by decide +kernel
theorem dX7_yieldValue_19 : decode cX7_yieldValue 19 = .ok (.aload_n 0, 1) := by decide +kernel
theorem dX7_yieldValue_20 : decode cX7_yieldValue 20 = .ok (.iconst 5, 1) := by decide +kernel
theorem dX7_yieldValue_21 : decode cX7_yieldValue 21 = .ok (.aload_n 0, 1) := by decide +kernel
theorem dX7_yieldValue_22 : decode cX7_yieldValue 22 = .ok (.getfield 71, 3) := by decide +kernel
theorem dX7_yieldValue_25 : decode cX7_yieldValue 25 = .ok (.getfield 143, 3) := by decide +kernel
theorem dX7_yieldValue_28 : decode cX7_yieldValue 28 = .ok (.invokevirtual 88, 3) := by decide +kernel
theorem dX7_yieldValue_31 : decode cX7_yieldValue 31 = .ok (.return_, 1) := by decide +kernel
theorem dX7_yieldValue_32 : decode cX7_yieldValue 32 = .ok (.aload_n 0, 1) := by decide +kernel
theorem dX7_yieldValue_33 : decode cX7_yieldValue 33 = .ok (.getfield 71, 3) := by decide +kernel
theorem dX7_yieldValue_36 : decode cX7_yieldValue 36 = .ok (.invokevirtual 146, 3) := by decide +kernel
theorem dX7_yieldValue_39 : decode cX7_yieldValue 39 = .ok (.aload_n 0, 1) := by decide +kernel
theorem dX7_yieldValue_40 : decode cX7_yieldValue 40 = .ok (.invokevirtual 211, 3) := by decide +kernel
theorem dX7_yieldValue_43 : decode cX7_yieldValue 43 = .ok (.aload_n 0, 1) := by decide +kernel
theorem dX7_yieldValue_44 : decode cX7_yieldValue 44 = .ok (.getfield 20, 3) := by decide +kernel
theorem dX7_yieldValue_47 : decode cX7_yieldValue 47 = .ok (.bipush 61, 2) := by decide +kernel
theorem dX7_yieldValue_49 : decode cX7_yieldValue 49 = .ok (.aload_n 1, 1) := by decide +kernel
theorem dX7_yieldValue_50 : decode cX7_yieldValue 50 = .ok (.getfield 196, 3) := by decide +kernel
theorem dX7_yieldValue_53 : decode cX7_yieldValue 53 = .ok (.bipush 32, 2) := by decide +kernel
theorem dX7_yieldValue_55 : decode cX7_yieldValue 55 = .ok (.imul, 1) := by decide +kernel
theorem dX7_yieldValue_56 : decode cX7_yieldValue 56 = .ok (.aload_n 1, 1) := by decide +kernel
theorem dX7_yieldValue_57 : decode cX7_yieldValue 57 = .ok (.getfield 287, 3) := by decide +kernel
theorem dX7_yieldValue_60 : decode cX7_yieldValue 60 = .ok (.iadd, 1) := by decide +kernel
theorem dX7_yieldValue_61 : decode cX7_yieldValue 61 = .ok (.invokevirtual 176, 3) := by decide +kernel
theorem dX7_yieldValue_64 : decode cX7_yieldValue 64 = .ok (.aload_n 0, 1) := by decide +kernel
theorem dX7_yieldValue_65 : decode cX7_yieldValue 65 = .ok (.bipush 59, 2) := by decide +kernel
theorem dX7_yieldValue_67 : decode cX7_yieldValue 67 = .ok (.invokevirtual 155, 3) := by decide +kernel
theorem dX7_yieldValue_70 : decode cX7_yieldValue 70 = .ok (.aload_n 0, 1) := by decide +kernel
theorem dX7_yieldValue_71 : decode cX7_yieldValue 71 = .ok (.iconst 0, 1) := by decide +kernel
theorem dX7_yieldValue_72 : decode cX7_yieldValue 72 = .ok (.putfield 61, 3) := by decide +kernel
theorem dX7_yieldValue_75 : decode cX7_yieldValue 75 = .ok (.return_, 1) := by decide +kernel
theorem dX7_throwOne_0 : decode cX7_throwOne 0 = .ok (.aload_n 0, 1) := by decide +kernel
theorem dX7_throwOne_1 : decode cX7_throwOne 1 = .ok (.getfield 71, 3) := by decide +kernel
theorem dX7_throwOne_4 : decode cX7_throwOne 4 = .ok (.invokevirtual 146, 3) := by decide +kernel
theorem dX7_throwOne_7 : decode cX7_throwOne 7 = .ok (.aload_n 0, 1) := by decide +kernel
theorem dX7_throwOne_8 : decode cX7_throwOne 8 = .ok (.iconst 5, 1) := by decide +kernel
theorem dX7_throwOne_9 : decode cX7_throwOne 9 = .ok (.invokevirtual 110, 3) := by decide +kernel
theorem dX7_throwOne_12 : decode cX7_throwOne 12 = .ok (.ifCond .eq 58, 3) := by decide +kernel
theorem dX7_throwOne_15 : decode cX7_throwOne 15 = .ok (.aload_n 0, 1) := by decide +kernel
theorem dX7_throwOne_16 : decode cX7_throwOne 16 = .ok (.getfield 71, 3) := by decide +kernel
theorem dX7_throwOne_19 : decode cX7_throwOne 19 = .ok (.getfield 297, 3) := by decide +kernel
theorem dX7_throwOne_22 : decode cX7_throwOne 22 = .ok (.istore_n 1, 1) := by decide +kernel
theorem dX7_throwOne_23 : decode cX7_throwOne 23 = .ok (.aload_n 0, 1) := by decide +kernel
theorem dX7_throwOne_24 : decode cX7_throwOne 24 = .ok (.getfield 300, 3) := by decide +kernel
theorem dX7_throwOne_27 : decode cX7_throwOne 27 = .ok (.iload_n 1, 1) := by decide +kernel
theorem dX7_throwOne_28 : decode cX7_throwOne 28 = .ok (.invokevirtual 304, 3) := by decide +kernel
theorem dX7_throwOne_31 : decode cX7_throwOne 31 = .ok (.ifCond .ne 15, 3) := by decide +kernel
theorem dX7_throwOne_34 : decode cX7_throwOne 34 = .ok (.aload_n 0, 1) := by decide +kernel
theorem dX7_throwOne_35 : decode cX7_throwOne 35 = .ok (.iconst 3, 1) := by decide +kernel
theorem dX7_throwOne_36 : decode cX7_throwOne 36 = .ok (.aload_n 0, 1) := by decide +kernel
theorem dX7_throwOne_37 : decode cX7_throwOne 37 = .ok (.getfield 71, 3) := by decide +kernel
theorem dX7_throwOne_40 : decode cX7_throwOne 40 = .ok (.getfield 143, 3) := by decide +kernel
theorem dX7_throwOne_43 : decode cX7_throwOne 43 = .ok (.invokevirtual 88, 3) := by decide +kernel
theorem dX7_throwOne_46 : decode cX7_throwOne 46 = .ok (.aload_n 0, 1) := by decide +kernel
theorem dX7_throwOne_47 : decode cX7_throwOne 47 = .ok (.getfield 71, 3) := by decide +kernel
theorem dX7_throwOne_50 : decode cX7_throwOne 50 = .ok (.invokevirtual 146, 3) := by decide +kernel
theorem dX7_throwOne_53 : decode cX7_throwOne 53 = .ok (.aload_n 0, 1) := by decide +kernel
theorem dX7_throwOne_54 : decode cX7_throwOne 54 = .ok (.invokevirtual 211, 3) := by decide +kernel
theorem dX7_throwOne_57 : decode cX7_throwOne 57 = .ok (.aload_n 0, 1) := by decide +kernel
theorem dX7_throwOne_58 : decode cX7_throwOne 58 = .ok (.getfield 20, 3) := by decide +kernel
theorem dX7_throwOne_61 : decode cX7_throwOne 61 = .ok (.bipush 63, 2) := by decide +kernel
theorem dX7_throwOne_63 : decode cX7_throwOne 63 = .ok (.iload_n 1, 1) := by decide +kernel
theorem dX7_throwOne_64 : decode cX7_throwOne 64 = .ok (.invokevirtual 176, 3) := by decide +kernel
end
section
theorem dX7_throwOne_67 : decode cX7_throwOne 67 = .ok (.goto 85, 3) := by decide +kernel
theorem dX7_throwOne_70 : decode cX7_throwOne 70 = .ok (.aload_n 0, 1) := by decide +kernel
theorem dX7_throwOne_71 : decode cX7_throwOne 71 = .ok (.iconst 2, 1) := by decide +kernel
theorem dX7_throwOne_72 : decode cX7_throwOne 72 = .ok (.invokevirtual 110, 3) := by decide +kernel
theorem dX7_throwOne_75 : decode cX7_throwOne 75 = .ok (.ifCond .eq 73, 3) := by decide +kernel
theorem dX7_throwOne_78 : decode cX7_throwOne 78 = .ok (.aload_n 0, 1) := by decide +kernel
theorem dX7_throwOne_79 : decode cX7_throwOne 79 = .ok (.getfield 29, 3) := by decide +kernel
theorem dX7_throwOne_82 : decode cX7_throwOne 82 = .ok (.aload_n 0, 1) := by decide +kernel
theorem dX7_throwOne_83 : decode cX7_throwOne 83 = .ok (.getfield 71, 3) := by decide +kernel
theorem dX7_throwOne_86 : decode cX7_throwOne 86 = .ok (.getfield 181, 3) := by decide +kernel
theorem dX7_throwOne_89 : decode cX7_throwOne 89 = .ok (.invokevirtual 199, 3) := by decide +kernel
theorem dX7_throwOne_92 : decode cX7_throwOne 92 = .ok (.istore_n 1, 1) := by decide +kernel
theorem dX7_throwOne_93 : decode cX7_throwOne 93 = .ok (.iload_n 1, 1) := by decide +kernel
theorem dX7_throwOne_94 : decode cX7_throwOne 94 = .ok (.ifCond .lt 14, 3) := by decide +kernel
theorem dX7_throwOne_97 : decode cX7_throwOne 97 = .ok (.aload_n 0, 1) := by decide +kernel
theorem dX7_throwOne_98 : decode cX7_throwOne 98 = .ok (.getfield 29, 3) := by decide +kernel
theorem dX7_throwOne_101 : decode cX7_throwOne 101 = .ok (.iload_n 1, 1) := by decide +kernel
theorem dX7_throwOne_102 : decode cX7_throwOne 102 = .ok (.invokevirtual 202, 3) := by decide +kernel
theorem dX7_throwOne_105 : decode cX7_throwOne 105 = .ok (.ifCond .ne 16, 3) := by decide +kernel
theorem dX7_throwOne_108 : decode cX7_throwOne 108 = .ok (.aload_n 0, 1) := by decide +kernel
theorem dX7_throwOne_109 : decode cX7_throwOne 109 = .ok (.iconst 3, 1) := by decide +kernel
theorem dX7_throwOne_110 : decode cX7_throwOne 110 = .ok (.aload_n 0, 1) := by decide +kernel
theorem dX7_throwOne_111 : decode cX7_throwOne 111 = .ok (.getfield 71, 3) := by decide +kernel
theorem dX7_throwOne_114 : decode cX7_throwOne 114 = .ok (.getfield 143, 3) := by decide +kernel
theorem dX7_throwOne_117 : decode cX7_throwOne 117 = .ok (.invokevirtual 88, 3) := by decide +kernel
theorem dX7_throwOne_120 : decode cX7_throwOne 120 = .ok (.return_, 1) := by decide +kernel
theorem dX7_throwOne_121 : decode cX7_throwOne 121 = .ok (.aload_n 0, 1) := by decide +kernel
theorem dX7_throwOne_122 : decode cX7_throwOne 122 = .ok (.getfield 20, 3) := by decide +kernel
theorem dX7_throwOne_125 : decode cX7_throwOne 125 = .ok (.bipush 64, 2) := by decide +kernel
theorem dX7_throwOne_127 : decode cX7_throwOne 127 = .ok (.aload_n 0, 1) := by decide +kernel
theorem dX7_throwOne_128 : decode cX7_throwOne 128 = .ok (.getfield 29, 3) := by decide +kernel
theorem dX7_throwOne_131 : decode cX7_throwOne 131 = .ok (.iload_n 1, 1) := by decide +kernel
theorem dX7_throwOne_132 : decode cX7_throwOne 132 = .ok (.invokevirtual 309, 3) := by decide +kernel
theorem dX7_throwOne_135 : decode cX7_throwOne 135 = .ok (.invokevirtual 176, 3) := by decide +kernel
theorem dX7_throwOne_138 : decode cX7_throwOne 138 = .ok (.aload_n 0, 1) := by decide +kernel
theorem dX7_throwOne_139 : decode cX7_throwOne 139 = .ok (.getfield 71, 3) := by decide +kernel
theorem dX7_throwOne_142 : decode cX7_throwOne 142 = .ok (.invokevirtual 146, 3) := by decide +kernel
theorem dX7_throwOne_145 : decode cX7_throwOne 145 = .ok (.goto 7, 3) := by decide +kernel
theorem dX7_throwOne_148 : decode cX7_throwOne 148 = .ok (.aload_n 0, 1) := by decide +kernel
theorem dX7_throwOne_149 : decode cX7_throwOne 149 = .ok (.invokevirtual 161, 3) := by decide +kernel
theorem dX7_throwOne_152 : decode cX7_throwOne 152 = .ok (.aload_n 0, 1) := by decide +kernel
theorem dX7_throwOne_153 : decode cX7_throwOne 153 = .ok (.bipush 59, 2) := by decide +kernel
theorem dX7_throwOne_155 : decode cX7_throwOne 155 = .ok (.invokevirtual 155, 3) := by decide +kernel
theorem dX7_throwOne_158 : decode cX7_throwOne 158 = .ok (.aload_n 0, 1) := by decide +kernel
theorem dX7_throwOne_159 : decode cX7_throwOne 159 = .ok (.iconst 0, 1) := by decide +kernel
theorem dX7_throwOne_160 : decode cX7_throwOne 160 = .ok (.putfield 61, 3) := by decide +kernel
theorem dX7_throwOne_163 : decode cX7_throwOne 163 = .ok (.return_, 1) := by decide +kernel
theorem dX7_claim_0 : decode cX7_claim 0 = .ok (.aload_n 0, 1) := by decide +kernel
theorem dX7_claim_1 : decode cX7_claim 1 = .ok (.getfield 20, 3) := by decide +kernel
theorem dX7_claim_4 : decode cX7_claim 4 = .ok (.invokevirtual 136, 3) := by decide +kernel
theorem dX7_claim_7 : decode cX7_claim 7 = .ok (.istore_n 1, 1) := by decide +kernel
theorem dX7_claim_8 : decode cX7_claim 8 = .ok (.aload_n 0, 1) := by decide +kernel
theorem dX7_claim_9 : decode cX7_claim 9 = .ok (.getfield 71, 3) := by decide +kernel
theorem dX7_claim_12 : decode cX7_claim 12 = .ok (.invokevirtual 146, 3) := by decide +kernel
theorem dX7_claim_15 : decode cX7_claim 15 = .ok (.aload_n 0, 1) := by decide +kernel
theorem dX7_claim_16 : decode cX7_claim 16 = .ok (.getfield 20, 3) := by decide +kernel
theorem dX7_claim_19 : decode cX7_claim 19 = .ok (.bipush 35, 2) := by decide +kernel
theorem dX7_claim_21 : decode cX7_claim 21 = .ok (.iload_n 1, 1) := by decide +kernel
theorem dX7_claim_22 : decode cX7_claim 22 = .ok (.invokevirtual 176, 3) := by decide +kernel
theorem dX7_claim_25 : decode cX7_claim 25 = .ok (.aload_n 0, 1) := by decide +kernel
theorem dX7_claim_26 : decode cX7_claim 26 = .ok (.invokevirtual 312, 3) := by decide +kernel
theorem dX7_claim_29 : decode cX7_claim 29 = .ok (.pop, 1) := by decide +kernel
theorem dX7_claim_30 : decode cX7_claim 30 = .ok (.aload_n 0, 1) := by decide +kernel
theorem dX7_claim_31 : decode cX7_claim 31 = .ok (.getfield 20, 3) := by decide +kernel
theorem dX7_claim_34 : decode cX7_claim 34 = .ok (.iconst 5, 1) := by decide +kernel
theorem dX7_claim_35 : decode cX7_claim 35 = .ok (.iconst 0, 1) := by decide +kernel
theorem dX7_claim_36 : decode cX7_claim 36 = .ok (.invokevirtual 176, 3) := by decide +kernel
theorem dX7_claim_39 : decode cX7_claim 39 = .ok (.aload_n 0, 1) := by decide +kernel
theorem dX7_claim_40 : decode cX7_claim 40 = .ok (.getfield 20, 3) := by decide +kernel
theorem dX7_claim_43 : decode cX7_claim 43 = .ok (.bipush 31, 2) := by decide +kernel
theorem dX7_claim_45 : decode cX7_claim 45 = .ok (.iload_n 1, 1) := by decide +kernel
theorem dX7_claim_46 : decode cX7_claim 46 = .ok (.invokevirtual 176, 3) := by decide +kernel
theorem dX7_claim_49 : decode cX7_claim 49 = .ok (.aload_n 0, 1) := by decide +kernel
theorem dX7_claim_50 : decode cX7_claim 50 = .ok (.bipush 58, 2) := by decide +kernel
theorem dX7_claim_52 : decode cX7_claim 52 = .ok (.invokevirtual 205, 3) := by decide +kernel
theorem dX7_claim_55 : decode cX7_claim 55 = .ok (.ifCond .eq 10, 3) := by decide +kernel
theorem dX7_claim_58 : decode cX7_claim 58 = .ok (.aload_n 0, 1) := by decide +kernel
theorem dX7_claim_59 : decode cX7_claim 59 = .ok (.invokevirtual 211, 3) := by decide +kernel
theorem dX7_claim_62 : decode cX7_claim 62 = .ok (.goto 12, 3) := by decide +kernel
theorem dX7_claim_65 : decode cX7_claim 65 = .ok (.aload_n 0, 1) := by decide +kernel
theorem dX7_claim_66 : decode cX7_claim 66 = .ok (.getfield 20, 3) := by decide +kernel
theorem dX7_claim_69 : decode cX7_claim 69 = .ok (.iconst 0, 1) := by decide +kernel
theorem dX7_claim_70 : decode cX7_claim 70 = .ok (.iconst 0, 1) := by decide +kernel
theorem dX7_claim_71 : decode cX7_claim 71 = .ok (.invokevirtual 176, 3) := by decide +kernel
theorem dX7_claim_74 : decode cX7_claim 74 = .ok (.aload_n 0, 1) := by decide +kernel
theorem dX7_claim_75 : decode cX7_claim 75 = .ok (.getfield 20, 3) := by decide +kernel
theorem dX7_claim_78 : decode cX7_claim 78 = .ok (.bipush 63, 2) := by decide +kernel
theorem dX7_claim_80 : decode cX7_claim 80 = .ok (.iconst 3, 1) := by decide +kernel
theorem dX7_claim_81 : decode cX7_claim 81 = .ok (.invokevirtual 176, 3) := by decide +kernel
theorem dX7_claim_84 : decode cX7_claim 84 = .ok (.aload_n 0, 1) := by decide +kernel
theorem dX7_claim_85 : decode cX7_claim 85 = .ok (.getfield 20, 3) := by decide +kernel
theorem dX7_claim_88 : decode cX7_claim 88 = .ok (.iload_n 1, 1) := by decide +kernel
theorem dX7_claim_89 : decode cX7_claim 89 = .ok (.invokevirtual 158, 3) := by decide +kernel
theorem dX7_claim_92 : decode cX7_claim 92 = .ok (.aload_n 0, 1) := by decide +kernel
theorem dX7_claim_93 : decode cX7_claim 93 = .ok (.bipush 59, 2) := by decide +kernel
theorem dX7_claim_95 : decode cX7_claim 95 = .ok (.invokevirtual 155, 3) := by decide +kernel
theorem dX7_claim_98 : decode cX7_claim 98 = .ok (.return_, 1) := by decide +kernel
theorem dX7_beginIf_0 : decode cX7_beginIf 0 = .ok (.aload_n 0, 1) := by decide +kernel
theorem dX7_beginIf_1 : decode cX7_beginIf 1 = .ok (.getfield 20, 3) := by decide +kernel
theorem dX7_beginIf_4 : decode cX7_beginIf 4 = .ok (.invokevirtual 136, 3) := by decide +kernel
theorem dX7_beginIf_7 : decode cX7_beginIf 7 = .ok (.istore_n 1, 1) := by decide +kernel
theorem dX7_beginIf_8 : decode cX7_beginIf 8 = .ok (.aload_n 0, 1) := by decide +kernel
theorem dX7_beginIf_9 : decode cX7_beginIf 9 = .ok (.getfield 71, 3) := by decide +kernel
theorem dX7_beginIf_12 : decode cX7_beginIf 12 = .ok (.invokevirtual 146, 3) := by decide +kernel
theorem dX7_beginIf_15 : decode cX7_beginIf 15 = .ok (.aload_n 0, 1) := by decide +kernel
theorem dX7_beginIf_16 : decode cX7_beginIf 16 = .ok (.invokevirtual 315, 3) := by decide +kernel
theorem dX7_beginIf_19 : decode cX7_beginIf 19 = .ok (.pop, 1) := by decide +kernel
theorem dX7_beginIf_20 : decode cX7_beginIf 20 = .ok (.aload_n 0, 1) := by decide +kernel
theorem dX7_beginIf_21 : decode cX7_beginIf 21 = .ok (.getfield 20, 3) := by decide +kernel
theorem dX7_beginIf_24 : decode cX7_beginIf 24 = .ok (.bipush 31, 2) := by decide +kernel
theorem dX7_beginIf_26 : decode cX7_beginIf 26 = .ok (.iload_n 1, 1) := by decide +kernel
theorem dX7_beginIf_27 : decode cX7_beginIf 27 = .ok (.invokevirtual 176, 3) := by decide +kernel
theorem dX7_beginIf_30 : decode cX7_beginIf 30 = .ok (.aload_n 0, 1) := by decide +kernel
theorem dX7_beginIf_31 : decode cX7_beginIf 31 = .ok (.getfield 14, 3) := by decide +kernel
theorem dX7_beginIf_34 : decode cX7_beginIf 34 = .ok (.sipush 203, 3) := by decide +kernel
theorem dX7_beginIf_37 : decode cX7_beginIf 37 = .ok (.aload_n 0, 1) := by decide +kernel
theorem dX7_beginIf_38 : decode cX7_beginIf 38 = .ok (.getfield 68, 3) := by decide +kernel
theorem dX7_beginIf_41 : decode cX7_beginIf 41 = .ok (.aload_n 0, 1) := by decide +kernel
theorem dX7_beginIf_42 : decode cX7_beginIf 42 = .ok (.getfield 29, 3) := by decide +kernel
theorem dX7_beginIf_45 : decode cX7_beginIf 45 = .ok (.getfield 33, 3) := by decide +kernel
theorem dX7_beginIf_48 : decode cX7_beginIf 48 = .ok (.invokevirtual 81, 3) := by decide +kernel
theorem dX7_beginIf_51 : decode cX7_beginIf 51 = .ok (.iload_n 1, 1) := by decide +kernel
theorem dX7_beginIf_52 : decode cX7_beginIf 52 = .ok (.putfield 284, 3) := by decide +kernel
theorem dX7_beginIf_55 : decode cX7_beginIf 55 = .ok (.return_, 1) := by decide +kernel
theorem dX7_conditionInside_0 : decode cX7_conditionInside 0 = .ok (.aload_n 0, 1) := by decide +kernel
theorem dX7_conditionInside_1 : decode cX7_conditionInside 1 = .ok (.bipush 40, 2) := by decide +kernel
theorem dX7_conditionInside_3 : decode cX7_conditionInside 3 = .ok (.invokevirtual 173, 3) := by decide +kernel
theorem dX7_conditionInside_6 : decode cX7_conditionInside 6 = .ok (.aload_n 0, 1) := by decide +kernel
theorem dX7_conditionInside_7 : decode cX7_conditionInside 7 = .ok (.invokevirtual 312, 3) := by decide +kernel
theorem dX7_conditionInside_10 : decode cX7_conditionInside 10 = .ok (.istore_n 1, 1) := by decide +kernel
theorem dX7_conditionInside_11 : decode cX7_conditionInside 11 = .ok (.aload_n 0, 1) := by decide +kernel
theorem dX7_conditionInside_12 : decode cX7_conditionInside 12 = .ok (.bipush 41, 2) := by decide +kernel
theorem dX7_conditionInside_14 : decode cX7_conditionInside 14 = .ok (.invokevirtual 318, 3) := by decide +kernel
theorem dX7_conditionInside_17 : decode cX7_conditionInside 17 = .ok (.iload_n 1, 1) := by decide +kernel
theorem dX7_conditionInside_18 : decode cX7_conditionInside 18 = .ok (.ireturn, 1) := by decide +kernel
theorem dX7_beginWhile_0 : decode cX7_beginWhile 0 = .ok (.aload_n 0, 1) := by decide +kernel
theorem dX7_beginWhile_1 : decode cX7_beginWhile 1 = .ok (.getfield 20, 3) := by decide +kernel
theorem dX7_beginWhile_4 : decode cX7_beginWhile 4 = .ok (.invokevirtual 136, 3) := by decide +kernel
theorem dX7_beginWhile_7 : decode cX7_beginWhile 7 = .ok (.istore_n 1, 1) := by decide +kernel
theorem dX7_beginWhile_8 : decode cX7_beginWhile 8 = .ok (.aload_n 0, 1) := by decide +kernel
theorem dX7_beginWhile_9 : decode cX7_beginWhile 9 = .ok (.getfield 20, 3) := by decide +kernel
theorem dX7_beginWhile_12 : decode cX7_beginWhile 12 = .ok (.invokevirtual 136, 3) := by decide +kernel
theorem dX7_beginWhile_15 : decode cX7_beginWhile 15 = .ok (.istore_n 2, 1) := by decide +kernel
theorem dX7_beginWhile_16 : decode cX7_beginWhile 16 = .ok (.aload_n 0, 1) := by decide +kernel
theorem dX7_beginWhile_17 : decode cX7_beginWhile 17 = .ok (.getfield 71, 3) := by decide +kernel
theorem dX7_beginWhile_20 : decode cX7_beginWhile 20 = .ok (.invokevirtual 146, 3) := by decide +kernel
theorem dX7_beginWhile_23 : decode cX7_beginWhile 23 = .ok (.aload_n 0, 1) := by decide +kernel
theorem dX7_beginWhile_24 : decode cX7_beginWhile 24 = .ok (.getfield 20, 3) := by decide +kernel
theorem dX7_beginWhile_27 : decode cX7_beginWhile 27 = .ok (.iload_n 1, 1) := by decide +kernel
theorem dX7_beginWhile_28 : decode cX7_beginWhile 28 = .ok (.invokevirtual 158, 3) := by decide +kernel
theorem dX7_beginWhile_31 : decode cX7_beginWhile 31 = .ok (.aload_n 0, 1) := by decide +kernel
theorem dX7_beginWhile_32 : decode cX7_beginWhile 32 = .ok (.invokevirtual 315, 3) := by decide +kernel
theorem dX7_beginWhile_35 : decode cX7_beginWhile 35 = .ok (.istore_n 3, 1) := by decide +kernel
theorem dX7_beginWhile_36 : decode cX7_beginWhile 36 = .ok (.aload_n 0, 1) := by decide +kernel
theorem dX7_beginWhile_37 : decode cX7_beginWhile 37 = .ok (.getfield 20, 3) := by decide +kernel
theorem dX7_beginWhile_40 : decode cX7_beginWhile 40 = .ok (.bipush 31, 2) := by decide +kernel
theorem dX7_beginWhile_42 : decode cX7_beginWhile 42 = .ok (.iload_n 2, 1) := by decide +kernel
theorem dX7_beginWhile_43 : decode cX7_beginWhile 43 = .ok (.invokevirtual 176, 3) := by decide +kernel
theorem dX7_beginWhile_46 : decode cX7_beginWhile 46 = .ok (.aload_n 0, 1) := by decide +kernel
theorem dX7_beginWhile_47 : decode cX7_beginWhile 47 = .ok (.getfield 20, 3) := by decide +kernel
theorem dX7_beginWhile_50 : decode cX7_beginWhile 50 = .ok (.bipush 51, 2) := by decide +kernel
theorem dX7_beginWhile_52 : decode cX7_beginWhile 52 = .ok (.iconst 0, 1) := by decide +kernel
theorem dX7_beginWhile_53 : decode cX7_beginWhile 53 = .ok (.invokevirtual 176, 3) := by decide +kernel
theorem dX7_beginWhile_56 : decode cX7_beginWhile 56 = .ok (.aload_n 0, 1) := by decide +kernel
theorem dX7_beginWhile_57 : decode cX7_beginWhile 57 = .ok (.sipush 205, 3) := by decide +kernel
theorem dX7_beginWhile_60 : decode cX7_beginWhile 60 = .ok (.iload_n 1, 1) := by decide +kernel
theorem dX7_beginWhile_61 : decode cX7_beginWhile 61 = .ok (.iload_n 2, 1) := by decide +kernel
theorem dX7_beginWhile_62 : decode cX7_beginWhile 62 = .ok (.invokevirtual 321, 3) := by decide +kernel
theorem dX7_beginWhile_65 : decode cX7_beginWhile 65 = .ok (.iload_n 3, 1) := by decide +kernel
theorem dX7_beginWhile_66 : decode cX7_beginWhile 66 = .ok (.putfield 324, 3) := by decide +kernel
theorem dX7_beginWhile_69 : decode cX7_beginWhile 69 = .ok (.return_, 1) := by decide +kernel
theorem dX7_pushLoop_0 : decode cX7_pushLoop 0 = .ok (.aload_n 0, 1) := by decide +kernel
theorem dX7_pushLoop_1 : decode cX7_pushLoop 1 = .ok (.getfield 14, 3) := by decide +kernel
theorem dX7_pushLoop_4 : decode cX7_pushLoop 4 = .ok (.iload_n 1, 1) := by decide +kernel
theorem dX7_pushLoop_5 : decode cX7_pushLoop 5 = .ok (.aload_n 0, 1) := by decide +kernel
theorem dX7_pushLoop_6 : decode cX7_pushLoop 6 = .ok (.getfield 68, 3) := by decide +kernel
theorem dX7_pushLoop_9 : decode cX7_pushLoop 9 = .ok (.aload_n 0, 1) := by decide +kernel
theorem dX7_pushLoop_10 : decode cX7_pushLoop 10 = .ok (.getfield 29, 3) := by decide +kernel
theorem dX7_pushLoop_13 : decode cX7_pushLoop 13 = .ok (.getfield 33, 3) := by decide +kernel
theorem dX7_pushLoop_16 : decode cX7_pushLoop 16 = .ok (.invokevirtual 81, 3) := by decide +kernel
theorem dX7_pushLoop_19 : decode cX7_pushLoop 19 = .ok (.astore 4, 2) := by decide +kernel
theorem dX7_pushLoop_21 : decode cX7_pushLoop 21 = .ok (.aload 4, 2) := by decide +kernel
theorem dX7_pushLoop_23 : decode cX7_pushLoop 23 = .ok (.iload_n 2, 1) := by decide +kernel
theorem dX7_pushLoop_24 : decode cX7_pushLoop 24 = .ok (.putfield 284, 3) := by decide +kernel
theorem dX7_pushLoop_27 : decode cX7_pushLoop 27 = .ok (.aload 4, 2) := by decide +kernel
theorem dX7_pushLoop_29 : decode cX7_pushLoop 29 = .ok (.iload_n 3, 1) := by decide +kernel
theorem dX7_pushLoop_30 : decode cX7_pushLoop 30 = .ok (.putfield 196, 3) := by decide +kernel
theorem dX7_pushLoop_33 : decode cX7_pushLoop 33 = .ok (.aload 4, 2) := by decide +kernel
theorem dX7_pushLoop_35 : decode cX7_pushLoop 35 = .ok (.areturn, 1) := by decide +kernel
theorem dX7_beginDo_0 : decode cX7_beginDo 0 = .ok (.aload_n 0, 1) := by decide +kernel
theorem dX7_beginDo_1 : decode cX7_beginDo 1 = .ok (.sipush 206, 3) := by decide +kernel
theorem dX7_beginDo_4 : decode cX7_beginDo 4 = .ok (.aload_n 0, 1) := by decide +kernel
theorem dX7_beginDo_5 : decode cX7_beginDo 5 = .ok (.getfield 20, 3) := by decide +kernel
theorem dX7_beginDo_8 : decode cX7_beginDo 8 = .ok (.invokevirtual 136, 3) := by decide +kernel
theorem dX7_beginDo_11 : decode cX7_beginDo 11 = .ok (.aload_n 0, 1) := by decide +kernel
theorem dX7_beginDo_12 : decode cX7_beginDo 12 = .ok (.getfield 20, 3) := by decide +kernel
theorem dX7_beginDo_15 : decode cX7_beginDo 15 = .ok (.invokevirtual 136, 3) := by decide +kernel
theorem dX7_beginDo_18 : decode cX7_beginDo 18 = .ok (.invokevirtual 321, 3) := by decide +kernel
theorem dX7_beginDo_21 : decode cX7_beginDo 21 = .ok (.astore_n 1, 1) := by decide +kernel
theorem dX7_beginDo_22 : decode cX7_beginDo 22 = .ok (.aload_n 1, 1) := by decide +kernel
theorem dX7_beginDo_23 : decode cX7_beginDo 23 = .ok (.aload_n 0, 1) := by decide +kernel
theorem dX7_beginDo_24 : decode cX7_beginDo 24 = .ok (.getfield 20, 3) := by decide +kernel
theorem dX7_beginDo_27 : decode cX7_beginDo 27 = .ok (.invokevirtual 136, 3) := by decide +kernel
theorem dX7_beginDo_30 : decode cX7_beginDo 30 = .ok (.putfield 140, 3) := by decide +kernel
theorem dX7_beginDo_33 : decode cX7_beginDo 33 = .ok (.aload_n 0, 1) := by decide +kernel
theorem dX7_beginDo_34 : decode cX7_beginDo 34 = .ok (.getfield 71, 3) := by decide +kernel
theorem dX7_beginDo_37 : decode cX7_beginDo 37 = .ok (.invokevirtual 146, 3) := by decide +kernel
theorem dX7_beginDo_40 : decode cX7_beginDo 40 = .ok (.aload_n 0, 1) := by decide +kernel
theorem dX7_beginDo_41 : decode cX7_beginDo 41 = .ok (.getfield 20, 3) := by decide +kernel
theorem dX7_beginDo_44 : decode cX7_beginDo 44 = .ok (.aload_n 1, 1) := by decide +kernel
theorem dX7_beginDo_45 : decode cX7_beginDo 45 = .ok (.getfield 140, 3) := by decide +kernel
theorem dX7_beginDo_48 : decode cX7_beginDo 48 = .ok (.invokevirtual 158, 3) := by decide +kernel
theorem dX7_beginDo_51 : decode cX7_beginDo 51 = .ok (.aload_n 0, 1) := by decide +kernel
theorem dX7_beginDo_52 : decode cX7_beginDo 52 = .ok (.getfield 20, 3) := by decide +kernel
theorem dX7_beginDo_55 : decode cX7_beginDo 55 = .ok (.bipush 51, 2) := by decide +kernel
theorem dX7_beginDo_57 : decode cX7_beginDo 57 = .ok (.iconst 0, 1) := by decide +kernel
theorem dX7_beginDo_58 : decode cX7_beginDo 58 = .ok (.invokevirtual 176, 3) := by decide +kernel
theorem dX7_beginDo_61 : decode cX7_beginDo 61 = .ok (.return_, 1) := by decide +kernel
theorem dX7_beginFor_0 : decode cX7_beginFor 0 = .ok (.aload_n 0, 1) := by decide +kernel
theorem dX7_beginFor_1 : decode cX7_beginFor 1 = .ok (.getfield 29, 3) := by decide +kernel
theorem dX7_beginFor_4 : decode cX7_beginFor 4 = .ok (.getfield 33, 3) := by decide +kernel
theorem dX7_beginFor_7 : decode cX7_beginFor 7 = .ok (.istore_n 1, 1) := by decide +kernel
theorem dX7_beginFor_8 : decode cX7_beginFor 8 = .ok (.aload_n 0, 1) := by decide +kernel
theorem dX7_beginFor_9 : decode cX7_beginFor 9 = .ok (.getfield 71, 3) := by decide +kernel
theorem dX7_beginFor_12 : decode cX7_beginFor 12 = .ok (.invokevirtual 146, 3) := by decide +kernel
theorem dX7_beginFor_15 : decode cX7_beginFor 15 = .ok (.aload_n 0, 1) := by decide +kernel
theorem dX7_beginFor_16 : decode cX7_beginFor 16 = .ok (.bipush 40, 2) := by decide +kernel
theorem dX7_beginFor_18 : decode cX7_beginFor 18 = .ok (.invokevirtual 173, 3) := by decide +kernel
theorem dX7_beginFor_21 : decode cX7_beginFor 21 = .ok (.aload_n 0, 1) := by decide +kernel
theorem dX7_beginFor_22 : decode cX7_beginFor 22 = .ok (.sipush 200, 3) := by decide +kernel
theorem dX7_beginFor_25 : decode cX7_beginFor 25 = .ok (.invokevirtual 205, 3) := by decide +kernel
theorem dX7_beginFor_28 : decode cX7_beginFor 28 = .ok (.ifCond .eq 39, 3) := by decide +kernel
theorem dX7_beginFor_31 : decode cX7_beginFor 31 = .ok (.aload_n 0, 1) := by decide +kernel
theorem dX7_beginFor_32 : decode cX7_beginFor 32 = .ok (.invokevirtual 217, 3) := by decide +kernel
theorem dX7_beginFor_35 : decode cX7_beginFor 35 = .ok (.lstore_n 3, 1) := by decide +kernel
theorem dX7_beginFor_36 : decode cX7_beginFor 36 = .ok (.aload_n 0, 1) := by decide +kernel
theorem dX7_beginFor_37 : decode cX7_beginFor 37 = .ok (.bipush 58, 2) := by decide +kernel
theorem dX7_beginFor_39 : decode cX7_beginFor 39 = .ok (.invokevirtual 110, 3) := by decide +kernel
theorem dX7_beginFor_42 : decode cX7_beginFor 42 = .ok (.ifCond .eq 12, 3) := by decide +kernel
theorem dX7_beginFor_45 : decode cX7_beginFor 45 = .ok (.aload_n 0, 1) := by decide +kernel
theorem dX7_beginFor_46 : decode cX7_beginFor 46 = .ok (.lload_n 3, 1) := by decide +kernel
theorem dX7_beginFor_47 : decode cX7_beginFor 47 = .ok (.invokevirtual 327, 3) := by decide +kernel
theorem dX7_beginFor_50 : decode cX7_beginFor 50 = .ok (.astore_n 2, 1) := by decide +kernel
theorem dX7_beginFor_51 : decode cX7_beginFor 51 = .ok (.goto 13, 3) := by decide +kernel
theorem dX7_beginFor_54 : decode cX7_beginFor 54 = .ok (.aload_n 0, 1) := by decide +kernel
theorem dX7_beginFor_55 : decode cX7_beginFor 55 = .ok (.lload_n 3, 1) := by decide +kernel
theorem dX7_beginFor_56 : decode cX7_beginFor 56 = .ok (.invokevirtual 221, 3) := by decide +kernel
theorem dX7_beginFor_59 : decode cX7_beginFor 59 = .ok (.aload_n 0, 1) := by decide +kernel
theorem dX7_beginFor_60 : decode cX7_beginFor 60 = .ok (.invokevirtual 331, 3) := by decide +kernel
theorem dX7_beginFor_63 : decode cX7_beginFor 63 = .ok (.astore_n 2, 1) := by decide +kernel
theorem dX7_beginFor_64 : decode cX7_beginFor 64 = .ok (.goto 21, 3) := by decide +kernel
theorem dX7_beginFor_67 : decode cX7_beginFor 67 = .ok (.aload_n 0, 1) := by decide +kernel
theorem dX7_beginFor_68 : decode cX7_beginFor 68 = .ok (.iconst 2, 1) := by decide +kernel
theorem dX7_beginFor_69 : decode cX7_beginFor 69 = .ok (.invokevirtual 110, 3) := by decide +kernel
theorem dX7_beginFor_72 : decode cX7_beginFor 72 = .ok (.ifCond .eq 8, 3) := by decide +kernel
theorem dX7_beginFor_75 : decode cX7_beginFor 75 = .ok (.aload_n 0, 1) := by decide +kernel
theorem dX7_beginFor_76 : decode cX7_beginFor 76 = .ok (.iconst 0, 1) := by decide +kernel
theorem dX7_beginFor_77 : decode cX7_beginFor 77 = .ok (.invokevirtual 335, 3) := by decide +kernel
theorem dX7_beginFor_80 : decode cX7_beginFor 80 = .ok (.aload_n 0, 1) := by decide +kernel
theorem dX7_beginFor_81 : decode cX7_beginFor 81 = .ok (.invokevirtual 331, 3) := by decide +kernel
theorem dX7_beginFor_84 : decode cX7_beginFor 84 = .ok (.astore_n 2, 1) := by decide +kernel
theorem dX7_beginFor_85 : decode cX7_beginFor 85 = .ok (.aload_n 2, 1) := by decide +kernel
theorem dX7_beginFor_86 : decode cX7_beginFor 86 = .ok (.iload_n 1, 1) := by decide +kernel
theorem dX7_beginFor_87 : decode cX7_beginFor 87 = .ok (.putfield 338, 3) := by decide +kernel
theorem dX7_beginFor_90 : decode cX7_beginFor 90 = .ok (.return_, 1) := by decide +kernel
theorem dX7_changeHere_0 : decode cX7_changeHere 0 = .ok (.aload_n 0, 1) := by decide +kernel
theorem dX7_changeHere_1 : decode cX7_changeHere 1 = .ok (.getfield 71, 3) := by decide +kernel
theorem dX7_changeHere_4 : decode cX7_changeHere 4 = .ok (.getfield 181, 3) := by decide +kernel
theorem dX7_changeHere_7 : decode cX7_changeHere 7 = .ok (.lstore_n 2, 1) := by decide +kernel
theorem dX7_changeHere_8 : decode cX7_changeHere 8 = .ok (.aload_n 0, 1) := by decide +kernel
theorem dX7_changeHere_9 : decode cX7_changeHere 9 = .ok (.getfield 71, 3) := by decide +kernel
theorem dX7_changeHere_12 : decode cX7_changeHere 12 = .ok (.getfield 143, 3) := by decide +kernel
theorem dX7_changeHere_15 : decode cX7_changeHere 15 = .ok (.istore 4, 2) := by decide +kernel
theorem dX7_changeHere_17 : decode cX7_changeHere 17 = .ok (.aload_n 0, 1) := by decide +kernel
theorem dX7_changeHere_18 : decode cX7_changeHere 18 = .ok (.getfield 71, 3) := by decide +kernel
theorem dX7_changeHere_21 : decode cX7_changeHere 21 = .ok (.invokevirtual 146, 3) := by decide +kernel
theorem dX7_changeHere_24 : decode cX7_changeHere 24 = .ok (.aload_n 0, 1) := by decide +kernel
theorem dX7_changeHere_25 : decode cX7_changeHere 25 = .ok (.lload_n 2, 1) := by decide +kernel
theorem dX7_changeHere_26 : decode cX7_changeHere 26 = .ok (.iload 4, 2) := by decide +kernel
theorem dX7_changeHere_28 : decode cX7_changeHere 28 = .ok (.iload_n 1, 1) := by decide +kernel
theorem dX7_changeHere_29 : decode cX7_changeHere 29 = .ok (.invokevirtual 185, 3) := by decide +kernel
theorem dX7_changeHere_32 : decode cX7_changeHere 32 = .ok (.return_, 1) := by decide +kernel
theorem dX7_forHead_0 : decode cX7_forHead 0 = .ok (.aload_n 0, 1) := by decide +kernel
theorem dX7_forHead_1 : decode cX7_forHead 1 = .ok (.getfield 20, 3) := by decide +kernel
theorem dX7_forHead_4 : decode cX7_forHead 4 = .ok (.invokevirtual 136, 3) := by decide +kernel
theorem dX7_forHead_7 : decode cX7_forHead 7 = .ok (.istore_n 1, 1) := by decide +kernel
theorem dX7_forHead_8 : decode cX7_forHead 8 = .ok (.aload_n 0, 1) := by decide +kernel
theorem dX7_forHead_9 : decode cX7_forHead 9 = .ok (.getfield 20, 3) := by decide +kernel
theorem dX7_forHead_12 : decode cX7_forHead 12 = .ok (.invokevirtual 136, 3) := by decide +kernel
theorem dX7_forHead_15 : decode cX7_forHead 15 = .ok (.istore_n 2, 1) := by decide +kernel
theorem dX7_forHead_16 : decode cX7_forHead 16 = .ok (.aload_n 0, 1) := by decide +kernel
theorem dX7_forHead_17 : decode cX7_forHead 17 = .ok (.getfield 20, 3) := by decide +kernel
theorem dX7_forHead_20 : decode cX7_forHead 20 = .ok (.invokevirtual 136, 3) := by decide +kernel
theorem dX7_forHead_23 : decode cX7_forHead 23 = .ok (.istore_n 3, 1) := by decide +kernel
theorem dX7_forHead_24 : decode cX7_forHead 24 = .ok (.aload_n 0, 1) := by decide +kernel
theorem dX7_forHead_25 : decode cX7_forHead 25 = .ok (.getfield 20, 3) := by decide +kernel
theorem dX7_forHead_28 : decode cX7_forHead 28 = .ok (.invokevirtual 136, 3) := by decide +kernel
theorem dX7_forHead_31 : decode cX7_forHead 31 = .ok (.istore 4, 2) := by decide +kernel
theorem dX7_forHead_33 : decode cX7_forHead 33 = .ok (.iconst 1, 1) := by decide +kernel
theorem dX7_forHead_34 : decode cX7_forHead 34 = .ok (.istore 5, 2) := by decide +kernel
theorem dX7_forHead_36 : decode cX7_forHead 36 = .ok (.aload_n 0, 1) := by decide +kernel
theorem dX7_forHead_37 : decode cX7_forHead 37 = .ok (.bipush 59, 2) := by decide +kernel
theorem dX7_forHead_39 : decode cX7_forHead 39 = .ok (.invokevirtual 155, 3) := by decide +kernel
theorem dX7_forHead_42 : decode cX7_forHead 42 = .ok (.aload_n 0, 1) := by decide +kernel
theorem dX7_forHead_43 : decode cX7_forHead 43 = .ok (.getfield 20, 3) := by decide +kernel
theorem dX7_forHead_46 : decode cX7_forHead 46 = .ok (.iload_n 1, 1) := by decide +kernel
theorem dX7_forHead_47 : decode cX7_forHead 47 = .ok (.invokevirtual 158, 3) := by decide +kernel
theorem dX7_forHead_50 : decode cX7_forHead 50 = .ok (.aload_n 0, 1) := by decide +kernel
theorem dX7_forHead_51 : decode cX7_forHead 51 = .ok (.bipush 59, 2) := by decide +kernel
theorem dX7_forHead_53 : decode cX7_forHead 53 = .ok (.invokevirtual 110, 3) := by decide +kernel
theorem dX7_forHead_56 : decode cX7_forHead 56 = .ok (.ifCond .ne 20, 3) := by decide +kernel
theorem dX7_forHead_59 : decode cX7_forHead 59 = .ok (.aload_n 0, 1) := by decide +kernel
theorem dX7_forHead_60 : decode cX7_forHead 60 = .ok (.invokevirtual 312, 3) := by decide +kernel
theorem dX7_forHead_63 : decode cX7_forHead 63 = .ok (.istore 5, 2) := by decide +kernel
theorem dX7_forHead_65 : decode cX7_forHead 65 = .ok (.aload_n 0, 1) := by decide +kernel
theorem dX7_forHead_66 : decode cX7_forHead 66 = .ok (.getfield 20, 3) := by decide +kernel
theorem dX7_forHead_69 : decode cX7_forHead 69 = .ok (.bipush 31, 2) := by decide +kernel
theorem dX7_forHead_71 : decode cX7_forHead 71 = .ok (.iload 4, 2) := by decide +kernel
theorem dX7_forHead_73 : decode cX7_forHead 73 = .ok (.invokevirtual 176, 3) := by decide +kernel
theorem dX7_forHead_76 : decode cX7_forHead 76 = .ok (.aload_n 0, 1) := by decide +kernel
theorem dX7_forHead_77 : decode cX7_forHead 77 = .ok (.getfield 20, 3) := by decide +kernel
theorem dX7_forHead_80 : decode cX7_forHead 80 = .ok (.bipush 30, 2) := by decide +kernel
theorem dX7_forHead_82 : decode cX7_forHead 82 = .ok (.iload_n 3, 1) := by decide +kernel
theorem dX7_forHead_83 : decode cX7_forHead 83 = .ok (.invokevirtual 176, 3) := by decide +kernel
theorem dX7_forHead_86 : decode cX7_forHead 86 = .ok (.aload_n 0, 1) := by decide +kernel
theorem dX7_forHead_87 : decode cX7_forHead 87 = .ok (.bipush 59, 2) := by decide +kernel
theorem dX7_forHead_89 : decode cX7_forHead 89 = .ok (.invokevirtual 155, 3) := by decide +kernel
theorem dX7_forHead_92 : decode cX7_forHead 92 = .ok (.aload_n 0, 1) := by decide +kernel
theorem dX7_forHead_93 : decode cX7_forHead 93 = .ok (.getfield 20, 3) := by decide +kernel
theorem dX7_forHead_96 : decode cX7_forHead 96 = .ok (.iload_n 2, 1) := by decide +kernel
theorem dX7_forHead_97 : decode cX7_forHead 97 = .ok (.invokevirtual 158, 3) := by decide +kernel
theorem dX7_forHead_100 : decode cX7_forHead 100 = .ok (.aload_n 0, 1) := by decide +kernel
theorem dX7_forHead_101 : decode cX7_forHead 101 = .ok (.iconst 2, 1) := by decide +kernel
theorem dX7_forHead_102 : decode cX7_forHead 102 = .ok (.invokevirtual 110, 3) := by decide +kernel
theorem dX7_forHead_105 : decode cX7_forHead 105 = .ok (.ifCond .eq 8, 3) := by decide +kernel
theorem dX7_forHead_108 : decode cX7_forHead 108 = .ok (.aload_n 0, 1) := by decide +kernel
theorem dX7_forHead_109 : decode cX7_forHead 109 = .ok (.iconst 1, 1) := by decide +kernel
theorem dX7_forHead_110 : decode cX7_forHead 110 = .ok (.invokevirtual 335, 3) := by decide +kernel
theorem dX7_forHead_113 : decode cX7_forHead 113 = .ok (.aload_n 0, 1) := by decide +kernel
theorem dX7_forHead_114 : decode cX7_forHead 114 = .ok (.bipush 41, 2) := by decide +kernel
theorem dX7_forHead_116 : decode cX7_forHead 116 = .ok (.invokevirtual 318, 3) := by decide +kernel
theorem dX7_forHead_119 : decode cX7_forHead 119 = .ok (.aload_n 0, 1) := by decide +kernel
theorem dX7_forHead_120 : decode cX7_forHead 120 = .ok (.getfield 20, 3) := by decide +kernel
theorem dX7_forHead_123 : decode cX7_forHead 123 = .ok (.bipush 30, 2) := by decide +kernel
theorem dX7_forHead_125 : decode cX7_forHead 125 = .ok (.iload_n 1, 1) := by decide +kernel
theorem dX7_forHead_126 : decode cX7_forHead 126 = .ok (.invokevirtual 176, 3) := by decide +kernel
theorem dX7_forHead_129 : decode cX7_forHead 129 = .ok (.aload_n 0, 1) := by decide +kernel
theorem dX7_forHead_130 : decode cX7_forHead 130 = .ok (.getfield 20, 3) := by decide +kernel
theorem dX7_forHead_133 : decode cX7_forHead 133 = .ok (.iload_n 3, 1) := by decide +kernel
theorem dX7_forHead_134 : decode cX7_forHead 134 = .ok (.invokevirtual 158, 3) := by decide +kernel
theorem dX7_forHead_137 : decode cX7_forHead 137 = .ok (.aload_n 0, 1) := by decide +kernel
theorem dX7_forHead_138 : decode cX7_forHead 138 = .ok (.getfield 20, 3) := by decide +kernel
theorem dX7_forHead_141 : decode cX7_forHead 141 = .ok (.bipush 51, 2) := by decide +kernel
theorem dX7_forHead_143 : decode cX7_forHead 143 = .ok (.iconst 0, 1) := by decide +kernel
theorem dX7_forHead_144 : decode cX7_forHead 144 = .ok (.invokevirtual 176, 3) := by decide +kernel
theorem dX7_forHead_147 : decode cX7_forHead 147 = .ok (.aload_n 0, 1) := by decide +kernel
theorem dX7_forHead_148 : decode cX7_forHead 148 = .ok (.sipush 207, 3) := by decide +kernel
theorem dX7_forHead_151 : decode cX7_forHead 151 = .ok (.iload_n 2, 1) := by decide +kernel
theorem dX7_forHead_152 : decode cX7_forHead 152 = .ok (.iload 4, 2) := by decide +kernel
theorem dX7_forHead_154 : decode cX7_forHead 154 = .ok (.invokevirtual 321, 3) := by decide +kernel
theorem dX7_forHead_157 : decode cX7_forHead 157 = .ok (.astore 6, 2) := by decide +kernel
theorem dX7_forHead_159 : decode cX7_forHead 159 = .ok (.aload 6, 2) := by decide +kernel
theorem dX7_forHead_161 : decode cX7_forHead 161 = .ok (.iload 5, 2) := by decide +kernel
theorem dX7_forHead_163 : decode cX7_forHead 163 = .ok (.putfield 324, 3) := by decide +kernel
theorem dX7_forHead_166 : decode cX7_forHead 166 = .ok (.aload 6, 2) := by decide +kernel
theorem dX7_forHead_168 : decode cX7_forHead 168 = .ok (.areturn, 1) := by decide +kernel
theorem dX7_rowHead_0 : decode cX7_rowHead 0 = .ok (.aload_n 0, 1) := by decide +kernel
theorem dX7_rowHead_1 : decode cX7_rowHead 1 = .ok (.getfield 20, 3) := by decide +kernel
theorem dX7_rowHead_4 : decode cX7_rowHead 4 = .ok (.invokevirtual 136, 3) := by decide +kernel
theorem dX7_rowHead_7 : decode cX7_rowHead 7 = .ok (.istore_n 3, 1) := by decide +kernel
theorem dX7_rowHead_8 : decode cX7_rowHead 8 = .ok (.aload_n 0, 1) := by decide +kernel
theorem dX7_rowHead_9 : decode cX7_rowHead 9 = .ok (.getfield 20, 3) := by decide +kernel
theorem dX7_rowHead_12 : decode cX7_rowHead 12 = .ok (.invokevirtual 136, 3) := by decide +kernel
theorem dX7_rowHead_15 : decode cX7_rowHead 15 = .ok (.istore 4, 2) := by decide +kernel
theorem dX7_rowHead_17 : decode cX7_rowHead 17 = .ok (.aload_n 0, 1) := by decide +kernel
theorem dX7_rowHead_18 : decode cX7_rowHead 18 = .ok (.getfield 71, 3) := by decide +kernel
theorem dX7_rowHead_21 : decode cX7_rowHead 21 = .ok (.invokevirtual 146, 3) := by decide +kernel
theorem dX7_rowHead_24 : decode cX7_rowHead 24 = .ok (.aload_n 0, 1) := by decide +kernel
theorem dX7_rowHead_25 : decode cX7_rowHead 25 = .ok (.invokevirtual 341, 3) := by decide +kernel
theorem dX7_rowHead_28 : decode cX7_rowHead 28 = .ok (.istore 5, 2) := by decide +kernel
theorem dX7_rowHead_30 : decode cX7_rowHead 30 = .ok (.aload_n 0, 1) := by decide +kernel
theorem dX7_rowHead_31 : decode cX7_rowHead 31 = .ok (.bipush 41, 2) := by decide +kernel
theorem dX7_rowHead_33 : decode cX7_rowHead 33 = .ok (.invokevirtual 318, 3) := by decide +kernel
theorem dX7_rowHead_36 : decode cX7_rowHead 36 = .ok (.aload_n 0, 1) := by decide +kernel
theorem dX7_rowHead_37 : decode cX7_rowHead 37 = .ok (.getfield 20, 3) := by decide +kernel
theorem dX7_rowHead_40 : decode cX7_rowHead 40 = .ok (.iload_n 3, 1) := by decide +kernel
theorem dX7_rowHead_41 : decode cX7_rowHead 41 = .ok (.invokevirtual 158, 3) := by decide +kernel
theorem dX7_rowHead_44 : decode cX7_rowHead 44 = .ok (.aload_n 0, 1) := by decide +kernel
theorem dX7_rowHead_45 : decode cX7_rowHead 45 = .ok (.getfield 20, 3) := by decide +kernel
theorem dX7_rowHead_48 : decode cX7_rowHead 48 = .ok (.bipush 37, 2) := by decide +kernel
theorem dX7_rowHead_50 : decode cX7_rowHead 50 = .ok (.iload 5, 2) := by decide +kernel
theorem dX7_rowHead_52 : decode cX7_rowHead 52 = .ok (.invokevirtual 176, 3) := by decide +kernel
theorem dX7_rowHead_55 : decode cX7_rowHead 55 = .ok (.aload_n 0, 1) := by decide +kernel
theorem dX7_rowHead_56 : decode cX7_rowHead 56 = .ok (.getfield 20, 3) := by decide +kernel
theorem dX7_rowHead_59 : decode cX7_rowHead 59 = .ok (.bipush 31, 2) := by decide +kernel
theorem dX7_rowHead_61 : decode cX7_rowHead 61 = .ok (.iload 4, 2) := by decide +kernel
theorem dX7_rowHead_63 : decode cX7_rowHead 63 = .ok (.invokevirtual 176, 3) := by decide +kernel
theorem dX7_rowHead_66 : decode cX7_rowHead 66 = .ok (.aload_n 0, 1) := by decide +kernel
theorem dX7_rowHead_67 : decode cX7_rowHead 67 = .ok (.getfield 20, 3) := by decide +kernel
theorem dX7_rowHead_70 : decode cX7_rowHead 70 = .ok (.bipush 51, 2) := by decide +kernel
theorem dX7_rowHead_72 : decode cX7_rowHead 72 = .ok (.iconst 0, 1) := by decide +kernel
theorem dX7_rowHead_73 : decode cX7_rowHead 73 = .ok (.invokevirtual 176, 3) := by decide +kernel
theorem dX7_rowHead_76 : decode cX7_rowHead 76 = .ok (.aload_n 0, 1) := by decide +kernel
theorem dX7_rowHead_77 : decode cX7_rowHead 77 = .ok (.getfield 20, 3) := by decide +kernel
theorem dX7_rowHead_80 : decode cX7_rowHead 80 = .ok (.bipush 38, 2) := by decide +kernel
theorem dX7_rowHead_82 : decode cX7_rowHead 82 = .ok (.iload 5, 2) := by decide +kernel
theorem dX7_rowHead_84 : decode cX7_rowHead 84 = .ok (.invokevirtual 176, 3) := by decide +kernel
theorem dX7_rowHead_87 : decode cX7_rowHead 87 = .ok (.aload_n 0, 1) := by decide +kernel
theorem dX7_rowHead_88 : decode cX7_rowHead 88 = .ok (.getfield 20, 3) := by decide +kernel
theorem dX7_rowHead_91 : decode cX7_rowHead 91 = .ok (.iconst 2, 1) := by decide +kernel
theorem dX7_rowHead_92 : decode cX7_rowHead 92 = .ok (.aload_n 0, 1) := by decide +kernel
theorem dX7_rowHead_93 : decode cX7_rowHead 93 = .ok (.lload_n 1, 1) := by decide +kernel
theorem dX7_rowHead_94 : decode cX7_rowHead 94 = .ok (.invokevirtual 264, 3) := by decide +kernel
theorem dX7_rowHead_97 : decode cX7_rowHead 97 = .ok (.invokevirtual 176, 3) := by decide +kernel
theorem dX7_rowHead_100 : decode cX7_rowHead 100 = .ok (.aload_n 0, 1) := by decide +kernel
theorem dX7_rowHead_101 : decode cX7_rowHead 101 = .ok (.sipush 304, 3) := by decide +kernel
theorem dX7_rowHead_104 : decode cX7_rowHead 104 = .ok (.iload_n 3, 1) := by decide +kernel
theorem dX7_rowHead_105 : decode cX7_rowHead 105 = .ok (.iload 4, 2) := by decide +kernel
theorem dX7_rowHead_107 : decode cX7_rowHead 107 = .ok (.invokevirtual 321, 3) := by decide +kernel
theorem dX7_rowHead_110 : decode cX7_rowHead 110 = .ok (.areturn, 1) := by decide +kernel
theorem dX7_rowValues_0 : decode cX7_rowValues 0 = .ok (.aload_n 0, 1) := by decide +kernel
theorem dX7_rowValues_1 : decode cX7_rowValues 1 = .ok (.sipush 224, 3) := by decide +kernel
theorem dX7_rowValues_4 : decode cX7_rowValues 4 = .ok (.invokevirtual 205, 3) := by decide +kernel
theorem dX7_rowValues_7 : decode cX7_rowValues 7 = .ok (.ifCond .eq 16, 3) := by decide +kernel
theorem dX7_rowValues_10 : decode cX7_rowValues 10 = .ok (.aload_n 0, 1) := by decide +kernel
theorem dX7_rowValues_11 : decode cX7_rowValues 11 = .ok (.invokevirtual 344, 3) := by decide +kernel
theorem dX7_rowValues_14 : decode cX7_rowValues 14 = .ok (.aload_n 0, 1) := by decide +kernel
theorem dX7_rowValues_15 : decode cX7_rowValues 15 = .ok (.getfield 20, 3) := by decide +kernel
theorem dX7_rowValues_18 : decode cX7_rowValues 18 = .ok (.iconst 2, 1) := by decide +kernel
theorem dX7_rowValues_19 : decode cX7_rowValues 19 = .ok (.invokevirtual 41, 3) := by decide +kernel
theorem dX7_rowValues_22 : decode cX7_rowValues 22 = .ok (.ireturn, 1) := by decide +kernel
theorem dX7_rowValues_23 : decode cX7_rowValues 23 = .ok (.iconst 1, 1) := by decide +kernel
theorem dX7_rowValues_24 : decode cX7_rowValues 24 = .ok (.istore_n 1, 1) := by decide +kernel
theorem dX7_rowValues_25 : decode cX7_rowValues 25 = .ok (.aload_n 0, 1) := by decide +kernel
theorem dX7_rowValues_26 : decode cX7_rowValues 26 = .ok (.invokevirtual 211, 3) := by decide +kernel
theorem dX7_rowValues_29 : decode cX7_rowValues 29 = .ok (.iconst 0, 1) := by decide +kernel
theorem dX7_rowValues_30 : decode cX7_rowValues 30 = .ok (.istore_n 2, 1) := by decide +kernel
theorem dX7_rowValues_31 : decode cX7_rowValues 31 = .ok (.iload_n 2, 1) := by decide +kernel
theorem dX7_rowValues_32 : decode cX7_rowValues 32 = .ok (.sipush 900, 3) := by decide +kernel
theorem dX7_rowValues_35 : decode cX7_rowValues 35 = .ok (.if_icmp .ge 25, 3) := by decide +kernel
theorem dX7_rowValues_38 : decode cX7_rowValues 38 = .ok (.aload_n 0, 1) := by decide +kernel
theorem dX7_rowValues_39 : decode cX7_rowValues 39 = .ok (.bipush 44, 2) := by decide +kernel
theorem dX7_rowValues_41 : decode cX7_rowValues 41 = .ok (.invokevirtual 205, 3) := by decide +kernel
theorem dX7_rowValues_44 : decode cX7_rowValues 44 = .ok (.ifCond .eq 16, 3) := by decide +kernel
theorem dX7_rowValues_47 : decode cX7_rowValues 47 = .ok (.aload_n 0, 1) := by decide +kernel
theorem dX7_rowValues_48 : decode cX7_rowValues 48 = .ok (.invokevirtual 211, 3) := by decide +kernel
theorem dX7_rowValues_51 : decode cX7_rowValues 51 = .ok (.iinc 1 1, 3) := by decide +kernel
theorem dX7_rowValues_54 : decode cX7_rowValues 54 = .ok (.iinc 2 1, 3) := by decide +kernel
theorem dX7_rowValues_57 : decode cX7_rowValues 57 = .ok (.goto (-26), 3) := by decide +kernel
theorem dX7_rowValues_60 : decode cX7_rowValues 60 = .ok (.aload_n 0, 1) := by decide +kernel
end
section
theorem dX7_rowValues_61 : decode cX7_rowValues 61 = .ok (.getfield 20, 3) := by decide +kernel
theorem dX7_rowValues_64 : decode cX7_rowValues 64 = .ok (.iconst 2, 1) := by decide +kernel
theorem dX7_rowValues_65 : decode cX7_rowValues 65 = .ok (.iload_n 1, 1) := by decide +kernel
theorem dX7_rowValues_66 : decode cX7_rowValues 66 = .ok (.iadd, 1) := by decide +kernel
theorem dX7_rowValues_67 : decode cX7_rowValues 67 = .ok (.invokevirtual 41, 3) := by decide +kernel
theorem dX7_rowValues_70 : decode cX7_rowValues 70 = .ok (.istore_n 2, 1) := by decide +kernel
theorem dX7_rowValues_71 : decode cX7_rowValues 71 = .ok (.aload_n 0, 1) := by decide +kernel
theorem dX7_rowValues_72 : decode cX7_rowValues 72 = .ok (.getfield 20, 3) := by decide +kernel
theorem dX7_rowValues_75 : decode cX7_rowValues 75 = .ok (.iconst 0, 1) := by decide +kernel
theorem dX7_rowValues_76 : decode cX7_rowValues 76 = .ok (.iload_n 1, 1) := by decide +kernel
theorem dX7_rowValues_77 : decode cX7_rowValues 77 = .ok (.invokevirtual 176, 3) := by decide +kernel
theorem dX7_rowValues_80 : decode cX7_rowValues 80 = .ok (.aload_n 0, 1) := by decide +kernel
theorem dX7_rowValues_81 : decode cX7_rowValues 81 = .ok (.getfield 20, 3) := by decide +kernel
theorem dX7_rowValues_84 : decode cX7_rowValues 84 = .ok (.bipush 36, 2) := by decide +kernel
theorem dX7_rowValues_86 : decode cX7_rowValues 86 = .ok (.iload_n 2, 1) := by decide +kernel
theorem dX7_rowValues_87 : decode cX7_rowValues 87 = .ok (.invokevirtual 176, 3) := by decide +kernel
theorem dX7_rowValues_90 : decode cX7_rowValues 90 = .ok (.iload_n 2, 1) := by decide +kernel
theorem dX7_rowValues_91 : decode cX7_rowValues 91 = .ok (.ireturn, 1) := by decide +kernel
theorem dX7_throwNull_0 : decode cX7_throwNull 0 = .ok (.aload_n 0, 1) := by decide +kernel
theorem dX7_throwNull_1 : decode cX7_throwNull 1 = .ok (.getfield 20, 3) := by decide +kernel
theorem dX7_throwNull_4 : decode cX7_throwNull 4 = .ok (.iconst 0, 1) := by decide +kernel
theorem dX7_throwNull_5 : decode cX7_throwNull 5 = .ok (.iconst 0, 1) := by decide +kernel
theorem dX7_throwNull_6 : decode cX7_throwNull 6 = .ok (.invokevirtual 176, 3) := by decide +kernel
theorem dX7_throwNull_9 : decode cX7_throwNull 9 = .ok (.aload_n 0, 1) := by decide +kernel
theorem dX7_throwNull_10 : decode cX7_throwNull 10 = .ok (.getfield 20, 3) := by decide +kernel
theorem dX7_throwNull_13 : decode cX7_throwNull 13 = .ok (.bipush 63, 2) := by decide +kernel
theorem dX7_throwNull_15 : decode cX7_throwNull 15 = .ok (.iconst 1, 1) := by decide +kernel
theorem dX7_throwNull_16 : decode cX7_throwNull 16 = .ok (.invokevirtual 176, 3) := by decide +kernel
theorem dX7_throwNull_19 : decode cX7_throwNull 19 = .ok (.return_, 1) := by decide +kernel
theorem dX7_beginLock_0 : decode cX7_beginLock 0 = .ok (.aload_n 0, 1) := by decide +kernel
theorem dX7_beginLock_1 : decode cX7_beginLock 1 = .ok (.getfield 71, 3) := by decide +kernel
theorem dX7_beginLock_4 : decode cX7_beginLock 4 = .ok (.invokevirtual 146, 3) := by decide +kernel
theorem dX7_beginLock_7 : decode cX7_beginLock 7 = .ok (.aload_n 0, 1) := by decide +kernel
theorem dX7_beginLock_8 : decode cX7_beginLock 8 = .ok (.bipush 40, 2) := by decide +kernel
theorem dX7_beginLock_10 : decode cX7_beginLock 10 = .ok (.invokevirtual 173, 3) := by decide +kernel
theorem dX7_beginLock_13 : decode cX7_beginLock 13 = .ok (.aload_n 0, 1) := by decide +kernel
theorem dX7_beginLock_14 : decode cX7_beginLock 14 = .ok (.iconst 3, 1) := by decide +kernel
theorem dX7_beginLock_15 : decode cX7_beginLock 15 = .ok (.invokevirtual 110, 3) := by decide +kernel
theorem dX7_beginLock_18 : decode cX7_beginLock 18 = .ok (.ifCond .eq 29, 3) := by decide +kernel
theorem dX7_beginLock_21 : decode cX7_beginLock 21 = .ok (.aload_n 0, 1) := by decide +kernel
theorem dX7_beginLock_22 : decode cX7_beginLock 22 = .ok (.getfield 20, 3) := by decide +kernel
theorem dX7_beginLock_25 : decode cX7_beginLock 25 = .ok (.bipush 53, 2) := by decide +kernel
theorem dX7_beginLock_27 : decode cX7_beginLock 27 = .ok (.aload_n 0, 1) := by decide +kernel
theorem dX7_beginLock_28 : decode cX7_beginLock 28 = .ok (.getfield 71, 3) := by decide +kernel
theorem dX7_beginLock_31 : decode cX7_beginLock 31 = .ok (.getfield 297, 3) := by decide +kernel
theorem dX7_beginLock_34 : decode cX7_beginLock 34 = .ok (.invokevirtual 176, 3) := by decide +kernel
theorem dX7_beginLock_37 : decode cX7_beginLock 37 = .ok (.aload_n 0, 1) := by decide +kernel
theorem dX7_beginLock_38 : decode cX7_beginLock 38 = .ok (.getfield 71, 3) := by decide +kernel
theorem dX7_beginLock_41 : decode cX7_beginLock 41 = .ok (.invokevirtual 146, 3) := by decide +kernel
theorem dX7_beginLock_44 : decode cX7_beginLock 44 = .ok (.goto 14, 3) := by decide +kernel
theorem dX7_beginLock_47 : decode cX7_beginLock 47 = .ok (.aload_n 0, 1) := by decide +kernel
theorem dX7_beginLock_48 : decode cX7_beginLock 48 = .ok (.sipush 224, 3) := by decide +kernel
theorem dX7_beginLock_51 : decode cX7_beginLock 51 = .ok (.invokevirtual 155, 3) := by decide +kernel
theorem dX7_beginLock_54 : decode cX7_beginLock 54 = .ok (.aload_n 0, 1) := by decide +kernel
theorem dX7_beginLock_55 : decode cX7_beginLock 55 = .ok (.invokevirtual 344, 3) := by decide +kernel
theorem dX7_beginLock_58 : decode cX7_beginLock 58 = .ok (.aload_n 0, 1) := by decide +kernel
theorem dX7_beginLock_59 : decode cX7_beginLock 59 = .ok (.bipush 41, 2) := by decide +kernel
theorem dX7_beginLock_61 : decode cX7_beginLock 61 = .ok (.invokevirtual 318, 3) := by decide +kernel
theorem dX7_beginLock_64 : decode cX7_beginLock 64 = .ok (.aload_n 0, 1) := by decide +kernel
theorem dX7_beginLock_65 : decode cX7_beginLock 65 = .ok (.bipush 123, 2) := by decide +kernel
theorem dX7_beginLock_67 : decode cX7_beginLock 67 = .ok (.invokevirtual 173, 3) := by decide +kernel
theorem dX7_beginLock_70 : decode cX7_beginLock 70 = .ok (.aload_n 0, 1) := by decide +kernel
theorem dX7_beginLock_71 : decode cX7_beginLock 71 = .ok (.getfield 14, 3) := by decide +kernel
theorem dX7_beginLock_74 : decode cX7_beginLock 74 = .ok (.sipush 212, 3) := by decide +kernel
theorem dX7_beginLock_77 : decode cX7_beginLock 77 = .ok (.aload_n 0, 1) := by decide +kernel
theorem dX7_beginLock_78 : decode cX7_beginLock 78 = .ok (.getfield 68, 3) := by decide +kernel
theorem dX7_beginLock_81 : decode cX7_beginLock 81 = .ok (.aload_n 0, 1) := by decide +kernel
theorem dX7_beginLock_82 : decode cX7_beginLock 82 = .ok (.getfield 29, 3) := by decide +kernel
theorem dX7_beginLock_85 : decode cX7_beginLock 85 = .ok (.getfield 33, 3) := by decide +kernel
theorem dX7_beginLock_88 : decode cX7_beginLock 88 = .ok (.invokevirtual 81, 3) := by decide +kernel
theorem dX7_beginLock_91 : decode cX7_beginLock 91 = .ok (.astore_n 1, 1) := by decide +kernel
theorem dX7_beginLock_92 : decode cX7_beginLock 92 = .ok (.aload_n 1, 1) := by decide +kernel
theorem dX7_beginLock_93 : decode cX7_beginLock 93 = .ok (.aload_n 0, 1) := by decide +kernel
theorem dX7_beginLock_94 : decode cX7_beginLock 94 = .ok (.getfield 20, 3) := by decide +kernel
theorem dX7_beginLock_97 : decode cX7_beginLock 97 = .ok (.invokevirtual 136, 3) := by decide +kernel
theorem dX7_beginLock_100 : decode cX7_beginLock 100 = .ok (.putfield 196, 3) := by decide +kernel
theorem dX7_beginLock_103 : decode cX7_beginLock 103 = .ok (.aload_n 0, 1) := by decide +kernel
theorem dX7_beginLock_104 : decode cX7_beginLock 104 = .ok (.dup, 1) := by decide +kernel
theorem dX7_beginLock_105 : decode cX7_beginLock 105 = .ok (.getfield 68, 3) := by decide +kernel
theorem dX7_beginLock_108 : decode cX7_beginLock 108 = .ok (.iconst 1, 1) := by decide +kernel
theorem dX7_beginLock_109 : decode cX7_beginLock 109 = .ok (.iadd, 1) := by decide +kernel
theorem dX7_beginLock_110 : decode cX7_beginLock 110 = .ok (.putfield 68, 3) := by decide +kernel
theorem dX7_beginLock_113 : decode cX7_beginLock 113 = .ok (.return_, 1) := by decide +kernel
theorem dX7_beginSwitch_0 : decode cX7_beginSwitch 0 = .ok (.aload_n 0, 1) := by decide +kernel
theorem dX7_beginSwitch_1 : decode cX7_beginSwitch 1 = .ok (.getfield 71, 3) := by decide +kernel
theorem dX7_beginSwitch_4 : decode cX7_beginSwitch 4 = .ok (.invokevirtual 146, 3) := by decide +kernel
theorem dX7_beginSwitch_7 : decode cX7_beginSwitch 7 = .ok (.aload_n 0, 1) := by decide +kernel
theorem dX7_beginSwitch_8 : decode cX7_beginSwitch 8 = .ok (.bipush 40, 2) := by decide +kernel
theorem dX7_beginSwitch_10 : decode cX7_beginSwitch 10 = .ok (.invokevirtual 173, 3) := by decide +kernel
theorem dX7_beginSwitch_13 : decode cX7_beginSwitch 13 = .ok (.aload_n 0, 1) := by decide +kernel
theorem dX7_beginSwitch_14 : decode cX7_beginSwitch 14 = .ok (.invokevirtual 211, 3) := by decide +kernel
theorem dX7_beginSwitch_17 : decode cX7_beginSwitch 17 = .ok (.aload_n 0, 1) := by decide +kernel
theorem dX7_beginSwitch_18 : decode cX7_beginSwitch 18 = .ok (.bipush 41, 2) := by decide +kernel
theorem dX7_beginSwitch_20 : decode cX7_beginSwitch 20 = .ok (.invokevirtual 318, 3) := by decide +kernel
theorem dX7_beginSwitch_23 : decode cX7_beginSwitch 23 = .ok (.aload_n 0, 1) := by decide +kernel
theorem dX7_beginSwitch_24 : decode cX7_beginSwitch 24 = .ok (.bipush 123, 2) := by decide +kernel
theorem dX7_beginSwitch_26 : decode cX7_beginSwitch 26 = .ok (.invokevirtual 173, 3) := by decide +kernel
theorem dX7_beginSwitch_29 : decode cX7_beginSwitch 29 = .ok (.aload_n 0, 1) := by decide +kernel
theorem dX7_beginSwitch_30 : decode cX7_beginSwitch 30 = .ok (.getfield 14, 3) := by decide +kernel
theorem dX7_beginSwitch_33 : decode cX7_beginSwitch 33 = .ok (.sipush 218, 3) := by decide +kernel
theorem dX7_beginSwitch_36 : decode cX7_beginSwitch 36 = .ok (.aload_n 0, 1) := by decide +kernel
theorem dX7_beginSwitch_37 : decode cX7_beginSwitch 37 = .ok (.getfield 68, 3) := by decide +kernel
theorem dX7_beginSwitch_40 : decode cX7_beginSwitch 40 = .ok (.aload_n 0, 1) := by decide +kernel
theorem dX7_beginSwitch_41 : decode cX7_beginSwitch 41 = .ok (.getfield 29, 3) := by decide +kernel
theorem dX7_beginSwitch_44 : decode cX7_beginSwitch 44 = .ok (.getfield 33, 3) := by decide +kernel
theorem dX7_beginSwitch_47 : decode cX7_beginSwitch 47 = .ok (.invokevirtual 81, 3) := by decide +kernel
theorem dX7_beginSwitch_50 : decode cX7_beginSwitch 50 = .ok (.astore_n 1, 1) := by decide +kernel
theorem dX7_beginSwitch_51 : decode cX7_beginSwitch 51 = .ok (.aload_n 1, 1) := by decide +kernel
theorem dX7_beginSwitch_52 : decode cX7_beginSwitch 52 = .ok (.aload_n 0, 1) := by decide +kernel
theorem dX7_beginSwitch_53 : decode cX7_beginSwitch 53 = .ok (.getfield 20, 3) := by decide +kernel
theorem dX7_beginSwitch_56 : decode cX7_beginSwitch 56 = .ok (.invokevirtual 136, 3) := by decide +kernel
theorem dX7_beginSwitch_59 : decode cX7_beginSwitch 59 = .ok (.putfield 284, 3) := by decide +kernel
theorem dX7_beginSwitch_62 : decode cX7_beginSwitch 62 = .ok (.aload_n 1, 1) := by decide +kernel
theorem dX7_beginSwitch_63 : decode cX7_beginSwitch 63 = .ok (.aload_n 0, 1) := by decide +kernel
theorem dX7_beginSwitch_64 : decode cX7_beginSwitch 64 = .ok (.getfield 20, 3) := by decide +kernel
theorem dX7_beginSwitch_67 : decode cX7_beginSwitch 67 = .ok (.invokevirtual 136, 3) := by decide +kernel
theorem dX7_beginSwitch_70 : decode cX7_beginSwitch 70 = .ok (.putfield 196, 3) := by decide +kernel
theorem dX7_beginSwitch_73 : decode cX7_beginSwitch 73 = .ok (.aload_n 1, 1) := by decide +kernel
theorem dX7_beginSwitch_74 : decode cX7_beginSwitch 74 = .ok (.aload_n 0, 1) := by decide +kernel
theorem dX7_beginSwitch_75 : decode cX7_beginSwitch 75 = .ok (.getfield 20, 3) := by decide +kernel
theorem dX7_beginSwitch_78 : decode cX7_beginSwitch 78 = .ok (.getfield 347, 3) := by decide +kernel
theorem dX7_beginSwitch_81 : decode cX7_beginSwitch 81 = .ok (.putfield 149, 3) := by decide +kernel
theorem dX7_beginSwitch_84 : decode cX7_beginSwitch 84 = .ok (.aload_n 0, 1) := by decide +kernel
theorem dX7_beginSwitch_85 : decode cX7_beginSwitch 85 = .ok (.getfield 20, 3) := by decide +kernel
theorem dX7_beginSwitch_88 : decode cX7_beginSwitch 88 = .ok (.bipush 30, 2) := by decide +kernel
theorem dX7_beginSwitch_90 : decode cX7_beginSwitch 90 = .ok (.aload_n 1, 1) := by decide +kernel
theorem dX7_beginSwitch_91 : decode cX7_beginSwitch 91 = .ok (.getfield 284, 3) := by decide +kernel
theorem dX7_beginSwitch_94 : decode cX7_beginSwitch 94 = .ok (.invokevirtual 176, 3) := by decide +kernel
theorem dX7_beginSwitch_97 : decode cX7_beginSwitch 97 = .ok (.return_, 1) := by decide +kernel
theorem dX7_beginTry_0 : decode cX7_beginTry 0 = .ok (.aload_n 0, 1) := by decide +kernel
theorem dX7_beginTry_1 : decode cX7_beginTry 1 = .ok (.getfield 14, 3) := by decide +kernel
theorem dX7_beginTry_4 : decode cX7_beginTry 4 = .ok (.sipush 213, 3) := by decide +kernel
theorem dX7_beginTry_7 : decode cX7_beginTry 7 = .ok (.aload_n 0, 1) := by decide +kernel
theorem dX7_beginTry_8 : decode cX7_beginTry 8 = .ok (.getfield 68, 3) := by decide +kernel
theorem dX7_beginTry_11 : decode cX7_beginTry 11 = .ok (.aload_n 0, 1) := by decide +kernel
theorem dX7_beginTry_12 : decode cX7_beginTry 12 = .ok (.getfield 29, 3) := by decide +kernel
theorem dX7_beginTry_15 : decode cX7_beginTry 15 = .ok (.getfield 33, 3) := by decide +kernel
theorem dX7_beginTry_18 : decode cX7_beginTry 18 = .ok (.invokevirtual 81, 3) := by decide +kernel
theorem dX7_beginTry_21 : decode cX7_beginTry 21 = .ok (.astore_n 1, 1) := by decide +kernel
theorem dX7_beginTry_22 : decode cX7_beginTry 22 = .ok (.aload_n 1, 1) := by decide +kernel
theorem dX7_beginTry_23 : decode cX7_beginTry 23 = .ok (.aload_n 0, 1) := by decide +kernel
theorem dX7_beginTry_24 : decode cX7_beginTry 24 = .ok (.getfield 20, 3) := by decide +kernel
theorem dX7_beginTry_27 : decode cX7_beginTry 27 = .ok (.invokevirtual 136, 3) := by decide +kernel
theorem dX7_beginTry_30 : decode cX7_beginTry 30 = .ok (.putfield 284, 3) := by decide +kernel
theorem dX7_beginTry_33 : decode cX7_beginTry 33 = .ok (.aload_n 1, 1) := by decide +kernel
theorem dX7_beginTry_34 : decode cX7_beginTry 34 = .ok (.aload_n 0, 1) := by decide +kernel
theorem dX7_beginTry_35 : decode cX7_beginTry 35 = .ok (.getfield 20, 3) := by decide +kernel
theorem dX7_beginTry_38 : decode cX7_beginTry 38 = .ok (.invokevirtual 136, 3) := by decide +kernel
theorem dX7_beginTry_41 : decode cX7_beginTry 41 = .ok (.putfield 140, 3) := by decide +kernel
theorem dX7_beginTry_44 : decode cX7_beginTry 44 = .ok (.aload_n 1, 1) := by decide +kernel
theorem dX7_beginTry_45 : decode cX7_beginTry 45 = .ok (.aload_n 0, 1) := by decide +kernel
theorem dX7_beginTry_46 : decode cX7_beginTry 46 = .ok (.getfield 20, 3) := by decide +kernel
theorem dX7_beginTry_49 : decode cX7_beginTry 49 = .ok (.invokevirtual 136, 3) := by decide +kernel
theorem dX7_beginTry_52 : decode cX7_beginTry 52 = .ok (.putfield 196, 3) := by decide +kernel
theorem dX7_beginTry_55 : decode cX7_beginTry 55 = .ok (.aload_n 0, 1) := by decide +kernel
theorem dX7_beginTry_56 : decode cX7_beginTry 56 = .ok (.getfield 71, 3) := by decide +kernel
theorem dX7_beginTry_59 : decode cX7_beginTry 59 = .ok (.invokevirtual 146, 3) := by decide +kernel
theorem dX7_beginTry_62 : decode cX7_beginTry 62 = .ok (.aload_n 0, 1) := by decide +kernel
theorem dX7_beginTry_63 : decode cX7_beginTry 63 = .ok (.getfield 20, 3) := by decide +kernel
theorem dX7_beginTry_66 : decode cX7_beginTry 66 = .ok (.bipush 54, 2) := by decide +kernel
theorem dX7_beginTry_68 : decode cX7_beginTry 68 = .ok (.aload_n 1, 1) := by decide +kernel
theorem dX7_beginTry_69 : decode cX7_beginTry 69 = .ok (.getfield 284, 3) := by decide +kernel
theorem dX7_beginTry_72 : decode cX7_beginTry 72 = .ok (.invokevirtual 176, 3) := by decide +kernel
theorem dX7_beginTry_75 : decode cX7_beginTry 75 = .ok (.aload_n 0, 1) := by decide +kernel
theorem dX7_beginTry_76 : decode cX7_beginTry 76 = .ok (.dup, 1) := by decide +kernel
theorem dX7_beginTry_77 : decode cX7_beginTry 77 = .ok (.getfield 68, 3) := by decide +kernel
theorem dX7_beginTry_80 : decode cX7_beginTry 80 = .ok (.iconst 1, 1) := by decide +kernel
theorem dX7_beginTry_81 : decode cX7_beginTry 81 = .ok (.iadd, 1) := by decide +kernel
theorem dX7_beginTry_82 : decode cX7_beginTry 82 = .ok (.putfield 68, 3) := by decide +kernel
theorem dX7_beginTry_85 : decode cX7_beginTry 85 = .ok (.aload_n 0, 1) := by decide +kernel
theorem dX7_beginTry_86 : decode cX7_beginTry 86 = .ok (.sipush 214, 3) := by decide +kernel
theorem dX7_beginTry_89 : decode cX7_beginTry 89 = .ok (.invokevirtual 205, 3) := by decide +kernel
theorem dX7_beginTry_92 : decode cX7_beginTry 92 = .ok (.ifCond .eq 40, 3) := by decide +kernel
theorem dX7_beginTry_95 : decode cX7_beginTry 95 = .ok (.aload_n 1, 1) := by decide +kernel
theorem dX7_beginTry_96 : decode cX7_beginTry 96 = .ok (.iconst 1, 1) := by decide +kernel
theorem dX7_beginTry_97 : decode cX7_beginTry 97 = .ok (.putfield 350, 3) := by decide +kernel
theorem dX7_beginTry_100 : decode cX7_beginTry 100 = .ok (.aload_n 0, 1) := by decide +kernel
theorem dX7_beginTry_101 : decode cX7_beginTry 101 = .ok (.invokevirtual 353, 3) := by decide +kernel
theorem dX7_beginTry_104 : decode cX7_beginTry 104 = .ok (.iconst 0, 1) := by decide +kernel
theorem dX7_beginTry_105 : decode cX7_beginTry 105 = .ok (.istore_n 2, 1) := by decide +kernel
theorem dX7_beginTry_106 : decode cX7_beginTry 106 = .ok (.iload_n 2, 1) := by decide +kernel
theorem dX7_beginTry_107 : decode cX7_beginTry 107 = .ok (.sipush 900, 3) := by decide +kernel
theorem dX7_beginTry_110 : decode cX7_beginTry 110 = .ok (.if_icmp .ge 22, 3) := by decide +kernel
theorem dX7_beginTry_113 : decode cX7_beginTry 113 = .ok (.aload_n 0, 1) := by decide +kernel
theorem dX7_beginTry_114 : decode cX7_beginTry 114 = .ok (.bipush 44, 2) := by decide +kernel
theorem dX7_beginTry_116 : decode cX7_beginTry 116 = .ok (.invokevirtual 205, 3) := by decide +kernel
theorem dX7_beginTry_119 : decode cX7_beginTry 119 = .ok (.ifCond .eq 13, 3) := by decide +kernel
theorem dX7_beginTry_122 : decode cX7_beginTry 122 = .ok (.aload_n 0, 1) := by decide +kernel
theorem dX7_beginTry_123 : decode cX7_beginTry 123 = .ok (.invokevirtual 353, 3) := by decide +kernel
theorem dX7_beginTry_126 : decode cX7_beginTry 126 = .ok (.iinc 2 1, 3) := by decide +kernel
theorem dX7_beginTry_129 : decode cX7_beginTry 129 = .ok (.goto (-23), 3) := by decide +kernel
theorem dX7_beginTry_132 : decode cX7_beginTry 132 = .ok (.aload_n 0, 1) := by decide +kernel
theorem dX7_beginTry_133 : decode cX7_beginTry 133 = .ok (.bipush 123, 2) := by decide +kernel
theorem dX7_beginTry_135 : decode cX7_beginTry 135 = .ok (.invokevirtual 173, 3) := by decide +kernel
theorem dX7_beginTry_138 : decode cX7_beginTry 138 = .ok (.return_, 1) := by decide +kernel
theorem dX7_openResource_0 : decode cX7_openResource 0 = .ok (.aload_n 0, 1) := by decide +kernel
theorem dX7_openResource_1 : decode cX7_openResource 1 = .ok (.iconst 4, 1) := by decide +kernel
theorem dX7_openResource_2 : decode cX7_openResource 2 = .ok (.invokevirtual 110, 3) := by decide +kernel
theorem dX7_openResource_5 : decode cX7_openResource 5 = .ok (.ifCond .ne 8, 3) := by decide +kernel
theorem dX7_openResource_8 : decode cX7_openResource 8 = .ok (.aload_n 0, 1) := by decide +kernel
theorem dX7_openResource_9 : decode cX7_openResource 9 = .ok (.invokevirtual 161, 3) := by decide +kernel
theorem dX7_openResource_12 : decode cX7_openResource 12 = .ok (.return_, 1) := by decide +kernel
theorem dX7_openResource_13 : decode cX7_openResource 13 = .ok (.aload_n 0, 1) := by decide +kernel
theorem dX7_openResource_14 : decode cX7_openResource 14 = .ok (.getfield 20, 3) := by decide +kernel
theorem dX7_openResource_17 : decode cX7_openResource 17 = .ok (.bipush 55, 2) := by decide +kernel
theorem dX7_openResource_19 : decode cX7_openResource 19 = .ok (.aload_n 0, 1) := by decide +kernel
theorem dX7_openResource_20 : decode cX7_openResource 20 = .ok (.getfield 71, 3) := by decide +kernel
theorem dX7_openResource_23 : decode cX7_openResource 23 = .ok (.getfield 297, 3) := by decide +kernel
theorem dX7_openResource_26 : decode cX7_openResource 26 = .ok (.invokevirtual 176, 3) := by decide +kernel
theorem dX7_openResource_29 : decode cX7_openResource 29 = .ok (.aload_n 0, 1) := by decide +kernel
theorem dX7_openResource_30 : decode cX7_openResource 30 = .ok (.getfield 71, 3) := by decide +kernel
theorem dX7_openResource_33 : decode cX7_openResource 33 = .ok (.invokevirtual 146, 3) := by decide +kernel
theorem dX7_openResource_36 : decode cX7_openResource 36 = .ok (.return_, 1) := by decide +kernel
theorem dX7_endBody_0 : decode cX7_endBody 0 = .ok (.aload_n 1, 1) := by decide +kernel
theorem dX7_endBody_1 : decode cX7_endBody 1 = .ok (.getfield 107, 3) := by decide +kernel
theorem dX7_endBody_4 : decode cX7_endBody 4 = .ok (.lookupswitch 137 #[(203, 44), (204, 50), (206, 129), (303, 87)], 44) := by decide +kernel
theorem dX7_endBody_48 : decode cX7_endBody 48 = .ok (.aload_n 0, 1) := by decide +kernel
theorem dX7_endBody_49 : decode cX7_endBody 49 = .ok (.aload_n 1, 1) := by decide +kernel
theorem dX7_endBody_50 : decode cX7_endBody 50 = .ok (.invokevirtual 356, 3) := by decide +kernel
theorem dX7_endBody_53 : decode cX7_endBody 53 = .ok (.return_, 1) := by decide +kernel
theorem dX7_endBody_54 : decode cX7_endBody 54 = .ok (.aload_n 0, 1) := by decide +kernel
theorem dX7_endBody_55 : decode cX7_endBody 55 = .ok (.getfield 20, 3) := by decide +kernel
theorem dX7_endBody_58 : decode cX7_endBody 58 = .ok (.aload_n 1, 1) := by decide +kernel
theorem dX7_endBody_59 : decode cX7_endBody 59 = .ok (.getfield 196, 3) := by decide +kernel
theorem dX7_endBody_62 : decode cX7_endBody 62 = .ok (.invokevirtual 158, 3) := by decide +kernel
theorem dX7_endBody_65 : decode cX7_endBody 65 = .ok (.aload_n 0, 1) := by decide +kernel
theorem dX7_endBody_66 : decode cX7_endBody 66 = .ok (.aload_n 0, 1) := by decide +kernel
theorem dX7_endBody_67 : decode cX7_endBody 67 = .ok (.getfield 61, 3) := by decide +kernel
theorem dX7_endBody_70 : decode cX7_endBody 70 = .ok (.ifCond .ne 10, 3) := by decide +kernel
theorem dX7_endBody_73 : decode cX7_endBody 73 = .ok (.aload_n 1, 1) := by decide +kernel
theorem dX7_endBody_74 : decode cX7_endBody 74 = .ok (.getfield 359, 3) := by decide +kernel
theorem dX7_endBody_77 : decode cX7_endBody 77 = .ok (.ifCond .eq 7, 3) := by decide +kernel
theorem dX7_endBody_80 : decode cX7_endBody 80 = .ok (.iconst 1, 1) := by decide +kernel
theorem dX7_endBody_81 : decode cX7_endBody 81 = .ok (.goto 4, 3) := by decide +kernel
theorem dX7_endBody_84 : decode cX7_endBody 84 = .ok (.iconst 0, 1) := by decide +kernel
theorem dX7_endBody_85 : decode cX7_endBody 85 = .ok (.putfield 61, 3) := by decide +kernel
theorem dX7_endBody_88 : decode cX7_endBody 88 = .ok (.goto 105, 3) := by decide +kernel
theorem dX7_endBody_91 : decode cX7_endBody 91 = .ok (.aload_n 0, 1) := by decide +kernel
theorem dX7_endBody_92 : decode cX7_endBody 92 = .ok (.getfield 20, 3) := by decide +kernel
theorem dX7_endBody_95 : decode cX7_endBody 95 = .ok (.aload_n 1, 1) := by decide +kernel
theorem dX7_endBody_96 : decode cX7_endBody 96 = .ok (.getfield 196, 3) := by decide +kernel
theorem dX7_endBody_99 : decode cX7_endBody 99 = .ok (.invokevirtual 158, 3) := by decide +kernel
theorem dX7_endBody_102 : decode cX7_endBody 102 = .ok (.aload_n 0, 1) := by decide +kernel
theorem dX7_endBody_103 : decode cX7_endBody 103 = .ok (.aload_n 0, 1) := by decide +kernel
theorem dX7_endBody_104 : decode cX7_endBody 104 = .ok (.getfield 61, 3) := by decide +kernel
theorem dX7_endBody_107 : decode cX7_endBody 107 = .ok (.ifCond .ne 15, 3) := by decide +kernel
theorem dX7_endBody_110 : decode cX7_endBody 110 = .ok (.aload_n 0, 1) := by decide +kernel
theorem dX7_endBody_111 : decode cX7_endBody 111 = .ok (.getfield 14, 3) := by decide +kernel
theorem dX7_endBody_114 : decode cX7_endBody 114 = .ok (.aload_n 1, 1) := by decide +kernel
theorem dX7_endBody_115 : decode cX7_endBody 115 = .ok (.iconst 0, 1) := by decide +kernel
theorem dX7_endBody_116 : decode cX7_endBody 116 = .ok (.invokevirtual 362, 3) := by decide +kernel
theorem dX7_endBody_119 : decode cX7_endBody 119 = .ok (.ifCond .eq 7, 3) := by decide +kernel
theorem dX7_endBody_122 : decode cX7_endBody 122 = .ok (.iconst 1, 1) := by decide +kernel
theorem dX7_endBody_123 : decode cX7_endBody 123 = .ok (.goto 4, 3) := by decide +kernel
theorem dX7_endBody_126 : decode cX7_endBody 126 = .ok (.iconst 0, 1) := by decide +kernel
theorem dX7_endBody_127 : decode cX7_endBody 127 = .ok (.putfield 61, 3) := by decide +kernel
theorem dX7_endBody_130 : decode cX7_endBody 130 = .ok (.goto 63, 3) := by decide +kernel
theorem dX7_endBody_133 : decode cX7_endBody 133 = .ok (.aload_n 0, 1) := by decide +kernel
theorem dX7_endBody_134 : decode cX7_endBody 134 = .ok (.aload_n 1, 1) := by decide +kernel
theorem dX7_endBody_135 : decode cX7_endBody 135 = .ok (.invokevirtual 366, 3) := by decide +kernel
theorem dX7_endBody_138 : decode cX7_endBody 138 = .ok (.goto 55, 3) := by decide +kernel
theorem dX7_endBody_141 : decode cX7_endBody 141 = .ok (.aload_n 0, 1) := by decide +kernel
theorem dX7_endBody_142 : decode cX7_endBody 142 = .ok (.getfield 20, 3) := by decide +kernel
theorem dX7_endBody_145 : decode cX7_endBody 145 = .ok (.bipush 30, 2) := by decide +kernel
theorem dX7_endBody_147 : decode cX7_endBody 147 = .ok (.aload_n 1, 1) := by decide +kernel
theorem dX7_endBody_148 : decode cX7_endBody 148 = .ok (.getfield 284, 3) := by decide +kernel
theorem dX7_endBody_151 : decode cX7_endBody 151 = .ok (.invokevirtual 176, 3) := by decide +kernel
theorem dX7_endBody_154 : decode cX7_endBody 154 = .ok (.aload_n 0, 1) := by decide +kernel
theorem dX7_endBody_155 : decode cX7_endBody 155 = .ok (.getfield 20, 3) := by decide +kernel
theorem dX7_endBody_158 : decode cX7_endBody 158 = .ok (.aload_n 1, 1) := by decide +kernel
theorem dX7_endBody_159 : decode cX7_endBody 159 = .ok (.getfield 196, 3) := by decide +kernel
theorem dX7_endBody_162 : decode cX7_endBody 162 = .ok (.invokevirtual 158, 3) := by decide +kernel
theorem dX7_endBody_165 : decode cX7_endBody 165 = .ok (.aload_n 0, 1) := by decide +kernel
theorem dX7_endBody_166 : decode cX7_endBody 166 = .ok (.aload_n 1, 1) := by decide +kernel
theorem dX7_endBody_167 : decode cX7_endBody 167 = .ok (.getfield 324, 3) := by decide +kernel
theorem dX7_endBody_170 : decode cX7_endBody 170 = .ok (.ifCond .eq 15, 3) := by decide +kernel
theorem dX7_endBody_173 : decode cX7_endBody 173 = .ok (.aload_n 0, 1) := by decide +kernel
theorem dX7_endBody_174 : decode cX7_endBody 174 = .ok (.getfield 14, 3) := by decide +kernel
theorem dX7_endBody_177 : decode cX7_endBody 177 = .ok (.aload_n 1, 1) := by decide +kernel
theorem dX7_endBody_178 : decode cX7_endBody 178 = .ok (.iconst 0, 1) := by decide +kernel
theorem dX7_endBody_179 : decode cX7_endBody 179 = .ok (.invokevirtual 362, 3) := by decide +kernel
theorem dX7_endBody_182 : decode cX7_endBody 182 = .ok (.ifCond .eq 7, 3) := by decide +kernel
theorem dX7_endBody_185 : decode cX7_endBody 185 = .ok (.iconst 1, 1) := by decide +kernel
theorem dX7_endBody_186 : decode cX7_endBody 186 = .ok (.goto 4, 3) := by decide +kernel
theorem dX7_endBody_189 : decode cX7_endBody 189 = .ok (.iconst 0, 1) := by decide +kernel
theorem dX7_endBody_190 : decode cX7_endBody 190 = .ok (.putfield 61, 3) := by decide +kernel
theorem dX7_endBody_193 : decode cX7_endBody 193 = .ok (.aload_n 0, 1) := by decide +kernel
theorem dX7_endBody_194 : decode cX7_endBody 194 = .ok (.getfield 29, 3) := by decide +kernel
theorem dX7_endBody_197 : decode cX7_endBody 197 = .ok (.aload_n 1, 1) := by decide +kernel
theorem dX7_endBody_198 : decode cX7_endBody 198 = .ok (.getfield 338, 3) := by decide +kernel
theorem dX7_endBody_201 : decode cX7_endBody 201 = .ok (.putfield 33, 3) := by decide +kernel
theorem dX7_endBody_204 : decode cX7_endBody 204 = .ok (.aload_n 0, 1) := by decide +kernel
theorem dX7_endBody_205 : decode cX7_endBody 205 = .ok (.getfield 14, 3) := by decide +kernel
theorem dX7_endBody_208 : decode cX7_endBody 208 = .ok (.invokevirtual 369, 3) := by decide +kernel
theorem dX7_endBody_211 : decode cX7_endBody 211 = .ok (.return_, 1) := by decide +kernel
theorem dX7_endIf_0 : decode cX7_endIf 0 = .ok (.aload_n 0, 1) := by decide +kernel
theorem dX7_endIf_1 : decode cX7_endIf 1 = .ok (.sipush 204, 3) := by decide +kernel
theorem dX7_endIf_4 : decode cX7_endIf 4 = .ok (.invokevirtual 205, 3) := by decide +kernel
theorem dX7_endIf_7 : decode cX7_endIf 7 = .ok (.ifCond .ne 27, 3) := by decide +kernel
theorem dX7_endIf_10 : decode cX7_endIf 10 = .ok (.aload_n 0, 1) := by decide +kernel
theorem dX7_endIf_11 : decode cX7_endIf 11 = .ok (.getfield 20, 3) := by decide +kernel
theorem dX7_endIf_14 : decode cX7_endIf 14 = .ok (.aload_n 1, 1) := by decide +kernel
theorem dX7_endIf_15 : decode cX7_endIf 15 = .ok (.getfield 284, 3) := by decide +kernel
theorem dX7_endIf_18 : decode cX7_endIf 18 = .ok (.invokevirtual 158, 3) := by decide +kernel
theorem dX7_endIf_21 : decode cX7_endIf 21 = .ok (.aload_n 0, 1) := by decide +kernel
theorem dX7_endIf_22 : decode cX7_endIf 22 = .ok (.iconst 1, 1) := by decide +kernel
theorem dX7_endIf_23 : decode cX7_endIf 23 = .ok (.putfield 61, 3) := by decide +kernel
theorem dX7_endIf_26 : decode cX7_endIf 26 = .ok (.aload_n 0, 1) := by decide +kernel
theorem dX7_endIf_27 : decode cX7_endIf 27 = .ok (.getfield 14, 3) := by decide +kernel
theorem dX7_endIf_30 : decode cX7_endIf 30 = .ok (.invokevirtual 369, 3) := by decide +kernel
theorem dX7_endIf_33 : decode cX7_endIf 33 = .ok (.return_, 1) := by decide +kernel
theorem dX7_endIf_34 : decode cX7_endIf 34 = .ok (.aload_n 1, 1) := by decide +kernel
theorem dX7_endIf_35 : decode cX7_endIf 35 = .ok (.sipush 204, 3) := by decide +kernel
theorem dX7_endIf_38 : decode cX7_endIf 38 = .ok (.putfield 107, 3) := by decide +kernel
theorem dX7_endIf_41 : decode cX7_endIf 41 = .ok (.aload_n 1, 1) := by decide +kernel
theorem dX7_endIf_42 : decode cX7_endIf 42 = .ok (.iconst 0, 1) := by decide +kernel
theorem dX7_endIf_43 : decode cX7_endIf 43 = .ok (.putfield 130, 3) := by decide +kernel
theorem dX7_endIf_46 : decode cX7_endIf 46 = .ok (.aload_n 1, 1) := by decide +kernel
theorem dX7_endIf_47 : decode cX7_endIf 47 = .ok (.aload_n 0, 1) := by decide +kernel
theorem dX7_endIf_48 : decode cX7_endIf 48 = .ok (.getfield 61, 3) := by decide +kernel
theorem dX7_endIf_51 : decode cX7_endIf 51 = .ok (.putfield 359, 3) := by decide +kernel
theorem dX7_endIf_54 : decode cX7_endIf 54 = .ok (.aload_n 1, 1) := by decide +kernel
theorem dX7_endIf_55 : decode cX7_endIf 55 = .ok (.aload_n 0, 1) := by decide +kernel
theorem dX7_endIf_56 : decode cX7_endIf 56 = .ok (.getfield 20, 3) := by decide +kernel
theorem dX7_endIf_59 : decode cX7_endIf 59 = .ok (.invokevirtual 136, 3) := by decide +kernel
theorem dX7_endIf_62 : decode cX7_endIf 62 = .ok (.putfield 196, 3) := by decide +kernel
theorem dX7_endIf_65 : decode cX7_endIf 65 = .ok (.aload_n 0, 1) := by decide +kernel
theorem dX7_endIf_66 : decode cX7_endIf 66 = .ok (.getfield 20, 3) := by decide +kernel
theorem dX7_endIf_69 : decode cX7_endIf 69 = .ok (.bipush 30, 2) := by decide +kernel
theorem dX7_endIf_71 : decode cX7_endIf 71 = .ok (.aload_n 1, 1) := by decide +kernel
theorem dX7_endIf_72 : decode cX7_endIf 72 = .ok (.getfield 196, 3) := by decide +kernel
theorem dX7_endIf_75 : decode cX7_endIf 75 = .ok (.invokevirtual 176, 3) := by decide +kernel
theorem dX7_endIf_78 : decode cX7_endIf 78 = .ok (.aload_n 0, 1) := by decide +kernel
theorem dX7_endIf_79 : decode cX7_endIf 79 = .ok (.getfield 20, 3) := by decide +kernel
theorem dX7_endIf_82 : decode cX7_endIf 82 = .ok (.aload_n 1, 1) := by decide +kernel
theorem dX7_endIf_83 : decode cX7_endIf 83 = .ok (.getfield 284, 3) := by decide +kernel
theorem dX7_endIf_86 : decode cX7_endIf 86 = .ok (.invokevirtual 158, 3) := by decide +kernel
theorem dX7_endIf_89 : decode cX7_endIf 89 = .ok (.aload_n 0, 1) := by decide +kernel
theorem dX7_endIf_90 : decode cX7_endIf 90 = .ok (.iconst 1, 1) := by decide +kernel
theorem dX7_endIf_91 : decode cX7_endIf 91 = .ok (.putfield 61, 3) := by decide +kernel
theorem dX7_endIf_94 : decode cX7_endIf 94 = .ok (.return_, 1) := by decide +kernel
theorem dX7_endDo_0 : decode cX7_endDo 0 = .ok (.aload_n 0, 1) := by decide +kernel
theorem dX7_endDo_1 : decode cX7_endDo 1 = .ok (.getfield 61, 3) := by decide +kernel
theorem dX7_endDo_4 : decode cX7_endDo 4 = .ok (.ifCond .ne 15, 3) := by decide +kernel
theorem dX7_endDo_7 : decode cX7_endDo 7 = .ok (.aload_n 0, 1) := by decide +kernel
theorem dX7_endDo_8 : decode cX7_endDo 8 = .ok (.getfield 14, 3) := by decide +kernel
theorem dX7_endDo_11 : decode cX7_endDo 11 = .ok (.aload_n 1, 1) := by decide +kernel
theorem dX7_endDo_12 : decode cX7_endDo 12 = .ok (.iconst 1, 1) := by decide +kernel
theorem dX7_endDo_13 : decode cX7_endDo 13 = .ok (.invokevirtual 362, 3) := by decide +kernel
theorem dX7_endDo_16 : decode cX7_endDo 16 = .ok (.ifCond .eq 7, 3) := by decide +kernel
theorem dX7_endDo_19 : decode cX7_endDo 19 = .ok (.iconst 1, 1) := by decide +kernel
theorem dX7_endDo_20 : decode cX7_endDo 20 = .ok (.goto 4, 3) := by decide +kernel
theorem dX7_endDo_23 : decode cX7_endDo 23 = .ok (.iconst 0, 1) := by decide +kernel
theorem dX7_endDo_24 : decode cX7_endDo 24 = .ok (.istore_n 2, 1) := by decide +kernel
theorem dX7_endDo_25 : decode cX7_endDo 25 = .ok (.aload_n 0, 1) := by decide +kernel
theorem dX7_endDo_26 : decode cX7_endDo 26 = .ok (.sipush 205, 3) := by decide +kernel
theorem dX7_endDo_29 : decode cX7_endDo 29 = .ok (.invokevirtual 155, 3) := by decide +kernel
theorem dX7_endDo_32 : decode cX7_endDo 32 = .ok (.aload_n 0, 1) := by decide +kernel
theorem dX7_endDo_33 : decode cX7_endDo 33 = .ok (.getfield 20, 3) := by decide +kernel
theorem dX7_endDo_36 : decode cX7_endDo 36 = .ok (.aload_n 1, 1) := by decide +kernel
theorem dX7_endDo_37 : decode cX7_endDo 37 = .ok (.getfield 284, 3) := by decide +kernel
theorem dX7_endDo_40 : decode cX7_endDo 40 = .ok (.invokevirtual 158, 3) := by decide +kernel
theorem dX7_endDo_43 : decode cX7_endDo 43 = .ok (.aload_n 0, 1) := by decide +kernel
theorem dX7_endDo_44 : decode cX7_endDo 44 = .ok (.invokevirtual 315, 3) := by decide +kernel
theorem dX7_endDo_47 : decode cX7_endDo 47 = .ok (.istore_n 3, 1) := by decide +kernel
theorem dX7_endDo_48 : decode cX7_endDo 48 = .ok (.aload_n 0, 1) := by decide +kernel
theorem dX7_endDo_49 : decode cX7_endDo 49 = .ok (.bipush 59, 2) := by decide +kernel
theorem dX7_endDo_51 : decode cX7_endDo 51 = .ok (.invokevirtual 155, 3) := by decide +kernel
theorem dX7_endDo_54 : decode cX7_endDo 54 = .ok (.aload_n 0, 1) := by decide +kernel
theorem dX7_endDo_55 : decode cX7_endDo 55 = .ok (.getfield 20, 3) := by decide +kernel
theorem dX7_endDo_58 : decode cX7_endDo 58 = .ok (.bipush 31, 2) := by decide +kernel
theorem dX7_endDo_60 : decode cX7_endDo 60 = .ok (.aload_n 1, 1) := by decide +kernel
theorem dX7_endDo_61 : decode cX7_endDo 61 = .ok (.getfield 196, 3) := by decide +kernel
theorem dX7_endDo_64 : decode cX7_endDo 64 = .ok (.invokevirtual 176, 3) := by decide +kernel
theorem dX7_endDo_67 : decode cX7_endDo 67 = .ok (.aload_n 0, 1) := by decide +kernel
theorem dX7_endDo_68 : decode cX7_endDo 68 = .ok (.getfield 20, 3) := by decide +kernel
theorem dX7_endDo_71 : decode cX7_endDo 71 = .ok (.bipush 30, 2) := by decide +kernel
theorem dX7_endDo_73 : decode cX7_endDo 73 = .ok (.aload_n 1, 1) := by decide +kernel
theorem dX7_endDo_74 : decode cX7_endDo 74 = .ok (.getfield 140, 3) := by decide +kernel
theorem dX7_endDo_77 : decode cX7_endDo 77 = .ok (.invokevirtual 176, 3) := by decide +kernel
theorem dX7_endDo_80 : decode cX7_endDo 80 = .ok (.aload_n 0, 1) := by decide +kernel
theorem dX7_endDo_81 : decode cX7_endDo 81 = .ok (.getfield 20, 3) := by decide +kernel
theorem dX7_endDo_84 : decode cX7_endDo 84 = .ok (.aload_n 1, 1) := by decide +kernel
theorem dX7_endDo_85 : decode cX7_endDo 85 = .ok (.getfield 196, 3) := by decide +kernel
theorem dX7_endDo_88 : decode cX7_endDo 88 = .ok (.invokevirtual 158, 3) := by decide +kernel
theorem dX7_endDo_91 : decode cX7_endDo 91 = .ok (.aload_n 0, 1) := by decide +kernel
theorem dX7_endDo_92 : decode cX7_endDo 92 = .ok (.iload_n 2, 1) := by decide +kernel
theorem dX7_endDo_93 : decode cX7_endDo 93 = .ok (.ifCond .eq 7, 3) := by decide +kernel
theorem dX7_endDo_96 : decode cX7_endDo 96 = .ok (.iload_n 3, 1) := by decide +kernel
theorem dX7_endDo_97 : decode cX7_endDo 97 = .ok (.ifCond .eq 15, 3) := by decide +kernel
theorem dX7_endDo_100 : decode cX7_endDo 100 = .ok (.aload_n 0, 1) := by decide +kernel
theorem dX7_endDo_101 : decode cX7_endDo 101 = .ok (.getfield 14, 3) := by decide +kernel
theorem dX7_endDo_104 : decode cX7_endDo 104 = .ok (.aload_n 1, 1) := by decide +kernel
theorem dX7_endDo_105 : decode cX7_endDo 105 = .ok (.iconst 0, 1) := by decide +kernel
theorem dX7_endDo_106 : decode cX7_endDo 106 = .ok (.invokevirtual 362, 3) := by decide +kernel
theorem dX7_endDo_109 : decode cX7_endDo 109 = .ok (.ifCond .eq 7, 3) := by decide +kernel
theorem dX7_endDo_112 : decode cX7_endDo 112 = .ok (.iconst 1, 1) := by decide +kernel
theorem dX7_endDo_113 : decode cX7_endDo 113 = .ok (.goto 4, 3) := by decide +kernel
theorem dX7_endDo_116 : decode cX7_endDo 116 = .ok (.iconst 0, 1) := by decide +kernel
theorem dX7_endDo_117 : decode cX7_endDo 117 = .ok (.putfield 61, 3) := by decide +kernel
theorem dX7_endDo_120 : decode cX7_endDo 120 = .ok (.return_, 1) := by decide +kernel
theorem dX7_endList_0 : decode cX7_endList 0 = .ok (.aload_n 1, 1) := by decide +kernel
theorem dX7_endList_1 : decode cX7_endList 1 = .ok (.getfield 107, 3) := by decide +kernel
theorem dX7_endList_4 : decode cX7_endList 4 = .ok (.sipush 300, 3) := by decide +kernel
theorem dX7_endList_7 : decode cX7_endList 7 = .ok (.if_icmp .ne 37, 3) := by decide +kernel
theorem dX7_endList_10 : decode cX7_endList 10 = .ok (.aload_n 0, 1) := by decide +kernel
theorem dX7_endList_11 : decode cX7_endList 11 = .ok (.iconst 0, 1) := by decide +kernel
theorem dX7_endList_12 : decode cX7_endList 12 = .ok (.invokevirtual 155, 3) := by decide +kernel
theorem dX7_endList_15 : decode cX7_endList 15 = .ok (.aload_n 0, 1) := by decide +kernel
theorem dX7_endList_16 : decode cX7_endList 16 = .ok (.getfield 20, 3) := by decide +kernel
theorem dX7_endList_19 : decode cX7_endList 19 = .ok (.aload_n 0, 1) := by decide +kernel
theorem dX7_endList_20 : decode cX7_endList 20 = .ok (.getfield 61, 3) := by decide +kernel
theorem dX7_endList_23 : decode cX7_endList 23 = .ok (.putfield 372, 3) := by decide +kernel
theorem dX7_endList_26 : decode cX7_endList 26 = .ok (.aload_n 0, 1) := by decide +kernel
theorem dX7_endList_27 : decode cX7_endList 27 = .ok (.getfield 20, 3) := by decide +kernel
theorem dX7_endList_30 : decode cX7_endList 30 = .ok (.bipush 50, 2) := by decide +kernel
theorem dX7_endList_32 : decode cX7_endList 32 = .ok (.iconst 0, 1) := by decide +kernel
theorem dX7_endList_33 : decode cX7_endList 33 = .ok (.invokevirtual 176, 3) := by decide +kernel
theorem dX7_endList_36 : decode cX7_endList 36 = .ok (.aload_n 0, 1) := by decide +kernel
theorem dX7_endList_37 : decode cX7_endList 37 = .ok (.getfield 14, 3) := by decide +kernel
theorem dX7_endList_40 : decode cX7_endList 40 = .ok (.invokevirtual 369, 3) := by decide +kernel
theorem dX7_endList_43 : decode cX7_endList 43 = .ok (.return_, 1) := by decide +kernel
theorem dX7_endList_44 : decode cX7_endList 44 = .ok (.aload_n 1, 1) := by decide +kernel
theorem dX7_endList_45 : decode cX7_endList 45 = .ok (.getfield 107, 3) := by decide +kernel
theorem dX7_endList_48 : decode cX7_endList 48 = .ok (.sipush 302, 3) := by decide +kernel
theorem dX7_endList_51 : decode cX7_endList 51 = .ok (.if_icmp .ne 21, 3) := by decide +kernel
theorem dX7_endList_54 : decode cX7_endList 54 = .ok (.aload_n 0, 1) := by decide +kernel
theorem dX7_endList_55 : decode cX7_endList 55 = .ok (.getfield 61, 3) := by decide +kernel
theorem dX7_endList_58 : decode cX7_endList 58 = .ok (.ifCond .eq 14, 3) := by decide +kernel
theorem dX7_endList_61 : decode cX7_endList 61 = .ok (.aload_n 0, 1) := by decide +kernel
theorem dX7_endList_62 : decode cX7_endList 62 = .ok (.aload_n 0, 1) := by decide +kernel
theorem dX7_endList_63 : decode cX7_endList 63 = .ok (.getfield 71, 3) := by decide +kernel
theorem dX7_endList_66 : decode cX7_endList 66 = .ok (.getfield 143, 3) := by decide +kernel
theorem dX7_endList_69 : decode cX7_endList 69 = .ok (.invokevirtual 164, 3) := by decide +kernel
theorem dX7_endList_72 : decode cX7_endList 72 = .ok (.aload_n 0, 1) := by decide +kernel
theorem dX7_endList_73 : decode cX7_endList 73 = .ok (.bipush 125, 2) := by decide +kernel
theorem dX7_endList_75 : decode cX7_endList 75 = .ok (.invokevirtual 318, 3) := by decide +kernel
theorem dX7_endList_78 : decode cX7_endList 78 = .ok (.aload_n 0, 1) := by decide +kernel
theorem dX7_endList_79 : decode cX7_endList 79 = .ok (.getfield 29, 3) := by decide +kernel
theorem dX7_endList_82 : decode cX7_endList 82 = .ok (.aload_n 1, 1) := by decide +kernel
theorem dX7_endList_83 : decode cX7_endList 83 = .ok (.getfield 338, 3) := by decide +kernel
theorem dX7_endList_86 : decode cX7_endList 86 = .ok (.putfield 33, 3) := by decide +kernel
theorem dX7_endList_89 : decode cX7_endList 89 = .ok (.aload_n 1, 1) := by decide +kernel
theorem dX7_endList_90 : decode cX7_endList 90 = .ok (.getfield 107, 3) := by decide +kernel
theorem dX7_endList_93 : decode cX7_endList 93 = .ok (.tableswitch 75 212 218 #[43, 59, 75, 59, 67, 75, 51], 43) := by decide +kernel
theorem dX7_endList_136 : decode cX7_endList 136 = .ok (.aload_n 0, 1) := by decide +kernel
theorem dX7_endList_137 : decode cX7_endList 137 = .ok (.aload_n 1, 1) := by decide +kernel
theorem dX7_endList_138 : decode cX7_endList 138 = .ok (.invokevirtual 375, 3) := by decide +kernel
theorem dX7_endList_141 : decode cX7_endList 141 = .ok (.goto 34, 3) := by decide +kernel
theorem dX7_endList_144 : decode cX7_endList 144 = .ok (.aload_n 0, 1) := by decide +kernel
end
