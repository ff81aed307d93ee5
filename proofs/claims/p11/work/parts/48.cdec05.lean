theorem dX6_labelled_15 : decode cX6_labelled 15 = .ok (.aload_n 0, 1) := by decide +kernel
theorem dX6_labelled_16 : decode cX6_labelled 16 = .ok (.iload_n 3, 1) := by decide +kernel
theorem dX6_labelled_17 : decode cX6_labelled 17 = .ok (.invokevirtual 88, 3) := by decide +kernel
theorem dX6_labelled_20 : decode cX6_labelled 20 = .ok (.astore 4, 2) := by decide +kernel
theorem dX6_labelled_22 : decode cX6_labelled 22 = .ok (.aload 4, 2) := by decide +kernel
theorem dX6_labelled_24 : decode cX6_labelled 24 = .ok (.ifnull 26, 3) := by decide +kernel
theorem dX6_labelled_27 : decode cX6_labelled 27 = .ok (.aload 4, 2) := by decide +kernel
theorem dX6_labelled_29 : decode cX6_labelled 29 = .ok (.getfield 41, 3) := by decide +kernel
theorem dX6_labelled_32 : decode cX6_labelled 32 = .ok (.sipush 303, 3) := by decide +kernel
theorem dX6_labelled_35 : decode cX6_labelled 35 = .ok (.if_icmp .ne 15, 3) := by decide +kernel
theorem dX6_labelled_38 : decode cX6_labelled 38 = .ok (.aload 4, 2) := by decide +kernel
theorem dX6_labelled_40 : decode cX6_labelled 40 = .ok (.getfield 53, 3) := by decide +kernel
theorem dX6_labelled_43 : decode cX6_labelled 43 = .ok (.lload_n 1, 1) := by decide +kernel
theorem dX6_labelled_44 : decode cX6_labelled 44 = .ok (.lcmp, 1) := by decide +kernel
theorem dX6_labelled_45 : decode cX6_labelled 45 = .ok (.ifCond .ne 5, 3) := by decide +kernel
theorem dX6_labelled_48 : decode cX6_labelled 48 = .ok (.iload_n 3, 1) := by decide +kernel
theorem dX6_labelled_49 : decode cX6_labelled 49 = .ok (.ireturn, 1) := by decide +kernel
theorem dX6_labelled_50 : decode cX6_labelled 50 = .ok (.iinc 3 (-1), 3) := by decide +kernel
theorem dX6_labelled_53 : decode cX6_labelled 53 = .ok (.goto (-46), 3) := by decide +kernel
theorem dX6_labelled_56 : decode cX6_labelled 56 = .ok (.iconst (-1), 1) := by decide +kernel
theorem dX6_labelled_57 : decode cX6_labelled 57 = .ok (.ireturn, 1) := by decide +kernel
theorem dX6_loopBehind_0 : decode cX6_loopBehind 0 = .ok (.iload_n 1, 1) := by decide +kernel
theorem dX6_loopBehind_1 : decode cX6_loopBehind 1 = .ok (.iconst 1, 1) := by decide +kernel
theorem dX6_loopBehind_2 : decode cX6_loopBehind 2 = .ok (.iadd, 1) := by decide +kernel
theorem dX6_loopBehind_3 : decode cX6_loopBehind 3 = .ok (.istore_n 2, 1) := by decide +kernel
theorem dX6_loopBehind_4 : decode cX6_loopBehind 4 = .ok (.iload_n 2, 1) := by decide +kernel
theorem dX6_loopBehind_5 : decode cX6_loopBehind 5 = .ok (.aload_n 0, 1) := by decide +kernel
theorem dX6_loopBehind_6 : decode cX6_loopBehind 6 = .ok (.getfield 21, 3) := by decide +kernel
theorem dX6_loopBehind_9 : decode cX6_loopBehind 9 = .ok (.if_icmp .ge 46, 3) := by decide +kernel
theorem dX6_loopBehind_12 : decode cX6_loopBehind 12 = .ok (.aload_n 0, 1) := by decide +kernel
theorem dX6_loopBehind_13 : decode cX6_loopBehind 13 = .ok (.iload_n 2, 1) := by decide +kernel
theorem dX6_loopBehind_14 : decode cX6_loopBehind 14 = .ok (.invokevirtual 88, 3) := by decide +kernel
theorem dX6_loopBehind_17 : decode cX6_loopBehind 17 = .ok (.astore_n 3, 1) := by decide +kernel
theorem dX6_loopBehind_18 : decode cX6_loopBehind 18 = .ok (.aload_n 3, 1) := by decide +kernel
theorem dX6_loopBehind_19 : decode cX6_loopBehind 19 = .ok (.ifnull 13, 3) := by decide +kernel
theorem dX6_loopBehind_22 : decode cX6_loopBehind 22 = .ok (.aload_n 3, 1) := by decide +kernel
theorem dX6_loopBehind_23 : decode cX6_loopBehind 23 = .ok (.getfield 41, 3) := by decide +kernel
theorem dX6_loopBehind_26 : decode cX6_loopBehind 26 = .ok (.sipush 303, 3) := by decide +kernel
theorem dX6_loopBehind_29 : decode cX6_loopBehind 29 = .ok (.if_icmp .eq 20, 3) := by decide +kernel
theorem dX6_loopBehind_32 : decode cX6_loopBehind 32 = .ok (.aload_n 3, 1) := by decide +kernel
theorem dX6_loopBehind_33 : decode cX6_loopBehind 33 = .ok (.ifnull 14, 3) := by decide +kernel
theorem dX6_loopBehind_36 : decode cX6_loopBehind 36 = .ok (.aload_n 3, 1) := by decide +kernel
theorem dX6_loopBehind_37 : decode cX6_loopBehind 37 = .ok (.invokevirtual 92, 3) := by decide +kernel
theorem dX6_loopBehind_40 : decode cX6_loopBehind 40 = .ok (.ifCond .eq 7, 3) := by decide +kernel
theorem dX6_loopBehind_43 : decode cX6_loopBehind 43 = .ok (.iload_n 2, 1) := by decide +kernel
theorem dX6_loopBehind_44 : decode cX6_loopBehind 44 = .ok (.goto 4, 3) := by decide +kernel
theorem dX6_loopBehind_47 : decode cX6_loopBehind 47 = .ok (.iconst (-1), 1) := by decide +kernel
theorem dX6_loopBehind_48 : decode cX6_loopBehind 48 = .ok (.ireturn, 1) := by decide +kernel
theorem dX6_loopBehind_49 : decode cX6_loopBehind 49 = .ok (.iinc 2 1, 3) := by decide +kernel
theorem dX6_loopBehind_52 : decode cX6_loopBehind 52 = .ok (.goto (-48), 3) := by decide +kernel
theorem dX6_loopBehind_55 : decode cX6_loopBehind 55 = .ok (.iconst (-1), 1) := by decide +kernel
theorem dX6_loopBehind_56 : decode cX6_loopBehind 56 = .ok (.ireturn, 1) := by decide +kernel
theorem dX6_addJump_0 : decode cX6_addJump 0 = .ok (.aload_n 0, 1) := by decide +kernel
theorem dX6_addJump_1 : decode cX6_addJump 1 = .ok (.getfield 17, 3) := by decide +kernel
theorem dX6_addJump_4 : decode cX6_addJump 4 = .ok (.aload_n 0, 1) := by decide +kernel
theorem dX6_addJump_5 : decode cX6_addJump 5 = .ok (.getfield 28, 3) := by decide +kernel
theorem dX6_addJump_8 : decode cX6_addJump 8 = .ok (.aload_n 1, 1) := by decide +kernel
theorem dX6_addJump_9 : decode cX6_addJump 9 = .ok (.iload_n 2, 1) := by decide +kernel
theorem dX6_addJump_10 : decode cX6_addJump 10 = .ok (.invokestatic 96, 3) := by decide +kernel
theorem dX6_addJump_13 : decode cX6_addJump 13 = .ok (.invokestatic 100, 3) := by decide +kernel
theorem dX6_addJump_16 : decode cX6_addJump 16 = .ok (.aload_n 0, 1) := by decide +kernel
theorem dX6_addJump_17 : decode cX6_addJump 17 = .ok (.dup, 1) := by decide +kernel
theorem dX6_addJump_18 : decode cX6_addJump 18 = .ok (.getfield 28, 3) := by decide +kernel
theorem dX6_addJump_21 : decode cX6_addJump 21 = .ok (.iconst 1, 1) := by decide +kernel
theorem dX6_addJump_22 : decode cX6_addJump 22 = .ok (.iadd, 1) := by decide +kernel
theorem dX6_addJump_23 : decode cX6_addJump 23 = .ok (.putfield 28, 3) := by decide +kernel
theorem dX6_addJump_26 : decode cX6_addJump 26 = .ok (.return_, 1) := by decide +kernel
theorem dX6_isGoneTo_0 : decode cX6_isGoneTo 0 = .ok (.aload_n 1, 1) := by decide +kernel
theorem dX6_isGoneTo_1 : decode cX6_isGoneTo 1 = .ok (.getfield 82, 3) := by decide +kernel
theorem dX6_isGoneTo_4 : decode cX6_isGoneTo 4 = .ok (.istore_n 3, 1) := by decide +kernel
theorem dX6_isGoneTo_5 : decode cX6_isGoneTo 5 = .ok (.iload_n 3, 1) := by decide +kernel
theorem dX6_isGoneTo_6 : decode cX6_isGoneTo 6 = .ok (.aload_n 0, 1) := by decide +kernel
theorem dX6_isGoneTo_7 : decode cX6_isGoneTo 7 = .ok (.getfield 28, 3) := by decide +kernel
theorem dX6_isGoneTo_10 : decode cX6_isGoneTo 10 = .ok (.if_icmp .ge 27, 3) := by decide +kernel
theorem dX6_isGoneTo_13 : decode cX6_isGoneTo 13 = .ok (.aload_n 0, 1) := by decide +kernel
theorem dX6_isGoneTo_14 : decode cX6_isGoneTo 14 = .ok (.getfield 17, 3) := by decide +kernel
theorem dX6_isGoneTo_17 : decode cX6_isGoneTo 17 = .ok (.iload_n 3, 1) := by decide +kernel
theorem dX6_isGoneTo_18 : decode cX6_isGoneTo 18 = .ok (.invokestatic 104, 3) := by decide +kernel
theorem dX6_isGoneTo_21 : decode cX6_isGoneTo 21 = .ok (.aload_n 1, 1) := by decide +kernel
theorem dX6_isGoneTo_22 : decode cX6_isGoneTo 22 = .ok (.iload_n 2, 1) := by decide +kernel
theorem dX6_isGoneTo_23 : decode cX6_isGoneTo 23 = .ok (.invokestatic 96, 3) := by decide +kernel
theorem dX6_isGoneTo_26 : decode cX6_isGoneTo 26 = .ok (.if_icmp .ne 5, 3) := by decide +kernel
theorem dX6_isGoneTo_29 : decode cX6_isGoneTo 29 = .ok (.iconst 1, 1) := by decide +kernel
theorem dX6_isGoneTo_30 : decode cX6_isGoneTo 30 = .ok (.ireturn, 1) := by decide +kernel
theorem dX6_isGoneTo_31 : decode cX6_isGoneTo 31 = .ok (.iinc 3 1, 3) := by decide +kernel
theorem dX6_isGoneTo_34 : decode cX6_isGoneTo 34 = .ok (.goto (-29), 3) := by decide +kernel
theorem dX6_isGoneTo_37 : decode cX6_isGoneTo 37 = .ok (.iconst 0, 1) := by decide +kernel
theorem dX6_isGoneTo_38 : decode cX6_isGoneTo 38 = .ok (.ireturn, 1) := by decide +kernel
theorem dX6_jumpTo_0 : decode cX6_jumpTo 0 = .ok (.iconst 2, 1) := by decide +kernel
theorem dX6_jumpTo_1 : decode cX6_jumpTo 1 = .ok (.aload_n 0, 1) := by decide +kernel
theorem dX6_jumpTo_2 : decode cX6_jumpTo 2 = .ok (.getfield 44, 3) := by decide +kernel
theorem dX6_jumpTo_5 : decode cX6_jumpTo 5 = .ok (.imul, 1) := by decide +kernel
theorem dX6_jumpTo_6 : decode cX6_jumpTo 6 = .ok (.iload_n 1, 1) := by decide +kernel
theorem dX6_jumpTo_7 : decode cX6_jumpTo 7 = .ok (.ifCond .eq 7, 3) := by decide +kernel
theorem dX6_jumpTo_10 : decode cX6_jumpTo 10 = .ok (.iconst 1, 1) := by decide +kernel
theorem dX6_jumpTo_11 : decode cX6_jumpTo 11 = .ok (.goto 4, 3) := by decide +kernel
theorem dX6_jumpTo_14 : decode cX6_jumpTo 14 = .ok (.iconst 0, 1) := by decide +kernel
theorem dX6_jumpTo_15 : decode cX6_jumpTo 15 = .ok (.iadd, 1) := by decide +kernel
theorem dX6_jumpTo_16 : decode cX6_jumpTo 16 = .ok (.ireturn, 1) := by decide +kernel
theorem dX6_loseJumps_0 : decode cX6_loseJumps 0 = .ok (.iload_n 1, 1) := by decide +kernel
theorem dX6_loseJumps_1 : decode cX6_loseJumps 1 = .ok (.istore_n 3, 1) := by decide +kernel
theorem dX6_loseJumps_2 : decode cX6_loseJumps 2 = .ok (.iload_n 3, 1) := by decide +kernel
theorem dX6_loseJumps_3 : decode cX6_loseJumps 3 = .ok (.iload_n 2, 1) := by decide +kernel
theorem dX6_loseJumps_4 : decode cX6_loseJumps 4 = .ok (.if_icmp .ge 18, 3) := by decide +kernel
theorem dX6_loseJumps_7 : decode cX6_loseJumps 7 = .ok (.aload_n 0, 1) := by decide +kernel
theorem dX6_loseJumps_8 : decode cX6_loseJumps 8 = .ok (.getfield 17, 3) := by decide +kernel
theorem dX6_loseJumps_11 : decode cX6_loseJumps 11 = .ok (.iload_n 3, 1) := by decide +kernel
theorem dX6_loseJumps_12 : decode cX6_loseJumps 12 = .ok (.iconst 0, 1) := by decide +kernel
theorem dX6_loseJumps_13 : decode cX6_loseJumps 13 = .ok (.invokestatic 100, 3) := by decide +kernel
theorem dX6_loseJumps_16 : decode cX6_loseJumps 16 = .ok (.iinc 3 1, 3) := by decide +kernel
theorem dX6_loseJumps_19 : decode cX6_loseJumps 19 = .ok (.goto (-17), 3) := by decide +kernel
theorem dX6_loseJumps_22 : decode cX6_loseJumps 22 = .ok (.return_, 1) := by decide +kernel
theorem dX7_translate_0 : decode cX7_translate 0 = .ok (.aload_n 0, 1) := by decide +kernel
theorem dX7_translate_1 : decode cX7_translate 1 = .ok (.getfield 20, 3) := by decide +kernel
theorem dX7_translate_4 : decode cX7_translate 4 = .ok (.invokevirtual 24, 3) := by decide +kernel
theorem dX7_translate_7 : decode cX7_translate 7 = .ok (.aload_n 0, 1) := by decide +kernel
theorem dX7_translate_8 : decode cX7_translate 8 = .ok (.getfield 29, 3) := by decide +kernel
theorem dX7_translate_11 : decode cX7_translate 11 = .ok (.iconst 0, 1) := by decide +kernel
theorem dX7_translate_12 : decode cX7_translate 12 = .ok (.putfield 33, 3) := by decide +kernel
theorem dX7_translate_15 : decode cX7_translate 15 = .ok (.aload_n 0, 1) := by decide +kernel
theorem dX7_translate_16 : decode cX7_translate 16 = .ok (.getfield 29, 3) := by decide +kernel
theorem dX7_translate_19 : decode cX7_translate 19 = .ok (.ldc2_w 39, 3) := by decide +kernel
theorem dX7_translate_22 : decode cX7_translate 22 = .ok (.aload_n 0, 1) := by decide +kernel
theorem dX7_translate_23 : decode cX7_translate 23 = .ok (.getfield 20, 3) := by decide +kernel
theorem dX7_translate_26 : decode cX7_translate 26 = .ok (.iconst 1, 1) := by decide +kernel
theorem dX7_translate_27 : decode cX7_translate 27 = .ok (.invokevirtual 41, 3) := by decide +kernel
theorem dX7_translate_30 : decode cX7_translate 30 = .ok (.iconst (-1), 1) := by decide +kernel
theorem dX7_translate_31 : decode cX7_translate 31 = .ok (.invokevirtual 45, 3) := by decide +kernel
theorem dX7_translate_34 : decode cX7_translate 34 = .ok (.aload_n 0, 1) := by decide +kernel
theorem dX7_translate_35 : decode cX7_translate 35 = .ok (.getfield 29, 3) := by decide +kernel
theorem dX7_translate_38 : decode cX7_translate 38 = .ok (.ldc2_w 49, 3) := by decide +kernel
theorem dX7_translate_41 : decode cX7_translate 41 = .ok (.aload_n 0, 1) := by decide +kernel
theorem dX7_translate_42 : decode cX7_translate 42 = .ok (.getfield 20, 3) := by decide +kernel
theorem dX7_translate_45 : decode cX7_translate 45 = .ok (.iconst 1, 1) := by decide +kernel
theorem dX7_translate_46 : decode cX7_translate 46 = .ok (.invokevirtual 41, 3) := by decide +kernel
theorem dX7_translate_49 : decode cX7_translate 49 = .ok (.iconst (-1), 1) := by decide +kernel
theorem dX7_translate_50 : decode cX7_translate 50 = .ok (.invokevirtual 45, 3) := by decide +kernel
theorem dX7_translate_53 : decode cX7_translate 53 = .ok (.aload_n 0, 1) := by decide +kernel
theorem dX7_translate_54 : decode cX7_translate 54 = .ok (.getfield 14, 3) := by decide +kernel
theorem dX7_translate_57 : decode cX7_translate 57 = .ok (.invokevirtual 51, 3) := by decide +kernel
theorem dX7_translate_60 : decode cX7_translate 60 = .ok (.aload_n 0, 1) := by decide +kernel
theorem dX7_translate_61 : decode cX7_translate 61 = .ok (.iconst 0, 1) := by decide +kernel
theorem dX7_translate_62 : decode cX7_translate 62 = .ok (.putfield 52, 3) := by decide +kernel
theorem dX7_translate_65 : decode cX7_translate 65 = .ok (.aload_n 0, 1) := by decide +kernel
theorem dX7_translate_66 : decode cX7_translate 66 = .ok (.iconst 0, 1) := by decide +kernel
theorem dX7_translate_67 : decode cX7_translate 67 = .ok (.putfield 55, 3) := by decide +kernel
theorem dX7_translate_70 : decode cX7_translate 70 = .ok (.aload_n 0, 1) := by decide +kernel
theorem dX7_translate_71 : decode cX7_translate 71 = .ok (.iconst 0, 1) := by decide +kernel
theorem dX7_translate_72 : decode cX7_translate 72 = .ok (.putfield 58, 3) := by decide +kernel
theorem dX7_translate_75 : decode cX7_translate 75 = .ok (.aload_n 0, 1) := by decide +kernel
theorem dX7_translate_76 : decode cX7_translate 76 = .ok (.iconst 1, 1) := by decide +kernel
theorem dX7_translate_77 : decode cX7_translate 77 = .ok (.putfield 61, 3) := by decide +kernel
theorem dX7_translate_80 : decode cX7_translate 80 = .ok (.aload_n 0, 1) := by decide +kernel
theorem dX7_translate_81 : decode cX7_translate 81 = .ok (.iconst (-1), 1) := by decide +kernel
theorem dX7_translate_82 : decode cX7_translate 82 = .ok (.putfield 65, 3) := by decide +kernel
theorem dX7_translate_85 : decode cX7_translate 85 = .ok (.aload_n 0, 1) := by decide +kernel
theorem dX7_translate_86 : decode cX7_translate 86 = .ok (.iconst 0, 1) := by decide +kernel
theorem dX7_translate_87 : decode cX7_translate 87 = .ok (.putfield 68, 3) := by decide +kernel
theorem dX7_translate_90 : decode cX7_translate 90 = .ok (.aload_n 0, 1) := by decide +kernel
theorem dX7_translate_91 : decode cX7_translate 91 = .ok (.getfield 71, 3) := by decide +kernel
theorem dX7_translate_94 : decode cX7_translate 94 = .ok (.iload_n 1, 1) := by decide +kernel
theorem dX7_translate_95 : decode cX7_translate 95 = .ok (.invokevirtual 75, 3) := by decide +kernel
theorem dX7_translate_98 : decode cX7_translate 98 = .ok (.aload_n 0, 1) := by decide +kernel
theorem dX7_translate_99 : decode cX7_translate 99 = .ok (.getfield 14, 3) := by decide +kernel
theorem dX7_translate_102 : decode cX7_translate 102 = .ok (.sipush 300, 3) := by decide +kernel
theorem dX7_translate_105 : decode cX7_translate 105 = .ok (.iconst 0, 1) := by decide +kernel
theorem dX7_translate_106 : decode cX7_translate 106 = .ok (.aload_n 0, 1) := by decide +kernel
theorem dX7_translate_107 : decode cX7_translate 107 = .ok (.getfield 29, 3) := by decide +kernel
theorem dX7_translate_110 : decode cX7_translate 110 = .ok (.getfield 33, 3) := by decide +kernel
theorem dX7_translate_113 : decode cX7_translate 113 = .ok (.invokevirtual 81, 3) := by decide +kernel
theorem dX7_translate_116 : decode cX7_translate 116 = .ok (.pop, 1) := by decide +kernel
theorem dX7_translate_117 : decode cX7_translate 117 = .ok (.aload_n 0, 1) := by decide +kernel
theorem dX7_translate_118 : decode cX7_translate 118 = .ok (.iconst 0, 1) := by decide +kernel
theorem dX7_translate_119 : decode cX7_translate 119 = .ok (.invokevirtual 85, 3) := by decide +kernel
theorem dX7_translate_122 : decode cX7_translate 122 = .ok (.aload_n 0, 1) := by decide +kernel
theorem dX7_translate_123 : decode cX7_translate 123 = .ok (.getfield 65, 3) := by decide +kernel
theorem dX7_translate_126 : decode cX7_translate 126 = .ok (.ifCond .lt 13, 3) := by decide +kernel
theorem dX7_translate_129 : decode cX7_translate 129 = .ok (.aload_n 0, 1) := by decide +kernel
theorem dX7_translate_130 : decode cX7_translate 130 = .ok (.bipush 7, 2) := by decide +kernel
theorem dX7_translate_132 : decode cX7_translate 132 = .ok (.aload_n 0, 1) := by decide +kernel
theorem dX7_translate_133 : decode cX7_translate 133 = .ok (.getfield 65, 3) := by decide +kernel
theorem dX7_translate_136 : decode cX7_translate 136 = .ok (.invokevirtual 88, 3) := by decide +kernel
theorem dX7_translate_139 : decode cX7_translate 139 = .ok (.aload_n 0, 1) := by decide +kernel
theorem dX7_translate_140 : decode cX7_translate 140 = .ok (.getfield 52, 3) := by decide +kernel
theorem dX7_translate_143 : decode cX7_translate 143 = .ok (.ireturn, 1) := by decide +kernel
theorem dX7_turns_0 : decode cX7_turns 0 = .ok (.iconst 0, 1) := by decide +kernel
theorem dX7_turns_1 : decode cX7_turns 1 = .ok (.istore_n 2, 1) := by decide +kernel
theorem dX7_turns_2 : decode cX7_turns 2 = .ok (.iload_n 2, 1) := by decide +kernel
theorem dX7_turns_3 : decode cX7_turns 3 = .ok (.sipush 10000, 3) := by decide +kernel
theorem dX7_turns_6 : decode cX7_turns 6 = .ok (.if_icmp .ge 158, 3) := by decide +kernel
theorem dX7_turns_9 : decode cX7_turns 9 = .ok (.aload_n 0, 1) := by decide +kernel
theorem dX7_turns_10 : decode cX7_turns 10 = .ok (.getfield 52, 3) := by decide +kernel
theorem dX7_turns_13 : decode cX7_turns 13 = .ok (.ifCond .ne 151, 3) := by decide +kernel
theorem dX7_turns_16 : decode cX7_turns 16 = .ok (.aload_n 0, 1) := by decide +kernel
theorem dX7_turns_17 : decode cX7_turns 17 = .ok (.getfield 14, 3) := by decide +kernel
theorem dX7_turns_20 : decode cX7_turns 20 = .ok (.getfield 92, 3) := by decide +kernel
theorem dX7_turns_23 : decode cX7_turns 23 = .ok (.iload_n 1, 1) := by decide +kernel
theorem dX7_turns_24 : decode cX7_turns 24 = .ok (.if_icmp .le 140, 3) := by decide +kernel
theorem dX7_turns_27 : decode cX7_turns 27 = .ok (.aload_n 0, 1) := by decide +kernel
theorem dX7_turns_28 : decode cX7_turns 28 = .ok (.getfield 14, 3) := by decide +kernel
theorem dX7_turns_31 : decode cX7_turns 31 = .ok (.aload_n 0, 1) := by decide +kernel
theorem dX7_turns_32 : decode cX7_turns 32 = .ok (.getfield 14, 3) := by decide +kernel
theorem dX7_turns_35 : decode cX7_turns 35 = .ok (.getfield 92, 3) := by decide +kernel
theorem dX7_turns_38 : decode cX7_turns 38 = .ok (.iconst 1, 1) := by decide +kernel
theorem dX7_turns_39 : decode cX7_turns 39 = .ok (.isub, 1) := by decide +kernel
theorem dX7_turns_40 : decode cX7_turns 40 = .ok (.invokevirtual 93, 3) := by decide +kernel
theorem dX7_turns_43 : decode cX7_turns 43 = .ok (.astore_n 3, 1) := by decide +kernel
theorem dX7_turns_44 : decode cX7_turns 44 = .ok (.aload_n 3, 1) := by decide +kernel
theorem dX7_turns_45 : decode cX7_turns 45 = .ok (.ifnonnull 4, 3) := by decide +kernel
theorem dX7_turns_48 : decode cX7_turns 48 = .ok (.return_, 1) := by decide +kernel
theorem dX7_turns_49 : decode cX7_turns 49 = .ok (.aload_n 3, 1) := by decide +kernel
theorem dX7_turns_50 : decode cX7_turns 50 = .ok (.invokevirtual 97, 3) := by decide +kernel
theorem dX7_turns_53 : decode cX7_turns 53 = .ok (.ifCond .eq 11, 3) := by decide +kernel
theorem dX7_turns_56 : decode cX7_turns 56 = .ok (.aload_n 0, 1) := by decide +kernel
theorem dX7_turns_57 : decode cX7_turns 57 = .ok (.aload_n 3, 1) := by decide +kernel
theorem dX7_turns_58 : decode cX7_turns 58 = .ok (.invokevirtual 103, 3) := by decide +kernel
theorem dX7_turns_61 : decode cX7_turns 61 = .ok (.goto 97, 3) := by decide +kernel
theorem dX7_turns_64 : decode cX7_turns 64 = .ok (.aload_n 3, 1) := by decide +kernel
theorem dX7_turns_65 : decode cX7_turns 65 = .ok (.getfield 107, 3) := by decide +kernel
theorem dX7_turns_68 : decode cX7_turns 68 = .ok (.sipush 305, 3) := by decide +kernel
theorem dX7_turns_71 : decode cX7_turns 71 = .ok (.if_icmp .ne 21, 3) := by decide +kernel
theorem dX7_turns_74 : decode cX7_turns 74 = .ok (.aload_n 0, 1) := by decide +kernel
theorem dX7_turns_75 : decode cX7_turns 75 = .ok (.sipush 215, 3) := by decide +kernel
theorem dX7_turns_78 : decode cX7_turns 78 = .ok (.invokevirtual 110, 3) := by decide +kernel
theorem dX7_turns_81 : decode cX7_turns 81 = .ok (.ifCond .eq 11, 3) := by decide +kernel
theorem dX7_turns_84 : decode cX7_turns 84 = .ok (.aload_n 0, 1) := by decide +kernel
theorem dX7_turns_85 : decode cX7_turns 85 = .ok (.aload_n 3, 1) := by decide +kernel
theorem dX7_turns_86 : decode cX7_turns 86 = .ok (.invokevirtual 114, 3) := by decide +kernel
theorem dX7_turns_89 : decode cX7_turns 89 = .ok (.goto 69, 3) := by decide +kernel
theorem dX7_turns_92 : decode cX7_turns 92 = .ok (.aload_n 3, 1) := by decide +kernel
theorem dX7_turns_93 : decode cX7_turns 93 = .ok (.getfield 107, 3) := by decide +kernel
theorem dX7_turns_96 : decode cX7_turns 96 = .ok (.sipush 305, 3) := by decide +kernel
theorem dX7_turns_99 : decode cX7_turns 99 = .ok (.if_icmp .ne 11, 3) := by decide +kernel
theorem dX7_turns_102 : decode cX7_turns 102 = .ok (.aload_n 0, 1) := by decide +kernel
theorem dX7_turns_103 : decode cX7_turns 103 = .ok (.aload_n 3, 1) := by decide +kernel
theorem dX7_turns_104 : decode cX7_turns 104 = .ok (.invokevirtual 117, 3) := by decide +kernel
theorem dX7_turns_107 : decode cX7_turns 107 = .ok (.goto 51, 3) := by decide +kernel
theorem dX7_turns_110 : decode cX7_turns 110 = .ok (.aload_n 0, 1) := by decide +kernel
theorem dX7_turns_111 : decode cX7_turns 111 = .ok (.bipush 125, 2) := by decide +kernel
theorem dX7_turns_113 : decode cX7_turns 113 = .ok (.invokevirtual 110, 3) := by decide +kernel
theorem dX7_turns_116 : decode cX7_turns 116 = .ok (.ifCond .ne 11, 3) := by decide +kernel
theorem dX7_turns_119 : decode cX7_turns 119 = .ok (.aload_n 0, 1) := by decide +kernel
theorem dX7_turns_120 : decode cX7_turns 120 = .ok (.iconst 0, 1) := by decide +kernel
theorem dX7_turns_121 : decode cX7_turns 121 = .ok (.invokevirtual 110, 3) := by decide +kernel
theorem dX7_turns_124 : decode cX7_turns 124 = .ok (.ifCond .eq 11, 3) := by decide +kernel
theorem dX7_turns_127 : decode cX7_turns 127 = .ok (.aload_n 0, 1) := by decide +kernel
theorem dX7_turns_128 : decode cX7_turns 128 = .ok (.aload_n 3, 1) := by decide +kernel
theorem dX7_turns_129 : decode cX7_turns 129 = .ok (.invokevirtual 120, 3) := by decide +kernel
theorem dX7_turns_132 : decode cX7_turns 132 = .ok (.goto 26, 3) := by decide +kernel
theorem dX7_turns_135 : decode cX7_turns 135 = .ok (.aload_n 3, 1) := by decide +kernel
theorem dX7_turns_136 : decode cX7_turns 136 = .ok (.getfield 107, 3) := by decide +kernel
theorem dX7_turns_139 : decode cX7_turns 139 = .ok (.sipush 218, 3) := by decide +kernel
theorem dX7_turns_142 : decode cX7_turns 142 = .ok (.if_icmp .ne 11, 3) := by decide +kernel
theorem dX7_turns_145 : decode cX7_turns 145 = .ok (.aload_n 0, 1) := by decide +kernel
theorem dX7_turns_146 : decode cX7_turns 146 = .ok (.aload_n 3, 1) := by decide +kernel
theorem dX7_turns_147 : decode cX7_turns 147 = .ok (.invokevirtual 123, 3) := by decide +kernel
theorem dX7_turns_150 : decode cX7_turns 150 = .ok (.goto 8, 3) := by decide +kernel
theorem dX7_turns_153 : decode cX7_turns 153 = .ok (.aload_n 0, 1) := by decide +kernel
theorem dX7_turns_154 : decode cX7_turns 154 = .ok (.iconst 0, 1) := by decide +kernel
theorem dX7_turns_155 : decode cX7_turns 155 = .ok (.invokevirtual 126, 3) := by decide +kernel
theorem dX7_turns_158 : decode cX7_turns 158 = .ok (.iinc 2 1, 3) := by decide +kernel
theorem dX7_turns_161 : decode cX7_turns 161 = .ok (.goto (-159), 3) := by decide +kernel
theorem dX7_turns_164 : decode cX7_turns 164 = .ok (.return_, 1) := by decide +kernel
theorem dX7_bodyTurn_0 : decode cX7_bodyTurn 0 = .ok (.aload_n 1, 1) := by decide +kernel
theorem dX7_bodyTurn_1 : decode cX7_bodyTurn 1 = .ok (.getfield 130, 3) := by decide +kernel
theorem dX7_bodyTurn_4 : decode cX7_bodyTurn 4 = .ok (.ifCond .eq 11, 3) := by decide +kernel
theorem dX7_bodyTurn_7 : decode cX7_bodyTurn 7 = .ok (.aload_n 0, 1) := by decide +kernel
theorem dX7_bodyTurn_8 : decode cX7_bodyTurn 8 = .ok (.aload_n 1, 1) := by decide +kernel
theorem dX7_bodyTurn_9 : decode cX7_bodyTurn 9 = .ok (.invokevirtual 133, 3) := by decide +kernel
theorem dX7_bodyTurn_12 : decode cX7_bodyTurn 12 = .ok (.goto 13, 3) := by decide +kernel
theorem dX7_bodyTurn_15 : decode cX7_bodyTurn 15 = .ok (.aload_n 1, 1) := by decide +kernel
theorem dX7_bodyTurn_16 : decode cX7_bodyTurn 16 = .ok (.iconst 1, 1) := by decide +kernel
theorem dX7_bodyTurn_17 : decode cX7_bodyTurn 17 = .ok (.putfield 130, 3) := by decide +kernel
theorem dX7_bodyTurn_20 : decode cX7_bodyTurn 20 = .ok (.aload_n 0, 1) := by decide +kernel
theorem dX7_bodyTurn_21 : decode cX7_bodyTurn 21 = .ok (.iconst 1, 1) := by decide +kernel
theorem dX7_bodyTurn_22 : decode cX7_bodyTurn 22 = .ok (.invokevirtual 126, 3) := by decide +kernel
theorem dX7_bodyTurn_25 : decode cX7_bodyTurn 25 = .ok (.return_, 1) := by decide +kernel
theorem dX7_groupTurn_0 : decode cX7_groupTurn 0 = .ok (.aload_n 0, 1) := by decide +kernel
theorem dX7_groupTurn_1 : decode cX7_groupTurn 1 = .ok (.sipush 219, 3) := by decide +kernel
theorem dX7_groupTurn_4 : decode cX7_groupTurn 4 = .ok (.invokevirtual 110, 3) := by decide +kernel
theorem dX7_groupTurn_7 : decode cX7_groupTurn 7 = .ok (.ifCond .ne 13, 3) := by decide +kernel
theorem dX7_groupTurn_10 : decode cX7_groupTurn 10 = .ok (.aload_n 0, 1) := by decide +kernel
theorem dX7_groupTurn_11 : decode cX7_groupTurn 11 = .ok (.sipush 220, 3) := by decide +kernel
theorem dX7_groupTurn_14 : decode cX7_groupTurn 14 = .ok (.invokevirtual 110, 3) := by decide +kernel
theorem dX7_groupTurn_17 : decode cX7_groupTurn 17 = .ok (.ifCond .eq 97, 3) := by decide +kernel
theorem dX7_groupTurn_20 : decode cX7_groupTurn 20 = .ok (.aload_n 0, 1) := by decide +kernel
theorem dX7_groupTurn_21 : decode cX7_groupTurn 21 = .ok (.getfield 20, 3) := by decide +kernel
theorem dX7_groupTurn_24 : decode cX7_groupTurn 24 = .ok (.invokevirtual 136, 3) := by decide +kernel
theorem dX7_groupTurn_27 : decode cX7_groupTurn 27 = .ok (.istore_n 2, 1) := by decide +kernel
theorem dX7_groupTurn_28 : decode cX7_groupTurn 28 = .ok (.aload_n 0, 1) := by decide +kernel
theorem dX7_groupTurn_29 : decode cX7_groupTurn 29 = .ok (.sipush 219, 3) := by decide +kernel
theorem dX7_groupTurn_32 : decode cX7_groupTurn 32 = .ok (.invokevirtual 110, 3) := by decide +kernel
theorem dX7_groupTurn_35 : decode cX7_groupTurn 35 = .ok (.istore_n 3, 1) := by decide +kernel
theorem dX7_groupTurn_36 : decode cX7_groupTurn 36 = .ok (.iload_n 3, 1) := by decide +kernel
theorem dX7_groupTurn_37 : decode cX7_groupTurn 37 = .ok (.ifCond .ne 22, 3) := by decide +kernel
theorem dX7_groupTurn_40 : decode cX7_groupTurn 40 = .ok (.aload_n 1, 1) := by decide +kernel
theorem dX7_groupTurn_41 : decode cX7_groupTurn 41 = .ok (.getfield 140, 3) := by decide +kernel
theorem dX7_groupTurn_44 : decode cX7_groupTurn 44 = .ok (.ifCond .lt 15, 3) := by decide +kernel
theorem dX7_groupTurn_47 : decode cX7_groupTurn 47 = .ok (.aload_n 0, 1) := by decide +kernel
theorem dX7_groupTurn_48 : decode cX7_groupTurn 48 = .ok (.iconst 4, 1) := by decide +kernel
theorem dX7_groupTurn_49 : decode cX7_groupTurn 49 = .ok (.aload_n 0, 1) := by decide +kernel
theorem dX7_groupTurn_50 : decode cX7_groupTurn 50 = .ok (.getfield 71, 3) := by decide +kernel
theorem dX7_groupTurn_53 : decode cX7_groupTurn 53 = .ok (.getfield 143, 3) := by decide +kernel
theorem dX7_groupTurn_56 : decode cX7_groupTurn 56 = .ok (.invokevirtual 88, 3) := by decide +kernel
theorem dX7_groupTurn_59 : decode cX7_groupTurn 59 = .ok (.aload_n 0, 1) := by decide +kernel
theorem dX7_groupTurn_60 : decode cX7_groupTurn 60 = .ok (.getfield 71, 3) := by decide +kernel
theorem dX7_groupTurn_63 : decode cX7_groupTurn 63 = .ok (.invokevirtual 146, 3) := by decide +kernel
theorem dX7_groupTurn_66 : decode cX7_groupTurn 66 = .ok (.iload_n 3, 1) := by decide +kernel
theorem dX7_groupTurn_67 : decode cX7_groupTurn 67 = .ok (.ifCond .eq 15, 3) := by decide +kernel
theorem dX7_groupTurn_70 : decode cX7_groupTurn 70 = .ok (.aload_n 0, 1) := by decide +kernel
theorem dX7_groupTurn_71 : decode cX7_groupTurn 71 = .ok (.aload_n 1, 1) := by decide +kernel
theorem dX7_groupTurn_72 : decode cX7_groupTurn 72 = .ok (.getfield 149, 3) := by decide +kernel
theorem dX7_groupTurn_75 : decode cX7_groupTurn 75 = .ok (.iload_n 2, 1) := by decide +kernel
theorem dX7_groupTurn_76 : decode cX7_groupTurn 76 = .ok (.invokevirtual 152, 3) := by decide +kernel
theorem dX7_groupTurn_79 : decode cX7_groupTurn 79 = .ok (.goto 8, 3) := by decide +kernel
theorem dX7_groupTurn_82 : decode cX7_groupTurn 82 = .ok (.aload_n 1, 1) := by decide +kernel
theorem dX7_groupTurn_83 : decode cX7_groupTurn 83 = .ok (.iload_n 2, 1) := by decide +kernel
theorem dX7_groupTurn_84 : decode cX7_groupTurn 84 = .ok (.putfield 140, 3) := by decide +kernel
theorem dX7_groupTurn_87 : decode cX7_groupTurn 87 = .ok (.aload_n 0, 1) := by decide +kernel
theorem dX7_groupTurn_88 : decode cX7_groupTurn 88 = .ok (.bipush 58, 2) := by decide +kernel
theorem dX7_groupTurn_90 : decode cX7_groupTurn 90 = .ok (.invokevirtual 155, 3) := by decide +kernel
theorem dX7_groupTurn_93 : decode cX7_groupTurn 93 = .ok (.aload_n 0, 1) := by decide +kernel
theorem dX7_groupTurn_94 : decode cX7_groupTurn 94 = .ok (.getfield 20, 3) := by decide +kernel
theorem dX7_groupTurn_97 : decode cX7_groupTurn 97 = .ok (.iload_n 2, 1) := by decide +kernel
theorem dX7_groupTurn_98 : decode cX7_groupTurn 98 = .ok (.invokevirtual 158, 3) := by decide +kernel
theorem dX7_groupTurn_101 : decode cX7_groupTurn 101 = .ok (.aload_n 1, 1) := by decide +kernel
theorem dX7_groupTurn_102 : decode cX7_groupTurn 102 = .ok (.iconst 1, 1) := by decide +kernel
theorem dX7_groupTurn_103 : decode cX7_groupTurn 103 = .ok (.putfield 130, 3) := by decide +kernel
theorem dX7_groupTurn_106 : decode cX7_groupTurn 106 = .ok (.aload_n 0, 1) := by decide +kernel
theorem dX7_groupTurn_107 : decode cX7_groupTurn 107 = .ok (.iconst 1, 1) := by decide +kernel
theorem dX7_groupTurn_108 : decode cX7_groupTurn 108 = .ok (.putfield 61, 3) := by decide +kernel
theorem dX7_groupTurn_111 : decode cX7_groupTurn 111 = .ok (.goto 22, 3) := by decide +kernel
theorem dX7_groupTurn_114 : decode cX7_groupTurn 114 = .ok (.aload_n 1, 1) := by decide +kernel
theorem dX7_groupTurn_115 : decode cX7_groupTurn 115 = .ok (.getfield 130, 3) := by decide +kernel
theorem dX7_groupTurn_118 : decode cX7_groupTurn 118 = .ok (.ifCond .eq 11, 3) := by decide +kernel
theorem dX7_groupTurn_121 : decode cX7_groupTurn 121 = .ok (.aload_n 0, 1) := by decide +kernel
theorem dX7_groupTurn_122 : decode cX7_groupTurn 122 = .ok (.iconst 0, 1) := by decide +kernel
theorem dX7_groupTurn_123 : decode cX7_groupTurn 123 = .ok (.invokevirtual 126, 3) := by decide +kernel
theorem dX7_groupTurn_126 : decode cX7_groupTurn 126 = .ok (.goto 7, 3) := by decide +kernel
theorem dX7_groupTurn_129 : decode cX7_groupTurn 129 = .ok (.aload_n 0, 1) := by decide +kernel
theorem dX7_groupTurn_130 : decode cX7_groupTurn 130 = .ok (.invokevirtual 161, 3) := by decide +kernel
theorem dX7_groupTurn_133 : decode cX7_groupTurn 133 = .ok (.return_, 1) := by decide +kernel
theorem dX7_statement_0 : decode cX7_statement 0 = .ok (.aload_n 0, 1) := by decide +kernel
theorem dX7_statement_1 : decode cX7_statement 1 = .ok (.getfield 61, 3) := by decide +kernel
theorem dX7_statement_4 : decode cX7_statement 4 = .ok (.ifCond .ne 14, 3) := by decide +kernel
theorem dX7_statement_7 : decode cX7_statement 7 = .ok (.aload_n 0, 1) := by decide +kernel
theorem dX7_statement_8 : decode cX7_statement 8 = .ok (.aload_n 0, 1) := by decide +kernel
theorem dX7_statement_9 : decode cX7_statement 9 = .ok (.getfield 71, 3) := by decide +kernel
theorem dX7_statement_12 : decode cX7_statement 12 = .ok (.getfield 143, 3) := by decide +kernel
theorem dX7_statement_15 : decode cX7_statement 15 = .ok (.invokevirtual 164, 3) := by decide +kernel
theorem dX7_statement_18 : decode cX7_statement 18 = .ok (.aload_n 0, 1) := by decide +kernel
theorem dX7_statement_19 : decode cX7_statement 19 = .ok (.iconst 1, 1) := by decide +kernel
theorem dX7_statement_20 : decode cX7_statement 20 = .ok (.putfield 61, 3) := by decide +kernel
theorem dX7_statement_23 : decode cX7_statement 23 = .ok (.aload_n 0, 1) := by decide +kernel
theorem dX7_statement_24 : decode cX7_statement 24 = .ok (.getfield 20, 3) := by decide +kernel
theorem dX7_statement_27 : decode cX7_statement 27 = .ok (.dup, 1) := by decide +kernel
theorem dX7_statement_28 : decode cX7_statement 28 = .ok (.getfield 167, 3) := by decide +kernel
theorem dX7_statement_31 : decode cX7_statement 31 = .ok (.iconst 1, 1) := by decide +kernel
theorem dX7_statement_32 : decode cX7_statement 32 = .ok (.iadd, 1) := by decide +kernel
theorem dX7_statement_33 : decode cX7_statement 33 = .ok (.putfield 167, 3) := by decide +kernel
theorem dX7_statement_36 : decode cX7_statement 36 = .ok (.aload_n 0, 1) := by decide +kernel
theorem dX7_statement_37 : decode cX7_statement 37 = .ok (.iconst 2, 1) := by decide +kernel
theorem dX7_statement_38 : decode cX7_statement 38 = .ok (.invokevirtual 110, 3) := by decide +kernel
theorem dX7_statement_41 : decode cX7_statement 41 = .ok (.ifCond .eq 10, 3) := by decide +kernel
theorem dX7_statement_44 : decode cX7_statement 44 = .ok (.aload_n 0, 1) := by decide +kernel
theorem dX7_statement_45 : decode cX7_statement 45 = .ok (.invokevirtual 170, 3) := by decide +kernel
theorem dX7_statement_48 : decode cX7_statement 48 = .ok (.goto 88, 3) := by decide +kernel
theorem dX7_statement_51 : decode cX7_statement 51 = .ok (.aload_n 0, 1) := by decide +kernel
theorem dX7_statement_52 : decode cX7_statement 52 = .ok (.bipush 123, 2) := by decide +kernel
theorem dX7_statement_54 : decode cX7_statement 54 = .ok (.invokevirtual 110, 3) := by decide +kernel
theorem dX7_statement_57 : decode cX7_statement 57 = .ok (.ifCond .eq 34, 3) := by decide +kernel
theorem dX7_statement_60 : decode cX7_statement 60 = .ok (.aload_n 0, 1) := by decide +kernel
theorem dX7_statement_61 : decode cX7_statement 61 = .ok (.bipush 123, 2) := by decide +kernel
theorem dX7_statement_63 : decode cX7_statement 63 = .ok (.invokevirtual 173, 3) := by decide +kernel
theorem dX7_statement_66 : decode cX7_statement 66 = .ok (.aload_n 0, 1) := by decide +kernel
theorem dX7_statement_67 : decode cX7_statement 67 = .ok (.getfield 14, 3) := by decide +kernel
theorem dX7_statement_70 : decode cX7_statement 70 = .ok (.sipush 301, 3) := by decide +kernel
theorem dX7_statement_73 : decode cX7_statement 73 = .ok (.aload_n 0, 1) := by decide +kernel
theorem dX7_statement_74 : decode cX7_statement 74 = .ok (.getfield 68, 3) := by decide +kernel
theorem dX7_statement_77 : decode cX7_statement 77 = .ok (.aload_n 0, 1) := by decide +kernel
theorem dX7_statement_78 : decode cX7_statement 78 = .ok (.getfield 29, 3) := by decide +kernel
theorem dX7_statement_81 : decode cX7_statement 81 = .ok (.getfield 33, 3) := by decide +kernel
theorem dX7_statement_84 : decode cX7_statement 84 = .ok (.invokevirtual 81, 3) := by decide +kernel
theorem dX7_statement_87 : decode cX7_statement 87 = .ok (.pop, 1) := by decide +kernel
theorem dX7_statement_88 : decode cX7_statement 88 = .ok (.goto 48, 3) := by decide +kernel
theorem dX7_statement_91 : decode cX7_statement 91 = .ok (.iload_n 1, 1) := by decide +kernel
theorem dX7_statement_92 : decode cX7_statement 92 = .ok (.ifCond .eq 30, 3) := by decide +kernel
theorem dX7_statement_95 : decode cX7_statement 95 = .ok (.aload_n 0, 1) := by decide +kernel
theorem dX7_statement_96 : decode cX7_statement 96 = .ok (.sipush 200, 3) := by decide +kernel
theorem dX7_statement_99 : decode cX7_statement 99 = .ok (.invokevirtual 110, 3) := by decide +kernel
theorem dX7_statement_102 : decode cX7_statement 102 = .ok (.ifCond .ne 13, 3) := by decide +kernel
theorem dX7_statement_105 : decode cX7_statement 105 = .ok (.aload_n 0, 1) := by decide +kernel
theorem dX7_statement_106 : decode cX7_statement 106 = .ok (.sipush 201, 3) := by decide +kernel
theorem dX7_statement_109 : decode cX7_statement 109 = .ok (.invokevirtual 110, 3) := by decide +kernel
theorem dX7_statement_112 : decode cX7_statement 112 = .ok (.ifCond .eq 10, 3) := by decide +kernel
theorem dX7_statement_115 : decode cX7_statement 115 = .ok (.aload_n 0, 1) := by decide +kernel
theorem dX7_statement_116 : decode cX7_statement 116 = .ok (.invokevirtual 161, 3) := by decide +kernel
theorem dX7_statement_119 : decode cX7_statement 119 = .ok (.goto 17, 3) := by decide +kernel
theorem dX7_statement_122 : decode cX7_statement 122 = .ok (.aload_n 0, 1) := by decide +kernel
theorem dX7_statement_123 : decode cX7_statement 123 = .ok (.getfield 20, 3) := by decide +kernel
theorem dX7_statement_126 : decode cX7_statement 126 = .ok (.bipush 51, 2) := by decide +kernel
theorem dX7_statement_128 : decode cX7_statement 128 = .ok (.iconst 0, 1) := by decide +kernel
theorem dX7_statement_129 : decode cX7_statement 129 = .ok (.invokevirtual 176, 3) := by decide +kernel
theorem dX7_statement_132 : decode cX7_statement 132 = .ok (.aload_n 0, 1) := by decide +kernel
theorem dX7_statement_133 : decode cX7_statement 133 = .ok (.invokevirtual 178, 3) := by decide +kernel
theorem dX7_statement_136 : decode cX7_statement 136 = .ok (.return_, 1) := by decide +kernel
theorem dX7_notReached_0 : decode cX7_notReached 0 = .ok (.aload_n 0, 1) := by decide +kernel
theorem dX7_notReached_1 : decode cX7_notReached 1 = .ok (.getfield 65, 3) := by decide +kernel
theorem dX7_notReached_4 : decode cX7_notReached 4 = .ok (.ifCond .ge 8, 3) := by decide +kernel
theorem dX7_notReached_7 : decode cX7_notReached 7 = .ok (.aload_n 0, 1) := by decide +kernel
theorem dX7_notReached_8 : decode cX7_notReached 8 = .ok (.iload_n 1, 1) := by decide +kernel
theorem dX7_notReached_9 : decode cX7_notReached 9 = .ok (.putfield 65, 3) := by decide +kernel
theorem dX7_notReached_12 : decode cX7_notReached 12 = .ok (.return_, 1) := by decide +kernel
theorem dX7_named_0 : decode cX7_named 0 = .ok (.aload_n 0, 1) := by decide +kernel
theorem dX7_named_1 : decode cX7_named 1 = .ok (.getfield 71, 3) := by decide +kernel
theorem dX7_named_4 : decode cX7_named 4 = .ok (.getfield 181, 3) := by decide +kernel
theorem dX7_named_7 : decode cX7_named 7 = .ok (.lstore_n 1, 1) := by decide +kernel
theorem dX7_named_8 : decode cX7_named 8 = .ok (.aload_n 0, 1) := by decide +kernel
theorem dX7_named_9 : decode cX7_named 9 = .ok (.getfield 71, 3) := by decide +kernel
theorem dX7_named_12 : decode cX7_named 12 = .ok (.getfield 143, 3) := by decide +kernel
theorem dX7_named_15 : decode cX7_named 15 = .ok (.istore_n 3, 1) := by decide +kernel
theorem dX7_named_16 : decode cX7_named 16 = .ok (.aload_n 0, 1) := by decide +kernel
theorem dX7_named_17 : decode cX7_named 17 = .ok (.getfield 71, 3) := by decide +kernel
theorem dX7_named_20 : decode cX7_named 20 = .ok (.invokevirtual 146, 3) := by decide +kernel
theorem dX7_named_23 : decode cX7_named 23 = .ok (.aload_n 0, 1) := by decide +kernel
theorem dX7_named_24 : decode cX7_named 24 = .ok (.bipush 58, 2) := by decide +kernel
theorem dX7_named_26 : decode cX7_named 26 = .ok (.invokevirtual 110, 3) := by decide +kernel
theorem dX7_named_29 : decode cX7_named 29 = .ok (.ifCond .ne 27, 3) := by decide +kernel
theorem dX7_named_32 : decode cX7_named 32 = .ok (.aload_n 0, 1) := by decide +kernel
theorem dX7_named_33 : decode cX7_named 33 = .ok (.getfield 20, 3) := by decide +kernel
theorem dX7_named_36 : decode cX7_named 36 = .ok (.bipush 51, 2) := by decide +kernel
theorem dX7_named_38 : decode cX7_named 38 = .ok (.iconst 0, 1) := by decide +kernel
theorem dX7_named_39 : decode cX7_named 39 = .ok (.invokevirtual 176, 3) := by decide +kernel
theorem dX7_named_42 : decode cX7_named 42 = .ok (.aload_n 0, 1) := by decide +kernel
theorem dX7_named_43 : decode cX7_named 43 = .ok (.lload_n 1, 1) := by decide +kernel
theorem dX7_named_44 : decode cX7_named 44 = .ok (.iload_n 3, 1) := by decide +kernel
theorem dX7_named_45 : decode cX7_named 45 = .ok (.iconst 1, 1) := by decide +kernel
theorem dX7_named_46 : decode cX7_named 46 = .ok (.invokevirtual 185, 3) := by decide +kernel
theorem dX7_named_49 : decode cX7_named 49 = .ok (.aload_n 0, 1) := by decide +kernel
theorem dX7_named_50 : decode cX7_named 50 = .ok (.bipush 59, 2) := by decide +kernel
theorem dX7_named_52 : decode cX7_named 52 = .ok (.invokevirtual 155, 3) := by decide +kernel
theorem dX7_named_55 : decode cX7_named 55 = .ok (.return_, 1) := by decide +kernel
theorem dX7_named_56 : decode cX7_named 56 = .ok (.aload_n 0, 1) := by decide +kernel
theorem dX7_named_57 : decode cX7_named 57 = .ok (.getfield 14, 3) := by decide +kernel
theorem dX7_named_60 : decode cX7_named 60 = .ok (.lload_n 1, 1) := by decide +kernel
theorem dX7_named_61 : decode cX7_named 61 = .ok (.invokevirtual 189, 3) := by decide +kernel
theorem dX7_named_64 : decode cX7_named 64 = .ok (.ifCond .lt 9, 3) := by decide +kernel
theorem dX7_named_67 : decode cX7_named 67 = .ok (.aload_n 0, 1) := by decide +kernel
theorem dX7_named_68 : decode cX7_named 68 = .ok (.iconst 4, 1) := by decide +kernel
theorem dX7_named_69 : decode cX7_named 69 = .ok (.iload_n 3, 1) := by decide +kernel
