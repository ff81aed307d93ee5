theorem dX3_answer_84 : decode cX3_answer 84 = .ok (.aload_n 2, 1) := by decide +kernel
theorem dX3_answer_85 : decode cX3_answer 85 = .ok (.ifnonnull 7, 3) := by decide +kernel
theorem dX3_answer_88 : decode cX3_answer 88 = .ok (.iconst 0, 1) := by decide +kernel
theorem dX3_answer_89 : decode cX3_answer 89 = .ok (.goto 7, 3) := by decide +kernel
theorem dX3_answer_92 : decode cX3_answer 92 = .ok (.aload_n 2, 1) := by decide +kernel
theorem dX3_answer_93 : decode cX3_answer 93 = .ok (.getfield 102, 3) := by decide +kernel
theorem dX3_answer_96 : decode cX3_answer 96 = .ok (.ireturn, 1) := by decide +kernel
theorem dX3_answer_97 : decode cX3_answer 97 = .ok (.aload_n 2, 1) := by decide +kernel
theorem dX3_answer_98 : decode cX3_answer 98 = .ok (.ifnonnull 7, 3) := by decide +kernel
theorem dX3_answer_101 : decode cX3_answer 101 = .ok (.iconst 0, 1) := by decide +kernel
theorem dX3_answer_102 : decode cX3_answer 102 = .ok (.goto 7, 3) := by decide +kernel
theorem dX3_answer_105 : decode cX3_answer 105 = .ok (.aload_n 2, 1) := by decide +kernel
theorem dX3_answer_106 : decode cX3_answer 106 = .ok (.getfield 105, 3) := by decide +kernel
theorem dX3_answer_109 : decode cX3_answer 109 = .ok (.ireturn, 1) := by decide +kernel
theorem dX3_answer_110 : decode cX3_answer 110 = .ok (.aload_n 0, 1) := by decide +kernel
theorem dX3_answer_111 : decode cX3_answer 111 = .ok (.getfield 72, 3) := by decide +kernel
theorem dX3_answer_114 : decode cX3_answer 114 = .ok (.ireturn, 1) := by decide +kernel
theorem dX3_lastThrown_0 : decode cX3_lastThrown 0 = .ok (.aload_n 0, 1) := by decide +kernel
theorem dX3_lastThrown_1 : decode cX3_lastThrown 1 = .ok (.getfield 85, 3) := by decide +kernel
theorem dX3_lastThrown_4 : decode cX3_lastThrown 4 = .ok (.iconst 2, 1) := by decide +kernel
theorem dX3_lastThrown_5 : decode cX3_lastThrown 5 = .ok (.if_icmp .ne 10, 3) := by decide +kernel
theorem dX3_lastThrown_8 : decode cX3_lastThrown 8 = .ok (.aload_n 0, 1) := by decide +kernel
theorem dX3_lastThrown_9 : decode cX3_lastThrown 9 = .ok (.getfield 81, 3) := by decide +kernel
theorem dX3_lastThrown_12 : decode cX3_lastThrown 12 = .ok (.goto 4, 3) := by decide +kernel
theorem dX3_lastThrown_15 : decode cX3_lastThrown 15 = .ok (.aconst_null, 1) := by decide +kernel
theorem dX3_lastThrown_16 : decode cX3_lastThrown 16 = .ok (.areturn, 1) := by decide +kernel
theorem dX3_instruction_0 : decode cX3_instruction 0 = .ok (.aload_n 0, 1) := by decide +kernel
theorem dX3_instruction_1 : decode cX3_instruction 1 = .ok (.getfield 40, 3) := by decide +kernel
theorem dX3_instruction_4 : decode cX3_instruction 4 = .ok (.getfield 108, 3) := by decide +kernel
theorem dX3_instruction_7 : decode cX3_instruction 7 = .ok (.aload_n 0, 1) := by decide +kernel
theorem dX3_instruction_8 : decode cX3_instruction 8 = .ok (.getfield 57, 3) := by decide +kernel
theorem dX3_instruction_11 : decode cX3_instruction 11 = .ok (.invokestatic 111, 3) := by decide +kernel
theorem dX3_instruction_14 : decode cX3_instruction 14 = .ok (.istore_n 1, 1) := by decide +kernel
theorem dX3_instruction_15 : decode cX3_instruction 15 = .ok (.aload_n 0, 1) := by decide +kernel
theorem dX3_instruction_16 : decode cX3_instruction 16 = .ok (.getfield 40, 3) := by decide +kernel
theorem dX3_instruction_19 : decode cX3_instruction 19 = .ok (.getfield 115, 3) := by decide +kernel
theorem dX3_instruction_22 : decode cX3_instruction 22 = .ok (.aload_n 0, 1) := by decide +kernel
theorem dX3_instruction_23 : decode cX3_instruction 23 = .ok (.getfield 57, 3) := by decide +kernel
theorem dX3_instruction_26 : decode cX3_instruction 26 = .ok (.invokestatic 111, 3) := by decide +kernel
theorem dX3_instruction_29 : decode cX3_instruction 29 = .ok (.istore_n 2, 1) := by decide +kernel
theorem dX3_instruction_30 : decode cX3_instruction 30 = .ok (.aload_n 0, 1) := by decide +kernel
theorem dX3_instruction_31 : decode cX3_instruction 31 = .ok (.dup, 1) := by decide +kernel
theorem dX3_instruction_32 : decode cX3_instruction 32 = .ok (.getfield 57, 3) := by decide +kernel
theorem dX3_instruction_35 : decode cX3_instruction 35 = .ok (.iconst 1, 1) := by decide +kernel
theorem dX3_instruction_36 : decode cX3_instruction 36 = .ok (.iadd, 1) := by decide +kernel
theorem dX3_instruction_37 : decode cX3_instruction 37 = .ok (.putfield 57, 3) := by decide +kernel
theorem dX3_instruction_40 : decode cX3_instruction 40 = .ok (.iload_n 1, 1) := by decide +kernel
theorem dX3_instruction_41 : decode cX3_instruction 41 = .ok (.bipush 7, 2) := by decide +kernel
theorem dX3_instruction_43 : decode cX3_instruction 43 = .ok (.if_icmp .ge 12, 3) := by decide +kernel
theorem dX3_instruction_46 : decode cX3_instruction 46 = .ok (.aload_n 0, 1) := by decide +kernel
theorem dX3_instruction_47 : decode cX3_instruction 47 = .ok (.iload_n 1, 1) := by decide +kernel
theorem dX3_instruction_48 : decode cX3_instruction 48 = .ok (.iload_n 2, 1) := by decide +kernel
theorem dX3_instruction_49 : decode cX3_instruction 49 = .ok (.invokevirtual 118, 3) := by decide +kernel
theorem dX3_instruction_52 : decode cX3_instruction 52 = .ok (.goto 53, 3) := by decide +kernel
theorem dX3_instruction_55 : decode cX3_instruction 55 = .ok (.iload_n 1, 1) := by decide +kernel
theorem dX3_instruction_56 : decode cX3_instruction 56 = .ok (.bipush 30, 2) := by decide +kernel
theorem dX3_instruction_58 : decode cX3_instruction 58 = .ok (.if_icmp .ge 11, 3) := by decide +kernel
theorem dX3_instruction_61 : decode cX3_instruction 61 = .ok (.aload_n 0, 1) := by decide +kernel
theorem dX3_instruction_62 : decode cX3_instruction 62 = .ok (.iload_n 1, 1) := by decide +kernel
theorem dX3_instruction_63 : decode cX3_instruction 63 = .ok (.invokevirtual 122, 3) := by decide +kernel
theorem dX3_instruction_66 : decode cX3_instruction 66 = .ok (.goto 39, 3) := by decide +kernel
theorem dX3_instruction_69 : decode cX3_instruction 69 = .ok (.iload_n 1, 1) := by decide +kernel
theorem dX3_instruction_70 : decode cX3_instruction 70 = .ok (.bipush 50, 2) := by decide +kernel
theorem dX3_instruction_72 : decode cX3_instruction 72 = .ok (.if_icmp .ge 12, 3) := by decide +kernel
theorem dX3_instruction_75 : decode cX3_instruction 75 = .ok (.aload_n 0, 1) := by decide +kernel
theorem dX3_instruction_76 : decode cX3_instruction 76 = .ok (.iload_n 1, 1) := by decide +kernel
theorem dX3_instruction_77 : decode cX3_instruction 77 = .ok (.iload_n 2, 1) := by decide +kernel
theorem dX3_instruction_78 : decode cX3_instruction 78 = .ok (.invokevirtual 126, 3) := by decide +kernel
theorem dX3_instruction_81 : decode cX3_instruction 81 = .ok (.goto 24, 3) := by decide +kernel
theorem dX3_instruction_84 : decode cX3_instruction 84 = .ok (.iload_n 1, 1) := by decide +kernel
theorem dX3_instruction_85 : decode cX3_instruction 85 = .ok (.bipush 56, 2) := by decide +kernel
theorem dX3_instruction_87 : decode cX3_instruction 87 = .ok (.if_icmp .ge 12, 3) := by decide +kernel
theorem dX3_instruction_90 : decode cX3_instruction 90 = .ok (.aload_n 0, 1) := by decide +kernel
theorem dX3_instruction_91 : decode cX3_instruction 91 = .ok (.iload_n 1, 1) := by decide +kernel
theorem dX3_instruction_92 : decode cX3_instruction 92 = .ok (.iload_n 2, 1) := by decide +kernel
theorem dX3_instruction_93 : decode cX3_instruction 93 = .ok (.invokevirtual 129, 3) := by decide +kernel
theorem dX3_instruction_96 : decode cX3_instruction 96 = .ok (.goto 9, 3) := by decide +kernel
theorem dX3_instruction_99 : decode cX3_instruction 99 = .ok (.aload_n 0, 1) := by decide +kernel
theorem dX3_instruction_100 : decode cX3_instruction 100 = .ok (.iload_n 1, 1) := by decide +kernel
theorem dX3_instruction_101 : decode cX3_instruction 101 = .ok (.iload_n 2, 1) := by decide +kernel
theorem dX3_instruction_102 : decode cX3_instruction 102 = .ok (.invokevirtual 132, 3) := by decide +kernel
theorem dX3_instruction_105 : decode cX3_instruction 105 = .ok (.return_, 1) := by decide +kernel
theorem dX3_push_0 : decode cX3_push 0 = .ok (.aload_n 0, 1) := by decide +kernel
theorem dX3_push_1 : decode cX3_push 1 = .ok (.getfield 15, 3) := by decide +kernel
theorem dX3_push_4 : decode cX3_push 4 = .ok (.aload_n 0, 1) := by decide +kernel
theorem dX3_push_5 : decode cX3_push 5 = .ok (.getfield 54, 3) := by decide +kernel
theorem dX3_push_8 : decode cX3_push 8 = .ok (.iload_n 1, 1) := by decide +kernel
theorem dX3_push_9 : decode cX3_push 9 = .ok (.invokestatic 50, 3) := by decide +kernel
theorem dX3_push_12 : decode cX3_push 12 = .ok (.aload_n 0, 1) := by decide +kernel
theorem dX3_push_13 : decode cX3_push 13 = .ok (.dup, 1) := by decide +kernel
theorem dX3_push_14 : decode cX3_push 14 = .ok (.getfield 54, 3) := by decide +kernel
theorem dX3_push_17 : decode cX3_push 17 = .ok (.iconst 1, 1) := by decide +kernel
theorem dX3_push_18 : decode cX3_push 18 = .ok (.iadd, 1) := by decide +kernel
theorem dX3_push_19 : decode cX3_push 19 = .ok (.putfield 54, 3) := by decide +kernel
theorem dX3_push_22 : decode cX3_push 22 = .ok (.return_, 1) := by decide +kernel
theorem dX3_pop_0 : decode cX3_pop 0 = .ok (.aload_n 0, 1) := by decide +kernel
theorem dX3_pop_1 : decode cX3_pop 1 = .ok (.dup, 1) := by decide +kernel
theorem dX3_pop_2 : decode cX3_pop 2 = .ok (.getfield 54, 3) := by decide +kernel
theorem dX3_pop_5 : decode cX3_pop 5 = .ok (.iconst 1, 1) := by decide +kernel
theorem dX3_pop_6 : decode cX3_pop 6 = .ok (.isub, 1) := by decide +kernel
theorem dX3_pop_7 : decode cX3_pop 7 = .ok (.putfield 54, 3) := by decide +kernel
theorem dX3_pop_10 : decode cX3_pop 10 = .ok (.aload_n 0, 1) := by decide +kernel
theorem dX3_pop_11 : decode cX3_pop 11 = .ok (.getfield 15, 3) := by decide +kernel
theorem dX3_pop_14 : decode cX3_pop 14 = .ok (.aload_n 0, 1) := by decide +kernel
theorem dX3_pop_15 : decode cX3_pop 15 = .ok (.getfield 54, 3) := by decide +kernel
theorem dX3_pop_18 : decode cX3_pop 18 = .ok (.invokestatic 111, 3) := by decide +kernel
theorem dX3_pop_21 : decode cX3_pop 21 = .ok (.ireturn, 1) := by decide +kernel
theorem dX3_move_0 : decode cX3_move 0 = .ok (.iload_n 1, 1) := by decide +kernel
theorem dX3_move_1 : decode cX3_move 1 = .ok (.tableswitch 123 0 5 #[39, 47, 62, 77, 98, 110], 39) := by decide +kernel
theorem dX3_move_40 : decode cX3_move 40 = .ok (.aload_n 0, 1) := by decide +kernel
theorem dX3_move_41 : decode cX3_move 41 = .ok (.iload_n 2, 1) := by decide +kernel
theorem dX3_move_42 : decode cX3_move 42 = .ok (.invokevirtual 135, 3) := by decide +kernel
theorem dX3_move_45 : decode cX3_move 45 = .ok (.goto 84, 3) := by decide +kernel
theorem dX3_move_48 : decode cX3_move 48 = .ok (.aload_n 0, 1) := by decide +kernel
theorem dX3_move_49 : decode cX3_move 49 = .ok (.aload_n 0, 1) := by decide +kernel
theorem dX3_move_50 : decode cX3_move 50 = .ok (.getfield 9, 3) := by decide +kernel
theorem dX3_move_53 : decode cX3_move 53 = .ok (.iload_n 2, 1) := by decide +kernel
theorem dX3_move_54 : decode cX3_move 54 = .ok (.invokestatic 111, 3) := by decide +kernel
theorem dX3_move_57 : decode cX3_move 57 = .ok (.invokevirtual 135, 3) := by decide +kernel
theorem dX3_move_60 : decode cX3_move 60 = .ok (.goto 69, 3) := by decide +kernel
theorem dX3_move_63 : decode cX3_move 63 = .ok (.aload_n 0, 1) := by decide +kernel
theorem dX3_move_64 : decode cX3_move 64 = .ok (.getfield 9, 3) := by decide +kernel
theorem dX3_move_67 : decode cX3_move 67 = .ok (.iload_n 2, 1) := by decide +kernel
theorem dX3_move_68 : decode cX3_move 68 = .ok (.aload_n 0, 1) := by decide +kernel
theorem dX3_move_69 : decode cX3_move 69 = .ok (.invokevirtual 138, 3) := by decide +kernel
theorem dX3_move_72 : decode cX3_move 72 = .ok (.invokestatic 50, 3) := by decide +kernel
theorem dX3_move_75 : decode cX3_move 75 = .ok (.goto 54, 3) := by decide +kernel
theorem dX3_move_78 : decode cX3_move 78 = .ok (.aload_n 0, 1) := by decide +kernel
theorem dX3_move_79 : decode cX3_move 79 = .ok (.getfield 9, 3) := by decide +kernel
theorem dX3_move_82 : decode cX3_move 82 = .ok (.iload_n 2, 1) := by decide +kernel
theorem dX3_move_83 : decode cX3_move 83 = .ok (.aload_n 0, 1) := by decide +kernel
theorem dX3_move_84 : decode cX3_move 84 = .ok (.getfield 9, 3) := by decide +kernel
theorem dX3_move_87 : decode cX3_move 87 = .ok (.iload_n 2, 1) := by decide +kernel
theorem dX3_move_88 : decode cX3_move 88 = .ok (.invokestatic 111, 3) := by decide +kernel
theorem dX3_move_91 : decode cX3_move 91 = .ok (.iconst 1, 1) := by decide +kernel
theorem dX3_move_92 : decode cX3_move 92 = .ok (.iadd, 1) := by decide +kernel
theorem dX3_move_93 : decode cX3_move 93 = .ok (.invokestatic 50, 3) := by decide +kernel
theorem dX3_move_96 : decode cX3_move 96 = .ok (.goto 33, 3) := by decide +kernel
theorem dX3_move_99 : decode cX3_move 99 = .ok (.aload_n 0, 1) := by decide +kernel
theorem dX3_move_100 : decode cX3_move 100 = .ok (.aload_n 0, 1) := by decide +kernel
theorem dX3_move_101 : decode cX3_move 101 = .ok (.invokevirtual 138, 3) := by decide +kernel
theorem dX3_move_104 : decode cX3_move 104 = .ok (.ineg, 1) := by decide +kernel
theorem dX3_move_105 : decode cX3_move 105 = .ok (.invokevirtual 135, 3) := by decide +kernel
theorem dX3_move_108 : decode cX3_move 108 = .ok (.goto 21, 3) := by decide +kernel
theorem dX3_move_111 : decode cX3_move 111 = .ok (.aload_n 0, 1) := by decide +kernel
theorem dX3_move_112 : decode cX3_move 112 = .ok (.iconst 1, 1) := by decide +kernel
theorem dX3_move_113 : decode cX3_move 113 = .ok (.aload_n 0, 1) := by decide +kernel
theorem dX3_move_114 : decode cX3_move 114 = .ok (.invokevirtual 138, 3) := by decide +kernel
theorem dX3_move_117 : decode cX3_move 117 = .ok (.isub, 1) := by decide +kernel
theorem dX3_move_118 : decode cX3_move 118 = .ok (.invokevirtual 135, 3) := by decide +kernel
theorem dX3_move_121 : decode cX3_move 121 = .ok (.goto 8, 3) := by decide +kernel
theorem dX3_move_124 : decode cX3_move 124 = .ok (.aload_n 0, 1) := by decide +kernel
theorem dX3_move_125 : decode cX3_move 125 = .ok (.invokevirtual 138, 3) := by decide +kernel
theorem dX3_move_128 : decode cX3_move 128 = .ok (.pop, 1) := by decide +kernel
theorem dX3_move_129 : decode cX3_move 129 = .ok (.return_, 1) := by decide +kernel
theorem dX3_combine_0 : decode cX3_combine 0 = .ok (.aload_n 0, 1) := by decide +kernel
theorem dX3_combine_1 : decode cX3_combine 1 = .ok (.invokevirtual 138, 3) := by decide +kernel
theorem dX3_combine_4 : decode cX3_combine 4 = .ok (.istore_n 2, 1) := by decide +kernel
theorem dX3_combine_5 : decode cX3_combine 5 = .ok (.aload_n 0, 1) := by decide +kernel
theorem dX3_combine_6 : decode cX3_combine 6 = .ok (.invokevirtual 138, 3) := by decide +kernel
theorem dX3_combine_9 : decode cX3_combine 9 = .ok (.istore_n 3, 1) := by decide +kernel
theorem dX3_combine_10 : decode cX3_combine 10 = .ok (.iload_n 1, 1) := by decide +kernel
theorem dX3_combine_11 : decode cX3_combine 11 = .ok (.bipush 12, 2) := by decide +kernel
theorem dX3_combine_13 : decode cX3_combine 13 = .ok (.if_icmp .lt 22, 3) := by decide +kernel
theorem dX3_combine_16 : decode cX3_combine 16 = .ok (.aload_n 0, 1) := by decide +kernel
theorem dX3_combine_17 : decode cX3_combine 17 = .ok (.iload_n 1, 1) := by decide +kernel
theorem dX3_combine_18 : decode cX3_combine 18 = .ok (.iload_n 3, 1) := by decide +kernel
theorem dX3_combine_19 : decode cX3_combine 19 = .ok (.iload_n 2, 1) := by decide +kernel
theorem dX3_combine_20 : decode cX3_combine 20 = .ok (.invokestatic 142, 3) := by decide +kernel
theorem dX3_combine_23 : decode cX3_combine 23 = .ok (.ifCond .eq 7, 3) := by decide +kernel
theorem dX3_combine_26 : decode cX3_combine 26 = .ok (.iconst 1, 1) := by decide +kernel
theorem dX3_combine_27 : decode cX3_combine 27 = .ok (.goto 4, 3) := by decide +kernel
theorem dX3_combine_30 : decode cX3_combine 30 = .ok (.iconst 0, 1) := by decide +kernel
theorem dX3_combine_31 : decode cX3_combine 31 = .ok (.invokevirtual 135, 3) := by decide +kernel
theorem dX3_combine_34 : decode cX3_combine 34 = .ok (.return_, 1) := by decide +kernel
theorem dX3_combine_35 : decode cX3_combine 35 = .ok (.iload_n 1, 1) := by decide +kernel
theorem dX3_combine_36 : decode cX3_combine 36 = .ok (.tableswitch 58 7 9 #[28, 38, 48], 28) := by decide +kernel
theorem dX3_combine_64 : decode cX3_combine 64 = .ok (.aload_n 0, 1) := by decide +kernel
theorem dX3_combine_65 : decode cX3_combine 65 = .ok (.iload_n 3, 1) := by decide +kernel
theorem dX3_combine_66 : decode cX3_combine 66 = .ok (.iload_n 2, 1) := by decide +kernel
theorem dX3_combine_67 : decode cX3_combine 67 = .ok (.iadd, 1) := by decide +kernel
theorem dX3_combine_68 : decode cX3_combine 68 = .ok (.invokevirtual 135, 3) := by decide +kernel
theorem dX3_combine_71 : decode cX3_combine 71 = .ok (.goto 30, 3) := by decide +kernel
theorem dX3_combine_74 : decode cX3_combine 74 = .ok (.aload_n 0, 1) := by decide +kernel
theorem dX3_combine_75 : decode cX3_combine 75 = .ok (.iload_n 3, 1) := by decide +kernel
theorem dX3_combine_76 : decode cX3_combine 76 = .ok (.iload_n 2, 1) := by decide +kernel
theorem dX3_combine_77 : decode cX3_combine 77 = .ok (.isub, 1) := by decide +kernel
theorem dX3_combine_78 : decode cX3_combine 78 = .ok (.invokevirtual 135, 3) := by decide +kernel
theorem dX3_combine_81 : decode cX3_combine 81 = .ok (.goto 20, 3) := by decide +kernel
theorem dX3_combine_84 : decode cX3_combine 84 = .ok (.aload_n 0, 1) := by decide +kernel
theorem dX3_combine_85 : decode cX3_combine 85 = .ok (.iload_n 3, 1) := by decide +kernel
theorem dX3_combine_86 : decode cX3_combine 86 = .ok (.iload_n 2, 1) := by decide +kernel
theorem dX3_combine_87 : decode cX3_combine 87 = .ok (.imul, 1) := by decide +kernel
theorem dX3_combine_88 : decode cX3_combine 88 = .ok (.invokevirtual 135, 3) := by decide +kernel
theorem dX3_combine_91 : decode cX3_combine 91 = .ok (.goto 10, 3) := by decide +kernel
theorem dX3_combine_94 : decode cX3_combine 94 = .ok (.aload_n 0, 1) := by decide +kernel
theorem dX3_combine_95 : decode cX3_combine 95 = .ok (.iload_n 1, 1) := by decide +kernel
theorem dX3_combine_96 : decode cX3_combine 96 = .ok (.iload_n 3, 1) := by decide +kernel
theorem dX3_combine_97 : decode cX3_combine 97 = .ok (.iload_n 2, 1) := by decide +kernel
theorem dX3_combine_98 : decode cX3_combine 98 = .ok (.invokevirtual 146, 3) := by decide +kernel
theorem dX3_combine_101 : decode cX3_combine 101 = .ok (.return_, 1) := by decide +kernel
theorem dX3_divide_0 : decode cX3_divide 0 = .ok (.iload_n 3, 1) := by decide +kernel
theorem dX3_divide_1 : decode cX3_divide 1 = .ok (.ifCond .ne 12, 3) := by decide +kernel
theorem dX3_divide_4 : decode cX3_divide 4 = .ok (.aload_n 0, 1) := by decide +kernel
theorem dX3_divide_5 : decode cX3_divide 5 = .ok (.iconst 2, 1) := by decide +kernel
theorem dX3_divide_6 : decode cX3_divide 6 = .ok (.iconst 0, 1) := by decide +kernel
theorem dX3_divide_7 : decode cX3_divide 7 = .ok (.invokevirtual 150, 3) := by decide +kernel
theorem dX3_divide_10 : decode cX3_divide 10 = .ok (.goto 22, 3) := by decide +kernel
theorem dX3_divide_13 : decode cX3_divide 13 = .ok (.aload_n 0, 1) := by decide +kernel
theorem dX3_divide_14 : decode cX3_divide 14 = .ok (.iload_n 1, 1) := by decide +kernel
theorem dX3_divide_15 : decode cX3_divide 15 = .ok (.bipush 10, 2) := by decide +kernel
theorem dX3_divide_17 : decode cX3_divide 17 = .ok (.if_icmp .ne 9, 3) := by decide +kernel
theorem dX3_divide_20 : decode cX3_divide 20 = .ok (.iload_n 2, 1) := by decide +kernel
theorem dX3_divide_21 : decode cX3_divide 21 = .ok (.iload_n 3, 1) := by decide +kernel
theorem dX3_divide_22 : decode cX3_divide 22 = .ok (.idiv, 1) := by decide +kernel
theorem dX3_divide_23 : decode cX3_divide 23 = .ok (.goto 6, 3) := by decide +kernel
theorem dX3_divide_26 : decode cX3_divide 26 = .ok (.iload_n 2, 1) := by decide +kernel
theorem dX3_divide_27 : decode cX3_divide 27 = .ok (.iload_n 3, 1) := by decide +kernel
theorem dX3_divide_28 : decode cX3_divide 28 = .ok (.irem, 1) := by decide +kernel
theorem dX3_divide_29 : decode cX3_divide 29 = .ok (.invokevirtual 135, 3) := by decide +kernel
theorem dX3_divide_32 : decode cX3_divide 32 = .ok (.return_, 1) := by decide +kernel
theorem dX3_compares_0 : decode cX3_compares 0 = .ok (.iload_n 0, 1) := by decide +kernel
theorem dX3_compares_1 : decode cX3_compares 1 = .ok (.tableswitch 90 12 16 #[35, 46, 57, 68, 79], 35) := by decide +kernel
theorem dX3_compares_36 : decode cX3_compares 36 = .ok (.iload_n 1, 1) := by decide +kernel
theorem dX3_compares_37 : decode cX3_compares 37 = .ok (.iload_n 2, 1) := by decide +kernel
theorem dX3_compares_38 : decode cX3_compares 38 = .ok (.if_icmp .ge 7, 3) := by decide +kernel
theorem dX3_compares_41 : decode cX3_compares 41 = .ok (.iconst 1, 1) := by decide +kernel
theorem dX3_compares_42 : decode cX3_compares 42 = .ok (.goto 4, 3) := by decide +kernel
theorem dX3_compares_45 : decode cX3_compares 45 = .ok (.iconst 0, 1) := by decide +kernel
theorem dX3_compares_46 : decode cX3_compares 46 = .ok (.ireturn, 1) := by decide +kernel
theorem dX3_compares_47 : decode cX3_compares 47 = .ok (.iload_n 1, 1) := by decide +kernel
theorem dX3_compares_48 : decode cX3_compares 48 = .ok (.iload_n 2, 1) := by decide +kernel
theorem dX3_compares_49 : decode cX3_compares 49 = .ok (.if_icmp .gt 7, 3) := by decide +kernel
theorem dX3_compares_52 : decode cX3_compares 52 = .ok (.iconst 1, 1) := by decide +kernel
theorem dX3_compares_53 : decode cX3_compares 53 = .ok (.goto 4, 3) := by decide +kernel
theorem dX3_compares_56 : decode cX3_compares 56 = .ok (.iconst 0, 1) := by decide +kernel
theorem dX3_compares_57 : decode cX3_compares 57 = .ok (.ireturn, 1) := by decide +kernel
theorem dX3_compares_58 : decode cX3_compares 58 = .ok (.iload_n 1, 1) := by decide +kernel
theorem dX3_compares_59 : decode cX3_compares 59 = .ok (.iload_n 2, 1) := by decide +kernel
theorem dX3_compares_60 : decode cX3_compares 60 = .ok (.if_icmp .le 7, 3) := by decide +kernel
theorem dX3_compares_63 : decode cX3_compares 63 = .ok (.iconst 1, 1) := by decide +kernel
theorem dX3_compares_64 : decode cX3_compares 64 = .ok (.goto 4, 3) := by decide +kernel
theorem dX3_compares_67 : decode cX3_compares 67 = .ok (.iconst 0, 1) := by decide +kernel
theorem dX3_compares_68 : decode cX3_compares 68 = .ok (.ireturn, 1) := by decide +kernel
theorem dX3_compares_69 : decode cX3_compares 69 = .ok (.iload_n 1, 1) := by decide +kernel
theorem dX3_compares_70 : decode cX3_compares 70 = .ok (.iload_n 2, 1) := by decide +kernel
theorem dX3_compares_71 : decode cX3_compares 71 = .ok (.if_icmp .lt 7, 3) := by decide +kernel
theorem dX3_compares_74 : decode cX3_compares 74 = .ok (.iconst 1, 1) := by decide +kernel
theorem dX3_compares_75 : decode cX3_compares 75 = .ok (.goto 4, 3) := by decide +kernel
theorem dX3_compares_78 : decode cX3_compares 78 = .ok (.iconst 0, 1) := by decide +kernel
theorem dX3_compares_79 : decode cX3_compares 79 = .ok (.ireturn, 1) := by decide +kernel
theorem dX3_compares_80 : decode cX3_compares 80 = .ok (.iload_n 1, 1) := by decide +kernel
theorem dX3_compares_81 : decode cX3_compares 81 = .ok (.iload_n 2, 1) := by decide +kernel
theorem dX3_compares_82 : decode cX3_compares 82 = .ok (.if_icmp .ne 7, 3) := by decide +kernel
theorem dX3_compares_85 : decode cX3_compares 85 = .ok (.iconst 1, 1) := by decide +kernel
theorem dX3_compares_86 : decode cX3_compares 86 = .ok (.goto 4, 3) := by decide +kernel
theorem dX3_compares_89 : decode cX3_compares 89 = .ok (.iconst 0, 1) := by decide +kernel
theorem dX3_compares_90 : decode cX3_compares 90 = .ok (.ireturn, 1) := by decide +kernel
theorem dX3_compares_91 : decode cX3_compares 91 = .ok (.iload_n 1, 1) := by decide +kernel
theorem dX3_compares_92 : decode cX3_compares 92 = .ok (.iload_n 2, 1) := by decide +kernel
theorem dX3_compares_93 : decode cX3_compares 93 = .ok (.if_icmp .eq 7, 3) := by decide +kernel
theorem dX3_compares_96 : decode cX3_compares 96 = .ok (.iconst 1, 1) := by decide +kernel
theorem dX3_compares_97 : decode cX3_compares 97 = .ok (.goto 4, 3) := by decide +kernel
theorem dX3_compares_100 : decode cX3_compares 100 = .ok (.iconst 0, 1) := by decide +kernel
theorem dX3_compares_101 : decode cX3_compares 101 = .ok (.ireturn, 1) := by decide +kernel
theorem dX3_steer_0 : decode cX3_steer 0 = .ok (.iload_n 1, 1) := by decide +kernel
theorem dX3_steer_1 : decode cX3_steer 1 = .ok (.tableswitch 176 30 37 #[47, 65, 85, 85, 104, 112, 135, 143], 47) := by decide +kernel
theorem dX3_steer_48 : decode cX3_steer 48 = .ok (.aload_n 0, 1) := by decide +kernel
theorem dX3_steer_49 : decode cX3_steer 49 = .ok (.aload_n 0, 1) := by decide +kernel
theorem dX3_steer_50 : decode cX3_steer 50 = .ok (.getfield 40, 3) := by decide +kernel
theorem dX3_steer_53 : decode cX3_steer 53 = .ok (.getfield 153, 3) := by decide +kernel
theorem dX3_steer_56 : decode cX3_steer 56 = .ok (.iload_n 2, 1) := by decide +kernel
theorem dX3_steer_57 : decode cX3_steer 57 = .ok (.invokestatic 111, 3) := by decide +kernel
theorem dX3_steer_60 : decode cX3_steer 60 = .ok (.putfield 57, 3) := by decide +kernel
theorem dX3_steer_63 : decode cX3_steer 63 = .ok (.goto 155, 3) := by decide +kernel
theorem dX3_steer_66 : decode cX3_steer 66 = .ok (.aload_n 0, 1) := by decide +kernel
theorem dX3_steer_67 : decode cX3_steer 67 = .ok (.aload_n 0, 1) := by decide +kernel
theorem dX3_steer_68 : decode cX3_steer 68 = .ok (.invokevirtual 138, 3) := by decide +kernel
theorem dX3_steer_71 : decode cX3_steer 71 = .ok (.ifCond .ne 7, 3) := by decide +kernel
theorem dX3_steer_74 : decode cX3_steer 74 = .ok (.iconst 1, 1) := by decide +kernel
theorem dX3_steer_75 : decode cX3_steer 75 = .ok (.goto 4, 3) := by decide +kernel
theorem dX3_steer_78 : decode cX3_steer 78 = .ok (.iconst 0, 1) := by decide +kernel
theorem dX3_steer_79 : decode cX3_steer 79 = .ok (.iload_n 2, 1) := by decide +kernel
theorem dX3_steer_80 : decode cX3_steer 80 = .ok (.invokevirtual 156, 3) := by decide +kernel
theorem dX3_steer_83 : decode cX3_steer 83 = .ok (.goto 135, 3) := by decide +kernel
theorem dX3_steer_86 : decode cX3_steer 86 = .ok (.aload_n 0, 1) := by decide +kernel
theorem dX3_steer_87 : decode cX3_steer 87 = .ok (.iload_n 1, 1) := by decide +kernel
theorem dX3_steer_88 : decode cX3_steer 88 = .ok (.bipush 33, 2) := by decide +kernel
theorem dX3_steer_90 : decode cX3_steer 90 = .ok (.if_icmp .ne 7, 3) := by decide +kernel
theorem dX3_steer_93 : decode cX3_steer 93 = .ok (.iconst 1, 1) := by decide +kernel
theorem dX3_steer_94 : decode cX3_steer 94 = .ok (.goto 4, 3) := by decide +kernel
theorem dX3_steer_97 : decode cX3_steer 97 = .ok (.iconst 0, 1) := by decide +kernel
theorem dX3_steer_98 : decode cX3_steer 98 = .ok (.iload_n 2, 1) := by decide +kernel
theorem dX3_steer_99 : decode cX3_steer 99 = .ok (.invokevirtual 160, 3) := by decide +kernel
theorem dX3_steer_102 : decode cX3_steer 102 = .ok (.goto 116, 3) := by decide +kernel
theorem dX3_steer_105 : decode cX3_steer 105 = .ok (.aload_n 0, 1) := by decide +kernel
theorem dX3_steer_106 : decode cX3_steer 106 = .ok (.iload_n 2, 1) := by decide +kernel
theorem dX3_steer_107 : decode cX3_steer 107 = .ok (.invokevirtual 163, 3) := by decide +kernel
theorem dX3_steer_110 : decode cX3_steer 110 = .ok (.goto 108, 3) := by decide +kernel
theorem dX3_steer_113 : decode cX3_steer 113 = .ok (.aload_n 0, 1) := by decide +kernel
theorem dX3_steer_114 : decode cX3_steer 114 = .ok (.aload_n 0, 1) := by decide +kernel
theorem dX3_steer_115 : decode cX3_steer 115 = .ok (.getfield 36, 3) := by decide +kernel
theorem dX3_steer_118 : decode cX3_steer 118 = .ok (.getfield 166, 3) := by decide +kernel
theorem dX3_steer_121 : decode cX3_steer 121 = .ok (.ifCond .ne 7, 3) := by decide +kernel
theorem dX3_steer_124 : decode cX3_steer 124 = .ok (.iconst 1, 1) := by decide +kernel
theorem dX3_steer_125 : decode cX3_steer 125 = .ok (.goto 4, 3) := by decide +kernel
theorem dX3_steer_128 : decode cX3_steer 128 = .ok (.iconst 0, 1) := by decide +kernel
theorem dX3_steer_129 : decode cX3_steer 129 = .ok (.iload_n 2, 1) := by decide +kernel
theorem dX3_steer_130 : decode cX3_steer 130 = .ok (.invokevirtual 156, 3) := by decide +kernel
theorem dX3_steer_133 : decode cX3_steer 133 = .ok (.goto 85, 3) := by decide +kernel
theorem dX3_steer_136 : decode cX3_steer 136 = .ok (.aload_n 0, 1) := by decide +kernel
theorem dX3_steer_137 : decode cX3_steer 137 = .ok (.iload_n 2, 1) := by decide +kernel
theorem dX3_steer_138 : decode cX3_steer 138 = .ok (.invokevirtual 172, 3) := by decide +kernel
theorem dX3_steer_141 : decode cX3_steer 141 = .ok (.goto 77, 3) := by decide +kernel
theorem dX3_steer_144 : decode cX3_steer 144 = .ok (.aload_n 0, 1) := by decide +kernel
theorem dX3_steer_145 : decode cX3_steer 145 = .ok (.aload_n 0, 1) := by decide +kernel
theorem dX3_steer_146 : decode cX3_steer 146 = .ok (.getfield 9, 3) := by decide +kernel
theorem dX3_steer_149 : decode cX3_steer 149 = .ok (.iload_n 2, 1) := by decide +kernel
theorem dX3_steer_150 : decode cX3_steer 150 = .ok (.invokestatic 111, 3) := by decide +kernel
theorem dX3_steer_153 : decode cX3_steer 153 = .ok (.aload_n 0, 1) := by decide +kernel
theorem dX3_steer_154 : decode cX3_steer 154 = .ok (.getfield 9, 3) := by decide +kernel
theorem dX3_steer_157 : decode cX3_steer 157 = .ok (.iload_n 2, 1) := by decide +kernel
theorem dX3_steer_158 : decode cX3_steer 158 = .ok (.iconst 1, 1) := by decide +kernel
theorem dX3_steer_159 : decode cX3_steer 159 = .ok (.iadd, 1) := by decide +kernel
theorem dX3_steer_160 : decode cX3_steer 160 = .ok (.invokestatic 111, 3) := by decide +kernel
theorem dX3_steer_163 : decode cX3_steer 163 = .ok (.if_icmp .ge 7, 3) := by decide +kernel
theorem dX3_steer_166 : decode cX3_steer 166 = .ok (.iconst 1, 1) := by decide +kernel
theorem dX3_steer_167 : decode cX3_steer 167 = .ok (.goto 4, 3) := by decide +kernel
theorem dX3_steer_170 : decode cX3_steer 170 = .ok (.iconst 0, 1) := by decide +kernel
theorem dX3_steer_171 : decode cX3_steer 171 = .ok (.invokevirtual 135, 3) := by decide +kernel
theorem dX3_steer_174 : decode cX3_steer 174 = .ok (.goto 44, 3) := by decide +kernel
theorem dX3_steer_177 : decode cX3_steer 177 = .ok (.aload_n 0, 1) := by decide +kernel
theorem dX3_steer_178 : decode cX3_steer 178 = .ok (.aload_n 0, 1) := by decide +kernel
theorem dX3_steer_179 : decode cX3_steer 179 = .ok (.getfield 9, 3) := by decide +kernel
theorem dX3_steer_182 : decode cX3_steer 182 = .ok (.iload_n 2, 1) := by decide +kernel
theorem dX3_steer_183 : decode cX3_steer 183 = .ok (.iconst 2, 1) := by decide +kernel
theorem dX3_steer_184 : decode cX3_steer 184 = .ok (.iadd, 1) := by decide +kernel
theorem dX3_steer_185 : decode cX3_steer 185 = .ok (.aload_n 0, 1) := by decide +kernel
theorem dX3_steer_186 : decode cX3_steer 186 = .ok (.getfield 9, 3) := by decide +kernel
theorem dX3_steer_189 : decode cX3_steer 189 = .ok (.iload_n 2, 1) := by decide +kernel
theorem dX3_steer_190 : decode cX3_steer 190 = .ok (.invokestatic 111, 3) := by decide +kernel
theorem dX3_steer_193 : decode cX3_steer 193 = .ok (.iadd, 1) := by decide +kernel
theorem dX3_steer_194 : decode cX3_steer 194 = .ok (.invokestatic 111, 3) := by decide +kernel
theorem dX3_steer_197 : decode cX3_steer 197 = .ok (.invokevirtual 135, 3) := by decide +kernel
theorem dX3_steer_200 : decode cX3_steer 200 = .ok (.aload_n 0, 1) := by decide +kernel
theorem dX3_steer_201 : decode cX3_steer 201 = .ok (.getfield 9, 3) := by decide +kernel
theorem dX3_steer_204 : decode cX3_steer 204 = .ok (.iload_n 2, 1) := by decide +kernel
theorem dX3_steer_205 : decode cX3_steer 205 = .ok (.aload_n 0, 1) := by decide +kernel
theorem dX3_steer_206 : decode cX3_steer 206 = .ok (.getfield 9, 3) := by decide +kernel
theorem dX3_steer_209 : decode cX3_steer 209 = .ok (.iload_n 2, 1) := by decide +kernel
theorem dX3_steer_210 : decode cX3_steer 210 = .ok (.invokestatic 111, 3) := by decide +kernel
theorem dX3_steer_213 : decode cX3_steer 213 = .ok (.iconst 1, 1) := by decide +kernel
theorem dX3_steer_214 : decode cX3_steer 214 = .ok (.iadd, 1) := by decide +kernel
theorem dX3_steer_215 : decode cX3_steer 215 = .ok (.invokestatic 50, 3) := by decide +kernel
theorem dX3_steer_218 : decode cX3_steer 218 = .ok (.return_, 1) := by decide +kernel
theorem dX3_goIf_0 : decode cX3_goIf 0 = .ok (.iload_n 1, 1) := by decide +kernel
theorem dX3_goIf_1 : decode cX3_goIf 1 = .ok (.ifCond .eq 18, 3) := by decide +kernel
theorem dX3_goIf_4 : decode cX3_goIf 4 = .ok (.aload_n 0, 1) := by decide +kernel
theorem dX3_goIf_5 : decode cX3_goIf 5 = .ok (.aload_n 0, 1) := by decide +kernel
theorem dX3_goIf_6 : decode cX3_goIf 6 = .ok (.getfield 40, 3) := by decide +kernel
theorem dX3_goIf_9 : decode cX3_goIf 9 = .ok (.getfield 153, 3) := by decide +kernel
theorem dX3_goIf_12 : decode cX3_goIf 12 = .ok (.iload_n 2, 1) := by decide +kernel
theorem dX3_goIf_13 : decode cX3_goIf 13 = .ok (.invokestatic 111, 3) := by decide +kernel
theorem dX3_goIf_16 : decode cX3_goIf 16 = .ok (.putfield 57, 3) := by decide +kernel
theorem dX3_goIf_19 : decode cX3_goIf 19 = .ok (.return_, 1) := by decide +kernel
theorem dX3_keep_0 : decode cX3_keep 0 = .ok (.aload_n 0, 1) := by decide +kernel
theorem dX3_keep_1 : decode cX3_keep 1 = .ok (.getfield 15, 3) := by decide +kernel
theorem dX3_keep_4 : decode cX3_keep 4 = .ok (.aload_n 0, 1) := by decide +kernel
theorem dX3_keep_5 : decode cX3_keep 5 = .ok (.getfield 54, 3) := by decide +kernel
theorem dX3_keep_8 : decode cX3_keep 8 = .ok (.iconst 1, 1) := by decide +kernel
theorem dX3_keep_9 : decode cX3_keep 9 = .ok (.isub, 1) := by decide +kernel
theorem dX3_keep_10 : decode cX3_keep 10 = .ok (.invokestatic 111, 3) := by decide +kernel
theorem dX3_keep_13 : decode cX3_keep 13 = .ok (.ifCond .eq 7, 3) := by decide +kernel
theorem dX3_keep_16 : decode cX3_keep 16 = .ok (.iconst 1, 1) := by decide +kernel
theorem dX3_keep_17 : decode cX3_keep 17 = .ok (.goto 4, 3) := by decide +kernel
theorem dX3_keep_20 : decode cX3_keep 20 = .ok (.iconst 0, 1) := by decide +kernel
theorem dX3_keep_21 : decode cX3_keep 21 = .ok (.istore_n 3, 1) := by decide +kernel
theorem dX3_keep_22 : decode cX3_keep 22 = .ok (.iload_n 3, 1) := by decide +kernel
theorem dX3_keep_23 : decode cX3_keep 23 = .ok (.iload_n 1, 1) := by decide +kernel
theorem dX3_keep_24 : decode cX3_keep 24 = .ok (.if_icmp .ne 21, 3) := by decide +kernel
theorem dX3_keep_27 : decode cX3_keep 27 = .ok (.aload_n 0, 1) := by decide +kernel
theorem dX3_keep_28 : decode cX3_keep 28 = .ok (.aload_n 0, 1) := by decide +kernel
theorem dX3_keep_29 : decode cX3_keep 29 = .ok (.getfield 40, 3) := by decide +kernel
theorem dX3_keep_32 : decode cX3_keep 32 = .ok (.getfield 153, 3) := by decide +kernel
theorem dX3_keep_35 : decode cX3_keep 35 = .ok (.iload_n 2, 1) := by decide +kernel
theorem dX3_keep_36 : decode cX3_keep 36 = .ok (.invokestatic 111, 3) := by decide +kernel
theorem dX3_keep_39 : decode cX3_keep 39 = .ok (.putfield 57, 3) := by decide +kernel
theorem dX3_keep_42 : decode cX3_keep 42 = .ok (.goto 8, 3) := by decide +kernel
theorem dX3_keep_45 : decode cX3_keep 45 = .ok (.aload_n 0, 1) := by decide +kernel
theorem dX3_keep_46 : decode cX3_keep 46 = .ok (.invokevirtual 138, 3) := by decide +kernel
theorem dX3_keep_49 : decode cX3_keep 49 = .ok (.pop, 1) := by decide +kernel
theorem dX3_keep_50 : decode cX3_keep 50 = .ok (.return_, 1) := by decide +kernel
theorem dX3_compareCase_0 : decode cX3_compareCase 0 = .ok (.aload_n 0, 1) := by decide +kernel
theorem dX3_compareCase_1 : decode cX3_compareCase 1 = .ok (.invokevirtual 138, 3) := by decide +kernel
theorem dX3_compareCase_4 : decode cX3_compareCase 4 = .ok (.istore_n 2, 1) := by decide +kernel
theorem dX3_compareCase_5 : decode cX3_compareCase 5 = .ok (.aload_n 0, 1) := by decide +kernel
theorem dX3_compareCase_6 : decode cX3_compareCase 6 = .ok (.getfield 15, 3) := by decide +kernel
theorem dX3_compareCase_9 : decode cX3_compareCase 9 = .ok (.aload_n 0, 1) := by decide +kernel
theorem dX3_compareCase_10 : decode cX3_compareCase 10 = .ok (.getfield 54, 3) := by decide +kernel
theorem dX3_compareCase_13 : decode cX3_compareCase 13 = .ok (.iconst 1, 1) := by decide +kernel
theorem dX3_compareCase_14 : decode cX3_compareCase 14 = .ok (.isub, 1) := by decide +kernel
theorem dX3_compareCase_15 : decode cX3_compareCase 15 = .ok (.invokestatic 111, 3) := by decide +kernel
theorem dX3_compareCase_18 : decode cX3_compareCase 18 = .ok (.iload_n 2, 1) := by decide +kernel
theorem dX3_compareCase_19 : decode cX3_compareCase 19 = .ok (.if_icmp .ne 23, 3) := by decide +kernel
theorem dX3_compareCase_22 : decode cX3_compareCase 22 = .ok (.aload_n 0, 1) := by decide +kernel
theorem dX3_compareCase_23 : decode cX3_compareCase 23 = .ok (.invokevirtual 138, 3) := by decide +kernel
theorem dX3_compareCase_26 : decode cX3_compareCase 26 = .ok (.pop, 1) := by decide +kernel
theorem dX3_compareCase_27 : decode cX3_compareCase 27 = .ok (.aload_n 0, 1) := by decide +kernel
theorem dX3_compareCase_28 : decode cX3_compareCase 28 = .ok (.aload_n 0, 1) := by decide +kernel
theorem dX3_compareCase_29 : decode cX3_compareCase 29 = .ok (.getfield 40, 3) := by decide +kernel
theorem dX3_compareCase_32 : decode cX3_compareCase 32 = .ok (.getfield 153, 3) := by decide +kernel
theorem dX3_compareCase_35 : decode cX3_compareCase 35 = .ok (.iload_n 1, 1) := by decide +kernel
theorem dX3_compareCase_36 : decode cX3_compareCase 36 = .ok (.invokestatic 111, 3) := by decide +kernel
theorem dX3_compareCase_39 : decode cX3_compareCase 39 = .ok (.putfield 57, 3) := by decide +kernel
theorem dX3_compareCase_42 : decode cX3_compareCase 42 = .ok (.return_, 1) := by decide +kernel
theorem dX3_fillRow_0 : decode cX3_fillRow 0 = .ok (.aload_n 0, 1) := by decide +kernel
theorem dX3_fillRow_1 : decode cX3_fillRow 1 = .ok (.invokevirtual 138, 3) := by decide +kernel
theorem dX3_fillRow_4 : decode cX3_fillRow 4 = .ok (.istore_n 2, 1) := by decide +kernel
theorem dX3_fillRow_5 : decode cX3_fillRow 5 = .ok (.aload_n 0, 1) := by decide +kernel
theorem dX3_fillRow_6 : decode cX3_fillRow 6 = .ok (.getfield 9, 3) := by decide +kernel
theorem dX3_fillRow_9 : decode cX3_fillRow 9 = .ok (.iload_n 1, 1) := by decide +kernel
theorem dX3_fillRow_10 : decode cX3_fillRow 10 = .ok (.iconst 0, 1) := by decide +kernel
theorem dX3_fillRow_11 : decode cX3_fillRow 11 = .ok (.invokestatic 50, 3) := by decide +kernel
theorem dX3_fillRow_14 : decode cX3_fillRow 14 = .ok (.aload_n 0, 1) := by decide +kernel
theorem dX3_fillRow_15 : decode cX3_fillRow 15 = .ok (.getfield 9, 3) := by decide +kernel
theorem dX3_fillRow_18 : decode cX3_fillRow 18 = .ok (.iload_n 1, 1) := by decide +kernel
theorem dX3_fillRow_19 : decode cX3_fillRow 19 = .ok (.iconst 1, 1) := by decide +kernel
theorem dX3_fillRow_20 : decode cX3_fillRow 20 = .ok (.iadd, 1) := by decide +kernel
theorem dX3_fillRow_21 : decode cX3_fillRow 21 = .ok (.iload_n 2, 1) := by decide +kernel
theorem dX3_fillRow_22 : decode cX3_fillRow 22 = .ok (.invokestatic 50, 3) := by decide +kernel
theorem dX3_fillRow_25 : decode cX3_fillRow 25 = .ok (.iload_n 2, 1) := by decide +kernel
theorem dX3_fillRow_26 : decode cX3_fillRow 26 = .ok (.iconst 1, 1) := by decide +kernel
theorem dX3_fillRow_27 : decode cX3_fillRow 27 = .ok (.isub, 1) := by decide +kernel
theorem dX3_fillRow_28 : decode cX3_fillRow 28 = .ok (.istore_n 3, 1) := by decide +kernel
theorem dX3_fillRow_29 : decode cX3_fillRow 29 = .ok (.iload_n 3, 1) := by decide +kernel
theorem dX3_fillRow_30 : decode cX3_fillRow 30 = .ok (.ifCond .lt 25, 3) := by decide +kernel
theorem dX3_fillRow_33 : decode cX3_fillRow 33 = .ok (.aload_n 0, 1) := by decide +kernel
theorem dX3_fillRow_34 : decode cX3_fillRow 34 = .ok (.getfield 9, 3) := by decide +kernel
theorem dX3_fillRow_37 : decode cX3_fillRow 37 = .ok (.iload_n 1, 1) := by decide +kernel
theorem dX3_fillRow_38 : decode cX3_fillRow 38 = .ok (.iconst 2, 1) := by decide +kernel
theorem dX3_fillRow_39 : decode cX3_fillRow 39 = .ok (.iadd, 1) := by decide +kernel
theorem dX3_fillRow_40 : decode cX3_fillRow 40 = .ok (.iload_n 3, 1) := by decide +kernel
theorem dX3_fillRow_41 : decode cX3_fillRow 41 = .ok (.iadd, 1) := by decide +kernel
theorem dX3_fillRow_42 : decode cX3_fillRow 42 = .ok (.aload_n 0, 1) := by decide +kernel
theorem dX3_fillRow_43 : decode cX3_fillRow 43 = .ok (.invokevirtual 138, 3) := by decide +kernel
theorem dX3_fillRow_46 : decode cX3_fillRow 46 = .ok (.invokestatic 50, 3) := by decide +kernel
theorem dX3_fillRow_49 : decode cX3_fillRow 49 = .ok (.iinc 3 (-1), 3) := by decide +kernel
theorem dX3_fillRow_52 : decode cX3_fillRow 52 = .ok (.goto (-23), 3) := by decide +kernel
theorem dX3_fillRow_55 : decode cX3_fillRow 55 = .ok (.return_, 1) := by decide +kernel
theorem dX3_act_0 : decode cX3_act 0 = .ok (.iload_n 1, 1) := by decide +kernel
