theorem dX7_turns_17 : decode cX7_turns 17 = .ok (.getfield 14, 3) := by decide +kernel
theorem dX7_turns_20 : decode cX7_turns 20 = .ok (.getfield 92, 3) := by decide +kernel
theorem dX7_turns_23 : decode cX7_turns 23 = .ok (.iload_n 1, 1) := by decide +kernel
theorem dX7_turns_24 : decode cX7_turns 24 = .ok (.if_icmp .le 140, 3) := by decide +kernel
theorem dX7_turns_27 : decode cX7_turns 27 = .ok (.aload_n 0, 1) := by decide +kernel
theorem dX7_turns_28 : decode cX7_turns 28 = .ok (.getfield 14, 3) := by decide +kernel
theorem dX7_turns_31 : decode cX7_turns 31 = .ok (.aload_n 0, 1) := by decide +kernel
theorem dX7_turns_32 : decode cX7_turns 32 = .ok (.getfield 14, 3) := by decide +kernel
theorem dX7_turns_35 : decode cX7_turns 35 = .ok (.getfield 92, 3) := by decide +kernel
theorem dX7_turns_38 : decode cX7_turns 38 = .ok (.iconst 1, 1) := by decide +kernel
theorem dX7_turns_39 : decode cX7_turns 39 = .ok (.isub, 1) := by decide +kernel
theorem dX7_turns_40 : decode cX7_turns 40 = .ok (.invokevirtual 93, 3) := by decide +kernel
theorem dX7_turns_43 : decode cX7_turns 43 = .ok (.astore_n 3, 1) := by decide +kernel
theorem dX7_turns_44 : decode cX7_turns 44 = .ok (.aload_n 3, 1) := by decide +kernel
theorem dX7_turns_45 : decode cX7_turns 45 = .ok (.ifnonnull 4, 3) := by decide +kernel
theorem dX7_turns_49 : decode cX7_turns 49 = .ok (.aload_n 3, 1) := by decide +kernel
theorem dX7_turns_50 : decode cX7_turns 50 = .ok (.invokevirtual 97, 3) := by decide +kernel
theorem dX7_turns_53 : decode cX7_turns 53 = .ok (.ifCond .eq 11, 3) := by decide +kernel
theorem dX7_turns_64 : decode cX7_turns 64 = .ok (.aload_n 3, 1) := by decide +kernel
theorem dX7_turns_65 : decode cX7_turns 65 = .ok (.getfield 107, 3) := by decide +kernel
theorem dX7_turns_68 : decode cX7_turns 68 = .ok (.sipush 305, 3) := by decide +kernel
theorem dX7_turns_71 : decode cX7_turns 71 = .ok (.if_icmp .ne 21, 3) := by decide +kernel
theorem dX7_turns_92 : decode cX7_turns 92 = .ok (.aload_n 3, 1) := by decide +kernel
theorem dX7_turns_93 : decode cX7_turns 93 = .ok (.getfield 107, 3) := by decide +kernel
theorem dX7_turns_96 : decode cX7_turns 96 = .ok (.sipush 305, 3) := by decide +kernel
theorem dX7_turns_99 : decode cX7_turns 99 = .ok (.if_icmp .ne 11, 3) := by decide +kernel
theorem dX7_turns_110 : decode cX7_turns 110 = .ok (.aload_n 0, 1) := by decide +kernel
theorem dX7_turns_111 : decode cX7_turns 111 = .ok (.bipush 125, 2) := by decide +kernel
theorem dX7_turns_113 : decode cX7_turns 113 = .ok (.invokevirtual 110, 3) := by decide +kernel
theorem dX7_turns_116 : decode cX7_turns 116 = .ok (.ifCond .ne 11, 3) := by decide +kernel
theorem dX7_turns_119 : decode cX7_turns 119 = .ok (.aload_n 0, 1) := by decide +kernel
theorem dX7_turns_120 : decode cX7_turns 120 = .ok (.iconst 0, 1) := by decide +kernel
theorem dX7_turns_121 : decode cX7_turns 121 = .ok (.invokevirtual 110, 3) := by decide +kernel
theorem dX7_turns_124 : decode cX7_turns 124 = .ok (.ifCond .eq 11, 3) := by decide +kernel
theorem dX7_turns_127 : decode cX7_turns 127 = .ok (.aload_n 0, 1) := by decide +kernel
theorem dX7_turns_128 : decode cX7_turns 128 = .ok (.aload_n 3, 1) := by decide +kernel
theorem dX7_turns_129 : decode cX7_turns 129 = .ok (.invokevirtual 120, 3) := by decide +kernel
theorem dX7_turns_132 : decode cX7_turns 132 = .ok (.goto 26, 3) := by decide +kernel
theorem dX7_turns_158 : decode cX7_turns 158 = .ok (.iinc 2 1, 3) := by decide +kernel
theorem dX7_turns_161 : decode cX7_turns 161 = .ok (.goto (-159), 3) := by decide +kernel
theorem dX7_turns_164 : decode cX7_turns 164 = .ok (.return_, 1) := by decide +kernel
theorem dX7_endList_0 : decode cX7_endList 0 = .ok (.aload_n 1, 1) := by decide +kernel
theorem dX7_endList_1 : decode cX7_endList 1 = .ok (.getfield 107, 3) := by decide +kernel
theorem dX7_endList_4 : decode cX7_endList 4 = .ok (.sipush 300, 3) := by decide +kernel
theorem dX7_endList_7 : decode cX7_endList 7 = .ok (.if_icmp .ne 37, 3) := by decide +kernel
theorem dX7_endList_10 : decode cX7_endList 10 = .ok (.aload_n 0, 1) := by decide +kernel
theorem dX7_endList_11 : decode cX7_endList 11 = .ok (.iconst 0, 1) := by decide +kernel
theorem dX7_endList_12 : decode cX7_endList 12 = .ok (.invokevirtual 155, 3) := by decide +kernel
theorem dX7_endList_15 : decode cX7_endList 15 = .ok (.aload_n 0, 1) := by decide +kernel
theorem dX7_endList_16 : decode cX7_endList 16 = .ok (.getfield 20, 3) := by decide +kernel
theorem dX7_endList_19 : decode cX7_endList 19 = .ok (.aload_n 0, 1) := by decide +kernel
theorem dX7_endList_20 : decode cX7_endList 20 = .ok (.getfield 61, 3) := by decide +kernel
theorem dX7_endList_23 : decode cX7_endList 23 = .ok (.putfield 372, 3) := by decide +kernel
theorem dX7_endList_26 : decode cX7_endList 26 = .ok (.aload_n 0, 1) := by decide +kernel
theorem dX7_endList_27 : decode cX7_endList 27 = .ok (.getfield 20, 3) := by decide +kernel
theorem dX7_endList_30 : decode cX7_endList 30 = .ok (.bipush 50, 2) := by decide +kernel
theorem dX7_endList_32 : decode cX7_endList 32 = .ok (.iconst 0, 1) := by decide +kernel
theorem dX7_endList_33 : decode cX7_endList 33 = .ok (.invokevirtual 176, 3) := by decide +kernel
theorem dX7_endList_36 : decode cX7_endList 36 = .ok (.aload_n 0, 1) := by decide +kernel
theorem dX7_endList_37 : decode cX7_endList 37 = .ok (.getfield 14, 3) := by decide +kernel
theorem dX7_endList_40 : decode cX7_endList 40 = .ok (.invokevirtual 369, 3) := by decide +kernel
theorem dX7_endList_43 : decode cX7_endList 43 = .ok (.return_, 1) := by decide +kernel
theorem dX9_start_0 : decode cX9_start 0 = .ok (.aload_n 0, 1) := by decide +kernel
theorem dX9_start_1 : decode cX9_start 1 = .ok (.iload_n 1, 1) := by decide +kernel
theorem dX9_start_2 : decode cX9_start 2 = .ok (.putfield 31, 3) := by decide +kernel
theorem dX9_start_5 : decode cX9_start 5 = .ok (.aload_n 0, 1) := by decide +kernel
theorem dX9_start_6 : decode cX9_start 6 = .ok (.iconst 0, 1) := by decide +kernel
theorem dX9_start_7 : decode cX9_start 7 = .ok (.putfield 34, 3) := by decide +kernel
theorem dX9_start_10 : decode cX9_start 10 = .ok (.aload_n 0, 1) := by decide +kernel
theorem dX9_start_11 : decode cX9_start 11 = .ok (.invokevirtual 37, 3) := by decide +kernel
theorem dX9_start_14 : decode cX9_start 14 = .ok (.return_, 1) := by decide +kernel
theorem dX9_advance_0 : decode cX9_advance 0 = .ok (.iconst 0, 1) := by decide +kernel
theorem dX9_advance_1 : decode cX9_advance 1 = .ok (.istore_n 1, 1) := by decide +kernel
theorem dX9_advance_2 : decode cX9_advance 2 = .ok (.iload_n 1, 1) := by decide +kernel
theorem dX9_advance_3 : decode cX9_advance 3 = .ok (.sipush 900, 3) := by decide +kernel
theorem dX9_advance_6 : decode cX9_advance 6 = .ok (.if_icmp .ge 45, 3) := by decide +kernel
theorem dX9_advance_9 : decode cX9_advance 9 = .ok (.aload_n 0, 1) := by decide +kernel
theorem dX9_advance_10 : decode cX9_advance 10 = .ok (.aload_n 0, 1) := by decide +kernel
theorem dX9_advance_11 : decode cX9_advance 11 = .ok (.getfield 34, 3) := by decide +kernel
theorem dX9_advance_14 : decode cX9_advance 14 = .ok (.invokevirtual 43, 3) := by decide +kernel
theorem dX9_advance_17 : decode cX9_advance 17 = .ok (.bipush 32, 2) := by decide +kernel
theorem dX9_advance_19 : decode cX9_advance 19 = .ok (.if_icmp .eq 16, 3) := by decide +kernel
theorem dX9_advance_22 : decode cX9_advance 22 = .ok (.aload_n 0, 1) := by decide +kernel
theorem dX9_advance_23 : decode cX9_advance 23 = .ok (.aload_n 0, 1) := by decide +kernel
theorem dX9_advance_24 : decode cX9_advance 24 = .ok (.getfield 34, 3) := by decide +kernel
theorem dX9_advance_27 : decode cX9_advance 27 = .ok (.invokevirtual 43, 3) := by decide +kernel
theorem dX9_advance_30 : decode cX9_advance 30 = .ok (.bipush 10, 2) := by decide +kernel
theorem dX9_advance_32 : decode cX9_advance 32 = .ok (.if_icmp .ne 19, 3) := by decide +kernel
theorem dX9_advance_51 : decode cX9_advance 51 = .ok (.aload_n 0, 1) := by decide +kernel
theorem dX9_advance_52 : decode cX9_advance 52 = .ok (.aload_n 0, 1) := by decide +kernel
theorem dX9_advance_53 : decode cX9_advance 53 = .ok (.getfield 34, 3) := by decide +kernel
theorem dX9_advance_56 : decode cX9_advance 56 = .ok (.putfield 47, 3) := by decide +kernel
theorem dX9_advance_59 : decode cX9_advance 59 = .ok (.aload_n 0, 1) := by decide +kernel
theorem dX9_advance_60 : decode cX9_advance 60 = .ok (.getfield 34, 3) := by decide +kernel
theorem dX9_advance_63 : decode cX9_advance 63 = .ok (.aload_n 0, 1) := by decide +kernel
theorem dX9_advance_64 : decode cX9_advance 64 = .ok (.getfield 31, 3) := by decide +kernel
theorem dX9_advance_67 : decode cX9_advance 67 = .ok (.if_icmp .lt 11, 3) := by decide +kernel
theorem dX9_advance_70 : decode cX9_advance 70 = .ok (.aload_n 0, 1) := by decide +kernel
theorem dX9_advance_71 : decode cX9_advance 71 = .ok (.iconst 0, 1) := by decide +kernel
theorem dX9_advance_72 : decode cX9_advance 72 = .ok (.putfield 40, 3) := by decide +kernel
theorem dX9_advance_75 : decode cX9_advance 75 = .ok (.goto 49, 3) := by decide +kernel
theorem dX9_advance_124 : decode cX9_advance 124 = .ok (.return_, 1) := by decide +kernel
theorem dX9_byteAt_0 : decode cX9_byteAt 0 = .ok (.iload_n 1, 1) := by decide +kernel
theorem dX9_byteAt_1 : decode cX9_byteAt 1 = .ok (.ifCond .lt 29, 3) := by decide +kernel
theorem dX9_byteAt_4 : decode cX9_byteAt 4 = .ok (.iload_n 1, 1) := by decide +kernel
theorem dX9_byteAt_5 : decode cX9_byteAt 5 = .ok (.aload_n 0, 1) := by decide +kernel
theorem dX9_byteAt_6 : decode cX9_byteAt 6 = .ok (.getfield 31, 3) := by decide +kernel
theorem dX9_byteAt_9 : decode cX9_byteAt 9 = .ok (.if_icmp .ge 21, 3) := by decide +kernel
theorem dX9_byteAt_30 : decode cX9_byteAt 30 = .ok (.iconst (-1), 1) := by decide +kernel
theorem dX9_byteAt_31 : decode cX9_byteAt 31 = .ok (.ireturn, 1) := by decide +kernel
theorem dX10_init_0 : decode cX10_init 0 = .ok (.aload_n 0, 1) := by decide +kernel
theorem dX10_init_1 : decode cX10_init 1 = .ok (.invokespecial 3, 3) := by decide +kernel
theorem dX10_init_4 : decode cX10_init 4 = .ok (.aload_n 0, 1) := by decide +kernel
theorem dX10_init_5 : decode cX10_init 5 = .ok (.bipush 12, 2) := by decide +kernel
theorem dX10_init_7 : decode cX10_init 7 = .ok (.newarray .int, 2) := by decide +kernel
theorem dX10_init_9 : decode cX10_init 9 = .ok (.putfield 9, 3) := by decide +kernel
theorem dX10_init_12 : decode cX10_init 12 = .ok (.aload_n 0, 1) := by decide +kernel
theorem dX10_init_13 : decode cX10_init 13 = .ok (.bipush 8, 2) := by decide +kernel
theorem dX10_init_15 : decode cX10_init 15 = .ok (.newarray .int, 2) := by decide +kernel
theorem dX10_init_17 : decode cX10_init 17 = .ok (.putfield 15, 3) := by decide +kernel
theorem dX10_init_20 : decode cX10_init 20 = .ok (.aload_n 0, 1) := by decide +kernel
theorem dX10_init_21 : decode cX10_init 21 = .ok (.bipush 8, 2) := by decide +kernel
theorem dX10_init_23 : decode cX10_init 23 = .ok (.newarray .int, 2) := by decide +kernel
theorem dX10_init_25 : decode cX10_init 25 = .ok (.putfield 18, 3) := by decide +kernel
theorem dX10_init_28 : decode cX10_init 28 = .ok (.aload_n 0, 1) := by decide +kernel
theorem dX10_init_29 : decode cX10_init 29 = .ok (.bipush 8, 2) := by decide +kernel
theorem dX10_init_31 : decode cX10_init 31 = .ok (.newarray .int, 2) := by decide +kernel
theorem dX10_init_33 : decode cX10_init 33 = .ok (.putfield 21, 3) := by decide +kernel
theorem dX10_init_36 : decode cX10_init 36 = .ok (.aload_n 0, 1) := by decide +kernel
theorem dX10_init_37 : decode cX10_init 37 = .ok (.iconst 4, 1) := by decide +kernel
theorem dX10_init_38 : decode cX10_init 38 = .ok (.putfield 24, 3) := by decide +kernel
theorem dX10_init_41 : decode cX10_init 41 = .ok (.aload_n 0, 1) := by decide +kernel
theorem dX10_init_42 : decode cX10_init 42 = .ok (.getfield 9, 3) := by decide +kernel
theorem dX10_init_45 : decode cX10_init 45 = .ok (.iconst 0, 1) := by decide +kernel
theorem dX10_init_46 : decode cX10_init 46 = .ok (.iconst (-1), 1) := by decide +kernel
theorem dX10_init_47 : decode cX10_init 47 = .ok (.iastore, 1) := by decide +kernel
theorem dX10_init_48 : decode cX10_init 48 = .ok (.iconst 0, 1) := by decide +kernel
theorem dX10_init_49 : decode cX10_init 49 = .ok (.istore_n 1, 1) := by decide +kernel
theorem dX10_init_50 : decode cX10_init 50 = .ok (.iload_n 1, 1) := by decide +kernel
theorem dX10_init_51 : decode cX10_init 51 = .ok (.bipush 8, 2) := by decide +kernel
theorem dX10_init_53 : decode cX10_init 53 = .ok (.if_icmp .ge 23, 3) := by decide +kernel
theorem dX10_init_56 : decode cX10_init 56 = .ok (.aload_n 0, 1) := by decide +kernel
theorem dX10_init_57 : decode cX10_init 57 = .ok (.getfield 18, 3) := by decide +kernel
theorem dX10_init_60 : decode cX10_init 60 = .ok (.iload_n 1, 1) := by decide +kernel
theorem dX10_init_61 : decode cX10_init 61 = .ok (.iconst (-1), 1) := by decide +kernel
theorem dX10_init_62 : decode cX10_init 62 = .ok (.iastore, 1) := by decide +kernel
theorem dX10_init_63 : decode cX10_init 63 = .ok (.aload_n 0, 1) := by decide +kernel
theorem dX10_init_64 : decode cX10_init 64 = .ok (.getfield 21, 3) := by decide +kernel
theorem dX10_init_67 : decode cX10_init 67 = .ok (.iload_n 1, 1) := by decide +kernel
theorem dX10_init_68 : decode cX10_init 68 = .ok (.iconst (-1), 1) := by decide +kernel
theorem dX10_init_69 : decode cX10_init 69 = .ok (.iastore, 1) := by decide +kernel
theorem dX10_init_70 : decode cX10_init 70 = .ok (.iinc 1 1, 3) := by decide +kernel
theorem dX10_init_73 : decode cX10_init 73 = .ok (.goto (-23), 3) := by decide +kernel
theorem dX10_init_76 : decode cX10_init 76 = .ok (.return_, 1) := by decide +kernel
theorem dX10_isKind_0 : decode cX10_isKind 0 = .ok (.iload_n 1, 1) := by decide +kernel
theorem dX10_isKind_1 : decode cX10_isKind 1 = .ok (.ifCond .lt 15, 3) := by decide +kernel
theorem dX10_isKind_4 : decode cX10_isKind 4 = .ok (.iload_n 1, 1) := by decide +kernel
theorem dX10_isKind_5 : decode cX10_isKind 5 = .ok (.aload_n 0, 1) := by decide +kernel
theorem dX10_isKind_6 : decode cX10_isKind 6 = .ok (.getfield 24, 3) := by decide +kernel
theorem dX10_isKind_9 : decode cX10_isKind 9 = .ok (.if_icmp .ge 7, 3) := by decide +kernel
theorem dX10_isKind_12 : decode cX10_isKind 12 = .ok (.iconst 1, 1) := by decide +kernel
theorem dX10_isKind_13 : decode cX10_isKind 13 = .ok (.goto 4, 3) := by decide +kernel
theorem dX10_isKind_16 : decode cX10_isKind 16 = .ok (.iconst 0, 1) := by decide +kernel
theorem dX10_isKind_17 : decode cX10_isKind 17 = .ok (.ireturn, 1) := by decide +kernel
theorem dX10_isFull_0 : decode cX10_isFull 0 = .ok (.aload_n 0, 1) := by decide +kernel
theorem dX10_isFull_1 : decode cX10_isFull 1 = .ok (.getfield 24, 3) := by decide +kernel
theorem dX10_isFull_4 : decode cX10_isFull 4 = .ok (.bipush 12, 2) := by decide +kernel
theorem dX10_isFull_6 : decode cX10_isFull 6 = .ok (.if_icmp .lt 7, 3) := by decide +kernel
theorem dX10_isFull_13 : decode cX10_isFull 13 = .ok (.iconst 0, 1) := by decide +kernel
theorem dX10_isFull_14 : decode cX10_isFull 14 = .ok (.ireturn, 1) := by decide +kernel
theorem dX10_addKind_0 : decode cX10_addKind 0 = .ok (.aload_n 0, 1) := by decide +kernel
theorem dX10_addKind_1 : decode cX10_addKind 1 = .ok (.getfield 9, 3) := by decide +kernel
theorem dX10_addKind_4 : decode cX10_addKind 4 = .ok (.aload_n 0, 1) := by decide +kernel
theorem dX10_addKind_5 : decode cX10_addKind 5 = .ok (.getfield 24, 3) := by decide +kernel
theorem dX10_addKind_8 : decode cX10_addKind 8 = .ok (.iload_n 1, 1) := by decide +kernel
theorem dX10_addKind_9 : decode cX10_addKind 9 = .ok (.invokestatic 28, 3) := by decide +kernel
theorem dX10_addKind_12 : decode cX10_addKind 12 = .ok (.aload_n 0, 1) := by decide +kernel
theorem dX10_addKind_13 : decode cX10_addKind 13 = .ok (.dup, 1) := by decide +kernel
theorem dX10_addKind_14 : decode cX10_addKind 14 = .ok (.getfield 24, 3) := by decide +kernel
theorem dX10_addKind_17 : decode cX10_addKind 17 = .ok (.iconst 1, 1) := by decide +kernel
theorem dX10_addKind_18 : decode cX10_addKind 18 = .ok (.iadd, 1) := by decide +kernel
theorem dX10_addKind_19 : decode cX10_addKind 19 = .ok (.putfield 24, 3) := by decide +kernel
theorem dX10_addKind_22 : decode cX10_addKind 22 = .ok (.aload_n 0, 1) := by decide +kernel
theorem dX10_addKind_23 : decode cX10_addKind 23 = .ok (.getfield 24, 3) := by decide +kernel
theorem dX10_addKind_26 : decode cX10_addKind 26 = .ok (.iconst 1, 1) := by decide +kernel
theorem dX10_addKind_27 : decode cX10_addKind 27 = .ok (.isub, 1) := by decide +kernel
theorem dX10_addKind_28 : decode cX10_addKind 28 = .ok (.ireturn, 1) := by decide +kernel
theorem dX10_isUnder_0 : decode cX10_isUnder 0 = .ok (.iload_n 1, 1) := by decide +kernel
theorem dX10_isUnder_1 : decode cX10_isUnder 1 = .ok (.istore_n 3, 1) := by decide +kernel
theorem dX10_isUnder_2 : decode cX10_isUnder 2 = .ok (.iconst 0, 1) := by decide +kernel
theorem dX10_isUnder_3 : decode cX10_isUnder 3 = .ok (.istore 4, 2) := by decide +kernel
theorem dX10_isUnder_5 : decode cX10_isUnder 5 = .ok (.iload 4, 2) := by decide +kernel
theorem dX10_isUnder_7 : decode cX10_isUnder 7 = .ok (.bipush 12, 2) := by decide +kernel
theorem dX10_isUnder_9 : decode cX10_isUnder 9 = .ok (.if_icmp .ge 29, 3) := by decide +kernel
theorem dX10_isUnder_12 : decode cX10_isUnder 12 = .ok (.iload_n 3, 1) := by decide +kernel
theorem dX10_isUnder_13 : decode cX10_isUnder 13 = .ok (.ifCond .lt 25, 3) := by decide +kernel
theorem dX10_isUnder_16 : decode cX10_isUnder 16 = .ok (.iload_n 3, 1) := by decide +kernel
theorem dX10_isUnder_17 : decode cX10_isUnder 17 = .ok (.iload_n 2, 1) := by decide +kernel
theorem dX10_isUnder_18 : decode cX10_isUnder 18 = .ok (.if_icmp .ne 5, 3) := by decide +kernel
theorem dX10_isUnder_21 : decode cX10_isUnder 21 = .ok (.iconst 1, 1) := by decide +kernel
theorem dX10_isUnder_22 : decode cX10_isUnder 22 = .ok (.ireturn, 1) := by decide +kernel
theorem dX10_isUnder_23 : decode cX10_isUnder 23 = .ok (.aload_n 0, 1) := by decide +kernel
theorem dX10_isUnder_24 : decode cX10_isUnder 24 = .ok (.getfield 9, 3) := by decide +kernel
theorem dX10_isUnder_27 : decode cX10_isUnder 27 = .ok (.iload_n 3, 1) := by decide +kernel
theorem dX10_isUnder_28 : decode cX10_isUnder 28 = .ok (.invokestatic 32, 3) := by decide +kernel
theorem dX10_isUnder_31 : decode cX10_isUnder 31 = .ok (.istore_n 3, 1) := by decide +kernel
theorem dX10_isUnder_32 : decode cX10_isUnder 32 = .ok (.iinc 4 1, 3) := by decide +kernel
theorem dX10_isUnder_35 : decode cX10_isUnder 35 = .ok (.goto (-30), 3) := by decide +kernel
theorem dX10_isUnder_38 : decode cX10_isUnder 38 = .ok (.iconst 0, 1) := by decide +kernel
theorem dX10_isUnder_39 : decode cX10_isUnder 39 = .ok (.ireturn, 1) := by decide +kernel
theorem dX10_tellResource_0 : decode cX10_tellResource 0 = .ok (.aload_n 0, 1) := by decide +kernel
theorem dX10_tellResource_1 : decode cX10_tellResource 1 = .ok (.getfield 15, 3) := by decide +kernel
theorem dX10_tellResource_4 : decode cX10_tellResource 4 = .ok (.iload_n 1, 1) := by decide +kernel
theorem dX10_tellResource_5 : decode cX10_tellResource 5 = .ok (.iload_n 2, 1) := by decide +kernel
theorem dX10_tellResource_6 : decode cX10_tellResource 6 = .ok (.invokestatic 28, 3) := by decide +kernel
theorem dX10_tellResource_9 : decode cX10_tellResource 9 = .ok (.aload_n 0, 1) := by decide +kernel
theorem dX10_tellResource_10 : decode cX10_tellResource 10 = .ok (.getfield 18, 3) := by decide +kernel
theorem dX10_tellResource_13 : decode cX10_tellResource 13 = .ok (.iload_n 1, 1) := by decide +kernel
theorem dX10_tellResource_14 : decode cX10_tellResource 14 = .ok (.iload_n 3, 1) := by decide +kernel
theorem dX10_tellResource_15 : decode cX10_tellResource 15 = .ok (.invokestatic 28, 3) := by decide +kernel
theorem dX10_tellResource_18 : decode cX10_tellResource 18 = .ok (.aload_n 0, 1) := by decide +kernel
theorem dX10_tellResource_19 : decode cX10_tellResource 19 = .ok (.getfield 21, 3) := by decide +kernel
theorem dX10_tellResource_22 : decode cX10_tellResource 22 = .ok (.iload_n 1, 1) := by decide +kernel
theorem dX10_tellResource_23 : decode cX10_tellResource 23 = .ok (.iload 4, 2) := by decide +kernel
theorem dX10_tellResource_25 : decode cX10_tellResource 25 = .ok (.invokestatic 28, 3) := by decide +kernel
theorem dX10_tellResource_28 : decode cX10_tellResource 28 = .ok (.return_, 1) := by decide +kernel
theorem dX11_feed_0 : decode cX11_feed 0 = .ok (.aload_n 0, 1) := by decide +kernel
theorem dX11_feed_1 : decode cX11_feed 1 = .ok (.getfield 50, 3) := by decide +kernel
theorem dX11_feed_4 : decode cX11_feed 4 = .ok (.bipush 20, 2) := by decide +kernel
theorem dX11_feed_6 : decode cX11_feed 6 = .ok (.iadd, 1) := by decide +kernel
theorem dX11_feed_7 : decode cX11_feed 7 = .ok (.sipush 900, 3) := by decide +kernel
theorem dX11_feed_10 : decode cX11_feed 10 = .ok (.if_icmp .le 6, 3) := by decide +kernel
theorem dX11_feed_16 : decode cX11_feed 16 = .ok (.aload_n 0, 1) := by decide +kernel
theorem dX11_feed_17 : decode cX11_feed 17 = .ok (.iload_n 1, 1) := by decide +kernel
theorem dX11_feed_18 : decode cX11_feed 18 = .ok (.invokevirtual 54, 3) := by decide +kernel
theorem dX11_feed_21 : decode cX11_feed 21 = .ok (.aload_n 0, 1) := by decide +kernel
theorem dX11_feed_22 : decode cX11_feed 22 = .ok (.iload_n 2, 1) := by decide +kernel
theorem dX11_feed_23 : decode cX11_feed 23 = .ok (.invokevirtual 54, 3) := by decide +kernel
theorem dX11_feed_26 : decode cX11_feed 26 = .ok (.aload_n 0, 1) := by decide +kernel
theorem dX11_feed_27 : decode cX11_feed 27 = .ok (.iload_n 3, 1) := by decide +kernel
theorem dX11_feed_28 : decode cX11_feed 28 = .ok (.invokevirtual 54, 3) := by decide +kernel
theorem dX11_feed_31 : decode cX11_feed 31 = .ok (.aload_n 0, 1) := by decide +kernel
theorem dX11_feed_32 : decode cX11_feed 32 = .ok (.iload 4, 2) := by decide +kernel
theorem dX11_feed_34 : decode cX11_feed 34 = .ok (.invokevirtual 54, 3) := by decide +kernel
theorem dX11_feed_37 : decode cX11_feed 37 = .ok (.aload_n 0, 1) := by decide +kernel
theorem dX11_feed_38 : decode cX11_feed 38 = .ok (.iload 5, 2) := by decide +kernel
theorem dX11_feed_40 : decode cX11_feed 40 = .ok (.invokevirtual 54, 3) := by decide +kernel
theorem dX11_feed_43 : decode cX11_feed 43 = .ok (.aload_n 0, 1) := by decide +kernel
theorem dX11_feed_44 : decode cX11_feed 44 = .ok (.getfield 50, 3) := by decide +kernel
theorem dX11_feed_47 : decode cX11_feed 47 = .ok (.ireturn, 1) := by decide +kernel
theorem dX11_addBytes_0 : decode cX11_addBytes 0 = .ok (.bipush 24, 2) := by decide +kernel
theorem dX11_addBytes_2 : decode cX11_addBytes 2 = .ok (.istore_n 2, 1) := by decide +kernel
theorem dX11_addBytes_3 : decode cX11_addBytes 3 = .ok (.iload_n 2, 1) := by decide +kernel
theorem dX11_addBytes_4 : decode cX11_addBytes 4 = .ok (.ifCond .lt 37, 3) := by decide +kernel
theorem dX11_addBytes_7 : decode cX11_addBytes 7 = .ok (.aload_n 0, 1) := by decide +kernel
theorem dX11_addBytes_8 : decode cX11_addBytes 8 = .ok (.getfield 9, 3) := by decide +kernel
theorem dX11_addBytes_11 : decode cX11_addBytes 11 = .ok (.aload_n 0, 1) := by decide +kernel
theorem dX11_addBytes_12 : decode cX11_addBytes 12 = .ok (.getfield 50, 3) := by decide +kernel
theorem dX11_addBytes_15 : decode cX11_addBytes 15 = .ok (.iload_n 1, 1) := by decide +kernel
theorem dX11_addBytes_16 : decode cX11_addBytes 16 = .ok (.iload_n 2, 1) := by decide +kernel
theorem dX11_addBytes_17 : decode cX11_addBytes 17 = .ok (.iushr, 1) := by decide +kernel
theorem dX11_addBytes_18 : decode cX11_addBytes 18 = .ok (.sipush 255, 3) := by decide +kernel
theorem dX11_addBytes_21 : decode cX11_addBytes 21 = .ok (.iand, 1) := by decide +kernel
theorem dX11_addBytes_22 : decode cX11_addBytes 22 = .ok (.invokestatic 58, 3) := by decide +kernel
theorem dX11_addBytes_25 : decode cX11_addBytes 25 = .ok (.aload_n 0, 1) := by decide +kernel
theorem dX11_addBytes_26 : decode cX11_addBytes 26 = .ok (.dup, 1) := by decide +kernel
theorem dX11_addBytes_27 : decode cX11_addBytes 27 = .ok (.getfield 50, 3) := by decide +kernel
theorem dX11_addBytes_30 : decode cX11_addBytes 30 = .ok (.iconst 1, 1) := by decide +kernel
theorem dX11_addBytes_31 : decode cX11_addBytes 31 = .ok (.iadd, 1) := by decide +kernel
theorem dX11_addBytes_32 : decode cX11_addBytes 32 = .ok (.putfield 50, 3) := by decide +kernel
theorem dX11_addBytes_35 : decode cX11_addBytes 35 = .ok (.iinc 2 (-8), 3) := by decide +kernel
theorem dX11_addBytes_38 : decode cX11_addBytes 38 = .ok (.goto (-35), 3) := by decide +kernel
theorem dX11_addBytes_41 : decode cX11_addBytes 41 = .ok (.return_, 1) := by decide +kernel
theorem dX11_cut_0 : decode cX11_cut 0 = .ok (.iload_n 1, 1) := by decide +kernel
theorem dX11_cut_1 : decode cX11_cut 1 = .ok (.ifCond .lt 11, 3) := by decide +kernel
theorem dX11_cut_4 : decode cX11_cut 4 = .ok (.iload_n 1, 1) := by decide +kernel
theorem dX11_cut_5 : decode cX11_cut 5 = .ok (.aload_n 0, 1) := by decide +kernel
theorem dX11_cut_6 : decode cX11_cut 6 = .ok (.getfield 50, 3) := by decide +kernel
theorem dX11_cut_9 : decode cX11_cut 9 = .ok (.if_icmp .le 5, 3) := by decide +kernel
theorem dX11_cut_12 : decode cX11_cut 12 = .ok (.iconst (-1), 1) := by decide +kernel
theorem dX11_cut_13 : decode cX11_cut 13 = .ok (.ireturn, 1) := by decide +kernel
theorem dX11_cut_14 : decode cX11_cut 14 = .ok (.aload_n 0, 1) := by decide +kernel
theorem dX11_cut_15 : decode cX11_cut 15 = .ok (.getfield 50, 3) := by decide +kernel
theorem dX11_cut_18 : decode cX11_cut 18 = .ok (.iload_n 1, 1) := by decide +kernel
theorem dX11_cut_19 : decode cX11_cut 19 = .ok (.isub, 1) := by decide +kernel
theorem dX11_cut_20 : decode cX11_cut 20 = .ok (.istore_n 2, 1) := by decide +kernel
theorem dX11_cut_21 : decode cX11_cut 21 = .ok (.aload_n 0, 1) := by decide +kernel
theorem dX11_cut_22 : decode cX11_cut 22 = .ok (.iload_n 1, 1) := by decide +kernel
theorem dX11_cut_23 : decode cX11_cut 23 = .ok (.putfield 50, 3) := by decide +kernel
theorem dX11_cut_26 : decode cX11_cut 26 = .ok (.iload_n 2, 1) := by decide +kernel
theorem dX11_cut_27 : decode cX11_cut 27 = .ok (.ireturn, 1) := by decide +kernel
theorem dX11_kind_0 : decode cX11_kind 0 = .ok (.aload_n 0, 1) := by decide +kernel
theorem dX11_kind_1 : decode cX11_kind 1 = .ok (.getfield 16, 3) := by decide +kernel
theorem dX11_kind_4 : decode cX11_kind 4 = .ok (.iload_n 1, 1) := by decide +kernel
theorem dX11_kind_5 : decode cX11_kind 5 = .ok (.invokevirtual 62, 3) := by decide +kernel
theorem dX11_kind_8 : decode cX11_kind 8 = .ok (.ifCond .ne 5, 3) := by decide +kernel
theorem dX11_kind_11 : decode cX11_kind 11 = .ok (.iconst (-1), 1) := by decide +kernel
theorem dX11_kind_12 : decode cX11_kind 12 = .ok (.ireturn, 1) := by decide +kernel
theorem dX11_kind_13 : decode cX11_kind 13 = .ok (.aload_n 0, 1) := by decide +kernel
theorem dX11_kind_14 : decode cX11_kind 14 = .ok (.getfield 16, 3) := by decide +kernel
theorem dX11_kind_17 : decode cX11_kind 17 = .ok (.invokevirtual 66, 3) := by decide +kernel
theorem dX11_kind_20 : decode cX11_kind 20 = .ok (.ifCond .eq 8, 3) := by decide +kernel
theorem dX11_kind_28 : decode cX11_kind 28 = .ok (.aload_n 0, 1) := by decide +kernel
theorem dX11_kind_29 : decode cX11_kind 29 = .ok (.getfield 16, 3) := by decide +kernel
theorem dX11_kind_32 : decode cX11_kind 32 = .ok (.iload_n 1, 1) := by decide +kernel
theorem dX11_kind_33 : decode cX11_kind 33 = .ok (.invokevirtual 70, 3) := by decide +kernel
theorem dX11_kind_36 : decode cX11_kind 36 = .ok (.ireturn, 1) := by decide +kernel
theorem dX11_resource_0 : decode cX11_resource 0 = .ok (.iload_n 1, 1) := by decide +kernel
theorem dX11_resource_1 : decode cX11_resource 1 = .ok (.ifCond .lt 18, 3) := by decide +kernel
theorem dX11_resource_4 : decode cX11_resource 4 = .ok (.iload_n 1, 1) := by decide +kernel
theorem dX11_resource_5 : decode cX11_resource 5 = .ok (.bipush 8, 2) := by decide +kernel
theorem dX11_resource_7 : decode cX11_resource 7 = .ok (.if_icmp .ge 12, 3) := by decide +kernel
theorem dX11_resource_10 : decode cX11_resource 10 = .ok (.iload_n 2, 1) := by decide +kernel
theorem dX11_resource_11 : decode cX11_resource 11 = .ok (.ifCond .lt 8, 3) := by decide +kernel
theorem dX11_resource_14 : decode cX11_resource 14 = .ok (.iload_n 2, 1) := by decide +kernel
theorem dX11_resource_15 : decode cX11_resource 15 = .ok (.iconst 1, 1) := by decide +kernel
theorem dX11_resource_16 : decode cX11_resource 16 = .ok (.if_icmp .le 5, 3) := by decide +kernel
theorem dX11_resource_19 : decode cX11_resource 19 = .ok (.iconst (-1), 1) := by decide +kernel
theorem dX11_resource_20 : decode cX11_resource 20 = .ok (.ireturn, 1) := by decide +kernel
theorem dX11_resource_21 : decode cX11_resource 21 = .ok (.aload_n 0, 1) := by decide +kernel
theorem dX11_resource_22 : decode cX11_resource 22 = .ok (.iload_n 3, 1) := by decide +kernel
theorem dX11_resource_23 : decode cX11_resource 23 = .ok (.invokevirtual 74, 3) := by decide +kernel
theorem dX11_resource_26 : decode cX11_resource 26 = .ok (.ifCond .eq 12, 3) := by decide +kernel
theorem dX11_resource_29 : decode cX11_resource 29 = .ok (.aload_n 0, 1) := by decide +kernel
theorem dX11_resource_30 : decode cX11_resource 30 = .ok (.iload 4, 2) := by decide +kernel
theorem dX11_resource_32 : decode cX11_resource 32 = .ok (.invokevirtual 74, 3) := by decide +kernel
theorem dX11_resource_35 : decode cX11_resource 35 = .ok (.ifCond .ne 5, 3) := by decide +kernel
theorem dX11_resource_38 : decode cX11_resource 38 = .ok (.iconst (-1), 1) := by decide +kernel
theorem dX11_resource_39 : decode cX11_resource 39 = .ok (.ireturn, 1) := by decide +kernel
theorem dX11_resource_40 : decode cX11_resource 40 = .ok (.aload_n 0, 1) := by decide +kernel
theorem dX11_resource_41 : decode cX11_resource 41 = .ok (.getfield 16, 3) := by decide +kernel
theorem dX11_resource_44 : decode cX11_resource 44 = .ok (.iload_n 1, 1) := by decide +kernel
theorem dX11_resource_45 : decode cX11_resource 45 = .ok (.iload_n 2, 1) := by decide +kernel
theorem dX11_resource_46 : decode cX11_resource 46 = .ok (.iload_n 3, 1) := by decide +kernel
theorem dX11_resource_47 : decode cX11_resource 47 = .ok (.iload 4, 2) := by decide +kernel
theorem dX11_resource_49 : decode cX11_resource 49 = .ok (.invokevirtual 77, 3) := by decide +kernel
theorem dX11_resource_52 : decode cX11_resource 52 = .ok (.iconst 1, 1) := by decide +kernel
theorem dX11_resource_53 : decode cX11_resource 53 = .ok (.ireturn, 1) := by decide +kernel
theorem dX11_isKindOrNothing_0 : decode cX11_isKindOrNothing 0 = .ok (.iload_n 1, 1) := by decide +kernel
theorem dX11_isKindOrNothing_1 : decode cX11_isKindOrNothing 1 = .ok (.iconst (-1), 1) := by decide +kernel
theorem dX11_isKindOrNothing_2 : decode cX11_isKindOrNothing 2 = .ok (.if_icmp .eq 14, 3) := by decide +kernel
theorem dX11_isKindOrNothing_5 : decode cX11_isKindOrNothing 5 = .ok (.aload_n 0, 1) := by decide +kernel
theorem dX11_isKindOrNothing_6 : decode cX11_isKindOrNothing 6 = .ok (.getfield 16, 3) := by decide +kernel
theorem dX11_isKindOrNothing_9 : decode cX11_isKindOrNothing 9 = .ok (.iload_n 1, 1) := by decide +kernel
theorem dX11_isKindOrNothing_10 : decode cX11_isKindOrNothing 10 = .ok (.invokevirtual 62, 3) := by decide +kernel
theorem dX11_isKindOrNothing_13 : decode cX11_isKindOrNothing 13 = .ok (.ifCond .eq 7, 3) := by decide +kernel
theorem dX11_isKindOrNothing_16 : decode cX11_isKindOrNothing 16 = .ok (.iconst 1, 1) := by decide +kernel
theorem dX11_isKindOrNothing_17 : decode cX11_isKindOrNothing 17 = .ok (.goto 4, 3) := by decide +kernel
theorem dX11_isKindOrNothing_20 : decode cX11_isKindOrNothing 20 = .ok (.iconst 0, 1) := by decide +kernel
theorem dX11_isKindOrNothing_21 : decode cX11_isKindOrNothing 21 = .ok (.ireturn, 1) := by decide +kernel
theorem dX11_asserts_0 : decode cX11_asserts 0 = .ok (.aload_n 0, 1) := by decide +kernel
theorem dX11_asserts_1 : decode cX11_asserts 1 = .ok (.getfield 16, 3) := by decide +kernel
theorem dX11_asserts_4 : decode cX11_asserts 4 = .ok (.getfield 81, 3) := by decide +kernel
theorem dX11_asserts_7 : decode cX11_asserts 7 = .ok (.ifCond .eq 7, 3) := by decide +kernel
theorem dX11_asserts_14 : decode cX11_asserts 14 = .ok (.iconst 0, 1) := by decide +kernel
theorem dX11_asserts_15 : decode cX11_asserts 15 = .ok (.istore_n 2, 1) := by decide +kernel
theorem dX11_asserts_16 : decode cX11_asserts 16 = .ok (.aload_n 0, 1) := by decide +kernel
theorem dX11_asserts_17 : decode cX11_asserts 17 = .ok (.getfield 16, 3) := by decide +kernel
theorem dX11_asserts_20 : decode cX11_asserts 20 = .ok (.iload_n 1, 1) := by decide +kernel
theorem dX11_asserts_21 : decode cX11_asserts 21 = .ok (.putfield 81, 3) := by decide +kernel
theorem dX11_asserts_24 : decode cX11_asserts 24 = .ok (.iload_n 2, 1) := by decide +kernel
theorem dX11_asserts_25 : decode cX11_asserts 25 = .ok (.ireturn, 1) := by decide +kernel
theorem dX11_read_0 : decode cX11_read 0 = .ok (.aload_n 0, 1) := by decide +kernel
theorem dX11_read_1 : decode cX11_read 1 = .ok (.getfield 50, 3) := by decide +kernel
theorem dX11_read_4 : decode cX11_read 4 = .ok (.istore_n 1, 1) := by decide +kernel
theorem dX11_read_5 : decode cX11_read 5 = .ok (.aload_n 0, 1) := by decide +kernel
theorem dX11_read_6 : decode cX11_read 6 = .ok (.iconst 0, 1) := by decide +kernel
theorem dX11_read_7 : decode cX11_read 7 = .ok (.putfield 50, 3) := by decide +kernel
theorem dX11_read_10 : decode cX11_read 10 = .ok (.aload_n 0, 1) := by decide +kernel
theorem dX11_read_11 : decode cX11_read 11 = .ok (.iconst 0, 1) := by decide +kernel
theorem dX11_read_12 : decode cX11_read 12 = .ok (.putfield 85, 3) := by decide +kernel
theorem dX11_read_15 : decode cX11_read 15 = .ok (.aload_n 0, 1) := by decide +kernel
theorem dX11_read_16 : decode cX11_read 16 = .ok (.aload_n 0, 1) := by decide +kernel
theorem dX11_read_17 : decode cX11_read 17 = .ok (.getfield 37, 3) := by decide +kernel
theorem dX11_read_20 : decode cX11_read 20 = .ok (.iload_n 1, 1) := by decide +kernel
theorem dX11_read_21 : decode cX11_read 21 = .ok (.invokevirtual 88, 3) := by decide +kernel
theorem dX11_read_24 : decode cX11_read 24 = .ok (.putfield 91, 3) := by decide +kernel
theorem dX11_read_27 : decode cX11_read 27 = .ok (.aload_n 0, 1) := by decide +kernel
theorem dX11_read_28 : decode cX11_read 28 = .ok (.aload_n 0, 1) := by decide +kernel
theorem dX11_read_29 : decode cX11_read 29 = .ok (.getfield 91, 3) := by decide +kernel
theorem dX11_read_32 : decode cX11_read 32 = .ok (.ifCond .ne 7, 3) := by decide +kernel
theorem dX11_read_35 : decode cX11_read 35 = .ok (.iconst 1, 1) := by decide +kernel
theorem dX11_read_36 : decode cX11_read 36 = .ok (.goto 4, 3) := by decide +kernel
theorem dX11_read_40 : decode cX11_read 40 = .ok (.putfield 94, 3) := by decide +kernel
theorem dX11_read_43 : decode cX11_read 43 = .ok (.aload_n 0, 1) := by decide +kernel
theorem dX11_read_44 : decode cX11_read 44 = .ok (.getfield 94, 3) := by decide +kernel
theorem dX11_read_47 : decode cX11_read 47 = .ok (.ifCond .eq 13, 3) := by decide +kernel
theorem dX11_read_50 : decode cX11_read 50 = .ok (.aload_n 0, 1) := by decide +kernel
theorem dX11_read_51 : decode cX11_read 51 = .ok (.getfield 23, 3) := by decide +kernel
theorem dX11_read_54 : decode cX11_read 54 = .ok (.getfield 97, 3) := by decide +kernel
theorem dX11_read_57 : decode cX11_read 57 = .ok (.goto 13, 3) := by decide +kernel
theorem dX11_read_70 : decode cX11_read 70 = .ok (.ireturn, 1) := by decide +kernel
theorem dX11_fault_0 : decode cX11_fault 0 = .ok (.aload_n 0, 1) := by decide +kernel
theorem dX11_fault_1 : decode cX11_fault 1 = .ok (.getfield 91, 3) := by decide +kernel
theorem dX11_fault_4 : decode cX11_fault 4 = .ok (.ireturn, 1) := by decide +kernel
theorem dX11_program_0 : decode cX11_program 0 = .ok (.iload_n 1, 1) := by decide +kernel
theorem dX11_program_1 : decode cX11_program 1 = .ok (.ifCond .lt 8, 3) := by decide +kernel
theorem dX11_program_4 : decode cX11_program 4 = .ok (.iload_n 1, 1) := by decide +kernel
theorem dX11_program_5 : decode cX11_program 5 = .ok (.iconst 3, 1) := by decide +kernel
theorem dX11_program_6 : decode cX11_program 6 = .ok (.if_icmp .le 5, 3) := by decide +kernel
theorem dX11_program_9 : decode cX11_program 9 = .ok (.iconst (-1), 1) := by decide +kernel
theorem dX11_program_10 : decode cX11_program 10 = .ok (.ireturn, 1) := by decide +kernel
theorem dX11_program_11 : decode cX11_program 11 = .ok (.aload_n 0, 1) := by decide +kernel
theorem dX11_program_12 : decode cX11_program 12 = .ok (.getfield 94, 3) := by decide +kernel
theorem dX11_program_15 : decode cX11_program 15 = .ok (.ifCond .ne 6, 3) := by decide +kernel
theorem dX11_program_18 : decode cX11_program 18 = .ok (.bipush (-3), 2) := by decide +kernel
theorem dX11_program_20 : decode cX11_program 20 = .ok (.ireturn, 1) := by decide +kernel
theorem dX11_run_0 : decode cX11_run 0 = .ok (.aload_n 0, 1) := by decide +kernel
theorem dX11_run_1 : decode cX11_run 1 = .ok (.getfield 94, 3) := by decide +kernel
theorem dX11_run_4 : decode cX11_run 4 = .ok (.ifCond .ne 6, 3) := by decide +kernel
theorem dX11_run_7 : decode cX11_run 7 = .ok (.bipush (-3), 2) := by decide +kernel
theorem dX11_run_9 : decode cX11_run 9 = .ok (.ireturn, 1) := by decide +kernel
theorem dX11_ran_0 : decode cX11_ran 0 = .ok (.iload_n 1, 1) := by decide +kernel
theorem dX11_ran_1 : decode cX11_ran 1 = .ok (.ifCond .lt 9, 3) := by decide +kernel
theorem dX11_ran_4 : decode cX11_ran 4 = .ok (.iload_n 1, 1) := by decide +kernel
theorem dX11_ran_5 : decode cX11_ran 5 = .ok (.bipush 6, 2) := by decide +kernel
theorem dX11_ran_7 : decode cX11_ran 7 = .ok (.if_icmp .le 5, 3) := by decide +kernel
theorem dX11_ran_10 : decode cX11_ran 10 = .ok (.iconst (-1), 1) := by decide +kernel
theorem dX11_ran_11 : decode cX11_ran 11 = .ok (.ireturn, 1) := by decide +kernel
theorem dX11_ran_12 : decode cX11_ran 12 = .ok (.aload_n 0, 1) := by decide +kernel
theorem dX11_ran_13 : decode cX11_ran 13 = .ok (.getfield 85, 3) := by decide +kernel
theorem dX11_ran_16 : decode cX11_ran 16 = .ok (.ifCond .eq 14, 3) := by decide +kernel
theorem dX11_ran_30 : decode cX11_ran 30 = .ok (.bipush (-3), 2) := by decide +kernel
theorem dX11_ran_32 : decode cX11_ran 32 = .ok (.ireturn, 1) := by decide +kernel
theorem dX11_trace_0 : decode cX11_trace 0 = .ok (.aload_n 0, 1) := by decide +kernel
theorem dX11_trace_1 : decode cX11_trace 1 = .ok (.getfield 85, 3) := by decide +kernel
theorem dX11_trace_4 : decode cX11_trace 4 = .ok (.ifCond .eq 27, 3) := by decide +kernel
theorem dX11_trace_31 : decode cX11_trace 31 = .ok (.iconst (-1), 1) := by decide +kernel
theorem dX11_trace_32 : decode cX11_trace 32 = .ok (.ireturn, 1) := by decide +kernel
theorem dX11_suppressed_0 : decode cX11_suppressed 0 = .ok (.aload_n 0, 1) := by decide +kernel
theorem dX11_suppressed_1 : decode cX11_suppressed 1 = .ok (.getfield 85, 3) := by decide +kernel
theorem dX11_suppressed_4 : decode cX11_suppressed 4 = .ok (.ifCond .eq 13, 3) := by decide +kernel
theorem dX11_suppressed_17 : decode cX11_suppressed 17 = .ok (.aconst_null, 1) := by decide +kernel
theorem dX11_suppressed_18 : decode cX11_suppressed 18 = .ok (.astore_n 3, 1) := by decide +kernel
theorem dX11_suppressed_19 : decode cX11_suppressed 19 = .ok (.aload_n 3, 1) := by decide +kernel
theorem dX11_suppressed_20 : decode cX11_suppressed 20 = .ok (.ifnull 24, 3) := by decide +kernel
theorem dX11_suppressed_44 : decode cX11_suppressed 44 = .ok (.iconst (-1), 1) := by decide +kernel
theorem dX11_suppressed_45 : decode cX11_suppressed 45 = .ok (.ireturn, 1) := by decide +kernel
theorem dX11_under_0 : decode cX11_under 0 = .ok (.aload_n 0, 1) := by decide +kernel
theorem dX11_under_1 : decode cX11_under 1 = .ok (.getfield 16, 3) := by decide +kernel
theorem dX11_under_4 : decode cX11_under 4 = .ok (.iload_n 1, 1) := by decide +kernel
theorem dX11_under_5 : decode cX11_under 5 = .ok (.invokevirtual 62, 3) := by decide +kernel
theorem dX11_under_8 : decode cX11_under 8 = .ok (.ifCond .eq 14, 3) := by decide +kernel
theorem dX11_under_11 : decode cX11_under 11 = .ok (.aload_n 0, 1) := by decide +kernel
theorem dX11_under_12 : decode cX11_under 12 = .ok (.getfield 16, 3) := by decide +kernel
theorem dX11_under_15 : decode cX11_under 15 = .ok (.iload_n 2, 1) := by decide +kernel
theorem dX11_under_16 : decode cX11_under 16 = .ok (.invokevirtual 62, 3) := by decide +kernel
theorem dX11_under_19 : decode cX11_under 19 = .ok (.ifCond .ne 5, 3) := by decide +kernel
theorem dX11_under_22 : decode cX11_under 22 = .ok (.iconst (-1), 1) := by decide +kernel
theorem dX11_under_23 : decode cX11_under 23 = .ok (.ireturn, 1) := by decide +kernel
