theorem dX9_start_0 : decode cX9_start 0 = .ok (.aload_n 0, 1) := by decide +kernel
theorem dX9_start_1 : decode cX9_start 1 = .ok (.iload_n 1, 1) := by decide +kernel
theorem dX9_start_2 : decode cX9_start 2 = .ok (.putfield 31, 3) := by decide +kernel
theorem dX9_start_5 : decode cX9_start 5 = .ok (.aload_n 0, 1) := by decide +kernel
theorem dX9_start_6 : decode cX9_start 6 = .ok (.iconst 0, 1) := by decide +kernel
theorem dX9_start_7 : decode cX9_start 7 = .ok (.putfield 34, 3) := by decide +kernel
theorem dX9_start_10 : decode cX9_start 10 = .ok (.aload_n 0, 1) := by decide +kernel
theorem dX9_start_11 : decode cX9_start 11 = .ok (.invokevirtual 37, 3) := by decide +kernel
theorem dX9_start_14 : decode cX9_start 14 = .ok (.return_, 1) := by decide +kernel
theorem dX9_stop_0 : decode cX9_stop 0 = .ok (.aload_n 0, 1) := by decide +kernel
theorem dX9_stop_1 : decode cX9_stop 1 = .ok (.aload_n 0, 1) := by decide +kernel
theorem dX9_stop_2 : decode cX9_stop 2 = .ok (.getfield 31, 3) := by decide +kernel
theorem dX9_stop_5 : decode cX9_stop 5 = .ok (.putfield 34, 3) := by decide +kernel
theorem dX9_stop_8 : decode cX9_stop 8 = .ok (.aload_n 0, 1) := by decide +kernel
theorem dX9_stop_9 : decode cX9_stop 9 = .ok (.iconst 0, 1) := by decide +kernel
theorem dX9_stop_10 : decode cX9_stop 10 = .ok (.putfield 40, 3) := by decide +kernel
theorem dX9_stop_13 : decode cX9_stop 13 = .ok (.return_, 1) := by decide +kernel
theorem dX9_advance_0 : decode cX9_advance 0 = .ok (.iconst 0, 1) := by decide +kernel
theorem dX9_advance_1 : decode cX9_advance 1 = .ok (.istore_n 1, 1) := by decide +kernel
theorem dX9_advance_2 : decode cX9_advance 2 = .ok (.iload_n 1, 1) := by decide +kernel
theorem dX9_advance_3 : decode cX9_advance 3 = .ok (.sipush 900, 3) := by decide +kernel
theorem dX9_advance_6 : decode cX9_advance 6 = .ok (.if_icmp .ge 45, 3) := by decide +kernel
theorem dX9_advance_9 : decode cX9_advance 9 = .ok (.aload_n 0, 1) := by decide +kernel
theorem dX9_advance_10 : decode cX9_advance 10 = .ok (.aload_n 0, 1) := by decide +kernel
theorem dX9_advance_11 : decode cX9_advance 11 = .ok (.getfield 34, 3) := by decide +kernel
theorem dX9_advance_14 : decode cX9_advance 14 = .ok (.invokevirtual 43, 3) := by decide +kernel
theorem dX9_advance_17 : decode cX9_advance 17 = .ok (.bipush 32, 2) := by decide +kernel
theorem dX9_advance_19 : decode cX9_advance 19 = .ok (.if_icmp .eq 16, 3) := by decide +kernel
theorem dX9_advance_22 : decode cX9_advance 22 = .ok (.aload_n 0, 1) := by decide +kernel
theorem dX9_advance_23 : decode cX9_advance 23 = .ok (.aload_n 0, 1) := by decide +kernel
theorem dX9_advance_24 : decode cX9_advance 24 = .ok (.getfield 34, 3) := by decide +kernel
theorem dX9_advance_27 : decode cX9_advance 27 = .ok (.invokevirtual 43, 3) := by decide +kernel
theorem dX9_advance_30 : decode cX9_advance 30 = .ok (.bipush 10, 2) := by decide +kernel
theorem dX9_advance_32 : decode cX9_advance 32 = .ok (.if_icmp .ne 19, 3) := by decide +kernel
theorem dX9_advance_35 : decode cX9_advance 35 = .ok (.aload_n 0, 1) := by decide +kernel
theorem dX9_advance_36 : decode cX9_advance 36 = .ok (.dup, 1) := by decide +kernel
theorem dX9_advance_37 : decode cX9_advance 37 = .ok (.getfield 34, 3) := by decide +kernel
theorem dX9_advance_40 : decode cX9_advance 40 = .ok (.iconst 1, 1) := by decide +kernel
theorem dX9_advance_41 : decode cX9_advance 41 = .ok (.iadd, 1) := by decide +kernel
theorem dX9_advance_42 : decode cX9_advance 42 = .ok (.putfield 34, 3) := by decide +kernel
theorem dX9_advance_45 : decode cX9_advance 45 = .ok (.iinc 1 1, 3) := by decide +kernel
theorem dX9_advance_48 : decode cX9_advance 48 = .ok (.goto (-46), 3) := by decide +kernel
theorem dX9_advance_51 : decode cX9_advance 51 = .ok (.aload_n 0, 1) := by decide +kernel
theorem dX9_advance_52 : decode cX9_advance 52 = .ok (.aload_n 0, 1) := by decide +kernel
theorem dX9_advance_53 : decode cX9_advance 53 = .ok (.getfield 34, 3) := by decide +kernel
theorem dX9_advance_56 : decode cX9_advance 56 = .ok (.putfield 47, 3) := by decide +kernel
theorem dX9_advance_59 : decode cX9_advance 59 = .ok (.aload_n 0, 1) := by decide +kernel
theorem dX9_advance_60 : decode cX9_advance 60 = .ok (.getfield 34, 3) := by decide +kernel
theorem dX9_advance_63 : decode cX9_advance 63 = .ok (.aload_n 0, 1) := by decide +kernel
theorem dX9_advance_64 : decode cX9_advance 64 = .ok (.getfield 31, 3) := by decide +kernel
theorem dX9_advance_67 : decode cX9_advance 67 = .ok (.if_icmp .lt 11, 3) := by decide +kernel
theorem dX9_advance_70 : decode cX9_advance 70 = .ok (.aload_n 0, 1) := by decide +kernel
theorem dX9_advance_71 : decode cX9_advance 71 = .ok (.iconst 0, 1) := by decide +kernel
theorem dX9_advance_72 : decode cX9_advance 72 = .ok (.putfield 40, 3) := by decide +kernel
theorem dX9_advance_75 : decode cX9_advance 75 = .ok (.goto 49, 3) := by decide +kernel
theorem dX9_advance_78 : decode cX9_advance 78 = .ok (.aload_n 0, 1) := by decide +kernel
theorem dX9_advance_79 : decode cX9_advance 79 = .ok (.aload_n 0, 1) := by decide +kernel
theorem dX9_advance_80 : decode cX9_advance 80 = .ok (.getfield 34, 3) := by decide +kernel
theorem dX9_advance_83 : decode cX9_advance 83 = .ok (.invokevirtual 43, 3) := by decide +kernel
theorem dX9_advance_86 : decode cX9_advance 86 = .ok (.invokestatic 50, 3) := by decide +kernel
theorem dX9_advance_89 : decode cX9_advance 89 = .ok (.ifCond .eq 10, 3) := by decide +kernel
theorem dX9_advance_92 : decode cX9_advance 92 = .ok (.aload_n 0, 1) := by decide +kernel
theorem dX9_advance_93 : decode cX9_advance 93 = .ok (.invokevirtual 54, 3) := by decide +kernel
theorem dX9_advance_96 : decode cX9_advance 96 = .ok (.goto 28, 3) := by decide +kernel
theorem dX9_advance_99 : decode cX9_advance 99 = .ok (.aload_n 0, 1) := by decide +kernel
theorem dX9_advance_100 : decode cX9_advance 100 = .ok (.aload_n 0, 1) := by decide +kernel
theorem dX9_advance_101 : decode cX9_advance 101 = .ok (.getfield 34, 3) := by decide +kernel
theorem dX9_advance_104 : decode cX9_advance 104 = .ok (.invokevirtual 43, 3) := by decide +kernel
theorem dX9_advance_107 : decode cX9_advance 107 = .ok (.invokestatic 57, 3) := by decide +kernel
theorem dX9_advance_110 : decode cX9_advance 110 = .ok (.ifCond .eq 10, 3) := by decide +kernel
theorem dX9_advance_113 : decode cX9_advance 113 = .ok (.aload_n 0, 1) := by decide +kernel
theorem dX9_advance_114 : decode cX9_advance 114 = .ok (.invokevirtual 60, 3) := by decide +kernel
theorem dX9_advance_117 : decode cX9_advance 117 = .ok (.goto 7, 3) := by decide +kernel
theorem dX9_advance_120 : decode cX9_advance 120 = .ok (.aload_n 0, 1) := by decide +kernel
theorem dX9_advance_121 : decode cX9_advance 121 = .ok (.invokevirtual 63, 3) := by decide +kernel
theorem dX9_advance_124 : decode cX9_advance 124 = .ok (.return_, 1) := by decide +kernel
theorem dX9_byteAt_0 : decode cX9_byteAt 0 = .ok (.iload_n 1, 1) := by decide +kernel
theorem dX9_byteAt_1 : decode cX9_byteAt 1 = .ok (.ifCond .lt 29, 3) := by decide +kernel
theorem dX9_byteAt_4 : decode cX9_byteAt 4 = .ok (.iload_n 1, 1) := by decide +kernel
theorem dX9_byteAt_5 : decode cX9_byteAt 5 = .ok (.aload_n 0, 1) := by decide +kernel
theorem dX9_byteAt_6 : decode cX9_byteAt 6 = .ok (.getfield 31, 3) := by decide +kernel
theorem dX9_byteAt_9 : decode cX9_byteAt 9 = .ok (.if_icmp .ge 21, 3) := by decide +kernel
theorem dX9_byteAt_12 : decode cX9_byteAt 12 = .ok (.iload_n 1, 1) := by decide +kernel
theorem dX9_byteAt_13 : decode cX9_byteAt 13 = .ok (.aload_n 0, 1) := by decide +kernel
theorem dX9_byteAt_14 : decode cX9_byteAt 14 = .ok (.getfield 15, 3) := by decide +kernel
theorem dX9_byteAt_17 : decode cX9_byteAt 17 = .ok (.arraylength, 1) := by decide +kernel
theorem dX9_byteAt_18 : decode cX9_byteAt 18 = .ok (.if_icmp .ge 12, 3) := by decide +kernel
theorem dX9_byteAt_21 : decode cX9_byteAt 21 = .ok (.aload_n 0, 1) := by decide +kernel
theorem dX9_byteAt_22 : decode cX9_byteAt 22 = .ok (.getfield 15, 3) := by decide +kernel
theorem dX9_byteAt_25 : decode cX9_byteAt 25 = .ok (.iload_n 1, 1) := by decide +kernel
theorem dX9_byteAt_26 : decode cX9_byteAt 26 = .ok (.iaload, 1) := by decide +kernel
theorem dX9_byteAt_27 : decode cX9_byteAt 27 = .ok (.goto 4, 3) := by decide +kernel
theorem dX9_byteAt_30 : decode cX9_byteAt 30 = .ok (.iconst (-1), 1) := by decide +kernel
theorem dX9_byteAt_31 : decode cX9_byteAt 31 = .ok (.ireturn, 1) := by decide +kernel
theorem dX9_isDigit_0 : decode cX9_isDigit 0 = .ok (.iload_n 0, 1) := by decide +kernel
theorem dX9_isDigit_1 : decode cX9_isDigit 1 = .ok (.bipush 48, 2) := by decide +kernel
theorem dX9_isDigit_3 : decode cX9_isDigit 3 = .ok (.if_icmp .lt 13, 3) := by decide +kernel
theorem dX9_isDigit_6 : decode cX9_isDigit 6 = .ok (.iload_n 0, 1) := by decide +kernel
theorem dX9_isDigit_7 : decode cX9_isDigit 7 = .ok (.bipush 57, 2) := by decide +kernel
theorem dX9_isDigit_9 : decode cX9_isDigit 9 = .ok (.if_icmp .gt 7, 3) := by decide +kernel
theorem dX9_isDigit_12 : decode cX9_isDigit 12 = .ok (.iconst 1, 1) := by decide +kernel
theorem dX9_isDigit_13 : decode cX9_isDigit 13 = .ok (.goto 4, 3) := by decide +kernel
theorem dX9_isDigit_16 : decode cX9_isDigit 16 = .ok (.iconst 0, 1) := by decide +kernel
theorem dX9_isDigit_17 : decode cX9_isDigit 17 = .ok (.ireturn, 1) := by decide +kernel
theorem dX9_isLetter_0 : decode cX9_isLetter 0 = .ok (.iload_n 0, 1) := by decide +kernel
theorem dX9_isLetter_1 : decode cX9_isLetter 1 = .ok (.bipush 97, 2) := by decide +kernel
theorem dX9_isLetter_3 : decode cX9_isLetter 3 = .ok (.if_icmp .lt 13, 3) := by decide +kernel
theorem dX9_isLetter_6 : decode cX9_isLetter 6 = .ok (.iload_n 0, 1) := by decide +kernel
theorem dX9_isLetter_7 : decode cX9_isLetter 7 = .ok (.bipush 122, 2) := by decide +kernel
theorem dX9_isLetter_9 : decode cX9_isLetter 9 = .ok (.if_icmp .gt 7, 3) := by decide +kernel
theorem dX9_isLetter_12 : decode cX9_isLetter 12 = .ok (.iconst 1, 1) := by decide +kernel
theorem dX9_isLetter_13 : decode cX9_isLetter 13 = .ok (.goto 4, 3) := by decide +kernel
theorem dX9_isLetter_16 : decode cX9_isLetter 16 = .ok (.iconst 0, 1) := by decide +kernel
theorem dX9_isLetter_17 : decode cX9_isLetter 17 = .ok (.ireturn, 1) := by decide +kernel
theorem dX9_takeNumber_0 : decode cX9_takeNumber 0 = .ok (.aload_n 0, 1) := by decide +kernel
theorem dX9_takeNumber_1 : decode cX9_takeNumber 1 = .ok (.iconst 0, 1) := by decide +kernel
theorem dX9_takeNumber_2 : decode cX9_takeNumber 2 = .ok (.putfield 66, 3) := by decide +kernel
theorem dX9_takeNumber_5 : decode cX9_takeNumber 5 = .ok (.iconst 0, 1) := by decide +kernel
theorem dX9_takeNumber_6 : decode cX9_takeNumber 6 = .ok (.istore_n 1, 1) := by decide +kernel
theorem dX9_takeNumber_7 : decode cX9_takeNumber 7 = .ok (.iload_n 1, 1) := by decide +kernel
theorem dX9_takeNumber_8 : decode cX9_takeNumber 8 = .ok (.sipush 900, 3) := by decide +kernel
theorem dX9_takeNumber_11 : decode cX9_takeNumber 11 = .ok (.if_icmp .ge 56, 3) := by decide +kernel
theorem dX9_takeNumber_14 : decode cX9_takeNumber 14 = .ok (.aload_n 0, 1) := by decide +kernel
theorem dX9_takeNumber_15 : decode cX9_takeNumber 15 = .ok (.aload_n 0, 1) := by decide +kernel
theorem dX9_takeNumber_16 : decode cX9_takeNumber 16 = .ok (.getfield 34, 3) := by decide +kernel
theorem dX9_takeNumber_19 : decode cX9_takeNumber 19 = .ok (.invokevirtual 43, 3) := by decide +kernel
theorem dX9_takeNumber_22 : decode cX9_takeNumber 22 = .ok (.invokestatic 50, 3) := by decide +kernel
theorem dX9_takeNumber_25 : decode cX9_takeNumber 25 = .ok (.ifCond .eq 42, 3) := by decide +kernel
theorem dX9_takeNumber_28 : decode cX9_takeNumber 28 = .ok (.aload_n 0, 1) := by decide +kernel
theorem dX9_takeNumber_29 : decode cX9_takeNumber 29 = .ok (.aload_n 0, 1) := by decide +kernel
theorem dX9_takeNumber_30 : decode cX9_takeNumber 30 = .ok (.getfield 66, 3) := by decide +kernel
theorem dX9_takeNumber_33 : decode cX9_takeNumber 33 = .ok (.bipush 10, 2) := by decide +kernel
theorem dX9_takeNumber_35 : decode cX9_takeNumber 35 = .ok (.imul, 1) := by decide +kernel
theorem dX9_takeNumber_36 : decode cX9_takeNumber 36 = .ok (.aload_n 0, 1) := by decide +kernel
theorem dX9_takeNumber_37 : decode cX9_takeNumber 37 = .ok (.aload_n 0, 1) := by decide +kernel
theorem dX9_takeNumber_38 : decode cX9_takeNumber 38 = .ok (.getfield 34, 3) := by decide +kernel
theorem dX9_takeNumber_41 : decode cX9_takeNumber 41 = .ok (.invokevirtual 43, 3) := by decide +kernel
theorem dX9_takeNumber_44 : decode cX9_takeNumber 44 = .ok (.iadd, 1) := by decide +kernel
theorem dX9_takeNumber_45 : decode cX9_takeNumber 45 = .ok (.bipush 48, 2) := by decide +kernel
theorem dX9_takeNumber_47 : decode cX9_takeNumber 47 = .ok (.isub, 1) := by decide +kernel
theorem dX9_takeNumber_48 : decode cX9_takeNumber 48 = .ok (.putfield 66, 3) := by decide +kernel
theorem dX9_takeNumber_51 : decode cX9_takeNumber 51 = .ok (.aload_n 0, 1) := by decide +kernel
theorem dX9_takeNumber_52 : decode cX9_takeNumber 52 = .ok (.dup, 1) := by decide +kernel
theorem dX9_takeNumber_53 : decode cX9_takeNumber 53 = .ok (.getfield 34, 3) := by decide +kernel
theorem dX9_takeNumber_56 : decode cX9_takeNumber 56 = .ok (.iconst 1, 1) := by decide +kernel
theorem dX9_takeNumber_57 : decode cX9_takeNumber 57 = .ok (.iadd, 1) := by decide +kernel
theorem dX9_takeNumber_58 : decode cX9_takeNumber 58 = .ok (.putfield 34, 3) := by decide +kernel
theorem dX9_takeNumber_61 : decode cX9_takeNumber 61 = .ok (.iinc 1 1, 3) := by decide +kernel
theorem dX9_takeNumber_64 : decode cX9_takeNumber 64 = .ok (.goto (-57), 3) := by decide +kernel
theorem dX9_takeNumber_67 : decode cX9_takeNumber 67 = .ok (.aload_n 0, 1) := by decide +kernel
theorem dX9_takeNumber_68 : decode cX9_takeNumber 68 = .ok (.aload_n 0, 1) := by decide +kernel
theorem dX9_takeNumber_69 : decode cX9_takeNumber 69 = .ok (.getfield 34, 3) := by decide +kernel
theorem dX9_takeNumber_72 : decode cX9_takeNumber 72 = .ok (.aload_n 0, 1) := by decide +kernel
theorem dX9_takeNumber_73 : decode cX9_takeNumber 73 = .ok (.getfield 47, 3) := by decide +kernel
theorem dX9_takeNumber_76 : decode cX9_takeNumber 76 = .ok (.isub, 1) := by decide +kernel
theorem dX9_takeNumber_77 : decode cX9_takeNumber 77 = .ok (.bipush 9, 2) := by decide +kernel
theorem dX9_takeNumber_79 : decode cX9_takeNumber 79 = .ok (.if_icmp .le 8, 3) := by decide +kernel
theorem dX9_takeNumber_82 : decode cX9_takeNumber 82 = .ok (.bipush 6, 2) := by decide +kernel
theorem dX9_takeNumber_84 : decode cX9_takeNumber 84 = .ok (.goto 4, 3) := by decide +kernel
theorem dX9_takeNumber_87 : decode cX9_takeNumber 87 = .ok (.iconst 1, 1) := by decide +kernel
theorem dX9_takeNumber_88 : decode cX9_takeNumber 88 = .ok (.putfield 40, 3) := by decide +kernel
theorem dX9_takeNumber_91 : decode cX9_takeNumber 91 = .ok (.return_, 1) := by decide +kernel
theorem dX9_takeRow_0 : decode cX9_takeRow 0 = .ok (.aload_n 0, 1) := by decide +kernel
theorem dX9_takeRow_1 : decode cX9_takeRow 1 = .ok (.lconst 0, 1) := by decide +kernel
theorem dX9_takeRow_2 : decode cX9_takeRow 2 = .ok (.putfield 69, 3) := by decide +kernel
theorem dX9_takeRow_5 : decode cX9_takeRow 5 = .ok (.iconst 0, 1) := by decide +kernel
theorem dX9_takeRow_6 : decode cX9_takeRow 6 = .ok (.istore_n 1, 1) := by decide +kernel
theorem dX9_takeRow_7 : decode cX9_takeRow 7 = .ok (.iload_n 1, 1) := by decide +kernel
theorem dX9_takeRow_8 : decode cX9_takeRow 8 = .ok (.sipush 900, 3) := by decide +kernel
theorem dX9_takeRow_11 : decode cX9_takeRow 11 = .ok (.if_icmp .ge 68, 3) := by decide +kernel
theorem dX9_takeRow_14 : decode cX9_takeRow 14 = .ok (.aload_n 0, 1) := by decide +kernel
theorem dX9_takeRow_15 : decode cX9_takeRow 15 = .ok (.aload_n 0, 1) := by decide +kernel
theorem dX9_takeRow_16 : decode cX9_takeRow 16 = .ok (.getfield 34, 3) := by decide +kernel
theorem dX9_takeRow_19 : decode cX9_takeRow 19 = .ok (.invokevirtual 43, 3) := by decide +kernel
theorem dX9_takeRow_22 : decode cX9_takeRow 22 = .ok (.invokestatic 50, 3) := by decide +kernel
theorem dX9_takeRow_25 : decode cX9_takeRow 25 = .ok (.ifCond .ne 17, 3) := by decide +kernel
theorem dX9_takeRow_28 : decode cX9_takeRow 28 = .ok (.aload_n 0, 1) := by decide +kernel
theorem dX9_takeRow_29 : decode cX9_takeRow 29 = .ok (.aload_n 0, 1) := by decide +kernel
theorem dX9_takeRow_30 : decode cX9_takeRow 30 = .ok (.getfield 34, 3) := by decide +kernel
theorem dX9_takeRow_33 : decode cX9_takeRow 33 = .ok (.invokevirtual 43, 3) := by decide +kernel
theorem dX9_takeRow_36 : decode cX9_takeRow 36 = .ok (.invokestatic 57, 3) := by decide +kernel
theorem dX9_takeRow_39 : decode cX9_takeRow 39 = .ok (.ifCond .eq 40, 3) := by decide +kernel
theorem dX9_takeRow_42 : decode cX9_takeRow 42 = .ok (.aload_n 0, 1) := by decide +kernel
theorem dX9_takeRow_43 : decode cX9_takeRow 43 = .ok (.aload_n 0, 1) := by decide +kernel
theorem dX9_takeRow_44 : decode cX9_takeRow 44 = .ok (.getfield 69, 3) := by decide +kernel
theorem dX9_takeRow_47 : decode cX9_takeRow 47 = .ok (.bipush 8, 2) := by decide +kernel
theorem dX9_takeRow_49 : decode cX9_takeRow 49 = .ok (.lshl, 1) := by decide +kernel
theorem dX9_takeRow_50 : decode cX9_takeRow 50 = .ok (.aload_n 0, 1) := by decide +kernel
theorem dX9_takeRow_51 : decode cX9_takeRow 51 = .ok (.aload_n 0, 1) := by decide +kernel
theorem dX9_takeRow_52 : decode cX9_takeRow 52 = .ok (.getfield 34, 3) := by decide +kernel
theorem dX9_takeRow_55 : decode cX9_takeRow 55 = .ok (.invokevirtual 43, 3) := by decide +kernel
theorem dX9_takeRow_58 : decode cX9_takeRow 58 = .ok (.i2l, 1) := by decide +kernel
theorem dX9_takeRow_59 : decode cX9_takeRow 59 = .ok (.lor, 1) := by decide +kernel
theorem dX9_takeRow_60 : decode cX9_takeRow 60 = .ok (.putfield 69, 3) := by decide +kernel
theorem dX9_takeRow_63 : decode cX9_takeRow 63 = .ok (.aload_n 0, 1) := by decide +kernel
theorem dX9_takeRow_64 : decode cX9_takeRow 64 = .ok (.dup, 1) := by decide +kernel
theorem dX9_takeRow_65 : decode cX9_takeRow 65 = .ok (.getfield 34, 3) := by decide +kernel
theorem dX9_takeRow_68 : decode cX9_takeRow 68 = .ok (.iconst 1, 1) := by decide +kernel
theorem dX9_takeRow_69 : decode cX9_takeRow 69 = .ok (.iadd, 1) := by decide +kernel
theorem dX9_takeRow_70 : decode cX9_takeRow 70 = .ok (.putfield 34, 3) := by decide +kernel
theorem dX9_takeRow_73 : decode cX9_takeRow 73 = .ok (.iinc 1 1, 3) := by decide +kernel
theorem dX9_takeRow_76 : decode cX9_takeRow 76 = .ok (.goto (-69), 3) := by decide +kernel
theorem dX9_takeRow_79 : decode cX9_takeRow 79 = .ok (.aload_n 0, 1) := by decide +kernel
theorem dX9_takeRow_80 : decode cX9_takeRow 80 = .ok (.aload_n 0, 1) := by decide +kernel
theorem dX9_takeRow_81 : decode cX9_takeRow 81 = .ok (.getfield 34, 3) := by decide +kernel
theorem dX9_takeRow_84 : decode cX9_takeRow 84 = .ok (.aload_n 0, 1) := by decide +kernel
theorem dX9_takeRow_85 : decode cX9_takeRow 85 = .ok (.getfield 47, 3) := by decide +kernel
theorem dX9_takeRow_88 : decode cX9_takeRow 88 = .ok (.isub, 1) := by decide +kernel
theorem dX9_takeRow_89 : decode cX9_takeRow 89 = .ok (.bipush 8, 2) := by decide +kernel
theorem dX9_takeRow_91 : decode cX9_takeRow 91 = .ok (.if_icmp .le 8, 3) := by decide +kernel
theorem dX9_takeRow_94 : decode cX9_takeRow 94 = .ok (.bipush 6, 2) := by decide +kernel
theorem dX9_takeRow_96 : decode cX9_takeRow 96 = .ok (.goto 16, 3) := by decide +kernel
theorem dX9_takeRow_99 : decode cX9_takeRow 99 = .ok (.aload_n 0, 1) := by decide +kernel
theorem dX9_takeRow_100 : decode cX9_takeRow 100 = .ok (.aload_n 0, 1) := by decide +kernel
theorem dX9_takeRow_101 : decode cX9_takeRow 101 = .ok (.getfield 34, 3) := by decide +kernel
theorem dX9_takeRow_104 : decode cX9_takeRow 104 = .ok (.aload_n 0, 1) := by decide +kernel
theorem dX9_takeRow_105 : decode cX9_takeRow 105 = .ok (.getfield 47, 3) := by decide +kernel
theorem dX9_takeRow_108 : decode cX9_takeRow 108 = .ok (.isub, 1) := by decide +kernel
theorem dX9_takeRow_109 : decode cX9_takeRow 109 = .ok (.invokevirtual 73, 3) := by decide +kernel
theorem dX9_takeRow_112 : decode cX9_takeRow 112 = .ok (.putfield 40, 3) := by decide +kernel
theorem dX9_takeRow_115 : decode cX9_takeRow 115 = .ok (.return_, 1) := by decide +kernel
theorem dX9_rowType_0 : decode cX9_rowType 0 = .ok (.iconst 0, 1) := by decide +kernel
theorem dX9_rowType_1 : decode cX9_rowType 1 = .ok (.istore_n 2, 1) := by decide +kernel
theorem dX9_rowType_2 : decode cX9_rowType 2 = .ok (.iload_n 2, 1) := by decide +kernel
theorem dX9_rowType_3 : decode cX9_rowType 3 = .ok (.bipush 25, 2) := by decide +kernel
theorem dX9_rowType_5 : decode cX9_rowType 5 = .ok (.if_icmp .ge 29, 3) := by decide +kernel
theorem dX9_rowType_8 : decode cX9_rowType 8 = .ok (.aload_n 0, 1) := by decide +kernel
theorem dX9_rowType_9 : decode cX9_rowType 9 = .ok (.getfield 9, 3) := by decide +kernel
theorem dX9_rowType_12 : decode cX9_rowType 12 = .ok (.iload_n 2, 1) := by decide +kernel
theorem dX9_rowType_13 : decode cX9_rowType 13 = .ok (.laload, 1) := by decide +kernel
theorem dX9_rowType_14 : decode cX9_rowType 14 = .ok (.aload_n 0, 1) := by decide +kernel
theorem dX9_rowType_15 : decode cX9_rowType 15 = .ok (.getfield 69, 3) := by decide +kernel
theorem dX9_rowType_18 : decode cX9_rowType 18 = .ok (.lcmp, 1) := by decide +kernel
theorem dX9_rowType_19 : decode cX9_rowType 19 = .ok (.ifCond .ne 9, 3) := by decide +kernel
theorem dX9_rowType_22 : decode cX9_rowType 22 = .ok (.sipush 200, 3) := by decide +kernel
theorem dX9_rowType_25 : decode cX9_rowType 25 = .ok (.iload_n 2, 1) := by decide +kernel
theorem dX9_rowType_26 : decode cX9_rowType 26 = .ok (.iadd, 1) := by decide +kernel
theorem dX9_rowType_27 : decode cX9_rowType 27 = .ok (.ireturn, 1) := by decide +kernel
theorem dX9_rowType_28 : decode cX9_rowType 28 = .ok (.iinc 2 1, 3) := by decide +kernel
theorem dX9_rowType_31 : decode cX9_rowType 31 = .ok (.goto (-29), 3) := by decide +kernel
theorem dX9_rowType_34 : decode cX9_rowType 34 = .ok (.aload_n 0, 1) := by decide +kernel
theorem dX9_rowType_35 : decode cX9_rowType 35 = .ok (.getfield 69, 3) := by decide +kernel
theorem dX9_rowType_38 : decode cX9_rowType 38 = .ok (.ldc2_w 76, 3) := by decide +kernel
theorem dX9_rowType_41 : decode cX9_rowType 41 = .ok (.land, 1) := by decide +kernel
theorem dX9_rowType_42 : decode cX9_rowType 42 = .ok (.ldc2_w 78, 3) := by decide +kernel
theorem dX9_rowType_45 : decode cX9_rowType 45 = .ok (.lsub, 1) := by decide +kernel
theorem dX9_rowType_46 : decode cX9_rowType 46 = .ok (.lstore_n 2, 1) := by decide +kernel
theorem dX9_rowType_47 : decode cX9_rowType 47 = .ok (.iload_n 1, 1) := by decide +kernel
theorem dX9_rowType_48 : decode cX9_rowType 48 = .ok (.iconst 2, 1) := by decide +kernel
theorem dX9_rowType_49 : decode cX9_rowType 49 = .ok (.if_icmp .ne 21, 3) := by decide +kernel
theorem dX9_rowType_52 : decode cX9_rowType 52 = .ok (.lload_n 2, 1) := by decide +kernel
theorem dX9_rowType_53 : decode cX9_rowType 53 = .ok (.lconst 0, 1) := by decide +kernel
theorem dX9_rowType_54 : decode cX9_rowType 54 = .ok (.lcmp, 1) := by decide +kernel
theorem dX9_rowType_55 : decode cX9_rowType 55 = .ok (.ifCond .lt 15, 3) := by decide +kernel
theorem dX9_rowType_58 : decode cX9_rowType 58 = .ok (.lload_n 2, 1) := by decide +kernel
theorem dX9_rowType_59 : decode cX9_rowType 59 = .ok (.ldc2_w 80, 3) := by decide +kernel
theorem dX9_rowType_62 : decode cX9_rowType 62 = .ok (.lcmp, 1) := by decide +kernel
theorem dX9_rowType_63 : decode cX9_rowType 63 = .ok (.ifCond .gt 7, 3) := by decide +kernel
theorem dX9_rowType_66 : decode cX9_rowType 66 = .ok (.iconst 1, 1) := by decide +kernel
theorem dX9_rowType_67 : decode cX9_rowType 67 = .ok (.goto 4, 3) := by decide +kernel
theorem dX9_rowType_70 : decode cX9_rowType 70 = .ok (.iconst 0, 1) := by decide +kernel
theorem dX9_rowType_71 : decode cX9_rowType 71 = .ok (.istore 4, 2) := by decide +kernel
theorem dX9_rowType_73 : decode cX9_rowType 73 = .ok (.iload_n 1, 1) := by decide +kernel
theorem dX9_rowType_74 : decode cX9_rowType 74 = .ok (.iconst 3, 1) := by decide +kernel
theorem dX9_rowType_75 : decode cX9_rowType 75 = .ok (.if_icmp .ne 39, 3) := by decide +kernel
theorem dX9_rowType_78 : decode cX9_rowType 78 = .ok (.lload_n 2, 1) := by decide +kernel
theorem dX9_rowType_79 : decode cX9_rowType 79 = .ok (.lconst 0, 1) := by decide +kernel
theorem dX9_rowType_80 : decode cX9_rowType 80 = .ok (.lcmp, 1) := by decide +kernel
theorem dX9_rowType_81 : decode cX9_rowType 81 = .ok (.ifCond .lt 33, 3) := by decide +kernel
theorem dX9_rowType_84 : decode cX9_rowType 84 = .ok (.lload_n 2, 1) := by decide +kernel
theorem dX9_rowType_85 : decode cX9_rowType 85 = .ok (.ldc2_w 80, 3) := by decide +kernel
theorem dX9_rowType_88 : decode cX9_rowType 88 = .ok (.lcmp, 1) := by decide +kernel
theorem dX9_rowType_89 : decode cX9_rowType 89 = .ok (.ifCond .gt 25, 3) := by decide +kernel
theorem dX9_rowType_92 : decode cX9_rowType 92 = .ok (.aload_n 0, 1) := by decide +kernel
theorem dX9_rowType_93 : decode cX9_rowType 93 = .ok (.getfield 69, 3) := by decide +kernel
theorem dX9_rowType_96 : decode cX9_rowType 96 = .ok (.bipush 8, 2) := by decide +kernel
theorem dX9_rowType_98 : decode cX9_rowType 98 = .ok (.lshr, 1) := by decide +kernel
theorem dX9_rowType_99 : decode cX9_rowType 99 = .ok (.ldc2_w 76, 3) := by decide +kernel
theorem dX9_rowType_102 : decode cX9_rowType 102 = .ok (.land, 1) := by decide +kernel
theorem dX9_rowType_103 : decode cX9_rowType 103 = .ok (.ldc2_w 82, 3) := by decide +kernel
theorem dX9_rowType_106 : decode cX9_rowType 106 = .ok (.lcmp, 1) := by decide +kernel
theorem dX9_rowType_107 : decode cX9_rowType 107 = .ok (.ifCond .ne 7, 3) := by decide +kernel
theorem dX9_rowType_110 : decode cX9_rowType 110 = .ok (.iconst 1, 1) := by decide +kernel
theorem dX9_rowType_111 : decode cX9_rowType 111 = .ok (.goto 4, 3) := by decide +kernel
theorem dX9_rowType_114 : decode cX9_rowType 114 = .ok (.iconst 0, 1) := by decide +kernel
theorem dX9_rowType_115 : decode cX9_rowType 115 = .ok (.istore 5, 2) := by decide +kernel
theorem dX9_rowType_117 : decode cX9_rowType 117 = .ok (.iload 4, 2) := by decide +kernel
theorem dX9_rowType_119 : decode cX9_rowType 119 = .ok (.ifCond .ne 10, 3) := by decide +kernel
theorem dX9_rowType_122 : decode cX9_rowType 122 = .ok (.iload 5, 2) := by decide +kernel
theorem dX9_rowType_124 : decode cX9_rowType 124 = .ok (.ifCond .ne 5, 3) := by decide +kernel
theorem dX9_rowType_127 : decode cX9_rowType 127 = .ok (.iconst 2, 1) := by decide +kernel
theorem dX9_rowType_128 : decode cX9_rowType 128 = .ok (.ireturn, 1) := by decide +kernel
theorem dX9_rowType_129 : decode cX9_rowType 129 = .ok (.iload 4, 2) := by decide +kernel
theorem dX9_rowType_131 : decode cX9_rowType 131 = .ok (.ifCond .eq 13, 3) := by decide +kernel
theorem dX9_rowType_134 : decode cX9_rowType 134 = .ok (.aload_n 0, 1) := by decide +kernel
theorem dX9_rowType_135 : decode cX9_rowType 135 = .ok (.getfield 69, 3) := by decide +kernel
theorem dX9_rowType_138 : decode cX9_rowType 138 = .ok (.bipush 8, 2) := by decide +kernel
theorem dX9_rowType_140 : decode cX9_rowType 140 = .ok (.lshr, 1) := by decide +kernel
theorem dX9_rowType_141 : decode cX9_rowType 141 = .ok (.goto 10, 3) := by decide +kernel
theorem dX9_rowType_144 : decode cX9_rowType 144 = .ok (.aload_n 0, 1) := by decide +kernel
theorem dX9_rowType_145 : decode cX9_rowType 145 = .ok (.getfield 69, 3) := by decide +kernel
theorem dX9_rowType_148 : decode cX9_rowType 148 = .ok (.bipush 16, 2) := by decide +kernel
theorem dX9_rowType_150 : decode cX9_rowType 150 = .ok (.lshr, 1) := by decide +kernel
theorem dX9_rowType_151 : decode cX9_rowType 151 = .ok (.lstore 6, 2) := by decide +kernel
theorem dX9_rowType_153 : decode cX9_rowType 153 = .ok (.aload_n 0, 1) := by decide +kernel
theorem dX9_rowType_154 : decode cX9_rowType 154 = .ok (.lload_n 2, 1) := by decide +kernel
theorem dX9_rowType_155 : decode cX9_rowType 155 = .ok (.l2i, 1) := by decide +kernel
theorem dX9_rowType_156 : decode cX9_rowType 156 = .ok (.iload 4, 2) := by decide +kernel
theorem dX9_rowType_158 : decode cX9_rowType 158 = .ok (.ifCond .eq 7, 3) := by decide +kernel
theorem dX9_rowType_161 : decode cX9_rowType 161 = .ok (.iconst 0, 1) := by decide +kernel
theorem dX9_rowType_162 : decode cX9_rowType 162 = .ok (.goto 5, 3) := by decide +kernel
theorem dX9_rowType_165 : decode cX9_rowType 165 = .ok (.bipush 10, 2) := by decide +kernel
theorem dX9_rowType_167 : decode cX9_rowType 167 = .ok (.iadd, 1) := by decide +kernel
theorem dX9_rowType_168 : decode cX9_rowType 168 = .ok (.putfield 66, 3) := by decide +kernel
theorem dX9_rowType_171 : decode cX9_rowType 171 = .ok (.lload 6, 2) := by decide +kernel
theorem dX9_rowType_173 : decode cX9_rowType 173 = .ok (.ldc2_w 84, 3) := by decide +kernel
theorem dX9_rowType_176 : decode cX9_rowType 176 = .ok (.lcmp, 1) := by decide +kernel
theorem dX9_rowType_177 : decode cX9_rowType 177 = .ok (.ifCond .ne 18, 3) := by decide +kernel
theorem dX9_rowType_180 : decode cX9_rowType 180 = .ok (.aload_n 0, 1) := by decide +kernel
theorem dX9_rowType_181 : decode cX9_rowType 181 = .ok (.getfield 66, 3) := by decide +kernel
theorem dX9_rowType_184 : decode cX9_rowType 184 = .ok (.bipush 12, 2) := by decide +kernel
theorem dX9_rowType_186 : decode cX9_rowType 186 = .ok (.if_icmp .ge 7, 3) := by decide +kernel
theorem dX9_rowType_189 : decode cX9_rowType 189 = .ok (.iconst 5, 1) := by decide +kernel
theorem dX9_rowType_190 : decode cX9_rowType 190 = .ok (.goto 4, 3) := by decide +kernel
theorem dX9_rowType_193 : decode cX9_rowType 193 = .ok (.iconst 2, 1) := by decide +kernel
theorem dX9_rowType_194 : decode cX9_rowType 194 = .ok (.ireturn, 1) := by decide +kernel
theorem dX9_rowType_195 : decode cX9_rowType 195 = .ok (.aload_n 0, 1) := by decide +kernel
theorem dX9_rowType_196 : decode cX9_rowType 196 = .ok (.getfield 66, 3) := by decide +kernel
theorem dX9_rowType_199 : decode cX9_rowType 199 = .ok (.bipush 8, 2) := by decide +kernel
theorem dX9_rowType_201 : decode cX9_rowType 201 = .ok (.if_icmp .lt 5, 3) := by decide +kernel
theorem dX9_rowType_204 : decode cX9_rowType 204 = .ok (.iconst 2, 1) := by decide +kernel
theorem dX9_rowType_205 : decode cX9_rowType 205 = .ok (.ireturn, 1) := by decide +kernel
theorem dX9_rowType_206 : decode cX9_rowType 206 = .ok (.lload 6, 2) := by decide +kernel
theorem dX9_rowType_208 : decode cX9_rowType 208 = .ok (.ldc2_w 86, 3) := by decide +kernel
theorem dX9_rowType_211 : decode cX9_rowType 211 = .ok (.lcmp, 1) := by decide +kernel
theorem dX9_rowType_212 : decode cX9_rowType 212 = .ok (.ifCond .ne 7, 3) := by decide +kernel
theorem dX9_rowType_215 : decode cX9_rowType 215 = .ok (.iconst 3, 1) := by decide +kernel
theorem dX9_rowType_216 : decode cX9_rowType 216 = .ok (.goto 17, 3) := by decide +kernel
theorem dX9_rowType_219 : decode cX9_rowType 219 = .ok (.lload 6, 2) := by decide +kernel
theorem dX9_rowType_221 : decode cX9_rowType 221 = .ok (.ldc2_w 88, 3) := by decide +kernel
theorem dX9_rowType_224 : decode cX9_rowType 224 = .ok (.lcmp, 1) := by decide +kernel
theorem dX9_rowType_225 : decode cX9_rowType 225 = .ok (.ifCond .ne 7, 3) := by decide +kernel
theorem dX9_rowType_228 : decode cX9_rowType 228 = .ok (.iconst 4, 1) := by decide +kernel
theorem dX9_rowType_229 : decode cX9_rowType 229 = .ok (.goto 4, 3) := by decide +kernel
theorem dX9_rowType_232 : decode cX9_rowType 232 = .ok (.iconst 2, 1) := by decide +kernel
theorem dX9_rowType_233 : decode cX9_rowType 233 = .ok (.ireturn, 1) := by decide +kernel
theorem dX9_takeSign_0 : decode cX9_takeSign 0 = .ok (.aload_n 0, 1) := by decide +kernel
theorem dX9_takeSign_1 : decode cX9_takeSign 1 = .ok (.aload_n 0, 1) := by decide +kernel
theorem dX9_takeSign_2 : decode cX9_takeSign 2 = .ok (.getfield 34, 3) := by decide +kernel
theorem dX9_takeSign_5 : decode cX9_takeSign 5 = .ok (.invokevirtual 43, 3) := by decide +kernel
theorem dX9_takeSign_8 : decode cX9_takeSign 8 = .ok (.istore_n 1, 1) := by decide +kernel
theorem dX9_takeSign_9 : decode cX9_takeSign 9 = .ok (.aload_n 0, 1) := by decide +kernel
theorem dX9_takeSign_10 : decode cX9_takeSign 10 = .ok (.iload_n 1, 1) := by decide +kernel
theorem dX9_takeSign_11 : decode cX9_takeSign 11 = .ok (.aload_n 0, 1) := by decide +kernel
theorem dX9_takeSign_12 : decode cX9_takeSign 12 = .ok (.aload_n 0, 1) := by decide +kernel
theorem dX9_takeSign_13 : decode cX9_takeSign 13 = .ok (.getfield 34, 3) := by decide +kernel
theorem dX9_takeSign_16 : decode cX9_takeSign 16 = .ok (.iconst 1, 1) := by decide +kernel
theorem dX9_takeSign_17 : decode cX9_takeSign 17 = .ok (.iadd, 1) := by decide +kernel
theorem dX9_takeSign_18 : decode cX9_takeSign 18 = .ok (.invokevirtual 43, 3) := by decide +kernel
theorem dX9_takeSign_21 : decode cX9_takeSign 21 = .ok (.invokestatic 90, 3) := by decide +kernel
theorem dX9_takeSign_24 : decode cX9_takeSign 24 = .ok (.putfield 40, 3) := by decide +kernel
theorem dX9_takeSign_27 : decode cX9_takeSign 27 = .ok (.aload_n 0, 1) := by decide +kernel
theorem dX9_takeSign_28 : decode cX9_takeSign 28 = .ok (.getfield 40, 3) := by decide +kernel
theorem dX9_takeSign_31 : decode cX9_takeSign 31 = .ok (.bipush 6, 2) := by decide +kernel
theorem dX9_takeSign_33 : decode cX9_takeSign 33 = .ok (.if_icmp .eq 14, 3) := by decide +kernel
theorem dX9_takeSign_36 : decode cX9_takeSign 36 = .ok (.aload_n 0, 1) := by decide +kernel
theorem dX9_takeSign_37 : decode cX9_takeSign 37 = .ok (.dup, 1) := by decide +kernel
theorem dX9_takeSign_38 : decode cX9_takeSign 38 = .ok (.getfield 34, 3) := by decide +kernel
theorem dX9_takeSign_41 : decode cX9_takeSign 41 = .ok (.iconst 2, 1) := by decide +kernel
theorem dX9_takeSign_42 : decode cX9_takeSign 42 = .ok (.iadd, 1) := by decide +kernel
theorem dX9_takeSign_43 : decode cX9_takeSign 43 = .ok (.putfield 34, 3) := by decide +kernel
theorem dX9_takeSign_46 : decode cX9_takeSign 46 = .ok (.return_, 1) := by decide +kernel
theorem dX9_takeSign_47 : decode cX9_takeSign 47 = .ok (.aload_n 0, 1) := by decide +kernel
theorem dX9_takeSign_48 : decode cX9_takeSign 48 = .ok (.dup, 1) := by decide +kernel
theorem dX9_takeSign_49 : decode cX9_takeSign 49 = .ok (.getfield 34, 3) := by decide +kernel
theorem dX9_takeSign_52 : decode cX9_takeSign 52 = .ok (.iconst 1, 1) := by decide +kernel
theorem dX9_takeSign_53 : decode cX9_takeSign 53 = .ok (.iadd, 1) := by decide +kernel
theorem dX9_takeSign_54 : decode cX9_takeSign 54 = .ok (.putfield 34, 3) := by decide +kernel
theorem dX9_takeSign_57 : decode cX9_takeSign 57 = .ok (.iload_n 1, 1) := by decide +kernel
theorem dX9_takeSign_58 : decode cX9_takeSign 58 = .ok (.invokestatic 94, 3) := by decide +kernel
theorem dX9_takeSign_61 : decode cX9_takeSign 61 = .ok (.ifCond .eq 8, 3) := by decide +kernel
theorem dX9_takeSign_64 : decode cX9_takeSign 64 = .ok (.aload_n 0, 1) := by decide +kernel
theorem dX9_takeSign_65 : decode cX9_takeSign 65 = .ok (.iload_n 1, 1) := by decide +kernel
theorem dX9_takeSign_66 : decode cX9_takeSign 66 = .ok (.putfield 40, 3) := by decide +kernel
theorem dX9_takeSign_69 : decode cX9_takeSign 69 = .ok (.return_, 1) := by decide +kernel
theorem dX9_longSign_0 : decode cX9_longSign 0 = .ok (.iload_n 1, 1) := by decide +kernel
theorem dX9_longSign_1 : decode cX9_longSign 1 = .ok (.bipush 61, 2) := by decide +kernel
theorem dX9_longSign_3 : decode cX9_longSign 3 = .ok (.if_icmp .ne 54, 3) := by decide +kernel
theorem dX9_longSign_6 : decode cX9_longSign 6 = .ok (.iload_n 0, 1) := by decide +kernel
theorem dX9_longSign_7 : decode cX9_longSign 7 = .ok (.bipush 60, 2) := by decide +kernel
theorem dX9_longSign_9 : decode cX9_longSign 9 = .ok (.if_icmp .ne 9, 3) := by decide +kernel
theorem dX9_longSign_12 : decode cX9_longSign 12 = .ok (.sipush 128, 3) := by decide +kernel
theorem dX9_longSign_15 : decode cX9_longSign 15 = .ok (.goto 41, 3) := by decide +kernel
theorem dX9_longSign_18 : decode cX9_longSign 18 = .ok (.iload_n 0, 1) := by decide +kernel
theorem dX9_longSign_19 : decode cX9_longSign 19 = .ok (.bipush 62, 2) := by decide +kernel
theorem dX9_longSign_21 : decode cX9_longSign 21 = .ok (.if_icmp .ne 9, 3) := by decide +kernel
theorem dX9_longSign_24 : decode cX9_longSign 24 = .ok (.sipush 129, 3) := by decide +kernel
theorem dX9_longSign_27 : decode cX9_longSign 27 = .ok (.goto 29, 3) := by decide +kernel
theorem dX9_longSign_30 : decode cX9_longSign 30 = .ok (.iload_n 0, 1) := by decide +kernel
theorem dX9_longSign_31 : decode cX9_longSign 31 = .ok (.bipush 61, 2) := by decide +kernel
theorem dX9_longSign_33 : decode cX9_longSign 33 = .ok (.if_icmp .ne 9, 3) := by decide +kernel
theorem dX9_longSign_36 : decode cX9_longSign 36 = .ok (.sipush 130, 3) := by decide +kernel
theorem dX9_longSign_39 : decode cX9_longSign 39 = .ok (.goto 17, 3) := by decide +kernel
theorem dX9_longSign_42 : decode cX9_longSign 42 = .ok (.iload_n 0, 1) := by decide +kernel
theorem dX9_longSign_43 : decode cX9_longSign 43 = .ok (.bipush 33, 2) := by decide +kernel
theorem dX9_longSign_45 : decode cX9_longSign 45 = .ok (.if_icmp .ne 9, 3) := by decide +kernel
theorem dX9_longSign_48 : decode cX9_longSign 48 = .ok (.sipush 131, 3) := by decide +kernel
theorem dX9_longSign_51 : decode cX9_longSign 51 = .ok (.goto 5, 3) := by decide +kernel
theorem dX9_longSign_54 : decode cX9_longSign 54 = .ok (.bipush 6, 2) := by decide +kernel
theorem dX9_longSign_56 : decode cX9_longSign 56 = .ok (.ireturn, 1) := by decide +kernel
theorem dX9_longSign_57 : decode cX9_longSign 57 = .ok (.iload_n 0, 1) := by decide +kernel
theorem dX9_longSign_58 : decode cX9_longSign 58 = .ok (.bipush 45, 2) := by decide +kernel
theorem dX9_longSign_60 : decode cX9_longSign 60 = .ok (.if_icmp .ne 13, 3) := by decide +kernel
theorem dX9_longSign_63 : decode cX9_longSign 63 = .ok (.iload_n 1, 1) := by decide +kernel
theorem dX9_longSign_64 : decode cX9_longSign 64 = .ok (.bipush 62, 2) := by decide +kernel
theorem dX9_longSign_66 : decode cX9_longSign 66 = .ok (.if_icmp .ne 7, 3) := by decide +kernel
theorem dX9_longSign_69 : decode cX9_longSign 69 = .ok (.sipush 134, 3) := by decide +kernel
theorem dX9_longSign_72 : decode cX9_longSign 72 = .ok (.ireturn, 1) := by decide +kernel
theorem dX9_longSign_73 : decode cX9_longSign 73 = .ok (.iload_n 0, 1) := by decide +kernel
theorem dX9_longSign_74 : decode cX9_longSign 74 = .ok (.iload_n 1, 1) := by decide +kernel
theorem dX9_longSign_75 : decode cX9_longSign 75 = .ok (.if_icmp .eq 6, 3) := by decide +kernel
theorem dX9_longSign_78 : decode cX9_longSign 78 = .ok (.bipush 6, 2) := by decide +kernel
theorem dX9_longSign_80 : decode cX9_longSign 80 = .ok (.ireturn, 1) := by decide +kernel
theorem dX9_longSign_81 : decode cX9_longSign 81 = .ok (.iload_n 0, 1) := by decide +kernel
theorem dX9_longSign_82 : decode cX9_longSign 82 = .ok (.bipush 38, 2) := by decide +kernel
theorem dX9_longSign_84 : decode cX9_longSign 84 = .ok (.if_icmp .ne 9, 3) := by decide +kernel
theorem dX9_longSign_87 : decode cX9_longSign 87 = .ok (.sipush 132, 3) := by decide +kernel
theorem dX9_longSign_90 : decode cX9_longSign 90 = .ok (.goto 29, 3) := by decide +kernel
theorem dX9_longSign_93 : decode cX9_longSign 93 = .ok (.iload_n 0, 1) := by decide +kernel
theorem dX9_longSign_94 : decode cX9_longSign 94 = .ok (.bipush 124, 2) := by decide +kernel
theorem dX9_longSign_96 : decode cX9_longSign 96 = .ok (.if_icmp .ne 9, 3) := by decide +kernel
theorem dX9_longSign_99 : decode cX9_longSign 99 = .ok (.sipush 133, 3) := by decide +kernel
theorem dX9_longSign_102 : decode cX9_longSign 102 = .ok (.goto 17, 3) := by decide +kernel
theorem dX9_longSign_105 : decode cX9_longSign 105 = .ok (.iload_n 0, 1) := by decide +kernel
theorem dX9_longSign_106 : decode cX9_longSign 106 = .ok (.bipush 43, 2) := by decide +kernel
theorem dX9_longSign_108 : decode cX9_longSign 108 = .ok (.if_icmp .ne 9, 3) := by decide +kernel
theorem dX9_longSign_111 : decode cX9_longSign 111 = .ok (.sipush 135, 3) := by decide +kernel
theorem dX9_longSign_114 : decode cX9_longSign 114 = .ok (.goto 5, 3) := by decide +kernel
theorem dX9_longSign_117 : decode cX9_longSign 117 = .ok (.bipush 6, 2) := by decide +kernel
theorem dX9_longSign_119 : decode cX9_longSign 119 = .ok (.ireturn, 1) := by decide +kernel
theorem dX9_isSign_0 : decode cX9_isSign 0 = .ok (.iload_n 0, 1) := by decide +kernel
theorem dX9_isSign_1 : decode cX9_isSign 1 = .ok (.lookupswitch 165 #[(33, 163), (37, 163), (40, 163), (41, 163), (42, 163), (43, 163), (44, 163), (45, 163), (47, 163), (58, 163), (59, 163), (60, 163), (61, 163), (62, 163), (91, 163), (93, 163), (123, 163), (124, 163), (125, 163)], 163) := by decide +kernel
theorem dX9_isSign_164 : decode cX9_isSign 164 = .ok (.iconst 1, 1) := by decide +kernel
theorem dX9_isSign_165 : decode cX9_isSign 165 = .ok (.ireturn, 1) := by decide +kernel
theorem dX9_isSign_166 : decode cX9_isSign 166 = .ok (.iconst 0, 1) := by decide +kernel
theorem dX9_isSign_167 : decode cX9_isSign 167 = .ok (.ireturn, 1) := by decide +kernel
theorem dX10_isKind_0 : decode cX10_isKind 0 = .ok (.iload_n 1, 1) := by decide +kernel
theorem dX10_isKind_1 : decode cX10_isKind 1 = .ok (.ifCond .lt 15, 3) := by decide +kernel
theorem dX10_isKind_4 : decode cX10_isKind 4 = .ok (.iload_n 1, 1) := by decide +kernel
theorem dX10_isKind_5 : decode cX10_isKind 5 = .ok (.aload_n 0, 1) := by decide +kernel
