theorem dX7_endList_145 : decode cX7_endList 145 = .ok (.aload_n 1, 1) := by decide +kernel
theorem dX7_endList_146 : decode cX7_endList 146 = .ok (.invokevirtual 378, 3) := by decide +kernel
theorem dX7_endList_149 : decode cX7_endList 149 = .ok (.goto 26, 3) := by decide +kernel
theorem dX7_endList_152 : decode cX7_endList 152 = .ok (.aload_n 0, 1) := by decide +kernel
theorem dX7_endList_153 : decode cX7_endList 153 = .ok (.aload_n 1, 1) := by decide +kernel
theorem dX7_endList_154 : decode cX7_endList 154 = .ok (.invokevirtual 381, 3) := by decide +kernel
theorem dX7_endList_157 : decode cX7_endList 157 = .ok (.goto 18, 3) := by decide +kernel
theorem dX7_endList_160 : decode cX7_endList 160 = .ok (.aload_n 0, 1) := by decide +kernel
theorem dX7_endList_161 : decode cX7_endList 161 = .ok (.aload_n 1, 1) := by decide +kernel
theorem dX7_endList_162 : decode cX7_endList 162 = .ok (.invokevirtual 384, 3) := by decide +kernel
theorem dX7_endList_165 : decode cX7_endList 165 = .ok (.goto 10, 3) := by decide +kernel
theorem dX7_endList_168 : decode cX7_endList 168 = .ok (.aload_n 0, 1) := by decide +kernel
theorem dX7_endList_169 : decode cX7_endList 169 = .ok (.getfield 14, 3) := by decide +kernel
theorem dX7_endList_172 : decode cX7_endList 172 = .ok (.invokevirtual 369, 3) := by decide +kernel
theorem dX7_endList_175 : decode cX7_endList 175 = .ok (.return_, 1) := by decide +kernel
theorem dX7_endLock_0 : decode cX7_endLock 0 = .ok (.aload_n 0, 1) := by decide +kernel
theorem dX7_endLock_1 : decode cX7_endLock 1 = .ok (.aload_n 1, 1) := by decide +kernel
theorem dX7_endLock_2 : decode cX7_endLock 2 = .ok (.getfield 196, 3) := by decide +kernel
theorem dX7_endLock_5 : decode cX7_endLock 5 = .ok (.aload_n 1, 1) := by decide +kernel
theorem dX7_endLock_6 : decode cX7_endLock 6 = .ok (.getfield 287, 3) := by decide +kernel
theorem dX7_endLock_9 : decode cX7_endLock 9 = .ok (.invokevirtual 288, 3) := by decide +kernel
theorem dX7_endLock_12 : decode cX7_endLock 12 = .ok (.aload_n 0, 1) := by decide +kernel
theorem dX7_endLock_13 : decode cX7_endLock 13 = .ok (.getfield 20, 3) := by decide +kernel
theorem dX7_endLock_16 : decode cX7_endLock 16 = .ok (.aload_n 1, 1) := by decide +kernel
theorem dX7_endLock_17 : decode cX7_endLock 17 = .ok (.getfield 196, 3) := by decide +kernel
theorem dX7_endLock_20 : decode cX7_endLock 20 = .ok (.invokevirtual 158, 3) := by decide +kernel
theorem dX7_endLock_23 : decode cX7_endLock 23 = .ok (.aload_n 0, 1) := by decide +kernel
theorem dX7_endLock_24 : decode cX7_endLock 24 = .ok (.dup, 1) := by decide +kernel
theorem dX7_endLock_25 : decode cX7_endLock 25 = .ok (.getfield 68, 3) := by decide +kernel
theorem dX7_endLock_28 : decode cX7_endLock 28 = .ok (.iconst 1, 1) := by decide +kernel
theorem dX7_endLock_29 : decode cX7_endLock 29 = .ok (.isub, 1) := by decide +kernel
theorem dX7_endLock_30 : decode cX7_endLock 30 = .ok (.putfield 68, 3) := by decide +kernel
theorem dX7_endLock_33 : decode cX7_endLock 33 = .ok (.aload_n 0, 1) := by decide +kernel
theorem dX7_endLock_34 : decode cX7_endLock 34 = .ok (.getfield 14, 3) := by decide +kernel
theorem dX7_endLock_37 : decode cX7_endLock 37 = .ok (.invokevirtual 369, 3) := by decide +kernel
theorem dX7_endLock_40 : decode cX7_endLock 40 = .ok (.return_, 1) := by decide +kernel
theorem dX7_endSwitch_0 : decode cX7_endSwitch 0 = .ok (.aload_n 0, 1) := by decide +kernel
theorem dX7_endSwitch_1 : decode cX7_endSwitch 1 = .ok (.getfield 20, 3) := by decide +kernel
theorem dX7_endSwitch_4 : decode cX7_endSwitch 4 = .ok (.bipush 30, 2) := by decide +kernel
theorem dX7_endSwitch_6 : decode cX7_endSwitch 6 = .ok (.aload_n 1, 1) := by decide +kernel
theorem dX7_endSwitch_7 : decode cX7_endSwitch 7 = .ok (.getfield 196, 3) := by decide +kernel
theorem dX7_endSwitch_10 : decode cX7_endSwitch 10 = .ok (.invokevirtual 176, 3) := by decide +kernel
theorem dX7_endSwitch_13 : decode cX7_endSwitch 13 = .ok (.aload_n 0, 1) := by decide +kernel
theorem dX7_endSwitch_14 : decode cX7_endSwitch 14 = .ok (.getfield 20, 3) := by decide +kernel
theorem dX7_endSwitch_17 : decode cX7_endSwitch 17 = .ok (.aload_n 1, 1) := by decide +kernel
theorem dX7_endSwitch_18 : decode cX7_endSwitch 18 = .ok (.getfield 284, 3) := by decide +kernel
theorem dX7_endSwitch_21 : decode cX7_endSwitch 21 = .ok (.invokevirtual 158, 3) := by decide +kernel
theorem dX7_endSwitch_24 : decode cX7_endSwitch 24 = .ok (.aload_n 0, 1) := by decide +kernel
theorem dX7_endSwitch_25 : decode cX7_endSwitch 25 = .ok (.getfield 20, 3) := by decide +kernel
theorem dX7_endSwitch_28 : decode cX7_endSwitch 28 = .ok (.aload_n 1, 1) := by decide +kernel
theorem dX7_endSwitch_29 : decode cX7_endSwitch 29 = .ok (.getfield 149, 3) := by decide +kernel
theorem dX7_endSwitch_32 : decode cX7_endSwitch 32 = .ok (.aload_n 1, 1) := by decide +kernel
theorem dX7_endSwitch_33 : decode cX7_endSwitch 33 = .ok (.getfield 140, 3) := by decide +kernel
theorem dX7_endSwitch_36 : decode cX7_endSwitch 36 = .ok (.ifCond .lt 10, 3) := by decide +kernel
theorem dX7_endSwitch_39 : decode cX7_endSwitch 39 = .ok (.aload_n 1, 1) := by decide +kernel
theorem dX7_endSwitch_40 : decode cX7_endSwitch 40 = .ok (.getfield 140, 3) := by decide +kernel
theorem dX7_endSwitch_43 : decode cX7_endSwitch 43 = .ok (.goto 7, 3) := by decide +kernel
theorem dX7_endSwitch_46 : decode cX7_endSwitch 46 = .ok (.aload_n 1, 1) := by decide +kernel
theorem dX7_endSwitch_47 : decode cX7_endSwitch 47 = .ok (.getfield 196, 3) := by decide +kernel
theorem dX7_endSwitch_50 : decode cX7_endSwitch 50 = .ok (.invokevirtual 387, 3) := by decide +kernel
theorem dX7_endSwitch_53 : decode cX7_endSwitch 53 = .ok (.aload_n 0, 1) := by decide +kernel
theorem dX7_endSwitch_54 : decode cX7_endSwitch 54 = .ok (.getfield 20, 3) := by decide +kernel
theorem dX7_endSwitch_57 : decode cX7_endSwitch 57 = .ok (.aload_n 1, 1) := by decide +kernel
theorem dX7_endSwitch_58 : decode cX7_endSwitch 58 = .ok (.getfield 196, 3) := by decide +kernel
theorem dX7_endSwitch_61 : decode cX7_endSwitch 61 = .ok (.invokevirtual 158, 3) := by decide +kernel
theorem dX7_endSwitch_64 : decode cX7_endSwitch 64 = .ok (.aload_n 0, 1) := by decide +kernel
theorem dX7_endSwitch_65 : decode cX7_endSwitch 65 = .ok (.aload_n 0, 1) := by decide +kernel
theorem dX7_endSwitch_66 : decode cX7_endSwitch 66 = .ok (.getfield 61, 3) := by decide +kernel
theorem dX7_endSwitch_69 : decode cX7_endSwitch 69 = .ok (.ifCond .ne 22, 3) := by decide +kernel
theorem dX7_endSwitch_72 : decode cX7_endSwitch 72 = .ok (.aload_n 1, 1) := by decide +kernel
theorem dX7_endSwitch_73 : decode cX7_endSwitch 73 = .ok (.getfield 140, 3) := by decide +kernel
theorem dX7_endSwitch_76 : decode cX7_endSwitch 76 = .ok (.ifCond .lt 15, 3) := by decide +kernel
theorem dX7_endSwitch_79 : decode cX7_endSwitch 79 = .ok (.aload_n 0, 1) := by decide +kernel
theorem dX7_endSwitch_80 : decode cX7_endSwitch 80 = .ok (.getfield 14, 3) := by decide +kernel
theorem dX7_endSwitch_83 : decode cX7_endSwitch 83 = .ok (.aload_n 1, 1) := by decide +kernel
theorem dX7_endSwitch_84 : decode cX7_endSwitch 84 = .ok (.iconst 0, 1) := by decide +kernel
theorem dX7_endSwitch_85 : decode cX7_endSwitch 85 = .ok (.invokevirtual 362, 3) := by decide +kernel
theorem dX7_endSwitch_88 : decode cX7_endSwitch 88 = .ok (.ifCond .eq 7, 3) := by decide +kernel
theorem dX7_endSwitch_91 : decode cX7_endSwitch 91 = .ok (.iconst 1, 1) := by decide +kernel
theorem dX7_endSwitch_92 : decode cX7_endSwitch 92 = .ok (.goto 4, 3) := by decide +kernel
theorem dX7_endSwitch_95 : decode cX7_endSwitch 95 = .ok (.iconst 0, 1) := by decide +kernel
theorem dX7_endSwitch_96 : decode cX7_endSwitch 96 = .ok (.putfield 61, 3) := by decide +kernel
theorem dX7_endSwitch_99 : decode cX7_endSwitch 99 = .ok (.aload_n 0, 1) := by decide +kernel
theorem dX7_endSwitch_100 : decode cX7_endSwitch 100 = .ok (.getfield 14, 3) := by decide +kernel
theorem dX7_endSwitch_103 : decode cX7_endSwitch 103 = .ok (.invokevirtual 369, 3) := by decide +kernel
theorem dX7_endSwitch_106 : decode cX7_endSwitch 106 = .ok (.return_, 1) := by decide +kernel
theorem dX7_endGuarded_0 : decode cX7_endGuarded 0 = .ok (.aload_n 0, 1) := by decide +kernel
theorem dX7_endGuarded_1 : decode cX7_endGuarded 1 = .ok (.aload_n 1, 1) := by decide +kernel
theorem dX7_endGuarded_2 : decode cX7_endGuarded 2 = .ok (.getfield 196, 3) := by decide +kernel
theorem dX7_endGuarded_5 : decode cX7_endGuarded 5 = .ok (.aload_n 1, 1) := by decide +kernel
theorem dX7_endGuarded_6 : decode cX7_endGuarded 6 = .ok (.getfield 287, 3) := by decide +kernel
theorem dX7_endGuarded_9 : decode cX7_endGuarded 9 = .ok (.invokevirtual 288, 3) := by decide +kernel
theorem dX7_endGuarded_12 : decode cX7_endGuarded 12 = .ok (.aload_n 0, 1) := by decide +kernel
theorem dX7_endGuarded_13 : decode cX7_endGuarded 13 = .ok (.getfield 20, 3) := by decide +kernel
theorem dX7_endGuarded_16 : decode cX7_endGuarded 16 = .ok (.aload_n 1, 1) := by decide +kernel
theorem dX7_endGuarded_17 : decode cX7_endGuarded 17 = .ok (.getfield 284, 3) := by decide +kernel
theorem dX7_endGuarded_20 : decode cX7_endGuarded 20 = .ok (.invokevirtual 158, 3) := by decide +kernel
theorem dX7_endGuarded_23 : decode cX7_endGuarded 23 = .ok (.aload_n 1, 1) := by decide +kernel
theorem dX7_endGuarded_24 : decode cX7_endGuarded 24 = .ok (.aload_n 1, 1) := by decide +kernel
theorem dX7_endGuarded_25 : decode cX7_endGuarded 25 = .ok (.getfield 359, 3) := by decide +kernel
theorem dX7_endGuarded_28 : decode cX7_endGuarded 28 = .ok (.ifCond .ne 10, 3) := by decide +kernel
theorem dX7_endGuarded_31 : decode cX7_endGuarded 31 = .ok (.aload_n 0, 1) := by decide +kernel
theorem dX7_endGuarded_32 : decode cX7_endGuarded 32 = .ok (.getfield 61, 3) := by decide +kernel
theorem dX7_endGuarded_35 : decode cX7_endGuarded 35 = .ok (.ifCond .eq 7, 3) := by decide +kernel
theorem dX7_endGuarded_38 : decode cX7_endGuarded 38 = .ok (.iconst 1, 1) := by decide +kernel
theorem dX7_endGuarded_39 : decode cX7_endGuarded 39 = .ok (.goto 4, 3) := by decide +kernel
theorem dX7_endGuarded_42 : decode cX7_endGuarded 42 = .ok (.iconst 0, 1) := by decide +kernel
theorem dX7_endGuarded_43 : decode cX7_endGuarded 43 = .ok (.putfield 359, 3) := by decide +kernel
theorem dX7_endGuarded_46 : decode cX7_endGuarded 46 = .ok (.aload_n 0, 1) := by decide +kernel
theorem dX7_endGuarded_47 : decode cX7_endGuarded 47 = .ok (.sipush 215, 3) := by decide +kernel
theorem dX7_endGuarded_50 : decode cX7_endGuarded 50 = .ok (.invokevirtual 110, 3) := by decide +kernel
theorem dX7_endGuarded_53 : decode cX7_endGuarded 53 = .ok (.ifCond .ne 13, 3) := by decide +kernel
theorem dX7_endGuarded_56 : decode cX7_endGuarded 56 = .ok (.aload_n 0, 1) := by decide +kernel
theorem dX7_endGuarded_57 : decode cX7_endGuarded 57 = .ok (.sipush 216, 3) := by decide +kernel
theorem dX7_endGuarded_60 : decode cX7_endGuarded 60 = .ok (.invokevirtual 110, 3) := by decide +kernel
theorem dX7_endGuarded_63 : decode cX7_endGuarded 63 = .ok (.ifCond .eq 13, 3) := by decide +kernel
theorem dX7_endGuarded_66 : decode cX7_endGuarded 66 = .ok (.aload_n 1, 1) := by decide +kernel
theorem dX7_endGuarded_67 : decode cX7_endGuarded 67 = .ok (.sipush 305, 3) := by decide +kernel
theorem dX7_endGuarded_70 : decode cX7_endGuarded 70 = .ok (.putfield 107, 3) := by decide +kernel
theorem dX7_endGuarded_73 : decode cX7_endGuarded 73 = .ok (.goto 63, 3) := by decide +kernel
theorem dX7_endGuarded_76 : decode cX7_endGuarded 76 = .ok (.aload_n 1, 1) := by decide +kernel
theorem dX7_endGuarded_77 : decode cX7_endGuarded 77 = .ok (.getfield 350, 3) := by decide +kernel
theorem dX7_endGuarded_80 : decode cX7_endGuarded 80 = .ok (.ifCond .eq 52, 3) := by decide +kernel
theorem dX7_endGuarded_83 : decode cX7_endGuarded 83 = .ok (.aload_n 0, 1) := by decide +kernel
theorem dX7_endGuarded_84 : decode cX7_endGuarded 84 = .ok (.getfield 20, 3) := by decide +kernel
theorem dX7_endGuarded_87 : decode cX7_endGuarded 87 = .ok (.bipush 58, 2) := by decide +kernel
theorem dX7_endGuarded_89 : decode cX7_endGuarded 89 = .ok (.iconst 0, 1) := by decide +kernel
theorem dX7_endGuarded_90 : decode cX7_endGuarded 90 = .ok (.invokevirtual 176, 3) := by decide +kernel
theorem dX7_endGuarded_93 : decode cX7_endGuarded 93 = .ok (.aload_n 0, 1) := by decide +kernel
theorem dX7_endGuarded_94 : decode cX7_endGuarded 94 = .ok (.getfield 20, 3) := by decide +kernel
theorem dX7_endGuarded_97 : decode cX7_endGuarded 97 = .ok (.aload_n 1, 1) := by decide +kernel
theorem dX7_endGuarded_98 : decode cX7_endGuarded 98 = .ok (.getfield 196, 3) := by decide +kernel
theorem dX7_endGuarded_101 : decode cX7_endGuarded 101 = .ok (.invokevirtual 158, 3) := by decide +kernel
theorem dX7_endGuarded_104 : decode cX7_endGuarded 104 = .ok (.aload_n 0, 1) := by decide +kernel
theorem dX7_endGuarded_105 : decode cX7_endGuarded 105 = .ok (.aload_n 1, 1) := by decide +kernel
theorem dX7_endGuarded_106 : decode cX7_endGuarded 106 = .ok (.getfield 359, 3) := by decide +kernel
theorem dX7_endGuarded_109 : decode cX7_endGuarded 109 = .ok (.putfield 61, 3) := by decide +kernel
theorem dX7_endGuarded_112 : decode cX7_endGuarded 112 = .ok (.aload_n 0, 1) := by decide +kernel
theorem dX7_endGuarded_113 : decode cX7_endGuarded 113 = .ok (.dup, 1) := by decide +kernel
theorem dX7_endGuarded_114 : decode cX7_endGuarded 114 = .ok (.getfield 68, 3) := by decide +kernel
theorem dX7_endGuarded_117 : decode cX7_endGuarded 117 = .ok (.iconst 1, 1) := by decide +kernel
theorem dX7_endGuarded_118 : decode cX7_endGuarded 118 = .ok (.isub, 1) := by decide +kernel
theorem dX7_endGuarded_119 : decode cX7_endGuarded 119 = .ok (.putfield 68, 3) := by decide +kernel
theorem dX7_endGuarded_122 : decode cX7_endGuarded 122 = .ok (.aload_n 0, 1) := by decide +kernel
theorem dX7_endGuarded_123 : decode cX7_endGuarded 123 = .ok (.getfield 14, 3) := by decide +kernel
theorem dX7_endGuarded_126 : decode cX7_endGuarded 126 = .ok (.invokevirtual 369, 3) := by decide +kernel
theorem dX7_endGuarded_129 : decode cX7_endGuarded 129 = .ok (.goto 7, 3) := by decide +kernel
theorem dX7_endGuarded_132 : decode cX7_endGuarded 132 = .ok (.aload_n 0, 1) := by decide +kernel
theorem dX7_endGuarded_133 : decode cX7_endGuarded 133 = .ok (.invokevirtual 161, 3) := by decide +kernel
theorem dX7_endGuarded_136 : decode cX7_endGuarded 136 = .ok (.return_, 1) := by decide +kernel
theorem dX7_beginCatch_0 : decode cX7_beginCatch 0 = .ok (.aload_n 0, 1) := by decide +kernel
theorem dX7_beginCatch_1 : decode cX7_beginCatch 1 = .ok (.getfield 20, 3) := by decide +kernel
theorem dX7_beginCatch_4 : decode cX7_beginCatch 4 = .ok (.invokevirtual 136, 3) := by decide +kernel
theorem dX7_beginCatch_7 : decode cX7_beginCatch 7 = .ok (.istore_n 2, 1) := by decide +kernel
theorem dX7_beginCatch_8 : decode cX7_beginCatch 8 = .ok (.aload_n 1, 1) := by decide +kernel
theorem dX7_beginCatch_9 : decode cX7_beginCatch 9 = .ok (.sipush 215, 3) := by decide +kernel
theorem dX7_beginCatch_12 : decode cX7_beginCatch 12 = .ok (.putfield 107, 3) := by decide +kernel
theorem dX7_beginCatch_15 : decode cX7_beginCatch 15 = .ok (.aload_n 1, 1) := by decide +kernel
theorem dX7_beginCatch_16 : decode cX7_beginCatch 16 = .ok (.iconst 1, 1) := by decide +kernel
theorem dX7_beginCatch_17 : decode cX7_beginCatch 17 = .ok (.putfield 350, 3) := by decide +kernel
theorem dX7_beginCatch_20 : decode cX7_beginCatch 20 = .ok (.aload_n 1, 1) := by decide +kernel
theorem dX7_beginCatch_21 : decode cX7_beginCatch 21 = .ok (.aload_n 0, 1) := by decide +kernel
theorem dX7_beginCatch_22 : decode cX7_beginCatch 22 = .ok (.getfield 20, 3) := by decide +kernel
theorem dX7_beginCatch_25 : decode cX7_beginCatch 25 = .ok (.invokevirtual 136, 3) := by decide +kernel
theorem dX7_beginCatch_28 : decode cX7_beginCatch 28 = .ok (.putfield 284, 3) := by decide +kernel
theorem dX7_beginCatch_31 : decode cX7_beginCatch 31 = .ok (.aload_n 0, 1) := by decide +kernel
theorem dX7_beginCatch_32 : decode cX7_beginCatch 32 = .ok (.getfield 71, 3) := by decide +kernel
theorem dX7_beginCatch_35 : decode cX7_beginCatch 35 = .ok (.invokevirtual 146, 3) := by decide +kernel
theorem dX7_beginCatch_38 : decode cX7_beginCatch 38 = .ok (.aload_n 0, 1) := by decide +kernel
theorem dX7_beginCatch_39 : decode cX7_beginCatch 39 = .ok (.bipush 40, 2) := by decide +kernel
theorem dX7_beginCatch_41 : decode cX7_beginCatch 41 = .ok (.invokevirtual 173, 3) := by decide +kernel
theorem dX7_beginCatch_44 : decode cX7_beginCatch 44 = .ok (.aload_n 0, 1) := by decide +kernel
theorem dX7_beginCatch_45 : decode cX7_beginCatch 45 = .ok (.aload_n 1, 1) := by decide +kernel
theorem dX7_beginCatch_46 : decode cX7_beginCatch 46 = .ok (.iload_n 2, 1) := by decide +kernel
theorem dX7_beginCatch_47 : decode cX7_beginCatch 47 = .ok (.invokevirtual 390, 3) := by decide +kernel
theorem dX7_beginCatch_50 : decode cX7_beginCatch 50 = .ok (.iconst 0, 1) := by decide +kernel
theorem dX7_beginCatch_51 : decode cX7_beginCatch 51 = .ok (.istore_n 3, 1) := by decide +kernel
theorem dX7_beginCatch_52 : decode cX7_beginCatch 52 = .ok (.iload_n 3, 1) := by decide +kernel
theorem dX7_beginCatch_53 : decode cX7_beginCatch 53 = .ok (.sipush 900, 3) := by decide +kernel
theorem dX7_beginCatch_56 : decode cX7_beginCatch 56 = .ok (.if_icmp .ge 24, 3) := by decide +kernel
theorem dX7_beginCatch_59 : decode cX7_beginCatch 59 = .ok (.aload_n 0, 1) := by decide +kernel
theorem dX7_beginCatch_60 : decode cX7_beginCatch 60 = .ok (.bipush 124, 2) := by decide +kernel
theorem dX7_beginCatch_62 : decode cX7_beginCatch 62 = .ok (.invokevirtual 205, 3) := by decide +kernel
theorem dX7_beginCatch_65 : decode cX7_beginCatch 65 = .ok (.ifCond .eq 15, 3) := by decide +kernel
theorem dX7_beginCatch_68 : decode cX7_beginCatch 68 = .ok (.aload_n 0, 1) := by decide +kernel
theorem dX7_beginCatch_69 : decode cX7_beginCatch 69 = .ok (.aload_n 1, 1) := by decide +kernel
theorem dX7_beginCatch_70 : decode cX7_beginCatch 70 = .ok (.iload_n 2, 1) := by decide +kernel
theorem dX7_beginCatch_71 : decode cX7_beginCatch 71 = .ok (.invokevirtual 390, 3) := by decide +kernel
theorem dX7_beginCatch_74 : decode cX7_beginCatch 74 = .ok (.iinc 3 1, 3) := by decide +kernel
theorem dX7_beginCatch_77 : decode cX7_beginCatch 77 = .ok (.goto (-25), 3) := by decide +kernel
theorem dX7_beginCatch_80 : decode cX7_beginCatch 80 = .ok (.aload_n 0, 1) := by decide +kernel
theorem dX7_beginCatch_81 : decode cX7_beginCatch 81 = .ok (.getfield 20, 3) := by decide +kernel
theorem dX7_beginCatch_84 : decode cX7_beginCatch 84 = .ok (.iconst 1, 1) := by decide +kernel
theorem dX7_beginCatch_85 : decode cX7_beginCatch 85 = .ok (.invokevirtual 41, 3) := by decide +kernel
theorem dX7_beginCatch_88 : decode cX7_beginCatch 88 = .ok (.istore_n 3, 1) := by decide +kernel
theorem dX7_beginCatch_89 : decode cX7_beginCatch 89 = .ok (.aload_n 0, 1) := by decide +kernel
theorem dX7_beginCatch_90 : decode cX7_beginCatch 90 = .ok (.getfield 29, 3) := by decide +kernel
theorem dX7_beginCatch_93 : decode cX7_beginCatch 93 = .ok (.aload_n 0, 1) := by decide +kernel
theorem dX7_beginCatch_94 : decode cX7_beginCatch 94 = .ok (.invokevirtual 217, 3) := by decide +kernel
theorem dX7_beginCatch_97 : decode cX7_beginCatch 97 = .ok (.iload_n 3, 1) := by decide +kernel
theorem dX7_beginCatch_98 : decode cX7_beginCatch 98 = .ok (.aload_n 0, 1) := by decide +kernel
theorem dX7_beginCatch_99 : decode cX7_beginCatch 99 = .ok (.getfield 68, 3) := by decide +kernel
theorem dX7_beginCatch_102 : decode cX7_beginCatch 102 = .ok (.iconst 1, 1) := by decide +kernel
theorem dX7_beginCatch_103 : decode cX7_beginCatch 103 = .ok (.isub, 1) := by decide +kernel
theorem dX7_beginCatch_104 : decode cX7_beginCatch 104 = .ok (.invokevirtual 45, 3) := by decide +kernel
theorem dX7_beginCatch_107 : decode cX7_beginCatch 107 = .ok (.aload_n 0, 1) := by decide +kernel
theorem dX7_beginCatch_108 : decode cX7_beginCatch 108 = .ok (.bipush 41, 2) := by decide +kernel
theorem dX7_beginCatch_110 : decode cX7_beginCatch 110 = .ok (.invokevirtual 318, 3) := by decide +kernel
theorem dX7_beginCatch_113 : decode cX7_beginCatch 113 = .ok (.aload_n 0, 1) := by decide +kernel
theorem dX7_beginCatch_114 : decode cX7_beginCatch 114 = .ok (.bipush 123, 2) := by decide +kernel
theorem dX7_beginCatch_116 : decode cX7_beginCatch 116 = .ok (.invokevirtual 173, 3) := by decide +kernel
theorem dX7_beginCatch_119 : decode cX7_beginCatch 119 = .ok (.aload_n 0, 1) := by decide +kernel
theorem dX7_beginCatch_120 : decode cX7_beginCatch 120 = .ok (.getfield 20, 3) := by decide +kernel
theorem dX7_beginCatch_123 : decode cX7_beginCatch 123 = .ok (.bipush 30, 2) := by decide +kernel
theorem dX7_beginCatch_125 : decode cX7_beginCatch 125 = .ok (.aload_n 1, 1) := by decide +kernel
theorem dX7_beginCatch_126 : decode cX7_beginCatch 126 = .ok (.getfield 284, 3) := by decide +kernel
theorem dX7_beginCatch_129 : decode cX7_beginCatch 129 = .ok (.invokevirtual 176, 3) := by decide +kernel
theorem dX7_beginCatch_132 : decode cX7_beginCatch 132 = .ok (.aload_n 0, 1) := by decide +kernel
theorem dX7_beginCatch_133 : decode cX7_beginCatch 133 = .ok (.getfield 20, 3) := by decide +kernel
theorem dX7_beginCatch_136 : decode cX7_beginCatch 136 = .ok (.iload_n 2, 1) := by decide +kernel
theorem dX7_beginCatch_137 : decode cX7_beginCatch 137 = .ok (.invokevirtual 158, 3) := by decide +kernel
theorem dX7_beginCatch_140 : decode cX7_beginCatch 140 = .ok (.aload_n 0, 1) := by decide +kernel
theorem dX7_beginCatch_141 : decode cX7_beginCatch 141 = .ok (.getfield 20, 3) := by decide +kernel
theorem dX7_beginCatch_144 : decode cX7_beginCatch 144 = .ok (.bipush 57, 2) := by decide +kernel
theorem dX7_beginCatch_146 : decode cX7_beginCatch 146 = .ok (.iload_n 3, 1) := by decide +kernel
theorem dX7_beginCatch_147 : decode cX7_beginCatch 147 = .ok (.invokevirtual 176, 3) := by decide +kernel
theorem dX7_beginCatch_150 : decode cX7_beginCatch 150 = .ok (.aload_n 0, 1) := by decide +kernel
theorem dX7_beginCatch_151 : decode cX7_beginCatch 151 = .ok (.iconst 1, 1) := by decide +kernel
theorem dX7_beginCatch_152 : decode cX7_beginCatch 152 = .ok (.putfield 61, 3) := by decide +kernel
theorem dX7_beginCatch_155 : decode cX7_beginCatch 155 = .ok (.return_, 1) := by decide +kernel
theorem dX7_caughtKind_0 : decode cX7_caughtKind 0 = .ok (.aload_n 0, 1) := by decide +kernel
theorem dX7_caughtKind_1 : decode cX7_caughtKind 1 = .ok (.iconst 5, 1) := by decide +kernel
theorem dX7_caughtKind_2 : decode cX7_caughtKind 2 = .ok (.invokevirtual 110, 3) := by decide +kernel
theorem dX7_caughtKind_5 : decode cX7_caughtKind 5 = .ok (.ifCond .ne 8, 3) := by decide +kernel
theorem dX7_caughtKind_8 : decode cX7_caughtKind 8 = .ok (.aload_n 0, 1) := by decide +kernel
theorem dX7_caughtKind_9 : decode cX7_caughtKind 9 = .ok (.invokevirtual 161, 3) := by decide +kernel
theorem dX7_caughtKind_12 : decode cX7_caughtKind 12 = .ok (.return_, 1) := by decide +kernel
theorem dX7_caughtKind_13 : decode cX7_caughtKind 13 = .ok (.aload_n 0, 1) := by decide +kernel
theorem dX7_caughtKind_14 : decode cX7_caughtKind 14 = .ok (.getfield 71, 3) := by decide +kernel
theorem dX7_caughtKind_17 : decode cX7_caughtKind 17 = .ok (.getfield 297, 3) := by decide +kernel
theorem dX7_caughtKind_20 : decode cX7_caughtKind 20 = .ok (.istore_n 3, 1) := by decide +kernel
theorem dX7_caughtKind_21 : decode cX7_caughtKind 21 = .ok (.aload_n 0, 1) := by decide +kernel
theorem dX7_caughtKind_22 : decode cX7_caughtKind 22 = .ok (.getfield 300, 3) := by decide +kernel
theorem dX7_caughtKind_25 : decode cX7_caughtKind 25 = .ok (.iload_n 3, 1) := by decide +kernel
theorem dX7_caughtKind_26 : decode cX7_caughtKind 26 = .ok (.invokevirtual 304, 3) := by decide +kernel
theorem dX7_caughtKind_29 : decode cX7_caughtKind 29 = .ok (.ifCond .ne 15, 3) := by decide +kernel
theorem dX7_caughtKind_32 : decode cX7_caughtKind 32 = .ok (.aload_n 0, 1) := by decide +kernel
theorem dX7_caughtKind_33 : decode cX7_caughtKind 33 = .ok (.iconst 3, 1) := by decide +kernel
theorem dX7_caughtKind_34 : decode cX7_caughtKind 34 = .ok (.aload_n 0, 1) := by decide +kernel
theorem dX7_caughtKind_35 : decode cX7_caughtKind 35 = .ok (.getfield 71, 3) := by decide +kernel
theorem dX7_caughtKind_38 : decode cX7_caughtKind 38 = .ok (.getfield 143, 3) := by decide +kernel
theorem dX7_caughtKind_41 : decode cX7_caughtKind 41 = .ok (.invokevirtual 88, 3) := by decide +kernel
theorem dX7_caughtKind_44 : decode cX7_caughtKind 44 = .ok (.iconst 0, 1) := by decide +kernel
theorem dX7_caughtKind_45 : decode cX7_caughtKind 45 = .ok (.istore 4, 2) := by decide +kernel
theorem dX7_caughtKind_47 : decode cX7_caughtKind 47 = .ok (.iload 4, 2) := by decide +kernel
theorem dX7_caughtKind_49 : decode cX7_caughtKind 49 = .ok (.bipush 12, 2) := by decide +kernel
theorem dX7_caughtKind_51 : decode cX7_caughtKind 51 = .ok (.if_icmp .ge 48, 3) := by decide +kernel
theorem dX7_caughtKind_54 : decode cX7_caughtKind 54 = .ok (.aload_n 1, 1) := by decide +kernel
theorem dX7_caughtKind_55 : decode cX7_caughtKind 55 = .ok (.getfield 394, 3) := by decide +kernel
theorem dX7_caughtKind_58 : decode cX7_caughtKind 58 = .ok (.iload 4, 2) := by decide +kernel
theorem dX7_caughtKind_60 : decode cX7_caughtKind 60 = .ok (.ishr, 1) := by decide +kernel
theorem dX7_caughtKind_61 : decode cX7_caughtKind 61 = .ok (.iconst 1, 1) := by decide +kernel
theorem dX7_caughtKind_62 : decode cX7_caughtKind 62 = .ok (.iand, 1) := by decide +kernel
theorem dX7_caughtKind_63 : decode cX7_caughtKind 63 = .ok (.iconst 1, 1) := by decide +kernel
theorem dX7_caughtKind_64 : decode cX7_caughtKind 64 = .ok (.if_icmp .ne 29, 3) := by decide +kernel
theorem dX7_caughtKind_67 : decode cX7_caughtKind 67 = .ok (.aload_n 0, 1) := by decide +kernel
theorem dX7_caughtKind_68 : decode cX7_caughtKind 68 = .ok (.getfield 300, 3) := by decide +kernel
theorem dX7_caughtKind_71 : decode cX7_caughtKind 71 = .ok (.iload_n 3, 1) := by decide +kernel
theorem dX7_caughtKind_72 : decode cX7_caughtKind 72 = .ok (.iload 4, 2) := by decide +kernel
theorem dX7_caughtKind_74 : decode cX7_caughtKind 74 = .ok (.invokevirtual 397, 3) := by decide +kernel
theorem dX7_caughtKind_77 : decode cX7_caughtKind 77 = .ok (.ifCond .eq 16, 3) := by decide +kernel
theorem dX7_caughtKind_80 : decode cX7_caughtKind 80 = .ok (.aload_n 0, 1) := by decide +kernel
theorem dX7_caughtKind_81 : decode cX7_caughtKind 81 = .ok (.bipush 6, 2) := by decide +kernel
theorem dX7_caughtKind_83 : decode cX7_caughtKind 83 = .ok (.aload_n 0, 1) := by decide +kernel
theorem dX7_caughtKind_84 : decode cX7_caughtKind 84 = .ok (.getfield 71, 3) := by decide +kernel
theorem dX7_caughtKind_87 : decode cX7_caughtKind 87 = .ok (.getfield 143, 3) := by decide +kernel
theorem dX7_caughtKind_90 : decode cX7_caughtKind 90 = .ok (.invokevirtual 88, 3) := by decide +kernel
theorem dX7_caughtKind_93 : decode cX7_caughtKind 93 = .ok (.iinc 4 1, 3) := by decide +kernel
theorem dX7_caughtKind_96 : decode cX7_caughtKind 96 = .ok (.goto (-49), 3) := by decide +kernel
theorem dX7_caughtKind_99 : decode cX7_caughtKind 99 = .ok (.aload_n 1, 1) := by decide +kernel
theorem dX7_caughtKind_100 : decode cX7_caughtKind 100 = .ok (.dup, 1) := by decide +kernel
theorem dX7_caughtKind_101 : decode cX7_caughtKind 101 = .ok (.getfield 394, 3) := by decide +kernel
theorem dX7_caughtKind_104 : decode cX7_caughtKind 104 = .ok (.iconst 1, 1) := by decide +kernel
theorem dX7_caughtKind_105 : decode cX7_caughtKind 105 = .ok (.iload_n 3, 1) := by decide +kernel
theorem dX7_caughtKind_106 : decode cX7_caughtKind 106 = .ok (.ishl, 1) := by decide +kernel
theorem dX7_caughtKind_107 : decode cX7_caughtKind 107 = .ok (.ior, 1) := by decide +kernel
theorem dX7_caughtKind_108 : decode cX7_caughtKind 108 = .ok (.putfield 394, 3) := by decide +kernel
theorem dX7_caughtKind_111 : decode cX7_caughtKind 111 = .ok (.aload_n 0, 1) := by decide +kernel
theorem dX7_caughtKind_112 : decode cX7_caughtKind 112 = .ok (.getfield 20, 3) := by decide +kernel
theorem dX7_caughtKind_115 : decode cX7_caughtKind 115 = .ok (.bipush 56, 2) := by decide +kernel
theorem dX7_caughtKind_117 : decode cX7_caughtKind 117 = .ok (.iload_n 2, 1) := by decide +kernel
theorem dX7_caughtKind_118 : decode cX7_caughtKind 118 = .ok (.bipush 16, 2) := by decide +kernel
theorem dX7_caughtKind_120 : decode cX7_caughtKind 120 = .ok (.imul, 1) := by decide +kernel
theorem dX7_caughtKind_121 : decode cX7_caughtKind 121 = .ok (.iload_n 3, 1) := by decide +kernel
theorem dX7_caughtKind_122 : decode cX7_caughtKind 122 = .ok (.iadd, 1) := by decide +kernel
theorem dX7_caughtKind_123 : decode cX7_caughtKind 123 = .ok (.invokevirtual 176, 3) := by decide +kernel
theorem dX7_caughtKind_126 : decode cX7_caughtKind 126 = .ok (.aload_n 0, 1) := by decide +kernel
theorem dX7_caughtKind_127 : decode cX7_caughtKind 127 = .ok (.getfield 71, 3) := by decide +kernel
theorem dX7_caughtKind_130 : decode cX7_caughtKind 130 = .ok (.invokevirtual 146, 3) := by decide +kernel
theorem dX7_caughtKind_133 : decode cX7_caughtKind 133 = .ok (.return_, 1) := by decide +kernel
theorem dX7_beginFinally_0 : decode cX7_beginFinally 0 = .ok (.aload_n 1, 1) := by decide +kernel
theorem dX7_beginFinally_1 : decode cX7_beginFinally 1 = .ok (.sipush 216, 3) := by decide +kernel
theorem dX7_beginFinally_4 : decode cX7_beginFinally 4 = .ok (.putfield 107, 3) := by decide +kernel
theorem dX7_beginFinally_7 : decode cX7_beginFinally 7 = .ok (.aload_n 1, 1) := by decide +kernel
theorem dX7_beginFinally_8 : decode cX7_beginFinally 8 = .ok (.aload_n 0, 1) := by decide +kernel
theorem dX7_beginFinally_9 : decode cX7_beginFinally 9 = .ok (.getfield 14, 3) := by decide +kernel
theorem dX7_beginFinally_12 : decode cX7_beginFinally 12 = .ok (.getfield 401, 3) := by decide +kernel
theorem dX7_beginFinally_15 : decode cX7_beginFinally 15 = .ok (.putfield 404, 3) := by decide +kernel
theorem dX7_beginFinally_18 : decode cX7_beginFinally 18 = .ok (.aload_n 0, 1) := by decide +kernel
theorem dX7_beginFinally_19 : decode cX7_beginFinally 19 = .ok (.getfield 71, 3) := by decide +kernel
theorem dX7_beginFinally_22 : decode cX7_beginFinally 22 = .ok (.invokevirtual 146, 3) := by decide +kernel
theorem dX7_beginFinally_25 : decode cX7_beginFinally 25 = .ok (.aload_n 0, 1) := by decide +kernel
theorem dX7_beginFinally_26 : decode cX7_beginFinally 26 = .ok (.bipush 123, 2) := by decide +kernel
theorem dX7_beginFinally_28 : decode cX7_beginFinally 28 = .ok (.invokevirtual 173, 3) := by decide +kernel
theorem dX7_beginFinally_31 : decode cX7_beginFinally 31 = .ok (.aload_n 0, 1) := by decide +kernel
theorem dX7_beginFinally_32 : decode cX7_beginFinally 32 = .ok (.getfield 20, 3) := by decide +kernel
theorem dX7_beginFinally_35 : decode cX7_beginFinally 35 = .ok (.bipush 58, 2) := by decide +kernel
theorem dX7_beginFinally_37 : decode cX7_beginFinally 37 = .ok (.iconst 0, 1) := by decide +kernel
theorem dX7_beginFinally_38 : decode cX7_beginFinally 38 = .ok (.invokevirtual 176, 3) := by decide +kernel
theorem dX7_beginFinally_41 : decode cX7_beginFinally 41 = .ok (.aload_n 0, 1) := by decide +kernel
theorem dX7_beginFinally_42 : decode cX7_beginFinally 42 = .ok (.getfield 20, 3) := by decide +kernel
theorem dX7_beginFinally_45 : decode cX7_beginFinally 45 = .ok (.aload_n 1, 1) := by decide +kernel
theorem dX7_beginFinally_46 : decode cX7_beginFinally 46 = .ok (.getfield 140, 3) := by decide +kernel
theorem dX7_beginFinally_49 : decode cX7_beginFinally 49 = .ok (.invokevirtual 158, 3) := by decide +kernel
theorem dX7_beginFinally_52 : decode cX7_beginFinally 52 = .ok (.aload_n 0, 1) := by decide +kernel
theorem dX7_beginFinally_53 : decode cX7_beginFinally 53 = .ok (.iconst 1, 1) := by decide +kernel
theorem dX7_beginFinally_54 : decode cX7_beginFinally 54 = .ok (.putfield 61, 3) := by decide +kernel
theorem dX7_beginFinally_57 : decode cX7_beginFinally 57 = .ok (.return_, 1) := by decide +kernel
theorem dX7_endFinally_0 : decode cX7_endFinally 0 = .ok (.aload_n 0, 1) := by decide +kernel
theorem dX7_endFinally_1 : decode cX7_endFinally 1 = .ok (.getfield 20, 3) := by decide +kernel
theorem dX7_endFinally_4 : decode cX7_endFinally 4 = .ok (.bipush 59, 2) := by decide +kernel
theorem dX7_endFinally_6 : decode cX7_endFinally 6 = .ok (.iconst 0, 1) := by decide +kernel
theorem dX7_endFinally_7 : decode cX7_endFinally 7 = .ok (.invokevirtual 176, 3) := by decide +kernel
theorem dX7_endFinally_10 : decode cX7_endFinally 10 = .ok (.aload_n 0, 1) := by decide +kernel
theorem dX7_endFinally_11 : decode cX7_endFinally 11 = .ok (.getfield 20, 3) := by decide +kernel
theorem dX7_endFinally_14 : decode cX7_endFinally 14 = .ok (.aload_n 1, 1) := by decide +kernel
theorem dX7_endFinally_15 : decode cX7_endFinally 15 = .ok (.getfield 196, 3) := by decide +kernel
theorem dX7_endFinally_18 : decode cX7_endFinally 18 = .ok (.invokevirtual 158, 3) := by decide +kernel
theorem dX7_endFinally_21 : decode cX7_endFinally 21 = .ok (.aload_n 0, 1) := by decide +kernel
theorem dX7_endFinally_22 : decode cX7_endFinally 22 = .ok (.getfield 61, 3) := by decide +kernel
theorem dX7_endFinally_25 : decode cX7_endFinally 25 = .ok (.ifCond .ne 18, 3) := by decide +kernel
theorem dX7_endFinally_28 : decode cX7_endFinally 28 = .ok (.aload_n 0, 1) := by decide +kernel
theorem dX7_endFinally_29 : decode cX7_endFinally 29 = .ok (.getfield 14, 3) := by decide +kernel
theorem dX7_endFinally_32 : decode cX7_endFinally 32 = .ok (.aload_n 1, 1) := by decide +kernel
theorem dX7_endFinally_33 : decode cX7_endFinally 33 = .ok (.getfield 407, 3) := by decide +kernel
theorem dX7_endFinally_36 : decode cX7_endFinally 36 = .ok (.aload_n 1, 1) := by decide +kernel
theorem dX7_endFinally_37 : decode cX7_endFinally 37 = .ok (.getfield 404, 3) := by decide +kernel
theorem dX7_endFinally_40 : decode cX7_endFinally 40 = .ok (.invokevirtual 410, 3) := by decide +kernel
theorem dX7_endFinally_43 : decode cX7_endFinally 43 = .ok (.aload_n 0, 1) := by decide +kernel
theorem dX7_endFinally_44 : decode cX7_endFinally 44 = .ok (.aload_n 0, 1) := by decide +kernel
theorem dX7_endFinally_45 : decode cX7_endFinally 45 = .ok (.getfield 61, 3) := by decide +kernel
theorem dX7_endFinally_48 : decode cX7_endFinally 48 = .ok (.ifCond .eq 14, 3) := by decide +kernel
theorem dX7_endFinally_51 : decode cX7_endFinally 51 = .ok (.aload_n 1, 1) := by decide +kernel
theorem dX7_endFinally_52 : decode cX7_endFinally 52 = .ok (.getfield 359, 3) := by decide +kernel
theorem dX7_endFinally_55 : decode cX7_endFinally 55 = .ok (.ifCond .eq 7, 3) := by decide +kernel
theorem dX7_endFinally_58 : decode cX7_endFinally 58 = .ok (.iconst 1, 1) := by decide +kernel
theorem dX7_endFinally_59 : decode cX7_endFinally 59 = .ok (.goto 4, 3) := by decide +kernel
theorem dX7_endFinally_62 : decode cX7_endFinally 62 = .ok (.iconst 0, 1) := by decide +kernel
theorem dX7_endFinally_63 : decode cX7_endFinally 63 = .ok (.putfield 61, 3) := by decide +kernel
theorem dX7_endFinally_66 : decode cX7_endFinally 66 = .ok (.aload_n 0, 1) := by decide +kernel
theorem dX7_endFinally_67 : decode cX7_endFinally 67 = .ok (.dup, 1) := by decide +kernel
theorem dX7_endFinally_68 : decode cX7_endFinally 68 = .ok (.getfield 68, 3) := by decide +kernel
theorem dX7_endFinally_71 : decode cX7_endFinally 71 = .ok (.iconst 1, 1) := by decide +kernel
theorem dX7_endFinally_72 : decode cX7_endFinally 72 = .ok (.isub, 1) := by decide +kernel
theorem dX7_endFinally_73 : decode cX7_endFinally 73 = .ok (.putfield 68, 3) := by decide +kernel
theorem dX7_endFinally_76 : decode cX7_endFinally 76 = .ok (.aload_n 0, 1) := by decide +kernel
theorem dX7_endFinally_77 : decode cX7_endFinally 77 = .ok (.getfield 14, 3) := by decide +kernel
theorem dX7_endFinally_80 : decode cX7_endFinally 80 = .ok (.invokevirtual 369, 3) := by decide +kernel
theorem dX7_endFinally_83 : decode cX7_endFinally 83 = .ok (.return_, 1) := by decide +kernel
theorem dX7_armBlock_0 : decode cX7_armBlock 0 = .ok (.aload_n 0, 1) := by decide +kernel
theorem dX7_armBlock_1 : decode cX7_armBlock 1 = .ok (.getfield 61, 3) := by decide +kernel
theorem dX7_armBlock_4 : decode cX7_armBlock 4 = .ok (.istore_n 2, 1) := by decide +kernel
theorem dX7_armBlock_5 : decode cX7_armBlock 5 = .ok (.aload_n 0, 1) := by decide +kernel
theorem dX7_armBlock_6 : decode cX7_armBlock 6 = .ok (.getfield 14, 3) := by decide +kernel
theorem dX7_armBlock_9 : decode cX7_armBlock 9 = .ok (.getfield 92, 3) := by decide +kernel
theorem dX7_armBlock_12 : decode cX7_armBlock 12 = .ok (.istore_n 3, 1) := by decide +kernel
theorem dX7_armBlock_13 : decode cX7_armBlock 13 = .ok (.aload_n 0, 1) := by decide +kernel
theorem dX7_armBlock_14 : decode cX7_armBlock 14 = .ok (.bipush 123, 2) := by decide +kernel
theorem dX7_armBlock_16 : decode cX7_armBlock 16 = .ok (.invokevirtual 173, 3) := by decide +kernel
theorem dX7_armBlock_19 : decode cX7_armBlock 19 = .ok (.aload_n 0, 1) := by decide +kernel
theorem dX7_armBlock_20 : decode cX7_armBlock 20 = .ok (.getfield 14, 3) := by decide +kernel
theorem dX7_armBlock_23 : decode cX7_armBlock 23 = .ok (.sipush 302, 3) := by decide +kernel
theorem dX7_armBlock_26 : decode cX7_armBlock 26 = .ok (.aload_n 0, 1) := by decide +kernel
theorem dX7_armBlock_27 : decode cX7_armBlock 27 = .ok (.getfield 68, 3) := by decide +kernel
theorem dX7_armBlock_30 : decode cX7_armBlock 30 = .ok (.aload_n 0, 1) := by decide +kernel
theorem dX7_armBlock_31 : decode cX7_armBlock 31 = .ok (.getfield 29, 3) := by decide +kernel
theorem dX7_armBlock_34 : decode cX7_armBlock 34 = .ok (.getfield 33, 3) := by decide +kernel
theorem dX7_armBlock_37 : decode cX7_armBlock 37 = .ok (.invokevirtual 81, 3) := by decide +kernel
theorem dX7_armBlock_40 : decode cX7_armBlock 40 = .ok (.astore 4, 2) := by decide +kernel
theorem dX7_armBlock_42 : decode cX7_armBlock 42 = .ok (.aload 4, 2) := by decide +kernel
theorem dX7_armBlock_44 : decode cX7_armBlock 44 = .ok (.iload_n 1, 1) := by decide +kernel
theorem dX7_armBlock_45 : decode cX7_armBlock 45 = .ok (.putfield 196, 3) := by decide +kernel
theorem dX7_armBlock_48 : decode cX7_armBlock 48 = .ok (.aload 4, 2) := by decide +kernel
theorem dX7_armBlock_50 : decode cX7_armBlock 50 = .ok (.aload_n 0, 1) := by decide +kernel
theorem dX7_armBlock_51 : decode cX7_armBlock 51 = .ok (.getfield 14, 3) := by decide +kernel
theorem dX7_armBlock_54 : decode cX7_armBlock 54 = .ok (.getfield 294, 3) := by decide +kernel
theorem dX7_armBlock_57 : decode cX7_armBlock 57 = .ok (.putfield 413, 3) := by decide +kernel
theorem dX7_armBlock_60 : decode cX7_armBlock 60 = .ok (.aload_n 0, 1) := by decide +kernel
theorem dX7_armBlock_61 : decode cX7_armBlock 61 = .ok (.getfield 14, 3) := by decide +kernel
theorem dX7_armBlock_64 : decode cX7_armBlock 64 = .ok (.iload_n 3, 1) := by decide +kernel
theorem dX7_armBlock_65 : decode cX7_armBlock 65 = .ok (.putfield 294, 3) := by decide +kernel
theorem dX7_armBlock_68 : decode cX7_armBlock 68 = .ok (.aload_n 0, 1) := by decide +kernel
theorem dX7_armBlock_69 : decode cX7_armBlock 69 = .ok (.iconst 1, 1) := by decide +kernel
theorem dX7_armBlock_70 : decode cX7_armBlock 70 = .ok (.putfield 61, 3) := by decide +kernel
theorem dX7_armBlock_73 : decode cX7_armBlock 73 = .ok (.aload_n 0, 1) := by decide +kernel
theorem dX7_armBlock_74 : decode cX7_armBlock 74 = .ok (.iload_n 3, 1) := by decide +kernel
theorem dX7_armBlock_75 : decode cX7_armBlock 75 = .ok (.invokevirtual 85, 3) := by decide +kernel
theorem dX7_armBlock_78 : decode cX7_armBlock 78 = .ok (.aload_n 0, 1) := by decide +kernel
theorem dX7_armBlock_79 : decode cX7_armBlock 79 = .ok (.getfield 14, 3) := by decide +kernel
theorem dX7_armBlock_82 : decode cX7_armBlock 82 = .ok (.aload 4, 2) := by decide +kernel
theorem dX7_armBlock_84 : decode cX7_armBlock 84 = .ok (.getfield 413, 3) := by decide +kernel
theorem dX7_armBlock_87 : decode cX7_armBlock 87 = .ok (.putfield 294, 3) := by decide +kernel
theorem dX7_armBlock_90 : decode cX7_armBlock 90 = .ok (.aload_n 0, 1) := by decide +kernel
theorem dX7_armBlock_91 : decode cX7_armBlock 91 = .ok (.iload_n 2, 1) := by decide +kernel
theorem dX7_armBlock_92 : decode cX7_armBlock 92 = .ok (.putfield 61, 3) := by decide +kernel
theorem dX7_armBlock_95 : decode cX7_armBlock 95 = .ok (.return_, 1) := by decide +kernel
theorem dX8_init_0 : decode cX8_init 0 = .ok (.aload_n 0, 1) := by decide +kernel
theorem dX8_init_1 : decode cX8_init 1 = .ok (.invokespecial 3, 3) := by decide +kernel
theorem dX8_init_4 : decode cX8_init 4 = .ok (.aload_n 0, 1) := by decide +kernel
theorem dX8_init_5 : decode cX8_init 5 = .ok (.bipush 8, 2) := by decide +kernel
theorem dX8_init_7 : decode cX8_init 7 = .ok (.newarray .int, 2) := by decide +kernel
theorem dX8_init_9 : decode cX8_init 9 = .ok (.putfield 9, 3) := by decide +kernel
theorem dX8_init_12 : decode cX8_init 12 = .ok (.aload_n 0, 1) := by decide +kernel
theorem dX8_init_13 : decode cX8_init 13 = .ok (.bipush 8, 2) := by decide +kernel
theorem dX8_init_15 : decode cX8_init 15 = .ok (.newarray .int, 2) := by decide +kernel
theorem dX8_init_17 : decode cX8_init 17 = .ok (.putfield 15, 3) := by decide +kernel
theorem dX8_init_20 : decode cX8_init 20 = .ok (.return_, 1) := by decide +kernel
theorem dX8_suppress_0 : decode cX8_suppress 0 = .ok (.aload_n 0, 1) := by decide +kernel
theorem dX8_suppress_1 : decode cX8_suppress 1 = .ok (.getfield 18, 3) := by decide +kernel
theorem dX8_suppress_4 : decode cX8_suppress 4 = .ok (.bipush 8, 2) := by decide +kernel
theorem dX8_suppress_6 : decode cX8_suppress 6 = .ok (.if_icmp .ge 37, 3) := by decide +kernel
theorem dX8_suppress_9 : decode cX8_suppress 9 = .ok (.aload_n 0, 1) := by decide +kernel
theorem dX8_suppress_10 : decode cX8_suppress 10 = .ok (.getfield 9, 3) := by decide +kernel
theorem dX8_suppress_13 : decode cX8_suppress 13 = .ok (.aload_n 0, 1) := by decide +kernel
theorem dX8_suppress_14 : decode cX8_suppress 14 = .ok (.getfield 18, 3) := by decide +kernel
theorem dX8_suppress_17 : decode cX8_suppress 17 = .ok (.iload_n 1, 1) := by decide +kernel
theorem dX8_suppress_18 : decode cX8_suppress 18 = .ok (.invokestatic 22, 3) := by decide +kernel
theorem dX8_suppress_21 : decode cX8_suppress 21 = .ok (.aload_n 0, 1) := by decide +kernel
theorem dX8_suppress_22 : decode cX8_suppress 22 = .ok (.getfield 15, 3) := by decide +kernel
theorem dX8_suppress_25 : decode cX8_suppress 25 = .ok (.aload_n 0, 1) := by decide +kernel
theorem dX8_suppress_26 : decode cX8_suppress 26 = .ok (.getfield 18, 3) := by decide +kernel
theorem dX8_suppress_29 : decode cX8_suppress 29 = .ok (.iload_n 2, 1) := by decide +kernel
theorem dX8_suppress_30 : decode cX8_suppress 30 = .ok (.invokestatic 22, 3) := by decide +kernel
theorem dX8_suppress_33 : decode cX8_suppress 33 = .ok (.aload_n 0, 1) := by decide +kernel
theorem dX8_suppress_34 : decode cX8_suppress 34 = .ok (.dup, 1) := by decide +kernel
theorem dX8_suppress_35 : decode cX8_suppress 35 = .ok (.getfield 18, 3) := by decide +kernel
theorem dX8_suppress_38 : decode cX8_suppress 38 = .ok (.iconst 1, 1) := by decide +kernel
theorem dX8_suppress_39 : decode cX8_suppress 39 = .ok (.iadd, 1) := by decide +kernel
theorem dX8_suppress_40 : decode cX8_suppress 40 = .ok (.putfield 18, 3) := by decide +kernel
theorem dX8_suppress_43 : decode cX8_suppress 43 = .ok (.return_, 1) := by decide +kernel
