section
theorem dX7_endList_145 : decode cX7_endList 145 = .ok (.aload_n 1, 1) := by decide +kernel
theorem dX7_endList_146 : decode cX7_endList 146 = .ok (.invokevirtual 378, 3) := by decide +kernel
theorem dX7_endList_149 : decode cX7_endList 149 = .ok (.goto 26, 3) := by decide +kernel
theorem dX7_endList_152 : decode cX7_endList 152 = .ok (.aload_n 0, 1) := by decide +kernel
theorem dX7_endList_153 : decode cX7_endList 153 = .ok (.aload_n 1, 1) := by decide +kernel
theorem dX7_endList_154 : decode cX7_endList 154 = .ok (.invokevirtual 381, 3) := by decide +kernel
theorem dX7_endList_157 : decode cX7_endList 157 = .ok (.goto 18, 3) := by decide +kernel
theorem dX7_endList_160 : decode cX7_endList 160 = .ok (.aload_n 0, 1) := by decide +kernel
theorem dX7_endList_161 : decode cX7_endList 161 = .ok (.aload_n 1, 1) := by decide +kernel
theorem dX7_endList_162 : decode cX7_endList 162 = .ok (.invokevirtual 384, 3) := by decide +kernel
theorem dX7_endList_165 : decode cX7_endList 165 = .ok (.goto 10, 3) := by decide +kernel
theorem dX7_endList_168 : decode cX7_endList 168 = .ok (.aload_n 0, 1) := by decide +kernel
theorem dX7_endList_169 : decode cX7_endList 169 = .ok (.getfield 14, 3) := by decide +kernel
theorem dX7_endList_172 : decode cX7_endList 172 = .ok (.invokevirtual 369, 3) := by decide +kernel
theorem dX7_endList_175 : decode cX7_endList 175 = .ok (.return_, 1) := by decide +kernel
theorem dX7_endLock_0 : decode cX7_endLock 0 = .ok (.aload_n 0, 1) := by decide +kernel
theorem dX7_endLock_1 : decode cX7_endLock 1 = .ok (.aload_n 1, 1) := by decide +kernel
theorem dX7_endLock_2 : decode cX7_endLock 2 = .ok (.getfield 196, 3) := by decide +kernel
theorem dX7_endLock_5 : decode cX7_endLock 5 = .ok (.aload_n 1, 1) := by decide +kernel
theorem dX7_endLock_6 : decode cX7_endLock 6 = .ok (.getfield 287, 3) := by decide +kernel
theorem dX7_endLock_9 : decode cX7_endLock 9 = .ok (.invokevirtual 288, 3) := by decide +kernel
theorem dX7_endLock_12 : decode cX7_endLock 12 = .ok (.aload_n 0, 1) := by decide +kernel
theorem dX7_endLock_13 : decode cX7_endLock 13 = .ok (.getfield 20, 3) := by decide +kernel
theorem dX7_endLock_16 : decode cX7_endLock 16 = .ok (.aload_n 1, 1) := by decide +kernel
theorem dX7_endLock_17 : decode cX7_endLock 17 = .ok (.getfield 196, 3) := by decide +kernel
theorem dX7_endLock_20 : decode cX7_endLock 20 = .ok (.invokevirtual 158, 3) := by decide +kernel
theorem dX7_endLock_23 : decode cX7_endLock 23 = .ok (.aload_n 0, 1) := by decide +kernel
theorem dX7_endLock_24 : decode cX7_endLock 24 = .ok (.dup, 1) := by decide +kernel
theorem dX7_endLock_25 : decode cX7_endLock 25 = .ok (.getfield 68, 3) := by decide +kernel
theorem dX7_endLock_28 : decode cX7_endLock 28 = .ok (.iconst 1, 1) := by decide +kernel
theorem dX7_endLock_29 : decode cX7_endLock 29 = .ok (.isub, 1) := by decide +kernel
theorem dX7_endLock_30 : decode cX7_endLock 30 = .ok (.putfield 68, 3) := by decide +kernel
theorem dX7_endLock_33 : decode cX7_endLock 33 = .ok (.aload_n 0, 1) := by decide +kernel
theorem dX7_endLock_34 : decode cX7_endLock 34 = .ok (.getfield 14, 3) := by decide +kernel
theorem dX7_endLock_37 : decode cX7_endLock 37 = .ok (.invokevirtual 369, 3) := by decide +kernel
theorem dX7_endLock_40 : decode cX7_endLock 40 = .ok (.return_, 1) := by decide +kernel
theorem dX7_endSwitch_0 : decode cX7_endSwitch 0 = .ok (.aload_n 0, 1) := by decide +kernel
theorem dX7_endSwitch_1 : decode cX7_endSwitch 1 = .ok (.getfield 20, 3) := by decide +kernel
theorem dX7_endSwitch_4 : decode cX7_endSwitch 4 = .ok (.bipush 30, 2) := by decide +kernel
theorem dX7_endSwitch_6 : decode cX7_endSwitch 6 = .ok (.aload_n 1, 1) := by decide +kernel
theorem dX7_endSwitch_7 : decode cX7_endSwitch 7 = .ok (.getfield 196, 3) := by decide +kernel
theorem dX7_endSwitch_10 : decode cX7_endSwitch 10 = .ok (.invokevirtual 176, 3) := by decide +kernel
theorem dX7_endSwitch_13 : decode cX7_endSwitch 13 = .ok (.aload_n 0, 1) := by decide +kernel
theorem dX7_endSwitch_14 : decode cX7_endSwitch 14 = .ok (.getfield 20, 3) := by decide +kernel
theorem dX7_endSwitch_17 : decode cX7_endSwitch 17 = .ok (.aload_n 1, 1) := by decide +kernel
theorem dX7_endSwitch_18 : decode cX7_endSwitch 18 = .ok (.getfield 284, 3) := by decide +kernel
theorem dX7_endSwitch_21 : decode cX7_endSwitch 21 = .ok (.invokevirtual 158, 3) := by decide +kernel
theorem dX7_endSwitch_24 : decode cX7_endSwitch 24 = .ok (.aload_n 0, 1) := by decide +kernel
theorem dX7_endSwitch_25 : decode cX7_endSwitch 25 = .ok (.getfield 20, 3) := by decide +kernel
theorem dX7_endSwitch_28 : decode cX7_endSwitch 28 = .ok (.aload_n 1, 1) := by decide +kernel
theorem dX7_endSwitch_29 : decode cX7_endSwitch 29 = .ok (.getfield 149, 3) := by decide +kernel
theorem dX7_endSwitch_32 : decode cX7_endSwitch 32 = .ok (.aload_n 1, 1) := by decide +kernel
theorem dX7_endSwitch_33 : decode cX7_endSwitch 33 = .ok (.getfield 140, 3) := by decide +kernel
theorem dX7_endSwitch_36 : decode cX7_endSwitch 36 = .ok (.ifCond .lt 10, 3) := by decide +kernel
theorem dX7_endSwitch_39 : decode cX7_endSwitch 39 = .ok (.aload_n 1, 1) := by decide +kernel
theorem dX7_endSwitch_40 : decode cX7_endSwitch 40 = .ok (.getfield 140, 3) := by decide +kernel
theorem dX7_endSwitch_43 : decode cX7_endSwitch 43 = .ok (.goto 7, 3) := by decide +kernel
theorem dX7_endSwitch_46 : decode cX7_endSwitch 46 = .ok (.aload_n 1, 1) := by decide +kernel
theorem dX7_endSwitch_47 : decode cX7_endSwitch 47 = .ok (.getfield 196, 3) := by decide +kernel
theorem dX7_endSwitch_50 : decode cX7_endSwitch 50 = .ok (.invokevirtual 387, 3) := by decide +kernel
theorem dX7_endSwitch_53 : decode cX7_endSwitch 53 = .ok (.aload_n 0, 1) := by decide +kernel
theorem dX7_endSwitch_54 : decode cX7_endSwitch 54 = .ok (.getfield 20, 3) := by decide +kernel
theorem dX7_endSwitch_57 : decode cX7_endSwitch 57 = .ok (.aload_n 1, 1) := by decide +kernel
theorem dX7_endSwitch_58 : decode cX7_endSwitch 58 = .ok (.getfield 196, 3) := by decide +kernel
theorem dX7_endSwitch_61 : decode cX7_endSwitch 61 = .ok (.invokevirtual 158, 3) := by decide +kernel
theorem dX7_endSwitch_64 : decode cX7_endSwitch 64 = .ok (.aload_n 0, 1) := by decide +kernel
theorem dX7_endSwitch_65 : decode cX7_endSwitch 65 = .ok (.aload_n 0, 1) := by decide +kernel
theorem dX7_endSwitch_66 : decode cX7_endSwitch 66 = .ok (.getfield 61, 3) := by decide +kernel
theorem dX7_endSwitch_69 : decode cX7_endSwitch 69 = .ok (.ifCond .ne 22, 3) := by decide +kernel
theorem dX7_endSwitch_72 : decode cX7_endSwitch 72 = .ok (.aload_n 1, 1) := by decide +kernel
theorem dX7_endSwitch_73 : decode cX7_endSwitch 73 = .ok (.getfield 140, 3) := by decide +kernel
theorem dX7_endSwitch_76 : decode cX7_endSwitch 76 = .ok (.ifCond .lt 15, 3) := by decide +kernel
theorem dX7_endSwitch_79 : decode cX7_endSwitch 79 = .ok (.aload_n 0, 1) := by decide +kernel
theorem dX7_endSwitch_80 : decode cX7_endSwitch 80 = .ok (.getfield 14, 3) := by decide +kernel
theorem dX7_endSwitch_83 : decode cX7_endSwitch 83 = .ok (.aload_n 1, 1) := by decide +kernel
theorem dX7_endSwitch_84 : decode cX7_endSwitch 84 = .ok (.iconst 0, 1) := by decide +kernel
theorem dX7_endSwitch_85 : decode cX7_endSwitch 85 = .ok (.invokevirtual 362, 3) := by decide +kernel
theorem dX7_endSwitch_88 : decode cX7_endSwitch 88 = .ok (.ifCond .eq 7, 3) := by decide +kernel
theorem dX7_endSwitch_91 : decode cX7_endSwitch 91 = .ok (.iconst 1, 1) := by decide +kernel
theorem dX7_endSwitch_92 : decode cX7_endSwitch 92 = .ok (.goto 4, 3) := by decide +kernel
theorem dX7_endSwitch_95 : decode cX7_endSwitch 95 = .ok (.iconst 0, 1) := by decide +kernel
theorem dX7_endSwitch_96 : decode cX7_endSwitch 96 = .ok (.putfield 61, 3) := by decide +kernel
theorem dX7_endSwitch_99 : decode cX7_endSwitch 99 = .ok (.aload_n 0, 1) := by decide +kernel
theorem dX7_endSwitch_100 : decode cX7_endSwitch 100 = .ok (.getfield 14, 3) := by decide +kernel
theorem dX7_endSwitch_103 : decode cX7_endSwitch 103 = .ok (.invokevirtual 369, 3) := by decide +kernel
theorem dX7_endSwitch_106 : decode cX7_endSwitch 106 = .ok (.return_, 1) := by decide +kernel
theorem dX7_endGuarded_0 : decode cX7_endGuarded 0 = .ok (.aload_n 0, 1) := by decide +kernel
theorem dX7_endGuarded_1 : decode cX7_endGuarded 1 = .ok (.aload_n 1, 1) := by decide +kernel
theorem dX7_endGuarded_2 : decode cX7_endGuarded 2 = .ok (.getfield 196, 3) := by decide +kernel
theorem dX7_endGuarded_5 : decode cX7_endGuarded 5 = .ok (.aload_n 1, 1) := by decide +kernel
theorem dX7_endGuarded_6 : decode cX7_endGuarded 6 = .ok (.getfield 287, 3) := by decide +kernel
theorem dX7_endGuarded_9 : decode cX7_endGuarded 9 = .ok (.invokevirtual 288, 3) := by decide +kernel
theorem dX7_endGuarded_12 : decode cX7_endGuarded 12 = .ok (.aload_n 0, 1) := by decide +kernel
theorem dX7_endGuarded_13 : decode cX7_endGuarded 13 = .ok (.getfield 20, 3) := by decide +kernel
theorem dX7_endGuarded_16 : decode cX7_endGuarded 16 = .ok (.aload_n 1, 1) := by decide +kernel
theorem dX7_endGuarded_17 : decode cX7_endGuarded 17 = .ok (.getfield 284, 3) := by decide +kernel
theorem dX7_endGuarded_20 : decode cX7_endGuarded 20 = .ok (.invokevirtual 158, 3) := by decide +kernel
theorem dX7_endGuarded_23 : decode cX7_endGuarded 23 = .ok (.aload_n 1, 1) := by decide +kernel
theorem dX7_endGuarded_24 : decode cX7_endGuarded 24 = .ok (.aload_n 1, 1) := by decide +kernel
theorem dX7_endGuarded_25 : decode cX7_endGuarded 25 = .ok (.getfield 359, 3) := by decide +kernel
theorem dX7_endGuarded_28 : decode cX7_endGuarded 28 = .ok (.ifCond .ne 10, 3) := by decide +kernel
theorem dX7_endGuarded_31 : decode cX7_endGuarded 31 = .ok (.aload_n 0, 1) := by decide +kernel
theorem dX7_endGuarded_32 : decode cX7_endGuarded 32 = .ok (.getfield 61, 3) := by decide +kernel
theorem dX7_endGuarded_35 : decode cX7_endGuarded 35 = .ok (.ifCond .eq 7, 3) := by decide +kernel
theorem dX7_endGuarded_38 : decode cX7_endGuarded 38 = .ok (.iconst 1, 1) := by decide +kernel
theorem dX7_endGuarded_39 : decode cX7_endGuarded 39 = .ok (.goto 4, 3) := by decide +kernel
theorem dX7_endGuarded_42 : decode cX7_endGuarded 42 = .ok (.iconst 0, 1) := by decide +kernel
theorem dX7_endGuarded_43 : decode cX7_endGuarded 43 = .ok (.putfield 359, 3) := by decide +kernel
theorem dX7_endGuarded_46 : decode cX7_endGuarded 46 = .ok (.aload_n 0, 1) := by decide +kernel
theorem dX7_endGuarded_47 : decode cX7_endGuarded 47 = .ok (.sipush 215, 3) := by decide +kernel
theorem dX7_endGuarded_50 : decode cX7_endGuarded 50 = .ok (.invokevirtual 110, 3) := by decide +kernel
theorem dX7_endGuarded_53 : decode cX7_endGuarded 53 = .ok (.ifCond .ne 13, 3) := by decide +kernel
theorem dX7_endGuarded_56 : decode cX7_endGuarded 56 = .ok (.aload_n 0, 1) := by decide +kernel
theorem dX7_endGuarded_57 : decode cX7_endGuarded 57 = .ok (.sipush 216, 3) := by decide +kernel
theorem dX7_endGuarded_60 : decode cX7_endGuarded 60 = .ok (.invokevirtual 110, 3) := by decide +kernel
theorem dX7_endGuarded_63 : decode cX7_endGuarded 63 = .ok (.ifCond .eq 13, 3) := by decide +kernel
theorem dX7_endGuarded_66 : decode cX7_endGuarded 66 = .ok (.aload_n 1, 1) := by decide +kernel
theorem dX7_endGuarded_67 : decode cX7_endGuarded 67 = .ok (.sipush 305, 3) := by decide +kernel
theorem dX7_endGuarded_70 : decode cX7_endGuarded 70 = .ok (.putfield 107, 3) := by decide +kernel
theorem dX7_endGuarded_73 : decode cX7_endGuarded 73 = .ok (.goto 63, 3) := by decide +kernel
theorem dX7_endGuarded_76 : decode cX7_endGuarded 76 = .ok (.aload_n 1, 1) := by decide +kernel
theorem dX7_endGuarded_77 : decode cX7_endGuarded 77 = .ok (.getfield 350, 3) := by decide +kernel
theorem dX7_endGuarded_80 : decode cX7_endGuarded 80 = .ok (.ifCond .eq 52, 3) := by decide +kernel
theorem dX7_endGuarded_83 : decode cX7_endGuarded 83 = .ok (.aload_n 0, 1) := by decide +kernel
theorem dX7_endGuarded_84 : decode cX7_endGuarded 84 = .ok (.getfield 20, 3) := by decide +kernel
theorem dX7_endGuarded_87 : decode cX7_endGuarded 87 = .ok (.bipush 58, 2) := by decide +kernel
theorem dX7_endGuarded_89 : decode cX7_endGuarded 89 = .ok (.iconst 0, 1) := by decide +kernel
theorem dX7_endGuarded_90 : decode cX7_endGuarded 90 = .ok (.invokevirtual 176, 3) := by decide +kernel
theorem dX7_endGuarded_93 : decode cX7_endGuarded 93 = .ok (.aload_n 0, 1) := by decide +kernel
theorem dX7_endGuarded_94 : decode cX7_endGuarded 94 = .ok (.getfield 20, 3) := by decide +kernel
theorem dX7_endGuarded_97 : decode cX7_endGuarded 97 = .ok (.aload_n 1, 1) := by decide +kernel
theorem dX7_endGuarded_98 : decode cX7_endGuarded 98 = .ok (.getfield 196, 3) := by decide +kernel
theorem dX7_endGuarded_101 : decode cX7_endGuarded 101 = .ok (.invokevirtual 158, 3) := by decide +kernel
theorem dX7_endGuarded_104 : decode cX7_endGuarded 104 = .ok (.aload_n 0, 1) := by decide +kernel
theorem dX7_endGuarded_105 : decode cX7_endGuarded 105 = .ok (.aload_n 1, 1) := by decide +kernel
theorem dX7_endGuarded_106 : decode cX7_endGuarded 106 = .ok (.getfield 359, 3) := by decide +kernel
theorem dX7_endGuarded_109 : decode cX7_endGuarded 109 = .ok (.putfield 61, 3) := by decide +kernel
theorem dX7_endGuarded_112 : decode cX7_endGuarded 112 = .ok (.aload_n 0, 1) := by decide +kernel
theorem dX7_endGuarded_113 : decode cX7_endGuarded 113 = .ok (.dup, 1) := by decide +kernel
theorem dX7_endGuarded_114 : decode cX7_endGuarded 114 = .ok (.getfield 68, 3) := by decide +kernel
theorem dX7_endGuarded_117 : decode cX7_endGuarded 117 = .ok (.iconst 1, 1) := by decide +kernel
theorem dX7_endGuarded_118 : decode cX7_endGuarded 118 = .ok (.isub, 1) := by decide +kernel
theorem dX7_endGuarded_119 : decode cX7_endGuarded 119 = .ok (.putfield 68, 3) := by decide +kernel
theorem dX7_endGuarded_122 : decode cX7_endGuarded 122 = .ok (.aload_n 0, 1) := by decide +kernel
theorem dX7_endGuarded_123 : decode cX7_endGuarded 123 = .ok (.getfield 14, 3) := by decide +kernel
theorem dX7_endGuarded_126 : decode cX7_endGuarded 126 = .ok (.invokevirtual 369, 3) := by decide +kernel
theorem dX7_endGuarded_129 : decode cX7_endGuarded 129 = .ok (.goto 7, 3) := by decide +kernel
theorem dX7_endGuarded_132 : decode cX7_endGuarded 132 = .ok (.aload_n 0, 1) := by decide +kernel
theorem dX7_endGuarded_133 : decode cX7_endGuarded 133 = .ok (.invokevirtual 161, 3) := by decide +kernel
theorem dX7_endGuarded_136 : decode cX7_endGuarded 136 = .ok (.return_, 1) := by decide +kernel
theorem dX7_beginCatch_0 : decode cX7_beginCatch 0 = .ok (.aload_n 0, 1) := by decide +kernel
theorem dX7_beginCatch_1 : decode cX7_beginCatch 1 = .ok (.getfield 20, 3) := by decide +kernel
theorem dX7_beginCatch_4 : decode cX7_beginCatch 4 = .ok (.invokevirtual 136, 3) := by decide +kernel
theorem dX7_beginCatch_7 : decode cX7_beginCatch 7 = .ok (.istore_n 2, 1) := by decide +kernel
theorem dX7_beginCatch_8 : decode cX7_beginCatch 8 = .ok (.aload_n 1, 1) := by decide +kernel
theorem dX7_beginCatch_9 : decode cX7_beginCatch 9 = .ok (.sipush 215, 3) := by decide +kernel
theorem dX7_beginCatch_12 : decode cX7_beginCatch 12 = .ok (.putfield 107, 3) := by decide +kernel
theorem dX7_beginCatch_15 : decode cX7_beginCatch 15 = .ok (.aload_n 1, 1) := by decide +kernel
theorem dX7_beginCatch_16 : decode cX7_beginCatch 16 = .ok (.iconst 1, 1) := by decide +kernel
theorem dX7_beginCatch_17 : decode cX7_beginCatch 17 = .ok (.putfield 350, 3) := by decide +kernel
theorem dX7_beginCatch_20 : decode cX7_beginCatch 20 = .ok (.aload_n 1, 1) := by decide +kernel
theorem dX7_beginCatch_21 : decode cX7_beginCatch 21 = .ok (.aload_n 0, 1) := by decide +kernel
theorem dX7_beginCatch_22 : decode cX7_beginCatch 22 = .ok (.getfield 20, 3) := by decide +kernel
theorem dX7_beginCatch_25 : decode cX7_beginCatch 25 = .ok (.invokevirtual 136, 3) := by decide +kernel
theorem dX7_beginCatch_28 : decode cX7_beginCatch 28 = .ok (.putfield 284, 3) := by decide +kernel
theorem dX7_beginCatch_31 : decode cX7_beginCatch 31 = .ok (.aload_n 0, 1) := by decide +kernel
theorem dX7_beginCatch_32 : decode cX7_beginCatch 32 = .ok (.getfield 71, 3) := by decide +kernel
theorem dX7_beginCatch_35 : decode cX7_beginCatch 35 = .ok (.invokevirtual 146, 3) := by decide +kernel
theorem dX7_beginCatch_38 : decode cX7_beginCatch 38 = .ok (.aload_n 0, 1) := by decide +kernel
theorem dX7_beginCatch_39 : decode cX7_beginCatch 39 = .ok (.bipush 40, 2) := by decide +kernel
theorem dX7_beginCatch_41 : decode cX7_beginCatch 41 = .ok (.invokevirtual 173, 3) := by decide +kernel
theorem dX7_beginCatch_44 : decode cX7_beginCatch 44 = .ok (.aload_n 0, 1) := by decide +kernel
theorem dX7_beginCatch_45 : decode cX7_beginCatch 45 = .ok (.aload_n 1, 1) := by decide +kernel
theorem dX7_beginCatch_46 : decode cX7_beginCatch 46 = .ok (.iload_n 2, 1) := by decide +kernel
theorem dX7_beginCatch_47 : decode cX7_beginCatch 47 = .ok (.invokevirtual 390, 3) := by decide +kernel
theorem dX7_beginCatch_50 : decode cX7_beginCatch 50 = .ok (.iconst 0, 1) := by decide +kernel
theorem dX7_beginCatch_51 : decode cX7_beginCatch 51 = .ok (.istore_n 3, 1) := by decide +kernel
theorem dX7_beginCatch_52 : decode cX7_beginCatch 52 = .ok (.iload_n 3, 1) := by decide +kernel
theorem dX7_beginCatch_53 : decode cX7_beginCatch 53 = .ok (.sipush 900, 3) := by decide +kernel
theorem dX7_beginCatch_56 : decode cX7_beginCatch 56 = .ok (.if_icmp .ge 24, 3) := by decide +kernel
theorem dX7_beginCatch_59 : decode cX7_beginCatch 59 = .ok (.aload_n 0, 1) := by decide +kernel
theorem dX7_beginCatch_60 : decode cX7_beginCatch 60 = .ok (.bipush 124, 2) := by decide +kernel
theorem dX7_beginCatch_62 : decode cX7_beginCatch 62 = .ok (.invokevirtual 205, 3) := by decide +kernel
theorem dX7_beginCatch_65 : decode cX7_beginCatch 65 = .ok (.ifCond .eq 15, 3) := by decide +kernel
theorem dX7_beginCatch_68 : decode cX7_beginCatch 68 = .ok (.aload_n 0, 1) := by decide +kernel
theorem dX7_beginCatch_69 : decode cX7_beginCatch 69 = .ok (.aload_n 1, 1) := by decide +kernel
theorem dX7_beginCatch_70 : decode cX7_beginCatch 70 = .ok (.iload_n 2, 1) := by decide +kernel
theorem dX7_beginCatch_71 : decode cX7_beginCatch 71 = .ok (.invokevirtual 390, 3) := by decide +kernel
theorem dX7_beginCatch_74 : decode cX7_beginCatch 74 = .ok (.iinc 3 1, 3) := by decide +kernel
theorem dX7_beginCatch_77 : decode cX7_beginCatch 77 = .ok (.goto (-25), 3) := by decide +kernel
theorem dX7_beginCatch_80 : decode cX7_beginCatch 80 = .ok (.aload_n 0, 1) := by decide +kernel
theorem dX7_beginCatch_81 : decode cX7_beginCatch 81 = .ok (.getfield 20, 3) := by decide +kernel
theorem dX7_beginCatch_84 : decode cX7_beginCatch 84 = .ok (.iconst 1, 1) := by decide +kernel
theorem dX7_beginCatch_85 : decode cX7_beginCatch 85 = .ok (.invokevirtual 41, 3) := by decide +kernel
theorem dX7_beginCatch_88 : decode cX7_beginCatch 88 = .ok (.istore_n 3, 1) := by decide +kernel
theorem dX7_beginCatch_89 : decode cX7_beginCatch 89 = .ok (.aload_n 0, 1) := by decide +kernel
theorem dX7_beginCatch_90 : decode cX7_beginCatch 90 = .ok (.getfield 29, 3) := by decide +kernel
theorem dX7_beginCatch_93 : decode cX7_beginCatch 93 = .ok (.aload_n 0, 1) := by decide +kernel
theorem dX7_beginCatch_94 : decode cX7_beginCatch 94 = .ok (.invokevirtual 217, 3) := by decide +kernel
theorem dX7_beginCatch_97 : decode cX7_beginCatch 97 = .ok (.iload_n 3, 1) := by decide +kernel
theorem dX7_beginCatch_98 : decode cX7_beginCatch 98 = .ok (.aload_n 0, 1) := by decide +kernel
theorem dX7_beginCatch_99 : decode cX7_beginCatch 99 = .ok (.getfield 68, 3) := by decide +kernel
theorem dX7_beginCatch_102 : decode cX7_beginCatch 102 = .ok (.iconst 1, 1) := by decide +kernel
theorem dX7_beginCatch_103 : decode cX7_beginCatch 103 = .ok (.isub, 1) := by decide +kernel
theorem dX7_beginCatch_104 : decode cX7_beginCatch 104 = .ok (.invokevirtual 45, 3) := by decide +kernel
theorem dX7_beginCatch_107 : decode cX7_beginCatch 107 = .ok (.aload_n 0, 1) := by decide +kernel
theorem dX7_beginCatch_108 : decode cX7_beginCatch 108 = .ok (.bipush 41, 2) := by decide +kernel
theorem dX7_beginCatch_110 : decode cX7_beginCatch 110 = .ok (.invokevirtual 318, 3) := by decide +kernel
theorem dX7_beginCatch_113 : decode cX7_beginCatch 113 = .ok (.aload_n 0, 1) := by decide +kernel
theorem dX7_beginCatch_114 : decode cX7_beginCatch 114 = .ok (.bipush 123, 2) := by decide +kernel
theorem dX7_beginCatch_116 : decode cX7_beginCatch 116 = .ok (.invokevirtual 173, 3) := by decide +kernel
theorem dX7_beginCatch_119 : decode cX7_beginCatch 119 = .ok (.aload_n 0, 1) := by decide +kernel
theorem dX7_beginCatch_120 : decode cX7_beginCatch 120 = .ok (.getfield 20, 3) := by decide +kernel
theorem dX7_beginCatch_123 : decode cX7_beginCatch 123 = .ok (.bipush 30, 2) := by decide +kernel
theorem dX7_beginCatch_125 : decode cX7_beginCatch 125 = .ok (.aload_n 1, 1) := by decide +kernel
theorem dX7_beginCatch_126 : decode cX7_beginCatch 126 = .ok (.getfield 284, 3) := by decide +kernel
theorem dX7_beginCatch_129 : decode cX7_beginCatch 129 = .ok (.invokevirtual 176, 3) := by decide +kernel
theorem dX7_beginCatch_132 : decode cX7_beginCatch 132 = .ok (.aload_n 0, 1) := by decide +kernel
theorem dX7_beginCatch_133 : decode cX7_beginCatch 133 = .ok (.getfield 20, 3) := by decide +kernel
theorem dX7_beginCatch_136 : decode cX7_beginCatch 136 = .ok (.iload_n 2, 1) := by decide +kernel
theorem dX7_beginCatch_137 : decode cX7_beginCatch 137 = .ok (.invokevirtual 158, 3) := by decide +kernel
theorem dX7_beginCatch_140 : decode cX7_beginCatch 140 = .ok (.aload_n 0, 1) := by decide +kernel
theorem dX7_beginCatch_141 : decode cX7_beginCatch 141 = .ok (.getfield 20, 3) := by decide +kernel
theorem dX7_beginCatch_144 : decode cX7_beginCatch 144 = .ok (.bipush 57, 2) := by decide +kernel
theorem dX7_beginCatch_146 : decode cX7_beginCatch 146 = .ok (.iload_n 3, 1) := by decide +kernel
theorem dX7_beginCatch_147 : decode cX7_beginCatch 147 = .ok (.invokevirtual 176, 3) := by decide +kernel
theorem dX7_beginCatch_150 : decode cX7_beginCatch 150 = .ok (.aload_n 0, 1) := by decide +kernel
theorem dX7_beginCatch_151 : decode cX7_beginCatch 151 = .ok (.iconst 1, 1) := by decide +kernel
theorem dX7_beginCatch_152 : decode cX7_beginCatch 152 = .ok (.putfield 61, 3) := by decide +kernel
theorem dX7_beginCatch_155 : decode cX7_beginCatch 155 = .ok (.return_, 1) := by decide +kernel
theorem dX7_caughtKind_0 : decode cX7_caughtKind 0 = .ok (.aload_n 0, 1) := by decide +kernel
theorem dX7_caughtKind_1 : decode cX7_caughtKind 1 = .ok (.iconst 5, 1) := by decide +kernel
theorem dX7_caughtKind_2 : decode cX7_caughtKind 2 = .ok (.invokevirtual 110, 3) := by decide +kernel
theorem dX7_caughtKind_5 : decode cX7_caughtKind 5 = .ok (.ifCond .ne 8, 3) := by decide +kernel
theorem dX7_caughtKind_8 : decode cX7_caughtKind 8 = .ok (.aload_n 0, 1) := by decide +kernel
theorem dX7_caughtKind_9 : decode cX7_caughtKind 9 = .ok (.invokevirtual 161, 3) := by decide +kernel
theorem dX7_caughtKind_12 : decode cX7_caughtKind 12 = .ok (.return_, 1) := by decide +kernel
theorem dX7_caughtKind_13 : decode cX7_caughtKind 13 = .ok (.aload_n 0, 1) := by decide +kernel
theorem dX7_caughtKind_14 : decode cX7_caughtKind 14 = .ok (.getfield 71, 3) := by decide +kernel
theorem dX7_caughtKind_17 : decode cX7_caughtKind 17 = .ok (.getfield 297, 3) := by decide +kernel
theorem dX7_caughtKind_20 : decode cX7_caughtKind 20 = .ok (.istore_n 3, 1) := by decide +kernel
theorem dX7_caughtKind_21 : decode cX7_caughtKind 21 = .ok (.aload_n 0, 1) := by decide +kernel
theorem dX7_caughtKind_22 : decode cX7_caughtKind 22 = .ok (.getfield 300, 3) := by decide +kernel
theorem dX7_caughtKind_25 : decode cX7_caughtKind 25 = .ok (.iload_n 3, 1) := by decide +kernel
theorem dX7_caughtKind_26 : decode cX7_caughtKind 26 = .ok (.invokevirtual 304, 3) := by decide +kernel
theorem dX7_caughtKind_29 : decode cX7_caughtKind 29 = .ok (.ifCond .ne 15, 3) := by decide +kernel
theorem dX7_caughtKind_32 : decode cX7_caughtKind 32 = .ok (.aload_n 0, 1) := by decide +kernel
theorem dX7_caughtKind_33 : decode cX7_caughtKind 33 = .ok (.iconst 3, 1) := by decide +kernel
theorem dX7_caughtKind_34 : decode cX7_caughtKind 34 = .ok (.aload_n 0, 1) := by decide +kernel
theorem dX7_caughtKind_35 : decode cX7_caughtKind 35 = .ok (.getfield 71, 3) := by decide +kernel
theorem dX7_caughtKind_38 : decode cX7_caughtKind 38 = .ok (.getfield 143, 3) := by decide +kernel
theorem dX7_caughtKind_41 : decode cX7_caughtKind 41 = .ok (.invokevirtual 88, 3) := by decide +kernel
theorem dX7_caughtKind_44 : decode cX7_caughtKind 44 = .ok (.iconst 0, 1) := by decide +kernel
theorem dX7_caughtKind_45 : decode cX7_caughtKind 45 = .ok (.istore 4, 2) := by decide +kernel
theorem dX7_caughtKind_47 : decode cX7_caughtKind 47 = .ok (.iload 4, 2) := by decide +kernel
theorem dX7_caughtKind_49 : decode cX7_caughtKind 49 = .ok (.bipush 12, 2) := by decide +kernel
theorem dX7_caughtKind_51 : decode cX7_caughtKind 51 = .ok (.if_icmp .ge 48, 3) := by decide +kernel
theorem dX7_caughtKind_54 : decode cX7_caughtKind 54 = .ok (.aload_n 1, 1) := by decide +kernel
theorem dX7_caughtKind_55 : decode cX7_caughtKind 55 = .ok (.getfield 394, 3) := by decide +kernel
theorem dX7_caughtKind_58 : decode cX7_caughtKind 58 = .ok (.iload 4, 2) := by decide +kernel
theorem dX7_caughtKind_60 : decode cX7_caughtKind 60 = .ok (.ishr, 1) := by decide +kernel
theorem dX7_caughtKind_61 : decode cX7_caughtKind 61 = .ok (.iconst 1, 1) := by decide +kernel
theorem dX7_caughtKind_62 : decode cX7_caughtKind 62 = .ok (.iand, 1) := by decide +kernel
theorem dX7_caughtKind_63 : decode cX7_caughtKind 63 = .ok (.iconst 1, 1) := by decide +kernel
theorem dX7_caughtKind_64 : decode cX7_caughtKind 64 = .ok (.if_icmp .ne 29, 3) := by decide +kernel
theorem dX7_caughtKind_67 : decode cX7_caughtKind 67 = .ok (.aload_n 0, 1) := by decide +kernel
theorem dX7_caughtKind_68 : decode cX7_caughtKind 68 = .ok (.getfield 300, 3) := by decide +kernel
theorem dX7_caughtKind_71 : decode cX7_caughtKind 71 = .ok (.iload_n 3, 1) := by decide +kernel
theorem dX7_caughtKind_72 : decode cX7_caughtKind 72 = .ok (.iload 4, 2) := by decide +kernel
theorem dX7_caughtKind_74 : decode cX7_caughtKind 74 = .ok (.invokevirtual 397, 3) := by decide +kernel
theorem dX7_caughtKind_77 : decode cX7_caughtKind 77 = .ok (.ifCond .eq 16, 3) := by decide +kernel
theorem dX7_caughtKind_80 : decode cX7_caughtKind 80 = .ok (.aload_n 0, 1) := by decide +kernel
theorem dX7_caughtKind_81 : decode cX7_caughtKind 81 = .ok (.bipush 6, 2) := by decide +kernel
theorem dX7_caughtKind_83 : decode cX7_caughtKind 83 = .ok (.aload_n 0, 1) := by decide +kernel
theorem dX7_caughtKind_84 : decode cX7_caughtKind 84 = .ok (.getfield 71, 3) := by decide +kernel
theorem dX7_caughtKind_87 : decode cX7_caughtKind 87 = .ok (.getfield 143, 3) := by decide +kernel
theorem dX7_caughtKind_90 : decode cX7_caughtKind 90 = .ok (.invokevirtual 88, 3) := by decide +kernel
theorem dX7_caughtKind_93 : decode cX7_caughtKind 93 = .ok (.iinc 4 1, 3) := by decide +kernel
theorem dX7_caughtKind_96 : decode cX7_caughtKind 96 = .ok (.goto (-49), 3) := by decide +kernel
theorem dX7_caughtKind_99 : decode cX7_caughtKind 99 = .ok (.aload_n 1, 1) := by decide +kernel
theorem dX7_caughtKind_100 : decode cX7_caughtKind 100 = .ok (.dup, 1) := by decide +kernel
theorem dX7_caughtKind_101 : decode cX7_caughtKind 101 = .ok (.getfield 394, 3) := by decide +kernel
theorem dX7_caughtKind_104 : decode cX7_caughtKind 104 = .ok (.iconst 1, 1) := by decide +kernel
theorem dX7_caughtKind_105 : decode cX7_caughtKind 105 = .ok (.iload_n 3, 1) := by decide +kernel
theorem dX7_caughtKind_106 : decode cX7_caughtKind 106 = .ok (.ishl, 1) := by decide +kernel
theorem dX7_caughtKind_107 : decode cX7_caughtKind 107 = .ok (.ior, 1) := by decide +kernel
theorem dX7_caughtKind_108 : decode cX7_caughtKind 108 = .ok (.putfield 394, 3) := by decide +kernel
theorem dX7_caughtKind_111 : decode cX7_caughtKind 111 = .ok (.aload_n 0, 1) := by decide +kernel
theorem dX7_caughtKind_112 : decode cX7_caughtKind 112 = .ok (.getfield 20, 3) := by decide +kernel
theorem dX7_caughtKind_115 : decode cX7_caughtKind 115 = .ok (.bipush 56, 2) := by decide +kernel
theorem dX7_caughtKind_117 : decode cX7_caughtKind 117 = .ok (.iload_n 2, 1) := by decide +kernel
theorem dX7_caughtKind_118 : decode cX7_caughtKind 118 = .ok (.bipush 16, 2) := by decide +kernel
theorem dX7_caughtKind_120 : decode cX7_caughtKind 120 = .ok (.imul, 1) := by decide +kernel
theorem dX7_caughtKind_121 : decode cX7_caughtKind 121 = .ok (.iload_n 3, 1) := by decide +kernel
theorem dX7_caughtKind_122 : decode cX7_caughtKind 122 = .ok (.iadd, 1) := by decide +kernel
theorem dX7_caughtKind_123 : decode cX7_caughtKind 123 = .ok (.invokevirtual 176, 3) := by decide +kernel
theorem dX7_caughtKind_126 : decode cX7_caughtKind 126 = .ok (.aload_n 0, 1) := by decide +kernel
theorem dX7_caughtKind_127 : decode cX7_caughtKind 127 = .ok (.getfield 71, 3) := by decide +kernel
theorem dX7_caughtKind_130 : decode cX7_caughtKind 130 = .ok (.invokevirtual 146, 3) := by decide +kernel
theorem dX7_caughtKind_133 : decode cX7_caughtKind 133 = .ok (.return_, 1) := by decide +kernel
theorem dX7_beginFinally_0 : decode cX7_beginFinally 0 = .ok (.aload_n 1, 1) := by decide +kernel
theorem dX7_beginFinally_1 : decode cX7_beginFinally 1 = .ok (.sipush 216, 3) := by decide +kernel
theorem dX7_beginFinally_4 : decode cX7_beginFinally 4 = .ok (.putfield 107, 3) := by decide +kernel
theorem dX7_beginFinally_7 : decode cX7_beginFinally 7 = .ok (.aload_n 1, 1) := by decide +kernel
theorem dX7_beginFinally_8 : decode cX7_beginFinally 8 = .ok (.aload_n 0, 1) := by decide +kernel
theorem dX7_beginFinally_9 : decode cX7_beginFinally 9 = .ok (.getfield 14, 3) := by decide +kernel
theorem dX7_beginFinally_12 : decode cX7_beginFinally 12 = .ok (.getfield 401, 3) := by decide +kernel
theorem dX7_beginFinally_15 : decode cX7_beginFinally 15 = .ok (.putfield 404, 3) := by decide +kernel
theorem dX7_beginFinally_18 : decode cX7_beginFinally 18 = .ok (.aload_n 0, 1) := by decide +kernel
theorem dX7_beginFinally_19 : decode cX7_beginFinally 19 = .ok (.getfield 71, 3) := by decide +kernel
theorem dX7_beginFinally_22 : decode cX7_beginFinally 22 = .ok (.invokevirtual 146, 3) := by decide +kernel
theorem dX7_beginFinally_25 : decode cX7_beginFinally 25 = .ok (.aload_n 0, 1) := by decide +kernel
theorem dX7_beginFinally_26 : decode cX7_beginFinally 26 = .ok (.bipush 123, 2) := by decide +kernel
theorem dX7_beginFinally_28 : decode cX7_beginFinally 28 = .ok (.invokevirtual 173, 3) := by decide +kernel
theorem dX7_beginFinally_31 : decode cX7_beginFinally 31 = .ok (.aload_n 0, 1) := by decide +kernel
theorem dX7_beginFinally_32 : decode cX7_beginFinally 32 = .ok (.getfield 20, 3) := by decide +kernel
theorem dX7_beginFinally_35 : decode cX7_beginFinally 35 = .ok (.bipush 58, 2) := by decide +kernel
theorem dX7_beginFinally_37 : decode cX7_beginFinally 37 = .ok (.iconst 0, 1) := by decide +kernel
theorem dX7_beginFinally_38 : decode cX7_beginFinally 38 = .ok (.invokevirtual 176, 3) := by decide +kernel
theorem dX7_beginFinally_41 : decode cX7_beginFinally 41 = .ok (.aload_n 0, 1) := by decide +kernel
theorem dX7_beginFinally_42 : decode cX7_beginFinally 42 = .ok (.getfield 20, 3) := by decide +kernel
theorem dX7_beginFinally_45 : decode cX7_beginFinally 45 = .ok (.aload_n 1, 1) := by decide +kernel
theorem dX7_beginFinally_46 : decode cX7_beginFinally 46 = .ok (.getfield 140, 3) := by decide +kernel
theorem dX7_beginFinally_49 : decode cX7_beginFinally 49 = .ok (.invokevirtual 158, 3) := by decide +kernel
theorem dX7_beginFinally_52 : decode cX7_beginFinally 52 = .ok (.aload_n 0, 1) := by decide +kernel
theorem dX7_beginFinally_53 : decode cX7_beginFinally 53 = .ok (.iconst 1, 1) := by decide +kernel
theorem dX7_beginFinally_54 : decode cX7_beginFinally 54 = .ok (.putfield 61, 3) := by decide +kernel
theorem dX7_beginFinally_57 : decode cX7_beginFinally 57 = .ok (.return_, 1) := by decide +kernel
theorem dX7_endFinally_0 : decode cX7_endFinally 0 = .ok (.aload_n 0, 1) := by decide +kernel
theorem dX7_endFinally_1 : decode cX7_endFinally 1 = .ok (.getfield 20, 3) := by decide +kernel
theorem dX7_endFinally_4 : decode cX7_endFinally 4 = .ok (.bipush 59, 2) := by decide +kernel
theorem dX7_endFinally_6 : decode cX7_endFinally 6 = .ok (.iconst 0, 1) := by decide +kernel
theorem dX7_endFinally_7 : decode cX7_endFinally 7 = .ok (.invokevirtual 176, 3) := by decide +kernel
theorem dX7_endFinally_10 : decode cX7_endFinally 10 = .ok (.aload_n 0, 1) := by decide +kernel
theorem dX7_endFinally_11 : decode cX7_endFinally 11 = .ok (.getfield 20, 3) := by decide +kernel
theorem dX7_endFinally_14 : decode cX7_endFinally 14 = .ok (.aload_n 1, 1) := by decide +kernel
theorem dX7_endFinally_15 : decode cX7_endFinally 15 = .ok (.getfield 196, 3) := by decide +kernel
theorem dX7_endFinally_18 : decode cX7_endFinally 18 = .ok (.invokevirtual 158, 3) := by decide +kernel
theorem dX7_endFinally_21 : decode cX7_endFinally 21 = .ok (.aload_n 0, 1) := by decide +kernel
theorem dX7_endFinally_22 : decode cX7_endFinally 22 = .ok (.getfield 61, 3) := by decide +kernel
theorem dX7_endFinally_25 : decode cX7_endFinally 25 = .ok (.ifCond .ne 18, 3) := by decide +kernel
theorem dX7_endFinally_28 : decode cX7_endFinally 28 = .ok (.aload_n 0, 1) := by decide +kernel
theorem dX7_endFinally_29 : decode cX7_endFinally 29 = .ok (.getfield 14, 3) := by decide +kernel
theorem dX7_endFinally_32 : decode cX7_endFinally 32 = .ok (.aload_n 1, 1) := by decide +kernel
theorem dX7_endFinally_33 : decode cX7_endFinally 33 = .ok (.getfield 407, 3) := by decide +kernel
theorem dX7_endFinally_36 : decode cX7_endFinally 36 = .ok (.aload_n 1, 1) := by decide +kernel
theorem dX7_endFinally_37 : decode cX7_endFinally 37 = .ok (.getfield 404, 3) := by decide +kernel
theorem dX7_endFinally_40 : decode cX7_endFinally 40 = .ok (.invokevirtual 410, 3) := by decide +kernel
theorem dX7_endFinally_43 : decode cX7_endFinally 43 = .ok (.aload_n 0, 1) := by decide +kernel
theorem dX7_endFinally_44 : decode cX7_endFinally 44 = .ok (.aload_n 0, 1) := by decide +kernel
theorem dX7_endFinally_45 : decode cX7_endFinally 45 = .ok (.getfield 61, 3) := by decide +kernel
theorem dX7_endFinally_48 : decode cX7_endFinally 48 = .ok (.ifCond .eq 14, 3) := by decide +kernel
theorem dX7_endFinally_51 : decode cX7_endFinally 51 = .ok (.aload_n 1, 1) := by decide +kernel
theorem dX7_endFinally_52 : decode cX7_endFinally 52 = .ok (.getfield 359, 3) := by decide +kernel
theorem dX7_endFinally_55 : decode cX7_endFinally 55 = .ok (.ifCond .eq 7, 3) := by decide +kernel
theorem dX7_endFinally_58 : decode cX7_endFinally 58 = .ok (.iconst 1, 1) := by decide +kernel
theorem dX7_endFinally_59 : decode cX7_endFinally 59 = .ok (.goto 4, 3) := by decide +kernel
theorem dX7_endFinally_62 : decode cX7_endFinally 62 = .ok (.iconst 0, 1) := by decide +kernel
theorem dX7_endFinally_63 : decode cX7_endFinally 63 = .ok (.putfield 61, 3) := by decide +kernel
theorem dX7_endFinally_66 : decode cX7_endFinally 66 = .ok (.aload_n 0, 1) := by decide +kernel
theorem dX7_endFinally_67 : decode cX7_endFinally 67 = .ok (.dup, 1) := by decide +kernel
theorem dX7_endFinally_68 : decode cX7_endFinally 68 = .ok (.getfield 68, 3) := by decide +kernel
theorem dX7_endFinally_71 : decode cX7_endFinally 71 = .ok (.iconst 1, 1) := by decide +kernel
theorem dX7_endFinally_72 : decode cX7_endFinally 72 = .ok (.isub, 1) := by decide +kernel
theorem dX7_endFinally_73 : decode cX7_endFinally 73 = .ok (.putfield 68, 3) := by decide +kernel
theorem dX7_endFinally_76 : decode cX7_endFinally 76 = .ok (.aload_n 0, 1) := by decide +kernel
theorem dX7_endFinally_77 : decode cX7_endFinally 77 = .ok (.getfield 14, 3) := by decide +kernel
theorem dX7_endFinally_80 : decode cX7_endFinally 80 = .ok (.invokevirtual 369, 3) := by decide +kernel
theorem dX7_endFinally_83 : decode cX7_endFinally 83 = .ok (.return_, 1) := by decide +kernel
theorem dX7_armBlock_0 : decode cX7_armBlock 0 = .ok (.aload_n 0, 1) := by decide +kernel
theorem dX7_armBlock_1 : decode cX7_armBlock 1 = .ok (.getfield 61, 3) := by decide +kernel
theorem dX7_armBlock_4 : decode cX7_armBlock 4 = .ok (.istore_n 2, 1) := by decide +kernel
theorem dX7_armBlock_5 : decode cX7_armBlock 5 = .ok (.aload_n 0, 1) := by decide +kernel
theorem dX7_armBlock_6 : decode cX7_armBlock 6 = .ok (.getfield 14, 3) := by decide +kernel
theorem dX7_armBlock_9 : decode cX7_armBlock 9 = .ok (.getfield 92, 3) := by decide +kernel
theorem dX7_armBlock_12 : decode cX7_armBlock 12 = .ok (.istore_n 3, 1) := by decide +kernel
theorem dX7_armBlock_13 : decode cX7_armBlock 13 = .ok (.aload_n 0, 1) := by decide +kernel
theorem dX7_armBlock_14 : decode cX7_armBlock 14 = .ok (.bipush 123, 2) := by decide +kernel
theorem dX7_armBlock_16 : decode cX7_armBlock 16 = .ok (.invokevirtual 173, 3) := by decide +kernel
theorem dX7_armBlock_19 : decode cX7_armBlock 19 = .ok (.aload_n 0, 1) := by decide +kernel
theorem dX7_armBlock_20 : decode cX7_armBlock 20 = .ok (.getfield 14, 3) := by decide +kernel
theorem dX7_armBlock_23 : decode cX7_armBlock 23 = .ok (.sipush 302, 3) := by decide +kernel
theorem dX7_armBlock_26 : decode cX7_armBlock 26 = .ok (.aload_n 0, 1) := by decide +kernel
theorem dX7_armBlock_27 : decode cX7_armBlock 27 = .ok (.getfield 68, 3) := by decide +kernel
theorem dX7_armBlock_30 : decode cX7_armBlock 30 = .ok (.aload_n 0, 1) := by decide +kernel
theorem dX7_armBlock_31 : decode cX7_armBlock 31 = .ok (.getfield 29, 3) := by decide +kernel
theorem dX7_armBlock_34 : decode cX7_armBlock 34 = .ok (.getfield 33, 3) := by decide +kernel
theorem dX7_armBlock_37 : decode cX7_armBlock 37 = .ok (.invokevirtual 81, 3) := by decide +kernel
theorem dX7_armBlock_40 : decode cX7_armBlock 40 = .ok (.astore 4, 2) := by decide +kernel
theorem dX7_armBlock_42 : decode cX7_armBlock 42 = .ok (.aload 4, 2) := by decide +kernel
theorem dX7_armBlock_44 : decode cX7_armBlock 44 = .ok (.iload_n 1, 1) := by decide +kernel
theorem dX7_armBlock_45 : decode cX7_armBlock 45 = .ok (.putfield 196, 3) := by decide +kernel
theorem dX7_armBlock_48 : decode cX7_armBlock 48 = .ok (.aload 4, 2) := by decide +kernel
theorem dX7_armBlock_50 : decode cX7_armBlock 50 = .ok (.aload_n 0, 1) := by decide +kernel
theorem dX7_armBlock_51 : decode cX7_armBlock 51 = .ok (.getfield 14, 3) := by decide +kernel
theorem dX7_armBlock_54 : decode cX7_armBlock 54 = .ok (.getfield 294, 3) := by decide +kernel
theorem dX7_armBlock_57 : decode cX7_armBlock 57 = .ok (.putfield 413, 3) := by decide +kernel
theorem dX7_armBlock_60 : decode cX7_armBlock 60 = .ok (.aload_n 0, 1) := by decide +kernel
theorem dX7_armBlock_61 : decode cX7_armBlock 61 = .ok (.getfield 14, 3) := by decide +kernel
theorem dX7_armBlock_64 : decode cX7_armBlock 64 = .ok (.iload_n 3, 1) := by decide +kernel
theorem dX7_armBlock_65 : decode cX7_armBlock 65 = .ok (.putfield 294, 3) := by decide +kernel
theorem dX7_armBlock_68 : decode cX7_armBlock 68 = .ok (.aload_n 0, 1) := by decide +kernel
theorem dX7_armBlock_69 : decode cX7_armBlock 69 = .ok (.iconst 1, 1) := by decide +kernel
theorem dX7_armBlock_70 : decode cX7_armBlock 70 = .ok (.putfield 61, 3) := by decide +kernel
theorem dX7_armBlock_73 : decode cX7_armBlock 73 = .ok (.aload_n 0, 1) := by decide +kernel
theorem dX7_armBlock_74 : decode cX7_armBlock 74 = .ok (.iload_n 3, 1) := by decide +kernel
theorem dX7_armBlock_75 : decode cX7_armBlock 75 = .ok (.invokevirtual 85, 3) := by decide +kernel
theorem dX7_armBlock_78 : decode cX7_armBlock 78 = .ok (.aload_n 0, 1) := by decide +kernel
theorem dX7_armBlock_79 : decode cX7_armBlock 79 = .ok (.getfield 14, 3) := by decide +kernel
theorem dX7_armBlock_82 : decode cX7_armBlock 82 = .ok (.aload 4, 2) := by decide +kernel
theorem dX7_armBlock_84 : decode cX7_armBlock 84 = .ok (.getfield 413, 3) := by decide +kernel
theorem dX7_armBlock_87 : decode cX7_armBlock 87 = .ok (.putfield 294, 3) := by decide +kernel
theorem dX7_armBlock_90 : decode cX7_armBlock 90 = .ok (.aload_n 0, 1) := by decide +kernel
theorem dX7_armBlock_91 : decode cX7_armBlock 91 = .ok (.iload_n 2, 1) := by decide +kernel
theorem dX7_armBlock_92 : decode cX7_armBlock 92 = .ok (.putfield 61, 3) := by decide +kernel
theorem dX7_armBlock_95 : decode cX7_armBlock 95 = .ok (.return_, 1) := by decide +kernel
theorem dX8_init_0 : decode cX8_init 0 = .ok (.aload_n 0, 1) := by decide +kernel
theorem dX8_init_1 : decode cX8_init 1 = .ok (.invokespecial 3, 3) := by decide +kernel
theorem dX8_init_4 : decode cX8_init 4 = .ok (.aload_n 0, 1) := by decide +kernel
theorem dX8_init_5 : decode cX8_init 5 = .ok (.bipush 8, 2) := by decide +kernel
theorem dX8_init_7 : decode cX8_init 7 = .ok (.newarray .int, 2) := by decide +kernel
theorem dX8_init_9 : decode cX8_init 9 = .ok (.putfield 9, 3) := by decide +kernel
theorem dX8_init_12 : decode cX8_init 12 = .ok (.aload_n 0, 1) := by decide +kernel
theorem dX8_init_13 : decode cX8_init 13 = .ok (.bipush 8, 2) := by decide +kernel
theorem dX8_init_15 : decode cX8_init 15 = .ok (.newarray .int, 2) := by decide +kernel
theorem dX8_init_17 : decode cX8_init 17 = .ok (.putfield 15, 3) := by decide +kernel
theorem dX8_init_20 : decode cX8_init 20 = .ok (.return_, 1) := by decide +kernel
theorem dX8_suppress_0 : decode cX8_suppress 0 = .ok (.aload_n 0, 1) := by decide +kernel
theorem dX8_suppress_1 : decode cX8_suppress 1 = .ok (.getfield 18, 3) := by decide +kernel
theorem dX8_suppress_4 : decode cX8_suppress 4 = .ok (.bipush 8, 2) := by decide +kernel
theorem dX8_suppress_6 : decode cX8_suppress 6 = .ok (.if_icmp .ge 37, 3) := by decide +kernel
theorem dX8_suppress_9 : decode cX8_suppress 9 = .ok (.aload_n 0, 1) := by decide +kernel
theorem dX8_suppress_10 : decode cX8_suppress 10 = .ok (.getfield 9, 3) := by decide +kernel
theorem dX8_suppress_13 : decode cX8_suppress 13 = .ok (.aload_n 0, 1) := by decide +kernel
theorem dX8_suppress_14 : decode cX8_suppress 14 = .ok (.getfield 18, 3) := by decide +kernel
theorem dX8_suppress_17 : decode cX8_suppress 17 = .ok (.iload_n 1, 1) := by decide +kernel
theorem dX8_suppress_18 : decode cX8_suppress 18 = .ok (.invokestatic 22, 3) := by decide +kernel
theorem dX8_suppress_21 : decode cX8_suppress 21 = .ok (.aload_n 0, 1) := by decide +kernel
theorem dX8_suppress_22 : decode cX8_suppress 22 = .ok (.getfield 15, 3) := by decide +kernel
theorem dX8_suppress_25 : decode cX8_suppress 25 = .ok (.aload_n 0, 1) := by decide +kernel
theorem dX8_suppress_26 : decode cX8_suppress 26 = .ok (.getfield 18, 3) := by decide +kernel
theorem dX8_suppress_29 : decode cX8_suppress 29 = .ok (.iload_n 2, 1) := by decide +kernel
theorem dX8_suppress_30 : decode cX8_suppress 30 = .ok (.invokestatic 22, 3) := by decide +kernel
theorem dX8_suppress_33 : decode cX8_suppress 33 = .ok (.aload_n 0, 1) := by decide +kernel
theorem dX8_suppress_34 : decode cX8_suppress 34 = .ok (.dup, 1) := by decide +kernel
theorem dX8_suppress_35 : decode cX8_suppress 35 = .ok (.getfield 18, 3) := by decide +kernel
theorem dX8_suppress_38 : decode cX8_suppress 38 = .ok (.iconst 1, 1) := by decide +kernel
theorem dX8_suppress_39 : decode cX8_suppress 39 = .ok (.iadd, 1) := by decide +kernel
theorem dX8_suppress_40 : decode cX8_suppress 40 = .ok (.putfield 18, 3) := by decide +kernel
theorem dX8_suppress_43 : decode cX8_suppress 43 = .ok (.return_, 1) := by decide +kernel
end
section
theorem dX9_start_0 : decode cX9_start 0 = .ok (.aload_n 0, 1) := by decide +kernel
theorem dX9_start_1 : decode cX9_start 1 = .ok (.iload_n 1, 1) := by decide +kernel
theorem dX9_start_2 : decode cX9_start 2 = .ok (.putfield 31, 3) := by decide +kernel
theorem dX9_start_5 : decode cX9_start 5 = .ok (.aload_n 0, 1) := by decide +kernel
theorem dX9_start_6 : decode cX9_start 6 = .ok (.iconst 0, 1) := by decide +kernel
theorem dX9_start_7 : decode cX9_start 7 = .ok (.putfield 34, 3) := by decide +kernel
theorem dX9_start_10 : decode cX9_start 10 = .ok (.aload_n 0, 1) := by decide +kernel
theorem dX9_start_11 : decode cX9_start 11 = .ok (.invokevirtual 37, 3) := by decide +kernel
theorem dX9_start_14 : decode cX9_start 14 = .ok (.return_, 1) := by decide +kernel
theorem dX9_stop_0 : decode cX9_stop 0 = .ok (.aload_n 0, 1) := by decide +kernel
theorem dX9_stop_1 : decode cX9_stop 1 = .ok (.aload_n 0, 1) := by decide +kernel
theorem dX9_stop_2 : decode cX9_stop 2 = .ok (.getfield 31, 3) := by decide +kernel
theorem dX9_stop_5 : decode cX9_stop 5 = .ok (.putfield 34, 3) := by decide +kernel
theorem dX9_stop_8 : decode cX9_stop 8 = .ok (.aload_n 0, 1) := by decide +kernel
theorem dX9_stop_9 : decode cX9_stop 9 = .ok (.iconst 0, 1) := by decide +kernel
theorem dX9_stop_10 : decode cX9_stop 10 = .ok (.putfield 40, 3) := by decide +kernel
theorem dX9_stop_13 : decode cX9_stop 13 = .ok (.return_, 1) := by decide +kernel
theorem dX9_advance_0 : decode cX9_advance 0 = .ok (.iconst 0, 1) := by decide +kernel
theorem dX9_advance_1 : decode cX9_advance 1 = .ok (.istore_n 1, 1) := by decide +kernel
theorem dX9_advance_2 : decode cX9_advance 2 = .ok (.iload_n 1, 1) := by decide +kernel
theorem dX9_advance_3 : decode cX9_advance 3 = .ok (.sipush 900, 3) := by decide +kernel
theorem dX9_advance_6 : decode cX9_advance 6 = .ok (.if_icmp .ge 45, 3) := by decide +kernel
theorem dX9_advance_9 : decode cX9_advance 9 = .ok (.aload_n 0, 1) := by decide +kernel
theorem dX9_advance_10 : decode cX9_advance 10 = .ok (.aload_n 0, 1) := by decide +kernel
theorem dX9_advance_11 : decode cX9_advance 11 = .ok (.getfield 34, 3) := by decide +kernel
theorem dX9_advance_14 : decode cX9_advance 14 = .ok (.invokevirtual 43, 3) := by decide +kernel
theorem dX9_advance_17 : decode cX9_advance 17 = .ok (.bipush 32, 2) := by decide +kernel
theorem dX9_advance_19 : decode cX9_advance 19 = .ok (.if_icmp .eq 16, 3) := by decide +kernel
theorem dX9_advance_22 : decode cX9_advance 22 = .ok (.aload_n 0, 1) := by decide +kernel
theorem dX9_advance_23 : decode cX9_advance 23 = .ok (.aload_n 0, 1) := by decide +kernel
theorem dX9_advance_24 : decode cX9_advance 24 = .ok (.getfield 34, 3) := by decide +kernel
theorem dX9_advance_27 : decode cX9_advance 27 = .ok (.invokevirtual 43, 3) := by decide +kernel
theorem dX9_advance_30 : decode cX9_advance 30 = .ok (.bipush 10, 2) := by decide +kernel
theorem dX9_advance_32 : decode cX9_advance 32 = .ok (.if_icmp .ne 19, 3) := by decide +kernel
theorem dX9_advance_35 : decode cX9_advance 35 = .ok (.aload_n 0, 1) := by decide +kernel
theorem dX9_advance_36 : decode cX9_advance 36 = .ok (.dup, 1) := by decide +kernel
theorem dX9_advance_37 : decode cX9_advance 37 = .ok (.getfield 34, 3) := by decide +kernel
theorem dX9_advance_40 : decode cX9_advance 40 = .ok (.iconst 1, 1) := by decide +kernel
theorem dX9_advance_41 : decode cX9_advance 41 = .ok (.iadd, 1) := by decide +kernel
theorem dX9_advance_42 : decode cX9_advance 42 = .ok (.putfield 34, 3) := by decide +kernel
theorem dX9_advance_45 : decode cX9_advance 45 = .ok (.iinc 1 1, 3) := by decide +kernel
theorem dX9_advance_48 : decode cX9_advance 48 = .ok (.goto (-46), 3) := by decide +kernel
theorem dX9_advance_51 : decode cX9_advance 51 = .ok (.aload_n 0, 1) := by decide +kernel
theorem dX9_advance_52 : decode cX9_advance 52 = .ok (.aload_n 0, 1) := by decide +kernel
theorem dX9_advance_53 : decode cX9_advance 53 = .ok (.getfield 34, 3) := by decide +kernel
theorem dX9_advance_56 : decode cX9_advance 56 = .ok (.putfield 47, 3) := by decide +kernel
theorem dX9_advance_59 : decode cX9_advance 59 = .ok (.aload_n 0, 1) := by decide +kernel
theorem dX9_advance_60 : decode cX9_advance 60 = .ok (.getfield 34, 3) := by decide +kernel
theorem dX9_advance_63 : decode cX9_advance 63 = .ok (.aload_n 0, 1) := by decide +kernel
theorem dX9_advance_64 : decode cX9_advance 64 = .ok (.getfield 31, 3) := by decide +kernel
theorem dX9_advance_67 : decode cX9_advance 67 = .ok (.if_icmp .lt 11, 3) := by decide +kernel
theorem dX9_advance_70 : decode cX9_advance 70 = .ok (.aload_n 0, 1) := by decide +kernel
theorem dX9_advance_71 : decode cX9_advance 71 = .ok (.iconst 0, 1) := by decide +kernel
theorem dX9_advance_72 : decode cX9_advance 72 = .ok (.putfield 40, 3) := by decide +kernel
theorem dX9_advance_75 : decode cX9_advance 75 = .ok (.goto 49, 3) := by decide +kernel
theorem dX9_advance_78 : decode cX9_advance 78 = .ok (.aload_n 0, 1) := by decide +kernel
theorem dX9_advance_79 : decode cX9_advance 79 = .ok (.aload_n 0, 1) := by decide +kernel
theorem dX9_advance_80 : decode cX9_advance 80 = .ok (.getfield 34, 3) := by decide +kernel
theorem dX9_advance_83 : decode cX9_advance 83 = .ok (.invokevirtual 43, 3) := by decide +kernel
theorem dX9_advance_86 : decode cX9_advance 86 = .ok (.invokestatic 50, 3) := by decide +kernel
theorem dX9_advance_89 : decode cX9_advance 89 = .ok (.ifCond .eq 10, 3) := by decide +kernel
theorem dX9_advance_92 : decode cX9_advance 92 = .ok (.aload_n 0, 1) := by decide +kernel
theorem dX9_advance_93 : decode cX9_advance 93 = .ok (.invokevirtual 54, 3) := by decide +kernel
theorem dX9_advance_96 : decode cX9_advance 96 = .ok (.goto 28, 3) := by decide +kernel
theorem dX9_advance_99 : decode cX9_advance 99 = .ok (.aload_n 0, 1) := by decide +kernel
theorem dX9_advance_100 : decode cX9_advance 100 = .ok (.aload_n 0, 1) := by decide +kernel
theorem dX9_advance_101 : decode cX9_advance 101 = .ok (.getfield 34, 3) := by decide +kernel
theorem dX9_advance_104 : decode cX9_advance 104 = .ok (.invokevirtual 43, 3) := by decide +kernel
theorem dX9_advance_107 : decode cX9_advance 107 = .ok (.invokestatic 57, 3) := by decide +kernel
theorem dX9_advance_110 : decode cX9_advance 110 = .ok (.ifCond .eq 10, 3) := by decide +kernel
theorem dX9_advance_113 : decode cX9_advance 113 = .ok (.aload_n 0, 1) := by decide +kernel
theorem dX9_advance_114 : decode cX9_advance 114 = .ok (.invokevirtual 60, 3) := by decide +kernel
theorem dX9_advance_117 : decode cX9_advance 117 = .ok (.goto 7, 3) := by decide +kernel
theorem dX9_advance_120 : decode cX9_advance 120 = .ok (.aload_n 0, 1) := by decide +kernel
theorem dX9_advance_121 : decode cX9_advance 121 = .ok (.invokevirtual 63, 3) := by decide +kernel
theorem dX9_advance_124 : decode cX9_advance 124 = .ok (.return_, 1) := by decide +kernel
theorem dX9_byteAt_0 : decode cX9_byteAt 0 = .ok (.iload_n 1, 1) := by decide +kernel
theorem dX9_byteAt_1 : decode cX9_byteAt 1 = .ok (.ifCond .lt 29, 3) := by decide +kernel
theorem dX9_byteAt_4 : decode cX9_byteAt 4 = .ok (.iload_n 1, 1) := by decide +kernel
theorem dX9_byteAt_5 : decode cX9_byteAt 5 = .ok (.aload_n 0, 1) := by decide +kernel
theorem dX9_byteAt_6 : decode cX9_byteAt 6 = .ok (.getfield 31, 3) := by decide +kernel
theorem dX9_byteAt_9 : decode cX9_byteAt 9 = .ok (.if_icmp .ge 21, 3) := by decide +kernel
theorem dX9_byteAt_12 : decode cX9_byteAt 12 = .ok (.iload_n 1, 1) := by decide +kernel
theorem dX9_byteAt_13 : decode cX9_byteAt 13 = .ok (.aload_n 0, 1) := by decide +kernel
theorem dX9_byteAt_14 : decode cX9_byteAt 14 = .ok (.getfield 15, 3) := by decide +kernel
theorem dX9_byteAt_17 : decode cX9_byteAt 17 = .ok (.arraylength, 1) := by decide +kernel
theorem dX9_byteAt_18 : decode cX9_byteAt 18 = .ok (.if_icmp .ge 12, 3) := by decide +kernel
theorem dX9_byteAt_21 : decode cX9_byteAt 21 = .ok (.aload_n 0, 1) := by decide +kernel
theorem dX9_byteAt_22 : decode cX9_byteAt 22 = .ok (.getfield 15, 3) := by decide +kernel
theorem dX9_byteAt_25 : decode cX9_byteAt 25 = .ok (.iload_n 1, 1) := by decide +kernel
theorem dX9_byteAt_26 : decode cX9_byteAt 26 = .ok (.iaload, 1) := by decide +kernel
theorem dX9_byteAt_27 : decode cX9_byteAt 27 = .ok (.goto 4, 3) := by decide +kernel
theorem dX9_byteAt_30 : decode cX9_byteAt 30 = .ok (.iconst (-1), 1) := by decide +kernel
theorem dX9_byteAt_31 : decode cX9_byteAt 31 = .ok (.ireturn, 1) := by decide +kernel
theorem dX9_isDigit_0 : decode cX9_isDigit 0 = .ok (.iload_n 0, 1) := by decide +kernel
theorem dX9_isDigit_1 : decode cX9_isDigit 1 = .ok (.bipush 48, 2) := by decide +kernel
theorem dX9_isDigit_3 : decode cX9_isDigit 3 = .ok (.if_icmp .lt 13, 3) := by decide +kernel
theorem dX9_isDigit_6 : decode cX9_isDigit 6 = .ok (.iload_n 0, 1) := by decide +kernel
theorem dX9_isDigit_7 : decode cX9_isDigit 7 = .ok (.bipush 57, 2) := by decide +kernel
theorem dX9_isDigit_9 : decode cX9_isDigit 9 = .ok (.if_icmp .gt 7, 3) := by decide +kernel
theorem dX9_isDigit_12 : decode cX9_isDigit 12 = .ok (.iconst 1, 1) := by decide +kernel
theorem dX9_isDigit_13 : decode cX9_isDigit 13 = .ok (.goto 4, 3) := by decide +kernel
theorem dX9_isDigit_16 : decode cX9_isDigit 16 = .ok (.iconst 0, 1) := by decide +kernel
theorem dX9_isDigit_17 : decode cX9_isDigit 17 = .ok (.ireturn, 1) := by decide +kernel
theorem dX9_isLetter_0 : decode cX9_isLetter 0 = .ok (.iload_n 0, 1) := by decide +kernel
theorem dX9_isLetter_1 : decode cX9_isLetter 1 = .ok (.bipush 97, 2) := by decide +kernel
theorem dX9_isLetter_3 : decode cX9_isLetter 3 = .ok (.if_icmp .lt 13, 3) := by decide +kernel
theorem dX9_isLetter_6 : decode cX9_isLetter 6 = .ok (.iload_n 0, 1) := by decide +kernel
theorem dX9_isLetter_7 : decode cX9_isLetter 7 = .ok (.bipush 122, 2) := by decide +kernel
theorem dX9_isLetter_9 : decode cX9_isLetter 9 = .ok (.if_icmp .gt 7, 3) := by decide +kernel
theorem dX9_isLetter_12 : decode cX9_isLetter 12 = .ok (.iconst 1, 1) := by decide +kernel
theorem dX9_isLetter_13 : decode cX9_isLetter 13 = .ok (.goto 4, 3) := by decide +kernel
theorem dX9_isLetter_16 : decode cX9_isLetter 16 = .ok (.iconst 0, 1) := by decide +kernel
theorem dX9_isLetter_17 : decode cX9_isLetter 17 = .ok (.ireturn, 1) := by decide +kernel
theorem dX9_takeNumber_0 : decode cX9_takeNumber 0 = .ok (.aload_n 0, 1) := by decide +kernel
theorem dX9_takeNumber_1 : decode cX9_takeNumber 1 = .ok (.iconst 0, 1) := by decide +kernel
theorem dX9_takeNumber_2 : decode cX9_takeNumber 2 = .ok (.putfield 66, 3) := by decide +kernel
theorem dX9_takeNumber_5 : decode cX9_takeNumber 5 = .ok (.iconst 0, 1) := by decide +kernel
theorem dX9_takeNumber_6 : decode cX9_takeNumber 6 = .ok (.istore_n 1, 1) := by decide +kernel
theorem dX9_takeNumber_7 : decode cX9_takeNumber 7 = .ok (.iload_n 1, 1) := by decide +kernel
theorem dX9_takeNumber_8 : decode cX9_takeNumber 8 = .ok (.sipush 900, 3) := by decide +kernel
theorem dX9_takeNumber_11 : decode cX9_takeNumber 11 = .ok (.if_icmp .ge 56, 3) := by decide +kernel
theorem dX9_takeNumber_14 : decode cX9_takeNumber 14 = .ok (.aload_n 0, 1) := by decide +kernel
theorem dX9_takeNumber_15 : decode cX9_takeNumber 15 = .ok (.aload_n 0, 1) := by decide +kernel
theorem dX9_takeNumber_16 : decode cX9_takeNumber 16 = .ok (.getfield 34, 3) := by decide +kernel
theorem dX9_takeNumber_19 : decode cX9_takeNumber 19 = .ok (.invokevirtual 43, 3) := by decide +kernel
theorem dX9_takeNumber_22 : decode cX9_takeNumber 22 = .ok (.invokestatic 50, 3) := by decide +kernel
theorem dX9_takeNumber_25 : decode cX9_takeNumber 25 = .ok (.ifCond .eq 42, 3) := by decide +kernel
theorem dX9_takeNumber_28 : decode cX9_takeNumber 28 = .ok (.aload_n 0, 1) := by decide +kernel
theorem dX9_takeNumber_29 : decode cX9_takeNumber 29 = .ok (.aload_n 0, 1) := by decide +kernel
theorem dX9_takeNumber_30 : decode cX9_takeNumber 30 = .ok (.getfield 66, 3) := by decide +kernel
theorem dX9_takeNumber_33 : decode cX9_takeNumber 33 = .ok (.bipush 10, 2) := by decide +kernel
theorem dX9_takeNumber_35 : decode cX9_takeNumber 35 = .ok (.imul, 1) := by decide +kernel
theorem dX9_takeNumber_36 : decode cX9_takeNumber 36 = .ok (.aload_n 0, 1) := by decide +kernel
theorem dX9_takeNumber_37 : decode cX9_takeNumber 37 = .ok (.aload_n 0, 1) := by decide +kernel
theorem dX9_takeNumber_38 : decode cX9_takeNumber 38 = .ok (.getfield 34, 3) := by decide +kernel
theorem dX9_takeNumber_41 : decode cX9_takeNumber 41 = .ok (.invokevirtual 43, 3) := by decide +kernel
theorem dX9_takeNumber_44 : decode cX9_takeNumber 44 = .ok (.iadd, 1) := by decide +kernel
theorem dX9_takeNumber_45 : decode cX9_takeNumber 45 = .ok (.bipush 48, 2) := by decide +kernel
theorem dX9_takeNumber_47 : decode cX9_takeNumber 47 = .ok (.isub, 1) := by decide +kernel
theorem dX9_takeNumber_48 : decode cX9_takeNumber 48 = .ok (.putfield 66, 3) := by decide +kernel
theorem dX9_takeNumber_51 : decode cX9_takeNumber 51 = .ok (.aload_n 0, 1) := by decide +kernel
theorem dX9_takeNumber_52 : decode cX9_takeNumber 52 = .ok (.dup, 1) := by decide +kernel
theorem dX9_takeNumber_53 : decode cX9_takeNumber 53 = .ok (.getfield 34, 3) := by decide +kernel
theorem dX9_takeNumber_56 : decode cX9_takeNumber 56 = .ok (.iconst 1, 1) := by decide +kernel
theorem dX9_takeNumber_57 : decode cX9_takeNumber 57 = .ok (.iadd, 1) := by decide +kernel
theorem dX9_takeNumber_58 : decode cX9_takeNumber 58 = .ok (.putfield 34, 3) := by decide +kernel
theorem dX9_takeNumber_61 : decode cX9_takeNumber 61 = .ok (.iinc 1 1, 3) := by decide +kernel
theorem dX9_takeNumber_64 : decode cX9_takeNumber 64 = .ok (.goto (-57), 3) := by decide +kernel
theorem dX9_takeNumber_67 : decode cX9_takeNumber 67 = .ok (.aload_n 0, 1) := by decide +kernel
theorem dX9_takeNumber_68 : decode cX9_takeNumber 68 = .ok (.aload_n 0, 1) := by decide +kernel
theorem dX9_takeNumber_69 : decode cX9_takeNumber 69 = .ok (.getfield 34, 3) := by decide +kernel
theorem dX9_takeNumber_72 : decode cX9_takeNumber 72 = .ok (.aload_n 0, 1) := by decide +kernel
theorem dX9_takeNumber_73 : decode cX9_takeNumber 73 = .ok (.getfield 47, 3) := by decide +kernel
theorem dX9_takeNumber_76 : decode cX9_takeNumber 76 = .ok (.isub, 1) := by decide +kernel
theorem dX9_takeNumber_77 : decode cX9_takeNumber 77 = .ok (.bipush 9, 2) := by decide +kernel
theorem dX9_takeNumber_79 : decode cX9_takeNumber 79 = .ok (.if_icmp .le 8, 3) := by decide +kernel
theorem dX9_takeNumber_82 : decode cX9_takeNumber 82 = .ok (.bipush 6, 2) := by decide +kernel
theorem dX9_takeNumber_84 : decode cX9_takeNumber 84 = .ok (.goto 4, 3) := by decide +kernel
theorem dX9_takeNumber_87 : decode cX9_takeNumber 87 = .ok (.iconst 1, 1) := by decide +kernel
theorem dX9_takeNumber_88 : decode cX9_takeNumber 88 = .ok (.putfield 40, 3) := by decide +kernel
theorem dX9_takeNumber_91 : decode cX9_takeNumber 91 = .ok (.return_, 1) := by decide +kernel
theorem dX9_takeRow_0 : decode cX9_takeRow 0 = .ok (.aload_n 0, 1) := by decide +kernel
theorem dX9_takeRow_1 : decode cX9_takeRow 1 = .ok (.lconst 0, 1) := by decide +kernel
theorem dX9_takeRow_2 : decode cX9_takeRow 2 = .ok (.putfield 69, 3) := by decide +kernel
theorem dX9_takeRow_5 : decode cX9_takeRow 5 = .ok (.iconst 0, 1) := by decide +kernel
theorem dX9_takeRow_6 : decode cX9_takeRow 6 = .ok (.istore_n 1, 1) := by decide +kernel
theorem dX9_takeRow_7 : decode cX9_takeRow 7 = .ok (.iload_n 1, 1) := by decide +kernel
theorem dX9_takeRow_8 : decode cX9_takeRow 8 = .ok (.sipush 900, 3) := by decide +kernel
theorem dX9_takeRow_11 : decode cX9_takeRow 11 = .ok (.if_icmp .ge 68, 3) := by decide +kernel
theorem dX9_takeRow_14 : decode cX9_takeRow 14 = .ok (.aload_n 0, 1) := by decide +kernel
theorem dX9_takeRow_15 : decode cX9_takeRow 15 = .ok (.aload_n 0, 1) := by decide +kernel
theorem dX9_takeRow_16 : decode cX9_takeRow 16 = .ok (.getfield 34, 3) := by decide +kernel
theorem dX9_takeRow_19 : decode cX9_takeRow 19 = .ok (.invokevirtual 43, 3) := by decide +kernel
theorem dX9_takeRow_22 : decode cX9_takeRow 22 = .ok (.invokestatic 50, 3) := by decide +kernel
theorem dX9_takeRow_25 : decode cX9_takeRow 25 = .ok (.ifCond .ne 17, 3) := by decide +kernel
theorem dX9_takeRow_28 : decode cX9_takeRow 28 = .ok (.aload_n 0, 1) := by decide +kernel
theorem dX9_takeRow_29 : decode cX9_takeRow 29 = .ok (.aload_n 0, 1) := by decide +kernel
theorem dX9_takeRow_30 : decode cX9_takeRow 30 = .ok (.getfield 34, 3) := by decide +kernel
theorem dX9_takeRow_33 : decode cX9_takeRow 33 = .ok (.invokevirtual 43, 3) := by decide +kernel
theorem dX9_takeRow_36 : decode cX9_takeRow 36 = .ok (.invokestatic 57, 3) := by decide +kernel
theorem dX9_takeRow_39 : decode cX9_takeRow 39 = .ok (.ifCond .eq 40, 3) := by decide +kernel
theorem dX9_takeRow_42 : decode cX9_takeRow 42 = .ok (.aload_n 0, 1) := by decide +kernel
theorem dX9_takeRow_43 : decode cX9_takeRow 43 = .ok (.aload_n 0, 1) := by decide +kernel
theorem dX9_takeRow_44 : decode cX9_takeRow 44 = .ok (.getfield 69, 3) := by decide +kernel
theorem dX9_takeRow_47 : decode cX9_takeRow 47 = .ok (.bipush 8, 2) := by decide +kernel
theorem dX9_takeRow_49 : decode cX9_takeRow 49 = .ok (.lshl, 1) := by decide +kernel
theorem dX9_takeRow_50 : decode cX9_takeRow 50 = .ok (.aload_n 0, 1) := by decide +kernel
theorem dX9_takeRow_51 : decode cX9_takeRow 51 = .ok (.aload_n 0, 1) := by decide +kernel
theorem dX9_takeRow_52 : decode cX9_takeRow 52 = .ok (.getfield 34, 3) := by decide +kernel
theorem dX9_takeRow_55 : decode cX9_takeRow 55 = .ok (.invokevirtual 43, 3) := by decide +kernel
theorem dX9_takeRow_58 : decode cX9_takeRow 58 = .ok (.i2l, 1) := by decide +kernel
theorem dX9_takeRow_59 : decode cX9_takeRow 59 = .ok (.lor, 1) := by decide +kernel
theorem dX9_takeRow_60 : decode cX9_takeRow 60 = .ok (.putfield 69, 3) := by decide +kernel
theorem dX9_takeRow_63 : decode cX9_takeRow 63 = .ok (.aload_n 0, 1) := by decide +kernel
theorem dX9_takeRow_64 : decode cX9_takeRow 64 = .ok (.dup, 1) := by decide +kernel
theorem dX9_takeRow_65 : decode cX9_takeRow 65 = .ok (.getfield 34, 3) := by decide +kernel
theorem dX9_takeRow_68 : decode cX9_takeRow 68 = .ok (.iconst 1, 1) := by decide +kernel
theorem dX9_takeRow_69 : decode cX9_takeRow 69 = .ok (.iadd, 1) := by decide +kernel
theorem dX9_takeRow_70 : decode cX9_takeRow 70 = .ok (.putfield 34, 3) := by decide +kernel
theorem dX9_takeRow_73 : decode cX9_takeRow 73 = .ok (.iinc 1 1, 3) := by decide +kernel
theorem dX9_takeRow_76 : decode cX9_takeRow 76 = .ok (.goto (-69), 3) := by decide +kernel
theorem dX9_takeRow_79 : decode cX9_takeRow 79 = .ok (.aload_n 0, 1) := by decide +kernel
theorem dX9_takeRow_80 : decode cX9_takeRow 80 = .ok (.aload_n 0, 1) := by decide +kernel
theorem dX9_takeRow_81 : decode cX9_takeRow 81 = .ok (.getfield 34, 3) := by decide +kernel
theorem dX9_takeRow_84 : decode cX9_takeRow 84 = .ok (.aload_n 0, 1) := by decide +kernel
theorem dX9_takeRow_85 : decode cX9_takeRow 85 = .ok (.getfield 47, 3) := by decide +kernel
theorem dX9_takeRow_88 : decode cX9_takeRow 88 = .ok (.isub, 1) := by decide +kernel
theorem dX9_takeRow_89 : decode cX9_takeRow 89 = .ok (.bipush 8, 2) := by decide +kernel
theorem dX9_takeRow_91 : decode cX9_takeRow 91 = .ok (.if_icmp .le 8, 3) := by decide +kernel
theorem dX9_takeRow_94 : decode cX9_takeRow 94 = .ok (.bipush 6, 2) := by decide +kernel
theorem dX9_takeRow_96 : decode cX9_takeRow 96 = .ok (.goto 16, 3) := by decide +kernel
theorem dX9_takeRow_99 : decode cX9_takeRow 99 = .ok (.aload_n 0, 1) := by decide +kernel
theorem dX9_takeRow_100 : decode cX9_takeRow 100 = .ok (.aload_n 0, 1) := by decide +kernel
theorem dX9_takeRow_101 : decode cX9_takeRow 101 = .ok (.getfield 34, 3) := by decide +kernel
theorem dX9_takeRow_104 : decode cX9_takeRow 104 = .ok (.aload_n 0, 1) := by decide +kernel
theorem dX9_takeRow_105 : decode cX9_takeRow 105 = .ok (.getfield 47, 3) := by decide +kernel
theorem dX9_takeRow_108 : decode cX9_takeRow 108 = .ok (.isub, 1) := by decide +kernel
theorem dX9_takeRow_109 : decode cX9_takeRow 109 = .ok (.invokevirtual 73, 3) := by decide +kernel
theorem dX9_takeRow_112 : decode cX9_takeRow 112 = .ok (.putfield 40, 3) := by decide +kernel
theorem dX9_takeRow_115 : decode cX9_takeRow 115 = .ok (.return_, 1) := by decide +kernel
theorem dX9_rowType_0 : decode cX9_rowType 0 = .ok (.iconst 0, 1) := by decide +kernel
theorem dX9_rowType_1 : decode cX9_rowType 1 = .ok (.istore_n 2, 1) := by decide +kernel
theorem dX9_rowType_2 : decode cX9_rowType 2 = .ok (.iload_n 2, 1) := by decide +kernel
theorem dX9_rowType_3 : decode cX9_rowType 3 = .ok (.bipush 25, 2) := by decide +kernel
theorem dX9_rowType_5 : decode cX9_rowType 5 = .ok (.if_icmp .ge 29, 3) := by decide +kernel
theorem dX9_rowType_8 : decode cX9_rowType 8 = .ok (.aload_n 0, 1) := by decide +kernel
theorem dX9_rowType_9 : decode cX9_rowType 9 = .ok (.getfield 9, 3) := by decide +kernel
theorem dX9_rowType_12 : decode cX9_rowType 12 = .ok (.iload_n 2, 1) := by decide +kernel
theorem dX9_rowType_13 : decode cX9_rowType 13 = .ok (.laload, 1) := by decide +kernel
theorem dX9_rowType_14 : decode cX9_rowType 14 = .ok (.aload_n 0, 1) := by decide +kernel
theorem dX9_rowType_15 : decode cX9_rowType 15 = .ok (.getfield 69, 3) := by decide +kernel
theorem dX9_rowType_18 : decode cX9_rowType 18 = .ok (.lcmp, 1) := by decide +kernel
theorem dX9_rowType_19 : decode cX9_rowType 19 = .ok (.ifCond .ne 9, 3) := by decide +kernel
theorem dX9_rowType_22 : decode cX9_rowType 22 = .ok (.sipush 200, 3) := by decide +kernel
theorem dX9_rowType_25 : decode cX9_rowType 25 = .ok (.iload_n 2, 1) := by decide +kernel
theorem dX9_rowType_26 : decode cX9_rowType 26 = .ok (.iadd, 1) := by decide +kernel
theorem dX9_rowType_27 : decode cX9_rowType 27 = .ok (.ireturn, 1) := by decide +kernel
theorem dX9_rowType_28 : decode cX9_rowType 28 = .ok (.iinc 2 1, 3) := by decide +kernel
theorem dX9_rowType_31 : decode cX9_rowType 31 = .ok (.goto (-29), 3) := by decide +kernel
theorem dX9_rowType_34 : decode cX9_rowType 34 = .ok (.aload_n 0, 1) := by decide +kernel
theorem dX9_rowType_35 : decode cX9_rowType 35 = .ok (.getfield 69, 3) := by decide +kernel
theorem dX9_rowType_38 : decode cX9_rowType 38 = .ok (.ldc2_w 76, 3) := by decide +kernel
theorem dX9_rowType_41 : decode cX9_rowType 41 = .ok (.land, 1) := by decide +kernel
theorem dX9_rowType_42 : decode cX9_rowType 42 = .ok (.ldc2_w 78, 3) := by decide +kernel
theorem dX9_rowType_45 : decode cX9_rowType 45 = .ok (.lsub, 1) := by decide +kernel
theorem dX9_rowType_46 : decode cX9_rowType 46 = .ok (.lstore_n 2, 1) := by decide +kernel
theorem dX9_rowType_47 : decode cX9_rowType 47 = .ok (.iload_n 1, 1) := by decide +kernel
theorem dX9_rowType_48 : decode cX9_rowType 48 = .ok (.iconst 2, 1) := by decide +kernel
theorem dX9_rowType_49 : decode cX9_rowType 49 = .ok (.if_icmp .ne 21, 3) := by decide +kernel
theorem dX9_rowType_52 : decode cX9_rowType 52 = .ok (.lload_n 2, 1) := by decide +kernel
theorem dX9_rowType_53 : decode cX9_rowType 53 = .ok (.lconst 0, 1) := by decide +kernel
theorem dX9_rowType_54 : decode cX9_rowType 54 = .ok (.lcmp, 1) := by decide +kernel
theorem dX9_rowType_55 : decode cX9_rowType 55 = .ok (.ifCond .lt 15, 3) := by decide +kernel
theorem dX9_rowType_58 : decode cX9_rowType 58 = .ok (.lload_n 2, 1) := by decide +kernel
theorem dX9_rowType_59 : decode cX9_rowType 59 = .ok (.ldc2_w 80, 3) := by decide +kernel
theorem dX9_rowType_62 : decode cX9_rowType 62 = .ok (.lcmp, 1) := by decide +kernel
theorem dX9_rowType_63 : decode cX9_rowType 63 = .ok (.ifCond .gt 7, 3) := by decide +kernel
theorem dX9_rowType_66 : decode cX9_rowType 66 = .ok (.iconst 1, 1) := by decide +kernel
theorem dX9_rowType_67 : decode cX9_rowType 67 = .ok (.goto 4, 3) := by decide +kernel
theorem dX9_rowType_70 : decode cX9_rowType 70 = .ok (.iconst 0, 1) := by decide +kernel
theorem dX9_rowType_71 : decode cX9_rowType 71 = .ok (.istore 4, 2) := by decide +kernel
theorem dX9_rowType_73 : decode cX9_rowType 73 = .ok (.iload_n 1, 1) := by decide +kernel
theorem dX9_rowType_74 : decode cX9_rowType 74 = .ok (.iconst 3, 1) := by decide +kernel
theorem dX9_rowType_75 : decode cX9_rowType 75 = .ok (.if_icmp .ne 39, 3) := by decide +kernel
theorem dX9_rowType_78 : decode cX9_rowType 78 = .ok (.lload_n 2, 1) := by decide +kernel
theorem dX9_rowType_79 : decode cX9_rowType 79 = .ok (.lconst 0, 1) := by decide +kernel
theorem dX9_rowType_80 : decode cX9_rowType 80 = .ok (.lcmp, 1) := by decide +kernel
theorem dX9_rowType_81 : decode cX9_rowType 81 = .ok (.ifCond .lt 33, 3) := by decide +kernel
theorem dX9_rowType_84 : decode cX9_rowType 84 = .ok (.lload_n 2, 1) := by decide +kernel
theorem dX9_rowType_85 : decode cX9_rowType 85 = .ok (.ldc2_w 80, 3) := by decide +kernel
theorem dX9_rowType_88 : decode cX9_rowType 88 = .ok (.lcmp, 1) := by decide +kernel
theorem dX9_rowType_89 : decode cX9_rowType 89 = .ok (.ifCond .gt 25, 3) := by decide +kernel
theorem dX9_rowType_92 : decode cX9_rowType 92 = .ok (.aload_n 0, 1) := by decide +kernel
theorem dX9_rowType_93 : decode cX9_rowType 93 = .ok (.getfield 69, 3) := by decide +kernel
theorem dX9_rowType_96 : decode cX9_rowType 96 = .ok (.bipush 8, 2) := by decide +kernel
theorem dX9_rowType_98 : decode cX9_rowType 98 = .ok (.lshr, 1) := by decide +kernel
theorem dX9_rowType_99 : decode cX9_rowType 99 = .ok (.ldc2_w 76, 3) := by decide +kernel
theorem dX9_rowType_102 : decode cX9_rowType 102 = .ok (.land, 1) := by decide +kernel
theorem dX9_rowType_103 : decode cX9_rowType 103 = .ok (.ldc2_w 82, 3) := by decide +kernel
theorem dX9_rowType_106 : decode cX9_rowType 106 = .ok (.lcmp, 1) := by decide +kernel
theorem dX9_rowType_107 : decode cX9_rowType 107 = .ok (.ifCond .ne 7, 3) := by decide +kernel
theorem dX9_rowType_110 : decode cX9_rowType 110 = .ok (.iconst 1, 1) := by decide +kernel
theorem dX9_rowType_111 : decode cX9_rowType 111 = .ok (.goto 4, 3) := by decide +kernel
theorem dX9_rowType_114 : decode cX9_rowType 114 = .ok (.iconst 0, 1) := by decide +kernel
theorem dX9_rowType_115 : decode cX9_rowType 115 = .ok (.istore 5, 2) := by decide +kernel
theorem dX9_rowType_117 : decode cX9_rowType 117 = .ok (.iload 4, 2) := by decide +kernel
theorem dX9_rowType_119 : decode cX9_rowType 119 = .ok (.ifCond .ne 10, 3) := by decide +kernel
theorem dX9_rowType_122 : decode cX9_rowType 122 = .ok (.iload 5, 2) := by decide +kernel
theorem dX9_rowType_124 : decode cX9_rowType 124 = .ok (.ifCond .ne 5, 3) := by decide +kernel
theorem dX9_rowType_127 : decode cX9_rowType 127 = .ok (.iconst 2, 1) := by decide +kernel
theorem dX9_rowType_128 : decode cX9_rowType 128 = .ok (.ireturn, 1) := by decide +kernel
theorem dX9_rowType_129 : decode cX9_rowType 129 = .ok (.iload 4, 2) := by decide +kernel
theorem dX9_rowType_131 : decode cX9_rowType 131 = .ok (.ifCond .eq 13, 3) := by decide +kernel
theorem dX9_rowType_134 : decode cX9_rowType 134 = .ok (.aload_n 0, 1) := by decide +kernel
theorem dX9_rowType_135 : decode cX9_rowType 135 = .ok (.getfield 69, 3) := by decide +kernel
theorem dX9_rowType_138 : decode cX9_rowType 138 = .ok (.bipush 8, 2) := by decide +kernel
theorem dX9_rowType_140 : decode cX9_rowType 140 = .ok (.lshr, 1) := by decide +kernel
theorem dX9_rowType_141 : decode cX9_rowType 141 = .ok (.goto 10, 3) := by decide +kernel
theorem dX9_rowType_144 : decode cX9_rowType 144 = .ok (.aload_n 0, 1) := by decide +kernel
theorem dX9_rowType_145 : decode cX9_rowType 145 = .ok (.getfield 69, 3) := by decide +kernel
theorem dX9_rowType_148 : decode cX9_rowType 148 = .ok (.bipush 16, 2) := by decide +kernel
theorem dX9_rowType_150 : decode cX9_rowType 150 = .ok (.lshr, 1) := by decide +kernel
theorem dX9_rowType_151 : decode cX9_rowType 151 = .ok (.lstore 6, 2) := by decide +kernel
theorem dX9_rowType_153 : decode cX9_rowType 153 = .ok (.aload_n 0, 1) := by decide +kernel
theorem dX9_rowType_154 : decode cX9_rowType 154 = .ok (.lload_n 2, 1) := by decide +kernel
theorem dX9_rowType_155 : decode cX9_rowType 155 = .ok (.l2i, 1) := by decide +kernel
theorem dX9_rowType_156 : decode cX9_rowType 156 = .ok (.iload 4, 2) := by decide +kernel
theorem dX9_rowType_158 : decode cX9_rowType 158 = .ok (.ifCond .eq 7, 3) := by decide +kernel
theorem dX9_rowType_161 : decode cX9_rowType 161 = .ok (.iconst 0, 1) := by decide +kernel
theorem dX9_rowType_162 : decode cX9_rowType 162 = .ok (.goto 5, 3) := by decide +kernel
theorem dX9_rowType_165 : decode cX9_rowType 165 = .ok (.bipush 10, 2) := by decide +kernel
theorem dX9_rowType_167 : decode cX9_rowType 167 = .ok (.iadd, 1) := by decide +kernel
theorem dX9_rowType_168 : decode cX9_rowType 168 = .ok (.putfield 66, 3) := by decide +kernel
theorem dX9_rowType_171 : decode cX9_rowType 171 = .ok (.lload 6, 2) := by decide +kernel
theorem dX9_rowType_173 : decode cX9_rowType 173 = .ok (.ldc2_w 84, 3) := by decide +kernel
theorem dX9_rowType_176 : decode cX9_rowType 176 = .ok (.lcmp, 1) := by decide +kernel
theorem dX9_rowType_177 : decode cX9_rowType 177 = .ok (.ifCond .ne 18, 3) := by decide +kernel
theorem dX9_rowType_180 : decode cX9_rowType 180 = .ok (.aload_n 0, 1) := by decide +kernel
theorem dX9_rowType_181 : decode cX9_rowType 181 = .ok (.getfield 66, 3) := by decide +kernel
theorem dX9_rowType_184 : decode cX9_rowType 184 = .ok (.bipush 12, 2) := by decide +kernel
theorem dX9_rowType_186 : decode cX9_rowType 186 = .ok (.if_icmp .ge 7, 3) := by decide +kernel
theorem dX9_rowType_189 : decode cX9_rowType 189 = .ok (.iconst 5, 1) := by decide +kernel
theorem dX9_rowType_190 : decode cX9_rowType 190 = .ok (.goto 4, 3) := by decide +kernel
theorem dX9_rowType_193 : decode cX9_rowType 193 = .ok (.iconst 2, 1) := by decide +kernel
theorem dX9_rowType_194 : decode cX9_rowType 194 = .ok (.ireturn, 1) := by decide +kernel
theorem dX9_rowType_195 : decode cX9_rowType 195 = .ok (.aload_n 0, 1) := by decide +kernel
theorem dX9_rowType_196 : decode cX9_rowType 196 = .ok (.getfield 66, 3) := by decide +kernel
theorem dX9_rowType_199 : decode cX9_rowType 199 = .ok (.bipush 8, 2) := by decide +kernel
theorem dX9_rowType_201 : decode cX9_rowType 201 = .ok (.if_icmp .lt 5, 3) := by decide +kernel
theorem dX9_rowType_204 : decode cX9_rowType 204 = .ok (.iconst 2, 1) := by decide +kernel
theorem dX9_rowType_205 : decode cX9_rowType 205 = .ok (.ireturn, 1) := by decide +kernel
theorem dX9_rowType_206 : decode cX9_rowType 206 = .ok (.lload 6, 2) := by decide +kernel
theorem dX9_rowType_208 : decode cX9_rowType 208 = .ok (.ldc2_w 86, 3) := by decide +kernel
theorem dX9_rowType_211 : decode cX9_rowType 211 = .ok (.lcmp, 1) := by decide +kernel
theorem dX9_rowType_212 : decode cX9_rowType 212 = .ok (.ifCond .ne 7, 3) := by decide +kernel
theorem dX9_rowType_215 : decode cX9_rowType 215 = .ok (.iconst 3, 1) := by decide +kernel
theorem dX9_rowType_216 : decode cX9_rowType 216 = .ok (.goto 17, 3) := by decide +kernel
theorem dX9_rowType_219 : decode cX9_rowType 219 = .ok (.lload 6, 2) := by decide +kernel
theorem dX9_rowType_221 : decode cX9_rowType 221 = .ok (.ldc2_w 88, 3) := by decide +kernel
theorem dX9_rowType_224 : decode cX9_rowType 224 = .ok (.lcmp, 1) := by decide +kernel
theorem dX9_rowType_225 : decode cX9_rowType 225 = .ok (.ifCond .ne 7, 3) := by decide +kernel
theorem dX9_rowType_228 : decode cX9_rowType 228 = .ok (.iconst 4, 1) := by decide +kernel
theorem dX9_rowType_229 : decode cX9_rowType 229 = .ok (.goto 4, 3) := by decide +kernel
theorem dX9_rowType_232 : decode cX9_rowType 232 = .ok (.iconst 2, 1) := by decide +kernel
theorem dX9_rowType_233 : decode cX9_rowType 233 = .ok (.ireturn, 1) := by decide +kernel
theorem dX9_takeSign_0 : decode cX9_takeSign 0 = .ok (.aload_n 0, 1) := by decide +kernel
theorem dX9_takeSign_1 : decode cX9_takeSign 1 = .ok (.aload_n 0, 1) := by decide +kernel
theorem dX9_takeSign_2 : decode cX9_takeSign 2 = .ok (.getfield 34, 3) := by decide +kernel
theorem dX9_takeSign_5 : decode cX9_takeSign 5 = .ok (.invokevirtual 43, 3) := by decide +kernel
theorem dX9_takeSign_8 : decode cX9_takeSign 8 = .ok (.istore_n 1, 1) := by decide +kernel
theorem dX9_takeSign_9 : decode cX9_takeSign 9 = .ok (.aload_n 0, 1) := by decide +kernel
theorem dX9_takeSign_10 : decode cX9_takeSign 10 = .ok (.iload_n 1, 1) := by decide +kernel
theorem dX9_takeSign_11 : decode cX9_takeSign 11 = .ok (.aload_n 0, 1) := by decide +kernel
theorem dX9_takeSign_12 : decode cX9_takeSign 12 = .ok (.aload_n 0, 1) := by decide +kernel
theorem dX9_takeSign_13 : decode cX9_takeSign 13 = .ok (.getfield 34, 3) := by decide +kernel
theorem dX9_takeSign_16 : decode cX9_takeSign 16 = .ok (.iconst 1, 1) := by decide +kernel
theorem dX9_takeSign_17 : decode cX9_takeSign 17 = .ok (.iadd, 1) := by decide +kernel
theorem dX9_takeSign_18 : decode cX9_takeSign 18 = .ok (.invokevirtual 43, 3) := by decide +kernel
theorem dX9_takeSign_21 : decode cX9_takeSign 21 = .ok (.invokestatic 90, 3) := by decide +kernel
theorem dX9_takeSign_24 : decode cX9_takeSign 24 = .ok (.putfield 40, 3) := by decide +kernel
theorem dX9_takeSign_27 : decode cX9_takeSign 27 = .ok (.aload_n 0, 1) := by decide +kernel
theorem dX9_takeSign_28 : decode cX9_takeSign 28 = .ok (.getfield 40, 3) := by decide +kernel
theorem dX9_takeSign_31 : decode cX9_takeSign 31 = .ok (.bipush 6, 2) := by decide +kernel
theorem dX9_takeSign_33 : decode cX9_takeSign 33 = .ok (.if_icmp .eq 14, 3) := by decide +kernel
theorem dX9_takeSign_36 : decode cX9_takeSign 36 = .ok (.aload_n 0, 1) := by decide +kernel
theorem dX9_takeSign_37 : decode cX9_takeSign 37 = .ok (.dup, 1) := by decide +kernel
theorem dX9_takeSign_38 : decode cX9_takeSign 38 = .ok (.getfield 34, 3) := by decide +kernel
theorem dX9_takeSign_41 : decode cX9_takeSign 41 = .ok (.iconst 2, 1) := by decide +kernel
theorem dX9_takeSign_42 : decode cX9_takeSign 42 = .ok (.iadd, 1) := by decide +kernel
theorem dX9_takeSign_43 : decode cX9_takeSign 43 = .ok (.putfield 34, 3) := by decide +kernel
theorem dX9_takeSign_46 : decode cX9_takeSign 46 = .ok (.return_, 1) := by decide +kernel
theorem dX9_takeSign_47 : decode cX9_takeSign 47 = .ok (.aload_n 0, 1) := by decide +kernel
theorem dX9_takeSign_48 : decode cX9_takeSign 48 = .ok (.dup, 1) := by decide +kernel
theorem dX9_takeSign_49 : decode cX9_takeSign 49 = .ok (.getfield 34, 3) := by decide +kernel
theorem dX9_takeSign_52 : decode cX9_takeSign 52 = .ok (.iconst 1, 1) := by decide +kernel
theorem dX9_takeSign_53 : decode cX9_takeSign 53 = .ok (.iadd, 1) := by decide +kernel
theorem dX9_takeSign_54 : decode cX9_takeSign 54 = .ok (.putfield 34, 3) := by decide +kernel
theorem dX9_takeSign_57 : decode cX9_takeSign 57 = .ok (.iload_n 1, 1) := by decide +kernel
theorem dX9_takeSign_58 : decode cX9_takeSign 58 = .ok (.invokestatic 94, 3) := by decide +kernel
theorem dX9_takeSign_61 : decode cX9_takeSign 61 = .ok (.ifCond .eq 8, 3) := by decide +kernel
theorem dX9_takeSign_64 : decode cX9_takeSign 64 = .ok (.aload_n 0, 1) := by decide +kernel
theorem dX9_takeSign_65 : decode cX9_takeSign 65 = .ok (.iload_n 1, 1) := by decide +kernel
theorem dX9_takeSign_66 : decode cX9_takeSign 66 = .ok (.putfield 40, 3) := by decide +kernel
theorem dX9_takeSign_69 : decode cX9_takeSign 69 = .ok (.return_, 1) := by decide +kernel
theorem dX9_longSign_0 : decode cX9_longSign 0 = .ok (.iload_n 1, 1) := by decide +kernel
theorem dX9_longSign_1 : decode cX9_longSign 1 = .ok (.bipush 61, 2) := by decide +kernel
theorem dX9_longSign_3 : decode cX9_longSign 3 = .ok (.if_icmp .ne 54, 3) := by decide +kernel
theorem dX9_longSign_6 : decode cX9_longSign 6 = .ok (.iload_n 0, 1) := by decide +kernel
theorem dX9_longSign_7 : decode cX9_longSign 7 = .ok (.bipush 60, 2) := by decide +kernel
theorem dX9_longSign_9 : decode cX9_longSign 9 = .ok (.if_icmp .ne 9, 3) := by decide +kernel
theorem dX9_longSign_12 : decode cX9_longSign 12 = .ok (.sipush 128, 3) := by decide +kernel
theorem dX9_longSign_15 : decode cX9_longSign 15 = .ok (.goto 41, 3) := by decide +kernel
theorem dX9_longSign_18 : decode cX9_longSign 18 = .ok (.iload_n 0, 1) := by decide +kernel
theorem dX9_longSign_19 : decode cX9_longSign 19 = .ok (.bipush 62, 2) := by decide +kernel
theorem dX9_longSign_21 : decode cX9_longSign 21 = .ok (.if_icmp .ne 9, 3) := by decide +kernel
theorem dX9_longSign_24 : decode cX9_longSign 24 = .ok (.sipush 129, 3) := by decide +kernel
theorem dX9_longSign_27 : decode cX9_longSign 27 = .ok (.goto 29, 3) := by decide +kernel
theorem dX9_longSign_30 : decode cX9_longSign 30 = .ok (.iload_n 0, 1) := by decide +kernel
theorem dX9_longSign_31 : decode cX9_longSign 31 = .ok (.bipush 61, 2) := by decide +kernel
theorem dX9_longSign_33 : decode cX9_longSign 33 = .ok (.if_icmp .ne 9, 3) := by decide +kernel
theorem dX9_longSign_36 : decode cX9_longSign 36 = .ok (.sipush 130, 3) := by decide +kernel
theorem dX9_longSign_39 : decode cX9_longSign 39 = .ok (.goto 17, 3) := by decide +kernel
theorem dX9_longSign_42 : decode cX9_longSign 42 = .ok (.iload_n 0, 1) := by decide +kernel
theorem dX9_longSign_43 : decode cX9_longSign 43 = .ok (.bipush 33, 2) := by decide +kernel
theorem dX9_longSign_45 : decode cX9_longSign 45 = .ok (.if_icmp .ne 9, 3) := by decide +kernel
theorem dX9_longSign_48 : decode cX9_longSign 48 = .ok (.sipush 131, 3) := by decide +kernel
theorem dX9_longSign_51 : decode cX9_longSign 51 = .ok (.goto 5, 3) := by decide +kernel
theorem dX9_longSign_54 : decode cX9_longSign 54 = .ok (.bipush 6, 2) := by decide +kernel
theorem dX9_longSign_56 : decode cX9_longSign 56 = .ok (.ireturn, 1) := by decide +kernel
theorem dX9_longSign_57 : decode cX9_longSign 57 = .ok (.iload_n 0, 1) := by decide +kernel
theorem dX9_longSign_58 : decode cX9_longSign 58 = .ok (.bipush 45, 2) := by decide +kernel
theorem dX9_longSign_60 : decode cX9_longSign 60 = .ok (.if_icmp .ne 13, 3) := by decide +kernel
theorem dX9_longSign_63 : decode cX9_longSign 63 = .ok (.iload_n 1, 1) := by decide +kernel
theorem dX9_longSign_64 : decode cX9_longSign 64 = .ok (.bipush 62, 2) := by decide +kernel
theorem dX9_longSign_66 : decode cX9_longSign 66 = .ok (.if_icmp .ne 7, 3) := by decide +kernel
theorem dX9_longSign_69 : decode cX9_longSign 69 = .ok (.sipush 134, 3) := by decide +kernel
theorem dX9_longSign_72 : decode cX9_longSign 72 = .ok (.ireturn, 1) := by decide +kernel
theorem dX9_longSign_73 : decode cX9_longSign 73 = .ok (.iload_n 0, 1) := by decide +kernel
theorem dX9_longSign_74 : decode cX9_longSign 74 = .ok (.iload_n 1, 1) := by decide +kernel
theorem dX9_longSign_75 : decode cX9_longSign 75 = .ok (.if_icmp .eq 6, 3) := by decide +kernel
theorem dX9_longSign_78 : decode cX9_longSign 78 = .ok (.bipush 6, 2) := by decide +kernel
theorem dX9_longSign_80 : decode cX9_longSign 80 = .ok (.ireturn, 1) := by decide +kernel
theorem dX9_longSign_81 : decode cX9_longSign 81 = .ok (.iload_n 0, 1) := by decide +kernel
theorem dX9_longSign_82 : decode cX9_longSign 82 = .ok (.bipush 38, 2) := by decide +kernel
theorem dX9_longSign_84 : decode cX9_longSign 84 = .ok (.if_icmp .ne 9, 3) := by decide +kernel
theorem dX9_longSign_87 : decode cX9_longSign 87 = .ok (.sipush 132, 3) := by decide +kernel
theorem dX9_longSign_90 : decode cX9_longSign 90 = .ok (.goto 29, 3) := by decide +kernel
theorem dX9_longSign_93 : decode cX9_longSign 93 = .ok (.iload_n 0, 1) := by decide +kernel
theorem dX9_longSign_94 : decode cX9_longSign 94 = .ok (.bipush 124, 2) := by decide +kernel
theorem dX9_longSign_96 : decode cX9_longSign 96 = .ok (.if_icmp .ne 9, 3) := by decide +kernel
theorem dX9_longSign_99 : decode cX9_longSign 99 = .ok (.sipush 133, 3) := by decide +kernel
theorem dX9_longSign_102 : decode cX9_longSign 102 = .ok (.goto 17, 3) := by decide +kernel
theorem dX9_longSign_105 : decode cX9_longSign 105 = .ok (.iload_n 0, 1) := by decide +kernel
theorem dX9_longSign_106 : decode cX9_longSign 106 = .ok (.bipush 43, 2) := by decide +kernel
theorem dX9_longSign_108 : decode cX9_longSign 108 = .ok (.if_icmp .ne 9, 3) := by decide +kernel
theorem dX9_longSign_111 : decode cX9_longSign 111 = .ok (.sipush 135, 3) := by decide +kernel
theorem dX9_longSign_114 : decode cX9_longSign 114 = .ok (.goto 5, 3) := by decide +kernel
theorem dX9_longSign_117 : decode cX9_longSign 117 = .ok (.bipush 6, 2) := by decide +kernel
theorem dX9_longSign_119 : decode cX9_longSign 119 = .ok (.ireturn, 1) := by decide +kernel
theorem dX9_isSign_0 : decode cX9_isSign 0 = .ok (.iload_n 0, 1) := by decide +kernel
theorem dX9_isSign_1 : decode cX9_isSign 1 = .ok (.lookupswitch 165 #[(33, 163), (37, 163), (40, 163), (41, 163), (42, 163), (43, 163), (44, 163), (45, 163), (47, 163), (58, 163), (59, 163), (60, 163), (61, 163), (62, 163), (91, 163), (93, 163), (123, 163), (124, 163), (125, 163)], 163) := by decide +kernel
theorem dX9_isSign_164 : decode cX9_isSign 164 = .ok (.iconst 1, 1) := by decide +kernel
theorem dX9_isSign_165 : decode cX9_isSign 165 = .ok (.ireturn, 1) := by decide +kernel
theorem dX9_isSign_166 : decode cX9_isSign 166 = .ok (.iconst 0, 1) := by decide +kernel
theorem dX9_isSign_167 : decode cX9_isSign 167 = .ok (.ireturn, 1) := by decide +kernel
theorem dX10_isKind_0 : decode cX10_isKind 0 = .ok (.iload_n 1, 1) := by decide +kernel
theorem dX10_isKind_1 : decode cX10_isKind 1 = .ok (.ifCond .lt 15, 3) := by decide +kernel
theorem dX10_isKind_4 : decode cX10_isKind 4 = .ok (.iload_n 1, 1) := by decide +kernel
theorem dX10_isKind_5 : decode cX10_isKind 5 = .ok (.aload_n 0, 1) := by decide +kernel
end
section
theorem dX10_isKind_6 : decode cX10_isKind 6 = .ok (.getfield 24, 3) := by decide +kernel
theorem dX10_isKind_9 : decode cX10_isKind 9 = .ok (.if_icmp .ge 7, 3) := by decide +kernel
theorem dX10_isKind_12 : decode cX10_isKind 12 = .ok (.iconst 1, 1) := by decide +kernel
theorem dX10_isKind_13 : decode cX10_isKind 13 = .ok (.goto 4, 3) := by decide +kernel
theorem dX10_isKind_16 : decode cX10_isKind 16 = .ok (.iconst 0, 1) := by decide +kernel
theorem dX10_isKind_17 : decode cX10_isKind 17 = .ok (.ireturn, 1) := by decide +kernel
theorem dX10_isFull_0 : decode cX10_isFull 0 = .ok (.aload_n 0, 1) := by decide +kernel
theorem dX10_isFull_1 : decode cX10_isFull 1 = .ok (.getfield 24, 3) := by decide +kernel
theorem dX10_isFull_4 : decode cX10_isFull 4 = .ok (.bipush 12, 2) := by decide +kernel
theorem dX10_isFull_6 : decode cX10_isFull 6 = .ok (.if_icmp .lt 7, 3) := by decide +kernel
theorem dX10_isFull_9 : decode cX10_isFull 9 = .ok (.iconst 1, 1) := by decide +kernel
theorem dX10_isFull_10 : decode cX10_isFull 10 = .ok (.goto 4, 3) := by decide +kernel
theorem dX10_isFull_13 : decode cX10_isFull 13 = .ok (.iconst 0, 1) := by decide +kernel
theorem dX10_isFull_14 : decode cX10_isFull 14 = .ok (.ireturn, 1) := by decide +kernel
theorem dX10_addKind_0 : decode cX10_addKind 0 = .ok (.aload_n 0, 1) := by decide +kernel
theorem dX10_addKind_1 : decode cX10_addKind 1 = .ok (.getfield 9, 3) := by decide +kernel
theorem dX10_addKind_4 : decode cX10_addKind 4 = .ok (.aload_n 0, 1) := by decide +kernel
theorem dX10_addKind_5 : decode cX10_addKind 5 = .ok (.getfield 24, 3) := by decide +kernel
theorem dX10_addKind_8 : decode cX10_addKind 8 = .ok (.iload_n 1, 1) := by decide +kernel
theorem dX10_addKind_9 : decode cX10_addKind 9 = .ok (.invokestatic 28, 3) := by decide +kernel
theorem dX10_addKind_12 : decode cX10_addKind 12 = .ok (.aload_n 0, 1) := by decide +kernel
theorem dX10_addKind_13 : decode cX10_addKind 13 = .ok (.dup, 1) := by decide +kernel
theorem dX10_addKind_14 : decode cX10_addKind 14 = .ok (.getfield 24, 3) := by decide +kernel
theorem dX10_addKind_17 : decode cX10_addKind 17 = .ok (.iconst 1, 1) := by decide +kernel
theorem dX10_addKind_18 : decode cX10_addKind 18 = .ok (.iadd, 1) := by decide +kernel
theorem dX10_addKind_19 : decode cX10_addKind 19 = .ok (.putfield 24, 3) := by decide +kernel
theorem dX10_addKind_22 : decode cX10_addKind 22 = .ok (.aload_n 0, 1) := by decide +kernel
theorem dX10_addKind_23 : decode cX10_addKind 23 = .ok (.getfield 24, 3) := by decide +kernel
theorem dX10_addKind_26 : decode cX10_addKind 26 = .ok (.iconst 1, 1) := by decide +kernel
theorem dX10_addKind_27 : decode cX10_addKind 27 = .ok (.isub, 1) := by decide +kernel
theorem dX10_addKind_28 : decode cX10_addKind 28 = .ok (.ireturn, 1) := by decide +kernel
theorem dX10_isUnder_0 : decode cX10_isUnder 0 = .ok (.iload_n 1, 1) := by decide +kernel
theorem dX10_isUnder_1 : decode cX10_isUnder 1 = .ok (.istore_n 3, 1) := by decide +kernel
theorem dX10_isUnder_2 : decode cX10_isUnder 2 = .ok (.iconst 0, 1) := by decide +kernel
theorem dX10_isUnder_3 : decode cX10_isUnder 3 = .ok (.istore 4, 2) := by decide +kernel
theorem dX10_isUnder_5 : decode cX10_isUnder 5 = .ok (.iload 4, 2) := by decide +kernel
theorem dX10_isUnder_7 : decode cX10_isUnder 7 = .ok (.bipush 12, 2) := by decide +kernel
theorem dX10_isUnder_9 : decode cX10_isUnder 9 = .ok (.if_icmp .ge 29, 3) := by decide +kernel
theorem dX10_isUnder_12 : decode cX10_isUnder 12 = .ok (.iload_n 3, 1) := by decide +kernel
theorem dX10_isUnder_13 : decode cX10_isUnder 13 = .ok (.ifCond .lt 25, 3) := by decide +kernel
theorem dX10_isUnder_16 : decode cX10_isUnder 16 = .ok (.iload_n 3, 1) := by decide +kernel
theorem dX10_isUnder_17 : decode cX10_isUnder 17 = .ok (.iload_n 2, 1) := by decide +kernel
theorem dX10_isUnder_18 : decode cX10_isUnder 18 = .ok (.if_icmp .ne 5, 3) := by decide +kernel
theorem dX10_isUnder_21 : decode cX10_isUnder 21 = .ok (.iconst 1, 1) := by decide +kernel
theorem dX10_isUnder_22 : decode cX10_isUnder 22 = .ok (.ireturn, 1) := by decide +kernel
theorem dX10_isUnder_23 : decode cX10_isUnder 23 = .ok (.aload_n 0, 1) := by decide +kernel
theorem dX10_isUnder_24 : decode cX10_isUnder 24 = .ok (.getfield 9, 3) := by decide +kernel
theorem dX10_isUnder_27 : decode cX10_isUnder 27 = .ok (.iload_n 3, 1) := by decide +kernel
theorem dX10_isUnder_28 : decode cX10_isUnder 28 = .ok (.invokestatic 32, 3) := by decide +kernel
theorem dX10_isUnder_31 : decode cX10_isUnder 31 = .ok (.istore_n 3, 1) := by decide +kernel
theorem dX10_isUnder_32 : decode cX10_isUnder 32 = .ok (.iinc 4 1, 3) := by decide +kernel
theorem dX10_isUnder_35 : decode cX10_isUnder 35 = .ok (.goto (-30), 3) := by decide +kernel
theorem dX10_isUnder_38 : decode cX10_isUnder 38 = .ok (.iconst 0, 1) := by decide +kernel
theorem dX10_isUnder_39 : decode cX10_isUnder 39 = .ok (.ireturn, 1) := by decide +kernel
theorem dX10_tellResource_0 : decode cX10_tellResource 0 = .ok (.aload_n 0, 1) := by decide +kernel
theorem dX10_tellResource_1 : decode cX10_tellResource 1 = .ok (.getfield 15, 3) := by decide +kernel
theorem dX10_tellResource_4 : decode cX10_tellResource 4 = .ok (.iload_n 1, 1) := by decide +kernel
theorem dX10_tellResource_5 : decode cX10_tellResource 5 = .ok (.iload_n 2, 1) := by decide +kernel
theorem dX10_tellResource_6 : decode cX10_tellResource 6 = .ok (.invokestatic 28, 3) := by decide +kernel
theorem dX10_tellResource_9 : decode cX10_tellResource 9 = .ok (.aload_n 0, 1) := by decide +kernel
theorem dX10_tellResource_10 : decode cX10_tellResource 10 = .ok (.getfield 18, 3) := by decide +kernel
theorem dX10_tellResource_13 : decode cX10_tellResource 13 = .ok (.iload_n 1, 1) := by decide +kernel
theorem dX10_tellResource_14 : decode cX10_tellResource 14 = .ok (.iload_n 3, 1) := by decide +kernel
theorem dX10_tellResource_15 : decode cX10_tellResource 15 = .ok (.invokestatic 28, 3) := by decide +kernel
theorem dX10_tellResource_18 : decode cX10_tellResource 18 = .ok (.aload_n 0, 1) := by decide +kernel
theorem dX10_tellResource_19 : decode cX10_tellResource 19 = .ok (.getfield 21, 3) := by decide +kernel
theorem dX10_tellResource_22 : decode cX10_tellResource 22 = .ok (.iload_n 1, 1) := by decide +kernel
theorem dX10_tellResource_23 : decode cX10_tellResource 23 = .ok (.iload 4, 2) := by decide +kernel
theorem dX10_tellResource_25 : decode cX10_tellResource 25 = .ok (.invokestatic 28, 3) := by decide +kernel
theorem dX10_tellResource_28 : decode cX10_tellResource 28 = .ok (.return_, 1) := by decide +kernel
theorem dX11_feed_0 : decode cX11_feed 0 = .ok (.aload_n 0, 1) := by decide +kernel
theorem dX11_feed_1 : decode cX11_feed 1 = .ok (.getfield 50, 3) := by decide +kernel
theorem dX11_feed_4 : decode cX11_feed 4 = .ok (.bipush 20, 2) := by decide +kernel
theorem dX11_feed_6 : decode cX11_feed 6 = .ok (.iadd, 1) := by decide +kernel
theorem dX11_feed_7 : decode cX11_feed 7 = .ok (.sipush 900, 3) := by decide +kernel
theorem dX11_feed_10 : decode cX11_feed 10 = .ok (.if_icmp .le 6, 3) := by decide +kernel
theorem dX11_feed_13 : decode cX11_feed 13 = .ok (.bipush (-2), 2) := by decide +kernel
theorem dX11_feed_15 : decode cX11_feed 15 = .ok (.ireturn, 1) := by decide +kernel
theorem dX11_feed_16 : decode cX11_feed 16 = .ok (.aload_n 0, 1) := by decide +kernel
theorem dX11_feed_17 : decode cX11_feed 17 = .ok (.iload_n 1, 1) := by decide +kernel
theorem dX11_feed_18 : decode cX11_feed 18 = .ok (.invokevirtual 54, 3) := by decide +kernel
theorem dX11_feed_21 : decode cX11_feed 21 = .ok (.aload_n 0, 1) := by decide +kernel
theorem dX11_feed_22 : decode cX11_feed 22 = .ok (.iload_n 2, 1) := by decide +kernel
theorem dX11_feed_23 : decode cX11_feed 23 = .ok (.invokevirtual 54, 3) := by decide +kernel
theorem dX11_feed_26 : decode cX11_feed 26 = .ok (.aload_n 0, 1) := by decide +kernel
theorem dX11_feed_27 : decode cX11_feed 27 = .ok (.iload_n 3, 1) := by decide +kernel
theorem dX11_feed_28 : decode cX11_feed 28 = .ok (.invokevirtual 54, 3) := by decide +kernel
theorem dX11_feed_31 : decode cX11_feed 31 = .ok (.aload_n 0, 1) := by decide +kernel
theorem dX11_feed_32 : decode cX11_feed 32 = .ok (.iload 4, 2) := by decide +kernel
theorem dX11_feed_34 : decode cX11_feed 34 = .ok (.invokevirtual 54, 3) := by decide +kernel
theorem dX11_feed_37 : decode cX11_feed 37 = .ok (.aload_n 0, 1) := by decide +kernel
theorem dX11_feed_38 : decode cX11_feed 38 = .ok (.iload 5, 2) := by decide +kernel
theorem dX11_feed_40 : decode cX11_feed 40 = .ok (.invokevirtual 54, 3) := by decide +kernel
theorem dX11_feed_43 : decode cX11_feed 43 = .ok (.aload_n 0, 1) := by decide +kernel
theorem dX11_feed_44 : decode cX11_feed 44 = .ok (.getfield 50, 3) := by decide +kernel
theorem dX11_feed_47 : decode cX11_feed 47 = .ok (.ireturn, 1) := by decide +kernel
theorem dX11_addBytes_0 : decode cX11_addBytes 0 = .ok (.bipush 24, 2) := by decide +kernel
theorem dX11_addBytes_2 : decode cX11_addBytes 2 = .ok (.istore_n 2, 1) := by decide +kernel
theorem dX11_addBytes_3 : decode cX11_addBytes 3 = .ok (.iload_n 2, 1) := by decide +kernel
theorem dX11_addBytes_4 : decode cX11_addBytes 4 = .ok (.ifCond .lt 37, 3) := by decide +kernel
theorem dX11_addBytes_7 : decode cX11_addBytes 7 = .ok (.aload_n 0, 1) := by decide +kernel
theorem dX11_addBytes_8 : decode cX11_addBytes 8 = .ok (.getfield 9, 3) := by decide +kernel
theorem dX11_addBytes_11 : decode cX11_addBytes 11 = .ok (.aload_n 0, 1) := by decide +kernel
theorem dX11_addBytes_12 : decode cX11_addBytes 12 = .ok (.getfield 50, 3) := by decide +kernel
theorem dX11_addBytes_15 : decode cX11_addBytes 15 = .ok (.iload_n 1, 1) := by decide +kernel
theorem dX11_addBytes_16 : decode cX11_addBytes 16 = .ok (.iload_n 2, 1) := by decide +kernel
theorem dX11_addBytes_17 : decode cX11_addBytes 17 = .ok (.iushr, 1) := by decide +kernel
theorem dX11_addBytes_18 : decode cX11_addBytes 18 = .ok (.sipush 255, 3) := by decide +kernel
theorem dX11_addBytes_21 : decode cX11_addBytes 21 = .ok (.iand, 1) := by decide +kernel
theorem dX11_addBytes_22 : decode cX11_addBytes 22 = .ok (.invokestatic 58, 3) := by decide +kernel
theorem dX11_addBytes_25 : decode cX11_addBytes 25 = .ok (.aload_n 0, 1) := by decide +kernel
theorem dX11_addBytes_26 : decode cX11_addBytes 26 = .ok (.dup, 1) := by decide +kernel
theorem dX11_addBytes_27 : decode cX11_addBytes 27 = .ok (.getfield 50, 3) := by decide +kernel
theorem dX11_addBytes_30 : decode cX11_addBytes 30 = .ok (.iconst 1, 1) := by decide +kernel
theorem dX11_addBytes_31 : decode cX11_addBytes 31 = .ok (.iadd, 1) := by decide +kernel
theorem dX11_addBytes_32 : decode cX11_addBytes 32 = .ok (.putfield 50, 3) := by decide +kernel
theorem dX11_addBytes_35 : decode cX11_addBytes 35 = .ok (.iinc 2 (-8), 3) := by decide +kernel
theorem dX11_addBytes_38 : decode cX11_addBytes 38 = .ok (.goto (-35), 3) := by decide +kernel
theorem dX11_addBytes_41 : decode cX11_addBytes 41 = .ok (.return_, 1) := by decide +kernel
theorem dX11_cut_0 : decode cX11_cut 0 = .ok (.iload_n 1, 1) := by decide +kernel
theorem dX11_cut_1 : decode cX11_cut 1 = .ok (.ifCond .lt 11, 3) := by decide +kernel
theorem dX11_cut_4 : decode cX11_cut 4 = .ok (.iload_n 1, 1) := by decide +kernel
theorem dX11_cut_5 : decode cX11_cut 5 = .ok (.aload_n 0, 1) := by decide +kernel
theorem dX11_cut_6 : decode cX11_cut 6 = .ok (.getfield 50, 3) := by decide +kernel
theorem dX11_cut_9 : decode cX11_cut 9 = .ok (.if_icmp .le 5, 3) := by decide +kernel
theorem dX11_cut_12 : decode cX11_cut 12 = .ok (.iconst (-1), 1) := by decide +kernel
theorem dX11_cut_13 : decode cX11_cut 13 = .ok (.ireturn, 1) := by decide +kernel
theorem dX11_cut_14 : decode cX11_cut 14 = .ok (.aload_n 0, 1) := by decide +kernel
theorem dX11_cut_15 : decode cX11_cut 15 = .ok (.getfield 50, 3) := by decide +kernel
theorem dX11_cut_18 : decode cX11_cut 18 = .ok (.iload_n 1, 1) := by decide +kernel
theorem dX11_cut_19 : decode cX11_cut 19 = .ok (.isub, 1) := by decide +kernel
theorem dX11_cut_20 : decode cX11_cut 20 = .ok (.istore_n 2, 1) := by decide +kernel
theorem dX11_cut_21 : decode cX11_cut 21 = .ok (.aload_n 0, 1) := by decide +kernel
theorem dX11_cut_22 : decode cX11_cut 22 = .ok (.iload_n 1, 1) := by decide +kernel
theorem dX11_cut_23 : decode cX11_cut 23 = .ok (.putfield 50, 3) := by decide +kernel
theorem dX11_cut_26 : decode cX11_cut 26 = .ok (.iload_n 2, 1) := by decide +kernel
theorem dX11_cut_27 : decode cX11_cut 27 = .ok (.ireturn, 1) := by decide +kernel
theorem dX11_kind_0 : decode cX11_kind 0 = .ok (.aload_n 0, 1) := by decide +kernel
theorem dX11_kind_1 : decode cX11_kind 1 = .ok (.getfield 16, 3) := by decide +kernel
theorem dX11_kind_4 : decode cX11_kind 4 = .ok (.iload_n 1, 1) := by decide +kernel
theorem dX11_kind_5 : decode cX11_kind 5 = .ok (.invokevirtual 62, 3) := by decide +kernel
theorem dX11_kind_8 : decode cX11_kind 8 = .ok (.ifCond .ne 5, 3) := by decide +kernel
theorem dX11_kind_11 : decode cX11_kind 11 = .ok (.iconst (-1), 1) := by decide +kernel
theorem dX11_kind_12 : decode cX11_kind 12 = .ok (.ireturn, 1) := by decide +kernel
theorem dX11_kind_13 : decode cX11_kind 13 = .ok (.aload_n 0, 1) := by decide +kernel
theorem dX11_kind_14 : decode cX11_kind 14 = .ok (.getfield 16, 3) := by decide +kernel
theorem dX11_kind_17 : decode cX11_kind 17 = .ok (.invokevirtual 66, 3) := by decide +kernel
theorem dX11_kind_20 : decode cX11_kind 20 = .ok (.ifCond .eq 8, 3) := by decide +kernel
theorem dX11_kind_23 : decode cX11_kind 23 = .ok (.bipush (-2), 2) := by decide +kernel
theorem dX11_kind_25 : decode cX11_kind 25 = .ok (.goto 11, 3) := by decide +kernel
theorem dX11_kind_28 : decode cX11_kind 28 = .ok (.aload_n 0, 1) := by decide +kernel
theorem dX11_kind_29 : decode cX11_kind 29 = .ok (.getfield 16, 3) := by decide +kernel
theorem dX11_kind_32 : decode cX11_kind 32 = .ok (.iload_n 1, 1) := by decide +kernel
theorem dX11_kind_33 : decode cX11_kind 33 = .ok (.invokevirtual 70, 3) := by decide +kernel
theorem dX11_kind_36 : decode cX11_kind 36 = .ok (.ireturn, 1) := by decide +kernel
theorem dX11_resource_0 : decode cX11_resource 0 = .ok (.iload_n 1, 1) := by decide +kernel
theorem dX11_resource_1 : decode cX11_resource 1 = .ok (.ifCond .lt 18, 3) := by decide +kernel
theorem dX11_resource_4 : decode cX11_resource 4 = .ok (.iload_n 1, 1) := by decide +kernel
theorem dX11_resource_5 : decode cX11_resource 5 = .ok (.bipush 8, 2) := by decide +kernel
theorem dX11_resource_7 : decode cX11_resource 7 = .ok (.if_icmp .ge 12, 3) := by decide +kernel
theorem dX11_resource_10 : decode cX11_resource 10 = .ok (.iload_n 2, 1) := by decide +kernel
theorem dX11_resource_11 : decode cX11_resource 11 = .ok (.ifCond .lt 8, 3) := by decide +kernel
theorem dX11_resource_14 : decode cX11_resource 14 = .ok (.iload_n 2, 1) := by decide +kernel
theorem dX11_resource_15 : decode cX11_resource 15 = .ok (.iconst 1, 1) := by decide +kernel
theorem dX11_resource_16 : decode cX11_resource 16 = .ok (.if_icmp .le 5, 3) := by decide +kernel
theorem dX11_resource_19 : decode cX11_resource 19 = .ok (.iconst (-1), 1) := by decide +kernel
theorem dX11_resource_20 : decode cX11_resource 20 = .ok (.ireturn, 1) := by decide +kernel
theorem dX11_resource_21 : decode cX11_resource 21 = .ok (.aload_n 0, 1) := by decide +kernel
theorem dX11_resource_22 : decode cX11_resource 22 = .ok (.iload_n 3, 1) := by decide +kernel
theorem dX11_resource_23 : decode cX11_resource 23 = .ok (.invokevirtual 74, 3) := by decide +kernel
theorem dX11_resource_26 : decode cX11_resource 26 = .ok (.ifCond .eq 12, 3) := by decide +kernel
theorem dX11_resource_29 : decode cX11_resource 29 = .ok (.aload_n 0, 1) := by decide +kernel
theorem dX11_resource_30 : decode cX11_resource 30 = .ok (.iload 4, 2) := by decide +kernel
theorem dX11_resource_32 : decode cX11_resource 32 = .ok (.invokevirtual 74, 3) := by decide +kernel
theorem dX11_resource_35 : decode cX11_resource 35 = .ok (.ifCond .ne 5, 3) := by decide +kernel
theorem dX11_resource_38 : decode cX11_resource 38 = .ok (.iconst (-1), 1) := by decide +kernel
theorem dX11_resource_39 : decode cX11_resource 39 = .ok (.ireturn, 1) := by decide +kernel
theorem dX11_resource_40 : decode cX11_resource 40 = .ok (.aload_n 0, 1) := by decide +kernel
theorem dX11_resource_41 : decode cX11_resource 41 = .ok (.getfield 16, 3) := by decide +kernel
theorem dX11_resource_44 : decode cX11_resource 44 = .ok (.iload_n 1, 1) := by decide +kernel
theorem dX11_resource_45 : decode cX11_resource 45 = .ok (.iload_n 2, 1) := by decide +kernel
theorem dX11_resource_46 : decode cX11_resource 46 = .ok (.iload_n 3, 1) := by decide +kernel
theorem dX11_resource_47 : decode cX11_resource 47 = .ok (.iload 4, 2) := by decide +kernel
theorem dX11_resource_49 : decode cX11_resource 49 = .ok (.invokevirtual 77, 3) := by decide +kernel
theorem dX11_resource_52 : decode cX11_resource 52 = .ok (.iconst 1, 1) := by decide +kernel
theorem dX11_resource_53 : decode cX11_resource 53 = .ok (.ireturn, 1) := by decide +kernel
theorem dX11_isKindOrNothing_0 : decode cX11_isKindOrNothing 0 = .ok (.iload_n 1, 1) := by decide +kernel
theorem dX11_isKindOrNothing_1 : decode cX11_isKindOrNothing 1 = .ok (.iconst (-1), 1) := by decide +kernel
theorem dX11_isKindOrNothing_2 : decode cX11_isKindOrNothing 2 = .ok (.if_icmp .eq 14, 3) := by decide +kernel
theorem dX11_isKindOrNothing_5 : decode cX11_isKindOrNothing 5 = .ok (.aload_n 0, 1) := by decide +kernel
theorem dX11_isKindOrNothing_6 : decode cX11_isKindOrNothing 6 = .ok (.getfield 16, 3) := by decide +kernel
theorem dX11_isKindOrNothing_9 : decode cX11_isKindOrNothing 9 = .ok (.iload_n 1, 1) := by decide +kernel
theorem dX11_isKindOrNothing_10 : decode cX11_isKindOrNothing 10 = .ok (.invokevirtual 62, 3) := by decide +kernel
theorem dX11_isKindOrNothing_13 : decode cX11_isKindOrNothing 13 = .ok (.ifCond .eq 7, 3) := by decide +kernel
theorem dX11_isKindOrNothing_16 : decode cX11_isKindOrNothing 16 = .ok (.iconst 1, 1) := by decide +kernel
theorem dX11_isKindOrNothing_17 : decode cX11_isKindOrNothing 17 = .ok (.goto 4, 3) := by decide +kernel
theorem dX11_isKindOrNothing_20 : decode cX11_isKindOrNothing 20 = .ok (.iconst 0, 1) := by decide +kernel
theorem dX11_isKindOrNothing_21 : decode cX11_isKindOrNothing 21 = .ok (.ireturn, 1) := by decide +kernel
theorem dX11_asserts_0 : decode cX11_asserts 0 = .ok (.aload_n 0, 1) := by decide +kernel
theorem dX11_asserts_1 : decode cX11_asserts 1 = .ok (.getfield 16, 3) := by decide +kernel
theorem dX11_asserts_4 : decode cX11_asserts 4 = .ok (.getfield 81, 3) := by decide +kernel
theorem dX11_asserts_7 : decode cX11_asserts 7 = .ok (.ifCond .eq 7, 3) := by decide +kernel
theorem dX11_asserts_10 : decode cX11_asserts 10 = .ok (.iconst 1, 1) := by decide +kernel
theorem dX11_asserts_11 : decode cX11_asserts 11 = .ok (.goto 4, 3) := by decide +kernel
theorem dX11_asserts_14 : decode cX11_asserts 14 = .ok (.iconst 0, 1) := by decide +kernel
theorem dX11_asserts_15 : decode cX11_asserts 15 = .ok (.istore_n 2, 1) := by decide +kernel
theorem dX11_asserts_16 : decode cX11_asserts 16 = .ok (.aload_n 0, 1) := by decide +kernel
theorem dX11_asserts_17 : decode cX11_asserts 17 = .ok (.getfield 16, 3) := by decide +kernel
theorem dX11_asserts_20 : decode cX11_asserts 20 = .ok (.iload_n 1, 1) := by decide +kernel
theorem dX11_asserts_21 : decode cX11_asserts 21 = .ok (.putfield 81, 3) := by decide +kernel
theorem dX11_asserts_24 : decode cX11_asserts 24 = .ok (.iload_n 2, 1) := by decide +kernel
theorem dX11_asserts_25 : decode cX11_asserts 25 = .ok (.ireturn, 1) := by decide +kernel
theorem dX11_read_0 : decode cX11_read 0 = .ok (.aload_n 0, 1) := by decide +kernel
theorem dX11_read_1 : decode cX11_read 1 = .ok (.getfield 50, 3) := by decide +kernel
theorem dX11_read_4 : decode cX11_read 4 = .ok (.istore_n 1, 1) := by decide +kernel
theorem dX11_read_5 : decode cX11_read 5 = .ok (.aload_n 0, 1) := by decide +kernel
theorem dX11_read_6 : decode cX11_read 6 = .ok (.iconst 0, 1) := by decide +kernel
theorem dX11_read_7 : decode cX11_read 7 = .ok (.putfield 50, 3) := by decide +kernel
theorem dX11_read_10 : decode cX11_read 10 = .ok (.aload_n 0, 1) := by decide +kernel
theorem dX11_read_11 : decode cX11_read 11 = .ok (.iconst 0, 1) := by decide +kernel
theorem dX11_read_12 : decode cX11_read 12 = .ok (.putfield 85, 3) := by decide +kernel
theorem dX11_read_15 : decode cX11_read 15 = .ok (.aload_n 0, 1) := by decide +kernel
theorem dX11_read_16 : decode cX11_read 16 = .ok (.aload_n 0, 1) := by decide +kernel
theorem dX11_read_17 : decode cX11_read 17 = .ok (.getfield 37, 3) := by decide +kernel
theorem dX11_read_20 : decode cX11_read 20 = .ok (.iload_n 1, 1) := by decide +kernel
theorem dX11_read_21 : decode cX11_read 21 = .ok (.invokevirtual 88, 3) := by decide +kernel
theorem dX11_read_24 : decode cX11_read 24 = .ok (.putfield 91, 3) := by decide +kernel
theorem dX11_read_27 : decode cX11_read 27 = .ok (.aload_n 0, 1) := by decide +kernel
theorem dX11_read_28 : decode cX11_read 28 = .ok (.aload_n 0, 1) := by decide +kernel
theorem dX11_read_29 : decode cX11_read 29 = .ok (.getfield 91, 3) := by decide +kernel
theorem dX11_read_32 : decode cX11_read 32 = .ok (.ifCond .ne 7, 3) := by decide +kernel
theorem dX11_read_35 : decode cX11_read 35 = .ok (.iconst 1, 1) := by decide +kernel
theorem dX11_read_36 : decode cX11_read 36 = .ok (.goto 4, 3) := by decide +kernel
theorem dX11_read_39 : decode cX11_read 39 = .ok (.iconst 0, 1) := by decide +kernel
theorem dX11_read_40 : decode cX11_read 40 = .ok (.putfield 94, 3) := by decide +kernel
theorem dX11_read_43 : decode cX11_read 43 = .ok (.aload_n 0, 1) := by decide +kernel
theorem dX11_read_44 : decode cX11_read 44 = .ok (.getfield 94, 3) := by decide +kernel
theorem dX11_read_47 : decode cX11_read 47 = .ok (.ifCond .eq 13, 3) := by decide +kernel
theorem dX11_read_50 : decode cX11_read 50 = .ok (.aload_n 0, 1) := by decide +kernel
theorem dX11_read_51 : decode cX11_read 51 = .ok (.getfield 23, 3) := by decide +kernel
theorem dX11_read_54 : decode cX11_read 54 = .ok (.getfield 97, 3) := by decide +kernel
theorem dX11_read_57 : decode cX11_read 57 = .ok (.goto 13, 3) := by decide +kernel
theorem dX11_read_60 : decode cX11_read 60 = .ok (.bipush (-10), 2) := by decide +kernel
theorem dX11_read_62 : decode cX11_read 62 = .ok (.aload_n 0, 1) := by decide +kernel
theorem dX11_read_63 : decode cX11_read 63 = .ok (.getfield 37, 3) := by decide +kernel
theorem dX11_read_66 : decode cX11_read 66 = .ok (.getfield 100, 3) := by decide +kernel
theorem dX11_read_69 : decode cX11_read 69 = .ok (.isub, 1) := by decide +kernel
theorem dX11_read_70 : decode cX11_read 70 = .ok (.ireturn, 1) := by decide +kernel
theorem dX11_fault_0 : decode cX11_fault 0 = .ok (.aload_n 0, 1) := by decide +kernel
theorem dX11_fault_1 : decode cX11_fault 1 = .ok (.getfield 91, 3) := by decide +kernel
theorem dX11_fault_4 : decode cX11_fault 4 = .ok (.ireturn, 1) := by decide +kernel
theorem dX11_program_0 : decode cX11_program 0 = .ok (.iload_n 1, 1) := by decide +kernel
theorem dX11_program_1 : decode cX11_program 1 = .ok (.ifCond .lt 8, 3) := by decide +kernel
theorem dX11_program_4 : decode cX11_program 4 = .ok (.iload_n 1, 1) := by decide +kernel
theorem dX11_program_5 : decode cX11_program 5 = .ok (.iconst 3, 1) := by decide +kernel
theorem dX11_program_6 : decode cX11_program 6 = .ok (.if_icmp .le 5, 3) := by decide +kernel
theorem dX11_program_9 : decode cX11_program 9 = .ok (.iconst (-1), 1) := by decide +kernel
theorem dX11_program_10 : decode cX11_program 10 = .ok (.ireturn, 1) := by decide +kernel
theorem dX11_program_11 : decode cX11_program 11 = .ok (.aload_n 0, 1) := by decide +kernel
theorem dX11_program_12 : decode cX11_program 12 = .ok (.getfield 94, 3) := by decide +kernel
theorem dX11_program_15 : decode cX11_program 15 = .ok (.ifCond .ne 6, 3) := by decide +kernel
theorem dX11_program_18 : decode cX11_program 18 = .ok (.bipush (-3), 2) := by decide +kernel
theorem dX11_program_20 : decode cX11_program 20 = .ok (.ireturn, 1) := by decide +kernel
theorem dX11_program_21 : decode cX11_program 21 = .ok (.iload_n 1, 1) := by decide +kernel
theorem dX11_program_22 : decode cX11_program 22 = .ok (.tableswitch 58 0 2 #[26, 34, 50], 26) := by decide +kernel
theorem dX11_program_48 : decode cX11_program 48 = .ok (.aload_n 0, 1) := by decide +kernel
theorem dX11_program_49 : decode cX11_program 49 = .ok (.getfield 23, 3) := by decide +kernel
theorem dX11_program_52 : decode cX11_program 52 = .ok (.getfield 97, 3) := by decide +kernel
theorem dX11_program_55 : decode cX11_program 55 = .ok (.ireturn, 1) := by decide +kernel
theorem dX11_program_56 : decode cX11_program 56 = .ok (.aload_n 0, 1) := by decide +kernel
theorem dX11_program_57 : decode cX11_program 57 = .ok (.getfield 23, 3) := by decide +kernel
theorem dX11_program_60 : decode cX11_program 60 = .ok (.getfield 103, 3) := by decide +kernel
theorem dX11_program_63 : decode cX11_program 63 = .ok (.ifCond .eq 7, 3) := by decide +kernel
theorem dX11_program_66 : decode cX11_program 66 = .ok (.iconst 1, 1) := by decide +kernel
theorem dX11_program_67 : decode cX11_program 67 = .ok (.goto 4, 3) := by decide +kernel
theorem dX11_program_70 : decode cX11_program 70 = .ok (.iconst 0, 1) := by decide +kernel
theorem dX11_program_71 : decode cX11_program 71 = .ok (.ireturn, 1) := by decide +kernel
theorem dX11_program_72 : decode cX11_program 72 = .ok (.aload_n 0, 1) := by decide +kernel
theorem dX11_program_73 : decode cX11_program 73 = .ok (.getfield 23, 3) := by decide +kernel
theorem dX11_program_76 : decode cX11_program 76 = .ok (.getfield 106, 3) := by decide +kernel
theorem dX11_program_79 : decode cX11_program 79 = .ok (.ireturn, 1) := by decide +kernel
theorem dX11_program_80 : decode cX11_program 80 = .ok (.aload_n 0, 1) := by decide +kernel
theorem dX11_program_81 : decode cX11_program 81 = .ok (.getfield 23, 3) := by decide +kernel
theorem dX11_program_84 : decode cX11_program 84 = .ok (.getfield 109, 3) := by decide +kernel
theorem dX11_program_87 : decode cX11_program 87 = .ok (.ireturn, 1) := by decide +kernel
theorem dX11_run_0 : decode cX11_run 0 = .ok (.aload_n 0, 1) := by decide +kernel
theorem dX11_run_1 : decode cX11_run 1 = .ok (.getfield 94, 3) := by decide +kernel
theorem dX11_run_4 : decode cX11_run 4 = .ok (.ifCond .ne 6, 3) := by decide +kernel
theorem dX11_run_7 : decode cX11_run 7 = .ok (.bipush (-3), 2) := by decide +kernel
theorem dX11_run_9 : decode cX11_run 9 = .ok (.ireturn, 1) := by decide +kernel
theorem dX11_run_10 : decode cX11_run 10 = .ok (.aload_n 0, 1) := by decide +kernel
theorem dX11_run_11 : decode cX11_run 11 = .ok (.iconst 1, 1) := by decide +kernel
theorem dX11_run_12 : decode cX11_run 12 = .ok (.putfield 85, 3) := by decide +kernel
theorem dX11_run_15 : decode cX11_run 15 = .ok (.aload_n 0, 1) := by decide +kernel
theorem dX11_run_16 : decode cX11_run 16 = .ok (.getfield 46, 3) := by decide +kernel
theorem dX11_run_19 : decode cX11_run 19 = .ok (.iload_n 1, 1) := by decide +kernel
theorem dX11_run_20 : decode cX11_run 20 = .ok (.iload_n 2, 1) := by decide +kernel
theorem dX11_run_21 : decode cX11_run 21 = .ok (.invokevirtual 112, 3) := by decide +kernel
theorem dX11_run_24 : decode cX11_run 24 = .ok (.ireturn, 1) := by decide +kernel
theorem dX11_ran_0 : decode cX11_ran 0 = .ok (.iload_n 1, 1) := by decide +kernel
theorem dX11_ran_1 : decode cX11_ran 1 = .ok (.ifCond .lt 9, 3) := by decide +kernel
theorem dX11_ran_4 : decode cX11_ran 4 = .ok (.iload_n 1, 1) := by decide +kernel
theorem dX11_ran_5 : decode cX11_ran 5 = .ok (.bipush 6, 2) := by decide +kernel
theorem dX11_ran_7 : decode cX11_ran 7 = .ok (.if_icmp .le 5, 3) := by decide +kernel
theorem dX11_ran_10 : decode cX11_ran 10 = .ok (.iconst (-1), 1) := by decide +kernel
theorem dX11_ran_11 : decode cX11_ran 11 = .ok (.ireturn, 1) := by decide +kernel
theorem dX11_ran_12 : decode cX11_ran 12 = .ok (.aload_n 0, 1) := by decide +kernel
theorem dX11_ran_13 : decode cX11_ran 13 = .ok (.getfield 85, 3) := by decide +kernel
theorem dX11_ran_16 : decode cX11_ran 16 = .ok (.ifCond .eq 14, 3) := by decide +kernel
theorem dX11_ran_19 : decode cX11_ran 19 = .ok (.aload_n 0, 1) := by decide +kernel
theorem dX11_ran_20 : decode cX11_ran 20 = .ok (.getfield 46, 3) := by decide +kernel
theorem dX11_ran_23 : decode cX11_ran 23 = .ok (.iload_n 1, 1) := by decide +kernel
theorem dX11_ran_24 : decode cX11_ran 24 = .ok (.invokevirtual 116, 3) := by decide +kernel
theorem dX11_ran_27 : decode cX11_ran 27 = .ok (.goto 5, 3) := by decide +kernel
theorem dX11_ran_30 : decode cX11_ran 30 = .ok (.bipush (-3), 2) := by decide +kernel
theorem dX11_ran_32 : decode cX11_ran 32 = .ok (.ireturn, 1) := by decide +kernel
theorem dX11_trace_0 : decode cX11_trace 0 = .ok (.aload_n 0, 1) := by decide +kernel
theorem dX11_trace_1 : decode cX11_trace 1 = .ok (.getfield 85, 3) := by decide +kernel
theorem dX11_trace_4 : decode cX11_trace 4 = .ok (.ifCond .eq 27, 3) := by decide +kernel
theorem dX11_trace_7 : decode cX11_trace 7 = .ok (.iload_n 1, 1) := by decide +kernel
theorem dX11_trace_8 : decode cX11_trace 8 = .ok (.ifCond .lt 23, 3) := by decide +kernel
theorem dX11_trace_11 : decode cX11_trace 11 = .ok (.iload_n 1, 1) := by decide +kernel
theorem dX11_trace_12 : decode cX11_trace 12 = .ok (.aload_n 0, 1) := by decide +kernel
theorem dX11_trace_13 : decode cX11_trace 13 = .ok (.getfield 46, 3) := by decide +kernel
theorem dX11_trace_16 : decode cX11_trace 16 = .ok (.getfield 119, 3) := by decide +kernel
theorem dX11_trace_19 : decode cX11_trace 19 = .ok (.if_icmp .ge 12, 3) := by decide +kernel
theorem dX11_trace_22 : decode cX11_trace 22 = .ok (.iload_n 2, 1) := by decide +kernel
theorem dX11_trace_23 : decode cX11_trace 23 = .ok (.ifCond .lt 8, 3) := by decide +kernel
theorem dX11_trace_26 : decode cX11_trace 26 = .ok (.iload_n 2, 1) := by decide +kernel
theorem dX11_trace_27 : decode cX11_trace 27 = .ok (.iconst 1, 1) := by decide +kernel
theorem dX11_trace_28 : decode cX11_trace 28 = .ok (.if_icmp .le 5, 3) := by decide +kernel
theorem dX11_trace_31 : decode cX11_trace 31 = .ok (.iconst (-1), 1) := by decide +kernel
theorem dX11_trace_32 : decode cX11_trace 32 = .ok (.ireturn, 1) := by decide +kernel
theorem dX11_trace_33 : decode cX11_trace 33 = .ok (.aload_n 0, 1) := by decide +kernel
theorem dX11_trace_34 : decode cX11_trace 34 = .ok (.getfield 46, 3) := by decide +kernel
theorem dX11_trace_37 : decode cX11_trace 37 = .ok (.getfield 122, 3) := by decide +kernel
theorem dX11_trace_40 : decode cX11_trace 40 = .ok (.iconst 2, 1) := by decide +kernel
theorem dX11_trace_41 : decode cX11_trace 41 = .ok (.iload_n 1, 1) := by decide +kernel
theorem dX11_trace_42 : decode cX11_trace 42 = .ok (.imul, 1) := by decide +kernel
theorem dX11_trace_43 : decode cX11_trace 43 = .ok (.iload_n 2, 1) := by decide +kernel
theorem dX11_trace_44 : decode cX11_trace 44 = .ok (.iadd, 1) := by decide +kernel
theorem dX11_trace_45 : decode cX11_trace 45 = .ok (.invokestatic 125, 3) := by decide +kernel
theorem dX11_trace_48 : decode cX11_trace 48 = .ok (.ireturn, 1) := by decide +kernel
theorem dX11_suppressed_0 : decode cX11_suppressed 0 = .ok (.aload_n 0, 1) := by decide +kernel
theorem dX11_suppressed_1 : decode cX11_suppressed 1 = .ok (.getfield 85, 3) := by decide +kernel
theorem dX11_suppressed_4 : decode cX11_suppressed 4 = .ok (.ifCond .eq 13, 3) := by decide +kernel
theorem dX11_suppressed_7 : decode cX11_suppressed 7 = .ok (.aload_n 0, 1) := by decide +kernel
theorem dX11_suppressed_8 : decode cX11_suppressed 8 = .ok (.getfield 46, 3) := by decide +kernel
theorem dX11_suppressed_11 : decode cX11_suppressed 11 = .ok (.invokevirtual 129, 3) := by decide +kernel
theorem dX11_suppressed_14 : decode cX11_suppressed 14 = .ok (.goto 4, 3) := by decide +kernel
theorem dX11_suppressed_17 : decode cX11_suppressed 17 = .ok (.aconst_null, 1) := by decide +kernel
theorem dX11_suppressed_18 : decode cX11_suppressed 18 = .ok (.astore_n 3, 1) := by decide +kernel
theorem dX11_suppressed_19 : decode cX11_suppressed 19 = .ok (.aload_n 3, 1) := by decide +kernel
theorem dX11_suppressed_20 : decode cX11_suppressed 20 = .ok (.ifnull 24, 3) := by decide +kernel
theorem dX11_suppressed_23 : decode cX11_suppressed 23 = .ok (.iload_n 1, 1) := by decide +kernel
theorem dX11_suppressed_24 : decode cX11_suppressed 24 = .ok (.ifCond .lt 20, 3) := by decide +kernel
theorem dX11_suppressed_27 : decode cX11_suppressed 27 = .ok (.iload_n 1, 1) := by decide +kernel
theorem dX11_suppressed_28 : decode cX11_suppressed 28 = .ok (.aload_n 3, 1) := by decide +kernel
theorem dX11_suppressed_29 : decode cX11_suppressed 29 = .ok (.getfield 133, 3) := by decide +kernel
theorem dX11_suppressed_32 : decode cX11_suppressed 32 = .ok (.if_icmp .ge 12, 3) := by decide +kernel
theorem dX11_suppressed_35 : decode cX11_suppressed 35 = .ok (.iload_n 2, 1) := by decide +kernel
theorem dX11_suppressed_36 : decode cX11_suppressed 36 = .ok (.ifCond .lt 8, 3) := by decide +kernel
theorem dX11_suppressed_39 : decode cX11_suppressed 39 = .ok (.iload_n 2, 1) := by decide +kernel
theorem dX11_suppressed_40 : decode cX11_suppressed 40 = .ok (.iconst 1, 1) := by decide +kernel
theorem dX11_suppressed_41 : decode cX11_suppressed 41 = .ok (.if_icmp .le 5, 3) := by decide +kernel
theorem dX11_suppressed_44 : decode cX11_suppressed 44 = .ok (.iconst (-1), 1) := by decide +kernel
theorem dX11_suppressed_45 : decode cX11_suppressed 45 = .ok (.ireturn, 1) := by decide +kernel
theorem dX11_suppressed_46 : decode cX11_suppressed 46 = .ok (.iload_n 2, 1) := by decide +kernel
theorem dX11_suppressed_47 : decode cX11_suppressed 47 = .ok (.ifCond .ne 10, 3) := by decide +kernel
theorem dX11_suppressed_50 : decode cX11_suppressed 50 = .ok (.aload_n 3, 1) := by decide +kernel
theorem dX11_suppressed_51 : decode cX11_suppressed 51 = .ok (.getfield 138, 3) := by decide +kernel
theorem dX11_suppressed_54 : decode cX11_suppressed 54 = .ok (.goto 7, 3) := by decide +kernel
theorem dX11_suppressed_57 : decode cX11_suppressed 57 = .ok (.aload_n 3, 1) := by decide +kernel
theorem dX11_suppressed_58 : decode cX11_suppressed 58 = .ok (.getfield 141, 3) := by decide +kernel
theorem dX11_suppressed_61 : decode cX11_suppressed 61 = .ok (.iload_n 1, 1) := by decide +kernel
theorem dX11_suppressed_62 : decode cX11_suppressed 62 = .ok (.invokestatic 125, 3) := by decide +kernel
theorem dX11_suppressed_65 : decode cX11_suppressed 65 = .ok (.ireturn, 1) := by decide +kernel
theorem dX11_under_0 : decode cX11_under 0 = .ok (.aload_n 0, 1) := by decide +kernel
theorem dX11_under_1 : decode cX11_under 1 = .ok (.getfield 16, 3) := by decide +kernel
theorem dX11_under_4 : decode cX11_under 4 = .ok (.iload_n 1, 1) := by decide +kernel
theorem dX11_under_5 : decode cX11_under 5 = .ok (.invokevirtual 62, 3) := by decide +kernel
theorem dX11_under_8 : decode cX11_under 8 = .ok (.ifCond .eq 14, 3) := by decide +kernel
theorem dX11_under_11 : decode cX11_under 11 = .ok (.aload_n 0, 1) := by decide +kernel
theorem dX11_under_12 : decode cX11_under 12 = .ok (.getfield 16, 3) := by decide +kernel
theorem dX11_under_15 : decode cX11_under 15 = .ok (.iload_n 2, 1) := by decide +kernel
theorem dX11_under_16 : decode cX11_under 16 = .ok (.invokevirtual 62, 3) := by decide +kernel
theorem dX11_under_19 : decode cX11_under 19 = .ok (.ifCond .ne 5, 3) := by decide +kernel
theorem dX11_under_22 : decode cX11_under 22 = .ok (.iconst (-1), 1) := by decide +kernel
theorem dX11_under_23 : decode cX11_under 23 = .ok (.ireturn, 1) := by decide +kernel
theorem dX11_under_24 : decode cX11_under 24 = .ok (.aload_n 0, 1) := by decide +kernel
theorem dX11_under_25 : decode cX11_under 25 = .ok (.getfield 16, 3) := by decide +kernel
theorem dX11_under_28 : decode cX11_under 28 = .ok (.iload_n 1, 1) := by decide +kernel
theorem dX11_under_29 : decode cX11_under 29 = .ok (.iload_n 2, 1) := by decide +kernel
theorem dX11_under_30 : decode cX11_under 30 = .ok (.invokevirtual 144, 3) := by decide +kernel
theorem dX11_under_33 : decode cX11_under 33 = .ok (.ifCond .eq 7, 3) := by decide +kernel
theorem dX11_under_36 : decode cX11_under 36 = .ok (.iconst 1, 1) := by decide +kernel
theorem dX11_under_37 : decode cX11_under 37 = .ok (.goto 4, 3) := by decide +kernel
theorem dX11_under_40 : decode cX11_under 40 = .ok (.iconst 0, 1) := by decide +kernel
theorem dX11_under_41 : decode cX11_under 41 = .ok (.ireturn, 1) := by decide +kernel
theorem dX11_at_0 : decode cX11_at 0 = .ok (.iload_n 1, 1) := by decide +kernel
theorem dX11_at_1 : decode cX11_at 1 = .ok (.ifCond .lt 15, 3) := by decide +kernel
theorem dX11_at_4 : decode cX11_at 4 = .ok (.iload_n 1, 1) := by decide +kernel
theorem dX11_at_5 : decode cX11_at 5 = .ok (.aload_n 0, 1) := by decide +kernel
theorem dX11_at_6 : decode cX11_at 6 = .ok (.arraylength, 1) := by decide +kernel
theorem dX11_at_7 : decode cX11_at 7 = .ok (.if_icmp .ge 9, 3) := by decide +kernel
theorem dX11_at_10 : decode cX11_at 10 = .ok (.aload_n 0, 1) := by decide +kernel
theorem dX11_at_11 : decode cX11_at 11 = .ok (.iload_n 1, 1) := by decide +kernel
theorem dX11_at_12 : decode cX11_at 12 = .ok (.iaload, 1) := by decide +kernel
theorem dX11_at_13 : decode cX11_at 13 = .ok (.goto 4, 3) := by decide +kernel
theorem dX11_at_16 : decode cX11_at 16 = .ok (.iconst 0, 1) := by decide +kernel
theorem dX11_at_17 : decode cX11_at 17 = .ok (.ireturn, 1) := by decide +kernel
theorem dX11_put_0 : decode cX11_put 0 = .ok (.iload_n 1, 1) := by decide +kernel
theorem dX11_put_1 : decode cX11_put 1 = .ok (.ifCond .lt 13, 3) := by decide +kernel
theorem dX11_put_4 : decode cX11_put 4 = .ok (.iload_n 1, 1) := by decide +kernel
theorem dX11_put_5 : decode cX11_put 5 = .ok (.aload_n 0, 1) := by decide +kernel
theorem dX11_put_6 : decode cX11_put 6 = .ok (.arraylength, 1) := by decide +kernel
theorem dX11_put_7 : decode cX11_put 7 = .ok (.if_icmp .ge 7, 3) := by decide +kernel
theorem dX11_put_10 : decode cX11_put 10 = .ok (.aload_n 0, 1) := by decide +kernel
theorem dX11_put_11 : decode cX11_put 11 = .ok (.iload_n 1, 1) := by decide +kernel
theorem dX11_put_12 : decode cX11_put 12 = .ok (.iload_n 2, 1) := by decide +kernel
theorem dX11_put_13 : decode cX11_put 13 = .ok (.iastore, 1) := by decide +kernel
theorem dX11_put_14 : decode cX11_put 14 = .ok (.return_, 1) := by decide +kernel
end
