theorem dX12_one_295 : decode cX12_one 295 = .ok (.aload_n 0, 1) := by decide +kernel
theorem dX12_one_296 : decode cX12_one 296 = .ok (.iconst 4, 1) := by decide +kernel
theorem dX12_one_297 : decode cX12_one 297 = .ok (.bipush 16, 2) := by decide +kernel
theorem dX12_one_299 : decode cX12_one 299 = .ok (.invokevirtual 393, 3) := by decide +kernel
theorem dX12_one_302 : decode cX12_one 302 = .ok (.goto 26, 3) := by decide +kernel
theorem dX12_one_305 : decode cX12_one 305 = .ok (.aload_n 0, 1) := by decide +kernel
theorem dX12_one_306 : decode cX12_one 306 = .ok (.bipush 9, 2) := by decide +kernel
theorem dX12_one_308 : decode cX12_one 308 = .ok (.aload_n 0, 1) := by decide +kernel
theorem dX12_one_309 : decode cX12_one 309 = .ok (.getfield 180, 3) := by decide +kernel
theorem dX12_one_312 : decode cX12_one 312 = .ok (.iload_n 1, 1) := by decide +kernel
theorem dX12_one_313 : decode cX12_one 313 = .ok (.iaload, 1) := by decide +kernel
theorem dX12_one_314 : decode cX12_one 314 = .ok (.invokevirtual 464, 3) := by decide +kernel
theorem dX12_one_317 : decode cX12_one 317 = .ok (.pop, 1) := by decide +kernel
theorem dX12_one_318 : decode cX12_one 318 = .ok (.aload_n 0, 1) := by decide +kernel
theorem dX12_one_319 : decode cX12_one 319 = .ok (.dup, 1) := by decide +kernel
theorem dX12_one_320 : decode cX12_one 320 = .ok (.getfield 387, 3) := by decide +kernel
theorem dX12_one_323 : decode cX12_one 323 = .ok (.iconst 1, 1) := by decide +kernel
theorem dX12_one_324 : decode cX12_one 324 = .ok (.isub, 1) := by decide +kernel
theorem dX12_one_325 : decode cX12_one 325 = .ok (.putfield 387, 3) := by decide +kernel
theorem dX12_one_328 : decode cX12_one 328 = .ok (.return_, 1) := by decide +kernel
theorem dX12_entry_0 : decode cX12_entry 0 = .ok (.aload_n 0, 1) := by decide +kernel
theorem dX12_entry_1 : decode cX12_entry 1 = .ok (.getfield 93, 3) := by decide +kernel
theorem dX12_entry_4 : decode cX12_entry 4 = .ok (.aload_n 0, 1) := by decide +kernel
theorem dX12_entry_5 : decode cX12_entry 5 = .ok (.getfield 478, 3) := by decide +kernel
theorem dX12_entry_8 : decode cX12_entry 8 = .ok (.iload_n 2, 1) := by decide +kernel
theorem dX12_entry_9 : decode cX12_entry 9 = .ok (.iastore, 1) := by decide +kernel
theorem dX12_entry_10 : decode cX12_entry 10 = .ok (.aload_n 0, 1) := by decide +kernel
theorem dX12_entry_11 : decode cX12_entry 11 = .ok (.getfield 96, 3) := by decide +kernel
theorem dX12_entry_14 : decode cX12_entry 14 = .ok (.aload_n 0, 1) := by decide +kernel
theorem dX12_entry_15 : decode cX12_entry 15 = .ok (.getfield 478, 3) := by decide +kernel
theorem dX12_entry_18 : decode cX12_entry 18 = .ok (.aload_n 0, 1) := by decide +kernel
theorem dX12_entry_19 : decode cX12_entry 19 = .ok (.getfield 358, 3) := by decide +kernel
theorem dX12_entry_22 : decode cX12_entry 22 = .ok (.iastore, 1) := by decide +kernel
theorem dX12_entry_23 : decode cX12_entry 23 = .ok (.aload_n 0, 1) := by decide +kernel
theorem dX12_entry_24 : decode cX12_entry 24 = .ok (.getfield 99, 3) := by decide +kernel
theorem dX12_entry_27 : decode cX12_entry 27 = .ok (.aload_n 0, 1) := by decide +kernel
theorem dX12_entry_28 : decode cX12_entry 28 = .ok (.getfield 478, 3) := by decide +kernel
theorem dX12_entry_31 : decode cX12_entry 31 = .ok (.iconst (-1), 1) := by decide +kernel
theorem dX12_entry_32 : decode cX12_entry 32 = .ok (.iastore, 1) := by decide +kernel
theorem dX12_entry_33 : decode cX12_entry 33 = .ok (.aload_n 0, 1) := by decide +kernel
theorem dX12_entry_34 : decode cX12_entry 34 = .ok (.getfield 102, 3) := by decide +kernel
theorem dX12_entry_37 : decode cX12_entry 37 = .ok (.aload_n 0, 1) := by decide +kernel
theorem dX12_entry_38 : decode cX12_entry 38 = .ok (.getfield 478, 3) := by decide +kernel
theorem dX12_entry_41 : decode cX12_entry 41 = .ok (.iload_n 3, 1) := by decide +kernel
theorem dX12_entry_42 : decode cX12_entry 42 = .ok (.bastore, 1) := by decide +kernel
theorem dX12_entry_43 : decode cX12_entry 43 = .ok (.aload_n 0, 1) := by decide +kernel
theorem dX12_entry_44 : decode cX12_entry 44 = .ok (.getfield 183, 3) := by decide +kernel
theorem dX12_entry_47 : decode cX12_entry 47 = .ok (.iload_n 1, 1) := by decide +kernel
theorem dX12_entry_48 : decode cX12_entry 48 = .ok (.iaload, 1) := by decide +kernel
theorem dX12_entry_49 : decode cX12_entry 49 = .ok (.ifCond .ge 21, 3) := by decide +kernel
theorem dX12_entry_52 : decode cX12_entry 52 = .ok (.aload_n 0, 1) := by decide +kernel
theorem dX12_entry_53 : decode cX12_entry 53 = .ok (.getfield 87, 3) := by decide +kernel
theorem dX12_entry_56 : decode cX12_entry 56 = .ok (.aload_n 0, 1) := by decide +kernel
theorem dX12_entry_57 : decode cX12_entry 57 = .ok (.getfield 180, 3) := by decide +kernel
theorem dX12_entry_60 : decode cX12_entry 60 = .ok (.iload_n 1, 1) := by decide +kernel
theorem dX12_entry_61 : decode cX12_entry 61 = .ok (.iaload, 1) := by decide +kernel
theorem dX12_entry_62 : decode cX12_entry 62 = .ok (.aload_n 0, 1) := by decide +kernel
theorem dX12_entry_63 : decode cX12_entry 63 = .ok (.getfield 478, 3) := by decide +kernel
theorem dX12_entry_66 : decode cX12_entry 66 = .ok (.iastore, 1) := by decide +kernel
theorem dX12_entry_67 : decode cX12_entry 67 = .ok (.goto 18, 3) := by decide +kernel
theorem dX12_entry_70 : decode cX12_entry 70 = .ok (.aload_n 0, 1) := by decide +kernel
theorem dX12_entry_71 : decode cX12_entry 71 = .ok (.getfield 99, 3) := by decide +kernel
theorem dX12_entry_74 : decode cX12_entry 74 = .ok (.aload_n 0, 1) := by decide +kernel
theorem dX12_entry_75 : decode cX12_entry 75 = .ok (.getfield 183, 3) := by decide +kernel
theorem dX12_entry_78 : decode cX12_entry 78 = .ok (.iload_n 1, 1) := by decide +kernel
theorem dX12_entry_79 : decode cX12_entry 79 = .ok (.iaload, 1) := by decide +kernel
theorem dX12_entry_80 : decode cX12_entry 80 = .ok (.aload_n 0, 1) := by decide +kernel
theorem dX12_entry_81 : decode cX12_entry 81 = .ok (.getfield 478, 3) := by decide +kernel
theorem dX12_entry_84 : decode cX12_entry 84 = .ok (.iastore, 1) := by decide +kernel
theorem dX12_entry_85 : decode cX12_entry 85 = .ok (.aload_n 0, 1) := by decide +kernel
theorem dX12_entry_86 : decode cX12_entry 86 = .ok (.getfield 183, 3) := by decide +kernel
theorem dX12_entry_89 : decode cX12_entry 89 = .ok (.iload_n 1, 1) := by decide +kernel
theorem dX12_entry_90 : decode cX12_entry 90 = .ok (.aload_n 0, 1) := by decide +kernel
theorem dX12_entry_91 : decode cX12_entry 91 = .ok (.getfield 478, 3) := by decide +kernel
theorem dX12_entry_94 : decode cX12_entry 94 = .ok (.iastore, 1) := by decide +kernel
theorem dX12_entry_95 : decode cX12_entry 95 = .ok (.aload_n 0, 1) := by decide +kernel
theorem dX12_entry_96 : decode cX12_entry 96 = .ok (.dup, 1) := by decide +kernel
theorem dX12_entry_97 : decode cX12_entry 97 = .ok (.getfield 478, 3) := by decide +kernel
theorem dX12_entry_100 : decode cX12_entry 100 = .ok (.iconst 1, 1) := by decide +kernel
theorem dX12_entry_101 : decode cX12_entry 101 = .ok (.iadd, 1) := by decide +kernel
theorem dX12_entry_102 : decode cX12_entry 102 = .ok (.putfield 478, 3) := by decide +kernel
theorem dX12_entry_105 : decode cX12_entry 105 = .ok (.return_, 1) := by decide +kernel
theorem dX12_caseNumber_0 : decode cX12_caseNumber 0 = .ok (.aload_n 0, 1) := by decide +kernel
theorem dX12_caseNumber_1 : decode cX12_caseNumber 1 = .ok (.getfield 307, 3) := by decide +kernel
theorem dX12_caseNumber_4 : decode cX12_caseNumber 4 = .ok (.bipush 45, 2) := by decide +kernel
theorem dX12_caseNumber_6 : decode cX12_caseNumber 6 = .ok (.if_icmp .ne 7, 3) := by decide +kernel
theorem dX12_caseNumber_9 : decode cX12_caseNumber 9 = .ok (.iconst 1, 1) := by decide +kernel
theorem dX12_caseNumber_10 : decode cX12_caseNumber 10 = .ok (.goto 4, 3) := by decide +kernel
theorem dX12_caseNumber_13 : decode cX12_caseNumber 13 = .ok (.iconst 0, 1) := by decide +kernel
theorem dX12_caseNumber_14 : decode cX12_caseNumber 14 = .ok (.istore_n 2, 1) := by decide +kernel
theorem dX12_caseNumber_15 : decode cX12_caseNumber 15 = .ok (.iload_n 2, 1) := by decide +kernel
theorem dX12_caseNumber_16 : decode cX12_caseNumber 16 = .ok (.ifCond .eq 7, 3) := by decide +kernel
theorem dX12_caseNumber_19 : decode cX12_caseNumber 19 = .ok (.aload_n 0, 1) := by decide +kernel
theorem dX12_caseNumber_20 : decode cX12_caseNumber 20 = .ok (.invokevirtual 345, 3) := by decide +kernel
theorem dX12_caseNumber_23 : decode cX12_caseNumber 23 = .ok (.aload_n 0, 1) := by decide +kernel
theorem dX12_caseNumber_24 : decode cX12_caseNumber 24 = .ok (.aload_n 0, 1) := by decide +kernel
theorem dX12_caseNumber_25 : decode cX12_caseNumber 25 = .ok (.getfield 307, 3) := by decide +kernel
theorem dX12_caseNumber_28 : decode cX12_caseNumber 28 = .ok (.iconst 1, 1) := by decide +kernel
theorem dX12_caseNumber_29 : decode cX12_caseNumber 29 = .ok (.if_icmp .ne 7, 3) := by decide +kernel
theorem dX12_caseNumber_32 : decode cX12_caseNumber 32 = .ok (.iconst 1, 1) := by decide +kernel
theorem dX12_caseNumber_33 : decode cX12_caseNumber 33 = .ok (.goto 4, 3) := by decide +kernel
theorem dX12_caseNumber_36 : decode cX12_caseNumber 36 = .ok (.iconst 0, 1) := by decide +kernel
theorem dX12_caseNumber_37 : decode cX12_caseNumber 37 = .ok (.invokevirtual 341, 3) := by decide +kernel
theorem dX12_caseNumber_40 : decode cX12_caseNumber 40 = .ok (.ifCond .ne 5, 3) := by decide +kernel
theorem dX12_caseNumber_43 : decode cX12_caseNumber 43 = .ok (.iconst 0, 1) := by decide +kernel
theorem dX12_caseNumber_44 : decode cX12_caseNumber 44 = .ok (.ireturn, 1) := by decide +kernel
theorem dX12_caseNumber_45 : decode cX12_caseNumber 45 = .ok (.iload_n 2, 1) := by decide +kernel
theorem dX12_caseNumber_46 : decode cX12_caseNumber 46 = .ok (.ifCond .eq 11, 3) := by decide +kernel
theorem dX12_caseNumber_49 : decode cX12_caseNumber 49 = .ok (.aload_n 0, 1) := by decide +kernel
theorem dX12_caseNumber_50 : decode cX12_caseNumber 50 = .ok (.getfield 314, 3) := by decide +kernel
theorem dX12_caseNumber_53 : decode cX12_caseNumber 53 = .ok (.ineg, 1) := by decide +kernel
theorem dX12_caseNumber_54 : decode cX12_caseNumber 54 = .ok (.goto 7, 3) := by decide +kernel
theorem dX12_caseNumber_57 : decode cX12_caseNumber 57 = .ok (.aload_n 0, 1) := by decide +kernel
theorem dX12_caseNumber_58 : decode cX12_caseNumber 58 = .ok (.getfield 314, 3) := by decide +kernel
theorem dX12_caseNumber_61 : decode cX12_caseNumber 61 = .ok (.istore_n 3, 1) := by decide +kernel
theorem dX12_caseNumber_62 : decode cX12_caseNumber 62 = .ok (.aload_n 0, 1) := by decide +kernel
theorem dX12_caseNumber_63 : decode cX12_caseNumber 63 = .ok (.getfield 87, 3) := by decide +kernel
theorem dX12_caseNumber_66 : decode cX12_caseNumber 66 = .ok (.aload_n 0, 1) := by decide +kernel
theorem dX12_caseNumber_67 : decode cX12_caseNumber 67 = .ok (.getfield 180, 3) := by decide +kernel
theorem dX12_caseNumber_70 : decode cX12_caseNumber 70 = .ok (.iload_n 1, 1) := by decide +kernel
theorem dX12_caseNumber_71 : decode cX12_caseNumber 71 = .ok (.iaload, 1) := by decide +kernel
theorem dX12_caseNumber_72 : decode cX12_caseNumber 72 = .ok (.iaload, 1) := by decide +kernel
theorem dX12_caseNumber_73 : decode cX12_caseNumber 73 = .ok (.istore 4, 2) := by decide +kernel
theorem dX12_caseNumber_75 : decode cX12_caseNumber 75 = .ok (.iload 4, 2) := by decide +kernel
theorem dX12_caseNumber_77 : decode cX12_caseNumber 77 = .ok (.ifCond .lt 45, 3) := by decide +kernel
theorem dX12_caseNumber_80 : decode cX12_caseNumber 80 = .ok (.aload_n 0, 1) := by decide +kernel
theorem dX12_caseNumber_81 : decode cX12_caseNumber 81 = .ok (.getfield 102, 3) := by decide +kernel
theorem dX12_caseNumber_84 : decode cX12_caseNumber 84 = .ok (.iload 4, 2) := by decide +kernel
theorem dX12_caseNumber_86 : decode cX12_caseNumber 86 = .ok (.baload, 1) := by decide +kernel
theorem dX12_caseNumber_87 : decode cX12_caseNumber 87 = .ok (.ifCond .ne 23, 3) := by decide +kernel
theorem dX12_caseNumber_90 : decode cX12_caseNumber 90 = .ok (.aload_n 0, 1) := by decide +kernel
theorem dX12_caseNumber_91 : decode cX12_caseNumber 91 = .ok (.getfield 93, 3) := by decide +kernel
theorem dX12_caseNumber_94 : decode cX12_caseNumber 94 = .ok (.iload 4, 2) := by decide +kernel
theorem dX12_caseNumber_96 : decode cX12_caseNumber 96 = .ok (.iaload, 1) := by decide +kernel
theorem dX12_caseNumber_97 : decode cX12_caseNumber 97 = .ok (.iload_n 3, 1) := by decide +kernel
theorem dX12_caseNumber_98 : decode cX12_caseNumber 98 = .ok (.if_icmp .ne 12, 3) := by decide +kernel
theorem dX12_caseNumber_101 : decode cX12_caseNumber 101 = .ok (.aload_n 0, 1) := by decide +kernel
theorem dX12_caseNumber_102 : decode cX12_caseNumber 102 = .ok (.iconst 4, 1) := by decide +kernel
theorem dX12_caseNumber_103 : decode cX12_caseNumber 103 = .ok (.aload_n 0, 1) := by decide +kernel
theorem dX12_caseNumber_104 : decode cX12_caseNumber 104 = .ok (.getfield 304, 3) := by decide +kernel
theorem dX12_caseNumber_107 : decode cX12_caseNumber 107 = .ok (.invokevirtual 337, 3) := by decide +kernel
theorem dX12_caseNumber_110 : decode cX12_caseNumber 110 = .ok (.aload_n 0, 1) := by decide +kernel
theorem dX12_caseNumber_111 : decode cX12_caseNumber 111 = .ok (.getfield 99, 3) := by decide +kernel
theorem dX12_caseNumber_114 : decode cX12_caseNumber 114 = .ok (.iload 4, 2) := by decide +kernel
theorem dX12_caseNumber_116 : decode cX12_caseNumber 116 = .ok (.iaload, 1) := by decide +kernel
theorem dX12_caseNumber_117 : decode cX12_caseNumber 117 = .ok (.istore 4, 2) := by decide +kernel
theorem dX12_caseNumber_119 : decode cX12_caseNumber 119 = .ok (.goto (-44), 3) := by decide +kernel
theorem dX12_caseNumber_122 : decode cX12_caseNumber 122 = .ok (.aload_n 0, 1) := by decide +kernel
theorem dX12_caseNumber_123 : decode cX12_caseNumber 123 = .ok (.getfield 291, 3) := by decide +kernel
theorem dX12_caseNumber_126 : decode cX12_caseNumber 126 = .ok (.ifCond .ne 14, 3) := by decide +kernel
theorem dX12_caseNumber_129 : decode cX12_caseNumber 129 = .ok (.aload_n 0, 1) := by decide +kernel
theorem dX12_caseNumber_130 : decode cX12_caseNumber 130 = .ok (.iload_n 1, 1) := by decide +kernel
theorem dX12_caseNumber_131 : decode cX12_caseNumber 131 = .ok (.iload_n 3, 1) := by decide +kernel
theorem dX12_caseNumber_132 : decode cX12_caseNumber 132 = .ok (.iconst 0, 1) := by decide +kernel
theorem dX12_caseNumber_133 : decode cX12_caseNumber 133 = .ok (.invokevirtual 481, 3) := by decide +kernel
theorem dX12_caseNumber_136 : decode cX12_caseNumber 136 = .ok (.aload_n 0, 1) := by decide +kernel
theorem dX12_caseNumber_137 : decode cX12_caseNumber 137 = .ok (.invokevirtual 345, 3) := by decide +kernel
theorem dX12_caseNumber_140 : decode cX12_caseNumber 140 = .ok (.aload_n 0, 1) := by decide +kernel
theorem dX12_caseNumber_141 : decode cX12_caseNumber 141 = .ok (.getfield 291, 3) := by decide +kernel
theorem dX12_caseNumber_144 : decode cX12_caseNumber 144 = .ok (.ifCond .ne 7, 3) := by decide +kernel
theorem dX12_caseNumber_147 : decode cX12_caseNumber 147 = .ok (.iconst 1, 1) := by decide +kernel
theorem dX12_caseNumber_148 : decode cX12_caseNumber 148 = .ok (.goto 4, 3) := by decide +kernel
theorem dX12_caseNumber_151 : decode cX12_caseNumber 151 = .ok (.iconst 0, 1) := by decide +kernel
theorem dX12_caseNumber_152 : decode cX12_caseNumber 152 = .ok (.ireturn, 1) := by decide +kernel
theorem dX12_arms_0 : decode cX12_arms 0 = .ok (.aload_n 0, 1) := by decide +kernel
theorem dX12_arms_1 : decode cX12_arms 1 = .ok (.getfield 177, 3) := by decide +kernel
theorem dX12_arms_4 : decode cX12_arms 4 = .ok (.iload_n 1, 1) := by decide +kernel
theorem dX12_arms_5 : decode cX12_arms 5 = .ok (.iaload, 1) := by decide +kernel
theorem dX12_arms_6 : decode cX12_arms 6 = .ok (.tableswitch 456 0 6 #[42, 63, 131, 299, 456, 343, 405], 42) := by decide +kernel
theorem dX12_arms_48 : decode cX12_arms 48 = .ok (.aload_n 0, 1) := by decide +kernel
theorem dX12_arms_49 : decode cX12_arms 49 = .ok (.invokevirtual 345, 3) := by decide +kernel
theorem dX12_arms_52 : decode cX12_arms 52 = .ok (.aload_n 0, 1) := by decide +kernel
theorem dX12_arms_53 : decode cX12_arms 53 = .ok (.bipush 40, 2) := by decide +kernel
theorem dX12_arms_55 : decode cX12_arms 55 = .ok (.invokevirtual 475, 3) := by decide +kernel
theorem dX12_arms_58 : decode cX12_arms 58 = .ok (.pop, 1) := by decide +kernel
theorem dX12_arms_59 : decode cX12_arms 59 = .ok (.aload_n 0, 1) := by decide +kernel
theorem dX12_arms_60 : decode cX12_arms 60 = .ok (.iconst 1, 1) := by decide +kernel
theorem dX12_arms_61 : decode cX12_arms 61 = .ok (.bipush 16, 2) := by decide +kernel
theorem dX12_arms_63 : decode cX12_arms 63 = .ok (.invokevirtual 393, 3) := by decide +kernel
theorem dX12_arms_66 : decode cX12_arms 66 = .ok (.goto 418, 3) := by decide +kernel
theorem dX12_arms_69 : decode cX12_arms 69 = .ok (.aload_n 0, 1) := by decide +kernel
theorem dX12_arms_70 : decode cX12_arms 70 = .ok (.bipush 41, 2) := by decide +kernel
theorem dX12_arms_72 : decode cX12_arms 72 = .ok (.invokevirtual 468, 3) := by decide +kernel
theorem dX12_arms_75 : decode cX12_arms 75 = .ok (.pop, 1) := by decide +kernel
theorem dX12_arms_76 : decode cX12_arms 76 = .ok (.aload_n 0, 1) := by decide +kernel
theorem dX12_arms_77 : decode cX12_arms 77 = .ok (.getfield 180, 3) := by decide +kernel
theorem dX12_arms_80 : decode cX12_arms 80 = .ok (.iload_n 1, 1) := by decide +kernel
theorem dX12_arms_81 : decode cX12_arms 81 = .ok (.aload_n 0, 1) := by decide +kernel
theorem dX12_arms_82 : decode cX12_arms 82 = .ok (.bipush 29, 2) := by decide +kernel
theorem dX12_arms_84 : decode cX12_arms 84 = .ok (.iconst (-1), 1) := by decide +kernel
theorem dX12_arms_85 : decode cX12_arms 85 = .ok (.invokevirtual 464, 3) := by decide +kernel
theorem dX12_arms_88 : decode cX12_arms 88 = .ok (.iastore, 1) := by decide +kernel
theorem dX12_arms_89 : decode cX12_arms 89 = .ok (.aload_n 0, 1) := by decide +kernel
theorem dX12_arms_90 : decode cX12_arms 90 = .ok (.getfield 183, 3) := by decide +kernel
theorem dX12_arms_93 : decode cX12_arms 93 = .ok (.iload_n 1, 1) := by decide +kernel
theorem dX12_arms_94 : decode cX12_arms 94 = .ok (.iconst (-1), 1) := by decide +kernel
theorem dX12_arms_95 : decode cX12_arms 95 = .ok (.iastore, 1) := by decide +kernel
theorem dX12_arms_96 : decode cX12_arms 96 = .ok (.aload_n 0, 1) := by decide +kernel
theorem dX12_arms_97 : decode cX12_arms 97 = .ok (.getfield 186, 3) := by decide +kernel
theorem dX12_arms_100 : decode cX12_arms 100 = .ok (.iload_n 1, 1) := by decide +kernel
theorem dX12_arms_101 : decode cX12_arms 101 = .ok (.iconst 0, 1) := by decide +kernel
theorem dX12_arms_102 : decode cX12_arms 102 = .ok (.iastore, 1) := by decide +kernel
theorem dX12_arms_103 : decode cX12_arms 103 = .ok (.aload_n 0, 1) := by decide +kernel
theorem dX12_arms_104 : decode cX12_arms 104 = .ok (.dup, 1) := by decide +kernel
theorem dX12_arms_105 : decode cX12_arms 105 = .ok (.getfield 370, 3) := by decide +kernel
theorem dX12_arms_108 : decode cX12_arms 108 = .ok (.iconst 1, 1) := by decide +kernel
theorem dX12_arms_109 : decode cX12_arms 109 = .ok (.iadd, 1) := by decide +kernel
theorem dX12_arms_110 : decode cX12_arms 110 = .ok (.putfield 370, 3) := by decide +kernel
theorem dX12_arms_113 : decode cX12_arms 113 = .ok (.aload_n 0, 1) := by decide +kernel
theorem dX12_arms_114 : decode cX12_arms 114 = .ok (.iconst 3, 1) := by decide +kernel
theorem dX12_arms_115 : decode cX12_arms 115 = .ok (.lconst 0, 1) := by decide +kernel
theorem dX12_arms_116 : decode cX12_arms 116 = .ok (.invokevirtual 373, 3) := by decide +kernel
theorem dX12_arms_119 : decode cX12_arms 119 = .ok (.pop, 1) := by decide +kernel
theorem dX12_arms_120 : decode cX12_arms 120 = .ok (.aload_n 0, 1) := by decide +kernel
theorem dX12_arms_121 : decode cX12_arms 121 = .ok (.bipush 123, 2) := by decide +kernel
theorem dX12_arms_123 : decode cX12_arms 123 = .ok (.invokevirtual 475, 3) := by decide +kernel
theorem dX12_arms_126 : decode cX12_arms 126 = .ok (.pop, 1) := by decide +kernel
theorem dX12_arms_127 : decode cX12_arms 127 = .ok (.aload_n 0, 1) := by decide +kernel
theorem dX12_arms_128 : decode cX12_arms 128 = .ok (.getfield 177, 3) := by decide +kernel
theorem dX12_arms_131 : decode cX12_arms 131 = .ok (.iload_n 1, 1) := by decide +kernel
theorem dX12_arms_132 : decode cX12_arms 132 = .ok (.iconst 2, 1) := by decide +kernel
theorem dX12_arms_133 : decode cX12_arms 133 = .ok (.iastore, 1) := by decide +kernel
theorem dX12_arms_134 : decode cX12_arms 134 = .ok (.goto 350, 3) := by decide +kernel
theorem dX12_arms_137 : decode cX12_arms 137 = .ok (.aload_n 0, 1) := by decide +kernel
theorem dX12_arms_138 : decode cX12_arms 138 = .ok (.getfield 307, 3) := by decide +kernel
theorem dX12_arms_141 : decode cX12_arms 141 = .ok (.sipush 429, 3) := by decide +kernel
theorem dX12_arms_144 : decode cX12_arms 144 = .ok (.if_icmp .ne 17, 3) := by decide +kernel
theorem dX12_arms_147 : decode cX12_arms 147 = .ok (.aload_n 0, 1) := by decide +kernel
theorem dX12_arms_148 : decode cX12_arms 148 = .ok (.invokevirtual 345, 3) := by decide +kernel
theorem dX12_arms_151 : decode cX12_arms 151 = .ok (.aload_n 0, 1) := by decide +kernel
theorem dX12_arms_152 : decode cX12_arms 152 = .ok (.getfield 177, 3) := by decide +kernel
theorem dX12_arms_155 : decode cX12_arms 155 = .ok (.iload_n 1, 1) := by decide +kernel
theorem dX12_arms_156 : decode cX12_arms 156 = .ok (.iconst 3, 1) := by decide +kernel
theorem dX12_arms_157 : decode cX12_arms 157 = .ok (.iastore, 1) := by decide +kernel
theorem dX12_arms_158 : decode cX12_arms 158 = .ok (.goto 326, 3) := by decide +kernel
theorem dX12_arms_161 : decode cX12_arms 161 = .ok (.aload_n 0, 1) := by decide +kernel
theorem dX12_arms_162 : decode cX12_arms 162 = .ok (.getfield 307, 3) := by decide +kernel
theorem dX12_arms_165 : decode cX12_arms 165 = .ok (.sipush 430, 3) := by decide +kernel
theorem dX12_arms_168 : decode cX12_arms 168 = .ok (.if_icmp .ne 51, 3) := by decide +kernel
theorem dX12_arms_171 : decode cX12_arms 171 = .ok (.aload_n 0, 1) := by decide +kernel
theorem dX12_arms_172 : decode cX12_arms 172 = .ok (.getfield 186, 3) := by decide +kernel
theorem dX12_arms_175 : decode cX12_arms 175 = .ok (.iload_n 1, 1) := by decide +kernel
theorem dX12_arms_176 : decode cX12_arms 176 = .ok (.iaload, 1) := by decide +kernel
theorem dX12_arms_177 : decode cX12_arms 177 = .ok (.iconst 1, 1) := by decide +kernel
theorem dX12_arms_178 : decode cX12_arms 178 = .ok (.if_icmp .ne 13, 3) := by decide +kernel
theorem dX12_arms_181 : decode cX12_arms 181 = .ok (.aload_n 0, 1) := by decide +kernel
theorem dX12_arms_182 : decode cX12_arms 182 = .ok (.iconst 4, 1) := by decide +kernel
theorem dX12_arms_183 : decode cX12_arms 183 = .ok (.aload_n 0, 1) := by decide +kernel
theorem dX12_arms_184 : decode cX12_arms 184 = .ok (.getfield 304, 3) := by decide +kernel
theorem dX12_arms_187 : decode cX12_arms 187 = .ok (.invokevirtual 337, 3) := by decide +kernel
theorem dX12_arms_190 : decode cX12_arms 190 = .ok (.return_, 1) := by decide +kernel
theorem dX12_arms_191 : decode cX12_arms 191 = .ok (.aload_n 0, 1) := by decide +kernel
theorem dX12_arms_192 : decode cX12_arms 192 = .ok (.getfield 186, 3) := by decide +kernel
theorem dX12_arms_195 : decode cX12_arms 195 = .ok (.iload_n 1, 1) := by decide +kernel
theorem dX12_arms_196 : decode cX12_arms 196 = .ok (.iconst 1, 1) := by decide +kernel
theorem dX12_arms_197 : decode cX12_arms 197 = .ok (.iastore, 1) := by decide +kernel
theorem dX12_arms_198 : decode cX12_arms 198 = .ok (.aload_n 0, 1) := by decide +kernel
theorem dX12_arms_199 : decode cX12_arms 199 = .ok (.iload_n 1, 1) := by decide +kernel
theorem dX12_arms_200 : decode cX12_arms 200 = .ok (.iconst 0, 1) := by decide +kernel
theorem dX12_arms_201 : decode cX12_arms 201 = .ok (.iconst 1, 1) := by decide +kernel
theorem dX12_arms_202 : decode cX12_arms 202 = .ok (.invokevirtual 481, 3) := by decide +kernel
theorem dX12_arms_205 : decode cX12_arms 205 = .ok (.aload_n 0, 1) := by decide +kernel
theorem dX12_arms_206 : decode cX12_arms 206 = .ok (.invokevirtual 345, 3) := by decide +kernel
theorem dX12_arms_209 : decode cX12_arms 209 = .ok (.aload_n 0, 1) := by decide +kernel
theorem dX12_arms_210 : decode cX12_arms 210 = .ok (.getfield 177, 3) := by decide +kernel
theorem dX12_arms_213 : decode cX12_arms 213 = .ok (.iload_n 1, 1) := by decide +kernel
theorem dX12_arms_214 : decode cX12_arms 214 = .ok (.iconst 5, 1) := by decide +kernel
theorem dX12_arms_215 : decode cX12_arms 215 = .ok (.iastore, 1) := by decide +kernel
theorem dX12_arms_216 : decode cX12_arms 216 = .ok (.goto 268, 3) := by decide +kernel
theorem dX12_arms_219 : decode cX12_arms 219 = .ok (.aload_n 0, 1) := by decide +kernel
theorem dX12_arms_220 : decode cX12_arms 220 = .ok (.aload_n 0, 1) := by decide +kernel
theorem dX12_arms_221 : decode cX12_arms 221 = .ok (.getfield 307, 3) := by decide +kernel
theorem dX12_arms_224 : decode cX12_arms 224 = .ok (.bipush 125, 2) := by decide +kernel
theorem dX12_arms_226 : decode cX12_arms 226 = .ok (.if_icmp .ne 17, 3) := by decide +kernel
theorem dX12_arms_229 : decode cX12_arms 229 = .ok (.aload_n 0, 1) := by decide +kernel
theorem dX12_arms_230 : decode cX12_arms 230 = .ok (.getfield 186, 3) := by decide +kernel
theorem dX12_arms_233 : decode cX12_arms 233 = .ok (.iload_n 1, 1) := by decide +kernel
theorem dX12_arms_234 : decode cX12_arms 234 = .ok (.iaload, 1) := by decide +kernel
theorem dX12_arms_235 : decode cX12_arms 235 = .ok (.iconst 1, 1) := by decide +kernel
theorem dX12_arms_236 : decode cX12_arms 236 = .ok (.if_icmp .ne 7, 3) := by decide +kernel
theorem dX12_arms_239 : decode cX12_arms 239 = .ok (.iconst 1, 1) := by decide +kernel
theorem dX12_arms_240 : decode cX12_arms 240 = .ok (.goto 4, 3) := by decide +kernel
theorem dX12_arms_243 : decode cX12_arms 243 = .ok (.iconst 0, 1) := by decide +kernel
theorem dX12_arms_244 : decode cX12_arms 244 = .ok (.invokevirtual 341, 3) := by decide +kernel
theorem dX12_arms_247 : decode cX12_arms 247 = .ok (.ifCond .eq 237, 3) := by decide +kernel
theorem dX12_arms_250 : decode cX12_arms 250 = .ok (.aload_n 0, 1) := by decide +kernel
theorem dX12_arms_251 : decode cX12_arms 251 = .ok (.bipush 125, 2) := by decide +kernel
theorem dX12_arms_253 : decode cX12_arms 253 = .ok (.invokevirtual 468, 3) := by decide +kernel
theorem dX12_arms_256 : decode cX12_arms 256 = .ok (.pop, 1) := by decide +kernel
theorem dX12_arms_257 : decode cX12_arms 257 = .ok (.aload_n 0, 1) := by decide +kernel
theorem dX12_arms_258 : decode cX12_arms 258 = .ok (.dup, 1) := by decide +kernel
theorem dX12_arms_259 : decode cX12_arms 259 = .ok (.getfield 367, 3) := by decide +kernel
theorem dX12_arms_262 : decode cX12_arms 262 = .ok (.iconst 1, 1) := by decide +kernel
theorem dX12_arms_263 : decode cX12_arms 263 = .ok (.isub, 1) := by decide +kernel
theorem dX12_arms_264 : decode cX12_arms 264 = .ok (.putfield 367, 3) := by decide +kernel
theorem dX12_arms_267 : decode cX12_arms 267 = .ok (.aload_n 0, 1) := by decide +kernel
theorem dX12_arms_268 : decode cX12_arms 268 = .ok (.dup, 1) := by decide +kernel
theorem dX12_arms_269 : decode cX12_arms 269 = .ok (.getfield 370, 3) := by decide +kernel
theorem dX12_arms_272 : decode cX12_arms 272 = .ok (.iconst 1, 1) := by decide +kernel
theorem dX12_arms_273 : decode cX12_arms 273 = .ok (.isub, 1) := by decide +kernel
theorem dX12_arms_274 : decode cX12_arms 274 = .ok (.putfield 370, 3) := by decide +kernel
theorem dX12_arms_277 : decode cX12_arms 277 = .ok (.aload_n 0, 1) := by decide +kernel
theorem dX12_arms_278 : decode cX12_arms 278 = .ok (.getfield 90, 3) := by decide +kernel
theorem dX12_arms_281 : decode cX12_arms 281 = .ok (.aload_n 0, 1) := by decide +kernel
theorem dX12_arms_282 : decode cX12_arms 282 = .ok (.getfield 180, 3) := by decide +kernel
theorem dX12_arms_285 : decode cX12_arms 285 = .ok (.iload_n 1, 1) := by decide +kernel
theorem dX12_arms_286 : decode cX12_arms 286 = .ok (.iaload, 1) := by decide +kernel
theorem dX12_arms_287 : decode cX12_arms 287 = .ok (.aload_n 0, 1) := by decide +kernel
theorem dX12_arms_288 : decode cX12_arms 288 = .ok (.getfield 358, 3) := by decide +kernel
theorem dX12_arms_291 : decode cX12_arms 291 = .ok (.iastore, 1) := by decide +kernel
theorem dX12_arms_292 : decode cX12_arms 292 = .ok (.aload_n 0, 1) := by decide +kernel
theorem dX12_arms_293 : decode cX12_arms 293 = .ok (.dup, 1) := by decide +kernel
theorem dX12_arms_294 : decode cX12_arms 294 = .ok (.getfield 387, 3) := by decide +kernel
theorem dX12_arms_297 : decode cX12_arms 297 = .ok (.iconst 1, 1) := by decide +kernel
theorem dX12_arms_298 : decode cX12_arms 298 = .ok (.isub, 1) := by decide +kernel
theorem dX12_arms_299 : decode cX12_arms 299 = .ok (.putfield 387, 3) := by decide +kernel
theorem dX12_arms_302 : decode cX12_arms 302 = .ok (.goto 182, 3) := by decide +kernel
theorem dX12_arms_305 : decode cX12_arms 305 = .ok (.aload_n 0, 1) := by decide +kernel
theorem dX12_arms_306 : decode cX12_arms 306 = .ok (.iload_n 1, 1) := by decide +kernel
theorem dX12_arms_307 : decode cX12_arms 307 = .ok (.invokevirtual 484, 3) := by decide +kernel
theorem dX12_arms_310 : decode cX12_arms 310 = .ok (.ifCond .eq 174, 3) := by decide +kernel
theorem dX12_arms_313 : decode cX12_arms 313 = .ok (.aload_n 0, 1) := by decide +kernel
theorem dX12_arms_314 : decode cX12_arms 314 = .ok (.getfield 177, 3) := by decide +kernel
theorem dX12_arms_317 : decode cX12_arms 317 = .ok (.iload_n 1, 1) := by decide +kernel
theorem dX12_arms_318 : decode cX12_arms 318 = .ok (.aload_n 0, 1) := by decide +kernel
theorem dX12_arms_319 : decode cX12_arms 319 = .ok (.getfield 307, 3) := by decide +kernel
theorem dX12_arms_322 : decode cX12_arms 322 = .ok (.bipush 44, 2) := by decide +kernel
theorem dX12_arms_324 : decode cX12_arms 324 = .ok (.if_icmp .ne 7, 3) := by decide +kernel
theorem dX12_arms_327 : decode cX12_arms 327 = .ok (.iconst 3, 1) := by decide +kernel
theorem dX12_arms_328 : decode cX12_arms 328 = .ok (.goto 4, 3) := by decide +kernel
theorem dX12_arms_331 : decode cX12_arms 331 = .ok (.iconst 5, 1) := by decide +kernel
theorem dX12_arms_332 : decode cX12_arms 332 = .ok (.iastore, 1) := by decide +kernel
theorem dX12_arms_333 : decode cX12_arms 333 = .ok (.aload_n 0, 1) := by decide +kernel
theorem dX12_arms_334 : decode cX12_arms 334 = .ok (.getfield 307, 3) := by decide +kernel
theorem dX12_arms_337 : decode cX12_arms 337 = .ok (.bipush 44, 2) := by decide +kernel
theorem dX12_arms_339 : decode cX12_arms 339 = .ok (.if_icmp .ne 145, 3) := by decide +kernel
theorem dX12_arms_342 : decode cX12_arms 342 = .ok (.aload_n 0, 1) := by decide +kernel
theorem dX12_arms_343 : decode cX12_arms 343 = .ok (.invokevirtual 345, 3) := by decide +kernel
theorem dX12_arms_346 : decode cX12_arms 346 = .ok (.goto 138, 3) := by decide +kernel
theorem dX12_arms_349 : decode cX12_arms 349 = .ok (.aload_n 0, 1) := by decide +kernel
theorem dX12_arms_350 : decode cX12_arms 350 = .ok (.sipush 306, 3) := by decide +kernel
theorem dX12_arms_353 : decode cX12_arms 353 = .ok (.invokevirtual 355, 3) := by decide +kernel
theorem dX12_arms_356 : decode cX12_arms 356 = .ok (.pop, 1) := by decide +kernel
theorem dX12_arms_357 : decode cX12_arms 357 = .ok (.aload_n 0, 1) := by decide +kernel
theorem dX12_arms_358 : decode cX12_arms 358 = .ok (.getfield 291, 3) := by decide +kernel
theorem dX12_arms_361 : decode cX12_arms 361 = .ok (.ifCond .ne 39, 3) := by decide +kernel
theorem dX12_arms_364 : decode cX12_arms 364 = .ok (.aload_n 0, 1) := by decide +kernel
theorem dX12_arms_365 : decode cX12_arms 365 = .ok (.getfield 307, 3) := by decide +kernel
theorem dX12_arms_368 : decode cX12_arms 368 = .ok (.bipush 123, 2) := by decide +kernel
theorem dX12_arms_370 : decode cX12_arms 370 = .ok (.if_icmp .ne 30, 3) := by decide +kernel
theorem dX12_arms_373 : decode cX12_arms 373 = .ok (.aload_n 0, 1) := by decide +kernel
theorem dX12_arms_374 : decode cX12_arms 374 = .ok (.bipush 123, 2) := by decide +kernel
theorem dX12_arms_376 : decode cX12_arms 376 = .ok (.invokevirtual 475, 3) := by decide +kernel
theorem dX12_arms_379 : decode cX12_arms 379 = .ok (.pop, 1) := by decide +kernel
theorem dX12_arms_380 : decode cX12_arms 380 = .ok (.aload_n 0, 1) := by decide +kernel
theorem dX12_arms_381 : decode cX12_arms 381 = .ok (.getfield 195, 3) := by decide +kernel
theorem dX12_arms_384 : decode cX12_arms 384 = .ok (.iload_n 1, 1) := by decide +kernel
theorem dX12_arms_385 : decode cX12_arms 385 = .ok (.aload_n 0, 1) := by decide +kernel
theorem dX12_arms_386 : decode cX12_arms 386 = .ok (.getfield 361, 3) := by decide +kernel
theorem dX12_arms_389 : decode cX12_arms 389 = .ok (.iastore, 1) := by decide +kernel
theorem dX12_arms_390 : decode cX12_arms 390 = .ok (.aload_n 0, 1) := by decide +kernel
theorem dX12_arms_391 : decode cX12_arms 391 = .ok (.bipush 6, 2) := by decide +kernel
theorem dX12_arms_393 : decode cX12_arms 393 = .ok (.iconst 1, 1) := by decide +kernel
theorem dX12_arms_394 : decode cX12_arms 394 = .ok (.invokevirtual 393, 3) := by decide +kernel
theorem dX12_arms_397 : decode cX12_arms 397 = .ok (.goto 87, 3) := by decide +kernel
theorem dX12_arms_400 : decode cX12_arms 400 = .ok (.aload_n 0, 1) := by decide +kernel
theorem dX12_arms_401 : decode cX12_arms 401 = .ok (.bipush 7, 2) := by decide +kernel
theorem dX12_arms_403 : decode cX12_arms 403 = .ok (.bipush 16, 2) := by decide +kernel
theorem dX12_arms_405 : decode cX12_arms 405 = .ok (.invokevirtual 393, 3) := by decide +kernel
theorem dX12_arms_408 : decode cX12_arms 408 = .ok (.goto 76, 3) := by decide +kernel
theorem dX12_arms_411 : decode cX12_arms 411 = .ok (.aload_n 0, 1) := by decide +kernel
theorem dX12_arms_412 : decode cX12_arms 412 = .ok (.getfield 396, 3) := by decide +kernel
theorem dX12_arms_415 : decode cX12_arms 415 = .ok (.ifCond .eq 20, 3) := by decide +kernel
theorem dX12_arms_418 : decode cX12_arms 418 = .ok (.aload_n 0, 1) := by decide +kernel
theorem dX12_arms_419 : decode cX12_arms 419 = .ok (.getfield 307, 3) := by decide +kernel
theorem dX12_arms_422 : decode cX12_arms 422 = .ok (.bipush 125, 2) := by decide +kernel
theorem dX12_arms_424 : decode cX12_arms 424 = .ok (.if_icmp .ne 11, 3) := by decide +kernel
theorem dX12_arms_427 : decode cX12_arms 427 = .ok (.aload_n 0, 1) := by decide +kernel
theorem dX12_arms_428 : decode cX12_arms 428 = .ok (.aload_n 0, 1) := by decide +kernel
theorem dX12_arms_429 : decode cX12_arms 429 = .ok (.getfield 304, 3) := by decide +kernel
theorem dX12_arms_432 : decode cX12_arms 432 = .ok (.invokevirtual 487, 3) := by decide +kernel
theorem dX12_arms_435 : decode cX12_arms 435 = .ok (.aload_n 0, 1) := by decide +kernel
theorem dX12_arms_436 : decode cX12_arms 436 = .ok (.bipush 125, 2) := by decide +kernel
theorem dX12_arms_438 : decode cX12_arms 438 = .ok (.invokevirtual 468, 3) := by decide +kernel
theorem dX12_arms_441 : decode cX12_arms 441 = .ok (.pop, 1) := by decide +kernel
theorem dX12_arms_442 : decode cX12_arms 442 = .ok (.aload_n 0, 1) := by decide +kernel
theorem dX12_arms_443 : decode cX12_arms 443 = .ok (.aload_n 0, 1) := by decide +kernel
theorem dX12_arms_444 : decode cX12_arms 444 = .ok (.getfield 195, 3) := by decide +kernel
theorem dX12_arms_447 : decode cX12_arms 447 = .ok (.iload_n 1, 1) := by decide +kernel
theorem dX12_arms_448 : decode cX12_arms 448 = .ok (.iaload, 1) := by decide +kernel
theorem dX12_arms_449 : decode cX12_arms 449 = .ok (.putfield 361, 3) := by decide +kernel
theorem dX12_arms_452 : decode cX12_arms 452 = .ok (.aload_n 0, 1) := by decide +kernel
theorem dX12_arms_453 : decode cX12_arms 453 = .ok (.getfield 177, 3) := by decide +kernel
theorem dX12_arms_456 : decode cX12_arms 456 = .ok (.iload_n 1, 1) := by decide +kernel
theorem dX12_arms_457 : decode cX12_arms 457 = .ok (.iconst 2, 1) := by decide +kernel
theorem dX12_arms_458 : decode cX12_arms 458 = .ok (.iastore, 1) := by decide +kernel
theorem dX12_arms_459 : decode cX12_arms 459 = .ok (.goto 25, 3) := by decide +kernel
theorem dX12_arms_462 : decode cX12_arms 462 = .ok (.aload_n 0, 1) := by decide +kernel
theorem dX12_arms_463 : decode cX12_arms 463 = .ok (.bipush 59, 2) := by decide +kernel
theorem dX12_arms_465 : decode cX12_arms 465 = .ok (.invokevirtual 355, 3) := by decide +kernel
theorem dX12_arms_468 : decode cX12_arms 468 = .ok (.pop, 1) := by decide +kernel
theorem dX12_arms_469 : decode cX12_arms 469 = .ok (.aload_n 0, 1) := by decide +kernel
theorem dX12_arms_470 : decode cX12_arms 470 = .ok (.bipush 30, 2) := by decide +kernel
theorem dX12_arms_472 : decode cX12_arms 472 = .ok (.iconst 0, 1) := by decide +kernel
theorem dX12_arms_473 : decode cX12_arms 473 = .ok (.invokevirtual 464, 3) := by decide +kernel
theorem dX12_arms_476 : decode cX12_arms 476 = .ok (.pop, 1) := by decide +kernel
theorem dX12_arms_477 : decode cX12_arms 477 = .ok (.aload_n 0, 1) := by decide +kernel
theorem dX12_arms_478 : decode cX12_arms 478 = .ok (.getfield 177, 3) := by decide +kernel
theorem dX12_arms_481 : decode cX12_arms 481 = .ok (.iload_n 1, 1) := by decide +kernel
theorem dX12_arms_482 : decode cX12_arms 482 = .ok (.iconst 2, 1) := by decide +kernel
theorem dX12_arms_483 : decode cX12_arms 483 = .ok (.iastore, 1) := by decide +kernel
theorem dX12_arms_484 : decode cX12_arms 484 = .ok (.return_, 1) := by decide +kernel
theorem dX12_list_0 : decode cX12_list 0 = .ok (.aload_n 0, 1) := by decide +kernel
theorem dX12_list_1 : decode cX12_list 1 = .ok (.getfield 177, 3) := by decide +kernel
theorem dX12_list_4 : decode cX12_list 4 = .ok (.iload_n 1, 1) := by decide +kernel
theorem dX12_list_5 : decode cX12_list 5 = .ok (.iaload, 1) := by decide +kernel
theorem dX12_list_6 : decode cX12_list 6 = .ok (.ifCond .ne 13, 3) := by decide +kernel
theorem dX12_list_9 : decode cX12_list 9 = .ok (.aload_n 0, 1) := by decide +kernel
theorem dX12_list_10 : decode cX12_list 10 = .ok (.getfield 180, 3) := by decide +kernel
theorem dX12_list_13 : decode cX12_list 13 = .ok (.iload_n 1, 1) := by decide +kernel
theorem dX12_list_14 : decode cX12_list 14 = .ok (.iconst 1, 1) := by decide +kernel
theorem dX12_list_15 : decode cX12_list 15 = .ok (.iastore, 1) := by decide +kernel
theorem dX12_list_16 : decode cX12_list 16 = .ok (.goto 21, 3) := by decide +kernel
theorem dX12_list_19 : decode cX12_list 19 = .ok (.aload_n 0, 1) := by decide +kernel
theorem dX12_list_20 : decode cX12_list 20 = .ok (.getfield 180, 3) := by decide +kernel
theorem dX12_list_23 : decode cX12_list 23 = .ok (.iload_n 1, 1) := by decide +kernel
theorem dX12_list_24 : decode cX12_list 24 = .ok (.aload_n 0, 1) := by decide +kernel
theorem dX12_list_25 : decode cX12_list 25 = .ok (.getfield 396, 3) := by decide +kernel
theorem dX12_list_28 : decode cX12_list 28 = .ok (.ifCond .eq 7, 3) := by decide +kernel
theorem dX12_list_31 : decode cX12_list 31 = .ok (.iconst 1, 1) := by decide +kernel
theorem dX12_list_32 : decode cX12_list 32 = .ok (.goto 4, 3) := by decide +kernel
theorem dX12_list_35 : decode cX12_list 35 = .ok (.iconst 0, 1) := by decide +kernel
theorem dX12_list_36 : decode cX12_list 36 = .ok (.iastore, 1) := by decide +kernel
theorem dX12_list_37 : decode cX12_list 37 = .ok (.aload_n 0, 1) := by decide +kernel
theorem dX12_list_38 : decode cX12_list 38 = .ok (.getfield 307, 3) := by decide +kernel
theorem dX12_list_41 : decode cX12_list 41 = .ok (.bipush 125, 2) := by decide +kernel
theorem dX12_list_43 : decode cX12_list 43 = .ok (.if_icmp .eq 30, 3) := by decide +kernel
theorem dX12_list_46 : decode cX12_list 46 = .ok (.aload_n 0, 1) := by decide +kernel
theorem dX12_list_47 : decode cX12_list 47 = .ok (.getfield 307, 3) := by decide +kernel
theorem dX12_list_50 : decode cX12_list 50 = .ok (.sipush 429, 3) := by decide +kernel
theorem dX12_list_53 : decode cX12_list 53 = .ok (.if_icmp .eq 20, 3) := by decide +kernel
theorem dX12_list_56 : decode cX12_list 56 = .ok (.aload_n 0, 1) := by decide +kernel
theorem dX12_list_57 : decode cX12_list 57 = .ok (.getfield 307, 3) := by decide +kernel
theorem dX12_list_60 : decode cX12_list 60 = .ok (.sipush 430, 3) := by decide +kernel
theorem dX12_list_63 : decode cX12_list 63 = .ok (.if_icmp .eq 10, 3) := by decide +kernel
theorem dX12_list_66 : decode cX12_list 66 = .ok (.aload_n 0, 1) := by decide +kernel
theorem dX12_list_67 : decode cX12_list 67 = .ok (.getfield 307, 3) := by decide +kernel
theorem dX12_list_70 : decode cX12_list 70 = .ok (.ifCond .ne 23, 3) := by decide +kernel
theorem dX12_list_73 : decode cX12_list 73 = .ok (.aload_n 0, 1) := by decide +kernel
theorem dX12_list_74 : decode cX12_list 74 = .ok (.aload_n 0, 1) := by decide +kernel
