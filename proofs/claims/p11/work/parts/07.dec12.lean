theorem dX12_raise_42 : decode cX12_raise 42 = .ok (.iload_n 1, 1) := by decide +kernel
theorem dX12_raise_43 : decode cX12_raise 43 = .ok (.iastore, 1) := by decide +kernel
theorem dX12_raise_44 : decode cX12_raise 44 = .ok (.aload_n 0, 1) := by decide +kernel
theorem dX12_raise_45 : decode cX12_raise 45 = .ok (.getfield 219, 3) := by decide +kernel
theorem dX12_raise_48 : decode cX12_raise 48 = .ok (.aload_n 0, 1) := by decide +kernel
theorem dX12_raise_49 : decode cX12_raise 49 = .ok (.getfield 595, 3) := by decide +kernel
theorem dX12_raise_52 : decode cX12_raise 52 = .ok (.iload_n 2, 1) := by decide +kernel
theorem dX12_raise_53 : decode cX12_raise 53 = .ok (.iastore, 1) := by decide +kernel
theorem dX12_raise_54 : decode cX12_raise 54 = .ok (.aload_n 0, 1) := by decide +kernel
theorem dX12_raise_55 : decode cX12_raise 55 = .ok (.getfield 222, 3) := by decide +kernel
theorem dX12_raise_58 : decode cX12_raise 58 = .ok (.aload_n 0, 1) := by decide +kernel
theorem dX12_raise_59 : decode cX12_raise 59 = .ok (.getfield 595, 3) := by decide +kernel
theorem dX12_raise_62 : decode cX12_raise 62 = .ok (.iconst 0, 1) := by decide +kernel
theorem dX12_raise_63 : decode cX12_raise 63 = .ok (.iastore, 1) := by decide +kernel
theorem dX12_raise_64 : decode cX12_raise 64 = .ok (.aload_n 0, 1) := by decide +kernel
theorem dX12_raise_65 : decode cX12_raise 65 = .ok (.iconst 3, 1) := by decide +kernel
theorem dX12_raise_66 : decode cX12_raise 66 = .ok (.putfield 597, 3) := by decide +kernel
theorem dX12_raise_69 : decode cX12_raise 69 = .ok (.return_, 1) := by decide +kernel
theorem dX12_closeAll_0 : decode cX12_closeAll 0 = .ok (.aload_n 0, 1) := by decide +kernel
theorem dX12_closeAll_1 : decode cX12_closeAll 1 = .ok (.getfield 600, 3) := by decide +kernel
theorem dX12_closeAll_4 : decode cX12_closeAll 4 = .ok (.aload_n 0, 1) := by decide +kernel
theorem dX12_closeAll_5 : decode cX12_closeAll 5 = .ok (.getfield 252, 3) := by decide +kernel
theorem dX12_closeAll_8 : decode cX12_closeAll 8 = .ok (.iload_n 1, 1) := by decide +kernel
theorem dX12_closeAll_9 : decode cX12_closeAll 9 = .ok (.iaload, 1) := by decide +kernel
theorem dX12_closeAll_10 : decode cX12_closeAll 10 = .ok (.if_icmp .le 128, 3) := by decide +kernel
theorem dX12_closeAll_13 : decode cX12_closeAll 13 = .ok (.aload_n 0, 1) := by decide +kernel
theorem dX12_closeAll_14 : decode cX12_closeAll 14 = .ok (.dup, 1) := by decide +kernel
theorem dX12_closeAll_15 : decode cX12_closeAll 15 = .ok (.getfield 600, 3) := by decide +kernel
theorem dX12_closeAll_18 : decode cX12_closeAll 18 = .ok (.iconst 1, 1) := by decide +kernel
theorem dX12_closeAll_19 : decode cX12_closeAll 19 = .ok (.isub, 1) := by decide +kernel
theorem dX12_closeAll_20 : decode cX12_closeAll 20 = .ok (.putfield 600, 3) := by decide +kernel
theorem dX12_closeAll_23 : decode cX12_closeAll 23 = .ok (.aload_n 0, 1) := by decide +kernel
theorem dX12_closeAll_24 : decode cX12_closeAll 24 = .ok (.getfield 237, 3) := by decide +kernel
theorem dX12_closeAll_27 : decode cX12_closeAll 27 = .ok (.aload_n 0, 1) := by decide +kernel
theorem dX12_closeAll_28 : decode cX12_closeAll 28 = .ok (.getfield 600, 3) := by decide +kernel
theorem dX12_closeAll_31 : decode cX12_closeAll 31 = .ok (.iaload, 1) := by decide +kernel
theorem dX12_closeAll_32 : decode cX12_closeAll 32 = .ok (.istore_n 2, 1) := by decide +kernel
theorem dX12_closeAll_33 : decode cX12_closeAll 33 = .ok (.aload_n 0, 1) := by decide +kernel
theorem dX12_closeAll_34 : decode cX12_closeAll 34 = .ok (.iconst 2, 1) := by decide +kernel
theorem dX12_closeAll_35 : decode cX12_closeAll 35 = .ok (.iload_n 2, 1) := by decide +kernel
theorem dX12_closeAll_36 : decode cX12_closeAll 36 = .ok (.invokevirtual 603, 3) := by decide +kernel
theorem dX12_closeAll_39 : decode cX12_closeAll 39 = .ok (.aload_n 0, 1) := by decide +kernel
theorem dX12_closeAll_40 : decode cX12_closeAll 40 = .ok (.getfield 27, 3) := by decide +kernel
theorem dX12_closeAll_43 : decode cX12_closeAll 43 = .ok (.iload_n 2, 1) := by decide +kernel
theorem dX12_closeAll_44 : decode cX12_closeAll 44 = .ok (.iaload, 1) := by decide +kernel
theorem dX12_closeAll_45 : decode cX12_closeAll 45 = .ok (.iconst 1, 1) := by decide +kernel
theorem dX12_closeAll_46 : decode cX12_closeAll 46 = .ok (.isub, 1) := by decide +kernel
theorem dX12_closeAll_47 : decode cX12_closeAll 47 = .ok (.istore_n 3, 1) := by decide +kernel
theorem dX12_closeAll_48 : decode cX12_closeAll 48 = .ok (.iload_n 3, 1) := by decide +kernel
theorem dX12_closeAll_49 : decode cX12_closeAll 49 = .ok (.ifCond .lt 20, 3) := by decide +kernel
theorem dX12_closeAll_52 : decode cX12_closeAll 52 = .ok (.aload_n 0, 1) := by decide +kernel
theorem dX12_closeAll_53 : decode cX12_closeAll 53 = .ok (.getfield 597, 3) := by decide +kernel
theorem dX12_closeAll_56 : decode cX12_closeAll 56 = .ok (.iconst 3, 1) := by decide +kernel
theorem dX12_closeAll_57 : decode cX12_closeAll 57 = .ok (.if_icmp .eq 12, 3) := by decide +kernel
theorem dX12_closeAll_60 : decode cX12_closeAll 60 = .ok (.aload_n 0, 1) := by decide +kernel
theorem dX12_closeAll_61 : decode cX12_closeAll 61 = .ok (.iload_n 3, 1) := by decide +kernel
theorem dX12_closeAll_62 : decode cX12_closeAll 62 = .ok (.iload_n 2, 1) := by decide +kernel
theorem dX12_closeAll_63 : decode cX12_closeAll 63 = .ok (.invokevirtual 606, 3) := by decide +kernel
theorem dX12_closeAll_66 : decode cX12_closeAll 66 = .ok (.goto 69, 3) := by decide +kernel
theorem dX12_closeAll_69 : decode cX12_closeAll 69 = .ok (.iload_n 3, 1) := by decide +kernel
theorem dX12_closeAll_70 : decode cX12_closeAll 70 = .ok (.ifCond .lt 65, 3) := by decide +kernel
theorem dX12_closeAll_73 : decode cX12_closeAll 73 = .ok (.aload_n 0, 1) := by decide +kernel
theorem dX12_closeAll_74 : decode cX12_closeAll 74 = .ok (.getfield 222, 3) := by decide +kernel
theorem dX12_closeAll_77 : decode cX12_closeAll 77 = .ok (.aload_n 0, 1) := by decide +kernel
theorem dX12_closeAll_78 : decode cX12_closeAll 78 = .ok (.getfield 595, 3) := by decide +kernel
theorem dX12_closeAll_81 : decode cX12_closeAll 81 = .ok (.iaload, 1) := by decide +kernel
theorem dX12_closeAll_82 : decode cX12_closeAll 82 = .ok (.bipush 8, 2) := by decide +kernel
theorem dX12_closeAll_84 : decode cX12_closeAll 84 = .ok (.if_icmp .ge 51, 3) := by decide +kernel
theorem dX12_closeAll_87 : decode cX12_closeAll 87 = .ok (.bipush 8, 2) := by decide +kernel
theorem dX12_closeAll_89 : decode cX12_closeAll 89 = .ok (.aload_n 0, 1) := by decide +kernel
theorem dX12_closeAll_90 : decode cX12_closeAll 90 = .ok (.getfield 595, 3) := by decide +kernel
theorem dX12_closeAll_93 : decode cX12_closeAll 93 = .ok (.imul, 1) := by decide +kernel
theorem dX12_closeAll_94 : decode cX12_closeAll 94 = .ok (.aload_n 0, 1) := by decide +kernel
theorem dX12_closeAll_95 : decode cX12_closeAll 95 = .ok (.getfield 222, 3) := by decide +kernel
theorem dX12_closeAll_98 : decode cX12_closeAll 98 = .ok (.aload_n 0, 1) := by decide +kernel
theorem dX12_closeAll_99 : decode cX12_closeAll 99 = .ok (.getfield 595, 3) := by decide +kernel
theorem dX12_closeAll_102 : decode cX12_closeAll 102 = .ok (.iaload, 1) := by decide +kernel
theorem dX12_closeAll_103 : decode cX12_closeAll 103 = .ok (.iadd, 1) := by decide +kernel
theorem dX12_closeAll_104 : decode cX12_closeAll 104 = .ok (.istore 4, 2) := by decide +kernel
theorem dX12_closeAll_106 : decode cX12_closeAll 106 = .ok (.aload_n 0, 1) := by decide +kernel
theorem dX12_closeAll_107 : decode cX12_closeAll 107 = .ok (.getfield 225, 3) := by decide +kernel
theorem dX12_closeAll_110 : decode cX12_closeAll 110 = .ok (.iload 4, 2) := by decide +kernel
theorem dX12_closeAll_112 : decode cX12_closeAll 112 = .ok (.iload_n 3, 1) := by decide +kernel
theorem dX12_closeAll_113 : decode cX12_closeAll 113 = .ok (.iastore, 1) := by decide +kernel
theorem dX12_closeAll_114 : decode cX12_closeAll 114 = .ok (.aload_n 0, 1) := by decide +kernel
theorem dX12_closeAll_115 : decode cX12_closeAll 115 = .ok (.getfield 228, 3) := by decide +kernel
theorem dX12_closeAll_118 : decode cX12_closeAll 118 = .ok (.iload 4, 2) := by decide +kernel
theorem dX12_closeAll_120 : decode cX12_closeAll 120 = .ok (.iload_n 2, 1) := by decide +kernel
theorem dX12_closeAll_121 : decode cX12_closeAll 121 = .ok (.iastore, 1) := by decide +kernel
theorem dX12_closeAll_122 : decode cX12_closeAll 122 = .ok (.aload_n 0, 1) := by decide +kernel
theorem dX12_closeAll_123 : decode cX12_closeAll 123 = .ok (.getfield 222, 3) := by decide +kernel
theorem dX12_closeAll_126 : decode cX12_closeAll 126 = .ok (.aload_n 0, 1) := by decide +kernel
theorem dX12_closeAll_127 : decode cX12_closeAll 127 = .ok (.getfield 595, 3) := by decide +kernel
theorem dX12_closeAll_130 : decode cX12_closeAll 130 = .ok (.dup2, 1) := by decide +kernel
theorem dX12_closeAll_131 : decode cX12_closeAll 131 = .ok (.iaload, 1) := by decide +kernel
theorem dX12_closeAll_132 : decode cX12_closeAll 132 = .ok (.iconst 1, 1) := by decide +kernel
theorem dX12_closeAll_133 : decode cX12_closeAll 133 = .ok (.iadd, 1) := by decide +kernel
theorem dX12_closeAll_134 : decode cX12_closeAll 134 = .ok (.iastore, 1) := by decide +kernel
theorem dX12_closeAll_135 : decode cX12_closeAll 135 = .ok (.goto (-135), 3) := by decide +kernel
theorem dX12_closeAll_138 : decode cX12_closeAll 138 = .ok (.return_, 1) := by decide +kernel
theorem dX12_finals_0 : decode cX12_finals 0 = .ok (.aload_n 0, 1) := by decide +kernel
theorem dX12_finals_1 : decode cX12_finals 1 = .ok (.getfield 108, 3) := by decide +kernel
theorem dX12_finals_4 : decode cX12_finals 4 = .ok (.aload_n 0, 1) := by decide +kernel
theorem dX12_finals_5 : decode cX12_finals 5 = .ok (.getfield 246, 3) := by decide +kernel
theorem dX12_finals_8 : decode cX12_finals 8 = .ok (.iload_n 1, 1) := by decide +kernel
theorem dX12_finals_9 : decode cX12_finals 9 = .ok (.iaload, 1) := by decide +kernel
theorem dX12_finals_10 : decode cX12_finals 10 = .ok (.iaload, 1) := by decide +kernel
theorem dX12_finals_11 : decode cX12_finals 11 = .ok (.istore_n 2, 1) := by decide +kernel
theorem dX12_finals_12 : decode cX12_finals 12 = .ok (.iload_n 2, 1) := by decide +kernel
theorem dX12_finals_13 : decode cX12_finals 13 = .ok (.ifCond .ge 5, 3) := by decide +kernel
theorem dX12_finals_16 : decode cX12_finals 16 = .ok (.iconst 0, 1) := by decide +kernel
theorem dX12_finals_17 : decode cX12_finals 17 = .ok (.ireturn, 1) := by decide +kernel
theorem dX12_finals_18 : decode cX12_finals 18 = .ok (.aload_n 0, 1) := by decide +kernel
theorem dX12_finals_19 : decode cX12_finals 19 = .ok (.getfield 258, 3) := by decide +kernel
theorem dX12_finals_22 : decode cX12_finals 22 = .ok (.iload_n 1, 1) := by decide +kernel
theorem dX12_finals_23 : decode cX12_finals 23 = .ok (.aload_n 0, 1) := by decide +kernel
theorem dX12_finals_24 : decode cX12_finals 24 = .ok (.getfield 597, 3) := by decide +kernel
theorem dX12_finals_27 : decode cX12_finals 27 = .ok (.iastore, 1) := by decide +kernel
theorem dX12_finals_28 : decode cX12_finals 28 = .ok (.aload_n 0, 1) := by decide +kernel
theorem dX12_finals_29 : decode cX12_finals 29 = .ok (.getfield 261, 3) := by decide +kernel
theorem dX12_finals_32 : decode cX12_finals 32 = .ok (.iload_n 1, 1) := by decide +kernel
theorem dX12_finals_33 : decode cX12_finals 33 = .ok (.aload_n 0, 1) := by decide +kernel
theorem dX12_finals_34 : decode cX12_finals 34 = .ok (.getfield 609, 3) := by decide +kernel
theorem dX12_finals_37 : decode cX12_finals 37 = .ok (.iastore, 1) := by decide +kernel
theorem dX12_finals_38 : decode cX12_finals 38 = .ok (.aload_n 0, 1) := by decide +kernel
theorem dX12_finals_39 : decode cX12_finals 39 = .ok (.getfield 264, 3) := by decide +kernel
theorem dX12_finals_42 : decode cX12_finals 42 = .ok (.iload_n 1, 1) := by decide +kernel
theorem dX12_finals_43 : decode cX12_finals 43 = .ok (.aload_n 0, 1) := by decide +kernel
theorem dX12_finals_44 : decode cX12_finals 44 = .ok (.getfield 612, 3) := by decide +kernel
theorem dX12_finals_47 : decode cX12_finals 47 = .ok (.iastore, 1) := by decide +kernel
theorem dX12_finals_48 : decode cX12_finals 48 = .ok (.aload_n 0, 1) := by decide +kernel
theorem dX12_finals_49 : decode cX12_finals 49 = .ok (.getfield 267, 3) := by decide +kernel
theorem dX12_finals_52 : decode cX12_finals 52 = .ok (.iload_n 1, 1) := by decide +kernel
theorem dX12_finals_53 : decode cX12_finals 53 = .ok (.aload_n 0, 1) := by decide +kernel
theorem dX12_finals_54 : decode cX12_finals 54 = .ok (.getfield 615, 3) := by decide +kernel
theorem dX12_finals_57 : decode cX12_finals 57 = .ok (.iastore, 1) := by decide +kernel
theorem dX12_finals_58 : decode cX12_finals 58 = .ok (.aload_n 0, 1) := by decide +kernel
theorem dX12_finals_59 : decode cX12_finals 59 = .ok (.getfield 270, 3) := by decide +kernel
theorem dX12_finals_62 : decode cX12_finals 62 = .ok (.iload_n 1, 1) := by decide +kernel
theorem dX12_finals_63 : decode cX12_finals 63 = .ok (.aload_n 0, 1) := by decide +kernel
theorem dX12_finals_64 : decode cX12_finals 64 = .ok (.getfield 595, 3) := by decide +kernel
theorem dX12_finals_67 : decode cX12_finals 67 = .ok (.iastore, 1) := by decide +kernel
theorem dX12_finals_68 : decode cX12_finals 68 = .ok (.aload_n 0, 1) := by decide +kernel
theorem dX12_finals_69 : decode cX12_finals 69 = .ok (.getfield 249, 3) := by decide +kernel
theorem dX12_finals_72 : decode cX12_finals 72 = .ok (.iload_n 1, 1) := by decide +kernel
theorem dX12_finals_73 : decode cX12_finals 73 = .ok (.iconst 2, 1) := by decide +kernel
theorem dX12_finals_74 : decode cX12_finals 74 = .ok (.iastore, 1) := by decide +kernel
theorem dX12_finals_75 : decode cX12_finals 75 = .ok (.aload_n 0, 1) := by decide +kernel
theorem dX12_finals_76 : decode cX12_finals 76 = .ok (.aload_n 0, 1) := by decide +kernel
theorem dX12_finals_77 : decode cX12_finals 77 = .ok (.getfield 255, 3) := by decide +kernel
theorem dX12_finals_80 : decode cX12_finals 80 = .ok (.iload_n 1, 1) := by decide +kernel
theorem dX12_finals_81 : decode cX12_finals 81 = .ok (.iaload, 1) := by decide +kernel
theorem dX12_finals_82 : decode cX12_finals 82 = .ok (.putfield 589, 3) := by decide +kernel
theorem dX12_finals_85 : decode cX12_finals 85 = .ok (.aload_n 0, 1) := by decide +kernel
theorem dX12_finals_86 : decode cX12_finals 86 = .ok (.iload_n 2, 1) := by decide +kernel
theorem dX12_finals_87 : decode cX12_finals 87 = .ok (.putfield 618, 3) := by decide +kernel
theorem dX12_finals_90 : decode cX12_finals 90 = .ok (.iconst 1, 1) := by decide +kernel
theorem dX12_finals_91 : decode cX12_finals 91 = .ok (.ireturn, 1) := by decide +kernel
theorem dX12_isCaught_0 : decode cX12_isCaught 0 = .ok (.aload_n 0, 1) := by decide +kernel
theorem dX12_isCaught_1 : decode cX12_isCaught 1 = .ok (.getfield 105, 3) := by decide +kernel
theorem dX12_isCaught_4 : decode cX12_isCaught 4 = .ok (.aload_n 0, 1) := by decide +kernel
theorem dX12_isCaught_5 : decode cX12_isCaught 5 = .ok (.getfield 246, 3) := by decide +kernel
theorem dX12_isCaught_8 : decode cX12_isCaught 8 = .ok (.iload_n 1, 1) := by decide +kernel
theorem dX12_isCaught_9 : decode cX12_isCaught 9 = .ok (.iaload, 1) := by decide +kernel
theorem dX12_isCaught_10 : decode cX12_isCaught 10 = .ok (.iaload, 1) := by decide +kernel
theorem dX12_isCaught_11 : decode cX12_isCaught 11 = .ok (.istore_n 2, 1) := by decide +kernel
theorem dX12_isCaught_12 : decode cX12_isCaught 12 = .ok (.iload_n 2, 1) := by decide +kernel
theorem dX12_isCaught_13 : decode cX12_isCaught 13 = .ok (.ifCond .lt 79, 3) := by decide +kernel
theorem dX12_isCaught_16 : decode cX12_isCaught 16 = .ok (.aload_n 0, 1) := by decide +kernel
theorem dX12_isCaught_17 : decode cX12_isCaught 17 = .ok (.aload_n 0, 1) := by decide +kernel
theorem dX12_isCaught_18 : decode cX12_isCaught 18 = .ok (.getfield 216, 3) := by decide +kernel
theorem dX12_isCaught_21 : decode cX12_isCaught 21 = .ok (.aload_n 0, 1) := by decide +kernel
theorem dX12_isCaught_22 : decode cX12_isCaught 22 = .ok (.getfield 595, 3) := by decide +kernel
theorem dX12_isCaught_25 : decode cX12_isCaught 25 = .ok (.iaload, 1) := by decide +kernel
theorem dX12_isCaught_26 : decode cX12_isCaught 26 = .ok (.aload_n 0, 1) := by decide +kernel
theorem dX12_isCaught_27 : decode cX12_isCaught 27 = .ok (.getfield 114, 3) := by decide +kernel
theorem dX12_isCaught_30 : decode cX12_isCaught 30 = .ok (.iload_n 2, 1) := by decide +kernel
theorem dX12_isCaught_31 : decode cX12_isCaught 31 = .ok (.iaload, 1) := by decide +kernel
theorem dX12_isCaught_32 : decode cX12_isCaught 32 = .ok (.invokevirtual 283, 3) := by decide +kernel
theorem dX12_isCaught_35 : decode cX12_isCaught 35 = .ok (.ifCond .eq 47, 3) := by decide +kernel
theorem dX12_isCaught_38 : decode cX12_isCaught 38 = .ok (.aload_n 0, 1) := by decide +kernel
theorem dX12_isCaught_39 : decode cX12_isCaught 39 = .ok (.getfield 213, 3) := by decide +kernel
theorem dX12_isCaught_42 : decode cX12_isCaught 42 = .ok (.aload_n 0, 1) := by decide +kernel
theorem dX12_isCaught_43 : decode cX12_isCaught 43 = .ok (.getfield 120, 3) := by decide +kernel
theorem dX12_isCaught_46 : decode cX12_isCaught 46 = .ok (.iload_n 2, 1) := by decide +kernel
theorem dX12_isCaught_47 : decode cX12_isCaught 47 = .ok (.iaload, 1) := by decide +kernel
theorem dX12_isCaught_48 : decode cX12_isCaught 48 = .ok (.aload_n 0, 1) := by decide +kernel
theorem dX12_isCaught_49 : decode cX12_isCaught 49 = .ok (.getfield 595, 3) := by decide +kernel
theorem dX12_isCaught_52 : decode cX12_isCaught 52 = .ok (.iastore, 1) := by decide +kernel
theorem dX12_isCaught_53 : decode cX12_isCaught 53 = .ok (.aload_n 0, 1) := by decide +kernel
theorem dX12_isCaught_54 : decode cX12_isCaught 54 = .ok (.getfield 249, 3) := by decide +kernel
theorem dX12_isCaught_57 : decode cX12_isCaught 57 = .ok (.iload_n 1, 1) := by decide +kernel
theorem dX12_isCaught_58 : decode cX12_isCaught 58 = .ok (.iconst 1, 1) := by decide +kernel
theorem dX12_isCaught_59 : decode cX12_isCaught 59 = .ok (.iastore, 1) := by decide +kernel
theorem dX12_isCaught_60 : decode cX12_isCaught 60 = .ok (.aload_n 0, 1) := by decide +kernel
theorem dX12_isCaught_61 : decode cX12_isCaught 61 = .ok (.aload_n 0, 1) := by decide +kernel
theorem dX12_isCaught_62 : decode cX12_isCaught 62 = .ok (.getfield 255, 3) := by decide +kernel
theorem dX12_isCaught_65 : decode cX12_isCaught 65 = .ok (.iload_n 1, 1) := by decide +kernel
theorem dX12_isCaught_66 : decode cX12_isCaught 66 = .ok (.iaload, 1) := by decide +kernel
theorem dX12_isCaught_67 : decode cX12_isCaught 67 = .ok (.putfield 589, 3) := by decide +kernel
theorem dX12_isCaught_70 : decode cX12_isCaught 70 = .ok (.aload_n 0, 1) := by decide +kernel
theorem dX12_isCaught_71 : decode cX12_isCaught 71 = .ok (.aload_n 0, 1) := by decide +kernel
theorem dX12_isCaught_72 : decode cX12_isCaught 72 = .ok (.getfield 117, 3) := by decide +kernel
theorem dX12_isCaught_75 : decode cX12_isCaught 75 = .ok (.iload_n 2, 1) := by decide +kernel
theorem dX12_isCaught_76 : decode cX12_isCaught 76 = .ok (.iaload, 1) := by decide +kernel
theorem dX12_isCaught_77 : decode cX12_isCaught 77 = .ok (.putfield 618, 3) := by decide +kernel
theorem dX12_isCaught_80 : decode cX12_isCaught 80 = .ok (.iconst 1, 1) := by decide +kernel
theorem dX12_isCaught_81 : decode cX12_isCaught 81 = .ok (.ireturn, 1) := by decide +kernel
theorem dX12_isCaught_82 : decode cX12_isCaught 82 = .ok (.aload_n 0, 1) := by decide +kernel
theorem dX12_isCaught_83 : decode cX12_isCaught 83 = .ok (.getfield 123, 3) := by decide +kernel
theorem dX12_isCaught_86 : decode cX12_isCaught 86 = .ok (.iload_n 2, 1) := by decide +kernel
theorem dX12_isCaught_87 : decode cX12_isCaught 87 = .ok (.iaload, 1) := by decide +kernel
theorem dX12_isCaught_88 : decode cX12_isCaught 88 = .ok (.istore_n 2, 1) := by decide +kernel
theorem dX12_isCaught_89 : decode cX12_isCaught 89 = .ok (.goto (-77), 3) := by decide +kernel
theorem dX12_isCaught_92 : decode cX12_isCaught 92 = .ok (.iconst 0, 1) := by decide +kernel
theorem dX12_isCaught_93 : decode cX12_isCaught 93 = .ok (.ireturn, 1) := by decide +kernel
theorem dX12_leave_0 : decode cX12_leave 0 = .ok (.aload_n 0, 1) := by decide +kernel
theorem dX12_leave_1 : decode cX12_leave 1 = .ok (.getfield 586, 3) := by decide +kernel
theorem dX12_leave_4 : decode cX12_leave 4 = .ok (.aload_n 0, 1) := by decide +kernel
theorem dX12_leave_5 : decode cX12_leave 5 = .ok (.getfield 597, 3) := by decide +kernel
theorem dX12_leave_8 : decode cX12_leave 8 = .ok (.iconst 1, 1) := by decide +kernel
theorem dX12_leave_9 : decode cX12_leave 9 = .ok (.if_icmp .eq 11, 3) := by decide +kernel
theorem dX12_leave_12 : decode cX12_leave 12 = .ok (.aload_n 0, 1) := by decide +kernel
theorem dX12_leave_13 : decode cX12_leave 13 = .ok (.getfield 597, 3) := by decide +kernel
theorem dX12_leave_16 : decode cX12_leave 16 = .ok (.iconst 4, 1) := by decide +kernel
theorem dX12_leave_17 : decode cX12_leave 17 = .ok (.if_icmp .ne 10, 3) := by decide +kernel
theorem dX12_leave_20 : decode cX12_leave 20 = .ok (.aload_n 0, 1) := by decide +kernel
theorem dX12_leave_21 : decode cX12_leave 21 = .ok (.getfield 612, 3) := by decide +kernel
theorem dX12_leave_24 : decode cX12_leave 24 = .ok (.goto 4, 3) := by decide +kernel
theorem dX12_leave_27 : decode cX12_leave 27 = .ok (.iconst 0, 1) := by decide +kernel
theorem dX12_leave_28 : decode cX12_leave 28 = .ok (.if_icmp .le 145, 3) := by decide +kernel
theorem dX12_leave_31 : decode cX12_leave 31 = .ok (.aload_n 0, 1) := by decide +kernel
theorem dX12_leave_32 : decode cX12_leave 32 = .ok (.getfield 586, 3) := by decide +kernel
theorem dX12_leave_35 : decode cX12_leave 35 = .ok (.iconst 1, 1) := by decide +kernel
theorem dX12_leave_36 : decode cX12_leave 36 = .ok (.isub, 1) := by decide +kernel
theorem dX12_leave_37 : decode cX12_leave 37 = .ok (.istore_n 1, 1) := by decide +kernel
theorem dX12_leave_38 : decode cX12_leave 38 = .ok (.aload_n 0, 1) := by decide +kernel
theorem dX12_leave_39 : decode cX12_leave 39 = .ok (.getfield 243, 3) := by decide +kernel
theorem dX12_leave_42 : decode cX12_leave 42 = .ok (.iload_n 1, 1) := by decide +kernel
theorem dX12_leave_43 : decode cX12_leave 43 = .ok (.iaload, 1) := by decide +kernel
theorem dX12_leave_44 : decode cX12_leave 44 = .ok (.iconst 1, 1) := by decide +kernel
theorem dX12_leave_45 : decode cX12_leave 45 = .ok (.if_icmp .ne 32, 3) := by decide +kernel
theorem dX12_leave_48 : decode cX12_leave 48 = .ok (.aload_n 0, 1) := by decide +kernel
theorem dX12_leave_49 : decode cX12_leave 49 = .ok (.iconst 4, 1) := by decide +kernel
theorem dX12_leave_50 : decode cX12_leave 50 = .ok (.aload_n 0, 1) := by decide +kernel
theorem dX12_leave_51 : decode cX12_leave 51 = .ok (.getfield 246, 3) := by decide +kernel
theorem dX12_leave_54 : decode cX12_leave 54 = .ok (.iload_n 1, 1) := by decide +kernel
theorem dX12_leave_55 : decode cX12_leave 55 = .ok (.iaload, 1) := by decide +kernel
theorem dX12_leave_56 : decode cX12_leave 56 = .ok (.invokevirtual 603, 3) := by decide +kernel
theorem dX12_leave_59 : decode cX12_leave 59 = .ok (.aload_n 0, 1) := by decide +kernel
theorem dX12_leave_60 : decode cX12_leave 60 = .ok (.getfield 231, 3) := by decide +kernel
theorem dX12_leave_63 : decode cX12_leave 63 = .ok (.aload_n 0, 1) := by decide +kernel
theorem dX12_leave_64 : decode cX12_leave 64 = .ok (.getfield 246, 3) := by decide +kernel
theorem dX12_leave_67 : decode cX12_leave 67 = .ok (.iload_n 1, 1) := by decide +kernel
theorem dX12_leave_68 : decode cX12_leave 68 = .ok (.iaload, 1) := by decide +kernel
theorem dX12_leave_69 : decode cX12_leave 69 = .ok (.dup2, 1) := by decide +kernel
theorem dX12_leave_70 : decode cX12_leave 70 = .ok (.iaload, 1) := by decide +kernel
theorem dX12_leave_71 : decode cX12_leave 71 = .ok (.iconst 1, 1) := by decide +kernel
theorem dX12_leave_72 : decode cX12_leave 72 = .ok (.isub, 1) := by decide +kernel
theorem dX12_leave_73 : decode cX12_leave 73 = .ok (.iastore, 1) := by decide +kernel
theorem dX12_leave_74 : decode cX12_leave 74 = .ok (.goto 86, 3) := by decide +kernel
theorem dX12_leave_77 : decode cX12_leave 77 = .ok (.aload_n 0, 1) := by decide +kernel
theorem dX12_leave_78 : decode cX12_leave 78 = .ok (.getfield 243, 3) := by decide +kernel
theorem dX12_leave_81 : decode cX12_leave 81 = .ok (.iload_n 1, 1) := by decide +kernel
theorem dX12_leave_82 : decode cX12_leave 82 = .ok (.iaload, 1) := by decide +kernel
theorem dX12_leave_83 : decode cX12_leave 83 = .ok (.iconst 2, 1) := by decide +kernel
theorem dX12_leave_84 : decode cX12_leave 84 = .ok (.if_icmp .ne 16, 3) := by decide +kernel
theorem dX12_leave_87 : decode cX12_leave 87 = .ok (.aload_n 0, 1) := by decide +kernel
theorem dX12_leave_88 : decode cX12_leave 88 = .ok (.aload_n 0, 1) := by decide +kernel
theorem dX12_leave_89 : decode cX12_leave 89 = .ok (.getfield 246, 3) := by decide +kernel
theorem dX12_leave_92 : decode cX12_leave 92 = .ok (.iload_n 1, 1) := by decide +kernel
theorem dX12_leave_93 : decode cX12_leave 93 = .ok (.iaload, 1) := by decide +kernel
theorem dX12_leave_94 : decode cX12_leave 94 = .ok (.putfield 621, 3) := by decide +kernel
theorem dX12_leave_97 : decode cX12_leave 97 = .ok (.goto 63, 3) := by decide +kernel
theorem dX12_leave_100 : decode cX12_leave 100 = .ok (.aload_n 0, 1) := by decide +kernel
theorem dX12_leave_101 : decode cX12_leave 101 = .ok (.getfield 243, 3) := by decide +kernel
theorem dX12_leave_104 : decode cX12_leave 104 = .ok (.iload_n 1, 1) := by decide +kernel
theorem dX12_leave_105 : decode cX12_leave 105 = .ok (.iaload, 1) := by decide +kernel
theorem dX12_leave_106 : decode cX12_leave 106 = .ok (.iconst 4, 1) := by decide +kernel
theorem dX12_leave_107 : decode cX12_leave 107 = .ok (.if_icmp .ne 53, 3) := by decide +kernel
theorem dX12_leave_110 : decode cX12_leave 110 = .ok (.aload_n 0, 1) := by decide +kernel
theorem dX12_leave_111 : decode cX12_leave 111 = .ok (.getfield 249, 3) := by decide +kernel
theorem dX12_leave_114 : decode cX12_leave 114 = .ok (.iload_n 1, 1) := by decide +kernel
theorem dX12_leave_115 : decode cX12_leave 115 = .ok (.iaload, 1) := by decide +kernel
theorem dX12_leave_116 : decode cX12_leave 116 = .ok (.ifCond .ne 25, 3) := by decide +kernel
theorem dX12_leave_119 : decode cX12_leave 119 = .ok (.aload_n 0, 1) := by decide +kernel
theorem dX12_leave_120 : decode cX12_leave 120 = .ok (.iload_n 1, 1) := by decide +kernel
theorem dX12_leave_121 : decode cX12_leave 121 = .ok (.invokevirtual 624, 3) := by decide +kernel
theorem dX12_leave_124 : decode cX12_leave 124 = .ok (.aload_n 0, 1) := by decide +kernel
theorem dX12_leave_125 : decode cX12_leave 125 = .ok (.getfield 597, 3) := by decide +kernel
theorem dX12_leave_128 : decode cX12_leave 128 = .ok (.iconst 3, 1) := by decide +kernel
theorem dX12_leave_129 : decode cX12_leave 129 = .ok (.if_icmp .ne 12, 3) := by decide +kernel
theorem dX12_leave_132 : decode cX12_leave 132 = .ok (.aload_n 0, 1) := by decide +kernel
theorem dX12_leave_133 : decode cX12_leave 133 = .ok (.iload_n 1, 1) := by decide +kernel
theorem dX12_leave_134 : decode cX12_leave 134 = .ok (.invokevirtual 627, 3) := by decide +kernel
theorem dX12_leave_137 : decode cX12_leave 137 = .ok (.ifCond .eq 4, 3) := by decide +kernel
theorem dX12_leave_140 : decode cX12_leave 140 = .ok (.return_, 1) := by decide +kernel
theorem dX12_leave_141 : decode cX12_leave 141 = .ok (.aload_n 0, 1) := by decide +kernel
theorem dX12_leave_142 : decode cX12_leave 142 = .ok (.getfield 249, 3) := by decide +kernel
theorem dX12_leave_145 : decode cX12_leave 145 = .ok (.iload_n 1, 1) := by decide +kernel
theorem dX12_leave_146 : decode cX12_leave 146 = .ok (.iaload, 1) := by decide +kernel
theorem dX12_leave_147 : decode cX12_leave 147 = .ok (.iconst 2, 1) := by decide +kernel
theorem dX12_leave_148 : decode cX12_leave 148 = .ok (.if_icmp .ge 12, 3) := by decide +kernel
theorem dX12_leave_151 : decode cX12_leave 151 = .ok (.aload_n 0, 1) := by decide +kernel
theorem dX12_leave_152 : decode cX12_leave 152 = .ok (.iload_n 1, 1) := by decide +kernel
theorem dX12_leave_153 : decode cX12_leave 153 = .ok (.invokevirtual 630, 3) := by decide +kernel
theorem dX12_leave_156 : decode cX12_leave 156 = .ok (.ifCond .eq 4, 3) := by decide +kernel
theorem dX12_leave_159 : decode cX12_leave 159 = .ok (.return_, 1) := by decide +kernel
theorem dX12_leave_160 : decode cX12_leave 160 = .ok (.aload_n 0, 1) := by decide +kernel
theorem dX12_leave_161 : decode cX12_leave 161 = .ok (.dup, 1) := by decide +kernel
theorem dX12_leave_162 : decode cX12_leave 162 = .ok (.getfield 586, 3) := by decide +kernel
theorem dX12_leave_165 : decode cX12_leave 165 = .ok (.iconst 1, 1) := by decide +kernel
theorem dX12_leave_166 : decode cX12_leave 166 = .ok (.isub, 1) := by decide +kernel
theorem dX12_leave_167 : decode cX12_leave 167 = .ok (.putfield 586, 3) := by decide +kernel
theorem dX12_leave_170 : decode cX12_leave 170 = .ok (.goto (-170), 3) := by decide +kernel
theorem dX12_leave_173 : decode cX12_leave 173 = .ok (.aload_n 0, 1) := by decide +kernel
theorem dX12_leave_174 : decode cX12_leave 174 = .ok (.getfield 597, 3) := by decide +kernel
theorem dX12_leave_177 : decode cX12_leave 177 = .ok (.iconst 1, 1) := by decide +kernel
theorem dX12_leave_178 : decode cX12_leave 178 = .ok (.if_icmp .ne 14, 3) := by decide +kernel
theorem dX12_leave_181 : decode cX12_leave 181 = .ok (.aload_n 0, 1) := by decide +kernel
theorem dX12_leave_182 : decode cX12_leave 182 = .ok (.aload_n 0, 1) := by decide +kernel
theorem dX12_leave_183 : decode cX12_leave 183 = .ok (.getfield 609, 3) := by decide +kernel
theorem dX12_leave_186 : decode cX12_leave 186 = .ok (.putfield 618, 3) := by decide +kernel
theorem dX12_leave_189 : decode cX12_leave 189 = .ok (.goto 76, 3) := by decide +kernel
theorem dX12_leave_192 : decode cX12_leave 192 = .ok (.aload_n 0, 1) := by decide +kernel
theorem dX12_leave_193 : decode cX12_leave 193 = .ok (.getfield 597, 3) := by decide +kernel
theorem dX12_leave_196 : decode cX12_leave 196 = .ok (.iconst 4, 1) := by decide +kernel
theorem dX12_leave_197 : decode cX12_leave 197 = .ok (.if_icmp .ne 55, 3) := by decide +kernel
theorem dX12_leave_200 : decode cX12_leave 200 = .ok (.aload_n 0, 1) := by decide +kernel
theorem dX12_leave_201 : decode cX12_leave 201 = .ok (.dup, 1) := by decide +kernel
theorem dX12_leave_202 : decode cX12_leave 202 = .ok (.getfield 586, 3) := by decide +kernel
theorem dX12_leave_205 : decode cX12_leave 205 = .ok (.iconst 1, 1) := by decide +kernel
theorem dX12_leave_206 : decode cX12_leave 206 = .ok (.isub, 1) := by decide +kernel
theorem dX12_leave_207 : decode cX12_leave 207 = .ok (.putfield 586, 3) := by decide +kernel
theorem dX12_leave_210 : decode cX12_leave 210 = .ok (.aload_n 0, 1) := by decide +kernel
theorem dX12_leave_211 : decode cX12_leave 211 = .ok (.aload_n 0, 1) := by decide +kernel
theorem dX12_leave_212 : decode cX12_leave 212 = .ok (.getfield 255, 3) := by decide +kernel
theorem dX12_leave_215 : decode cX12_leave 215 = .ok (.aload_n 0, 1) := by decide +kernel
theorem dX12_leave_216 : decode cX12_leave 216 = .ok (.getfield 586, 3) := by decide +kernel
theorem dX12_leave_219 : decode cX12_leave 219 = .ok (.iaload, 1) := by decide +kernel
theorem dX12_leave_220 : decode cX12_leave 220 = .ok (.putfield 589, 3) := by decide +kernel
theorem dX12_leave_223 : decode cX12_leave 223 = .ok (.aload_n 0, 1) := by decide +kernel
theorem dX12_leave_224 : decode cX12_leave 224 = .ok (.aload_n 0, 1) := by decide +kernel
theorem dX12_leave_225 : decode cX12_leave 225 = .ok (.getfield 615, 3) := by decide +kernel
theorem dX12_leave_228 : decode cX12_leave 228 = .ok (.invokevirtual 633, 3) := by decide +kernel
theorem dX12_leave_231 : decode cX12_leave 231 = .ok (.aload_n 0, 1) := by decide +kernel
theorem dX12_leave_232 : decode cX12_leave 232 = .ok (.aload_n 0, 1) := by decide +kernel
theorem dX12_leave_233 : decode cX12_leave 233 = .ok (.getfield 90, 3) := by decide +kernel
theorem dX12_leave_236 : decode cX12_leave 236 = .ok (.aload_n 0, 1) := by decide +kernel
theorem dX12_leave_237 : decode cX12_leave 237 = .ok (.getfield 246, 3) := by decide +kernel
theorem dX12_leave_240 : decode cX12_leave 240 = .ok (.aload_n 0, 1) := by decide +kernel
theorem dX12_leave_241 : decode cX12_leave 241 = .ok (.getfield 586, 3) := by decide +kernel
theorem dX12_leave_244 : decode cX12_leave 244 = .ok (.iaload, 1) := by decide +kernel
theorem dX12_leave_245 : decode cX12_leave 245 = .ok (.iaload, 1) := by decide +kernel
theorem dX12_leave_246 : decode cX12_leave 246 = .ok (.putfield 618, 3) := by decide +kernel
theorem dX12_leave_249 : decode cX12_leave 249 = .ok (.goto 16, 3) := by decide +kernel
theorem dX12_leave_252 : decode cX12_leave 252 = .ok (.aload_n 0, 1) := by decide +kernel
theorem dX12_leave_253 : decode cX12_leave 253 = .ok (.aload_n 0, 1) := by decide +kernel
theorem dX12_leave_254 : decode cX12_leave 254 = .ok (.getfield 597, 3) := by decide +kernel
theorem dX12_leave_257 : decode cX12_leave 257 = .ok (.putfield 636, 3) := by decide +kernel
theorem dX12_leave_260 : decode cX12_leave 260 = .ok (.aload_n 0, 1) := by decide +kernel
theorem dX12_leave_261 : decode cX12_leave 261 = .ok (.iconst (-1), 1) := by decide +kernel
theorem dX12_leave_262 : decode cX12_leave 262 = .ok (.putfield 618, 3) := by decide +kernel
theorem dX12_leave_265 : decode cX12_leave 265 = .ok (.return_, 1) := by decide +kernel
theorem dX12_step_0 : decode cX12_step 0 = .ok (.aload_n 0, 1) := by decide +kernel
theorem dX12_step_1 : decode cX12_step 1 = .ok (.getfield 639, 3) := by decide +kernel
theorem dX12_step_4 : decode cX12_step 4 = .ok (.sipush 1000, 3) := by decide +kernel
theorem dX12_step_7 : decode cX12_step 7 = .ok (.if_icmp .ne 14, 3) := by decide +kernel
theorem dX12_step_10 : decode cX12_step 10 = .ok (.aload_n 0, 1) := by decide +kernel
theorem dX12_step_11 : decode cX12_step 11 = .ok (.iconst 5, 1) := by decide +kernel
theorem dX12_step_12 : decode cX12_step 12 = .ok (.putfield 636, 3) := by decide +kernel
theorem dX12_step_15 : decode cX12_step 15 = .ok (.aload_n 0, 1) := by decide +kernel
theorem dX12_step_16 : decode cX12_step 16 = .ok (.iconst (-1), 1) := by decide +kernel
theorem dX12_step_17 : decode cX12_step 17 = .ok (.putfield 618, 3) := by decide +kernel
theorem dX12_step_20 : decode cX12_step 20 = .ok (.return_, 1) := by decide +kernel
theorem dX12_step_21 : decode cX12_step 21 = .ok (.aload_n 0, 1) := by decide +kernel
theorem dX12_step_22 : decode cX12_step 22 = .ok (.dup, 1) := by decide +kernel
theorem dX12_step_23 : decode cX12_step 23 = .ok (.getfield 639, 3) := by decide +kernel
theorem dX12_step_26 : decode cX12_step 26 = .ok (.iconst 1, 1) := by decide +kernel
theorem dX12_step_27 : decode cX12_step 27 = .ok (.iadd, 1) := by decide +kernel
theorem dX12_step_28 : decode cX12_step 28 = .ok (.putfield 639, 3) := by decide +kernel
theorem dX12_step_31 : decode cX12_step 31 = .ok (.return_, 1) := by decide +kernel
theorem dX12_compute_0 : decode cX12_compute 0 = .ok (.iload_n 1, 1) := by decide +kernel
theorem dX12_compute_1 : decode cX12_compute 1 = .ok (.lookupswitch 166 #[(37, 107), (42, 99), (43, 91), (45, 95), (47, 103), (60, 111), (62, 133), (300, 122), (301, 144), (302, 155)], 91) := by decide +kernel
theorem dX12_compute_92 : decode cX12_compute 92 = .ok (.iload_n 2, 1) := by decide +kernel
theorem dX12_compute_93 : decode cX12_compute 93 = .ok (.iload_n 3, 1) := by decide +kernel
theorem dX12_compute_94 : decode cX12_compute 94 = .ok (.iadd, 1) := by decide +kernel
theorem dX12_compute_95 : decode cX12_compute 95 = .ok (.ireturn, 1) := by decide +kernel
theorem dX12_compute_96 : decode cX12_compute 96 = .ok (.iload_n 2, 1) := by decide +kernel
theorem dX12_compute_97 : decode cX12_compute 97 = .ok (.iload_n 3, 1) := by decide +kernel
theorem dX12_compute_98 : decode cX12_compute 98 = .ok (.isub, 1) := by decide +kernel
theorem dX12_compute_99 : decode cX12_compute 99 = .ok (.ireturn, 1) := by decide +kernel
theorem dX12_compute_100 : decode cX12_compute 100 = .ok (.iload_n 2, 1) := by decide +kernel
theorem dX12_compute_101 : decode cX12_compute 101 = .ok (.iload_n 3, 1) := by decide +kernel
theorem dX12_compute_102 : decode cX12_compute 102 = .ok (.imul, 1) := by decide +kernel
theorem dX12_compute_103 : decode cX12_compute 103 = .ok (.ireturn, 1) := by decide +kernel
theorem dX12_compute_104 : decode cX12_compute 104 = .ok (.iload_n 2, 1) := by decide +kernel
theorem dX12_compute_105 : decode cX12_compute 105 = .ok (.iload_n 3, 1) := by decide +kernel
theorem dX12_compute_106 : decode cX12_compute 106 = .ok (.idiv, 1) := by decide +kernel
theorem dX12_compute_107 : decode cX12_compute 107 = .ok (.ireturn, 1) := by decide +kernel
theorem dX12_compute_108 : decode cX12_compute 108 = .ok (.iload_n 2, 1) := by decide +kernel
theorem dX12_compute_109 : decode cX12_compute 109 = .ok (.iload_n 3, 1) := by decide +kernel
theorem dX12_compute_110 : decode cX12_compute 110 = .ok (.irem, 1) := by decide +kernel
theorem dX12_compute_111 : decode cX12_compute 111 = .ok (.ireturn, 1) := by decide +kernel
theorem dX12_compute_112 : decode cX12_compute 112 = .ok (.iload_n 2, 1) := by decide +kernel
theorem dX12_compute_113 : decode cX12_compute 113 = .ok (.iload_n 3, 1) := by decide +kernel
theorem dX12_compute_114 : decode cX12_compute 114 = .ok (.if_icmp .ge 7, 3) := by decide +kernel
theorem dX12_compute_117 : decode cX12_compute 117 = .ok (.iconst 1, 1) := by decide +kernel
theorem dX12_compute_118 : decode cX12_compute 118 = .ok (.goto 4, 3) := by decide +kernel
theorem dX12_compute_121 : decode cX12_compute 121 = .ok (.iconst 0, 1) := by decide +kernel
theorem dX12_compute_122 : decode cX12_compute 122 = .ok (.ireturn, 1) := by decide +kernel
theorem dX12_compute_123 : decode cX12_compute 123 = .ok (.iload_n 2, 1) := by decide +kernel
theorem dX12_compute_124 : decode cX12_compute 124 = .ok (.iload_n 3, 1) := by decide +kernel
theorem dX12_compute_125 : decode cX12_compute 125 = .ok (.if_icmp .gt 7, 3) := by decide +kernel
theorem dX12_compute_128 : decode cX12_compute 128 = .ok (.iconst 1, 1) := by decide +kernel
theorem dX12_compute_129 : decode cX12_compute 129 = .ok (.goto 4, 3) := by decide +kernel
theorem dX12_compute_132 : decode cX12_compute 132 = .ok (.iconst 0, 1) := by decide +kernel
theorem dX12_compute_133 : decode cX12_compute 133 = .ok (.ireturn, 1) := by decide +kernel
theorem dX12_compute_134 : decode cX12_compute 134 = .ok (.iload_n 2, 1) := by decide +kernel
theorem dX12_compute_135 : decode cX12_compute 135 = .ok (.iload_n 3, 1) := by decide +kernel
theorem dX12_compute_136 : decode cX12_compute 136 = .ok (.if_icmp .le 7, 3) := by decide +kernel
theorem dX12_compute_139 : decode cX12_compute 139 = .ok (.iconst 1, 1) := by decide +kernel
theorem dX12_compute_140 : decode cX12_compute 140 = .ok (.goto 4, 3) := by decide +kernel
theorem dX12_compute_143 : decode cX12_compute 143 = .ok (.iconst 0, 1) := by decide +kernel
theorem dX12_compute_144 : decode cX12_compute 144 = .ok (.ireturn, 1) := by decide +kernel
theorem dX12_compute_145 : decode cX12_compute 145 = .ok (.iload_n 2, 1) := by decide +kernel
theorem dX12_compute_146 : decode cX12_compute 146 = .ok (.iload_n 3, 1) := by decide +kernel
theorem dX12_compute_147 : decode cX12_compute 147 = .ok (.if_icmp .lt 7, 3) := by decide +kernel
theorem dX12_compute_150 : decode cX12_compute 150 = .ok (.iconst 1, 1) := by decide +kernel
theorem dX12_compute_151 : decode cX12_compute 151 = .ok (.goto 4, 3) := by decide +kernel
theorem dX12_compute_154 : decode cX12_compute 154 = .ok (.iconst 0, 1) := by decide +kernel
theorem dX12_compute_155 : decode cX12_compute 155 = .ok (.ireturn, 1) := by decide +kernel
theorem dX12_compute_156 : decode cX12_compute 156 = .ok (.iload_n 2, 1) := by decide +kernel
theorem dX12_compute_157 : decode cX12_compute 157 = .ok (.iload_n 3, 1) := by decide +kernel
theorem dX12_compute_158 : decode cX12_compute 158 = .ok (.if_icmp .ne 7, 3) := by decide +kernel
theorem dX12_compute_161 : decode cX12_compute 161 = .ok (.iconst 1, 1) := by decide +kernel
theorem dX12_compute_162 : decode cX12_compute 162 = .ok (.goto 4, 3) := by decide +kernel
theorem dX12_compute_165 : decode cX12_compute 165 = .ok (.iconst 0, 1) := by decide +kernel
theorem dX12_compute_166 : decode cX12_compute 166 = .ok (.ireturn, 1) := by decide +kernel
theorem dX12_compute_167 : decode cX12_compute 167 = .ok (.iload_n 2, 1) := by decide +kernel
theorem dX12_compute_168 : decode cX12_compute 168 = .ok (.iload_n 3, 1) := by decide +kernel
theorem dX12_compute_169 : decode cX12_compute 169 = .ok (.if_icmp .eq 7, 3) := by decide +kernel
theorem dX12_compute_172 : decode cX12_compute 172 = .ok (.iconst 1, 1) := by decide +kernel
theorem dX12_compute_173 : decode cX12_compute 173 = .ok (.goto 4, 3) := by decide +kernel
theorem dX12_compute_176 : decode cX12_compute 176 = .ok (.iconst 0, 1) := by decide +kernel
theorem dX12_compute_177 : decode cX12_compute 177 = .ok (.ireturn, 1) := by decide +kernel
theorem dX12_caseOf_0 : decode cX12_caseOf 0 = .ok (.iconst (-1), 1) := by decide +kernel
theorem dX12_caseOf_1 : decode cX12_caseOf 1 = .ok (.istore_n 3, 1) := by decide +kernel
theorem dX12_caseOf_2 : decode cX12_caseOf 2 = .ok (.iload_n 1, 1) := by decide +kernel
theorem dX12_caseOf_3 : decode cX12_caseOf 3 = .ok (.istore 4, 2) := by decide +kernel
