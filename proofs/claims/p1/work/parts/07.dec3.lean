theorem dX12_feed_49 : decode cX12_feed 49 = .ok (.goto 28, 3) := by decide +kernel
theorem dX12_feed_52 : decode cX12_feed 52 = .ok (.iload 6, 2) := by decide +kernel
theorem dX12_feed_54 : decode cX12_feed 54 = .ok (.bipush 12, 2) := by decide +kernel
theorem dX12_feed_56 : decode cX12_feed 56 = .ok (.if_icmp .ge 7, 3) := by decide +kernel
theorem dX12_feed_59 : decode cX12_feed 59 = .ok (.iload_n 3, 1) := by decide +kernel
theorem dX12_feed_60 : decode cX12_feed 60 = .ok (.goto 17, 3) := by decide +kernel
theorem dX12_feed_63 : decode cX12_feed 63 = .ok (.iload 6, 2) := by decide +kernel
theorem dX12_feed_65 : decode cX12_feed 65 = .ok (.bipush 16, 2) := by decide +kernel
theorem dX12_feed_67 : decode cX12_feed 67 = .ok (.if_icmp .ge 8, 3) := by decide +kernel
theorem dX12_feed_70 : decode cX12_feed 70 = .ok (.iload 4, 2) := by decide +kernel
theorem dX12_feed_72 : decode cX12_feed 72 = .ok (.goto 5, 3) := by decide +kernel
theorem dX12_feed_75 : decode cX12_feed 75 = .ok (.iload 5, 2) := by decide +kernel
theorem dX12_feed_77 : decode cX12_feed 77 = .ok (.istore 7, 2) := by decide +kernel
theorem dX12_feed_79 : decode cX12_feed 79 = .ok (.aload_n 0, 1) := by decide +kernel
theorem dX12_feed_80 : decode cX12_feed 80 = .ok (.getfield 7, 3) := by decide +kernel
theorem dX12_feed_83 : decode cX12_feed 83 = .ok (.aload_n 0, 1) := by decide +kernel
theorem dX12_feed_84 : decode cX12_feed 84 = .ok (.getfield 276, 3) := by decide +kernel
theorem dX12_feed_87 : decode cX12_feed 87 = .ok (.iload 6, 2) := by decide +kernel
theorem dX12_feed_89 : decode cX12_feed 89 = .ok (.iadd, 1) := by decide +kernel
theorem dX12_feed_90 : decode cX12_feed 90 = .ok (.iload 7, 2) := by decide +kernel
theorem dX12_feed_92 : decode cX12_feed 92 = .ok (.bipush 24, 2) := by decide +kernel
theorem dX12_feed_94 : decode cX12_feed 94 = .ok (.bipush 8, 2) := by decide +kernel
theorem dX12_feed_96 : decode cX12_feed 96 = .ok (.iload 6, 2) := by decide +kernel
theorem dX12_feed_98 : decode cX12_feed 98 = .ok (.iconst 4, 1) := by decide +kernel
theorem dX12_feed_99 : decode cX12_feed 99 = .ok (.irem, 1) := by decide +kernel
theorem dX12_feed_100 : decode cX12_feed 100 = .ok (.imul, 1) := by decide +kernel
theorem dX12_feed_101 : decode cX12_feed 101 = .ok (.isub, 1) := by decide +kernel
theorem dX12_feed_102 : decode cX12_feed 102 = .ok (.ishr, 1) := by decide +kernel
theorem dX12_feed_103 : decode cX12_feed 103 = .ok (.sipush 255, 3) := by decide +kernel
theorem dX12_feed_106 : decode cX12_feed 106 = .ok (.iand, 1) := by decide +kernel
theorem dX12_feed_107 : decode cX12_feed 107 = .ok (.iastore, 1) := by decide +kernel
theorem dX12_feed_108 : decode cX12_feed 108 = .ok (.iinc 6 1, 3) := by decide +kernel
theorem dX12_feed_111 : decode cX12_feed 111 = .ok (.goto (-87), 3) := by decide +kernel
theorem dX12_feed_114 : decode cX12_feed 114 = .ok (.aload_n 0, 1) := by decide +kernel
theorem dX12_feed_115 : decode cX12_feed 115 = .ok (.dup, 1) := by decide +kernel
theorem dX12_feed_116 : decode cX12_feed 116 = .ok (.getfield 276, 3) := by decide +kernel
theorem dX12_feed_119 : decode cX12_feed 119 = .ok (.bipush 20, 2) := by decide +kernel
theorem dX12_feed_121 : decode cX12_feed 121 = .ok (.iadd, 1) := by decide +kernel
theorem dX12_feed_122 : decode cX12_feed 122 = .ok (.putfield 276, 3) := by decide +kernel
theorem dX12_feed_125 : decode cX12_feed 125 = .ok (.aload_n 0, 1) := by decide +kernel
theorem dX12_feed_126 : decode cX12_feed 126 = .ok (.getfield 276, 3) := by decide +kernel
theorem dX12_feed_129 : decode cX12_feed 129 = .ok (.ireturn, 1) := by decide +kernel
theorem dX12_cut_0 : decode cX12_cut 0 = .ok (.aload_n 0, 1) := by decide +kernel
theorem dX12_cut_1 : decode cX12_cut 1 = .ok (.iconst 0, 1) := by decide +kernel
theorem dX12_cut_2 : decode cX12_cut 2 = .ok (.putfield 273, 3) := by decide +kernel
theorem dX12_cut_5 : decode cX12_cut 5 = .ok (.iload_n 1, 1) := by decide +kernel
theorem dX12_cut_6 : decode cX12_cut 6 = .ok (.iconst 0, 1) := by decide +kernel
theorem dX12_cut_7 : decode cX12_cut 7 = .ok (.aload_n 0, 1) := by decide +kernel
theorem dX12_cut_8 : decode cX12_cut 8 = .ok (.getfield 276, 3) := by decide +kernel
theorem dX12_cut_11 : decode cX12_cut 11 = .ok (.invokestatic 279, 3) := by decide +kernel
theorem dX12_cut_14 : decode cX12_cut 14 = .ok (.ifCond .ne 5, 3) := by decide +kernel
theorem dX12_cut_17 : decode cX12_cut 17 = .ok (.iconst (-1), 1) := by decide +kernel
theorem dX12_cut_18 : decode cX12_cut 18 = .ok (.ireturn, 1) := by decide +kernel
theorem dX12_cut_19 : decode cX12_cut 19 = .ok (.aload_n 0, 1) := by decide +kernel
theorem dX12_cut_20 : decode cX12_cut 20 = .ok (.getfield 276, 3) := by decide +kernel
theorem dX12_cut_23 : decode cX12_cut 23 = .ok (.iload_n 1, 1) := by decide +kernel
theorem dX12_cut_24 : decode cX12_cut 24 = .ok (.isub, 1) := by decide +kernel
theorem dX12_cut_25 : decode cX12_cut 25 = .ok (.istore_n 2, 1) := by decide +kernel
theorem dX12_cut_26 : decode cX12_cut 26 = .ok (.aload_n 0, 1) := by decide +kernel
theorem dX12_cut_27 : decode cX12_cut 27 = .ok (.iload_n 1, 1) := by decide +kernel
theorem dX12_cut_28 : decode cX12_cut 28 = .ok (.putfield 276, 3) := by decide +kernel
theorem dX12_cut_31 : decode cX12_cut 31 = .ok (.iload_n 2, 1) := by decide +kernel
theorem dX12_cut_32 : decode cX12_cut 32 = .ok (.ireturn, 1) := by decide +kernel
theorem dX12_kind_0 : decode cX12_kind 0 = .ok (.aload_n 0, 1) := by decide +kernel
theorem dX12_kind_1 : decode cX12_kind 1 = .ok (.iconst 0, 1) := by decide +kernel
theorem dX12_kind_2 : decode cX12_kind 2 = .ok (.putfield 273, 3) := by decide +kernel
theorem dX12_kind_5 : decode cX12_kind 5 = .ok (.iload_n 1, 1) := by decide +kernel
theorem dX12_kind_6 : decode cX12_kind 6 = .ok (.iconst 0, 1) := by decide +kernel
theorem dX12_kind_7 : decode cX12_kind 7 = .ok (.aload_n 0, 1) := by decide +kernel
theorem dX12_kind_8 : decode cX12_kind 8 = .ok (.getfield 13, 3) := by decide +kernel
theorem dX12_kind_11 : decode cX12_kind 11 = .ok (.iconst 1, 1) := by decide +kernel
theorem dX12_kind_12 : decode cX12_kind 12 = .ok (.isub, 1) := by decide +kernel
theorem dX12_kind_13 : decode cX12_kind 13 = .ok (.invokestatic 279, 3) := by decide +kernel
theorem dX12_kind_16 : decode cX12_kind 16 = .ok (.ifCond .ne 5, 3) := by decide +kernel
theorem dX12_kind_19 : decode cX12_kind 19 = .ok (.iconst (-1), 1) := by decide +kernel
theorem dX12_kind_20 : decode cX12_kind 20 = .ok (.ireturn, 1) := by decide +kernel
theorem dX12_kind_21 : decode cX12_kind 21 = .ok (.aload_n 0, 1) := by decide +kernel
theorem dX12_kind_22 : decode cX12_kind 22 = .ok (.getfield 13, 3) := by decide +kernel
theorem dX12_kind_25 : decode cX12_kind 25 = .ok (.bipush 12, 2) := by decide +kernel
theorem dX12_kind_27 : decode cX12_kind 27 = .ok (.if_icmp .ne 6, 3) := by decide +kernel
theorem dX12_kind_33 : decode cX12_kind 33 = .ok (.aload_n 0, 1) := by decide +kernel
theorem dX12_kind_34 : decode cX12_kind 34 = .ok (.getfield 17, 3) := by decide +kernel
theorem dX12_kind_37 : decode cX12_kind 37 = .ok (.aload_n 0, 1) := by decide +kernel
theorem dX12_kind_38 : decode cX12_kind 38 = .ok (.getfield 13, 3) := by decide +kernel
theorem dX12_kind_41 : decode cX12_kind 41 = .ok (.iload_n 1, 1) := by decide +kernel
theorem dX12_kind_42 : decode cX12_kind 42 = .ok (.iastore, 1) := by decide +kernel
theorem dX12_kind_43 : decode cX12_kind 43 = .ok (.aload_n 0, 1) := by decide +kernel
theorem dX12_kind_44 : decode cX12_kind 44 = .ok (.dup, 1) := by decide +kernel
theorem dX12_kind_45 : decode cX12_kind 45 = .ok (.getfield 13, 3) := by decide +kernel
theorem dX12_kind_48 : decode cX12_kind 48 = .ok (.iconst 1, 1) := by decide +kernel
theorem dX12_kind_49 : decode cX12_kind 49 = .ok (.iadd, 1) := by decide +kernel
theorem dX12_kind_50 : decode cX12_kind 50 = .ok (.putfield 13, 3) := by decide +kernel
theorem dX12_kind_53 : decode cX12_kind 53 = .ok (.aload_n 0, 1) := by decide +kernel
theorem dX12_kind_54 : decode cX12_kind 54 = .ok (.getfield 13, 3) := by decide +kernel
theorem dX12_kind_57 : decode cX12_kind 57 = .ok (.iconst 1, 1) := by decide +kernel
theorem dX12_kind_58 : decode cX12_kind 58 = .ok (.isub, 1) := by decide +kernel
theorem dX12_kind_59 : decode cX12_kind 59 = .ok (.ireturn, 1) := by decide +kernel
theorem dX12_isUnder_0 : decode cX12_isUnder 0 = .ok (.iload_n 1, 1) := by decide +kernel
theorem dX12_isUnder_1 : decode cX12_isUnder 1 = .ok (.istore_n 3, 1) := by decide +kernel
theorem dX12_isUnder_2 : decode cX12_isUnder 2 = .ok (.iload_n 3, 1) := by decide +kernel
theorem dX12_isUnder_3 : decode cX12_isUnder 3 = .ok (.iload_n 2, 1) := by decide +kernel
theorem dX12_isUnder_4 : decode cX12_isUnder 4 = .ok (.if_icmp .eq 17, 3) := by decide +kernel
theorem dX12_isUnder_7 : decode cX12_isUnder 7 = .ok (.iload_n 3, 1) := by decide +kernel
theorem dX12_isUnder_8 : decode cX12_isUnder 8 = .ok (.ifCond .le 13, 3) := by decide +kernel
theorem dX12_isUnder_11 : decode cX12_isUnder 11 = .ok (.aload_n 0, 1) := by decide +kernel
theorem dX12_isUnder_12 : decode cX12_isUnder 12 = .ok (.getfield 17, 3) := by decide +kernel
theorem dX12_isUnder_15 : decode cX12_isUnder 15 = .ok (.iload_n 3, 1) := by decide +kernel
theorem dX12_isUnder_16 : decode cX12_isUnder 16 = .ok (.iaload, 1) := by decide +kernel
theorem dX12_isUnder_17 : decode cX12_isUnder 17 = .ok (.istore_n 3, 1) := by decide +kernel
theorem dX12_isUnder_18 : decode cX12_isUnder 18 = .ok (.goto (-16), 3) := by decide +kernel
theorem dX12_isUnder_21 : decode cX12_isUnder 21 = .ok (.iload_n 3, 1) := by decide +kernel
theorem dX12_isUnder_22 : decode cX12_isUnder 22 = .ok (.iload_n 2, 1) := by decide +kernel
theorem dX12_isUnder_23 : decode cX12_isUnder 23 = .ok (.if_icmp .ne 7, 3) := by decide +kernel
theorem dX12_isUnder_26 : decode cX12_isUnder 26 = .ok (.iconst 1, 1) := by decide +kernel
theorem dX12_isUnder_27 : decode cX12_isUnder 27 = .ok (.goto 4, 3) := by decide +kernel
theorem dX12_isUnder_30 : decode cX12_isUnder 30 = .ok (.iconst 0, 1) := by decide +kernel
theorem dX12_isUnder_31 : decode cX12_isUnder 31 = .ok (.ireturn, 1) := by decide +kernel
theorem dX12_under_0 : decode cX12_under 0 = .ok (.aload_n 0, 1) := by decide +kernel
theorem dX12_under_1 : decode cX12_under 1 = .ok (.iconst 0, 1) := by decide +kernel
theorem dX12_under_2 : decode cX12_under 2 = .ok (.putfield 273, 3) := by decide +kernel
theorem dX12_under_5 : decode cX12_under 5 = .ok (.iload_n 1, 1) := by decide +kernel
theorem dX12_under_6 : decode cX12_under 6 = .ok (.iconst 0, 1) := by decide +kernel
theorem dX12_under_7 : decode cX12_under 7 = .ok (.aload_n 0, 1) := by decide +kernel
theorem dX12_under_8 : decode cX12_under 8 = .ok (.getfield 13, 3) := by decide +kernel
theorem dX12_under_11 : decode cX12_under 11 = .ok (.iconst 1, 1) := by decide +kernel
theorem dX12_under_12 : decode cX12_under 12 = .ok (.isub, 1) := by decide +kernel
theorem dX12_under_13 : decode cX12_under 13 = .ok (.invokestatic 279, 3) := by decide +kernel
theorem dX12_under_16 : decode cX12_under 16 = .ok (.ifCond .eq 17, 3) := by decide +kernel
theorem dX12_under_19 : decode cX12_under 19 = .ok (.iload_n 2, 1) := by decide +kernel
theorem dX12_under_20 : decode cX12_under 20 = .ok (.iconst 0, 1) := by decide +kernel
theorem dX12_under_21 : decode cX12_under 21 = .ok (.aload_n 0, 1) := by decide +kernel
theorem dX12_under_22 : decode cX12_under 22 = .ok (.getfield 13, 3) := by decide +kernel
theorem dX12_under_25 : decode cX12_under 25 = .ok (.iconst 1, 1) := by decide +kernel
theorem dX12_under_26 : decode cX12_under 26 = .ok (.isub, 1) := by decide +kernel
theorem dX12_under_27 : decode cX12_under 27 = .ok (.invokestatic 279, 3) := by decide +kernel
theorem dX12_under_30 : decode cX12_under 30 = .ok (.ifCond .ne 5, 3) := by decide +kernel
theorem dX12_under_33 : decode cX12_under 33 = .ok (.iconst (-1), 1) := by decide +kernel
theorem dX12_under_34 : decode cX12_under 34 = .ok (.ireturn, 1) := by decide +kernel
theorem dX12_under_35 : decode cX12_under 35 = .ok (.aload_n 0, 1) := by decide +kernel
theorem dX12_under_36 : decode cX12_under 36 = .ok (.iload_n 1, 1) := by decide +kernel
theorem dX12_under_37 : decode cX12_under 37 = .ok (.iload_n 2, 1) := by decide +kernel
theorem dX12_under_38 : decode cX12_under 38 = .ok (.invokevirtual 283, 3) := by decide +kernel
theorem dX12_under_41 : decode cX12_under 41 = .ok (.ifCond .eq 7, 3) := by decide +kernel
theorem dX12_under_44 : decode cX12_under 44 = .ok (.iconst 1, 1) := by decide +kernel
theorem dX12_under_45 : decode cX12_under 45 = .ok (.goto 4, 3) := by decide +kernel
theorem dX12_under_48 : decode cX12_under 48 = .ok (.iconst 0, 1) := by decide +kernel
theorem dX12_under_49 : decode cX12_under 49 = .ok (.ireturn, 1) := by decide +kernel
theorem dX12_resource_0 : decode cX12_resource 0 = .ok (.aload_n 0, 1) := by decide +kernel
theorem dX12_resource_1 : decode cX12_resource 1 = .ok (.iconst 0, 1) := by decide +kernel
theorem dX12_resource_2 : decode cX12_resource 2 = .ok (.putfield 273, 3) := by decide +kernel
theorem dX12_resource_5 : decode cX12_resource 5 = .ok (.iload_n 1, 1) := by decide +kernel
theorem dX12_resource_6 : decode cX12_resource 6 = .ok (.iconst 0, 1) := by decide +kernel
theorem dX12_resource_7 : decode cX12_resource 7 = .ok (.bipush 7, 2) := by decide +kernel
theorem dX12_resource_9 : decode cX12_resource 9 = .ok (.invokestatic 279, 3) := by decide +kernel
theorem dX12_resource_12 : decode cX12_resource 12 = .ok (.ifCond .eq 41, 3) := by decide +kernel
theorem dX12_resource_15 : decode cX12_resource 15 = .ok (.iload_n 2, 1) := by decide +kernel
theorem dX12_resource_16 : decode cX12_resource 16 = .ok (.iconst 0, 1) := by decide +kernel
theorem dX12_resource_17 : decode cX12_resource 17 = .ok (.iconst 1, 1) := by decide +kernel
theorem dX12_resource_18 : decode cX12_resource 18 = .ok (.invokestatic 279, 3) := by decide +kernel
theorem dX12_resource_21 : decode cX12_resource 21 = .ok (.ifCond .eq 32, 3) := by decide +kernel
theorem dX12_resource_24 : decode cX12_resource 24 = .ok (.iload_n 3, 1) := by decide +kernel
theorem dX12_resource_25 : decode cX12_resource 25 = .ok (.iconst (-1), 1) := by decide +kernel
theorem dX12_resource_26 : decode cX12_resource 26 = .ok (.aload_n 0, 1) := by decide +kernel
theorem dX12_resource_27 : decode cX12_resource 27 = .ok (.getfield 13, 3) := by decide +kernel
theorem dX12_resource_30 : decode cX12_resource 30 = .ok (.iconst 1, 1) := by decide +kernel
theorem dX12_resource_31 : decode cX12_resource 31 = .ok (.isub, 1) := by decide +kernel
theorem dX12_resource_32 : decode cX12_resource 32 = .ok (.invokestatic 279, 3) := by decide +kernel
theorem dX12_resource_35 : decode cX12_resource 35 = .ok (.ifCond .eq 18, 3) := by decide +kernel
theorem dX12_resource_38 : decode cX12_resource 38 = .ok (.iload 4, 2) := by decide +kernel
theorem dX12_resource_40 : decode cX12_resource 40 = .ok (.iconst (-1), 1) := by decide +kernel
theorem dX12_resource_41 : decode cX12_resource 41 = .ok (.aload_n 0, 1) := by decide +kernel
theorem dX12_resource_42 : decode cX12_resource 42 = .ok (.getfield 13, 3) := by decide +kernel
theorem dX12_resource_45 : decode cX12_resource 45 = .ok (.iconst 1, 1) := by decide +kernel
theorem dX12_resource_46 : decode cX12_resource 46 = .ok (.isub, 1) := by decide +kernel
theorem dX12_resource_47 : decode cX12_resource 47 = .ok (.invokestatic 279, 3) := by decide +kernel
theorem dX12_resource_50 : decode cX12_resource 50 = .ok (.ifCond .ne 5, 3) := by decide +kernel
theorem dX12_resource_53 : decode cX12_resource 53 = .ok (.iconst (-1), 1) := by decide +kernel
theorem dX12_resource_54 : decode cX12_resource 54 = .ok (.ireturn, 1) := by decide +kernel
theorem dX12_resource_55 : decode cX12_resource 55 = .ok (.aload_n 0, 1) := by decide +kernel
theorem dX12_resource_56 : decode cX12_resource 56 = .ok (.getfield 20, 3) := by decide +kernel
theorem dX12_resource_59 : decode cX12_resource 59 = .ok (.iload_n 1, 1) := by decide +kernel
theorem dX12_resource_60 : decode cX12_resource 60 = .ok (.iload_n 2, 1) := by decide +kernel
theorem dX12_resource_61 : decode cX12_resource 61 = .ok (.iconst 1, 1) := by decide +kernel
theorem dX12_resource_62 : decode cX12_resource 62 = .ok (.if_icmp .ne 7, 3) := by decide +kernel
theorem dX12_resource_65 : decode cX12_resource 65 = .ok (.iconst 1, 1) := by decide +kernel
theorem dX12_resource_66 : decode cX12_resource 66 = .ok (.goto 4, 3) := by decide +kernel
theorem dX12_resource_69 : decode cX12_resource 69 = .ok (.iconst 0, 1) := by decide +kernel
theorem dX12_resource_70 : decode cX12_resource 70 = .ok (.bastore, 1) := by decide +kernel
theorem dX12_resource_71 : decode cX12_resource 71 = .ok (.aload_n 0, 1) := by decide +kernel
theorem dX12_resource_72 : decode cX12_resource 72 = .ok (.getfield 24, 3) := by decide +kernel
theorem dX12_resource_75 : decode cX12_resource 75 = .ok (.iload_n 1, 1) := by decide +kernel
theorem dX12_resource_76 : decode cX12_resource 76 = .ok (.iload_n 3, 1) := by decide +kernel
theorem dX12_resource_77 : decode cX12_resource 77 = .ok (.iconst 1, 1) := by decide +kernel
theorem dX12_resource_78 : decode cX12_resource 78 = .ok (.iadd, 1) := by decide +kernel
theorem dX12_resource_79 : decode cX12_resource 79 = .ok (.iastore, 1) := by decide +kernel
theorem dX12_resource_80 : decode cX12_resource 80 = .ok (.aload_n 0, 1) := by decide +kernel
theorem dX12_resource_81 : decode cX12_resource 81 = .ok (.getfield 27, 3) := by decide +kernel
theorem dX12_resource_84 : decode cX12_resource 84 = .ok (.iload_n 1, 1) := by decide +kernel
theorem dX12_resource_85 : decode cX12_resource 85 = .ok (.iload 4, 2) := by decide +kernel
theorem dX12_resource_87 : decode cX12_resource 87 = .ok (.iconst 1, 1) := by decide +kernel
theorem dX12_resource_88 : decode cX12_resource 88 = .ok (.iadd, 1) := by decide +kernel
theorem dX12_resource_89 : decode cX12_resource 89 = .ok (.iastore, 1) := by decide +kernel
theorem dX12_resource_90 : decode cX12_resource 90 = .ok (.iconst 1, 1) := by decide +kernel
theorem dX12_resource_91 : decode cX12_resource 91 = .ok (.ireturn, 1) := by decide +kernel
theorem dX12_asserts_0 : decode cX12_asserts 0 = .ok (.aload_n 0, 1) := by decide +kernel
theorem dX12_asserts_1 : decode cX12_asserts 1 = .ok (.iconst 0, 1) := by decide +kernel
theorem dX12_asserts_2 : decode cX12_asserts 2 = .ok (.putfield 273, 3) := by decide +kernel
theorem dX12_asserts_5 : decode cX12_asserts 5 = .ok (.aload_n 0, 1) := by decide +kernel
theorem dX12_asserts_6 : decode cX12_asserts 6 = .ok (.getfield 287, 3) := by decide +kernel
theorem dX12_asserts_9 : decode cX12_asserts 9 = .ok (.ifCond .eq 7, 3) := by decide +kernel
theorem dX12_asserts_16 : decode cX12_asserts 16 = .ok (.iconst 0, 1) := by decide +kernel
theorem dX12_asserts_17 : decode cX12_asserts 17 = .ok (.istore_n 2, 1) := by decide +kernel
theorem dX12_asserts_18 : decode cX12_asserts 18 = .ok (.aload_n 0, 1) := by decide +kernel
theorem dX12_asserts_19 : decode cX12_asserts 19 = .ok (.iload_n 1, 1) := by decide +kernel
theorem dX12_asserts_20 : decode cX12_asserts 20 = .ok (.putfield 287, 3) := by decide +kernel
theorem dX12_asserts_23 : decode cX12_asserts 23 = .ok (.iload_n 2, 1) := by decide +kernel
theorem dX12_asserts_24 : decode cX12_asserts 24 = .ok (.ireturn, 1) := by decide +kernel
theorem dX12_at_0 : decode cX12_at 0 = .ok (.iload_n 1, 1) := by decide +kernel
theorem dX12_at_1 : decode cX12_at 1 = .ok (.aload_n 0, 1) := by decide +kernel
theorem dX12_at_2 : decode cX12_at 2 = .ok (.getfield 276, 3) := by decide +kernel
theorem dX12_at_5 : decode cX12_at 5 = .ok (.if_icmp .ge 12, 3) := by decide +kernel
theorem dX12_at_17 : decode cX12_at 17 = .ok (.iconst 0, 1) := by decide +kernel
theorem dX12_at_18 : decode cX12_at 18 = .ok (.ireturn, 1) := by decide +kernel
theorem dX12_next_0 : decode cX12_next 0 = .ok (.aload_n 0, 1) := by decide +kernel
theorem dX12_next_1 : decode cX12_next 1 = .ok (.getfield 291, 3) := by decide +kernel
theorem dX12_next_4 : decode cX12_next 4 = .ok (.ifCond .eq 4, 3) := by decide +kernel
theorem dX12_next_8 : decode cX12_next 8 = .ok (.aload_n 0, 1) := by decide +kernel
theorem dX12_next_9 : decode cX12_next 9 = .ok (.dup, 1) := by decide +kernel
theorem dX12_next_10 : decode cX12_next 10 = .ok (.getfield 294, 3) := by decide +kernel
theorem dX12_next_13 : decode cX12_next 13 = .ok (.iconst 1, 1) := by decide +kernel
theorem dX12_next_14 : decode cX12_next 14 = .ok (.iadd, 1) := by decide +kernel
theorem dX12_next_15 : decode cX12_next 15 = .ok (.putfield 294, 3) := by decide +kernel
theorem dX12_next_18 : decode cX12_next 18 = .ok (.aload_n 0, 1) := by decide +kernel
theorem dX12_next_19 : decode cX12_next 19 = .ok (.getfield 297, 3) := by decide +kernel
theorem dX12_next_22 : decode cX12_next 22 = .ok (.aload_n 0, 1) := by decide +kernel
theorem dX12_next_23 : decode cX12_next 23 = .ok (.getfield 276, 3) := by decide +kernel
theorem dX12_next_26 : decode cX12_next 26 = .ok (.if_icmp .ge 42, 3) := by decide +kernel
theorem dX12_next_68 : decode cX12_next 68 = .ok (.aload_n 0, 1) := by decide +kernel
theorem dX12_next_69 : decode cX12_next 69 = .ok (.aload_n 0, 1) := by decide +kernel
theorem dX12_next_70 : decode cX12_next 70 = .ok (.getfield 297, 3) := by decide +kernel
theorem dX12_next_73 : decode cX12_next 73 = .ok (.putfield 304, 3) := by decide +kernel
theorem dX12_next_76 : decode cX12_next 76 = .ok (.aload_n 0, 1) := by decide +kernel
theorem dX12_next_77 : decode cX12_next 77 = .ok (.aload_n 0, 1) := by decide +kernel
theorem dX12_next_78 : decode cX12_next 78 = .ok (.getfield 304, 3) := by decide +kernel
theorem dX12_next_81 : decode cX12_next 81 = .ok (.invokevirtual 300, 3) := by decide +kernel
theorem dX12_next_84 : decode cX12_next 84 = .ok (.istore_n 1, 1) := by decide +kernel
theorem dX12_next_85 : decode cX12_next 85 = .ok (.aload_n 0, 1) := by decide +kernel
theorem dX12_next_86 : decode cX12_next 86 = .ok (.getfield 304, 3) := by decide +kernel
theorem dX12_next_89 : decode cX12_next 89 = .ok (.aload_n 0, 1) := by decide +kernel
theorem dX12_next_90 : decode cX12_next 90 = .ok (.getfield 276, 3) := by decide +kernel
theorem dX12_next_93 : decode cX12_next 93 = .ok (.if_icmp .ne 11, 3) := by decide +kernel
theorem dX12_next_96 : decode cX12_next 96 = .ok (.aload_n 0, 1) := by decide +kernel
theorem dX12_next_97 : decode cX12_next 97 = .ok (.iconst 0, 1) := by decide +kernel
theorem dX12_next_98 : decode cX12_next 98 = .ok (.putfield 307, 3) := by decide +kernel
theorem dX12_next_101 : decode cX12_next 101 = .ok (.goto 132, 3) := by decide +kernel
theorem dX12_next_233 : decode cX12_next 233 = .ok (.return_, 1) := by decide +kernel
theorem dX12_can_0 : decode cX12_can 0 = .ok (.aload_n 0, 1) := by decide +kernel
theorem dX12_can_1 : decode cX12_can 1 = .ok (.getfield 291, 3) := by decide +kernel
theorem dX12_can_4 : decode cX12_can 4 = .ok (.ifCond .ne 38, 3) := by decide +kernel
theorem dX12_can_7 : decode cX12_can 7 = .ok (.iload_n 1, 1) := by decide +kernel
theorem dX12_can_8 : decode cX12_can 8 = .ok (.ifCond .eq 12, 3) := by decide +kernel
theorem dX12_can_11 : decode cX12_can 11 = .ok (.aload_n 0, 1) := by decide +kernel
theorem dX12_can_12 : decode cX12_can 12 = .ok (.getfield 307, 3) := by decide +kernel
theorem dX12_can_15 : decode cX12_can 15 = .ok (.bipush 6, 2) := by decide +kernel
theorem dX12_can_17 : decode cX12_can 17 = .ok (.if_icmp .ne 25, 3) := by decide +kernel
theorem dX12_can_42 : decode cX12_can 42 = .ok (.aload_n 0, 1) := by decide +kernel
theorem dX12_can_43 : decode cX12_can 43 = .ok (.getfield 291, 3) := by decide +kernel
theorem dX12_can_46 : decode cX12_can 46 = .ok (.ifCond .ne 7, 3) := by decide +kernel
theorem dX12_can_49 : decode cX12_can 49 = .ok (.iconst 1, 1) := by decide +kernel
theorem dX12_can_50 : decode cX12_can 50 = .ok (.goto 4, 3) := by decide +kernel
theorem dX12_can_54 : decode cX12_can 54 = .ok (.ireturn, 1) := by decide +kernel
theorem dX12_see_0 : decode cX12_see 0 = .ok (.aload_n 0, 1) := by decide +kernel
theorem dX12_see_1 : decode cX12_see 1 = .ok (.getfield 126, 3) := by decide +kernel
theorem dX12_see_4 : decode cX12_see 4 = .ok (.aload_n 0, 1) := by decide +kernel
theorem dX12_see_5 : decode cX12_see 5 = .ok (.getfield 361, 3) := by decide +kernel
theorem dX12_see_8 : decode cX12_see 8 = .ok (.lload_n 1, 1) := by decide +kernel
theorem dX12_see_9 : decode cX12_see 9 = .ok (.lastore, 1) := by decide +kernel
theorem dX12_see_10 : decode cX12_see 10 = .ok (.aload_n 0, 1) := by decide +kernel
theorem dX12_see_11 : decode cX12_see 11 = .ok (.getfield 129, 3) := by decide +kernel
theorem dX12_see_14 : decode cX12_see 14 = .ok (.aload_n 0, 1) := by decide +kernel
theorem dX12_see_15 : decode cX12_see 15 = .ok (.getfield 361, 3) := by decide +kernel
theorem dX12_see_18 : decode cX12_see 18 = .ok (.aload_n 0, 1) := by decide +kernel
theorem dX12_see_19 : decode cX12_see 19 = .ok (.getfield 364, 3) := by decide +kernel
theorem dX12_see_22 : decode cX12_see 22 = .ok (.iastore, 1) := by decide +kernel
theorem dX12_see_23 : decode cX12_see 23 = .ok (.aload_n 0, 1) := by decide +kernel
theorem dX12_see_24 : decode cX12_see 24 = .ok (.getfield 132, 3) := by decide +kernel
theorem dX12_see_27 : decode cX12_see 27 = .ok (.aload_n 0, 1) := by decide +kernel
theorem dX12_see_28 : decode cX12_see 28 = .ok (.getfield 361, 3) := by decide +kernel
theorem dX12_see_31 : decode cX12_see 31 = .ok (.iload_n 3, 1) := by decide +kernel
theorem dX12_see_32 : decode cX12_see 32 = .ok (.bastore, 1) := by decide +kernel
theorem dX12_see_33 : decode cX12_see 33 = .ok (.aload_n 0, 1) := by decide +kernel
theorem dX12_see_34 : decode cX12_see 34 = .ok (.dup, 1) := by decide +kernel
theorem dX12_see_35 : decode cX12_see 35 = .ok (.getfield 361, 3) := by decide +kernel
theorem dX12_see_38 : decode cX12_see 38 = .ok (.iconst 1, 1) := by decide +kernel
theorem dX12_see_39 : decode cX12_see 39 = .ok (.iadd, 1) := by decide +kernel
theorem dX12_see_40 : decode cX12_see 40 = .ok (.putfield 361, 3) := by decide +kernel
theorem dX12_see_43 : decode cX12_see 43 = .ok (.aload_n 0, 1) := by decide +kernel
theorem dX12_see_44 : decode cX12_see 44 = .ok (.dup, 1) := by decide +kernel
theorem dX12_see_45 : decode cX12_see 45 = .ok (.getfield 364, 3) := by decide +kernel
theorem dX12_see_48 : decode cX12_see 48 = .ok (.iconst 1, 1) := by decide +kernel
theorem dX12_see_49 : decode cX12_see 49 = .ok (.iadd, 1) := by decide +kernel
theorem dX12_see_50 : decode cX12_see 50 = .ok (.putfield 364, 3) := by decide +kernel
theorem dX12_see_53 : decode cX12_see 53 = .ok (.aload_n 0, 1) := by decide +kernel
theorem dX12_see_54 : decode cX12_see 54 = .ok (.getfield 364, 3) := by decide +kernel
theorem dX12_see_57 : decode cX12_see 57 = .ok (.iconst 1, 1) := by decide +kernel
theorem dX12_see_58 : decode cX12_see 58 = .ok (.isub, 1) := by decide +kernel
theorem dX12_see_59 : decode cX12_see 59 = .ok (.ireturn, 1) := by decide +kernel
theorem dX12_push_0 : decode cX12_push 0 = .ok (.aload_n 0, 1) := by decide +kernel
theorem dX12_push_1 : decode cX12_push 1 = .ok (.dup, 1) := by decide +kernel
theorem dX12_push_2 : decode cX12_push 2 = .ok (.getfield 387, 3) := by decide +kernel
theorem dX12_push_5 : decode cX12_push 5 = .ok (.iconst 1, 1) := by decide +kernel
theorem dX12_push_6 : decode cX12_push 6 = .ok (.iadd, 1) := by decide +kernel
theorem dX12_push_7 : decode cX12_push 7 = .ok (.putfield 387, 3) := by decide +kernel
theorem dX12_push_10 : decode cX12_push 10 = .ok (.aload_n 0, 1) := by decide +kernel
theorem dX12_push_11 : decode cX12_push 11 = .ok (.getfield 174, 3) := by decide +kernel
theorem dX12_push_14 : decode cX12_push 14 = .ok (.aload_n 0, 1) := by decide +kernel
theorem dX12_push_15 : decode cX12_push 15 = .ok (.getfield 387, 3) := by decide +kernel
theorem dX12_push_18 : decode cX12_push 18 = .ok (.iload_n 1, 1) := by decide +kernel
theorem dX12_push_19 : decode cX12_push 19 = .ok (.iastore, 1) := by decide +kernel
theorem dX12_push_20 : decode cX12_push 20 = .ok (.aload_n 0, 1) := by decide +kernel
theorem dX12_push_21 : decode cX12_push 21 = .ok (.getfield 177, 3) := by decide +kernel
theorem dX12_push_24 : decode cX12_push 24 = .ok (.aload_n 0, 1) := by decide +kernel
theorem dX12_push_25 : decode cX12_push 25 = .ok (.getfield 387, 3) := by decide +kernel
theorem dX12_push_28 : decode cX12_push 28 = .ok (.iconst 0, 1) := by decide +kernel
theorem dX12_push_29 : decode cX12_push 29 = .ok (.iastore, 1) := by decide +kernel
theorem dX12_push_30 : decode cX12_push 30 = .ok (.return_, 1) := by decide +kernel
theorem dX12_over_0 : decode cX12_over 0 = .ok (.aload_n 0, 1) := by decide +kernel
theorem dX12_over_1 : decode cX12_over 1 = .ok (.iload_n 1, 1) := by decide +kernel
theorem dX12_over_2 : decode cX12_over 2 = .ok (.putfield 396, 3) := by decide +kernel
theorem dX12_over_5 : decode cX12_over 5 = .ok (.aload_n 0, 1) := by decide +kernel
theorem dX12_over_6 : decode cX12_over 6 = .ok (.dup, 1) := by decide +kernel
theorem dX12_over_7 : decode cX12_over 7 = .ok (.getfield 387, 3) := by decide +kernel
theorem dX12_over_10 : decode cX12_over 10 = .ok (.iconst 1, 1) := by decide +kernel
theorem dX12_over_11 : decode cX12_over 11 = .ok (.isub, 1) := by decide +kernel
theorem dX12_over_12 : decode cX12_over 12 = .ok (.putfield 387, 3) := by decide +kernel
theorem dX12_over_15 : decode cX12_over 15 = .ok (.return_, 1) := by decide +kernel
theorem dX12_parse_0 : decode cX12_parse 0 = .ok (.aload_n 0, 1) := by decide +kernel
theorem dX12_parse_1 : decode cX12_parse 1 = .ok (.iconst (-1), 1) := by decide +kernel
theorem dX12_parse_2 : decode cX12_parse 2 = .ok (.putfield 387, 3) := by decide +kernel
theorem dX12_parse_5 : decode cX12_parse 5 = .ok (.aload_n 0, 1) := by decide +kernel
theorem dX12_parse_6 : decode cX12_parse 6 = .ok (.iconst 1, 1) := by decide +kernel
theorem dX12_parse_7 : decode cX12_parse 7 = .ok (.invokevirtual 390, 3) := by decide +kernel
theorem dX12_parse_10 : decode cX12_parse 10 = .ok (.aload_n 0, 1) := by decide +kernel
theorem dX12_parse_11 : decode cX12_parse 11 = .ok (.getfield 387, 3) := by decide +kernel
theorem dX12_parse_14 : decode cX12_parse 14 = .ok (.ifCond .lt 270, 3) := by decide +kernel
theorem dX12_parse_17 : decode cX12_parse 17 = .ok (.aload_n 0, 1) := by decide +kernel
theorem dX12_parse_18 : decode cX12_parse 18 = .ok (.getfield 291, 3) := by decide +kernel
theorem dX12_parse_21 : decode cX12_parse 21 = .ok (.ifCond .ne 263, 3) := by decide +kernel
theorem dX12_parse_24 : decode cX12_parse 24 = .ok (.aload_n 0, 1) := by decide +kernel
theorem dX12_parse_25 : decode cX12_parse 25 = .ok (.getfield 174, 3) := by decide +kernel
theorem dX12_parse_28 : decode cX12_parse 28 = .ok (.aload_n 0, 1) := by decide +kernel
theorem dX12_parse_29 : decode cX12_parse 29 = .ok (.getfield 387, 3) := by decide +kernel
theorem dX12_parse_32 : decode cX12_parse 32 = .ok (.iaload, 1) := by decide +kernel
theorem dX12_parse_33 : decode cX12_parse 33 = .ok (.tableswitch 240 1 15 #[75, 86, 97, 108, 119, 130, 141, 152, 163, 174, 185, 196, 207, 218, 229], 75) := by decide +kernel
theorem dX12_parse_108 : decode cX12_parse 108 = .ok (.aload_n 0, 1) := by decide +kernel
theorem dX12_parse_109 : decode cX12_parse 109 = .ok (.aload_n 0, 1) := by decide +kernel
theorem dX12_parse_110 : decode cX12_parse 110 = .ok (.getfield 387, 3) := by decide +kernel
theorem dX12_parse_113 : decode cX12_parse 113 = .ok (.invokevirtual 399, 3) := by decide +kernel
theorem dX12_parse_116 : decode cX12_parse 116 = .ok (.goto (-106), 3) := by decide +kernel
theorem dX12_parse_284 : decode cX12_parse 284 = .ok (.return_, 1) := by decide +kernel
theorem dX12_list_0 : decode cX12_list 0 = .ok (.aload_n 0, 1) := by decide +kernel
theorem dX12_list_1 : decode cX12_list 1 = .ok (.getfield 177, 3) := by decide +kernel
theorem dX12_list_4 : decode cX12_list 4 = .ok (.iload_n 1, 1) := by decide +kernel
theorem dX12_list_5 : decode cX12_list 5 = .ok (.iaload, 1) := by decide +kernel
theorem dX12_list_6 : decode cX12_list 6 = .ok (.ifCond .ne 13, 3) := by decide +kernel
theorem dX12_list_9 : decode cX12_list 9 = .ok (.aload_n 0, 1) := by decide +kernel
theorem dX12_list_10 : decode cX12_list 10 = .ok (.getfield 180, 3) := by decide +kernel
theorem dX12_list_13 : decode cX12_list 13 = .ok (.iload_n 1, 1) := by decide +kernel
theorem dX12_list_14 : decode cX12_list 14 = .ok (.iconst 1, 1) := by decide +kernel
theorem dX12_list_15 : decode cX12_list 15 = .ok (.iastore, 1) := by decide +kernel
theorem dX12_list_16 : decode cX12_list 16 = .ok (.goto 21, 3) := by decide +kernel
theorem dX12_list_37 : decode cX12_list 37 = .ok (.aload_n 0, 1) := by decide +kernel
theorem dX12_list_38 : decode cX12_list 38 = .ok (.getfield 307, 3) := by decide +kernel
theorem dX12_list_41 : decode cX12_list 41 = .ok (.bipush 125, 2) := by decide +kernel
theorem dX12_list_43 : decode cX12_list 43 = .ok (.if_icmp .eq 30, 3) := by decide +kernel
theorem dX12_list_46 : decode cX12_list 46 = .ok (.aload_n 0, 1) := by decide +kernel
theorem dX12_list_47 : decode cX12_list 47 = .ok (.getfield 307, 3) := by decide +kernel
theorem dX12_list_50 : decode cX12_list 50 = .ok (.sipush 429, 3) := by decide +kernel
theorem dX12_list_53 : decode cX12_list 53 = .ok (.if_icmp .eq 20, 3) := by decide +kernel
theorem dX12_list_56 : decode cX12_list 56 = .ok (.aload_n 0, 1) := by decide +kernel
theorem dX12_list_57 : decode cX12_list 57 = .ok (.getfield 307, 3) := by decide +kernel
theorem dX12_list_60 : decode cX12_list 60 = .ok (.sipush 430, 3) := by decide +kernel
theorem dX12_list_63 : decode cX12_list 63 = .ok (.if_icmp .eq 10, 3) := by decide +kernel
theorem dX12_list_66 : decode cX12_list 66 = .ok (.aload_n 0, 1) := by decide +kernel
theorem dX12_list_67 : decode cX12_list 67 = .ok (.getfield 307, 3) := by decide +kernel
theorem dX12_list_70 : decode cX12_list 70 = .ok (.ifCond .ne 23, 3) := by decide +kernel
theorem dX12_list_73 : decode cX12_list 73 = .ok (.aload_n 0, 1) := by decide +kernel
theorem dX12_list_74 : decode cX12_list 74 = .ok (.aload_n 0, 1) := by decide +kernel
theorem dX12_list_75 : decode cX12_list 75 = .ok (.getfield 180, 3) := by decide +kernel
theorem dX12_list_78 : decode cX12_list 78 = .ok (.iload_n 1, 1) := by decide +kernel
theorem dX12_list_79 : decode cX12_list 79 = .ok (.iaload, 1) := by decide +kernel
theorem dX12_list_80 : decode cX12_list 80 = .ok (.iconst 1, 1) := by decide +kernel
theorem dX12_list_81 : decode cX12_list 81 = .ok (.if_icmp .ne 7, 3) := by decide +kernel
theorem dX12_list_84 : decode cX12_list 84 = .ok (.iconst 1, 1) := by decide +kernel
theorem dX12_list_85 : decode cX12_list 85 = .ok (.goto 4, 3) := by decide +kernel
theorem dX12_list_89 : decode cX12_list 89 = .ok (.invokevirtual 490, 3) := by decide +kernel
theorem dX12_list_92 : decode cX12_list 92 = .ok (.return_, 1) := by decide +kernel
theorem dX12_read_0 : decode cX12_read 0 = .ok (.aload_n 0, 1) := by decide +kernel
theorem dX12_read_1 : decode cX12_read 1 = .ok (.iconst 0, 1) := by decide +kernel
theorem dX12_read_2 : decode cX12_read 2 = .ok (.putfield 273, 3) := by decide +kernel
theorem dX12_read_5 : decode cX12_read 5 = .ok (.aload_n 0, 1) := by decide +kernel
theorem dX12_read_6 : decode cX12_read 6 = .ok (.iconst 0, 1) := by decide +kernel
theorem dX12_read_7 : decode cX12_read 7 = .ok (.putfield 361, 3) := by decide +kernel
theorem dX12_read_10 : decode cX12_read 10 = .ok (.aload_n 0, 1) := by decide +kernel
theorem dX12_read_11 : decode cX12_read 11 = .ok (.iconst 0, 1) := by decide +kernel
theorem dX12_read_12 : decode cX12_read 12 = .ok (.putfield 364, 3) := by decide +kernel
theorem dX12_read_15 : decode cX12_read 15 = .ok (.aload_n 0, 1) := by decide +kernel
theorem dX12_read_16 : decode cX12_read 16 = .ok (.iconst 0, 1) := by decide +kernel
theorem dX12_read_17 : decode cX12_read 17 = .ok (.putfield 367, 3) := by decide +kernel
theorem dX12_read_20 : decode cX12_read 20 = .ok (.aload_n 0, 1) := by decide +kernel
theorem dX12_read_21 : decode cX12_read 21 = .ok (.iconst 0, 1) := by decide +kernel
theorem dX12_read_22 : decode cX12_read 22 = .ok (.putfield 348, 3) := by decide +kernel
theorem dX12_read_25 : decode cX12_read 25 = .ok (.aload_n 0, 1) := by decide +kernel
theorem dX12_read_26 : decode cX12_read 26 = .ok (.iconst 0, 1) := by decide +kernel
theorem dX12_read_27 : decode cX12_read 27 = .ok (.putfield 494, 3) := by decide +kernel
theorem dX12_read_30 : decode cX12_read 30 = .ok (.aload_n 0, 1) := by decide +kernel
theorem dX12_read_31 : decode cX12_read 31 = .ok (.iconst 0, 1) := by decide +kernel
theorem dX12_read_32 : decode cX12_read 32 = .ok (.putfield 500, 3) := by decide +kernel
theorem dX12_read_35 : decode cX12_read 35 = .ok (.aload_n 0, 1) := by decide +kernel
theorem dX12_read_36 : decode cX12_read 36 = .ok (.iconst 0, 1) := by decide +kernel
theorem dX12_read_37 : decode cX12_read 37 = .ok (.putfield 527, 3) := by decide +kernel
theorem dX12_read_40 : decode cX12_read 40 = .ok (.aload_n 0, 1) := by decide +kernel
theorem dX12_read_41 : decode cX12_read 41 = .ok (.iconst 0, 1) := by decide +kernel
theorem dX12_read_42 : decode cX12_read 42 = .ok (.putfield 358, 3) := by decide +kernel
theorem dX12_read_45 : decode cX12_read 45 = .ok (.aload_n 0, 1) := by decide +kernel
theorem dX12_read_46 : decode cX12_read 46 = .ok (.iconst 0, 1) := by decide +kernel
theorem dX12_read_47 : decode cX12_read 47 = .ok (.putfield 478, 3) := by decide +kernel
theorem dX12_read_50 : decode cX12_read 50 = .ok (.aload_n 0, 1) := by decide +kernel
theorem dX12_read_51 : decode cX12_read 51 = .ok (.iconst 0, 1) := by decide +kernel
theorem dX12_read_52 : decode cX12_read 52 = .ok (.putfield 549, 3) := by decide +kernel
theorem dX12_read_55 : decode cX12_read 55 = .ok (.aload_n 0, 1) := by decide +kernel
theorem dX12_read_56 : decode cX12_read 56 = .ok (.iconst 0, 1) := by decide +kernel
theorem dX12_read_57 : decode cX12_read 57 = .ok (.putfield 561, 3) := by decide +kernel
theorem dX12_read_60 : decode cX12_read 60 = .ok (.aload_n 0, 1) := by decide +kernel
theorem dX12_read_61 : decode cX12_read 61 = .ok (.iconst 0, 1) := by decide +kernel
theorem dX12_read_62 : decode cX12_read 62 = .ok (.putfield 377, 3) := by decide +kernel
theorem dX12_read_65 : decode cX12_read 65 = .ok (.aload_n 0, 1) := by decide +kernel
theorem dX12_read_66 : decode cX12_read 66 = .ok (.iconst 0, 1) := by decide +kernel
theorem dX12_read_67 : decode cX12_read 67 = .ok (.putfield 384, 3) := by decide +kernel
theorem dX12_read_70 : decode cX12_read 70 = .ok (.aload_n 0, 1) := by decide +kernel
theorem dX12_read_71 : decode cX12_read 71 = .ok (.iconst 0, 1) := by decide +kernel
theorem dX12_read_72 : decode cX12_read 72 = .ok (.putfield 370, 3) := by decide +kernel
theorem dX12_read_75 : decode cX12_read 75 = .ok (.aload_n 0, 1) := by decide +kernel
theorem dX12_read_76 : decode cX12_read 76 = .ok (.iconst 0, 1) := by decide +kernel
theorem dX12_read_77 : decode cX12_read 77 = .ok (.putfield 297, 3) := by decide +kernel
theorem dX12_read_80 : decode cX12_read 80 = .ok (.aload_n 0, 1) := by decide +kernel
theorem dX12_read_81 : decode cX12_read 81 = .ok (.iconst 0, 1) := by decide +kernel
theorem dX12_read_82 : decode cX12_read 82 = .ok (.putfield 291, 3) := by decide +kernel
theorem dX12_read_85 : decode cX12_read 85 = .ok (.aload_n 0, 1) := by decide +kernel
theorem dX12_read_86 : decode cX12_read 86 = .ok (.iconst (-1), 1) := by decide +kernel
