theorem dX12_in_0 : decode cX12_in 0 = .ok (.iload_n 0, 1) := by decide +kernel
theorem dX12_in_1 : decode cX12_in 1 = .ok (.iload_n 1, 1) := by decide +kernel
theorem dX12_in_2 : decode cX12_in 2 = .ok (.if_icmp .lt 12, 3) := by decide +kernel
theorem dX12_in_5 : decode cX12_in 5 = .ok (.iload_n 0, 1) := by decide +kernel
theorem dX12_in_6 : decode cX12_in 6 = .ok (.iload_n 2, 1) := by decide +kernel
theorem dX12_in_7 : decode cX12_in 7 = .ok (.if_icmp .gt 7, 3) := by decide +kernel
theorem dX12_in_10 : decode cX12_in 10 = .ok (.iconst 1, 1) := by decide +kernel
theorem dX12_in_11 : decode cX12_in 11 = .ok (.goto 4, 3) := by decide +kernel
theorem dX12_in_14 : decode cX12_in 14 = .ok (.iconst 0, 1) := by decide +kernel
theorem dX12_in_15 : decode cX12_in 15 = .ok (.ireturn, 1) := by decide +kernel
theorem dX12_feed_0 : decode cX12_feed 0 = .ok (.aload_n 0, 1) := by decide +kernel
theorem dX12_feed_1 : decode cX12_feed 1 = .ok (.iconst 0, 1) := by decide +kernel
theorem dX12_feed_2 : decode cX12_feed 2 = .ok (.putfield 273, 3) := by decide +kernel
theorem dX12_feed_5 : decode cX12_feed 5 = .ok (.aload_n 0, 1) := by decide +kernel
theorem dX12_feed_6 : decode cX12_feed 6 = .ok (.getfield 276, 3) := by decide +kernel
theorem dX12_feed_9 : decode cX12_feed 9 = .ok (.bipush 20, 2) := by decide +kernel
theorem dX12_feed_11 : decode cX12_feed 11 = .ok (.iadd, 1) := by decide +kernel
theorem dX12_feed_12 : decode cX12_feed 12 = .ok (.sipush 900, 3) := by decide +kernel
theorem dX12_feed_15 : decode cX12_feed 15 = .ok (.if_icmp .le 6, 3) := by decide +kernel
theorem dX12_feed_18 : decode cX12_feed 18 = .ok (.bipush (-2), 2) := by decide +kernel
theorem dX12_feed_20 : decode cX12_feed 20 = .ok (.ireturn, 1) := by decide +kernel
theorem dX12_feed_21 : decode cX12_feed 21 = .ok (.iconst 0, 1) := by decide +kernel
theorem dX12_feed_22 : decode cX12_feed 22 = .ok (.istore 6, 2) := by decide +kernel
theorem dX12_feed_24 : decode cX12_feed 24 = .ok (.iload 6, 2) := by decide +kernel
theorem dX12_feed_26 : decode cX12_feed 26 = .ok (.bipush 20, 2) := by decide +kernel
theorem dX12_feed_28 : decode cX12_feed 28 = .ok (.if_icmp .ge 86, 3) := by decide +kernel
theorem dX12_feed_31 : decode cX12_feed 31 = .ok (.iload 6, 2) := by decide +kernel
theorem dX12_feed_33 : decode cX12_feed 33 = .ok (.iconst 4, 1) := by decide +kernel
theorem dX12_feed_34 : decode cX12_feed 34 = .ok (.if_icmp .ge 7, 3) := by decide +kernel
theorem dX12_feed_37 : decode cX12_feed 37 = .ok (.iload_n 1, 1) := by decide +kernel
theorem dX12_feed_38 : decode cX12_feed 38 = .ok (.goto 39, 3) := by decide +kernel
theorem dX12_feed_41 : decode cX12_feed 41 = .ok (.iload 6, 2) := by decide +kernel
theorem dX12_feed_43 : decode cX12_feed 43 = .ok (.bipush 8, 2) := by decide +kernel
theorem dX12_feed_45 : decode cX12_feed 45 = .ok (.if_icmp .ge 7, 3) := by decide +kernel
theorem dX12_feed_48 : decode cX12_feed 48 = .ok (.iload_n 2, 1) := by decide +kernel
theorem dX12_feed_49 : decode cX12_feed 49 = .ok (.goto 28, 3) := by decide +kernel
theorem dX12_feed_52 : decode cX12_feed 52 = .ok (.iload 6, 2) := by decide +kernel
theorem dX12_feed_54 : decode cX12_feed 54 = .ok (.bipush 12, 2) := by decide +kernel
theorem dX12_feed_56 : decode cX12_feed 56 = .ok (.if_icmp .ge 7, 3) := by decide +kernel
theorem dX12_feed_59 : decode cX12_feed 59 = .ok (.iload_n 3, 1) := by decide +kernel
theorem dX12_feed_60 : decode cX12_feed 60 = .ok (.goto 17, 3) := by decide +kernel
theorem dX12_feed_63 : decode cX12_feed 63 = .ok (.iload 6, 2) := by decide +kernel
theorem dX12_feed_65 : decode cX12_feed 65 = .ok (.bipush 16, 2) := by decide +kernel
theorem dX12_feed_67 : decode cX12_feed 67 = .ok (.if_icmp .ge 8, 3) := by decide +kernel
theorem dX12_feed_70 : decode cX12_feed 70 = .ok (.iload 4, 2) := by decide +kernel
theorem dX12_feed_72 : decode cX12_feed 72 = .ok (.goto 5, 3) := by decide +kernel
theorem dX12_feed_75 : decode cX12_feed 75 = .ok (.iload 5, 2) := by decide +kernel
theorem dX12_feed_77 : decode cX12_feed 77 = .ok (.istore 7, 2) := by decide +kernel
theorem dX12_feed_79 : decode cX12_feed 79 = .ok (.aload_n 0, 1) := by decide +kernel
theorem dX12_feed_80 : decode cX12_feed 80 = .ok (.getfield 7, 3) := by decide +kernel
theorem dX12_feed_83 : decode cX12_feed 83 = .ok (.aload_n 0, 1) := by decide +kernel
theorem dX12_feed_84 : decode cX12_feed 84 = .ok (.getfield 276, 3) := by decide +kernel
theorem dX12_feed_87 : decode cX12_feed 87 = .ok (.iload 6, 2) := by decide +kernel
theorem dX12_feed_89 : decode cX12_feed 89 = .ok (.iadd, 1) := by decide +kernel
theorem dX12_feed_90 : decode cX12_feed 90 = .ok (.iload 7, 2) := by decide +kernel
theorem dX12_feed_92 : decode cX12_feed 92 = .ok (.bipush 24, 2) := by decide +kernel
theorem dX12_feed_94 : decode cX12_feed 94 = .ok (.bipush 8, 2) := by decide +kernel
theorem dX12_feed_96 : decode cX12_feed 96 = .ok (.iload 6, 2) := by decide +kernel
theorem dX12_feed_98 : decode cX12_feed 98 = .ok (.iconst 4, 1) := by decide +kernel
theorem dX12_feed_99 : decode cX12_feed 99 = .ok (.irem, 1) := by decide +kernel
theorem dX12_feed_100 : decode cX12_feed 100 = .ok (.imul, 1) := by decide +kernel
theorem dX12_feed_101 : decode cX12_feed 101 = .ok (.isub, 1) := by decide +kernel
theorem dX12_feed_102 : decode cX12_feed 102 = .ok (.ishr, 1) := by decide +kernel
theorem dX12_feed_103 : decode cX12_feed 103 = .ok (.sipush 255, 3) := by decide +kernel
theorem dX12_feed_106 : decode cX12_feed 106 = .ok (.iand, 1) := by decide +kernel
theorem dX12_feed_107 : decode cX12_feed 107 = .ok (.iastore, 1) := by decide +kernel
theorem dX12_feed_108 : decode cX12_feed 108 = .ok (.iinc 6 1, 3) := by decide +kernel
theorem dX12_feed_111 : decode cX12_feed 111 = .ok (.goto (-87), 3) := by decide +kernel
theorem dX12_feed_114 : decode cX12_feed 114 = .ok (.aload_n 0, 1) := by decide +kernel
theorem dX12_feed_115 : decode cX12_feed 115 = .ok (.dup, 1) := by decide +kernel
theorem dX12_feed_116 : decode cX12_feed 116 = .ok (.getfield 276, 3) := by decide +kernel
theorem dX12_feed_119 : decode cX12_feed 119 = .ok (.bipush 20, 2) := by decide +kernel
theorem dX12_feed_121 : decode cX12_feed 121 = .ok (.iadd, 1) := by decide +kernel
theorem dX12_feed_122 : decode cX12_feed 122 = .ok (.putfield 276, 3) := by decide +kernel
theorem dX12_feed_125 : decode cX12_feed 125 = .ok (.aload_n 0, 1) := by decide +kernel
theorem dX12_feed_126 : decode cX12_feed 126 = .ok (.getfield 276, 3) := by decide +kernel
theorem dX12_feed_129 : decode cX12_feed 129 = .ok (.ireturn, 1) := by decide +kernel
theorem dX12_cut_0 : decode cX12_cut 0 = .ok (.aload_n 0, 1) := by decide +kernel
theorem dX12_cut_1 : decode cX12_cut 1 = .ok (.iconst 0, 1) := by decide +kernel
theorem dX12_cut_2 : decode cX12_cut 2 = .ok (.putfield 273, 3) := by decide +kernel
theorem dX12_cut_5 : decode cX12_cut 5 = .ok (.iload_n 1, 1) := by decide +kernel
theorem dX12_cut_6 : decode cX12_cut 6 = .ok (.iconst 0, 1) := by decide +kernel
theorem dX12_cut_7 : decode cX12_cut 7 = .ok (.aload_n 0, 1) := by decide +kernel
theorem dX12_cut_8 : decode cX12_cut 8 = .ok (.getfield 276, 3) := by decide +kernel
theorem dX12_cut_11 : decode cX12_cut 11 = .ok (.invokestatic 279, 3) := by decide +kernel
theorem dX12_cut_14 : decode cX12_cut 14 = .ok (.ifCond .ne 5, 3) := by decide +kernel
theorem dX12_cut_17 : decode cX12_cut 17 = .ok (.iconst (-1), 1) := by decide +kernel
theorem dX12_cut_18 : decode cX12_cut 18 = .ok (.ireturn, 1) := by decide +kernel
theorem dX12_cut_19 : decode cX12_cut 19 = .ok (.aload_n 0, 1) := by decide +kernel
theorem dX12_cut_20 : decode cX12_cut 20 = .ok (.getfield 276, 3) := by decide +kernel
theorem dX12_cut_23 : decode cX12_cut 23 = .ok (.iload_n 1, 1) := by decide +kernel
theorem dX12_cut_24 : decode cX12_cut 24 = .ok (.isub, 1) := by decide +kernel
theorem dX12_cut_25 : decode cX12_cut 25 = .ok (.istore_n 2, 1) := by decide +kernel
theorem dX12_cut_26 : decode cX12_cut 26 = .ok (.aload_n 0, 1) := by decide +kernel
theorem dX12_cut_27 : decode cX12_cut 27 = .ok (.iload_n 1, 1) := by decide +kernel
theorem dX12_cut_28 : decode cX12_cut 28 = .ok (.putfield 276, 3) := by decide +kernel
theorem dX12_cut_31 : decode cX12_cut 31 = .ok (.iload_n 2, 1) := by decide +kernel
theorem dX12_cut_32 : decode cX12_cut 32 = .ok (.ireturn, 1) := by decide +kernel
theorem dX12_kind_0 : decode cX12_kind 0 = .ok (.aload_n 0, 1) := by decide +kernel
theorem dX12_kind_1 : decode cX12_kind 1 = .ok (.iconst 0, 1) := by decide +kernel
theorem dX12_kind_2 : decode cX12_kind 2 = .ok (.putfield 273, 3) := by decide +kernel
theorem dX12_kind_5 : decode cX12_kind 5 = .ok (.iload_n 1, 1) := by decide +kernel
theorem dX12_kind_6 : decode cX12_kind 6 = .ok (.iconst 0, 1) := by decide +kernel
theorem dX12_kind_7 : decode cX12_kind 7 = .ok (.aload_n 0, 1) := by decide +kernel
theorem dX12_kind_8 : decode cX12_kind 8 = .ok (.getfield 13, 3) := by decide +kernel
theorem dX12_kind_11 : decode cX12_kind 11 = .ok (.iconst 1, 1) := by decide +kernel
theorem dX12_kind_12 : decode cX12_kind 12 = .ok (.isub, 1) := by decide +kernel
theorem dX12_kind_13 : decode cX12_kind 13 = .ok (.invokestatic 279, 3) := by decide +kernel
theorem dX12_kind_16 : decode cX12_kind 16 = .ok (.ifCond .ne 5, 3) := by decide +kernel
theorem dX12_kind_19 : decode cX12_kind 19 = .ok (.iconst (-1), 1) := by decide +kernel
theorem dX12_kind_20 : decode cX12_kind 20 = .ok (.ireturn, 1) := by decide +kernel
theorem dX12_kind_21 : decode cX12_kind 21 = .ok (.aload_n 0, 1) := by decide +kernel
theorem dX12_kind_22 : decode cX12_kind 22 = .ok (.getfield 13, 3) := by decide +kernel
theorem dX12_kind_25 : decode cX12_kind 25 = .ok (.bipush 12, 2) := by decide +kernel
theorem dX12_kind_27 : decode cX12_kind 27 = .ok (.if_icmp .ne 6, 3) := by decide +kernel
theorem dX12_kind_30 : decode cX12_kind 30 = .ok (.bipush (-2), 2) := by decide +kernel
theorem dX12_kind_32 : decode cX12_kind 32 = .ok (.ireturn, 1) := by decide +kernel
theorem dX12_kind_33 : decode cX12_kind 33 = .ok (.aload_n 0, 1) := by decide +kernel
theorem dX12_kind_34 : decode cX12_kind 34 = .ok (.getfield 17, 3) := by decide +kernel
theorem dX12_kind_37 : decode cX12_kind 37 = .ok (.aload_n 0, 1) := by decide +kernel
theorem dX12_kind_38 : decode cX12_kind 38 = .ok (.getfield 13, 3) := by decide +kernel
theorem dX12_kind_41 : decode cX12_kind 41 = .ok (.iload_n 1, 1) := by decide +kernel
theorem dX12_kind_42 : decode cX12_kind 42 = .ok (.iastore, 1) := by decide +kernel
theorem dX12_kind_43 : decode cX12_kind 43 = .ok (.aload_n 0, 1) := by decide +kernel
theorem dX12_kind_44 : decode cX12_kind 44 = .ok (.dup, 1) := by decide +kernel
theorem dX12_kind_45 : decode cX12_kind 45 = .ok (.getfield 13, 3) := by decide +kernel
theorem dX12_kind_48 : decode cX12_kind 48 = .ok (.iconst 1, 1) := by decide +kernel
theorem dX12_kind_49 : decode cX12_kind 49 = .ok (.iadd, 1) := by decide +kernel
theorem dX12_kind_50 : decode cX12_kind 50 = .ok (.putfield 13, 3) := by decide +kernel
theorem dX12_kind_53 : decode cX12_kind 53 = .ok (.aload_n 0, 1) := by decide +kernel
theorem dX12_kind_54 : decode cX12_kind 54 = .ok (.getfield 13, 3) := by decide +kernel
theorem dX12_kind_57 : decode cX12_kind 57 = .ok (.iconst 1, 1) := by decide +kernel
theorem dX12_kind_58 : decode cX12_kind 58 = .ok (.isub, 1) := by decide +kernel
theorem dX12_kind_59 : decode cX12_kind 59 = .ok (.ireturn, 1) := by decide +kernel
theorem dX12_isUnder_0 : decode cX12_isUnder 0 = .ok (.iload_n 1, 1) := by decide +kernel
theorem dX12_isUnder_1 : decode cX12_isUnder 1 = .ok (.istore_n 3, 1) := by decide +kernel
theorem dX12_isUnder_2 : decode cX12_isUnder 2 = .ok (.iload_n 3, 1) := by decide +kernel
theorem dX12_isUnder_3 : decode cX12_isUnder 3 = .ok (.iload_n 2, 1) := by decide +kernel
theorem dX12_isUnder_4 : decode cX12_isUnder 4 = .ok (.if_icmp .eq 17, 3) := by decide +kernel
theorem dX12_isUnder_7 : decode cX12_isUnder 7 = .ok (.iload_n 3, 1) := by decide +kernel
theorem dX12_isUnder_8 : decode cX12_isUnder 8 = .ok (.ifCond .le 13, 3) := by decide +kernel
theorem dX12_isUnder_11 : decode cX12_isUnder 11 = .ok (.aload_n 0, 1) := by decide +kernel
theorem dX12_isUnder_12 : decode cX12_isUnder 12 = .ok (.getfield 17, 3) := by decide +kernel
theorem dX12_isUnder_15 : decode cX12_isUnder 15 = .ok (.iload_n 3, 1) := by decide +kernel
theorem dX12_isUnder_16 : decode cX12_isUnder 16 = .ok (.iaload, 1) := by decide +kernel
theorem dX12_isUnder_17 : decode cX12_isUnder 17 = .ok (.istore_n 3, 1) := by decide +kernel
theorem dX12_isUnder_18 : decode cX12_isUnder 18 = .ok (.goto (-16), 3) := by decide +kernel
theorem dX12_isUnder_21 : decode cX12_isUnder 21 = .ok (.iload_n 3, 1) := by decide +kernel
theorem dX12_isUnder_22 : decode cX12_isUnder 22 = .ok (.iload_n 2, 1) := by decide +kernel
theorem dX12_isUnder_23 : decode cX12_isUnder 23 = .ok (.if_icmp .ne 7, 3) := by decide +kernel
theorem dX12_isUnder_26 : decode cX12_isUnder 26 = .ok (.iconst 1, 1) := by decide +kernel
theorem dX12_isUnder_27 : decode cX12_isUnder 27 = .ok (.goto 4, 3) := by decide +kernel
theorem dX12_isUnder_30 : decode cX12_isUnder 30 = .ok (.iconst 0, 1) := by decide +kernel
theorem dX12_isUnder_31 : decode cX12_isUnder 31 = .ok (.ireturn, 1) := by decide +kernel
theorem dX12_under_0 : decode cX12_under 0 = .ok (.aload_n 0, 1) := by decide +kernel
theorem dX12_under_1 : decode cX12_under 1 = .ok (.iconst 0, 1) := by decide +kernel
theorem dX12_under_2 : decode cX12_under 2 = .ok (.putfield 273, 3) := by decide +kernel
theorem dX12_under_5 : decode cX12_under 5 = .ok (.iload_n 1, 1) := by decide +kernel
theorem dX12_under_6 : decode cX12_under 6 = .ok (.iconst 0, 1) := by decide +kernel
theorem dX12_under_7 : decode cX12_under 7 = .ok (.aload_n 0, 1) := by decide +kernel
theorem dX12_under_8 : decode cX12_under 8 = .ok (.getfield 13, 3) := by decide +kernel
theorem dX12_under_11 : decode cX12_under 11 = .ok (.iconst 1, 1) := by decide +kernel
theorem dX12_under_12 : decode cX12_under 12 = .ok (.isub, 1) := by decide +kernel
theorem dX12_under_13 : decode cX12_under 13 = .ok (.invokestatic 279, 3) := by decide +kernel
theorem dX12_under_16 : decode cX12_under 16 = .ok (.ifCond .eq 17, 3) := by decide +kernel
theorem dX12_under_19 : decode cX12_under 19 = .ok (.iload_n 2, 1) := by decide +kernel
theorem dX12_under_20 : decode cX12_under 20 = .ok (.iconst 0, 1) := by decide +kernel
theorem dX12_under_21 : decode cX12_under 21 = .ok (.aload_n 0, 1) := by decide +kernel
theorem dX12_under_22 : decode cX12_under 22 = .ok (.getfield 13, 3) := by decide +kernel
theorem dX12_under_25 : decode cX12_under 25 = .ok (.iconst 1, 1) := by decide +kernel
theorem dX12_under_26 : decode cX12_under 26 = .ok (.isub, 1) := by decide +kernel
theorem dX12_under_27 : decode cX12_under 27 = .ok (.invokestatic 279, 3) := by decide +kernel
theorem dX12_under_30 : decode cX12_under 30 = .ok (.ifCond .ne 5, 3) := by decide +kernel
theorem dX12_under_33 : decode cX12_under 33 = .ok (.iconst (-1), 1) := by decide +kernel
theorem dX12_under_34 : decode cX12_under 34 = .ok (.ireturn, 1) := by decide +kernel
theorem dX12_under_35 : decode cX12_under 35 = .ok (.aload_n 0, 1) := by decide +kernel
theorem dX12_under_36 : decode cX12_under 36 = .ok (.iload_n 1, 1) := by decide +kernel
theorem dX12_under_37 : decode cX12_under 37 = .ok (.iload_n 2, 1) := by decide +kernel
theorem dX12_under_38 : decode cX12_under 38 = .ok (.invokevirtual 283, 3) := by decide +kernel
theorem dX12_under_41 : decode cX12_under 41 = .ok (.ifCond .eq 7, 3) := by decide +kernel
theorem dX12_under_44 : decode cX12_under 44 = .ok (.iconst 1, 1) := by decide +kernel
theorem dX12_under_45 : decode cX12_under 45 = .ok (.goto 4, 3) := by decide +kernel
theorem dX12_under_48 : decode cX12_under 48 = .ok (.iconst 0, 1) := by decide +kernel
theorem dX12_under_49 : decode cX12_under 49 = .ok (.ireturn, 1) := by decide +kernel
theorem dX12_resource_0 : decode cX12_resource 0 = .ok (.aload_n 0, 1) := by decide +kernel
theorem dX12_resource_1 : decode cX12_resource 1 = .ok (.iconst 0, 1) := by decide +kernel
theorem dX12_resource_2 : decode cX12_resource 2 = .ok (.putfield 273, 3) := by decide +kernel
theorem dX12_resource_5 : decode cX12_resource 5 = .ok (.iload_n 1, 1) := by decide +kernel
theorem dX12_resource_6 : decode cX12_resource 6 = .ok (.iconst 0, 1) := by decide +kernel
theorem dX12_resource_7 : decode cX12_resource 7 = .ok (.bipush 7, 2) := by decide +kernel
theorem dX12_resource_9 : decode cX12_resource 9 = .ok (.invokestatic 279, 3) := by decide +kernel
theorem dX12_resource_12 : decode cX12_resource 12 = .ok (.ifCond .eq 41, 3) := by decide +kernel
theorem dX12_resource_15 : decode cX12_resource 15 = .ok (.iload_n 2, 1) := by decide +kernel
theorem dX12_resource_16 : decode cX12_resource 16 = .ok (.iconst 0, 1) := by decide +kernel
theorem dX12_resource_17 : decode cX12_resource 17 = .ok (.iconst 1, 1) := by decide +kernel
theorem dX12_resource_18 : decode cX12_resource 18 = .ok (.invokestatic 279, 3) := by decide +kernel
theorem dX12_resource_21 : decode cX12_resource 21 = .ok (.ifCond .eq 32, 3) := by decide +kernel
theorem dX12_resource_24 : decode cX12_resource 24 = .ok (.iload_n 3, 1) := by decide +kernel
theorem dX12_resource_25 : decode cX12_resource 25 = .ok (.iconst (-1), 1) := by decide +kernel
theorem dX12_resource_26 : decode cX12_resource 26 = .ok (.aload_n 0, 1) := by decide +kernel
theorem dX12_resource_27 : decode cX12_resource 27 = .ok (.getfield 13, 3) := by decide +kernel
theorem dX12_resource_30 : decode cX12_resource 30 = .ok (.iconst 1, 1) := by decide +kernel
theorem dX12_resource_31 : decode cX12_resource 31 = .ok (.isub, 1) := by decide +kernel
theorem dX12_resource_32 : decode cX12_resource 32 = .ok (.invokestatic 279, 3) := by decide +kernel
theorem dX12_resource_35 : decode cX12_resource 35 = .ok (.ifCond .eq 18, 3) := by decide +kernel
theorem dX12_resource_38 : decode cX12_resource 38 = .ok (.iload 4, 2) := by decide +kernel
theorem dX12_resource_40 : decode cX12_resource 40 = .ok (.iconst (-1), 1) := by decide +kernel
theorem dX12_resource_41 : decode cX12_resource 41 = .ok (.aload_n 0, 1) := by decide +kernel
theorem dX12_resource_42 : decode cX12_resource 42 = .ok (.getfield 13, 3) := by decide +kernel
theorem dX12_resource_45 : decode cX12_resource 45 = .ok (.iconst 1, 1) := by decide +kernel
theorem dX12_resource_46 : decode cX12_resource 46 = .ok (.isub, 1) := by decide +kernel
theorem dX12_resource_47 : decode cX12_resource 47 = .ok (.invokestatic 279, 3) := by decide +kernel
theorem dX12_resource_50 : decode cX12_resource 50 = .ok (.ifCond .ne 5, 3) := by decide +kernel
theorem dX12_resource_53 : decode cX12_resource 53 = .ok (.iconst (-1), 1) := by decide +kernel
theorem dX12_resource_54 : decode cX12_resource 54 = .ok (.ireturn, 1) := by decide +kernel
theorem dX12_resource_55 : decode cX12_resource 55 = .ok (.aload_n 0, 1) := by decide +kernel
theorem dX12_resource_56 : decode cX12_resource 56 = .ok (.getfield 20, 3) := by decide +kernel
theorem dX12_resource_59 : decode cX12_resource 59 = .ok (.iload_n 1, 1) := by decide +kernel
theorem dX12_resource_60 : decode cX12_resource 60 = .ok (.iload_n 2, 1) := by decide +kernel
theorem dX12_resource_61 : decode cX12_resource 61 = .ok (.iconst 1, 1) := by decide +kernel
theorem dX12_resource_62 : decode cX12_resource 62 = .ok (.if_icmp .ne 7, 3) := by decide +kernel
theorem dX12_resource_65 : decode cX12_resource 65 = .ok (.iconst 1, 1) := by decide +kernel
theorem dX12_resource_66 : decode cX12_resource 66 = .ok (.goto 4, 3) := by decide +kernel
theorem dX12_resource_69 : decode cX12_resource 69 = .ok (.iconst 0, 1) := by decide +kernel
theorem dX12_resource_70 : decode cX12_resource 70 = .ok (.bastore, 1) := by decide +kernel
theorem dX12_resource_71 : decode cX12_resource 71 = .ok (.aload_n 0, 1) := by decide +kernel
theorem dX12_resource_72 : decode cX12_resource 72 = .ok (.getfield 24, 3) := by decide +kernel
theorem dX12_resource_75 : decode cX12_resource 75 = .ok (.iload_n 1, 1) := by decide +kernel
theorem dX12_resource_76 : decode cX12_resource 76 = .ok (.iload_n 3, 1) := by decide +kernel
theorem dX12_resource_77 : decode cX12_resource 77 = .ok (.iconst 1, 1) := by decide +kernel
theorem dX12_resource_78 : decode cX12_resource 78 = .ok (.iadd, 1) := by decide +kernel
theorem dX12_resource_79 : decode cX12_resource 79 = .ok (.iastore, 1) := by decide +kernel
theorem dX12_resource_80 : decode cX12_resource 80 = .ok (.aload_n 0, 1) := by decide +kernel
theorem dX12_resource_81 : decode cX12_resource 81 = .ok (.getfield 27, 3) := by decide +kernel
theorem dX12_resource_84 : decode cX12_resource 84 = .ok (.iload_n 1, 1) := by decide +kernel
theorem dX12_resource_85 : decode cX12_resource 85 = .ok (.iload 4, 2) := by decide +kernel
theorem dX12_resource_87 : decode cX12_resource 87 = .ok (.iconst 1, 1) := by decide +kernel
theorem dX12_resource_88 : decode cX12_resource 88 = .ok (.iadd, 1) := by decide +kernel
theorem dX12_resource_89 : decode cX12_resource 89 = .ok (.iastore, 1) := by decide +kernel
theorem dX12_resource_90 : decode cX12_resource 90 = .ok (.iconst 1, 1) := by decide +kernel
theorem dX12_resource_91 : decode cX12_resource 91 = .ok (.ireturn, 1) := by decide +kernel
theorem dX12_asserts_0 : decode cX12_asserts 0 = .ok (.aload_n 0, 1) := by decide +kernel
theorem dX12_asserts_1 : decode cX12_asserts 1 = .ok (.iconst 0, 1) := by decide +kernel
theorem dX12_asserts_2 : decode cX12_asserts 2 = .ok (.putfield 273, 3) := by decide +kernel
theorem dX12_asserts_5 : decode cX12_asserts 5 = .ok (.aload_n 0, 1) := by decide +kernel
theorem dX12_asserts_6 : decode cX12_asserts 6 = .ok (.getfield 287, 3) := by decide +kernel
theorem dX12_asserts_9 : decode cX12_asserts 9 = .ok (.ifCond .eq 7, 3) := by decide +kernel
theorem dX12_asserts_12 : decode cX12_asserts 12 = .ok (.iconst 1, 1) := by decide +kernel
theorem dX12_asserts_13 : decode cX12_asserts 13 = .ok (.goto 4, 3) := by decide +kernel
theorem dX12_asserts_16 : decode cX12_asserts 16 = .ok (.iconst 0, 1) := by decide +kernel
theorem dX12_asserts_17 : decode cX12_asserts 17 = .ok (.istore_n 2, 1) := by decide +kernel
theorem dX12_asserts_18 : decode cX12_asserts 18 = .ok (.aload_n 0, 1) := by decide +kernel
theorem dX12_asserts_19 : decode cX12_asserts 19 = .ok (.iload_n 1, 1) := by decide +kernel
theorem dX12_asserts_20 : decode cX12_asserts 20 = .ok (.putfield 287, 3) := by decide +kernel
theorem dX12_asserts_23 : decode cX12_asserts 23 = .ok (.iload_n 2, 1) := by decide +kernel
theorem dX12_asserts_24 : decode cX12_asserts 24 = .ok (.ireturn, 1) := by decide +kernel
theorem dX12_at_0 : decode cX12_at 0 = .ok (.iload_n 1, 1) := by decide +kernel
theorem dX12_at_1 : decode cX12_at 1 = .ok (.aload_n 0, 1) := by decide +kernel
theorem dX12_at_2 : decode cX12_at 2 = .ok (.getfield 276, 3) := by decide +kernel
theorem dX12_at_5 : decode cX12_at 5 = .ok (.if_icmp .ge 12, 3) := by decide +kernel
theorem dX12_at_8 : decode cX12_at 8 = .ok (.aload_n 0, 1) := by decide +kernel
theorem dX12_at_9 : decode cX12_at 9 = .ok (.getfield 7, 3) := by decide +kernel
theorem dX12_at_12 : decode cX12_at 12 = .ok (.iload_n 1, 1) := by decide +kernel
theorem dX12_at_13 : decode cX12_at 13 = .ok (.iaload, 1) := by decide +kernel
theorem dX12_at_14 : decode cX12_at 14 = .ok (.goto 4, 3) := by decide +kernel
theorem dX12_at_17 : decode cX12_at 17 = .ok (.iconst 0, 1) := by decide +kernel
theorem dX12_at_18 : decode cX12_at 18 = .ok (.ireturn, 1) := by decide +kernel
theorem dX12_isLetter_0 : decode cX12_isLetter 0 = .ok (.iload_n 0, 1) := by decide +kernel
theorem dX12_isLetter_1 : decode cX12_isLetter 1 = .ok (.bipush 97, 2) := by decide +kernel
theorem dX12_isLetter_3 : decode cX12_isLetter 3 = .ok (.if_icmp .lt 13, 3) := by decide +kernel
theorem dX12_isLetter_6 : decode cX12_isLetter 6 = .ok (.iload_n 0, 1) := by decide +kernel
theorem dX12_isLetter_7 : decode cX12_isLetter 7 = .ok (.bipush 122, 2) := by decide +kernel
theorem dX12_isLetter_9 : decode cX12_isLetter 9 = .ok (.if_icmp .gt 7, 3) := by decide +kernel
theorem dX12_isLetter_12 : decode cX12_isLetter 12 = .ok (.iconst 1, 1) := by decide +kernel
theorem dX12_isLetter_13 : decode cX12_isLetter 13 = .ok (.goto 4, 3) := by decide +kernel
theorem dX12_isLetter_16 : decode cX12_isLetter 16 = .ok (.iconst 0, 1) := by decide +kernel
theorem dX12_isLetter_17 : decode cX12_isLetter 17 = .ok (.ireturn, 1) := by decide +kernel
theorem dX12_isDigit_0 : decode cX12_isDigit 0 = .ok (.iload_n 0, 1) := by decide +kernel
theorem dX12_isDigit_1 : decode cX12_isDigit 1 = .ok (.bipush 48, 2) := by decide +kernel
theorem dX12_isDigit_3 : decode cX12_isDigit 3 = .ok (.if_icmp .lt 13, 3) := by decide +kernel
theorem dX12_isDigit_6 : decode cX12_isDigit 6 = .ok (.iload_n 0, 1) := by decide +kernel
theorem dX12_isDigit_7 : decode cX12_isDigit 7 = .ok (.bipush 57, 2) := by decide +kernel
theorem dX12_isDigit_9 : decode cX12_isDigit 9 = .ok (.if_icmp .gt 7, 3) := by decide +kernel
theorem dX12_isDigit_12 : decode cX12_isDigit 12 = .ok (.iconst 1, 1) := by decide +kernel
theorem dX12_isDigit_13 : decode cX12_isDigit 13 = .ok (.goto 4, 3) := by decide +kernel
theorem dX12_isDigit_16 : decode cX12_isDigit 16 = .ok (.iconst 0, 1) := by decide +kernel
theorem dX12_isDigit_17 : decode cX12_isDigit 17 = .ok (.ireturn, 1) := by decide +kernel
theorem dX12_next_0 : decode cX12_next 0 = .ok (.aload_n 0, 1) := by decide +kernel
theorem dX12_next_1 : decode cX12_next 1 = .ok (.getfield 291, 3) := by decide +kernel
theorem dX12_next_4 : decode cX12_next 4 = .ok (.ifCond .eq 4, 3) := by decide +kernel
theorem dX12_next_7 : decode cX12_next 7 = .ok (.return_, 1) := by decide +kernel
theorem dX12_next_8 : decode cX12_next 8 = .ok (.aload_n 0, 1) := by decide +kernel
theorem dX12_next_9 : decode cX12_next 9 = .ok (.dup, 1) := by decide +kernel
theorem dX12_next_10 : decode cX12_next 10 = .ok (.getfield 294, 3) := by decide +kernel
theorem dX12_next_13 : decode cX12_next 13 = .ok (.iconst 1, 1) := by decide +kernel
theorem dX12_next_14 : decode cX12_next 14 = .ok (.iadd, 1) := by decide +kernel
theorem dX12_next_15 : decode cX12_next 15 = .ok (.putfield 294, 3) := by decide +kernel
theorem dX12_next_18 : decode cX12_next 18 = .ok (.aload_n 0, 1) := by decide +kernel
theorem dX12_next_19 : decode cX12_next 19 = .ok (.getfield 297, 3) := by decide +kernel
theorem dX12_next_22 : decode cX12_next 22 = .ok (.aload_n 0, 1) := by decide +kernel
theorem dX12_next_23 : decode cX12_next 23 = .ok (.getfield 276, 3) := by decide +kernel
theorem dX12_next_26 : decode cX12_next 26 = .ok (.if_icmp .ge 42, 3) := by decide +kernel
theorem dX12_next_29 : decode cX12_next 29 = .ok (.aload_n 0, 1) := by decide +kernel
theorem dX12_next_30 : decode cX12_next 30 = .ok (.aload_n 0, 1) := by decide +kernel
theorem dX12_next_31 : decode cX12_next 31 = .ok (.getfield 297, 3) := by decide +kernel
theorem dX12_next_34 : decode cX12_next 34 = .ok (.invokevirtual 300, 3) := by decide +kernel
theorem dX12_next_37 : decode cX12_next 37 = .ok (.bipush 32, 2) := by decide +kernel
theorem dX12_next_39 : decode cX12_next 39 = .ok (.if_icmp .eq 16, 3) := by decide +kernel
theorem dX12_next_42 : decode cX12_next 42 = .ok (.aload_n 0, 1) := by decide +kernel
theorem dX12_next_43 : decode cX12_next 43 = .ok (.aload_n 0, 1) := by decide +kernel
theorem dX12_next_44 : decode cX12_next 44 = .ok (.getfield 297, 3) := by decide +kernel
theorem dX12_next_47 : decode cX12_next 47 = .ok (.invokevirtual 300, 3) := by decide +kernel
theorem dX12_next_50 : decode cX12_next 50 = .ok (.bipush 10, 2) := by decide +kernel
theorem dX12_next_52 : decode cX12_next 52 = .ok (.if_icmp .ne 16, 3) := by decide +kernel
theorem dX12_next_55 : decode cX12_next 55 = .ok (.aload_n 0, 1) := by decide +kernel
theorem dX12_next_56 : decode cX12_next 56 = .ok (.dup, 1) := by decide +kernel
theorem dX12_next_57 : decode cX12_next 57 = .ok (.getfield 297, 3) := by decide +kernel
theorem dX12_next_60 : decode cX12_next 60 = .ok (.iconst 1, 1) := by decide +kernel
theorem dX12_next_61 : decode cX12_next 61 = .ok (.iadd, 1) := by decide +kernel
theorem dX12_next_62 : decode cX12_next 62 = .ok (.putfield 297, 3) := by decide +kernel
theorem dX12_next_65 : decode cX12_next 65 = .ok (.goto (-47), 3) := by decide +kernel
theorem dX12_next_68 : decode cX12_next 68 = .ok (.aload_n 0, 1) := by decide +kernel
theorem dX12_next_69 : decode cX12_next 69 = .ok (.aload_n 0, 1) := by decide +kernel
theorem dX12_next_70 : decode cX12_next 70 = .ok (.getfield 297, 3) := by decide +kernel
theorem dX12_next_73 : decode cX12_next 73 = .ok (.putfield 304, 3) := by decide +kernel
theorem dX12_next_76 : decode cX12_next 76 = .ok (.aload_n 0, 1) := by decide +kernel
theorem dX12_next_77 : decode cX12_next 77 = .ok (.aload_n 0, 1) := by decide +kernel
theorem dX12_next_78 : decode cX12_next 78 = .ok (.getfield 304, 3) := by decide +kernel
theorem dX12_next_81 : decode cX12_next 81 = .ok (.invokevirtual 300, 3) := by decide +kernel
theorem dX12_next_84 : decode cX12_next 84 = .ok (.istore_n 1, 1) := by decide +kernel
theorem dX12_next_85 : decode cX12_next 85 = .ok (.aload_n 0, 1) := by decide +kernel
theorem dX12_next_86 : decode cX12_next 86 = .ok (.getfield 304, 3) := by decide +kernel
theorem dX12_next_89 : decode cX12_next 89 = .ok (.aload_n 0, 1) := by decide +kernel
theorem dX12_next_90 : decode cX12_next 90 = .ok (.getfield 276, 3) := by decide +kernel
theorem dX12_next_93 : decode cX12_next 93 = .ok (.if_icmp .ne 11, 3) := by decide +kernel
theorem dX12_next_96 : decode cX12_next 96 = .ok (.aload_n 0, 1) := by decide +kernel
theorem dX12_next_97 : decode cX12_next 97 = .ok (.iconst 0, 1) := by decide +kernel
theorem dX12_next_98 : decode cX12_next 98 = .ok (.putfield 307, 3) := by decide +kernel
theorem dX12_next_101 : decode cX12_next 101 = .ok (.goto 132, 3) := by decide +kernel
theorem dX12_next_104 : decode cX12_next 104 = .ok (.iload_n 1, 1) := by decide +kernel
theorem dX12_next_105 : decode cX12_next 105 = .ok (.invokestatic 310, 3) := by decide +kernel
theorem dX12_next_108 : decode cX12_next 108 = .ok (.ifCond .eq 106, 3) := by decide +kernel
theorem dX12_next_111 : decode cX12_next 111 = .ok (.aload_n 0, 1) := by decide +kernel
theorem dX12_next_112 : decode cX12_next 112 = .ok (.iconst 0, 1) := by decide +kernel
theorem dX12_next_113 : decode cX12_next 113 = .ok (.putfield 314, 3) := by decide +kernel
theorem dX12_next_116 : decode cX12_next 116 = .ok (.aload_n 0, 1) := by decide +kernel
theorem dX12_next_117 : decode cX12_next 117 = .ok (.aload_n 0, 1) := by decide +kernel
theorem dX12_next_118 : decode cX12_next 118 = .ok (.getfield 297, 3) := by decide +kernel
theorem dX12_next_121 : decode cX12_next 121 = .ok (.invokevirtual 300, 3) := by decide +kernel
theorem dX12_next_124 : decode cX12_next 124 = .ok (.invokestatic 310, 3) := by decide +kernel
theorem dX12_next_127 : decode cX12_next 127 = .ok (.ifCond .eq 60, 3) := by decide +kernel
theorem dX12_next_130 : decode cX12_next 130 = .ok (.aload_n 0, 1) := by decide +kernel
theorem dX12_next_131 : decode cX12_next 131 = .ok (.aload_n 0, 1) := by decide +kernel
theorem dX12_next_132 : decode cX12_next 132 = .ok (.getfield 297, 3) := by decide +kernel
theorem dX12_next_135 : decode cX12_next 135 = .ok (.aload_n 0, 1) := by decide +kernel
theorem dX12_next_136 : decode cX12_next 136 = .ok (.getfield 304, 3) := by decide +kernel
theorem dX12_next_139 : decode cX12_next 139 = .ok (.isub, 1) := by decide +kernel
theorem dX12_next_140 : decode cX12_next 140 = .ok (.bipush 9, 2) := by decide +kernel
theorem dX12_next_142 : decode cX12_next 142 = .ok (.if_icmp .ge 25, 3) := by decide +kernel
theorem dX12_next_145 : decode cX12_next 145 = .ok (.bipush 10, 2) := by decide +kernel
theorem dX12_next_147 : decode cX12_next 147 = .ok (.aload_n 0, 1) := by decide +kernel
theorem dX12_next_148 : decode cX12_next 148 = .ok (.getfield 314, 3) := by decide +kernel
theorem dX12_next_151 : decode cX12_next 151 = .ok (.imul, 1) := by decide +kernel
theorem dX12_next_152 : decode cX12_next 152 = .ok (.aload_n 0, 1) := by decide +kernel
theorem dX12_next_153 : decode cX12_next 153 = .ok (.aload_n 0, 1) := by decide +kernel
theorem dX12_next_154 : decode cX12_next 154 = .ok (.getfield 297, 3) := by decide +kernel
theorem dX12_next_157 : decode cX12_next 157 = .ok (.invokevirtual 300, 3) := by decide +kernel
theorem dX12_next_160 : decode cX12_next 160 = .ok (.iadd, 1) := by decide +kernel
theorem dX12_next_161 : decode cX12_next 161 = .ok (.bipush 48, 2) := by decide +kernel
theorem dX12_next_163 : decode cX12_next 163 = .ok (.isub, 1) := by decide +kernel
theorem dX12_next_164 : decode cX12_next 164 = .ok (.goto 7, 3) := by decide +kernel
theorem dX12_next_167 : decode cX12_next 167 = .ok (.aload_n 0, 1) := by decide +kernel
theorem dX12_next_168 : decode cX12_next 168 = .ok (.getfield 314, 3) := by decide +kernel
theorem dX12_next_171 : decode cX12_next 171 = .ok (.putfield 314, 3) := by decide +kernel
theorem dX12_next_174 : decode cX12_next 174 = .ok (.aload_n 0, 1) := by decide +kernel
theorem dX12_next_175 : decode cX12_next 175 = .ok (.dup, 1) := by decide +kernel
theorem dX12_next_176 : decode cX12_next 176 = .ok (.getfield 297, 3) := by decide +kernel
theorem dX12_next_179 : decode cX12_next 179 = .ok (.iconst 1, 1) := by decide +kernel
theorem dX12_next_180 : decode cX12_next 180 = .ok (.iadd, 1) := by decide +kernel
theorem dX12_next_181 : decode cX12_next 181 = .ok (.putfield 297, 3) := by decide +kernel
theorem dX12_next_184 : decode cX12_next 184 = .ok (.goto (-68), 3) := by decide +kernel
theorem dX12_next_187 : decode cX12_next 187 = .ok (.aload_n 0, 1) := by decide +kernel
theorem dX12_next_188 : decode cX12_next 188 = .ok (.aload_n 0, 1) := by decide +kernel
theorem dX12_next_189 : decode cX12_next 189 = .ok (.getfield 297, 3) := by decide +kernel
theorem dX12_next_192 : decode cX12_next 192 = .ok (.aload_n 0, 1) := by decide +kernel
theorem dX12_next_193 : decode cX12_next 193 = .ok (.getfield 304, 3) := by decide +kernel
theorem dX12_next_196 : decode cX12_next 196 = .ok (.isub, 1) := by decide +kernel
theorem dX12_next_197 : decode cX12_next 197 = .ok (.bipush 9, 2) := by decide +kernel
theorem dX12_next_199 : decode cX12_next 199 = .ok (.if_icmp .le 8, 3) := by decide +kernel
theorem dX12_next_202 : decode cX12_next 202 = .ok (.bipush 6, 2) := by decide +kernel
theorem dX12_next_204 : decode cX12_next 204 = .ok (.goto 4, 3) := by decide +kernel
theorem dX12_next_207 : decode cX12_next 207 = .ok (.iconst 1, 1) := by decide +kernel
theorem dX12_next_208 : decode cX12_next 208 = .ok (.putfield 307, 3) := by decide +kernel
theorem dX12_next_211 : decode cX12_next 211 = .ok (.goto 22, 3) := by decide +kernel
theorem dX12_next_214 : decode cX12_next 214 = .ok (.iload_n 1, 1) := by decide +kernel
theorem dX12_next_215 : decode cX12_next 215 = .ok (.invokestatic 317, 3) := by decide +kernel
theorem dX12_next_218 : decode cX12_next 218 = .ok (.ifCond .eq 10, 3) := by decide +kernel
theorem dX12_next_221 : decode cX12_next 221 = .ok (.aload_n 0, 1) := by decide +kernel
theorem dX12_next_222 : decode cX12_next 222 = .ok (.invokevirtual 320, 3) := by decide +kernel
theorem dX12_next_225 : decode cX12_next 225 = .ok (.goto 8, 3) := by decide +kernel
theorem dX12_next_228 : decode cX12_next 228 = .ok (.aload_n 0, 1) := by decide +kernel
theorem dX12_next_229 : decode cX12_next 229 = .ok (.iload_n 1, 1) := by decide +kernel
theorem dX12_next_230 : decode cX12_next 230 = .ok (.invokevirtual 323, 3) := by decide +kernel
theorem dX12_next_233 : decode cX12_next 233 = .ok (.return_, 1) := by decide +kernel
theorem dX12_readName_0 : decode cX12_readName 0 = .ok (.aload_n 0, 1) := by decide +kernel
theorem dX12_readName_1 : decode cX12_readName 1 = .ok (.lconst 0, 1) := by decide +kernel
theorem dX12_readName_2 : decode cX12_readName 2 = .ok (.putfield 327, 3) := by decide +kernel
theorem dX12_readName_5 : decode cX12_readName 5 = .ok (.aload_n 0, 1) := by decide +kernel
theorem dX12_readName_6 : decode cX12_readName 6 = .ok (.aload_n 0, 1) := by decide +kernel
theorem dX12_readName_7 : decode cX12_readName 7 = .ok (.getfield 297, 3) := by decide +kernel
theorem dX12_readName_10 : decode cX12_readName 10 = .ok (.invokevirtual 300, 3) := by decide +kernel
theorem dX12_readName_13 : decode cX12_readName 13 = .ok (.invokestatic 317, 3) := by decide +kernel
theorem dX12_readName_16 : decode cX12_readName 16 = .ok (.ifCond .ne 17, 3) := by decide +kernel
theorem dX12_readName_19 : decode cX12_readName 19 = .ok (.aload_n 0, 1) := by decide +kernel
theorem dX12_readName_20 : decode cX12_readName 20 = .ok (.aload_n 0, 1) := by decide +kernel
theorem dX12_readName_21 : decode cX12_readName 21 = .ok (.getfield 297, 3) := by decide +kernel
theorem dX12_readName_24 : decode cX12_readName 24 = .ok (.invokevirtual 300, 3) := by decide +kernel
theorem dX12_readName_27 : decode cX12_readName 27 = .ok (.invokestatic 310, 3) := by decide +kernel
theorem dX12_readName_30 : decode cX12_readName 30 = .ok (.ifCond .eq 37, 3) := by decide +kernel
theorem dX12_readName_33 : decode cX12_readName 33 = .ok (.aload_n 0, 1) := by decide +kernel
theorem dX12_readName_34 : decode cX12_readName 34 = .ok (.aload_n 0, 1) := by decide +kernel
theorem dX12_readName_35 : decode cX12_readName 35 = .ok (.getfield 327, 3) := by decide +kernel
theorem dX12_readName_38 : decode cX12_readName 38 = .ok (.bipush 8, 2) := by decide +kernel
theorem dX12_readName_40 : decode cX12_readName 40 = .ok (.lshl, 1) := by decide +kernel
theorem dX12_readName_41 : decode cX12_readName 41 = .ok (.aload_n 0, 1) := by decide +kernel
theorem dX12_readName_42 : decode cX12_readName 42 = .ok (.aload_n 0, 1) := by decide +kernel
theorem dX12_readName_43 : decode cX12_readName 43 = .ok (.getfield 297, 3) := by decide +kernel
theorem dX12_readName_46 : decode cX12_readName 46 = .ok (.invokevirtual 300, 3) := by decide +kernel
theorem dX12_readName_49 : decode cX12_readName 49 = .ok (.i2l, 1) := by decide +kernel
theorem dX12_readName_50 : decode cX12_readName 50 = .ok (.lor, 1) := by decide +kernel
theorem dX12_readName_51 : decode cX12_readName 51 = .ok (.putfield 327, 3) := by decide +kernel
theorem dX12_readName_54 : decode cX12_readName 54 = .ok (.aload_n 0, 1) := by decide +kernel
theorem dX12_readName_55 : decode cX12_readName 55 = .ok (.dup, 1) := by decide +kernel
theorem dX12_readName_56 : decode cX12_readName 56 = .ok (.getfield 297, 3) := by decide +kernel
theorem dX12_readName_59 : decode cX12_readName 59 = .ok (.iconst 1, 1) := by decide +kernel
theorem dX12_readName_60 : decode cX12_readName 60 = .ok (.iadd, 1) := by decide +kernel
theorem dX12_readName_61 : decode cX12_readName 61 = .ok (.putfield 297, 3) := by decide +kernel
theorem dX12_readName_64 : decode cX12_readName 64 = .ok (.goto (-59), 3) := by decide +kernel
theorem dX12_readName_67 : decode cX12_readName 67 = .ok (.aload_n 0, 1) := by decide +kernel
theorem dX12_readName_68 : decode cX12_readName 68 = .ok (.getfield 297, 3) := by decide +kernel
theorem dX12_readName_71 : decode cX12_readName 71 = .ok (.aload_n 0, 1) := by decide +kernel
theorem dX12_readName_72 : decode cX12_readName 72 = .ok (.getfield 304, 3) := by decide +kernel
theorem dX12_readName_75 : decode cX12_readName 75 = .ok (.isub, 1) := by decide +kernel
theorem dX12_readName_76 : decode cX12_readName 76 = .ok (.istore_n 1, 1) := by decide +kernel
theorem dX12_readName_77 : decode cX12_readName 77 = .ok (.iload_n 1, 1) := by decide +kernel
theorem dX12_readName_78 : decode cX12_readName 78 = .ok (.bipush 8, 2) := by decide +kernel
theorem dX12_readName_80 : decode cX12_readName 80 = .ok (.if_icmp .le 10, 3) := by decide +kernel
