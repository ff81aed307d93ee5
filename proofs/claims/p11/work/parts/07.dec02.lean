theorem dX12_seenAs_11 : decode cX12_seenAs 11 = .ok (.aload_n 0, 1) := by decide +kernel
theorem dX12_seenAs_12 : decode cX12_seenAs 12 = .ok (.getfield 126, 3) := by decide +kernel
theorem dX12_seenAs_15 : decode cX12_seenAs 15 = .ok (.iload_n 3, 1) := by decide +kernel
theorem dX12_seenAs_16 : decode cX12_seenAs 16 = .ok (.laload, 1) := by decide +kernel
theorem dX12_seenAs_17 : decode cX12_seenAs 17 = .ok (.lload_n 1, 1) := by decide +kernel
theorem dX12_seenAs_18 : decode cX12_seenAs 18 = .ok (.lcmp, 1) := by decide +kernel
theorem dX12_seenAs_19 : decode cX12_seenAs 19 = .ok (.ifCond .ne 5, 3) := by decide +kernel
theorem dX12_seenAs_22 : decode cX12_seenAs 22 = .ok (.iload_n 3, 1) := by decide +kernel
theorem dX12_seenAs_23 : decode cX12_seenAs 23 = .ok (.ireturn, 1) := by decide +kernel
theorem dX12_seenAs_24 : decode cX12_seenAs 24 = .ok (.iinc 3 (-1), 3) := by decide +kernel
theorem dX12_seenAs_27 : decode cX12_seenAs 27 = .ok (.goto (-20), 3) := by decide +kernel
theorem dX12_seenAs_30 : decode cX12_seenAs 30 = .ok (.iconst (-1), 1) := by decide +kernel
theorem dX12_seenAs_31 : decode cX12_seenAs 31 = .ok (.ireturn, 1) := by decide +kernel
theorem dX12_see_0 : decode cX12_see 0 = .ok (.aload_n 0, 1) := by decide +kernel
theorem dX12_see_1 : decode cX12_see 1 = .ok (.getfield 126, 3) := by decide +kernel
theorem dX12_see_4 : decode cX12_see 4 = .ok (.aload_n 0, 1) := by decide +kernel
theorem dX12_see_5 : decode cX12_see 5 = .ok (.getfield 361, 3) := by decide +kernel
theorem dX12_see_8 : decode cX12_see 8 = .ok (.lload_n 1, 1) := by decide +kernel
theorem dX12_see_9 : decode cX12_see 9 = .ok (.lastore, 1) := by decide +kernel
theorem dX12_see_10 : decode cX12_see 10 = .ok (.aload_n 0, 1) := by decide +kernel
theorem dX12_see_11 : decode cX12_see 11 = .ok (.getfield 129, 3) := by decide +kernel
theorem dX12_see_14 : decode cX12_see 14 = .ok (.aload_n 0, 1) := by decide +kernel
theorem dX12_see_15 : decode cX12_see 15 = .ok (.getfield 361, 3) := by decide +kernel
theorem dX12_see_18 : decode cX12_see 18 = .ok (.aload_n 0, 1) := by decide +kernel
theorem dX12_see_19 : decode cX12_see 19 = .ok (.getfield 364, 3) := by decide +kernel
theorem dX12_see_22 : decode cX12_see 22 = .ok (.iastore, 1) := by decide +kernel
theorem dX12_see_23 : decode cX12_see 23 = .ok (.aload_n 0, 1) := by decide +kernel
theorem dX12_see_24 : decode cX12_see 24 = .ok (.getfield 132, 3) := by decide +kernel
theorem dX12_see_27 : decode cX12_see 27 = .ok (.aload_n 0, 1) := by decide +kernel
theorem dX12_see_28 : decode cX12_see 28 = .ok (.getfield 361, 3) := by decide +kernel
theorem dX12_see_31 : decode cX12_see 31 = .ok (.iload_n 3, 1) := by decide +kernel
theorem dX12_see_32 : decode cX12_see 32 = .ok (.bastore, 1) := by decide +kernel
theorem dX12_see_33 : decode cX12_see 33 = .ok (.aload_n 0, 1) := by decide +kernel
theorem dX12_see_34 : decode cX12_see 34 = .ok (.dup, 1) := by decide +kernel
theorem dX12_see_35 : decode cX12_see 35 = .ok (.getfield 361, 3) := by decide +kernel
theorem dX12_see_38 : decode cX12_see 38 = .ok (.iconst 1, 1) := by decide +kernel
theorem dX12_see_39 : decode cX12_see 39 = .ok (.iadd, 1) := by decide +kernel
theorem dX12_see_40 : decode cX12_see 40 = .ok (.putfield 361, 3) := by decide +kernel
theorem dX12_see_43 : decode cX12_see 43 = .ok (.aload_n 0, 1) := by decide +kernel
theorem dX12_see_44 : decode cX12_see 44 = .ok (.dup, 1) := by decide +kernel
theorem dX12_see_45 : decode cX12_see 45 = .ok (.getfield 364, 3) := by decide +kernel
theorem dX12_see_48 : decode cX12_see 48 = .ok (.iconst 1, 1) := by decide +kernel
theorem dX12_see_49 : decode cX12_see 49 = .ok (.iadd, 1) := by decide +kernel
theorem dX12_see_50 : decode cX12_see 50 = .ok (.putfield 364, 3) := by decide +kernel
theorem dX12_see_53 : decode cX12_see 53 = .ok (.aload_n 0, 1) := by decide +kernel
theorem dX12_see_54 : decode cX12_see 54 = .ok (.getfield 364, 3) := by decide +kernel
theorem dX12_see_57 : decode cX12_see 57 = .ok (.iconst 1, 1) := by decide +kernel
theorem dX12_see_58 : decode cX12_see 58 = .ok (.isub, 1) := by decide +kernel
theorem dX12_see_59 : decode cX12_see 59 = .ok (.ireturn, 1) := by decide +kernel
theorem dX12_goal_0 : decode cX12_goal 0 = .ok (.aload_n 0, 1) := by decide +kernel
theorem dX12_goal_1 : decode cX12_goal 1 = .ok (.getfield 135, 3) := by decide +kernel
theorem dX12_goal_4 : decode cX12_goal 4 = .ok (.aload_n 0, 1) := by decide +kernel
theorem dX12_goal_5 : decode cX12_goal 5 = .ok (.getfield 367, 3) := by decide +kernel
theorem dX12_goal_8 : decode cX12_goal 8 = .ok (.iload_n 1, 1) := by decide +kernel
theorem dX12_goal_9 : decode cX12_goal 9 = .ok (.iastore, 1) := by decide +kernel
theorem dX12_goal_10 : decode cX12_goal 10 = .ok (.aload_n 0, 1) := by decide +kernel
theorem dX12_goal_11 : decode cX12_goal 11 = .ok (.getfield 138, 3) := by decide +kernel
theorem dX12_goal_14 : decode cX12_goal 14 = .ok (.aload_n 0, 1) := by decide +kernel
theorem dX12_goal_15 : decode cX12_goal 15 = .ok (.getfield 367, 3) := by decide +kernel
theorem dX12_goal_18 : decode cX12_goal 18 = .ok (.lload_n 2, 1) := by decide +kernel
theorem dX12_goal_19 : decode cX12_goal 19 = .ok (.lastore, 1) := by decide +kernel
theorem dX12_goal_20 : decode cX12_goal 20 = .ok (.aload_n 0, 1) := by decide +kernel
theorem dX12_goal_21 : decode cX12_goal 21 = .ok (.getfield 141, 3) := by decide +kernel
theorem dX12_goal_24 : decode cX12_goal 24 = .ok (.aload_n 0, 1) := by decide +kernel
theorem dX12_goal_25 : decode cX12_goal 25 = .ok (.getfield 367, 3) := by decide +kernel
theorem dX12_goal_28 : decode cX12_goal 28 = .ok (.iconst (-1), 1) := by decide +kernel
theorem dX12_goal_29 : decode cX12_goal 29 = .ok (.iastore, 1) := by decide +kernel
theorem dX12_goal_30 : decode cX12_goal 30 = .ok (.aload_n 0, 1) := by decide +kernel
theorem dX12_goal_31 : decode cX12_goal 31 = .ok (.getfield 144, 3) := by decide +kernel
theorem dX12_goal_34 : decode cX12_goal 34 = .ok (.aload_n 0, 1) := by decide +kernel
theorem dX12_goal_35 : decode cX12_goal 35 = .ok (.getfield 367, 3) := by decide +kernel
theorem dX12_goal_38 : decode cX12_goal 38 = .ok (.aload_n 0, 1) := by decide +kernel
theorem dX12_goal_39 : decode cX12_goal 39 = .ok (.getfield 370, 3) := by decide +kernel
theorem dX12_goal_42 : decode cX12_goal 42 = .ok (.iastore, 1) := by decide +kernel
theorem dX12_goal_43 : decode cX12_goal 43 = .ok (.aload_n 0, 1) := by decide +kernel
theorem dX12_goal_44 : decode cX12_goal 44 = .ok (.getfield 147, 3) := by decide +kernel
theorem dX12_goal_47 : decode cX12_goal 47 = .ok (.aload_n 0, 1) := by decide +kernel
theorem dX12_goal_48 : decode cX12_goal 48 = .ok (.getfield 367, 3) := by decide +kernel
theorem dX12_goal_51 : decode cX12_goal 51 = .ok (.iconst (-1), 1) := by decide +kernel
theorem dX12_goal_52 : decode cX12_goal 52 = .ok (.iastore, 1) := by decide +kernel
theorem dX12_goal_53 : decode cX12_goal 53 = .ok (.aload_n 0, 1) := by decide +kernel
theorem dX12_goal_54 : decode cX12_goal 54 = .ok (.getfield 150, 3) := by decide +kernel
theorem dX12_goal_57 : decode cX12_goal 57 = .ok (.aload_n 0, 1) := by decide +kernel
theorem dX12_goal_58 : decode cX12_goal 58 = .ok (.getfield 367, 3) := by decide +kernel
theorem dX12_goal_61 : decode cX12_goal 61 = .ok (.iconst (-1), 1) := by decide +kernel
theorem dX12_goal_62 : decode cX12_goal 62 = .ok (.iastore, 1) := by decide +kernel
theorem dX12_goal_63 : decode cX12_goal 63 = .ok (.aload_n 0, 1) := by decide +kernel
theorem dX12_goal_64 : decode cX12_goal 64 = .ok (.getfield 153, 3) := by decide +kernel
theorem dX12_goal_67 : decode cX12_goal 67 = .ok (.aload_n 0, 1) := by decide +kernel
theorem dX12_goal_68 : decode cX12_goal 68 = .ok (.getfield 367, 3) := by decide +kernel
theorem dX12_goal_71 : decode cX12_goal 71 = .ok (.iconst 0, 1) := by decide +kernel
theorem dX12_goal_72 : decode cX12_goal 72 = .ok (.bastore, 1) := by decide +kernel
theorem dX12_goal_73 : decode cX12_goal 73 = .ok (.aload_n 0, 1) := by decide +kernel
theorem dX12_goal_74 : decode cX12_goal 74 = .ok (.getfield 156, 3) := by decide +kernel
theorem dX12_goal_77 : decode cX12_goal 77 = .ok (.aload_n 0, 1) := by decide +kernel
theorem dX12_goal_78 : decode cX12_goal 78 = .ok (.getfield 367, 3) := by decide +kernel
theorem dX12_goal_81 : decode cX12_goal 81 = .ok (.iconst 0, 1) := by decide +kernel
theorem dX12_goal_82 : decode cX12_goal 82 = .ok (.bastore, 1) := by decide +kernel
theorem dX12_goal_83 : decode cX12_goal 83 = .ok (.aload_n 0, 1) := by decide +kernel
theorem dX12_goal_84 : decode cX12_goal 84 = .ok (.dup, 1) := by decide +kernel
theorem dX12_goal_85 : decode cX12_goal 85 = .ok (.getfield 367, 3) := by decide +kernel
theorem dX12_goal_88 : decode cX12_goal 88 = .ok (.iconst 1, 1) := by decide +kernel
theorem dX12_goal_89 : decode cX12_goal 89 = .ok (.iadd, 1) := by decide +kernel
theorem dX12_goal_90 : decode cX12_goal 90 = .ok (.putfield 367, 3) := by decide +kernel
theorem dX12_goal_93 : decode cX12_goal 93 = .ok (.aload_n 0, 1) := by decide +kernel
theorem dX12_goal_94 : decode cX12_goal 94 = .ok (.getfield 367, 3) := by decide +kernel
theorem dX12_goal_97 : decode cX12_goal 97 = .ok (.iconst 1, 1) := by decide +kernel
theorem dX12_goal_98 : decode cX12_goal 98 = .ok (.isub, 1) := by decide +kernel
theorem dX12_goal_99 : decode cX12_goal 99 = .ok (.ireturn, 1) := by decide +kernel
theorem dX12_loopGoal_0 : decode cX12_loopGoal 0 = .ok (.aload_n 0, 1) := by decide +kernel
theorem dX12_loopGoal_1 : decode cX12_loopGoal 1 = .ok (.iconst 0, 1) := by decide +kernel
theorem dX12_loopGoal_2 : decode cX12_loopGoal 2 = .ok (.lconst 0, 1) := by decide +kernel
theorem dX12_loopGoal_3 : decode cX12_loopGoal 3 = .ok (.invokevirtual 373, 3) := by decide +kernel
theorem dX12_loopGoal_6 : decode cX12_loopGoal 6 = .ok (.istore_n 1, 1) := by decide +kernel
theorem dX12_loopGoal_7 : decode cX12_loopGoal 7 = .ok (.iload_n 1, 1) := by decide +kernel
theorem dX12_loopGoal_8 : decode cX12_loopGoal 8 = .ok (.iconst 1, 1) := by decide +kernel
theorem dX12_loopGoal_9 : decode cX12_loopGoal 9 = .ok (.isub, 1) := by decide +kernel
theorem dX12_loopGoal_10 : decode cX12_loopGoal 10 = .ok (.istore_n 2, 1) := by decide +kernel
theorem dX12_loopGoal_11 : decode cX12_loopGoal 11 = .ok (.iload_n 2, 1) := by decide +kernel
theorem dX12_loopGoal_12 : decode cX12_loopGoal 12 = .ok (.ifCond .lt 37, 3) := by decide +kernel
theorem dX12_loopGoal_15 : decode cX12_loopGoal 15 = .ok (.aload_n 0, 1) := by decide +kernel
theorem dX12_loopGoal_16 : decode cX12_loopGoal 16 = .ok (.getfield 135, 3) := by decide +kernel
theorem dX12_loopGoal_19 : decode cX12_loopGoal 19 = .ok (.iload_n 2, 1) := by decide +kernel
theorem dX12_loopGoal_20 : decode cX12_loopGoal 20 = .ok (.iaload, 1) := by decide +kernel
theorem dX12_loopGoal_21 : decode cX12_loopGoal 21 = .ok (.iconst 2, 1) := by decide +kernel
theorem dX12_loopGoal_22 : decode cX12_loopGoal 22 = .ok (.if_icmp .ne 27, 3) := by decide +kernel
theorem dX12_loopGoal_25 : decode cX12_loopGoal 25 = .ok (.aload_n 0, 1) := by decide +kernel
theorem dX12_loopGoal_26 : decode cX12_loopGoal 26 = .ok (.getfield 141, 3) := by decide +kernel
theorem dX12_loopGoal_29 : decode cX12_loopGoal 29 = .ok (.iload_n 2, 1) := by decide +kernel
theorem dX12_loopGoal_30 : decode cX12_loopGoal 30 = .ok (.iaload, 1) := by decide +kernel
theorem dX12_loopGoal_31 : decode cX12_loopGoal 31 = .ok (.bipush (-3), 2) := by decide +kernel
theorem dX12_loopGoal_33 : decode cX12_loopGoal 33 = .ok (.if_icmp .ne 16, 3) := by decide +kernel
theorem dX12_loopGoal_36 : decode cX12_loopGoal 36 = .ok (.aload_n 0, 1) := by decide +kernel
theorem dX12_loopGoal_37 : decode cX12_loopGoal 37 = .ok (.getfield 141, 3) := by decide +kernel
theorem dX12_loopGoal_40 : decode cX12_loopGoal 40 = .ok (.iload_n 2, 1) := by decide +kernel
theorem dX12_loopGoal_41 : decode cX12_loopGoal 41 = .ok (.iload_n 1, 1) := by decide +kernel
theorem dX12_loopGoal_42 : decode cX12_loopGoal 42 = .ok (.iastore, 1) := by decide +kernel
theorem dX12_loopGoal_43 : decode cX12_loopGoal 43 = .ok (.iinc 2 (-1), 3) := by decide +kernel
theorem dX12_loopGoal_46 : decode cX12_loopGoal 46 = .ok (.goto (-35), 3) := by decide +kernel
theorem dX12_loopGoal_49 : decode cX12_loopGoal 49 = .ok (.iload_n 1, 1) := by decide +kernel
theorem dX12_loopGoal_50 : decode cX12_loopGoal 50 = .ok (.ireturn, 1) := by decide +kernel
theorem dX12_patch_0 : decode cX12_patch 0 = .ok (.iload_n 1, 1) := by decide +kernel
theorem dX12_patch_1 : decode cX12_patch 1 = .ok (.istore_n 3, 1) := by decide +kernel
theorem dX12_patch_2 : decode cX12_patch 2 = .ok (.iload_n 3, 1) := by decide +kernel
theorem dX12_patch_3 : decode cX12_patch 3 = .ok (.ifCond .lt 24, 3) := by decide +kernel
theorem dX12_patch_6 : decode cX12_patch 6 = .ok (.aload_n 0, 1) := by decide +kernel
theorem dX12_patch_7 : decode cX12_patch 7 = .ok (.getfield 87, 3) := by decide +kernel
theorem dX12_patch_10 : decode cX12_patch 10 = .ok (.iload_n 3, 1) := by decide +kernel
theorem dX12_patch_11 : decode cX12_patch 11 = .ok (.iaload, 1) := by decide +kernel
theorem dX12_patch_12 : decode cX12_patch 12 = .ok (.istore 4, 2) := by decide +kernel
theorem dX12_patch_14 : decode cX12_patch 14 = .ok (.aload_n 0, 1) := by decide +kernel
theorem dX12_patch_15 : decode cX12_patch 15 = .ok (.getfield 87, 3) := by decide +kernel
theorem dX12_patch_18 : decode cX12_patch 18 = .ok (.iload_n 3, 1) := by decide +kernel
theorem dX12_patch_19 : decode cX12_patch 19 = .ok (.iload_n 2, 1) := by decide +kernel
theorem dX12_patch_20 : decode cX12_patch 20 = .ok (.iastore, 1) := by decide +kernel
theorem dX12_patch_21 : decode cX12_patch 21 = .ok (.iload 4, 2) := by decide +kernel
theorem dX12_patch_23 : decode cX12_patch 23 = .ok (.istore_n 3, 1) := by decide +kernel
theorem dX12_patch_24 : decode cX12_patch 24 = .ok (.goto (-22), 3) := by decide +kernel
theorem dX12_patch_27 : decode cX12_patch 27 = .ok (.return_, 1) := by decide +kernel
theorem dX12_goes_0 : decode cX12_goes 0 = .ok (.iload_n 2, 1) := by decide +kernel
theorem dX12_goes_1 : decode cX12_goes 1 = .ok (.ifCond .eq 13, 3) := by decide +kernel
theorem dX12_goes_4 : decode cX12_goes 4 = .ok (.aload_n 0, 1) := by decide +kernel
theorem dX12_goes_5 : decode cX12_goes 5 = .ok (.getfield 153, 3) := by decide +kernel
theorem dX12_goes_8 : decode cX12_goes 8 = .ok (.iload_n 1, 1) := by decide +kernel
theorem dX12_goes_9 : decode cX12_goes 9 = .ok (.iconst 1, 1) := by decide +kernel
theorem dX12_goes_10 : decode cX12_goes 10 = .ok (.bastore, 1) := by decide +kernel
theorem dX12_goes_11 : decode cX12_goes 11 = .ok (.goto 10, 3) := by decide +kernel
theorem dX12_goes_14 : decode cX12_goes 14 = .ok (.aload_n 0, 1) := by decide +kernel
theorem dX12_goes_15 : decode cX12_goes 15 = .ok (.getfield 156, 3) := by decide +kernel
theorem dX12_goes_18 : decode cX12_goes 18 = .ok (.iload_n 1, 1) := by decide +kernel
theorem dX12_goes_19 : decode cX12_goes 19 = .ok (.iconst 1, 1) := by decide +kernel
theorem dX12_goes_20 : decode cX12_goes 20 = .ok (.bastore, 1) := by decide +kernel
theorem dX12_goes_21 : decode cX12_goes 21 = .ok (.return_, 1) := by decide +kernel
theorem dX12_pend_0 : decode cX12_pend 0 = .ok (.aload_n 0, 1) := by decide +kernel
theorem dX12_pend_1 : decode cX12_pend 1 = .ok (.getfield 377, 3) := by decide +kernel
theorem dX12_pend_4 : decode cX12_pend 4 = .ok (.ifCond .eq 18, 3) := by decide +kernel
theorem dX12_pend_7 : decode cX12_pend 7 = .ok (.iload_n 1, 1) := by decide +kernel
theorem dX12_pend_8 : decode cX12_pend 8 = .ok (.aload_n 0, 1) := by decide +kernel
theorem dX12_pend_9 : decode cX12_pend 9 = .ok (.getfield 162, 3) := by decide +kernel
theorem dX12_pend_12 : decode cX12_pend 12 = .ok (.aload_n 0, 1) := by decide +kernel
theorem dX12_pend_13 : decode cX12_pend 13 = .ok (.getfield 377, 3) := by decide +kernel
theorem dX12_pend_16 : decode cX12_pend 16 = .ok (.iconst 1, 1) := by decide +kernel
theorem dX12_pend_17 : decode cX12_pend 17 = .ok (.isub, 1) := by decide +kernel
theorem dX12_pend_18 : decode cX12_pend 18 = .ok (.iaload, 1) := by decide +kernel
theorem dX12_pend_19 : decode cX12_pend 19 = .ok (.if_icmp .lt 10, 3) := by decide +kernel
theorem dX12_pend_22 : decode cX12_pend 22 = .ok (.aload_n 0, 1) := by decide +kernel
theorem dX12_pend_23 : decode cX12_pend 23 = .ok (.iload_n 1, 1) := by decide +kernel
theorem dX12_pend_24 : decode cX12_pend 24 = .ok (.iload_n 2, 1) := by decide +kernel
theorem dX12_pend_25 : decode cX12_pend 25 = .ok (.invokevirtual 380, 3) := by decide +kernel
theorem dX12_pend_28 : decode cX12_pend 28 = .ok (.return_, 1) := by decide +kernel
theorem dX12_pend_29 : decode cX12_pend 29 = .ok (.aload_n 0, 1) := by decide +kernel
theorem dX12_pend_30 : decode cX12_pend 30 = .ok (.getfield 165, 3) := by decide +kernel
theorem dX12_pend_33 : decode cX12_pend 33 = .ok (.aload_n 0, 1) := by decide +kernel
theorem dX12_pend_34 : decode cX12_pend 34 = .ok (.getfield 384, 3) := by decide +kernel
theorem dX12_pend_37 : decode cX12_pend 37 = .ok (.iload_n 1, 1) := by decide +kernel
theorem dX12_pend_38 : decode cX12_pend 38 = .ok (.iastore, 1) := by decide +kernel
theorem dX12_pend_39 : decode cX12_pend 39 = .ok (.aload_n 0, 1) := by decide +kernel
theorem dX12_pend_40 : decode cX12_pend 40 = .ok (.getfield 168, 3) := by decide +kernel
theorem dX12_pend_43 : decode cX12_pend 43 = .ok (.aload_n 0, 1) := by decide +kernel
theorem dX12_pend_44 : decode cX12_pend 44 = .ok (.getfield 384, 3) := by decide +kernel
theorem dX12_pend_47 : decode cX12_pend 47 = .ok (.iload_n 2, 1) := by decide +kernel
theorem dX12_pend_48 : decode cX12_pend 48 = .ok (.bastore, 1) := by decide +kernel
theorem dX12_pend_49 : decode cX12_pend 49 = .ok (.aload_n 0, 1) := by decide +kernel
theorem dX12_pend_50 : decode cX12_pend 50 = .ok (.getfield 171, 3) := by decide +kernel
theorem dX12_pend_53 : decode cX12_pend 53 = .ok (.aload_n 0, 1) := by decide +kernel
theorem dX12_pend_54 : decode cX12_pend 54 = .ok (.getfield 384, 3) := by decide +kernel
theorem dX12_pend_57 : decode cX12_pend 57 = .ok (.aload_n 0, 1) := by decide +kernel
theorem dX12_pend_58 : decode cX12_pend 58 = .ok (.getfield 159, 3) := by decide +kernel
theorem dX12_pend_61 : decode cX12_pend 61 = .ok (.aload_n 0, 1) := by decide +kernel
theorem dX12_pend_62 : decode cX12_pend 62 = .ok (.getfield 377, 3) := by decide +kernel
theorem dX12_pend_65 : decode cX12_pend 65 = .ok (.iconst 1, 1) := by decide +kernel
theorem dX12_pend_66 : decode cX12_pend 66 = .ok (.isub, 1) := by decide +kernel
theorem dX12_pend_67 : decode cX12_pend 67 = .ok (.iaload, 1) := by decide +kernel
theorem dX12_pend_68 : decode cX12_pend 68 = .ok (.iastore, 1) := by decide +kernel
theorem dX12_pend_69 : decode cX12_pend 69 = .ok (.aload_n 0, 1) := by decide +kernel
theorem dX12_pend_70 : decode cX12_pend 70 = .ok (.dup, 1) := by decide +kernel
theorem dX12_pend_71 : decode cX12_pend 71 = .ok (.getfield 384, 3) := by decide +kernel
theorem dX12_pend_74 : decode cX12_pend 74 = .ok (.iconst 1, 1) := by decide +kernel
theorem dX12_pend_75 : decode cX12_pend 75 = .ok (.iadd, 1) := by decide +kernel
theorem dX12_pend_76 : decode cX12_pend 76 = .ok (.putfield 384, 3) := by decide +kernel
theorem dX12_pend_79 : decode cX12_pend 79 = .ok (.return_, 1) := by decide +kernel
theorem dX12_resolve_0 : decode cX12_resolve 0 = .ok (.iconst 0, 1) := by decide +kernel
theorem dX12_resolve_1 : decode cX12_resolve 1 = .ok (.istore_n 3, 1) := by decide +kernel
theorem dX12_resolve_2 : decode cX12_resolve 2 = .ok (.iload_n 3, 1) := by decide +kernel
theorem dX12_resolve_3 : decode cX12_resolve 3 = .ok (.aload_n 0, 1) := by decide +kernel
theorem dX12_resolve_4 : decode cX12_resolve 4 = .ok (.getfield 384, 3) := by decide +kernel
theorem dX12_resolve_7 : decode cX12_resolve 7 = .ok (.if_icmp .ge 111, 3) := by decide +kernel
theorem dX12_resolve_10 : decode cX12_resolve 10 = .ok (.aload_n 0, 1) := by decide +kernel
theorem dX12_resolve_11 : decode cX12_resolve 11 = .ok (.getfield 171, 3) := by decide +kernel
theorem dX12_resolve_14 : decode cX12_resolve 14 = .ok (.iload_n 3, 1) := by decide +kernel
theorem dX12_resolve_15 : decode cX12_resolve 15 = .ok (.iaload, 1) := by decide +kernel
theorem dX12_resolve_16 : decode cX12_resolve 16 = .ok (.iload_n 1, 1) := by decide +kernel
theorem dX12_resolve_17 : decode cX12_resolve 17 = .ok (.if_icmp .eq 6, 3) := by decide +kernel
theorem dX12_resolve_20 : decode cX12_resolve 20 = .ok (.goto 92, 3) := by decide +kernel
theorem dX12_resolve_23 : decode cX12_resolve 23 = .ok (.aload_n 0, 1) := by decide +kernel
theorem dX12_resolve_24 : decode cX12_resolve 24 = .ok (.getfield 165, 3) := by decide +kernel
theorem dX12_resolve_27 : decode cX12_resolve 27 = .ok (.iload_n 3, 1) := by decide +kernel
theorem dX12_resolve_28 : decode cX12_resolve 28 = .ok (.iaload, 1) := by decide +kernel
theorem dX12_resolve_29 : decode cX12_resolve 29 = .ok (.istore 4, 2) := by decide +kernel
theorem dX12_resolve_31 : decode cX12_resolve 31 = .ok (.iload_n 2, 1) := by decide +kernel
theorem dX12_resolve_32 : decode cX12_resolve 32 = .ok (.ifCond .eq 30, 3) := by decide +kernel
theorem dX12_resolve_35 : decode cX12_resolve 35 = .ok (.aload_n 0, 1) := by decide +kernel
theorem dX12_resolve_36 : decode cX12_resolve 36 = .ok (.getfield 377, 3) := by decide +kernel
theorem dX12_resolve_39 : decode cX12_resolve 39 = .ok (.ifCond .le 23, 3) := by decide +kernel
theorem dX12_resolve_42 : decode cX12_resolve 42 = .ok (.iload 4, 2) := by decide +kernel
theorem dX12_resolve_44 : decode cX12_resolve 44 = .ok (.aload_n 0, 1) := by decide +kernel
theorem dX12_resolve_45 : decode cX12_resolve 45 = .ok (.getfield 162, 3) := by decide +kernel
theorem dX12_resolve_48 : decode cX12_resolve 48 = .ok (.aload_n 0, 1) := by decide +kernel
theorem dX12_resolve_49 : decode cX12_resolve 49 = .ok (.getfield 377, 3) := by decide +kernel
theorem dX12_resolve_52 : decode cX12_resolve 52 = .ok (.iconst 1, 1) := by decide +kernel
theorem dX12_resolve_53 : decode cX12_resolve 53 = .ok (.isub, 1) := by decide +kernel
theorem dX12_resolve_54 : decode cX12_resolve 54 = .ok (.iaload, 1) := by decide +kernel
theorem dX12_resolve_55 : decode cX12_resolve 55 = .ok (.if_icmp .ge 7, 3) := by decide +kernel
theorem dX12_resolve_58 : decode cX12_resolve 58 = .ok (.iconst 1, 1) := by decide +kernel
theorem dX12_resolve_59 : decode cX12_resolve 59 = .ok (.goto 4, 3) := by decide +kernel
theorem dX12_resolve_62 : decode cX12_resolve 62 = .ok (.iconst 0, 1) := by decide +kernel
theorem dX12_resolve_63 : decode cX12_resolve 63 = .ok (.istore 5, 2) := by decide +kernel
theorem dX12_resolve_65 : decode cX12_resolve 65 = .ok (.aload_n 0, 1) := by decide +kernel
theorem dX12_resolve_66 : decode cX12_resolve 66 = .ok (.getfield 171, 3) := by decide +kernel
theorem dX12_resolve_69 : decode cX12_resolve 69 = .ok (.iload_n 3, 1) := by decide +kernel
theorem dX12_resolve_70 : decode cX12_resolve 70 = .ok (.iload 5, 2) := by decide +kernel
theorem dX12_resolve_72 : decode cX12_resolve 72 = .ok (.ifCond .eq 17, 3) := by decide +kernel
theorem dX12_resolve_75 : decode cX12_resolve 75 = .ok (.aload_n 0, 1) := by decide +kernel
theorem dX12_resolve_76 : decode cX12_resolve 76 = .ok (.getfield 159, 3) := by decide +kernel
theorem dX12_resolve_79 : decode cX12_resolve 79 = .ok (.aload_n 0, 1) := by decide +kernel
theorem dX12_resolve_80 : decode cX12_resolve 80 = .ok (.getfield 377, 3) := by decide +kernel
theorem dX12_resolve_83 : decode cX12_resolve 83 = .ok (.iconst 1, 1) := by decide +kernel
theorem dX12_resolve_84 : decode cX12_resolve 84 = .ok (.isub, 1) := by decide +kernel
theorem dX12_resolve_85 : decode cX12_resolve 85 = .ok (.iaload, 1) := by decide +kernel
theorem dX12_resolve_86 : decode cX12_resolve 86 = .ok (.goto 4, 3) := by decide +kernel
theorem dX12_resolve_89 : decode cX12_resolve 89 = .ok (.iconst (-1), 1) := by decide +kernel
theorem dX12_resolve_90 : decode cX12_resolve 90 = .ok (.iastore, 1) := by decide +kernel
theorem dX12_resolve_91 : decode cX12_resolve 91 = .ok (.iload_n 2, 1) := by decide +kernel
theorem dX12_resolve_92 : decode cX12_resolve 92 = .ok (.ifCond .eq 20, 3) := by decide +kernel
theorem dX12_resolve_95 : decode cX12_resolve 95 = .ok (.iload 5, 2) := by decide +kernel
theorem dX12_resolve_97 : decode cX12_resolve 97 = .ok (.ifCond .ne 15, 3) := by decide +kernel
theorem dX12_resolve_100 : decode cX12_resolve 100 = .ok (.aload_n 0, 1) := by decide +kernel
theorem dX12_resolve_101 : decode cX12_resolve 101 = .ok (.iload 4, 2) := by decide +kernel
theorem dX12_resolve_103 : decode cX12_resolve 103 = .ok (.aload_n 0, 1) := by decide +kernel
theorem dX12_resolve_104 : decode cX12_resolve 104 = .ok (.getfield 168, 3) := by decide +kernel
theorem dX12_resolve_107 : decode cX12_resolve 107 = .ok (.iload_n 3, 1) := by decide +kernel
theorem dX12_resolve_108 : decode cX12_resolve 108 = .ok (.baload, 1) := by decide +kernel
theorem dX12_resolve_109 : decode cX12_resolve 109 = .ok (.invokevirtual 380, 3) := by decide +kernel
theorem dX12_resolve_112 : decode cX12_resolve 112 = .ok (.iinc 3 1, 3) := by decide +kernel
theorem dX12_resolve_115 : decode cX12_resolve 115 = .ok (.goto (-113), 3) := by decide +kernel
theorem dX12_resolve_118 : decode cX12_resolve 118 = .ok (.return_, 1) := by decide +kernel
theorem dX12_push_0 : decode cX12_push 0 = .ok (.aload_n 0, 1) := by decide +kernel
theorem dX12_push_1 : decode cX12_push 1 = .ok (.dup, 1) := by decide +kernel
theorem dX12_push_2 : decode cX12_push 2 = .ok (.getfield 387, 3) := by decide +kernel
theorem dX12_push_5 : decode cX12_push 5 = .ok (.iconst 1, 1) := by decide +kernel
theorem dX12_push_6 : decode cX12_push 6 = .ok (.iadd, 1) := by decide +kernel
theorem dX12_push_7 : decode cX12_push 7 = .ok (.putfield 387, 3) := by decide +kernel
theorem dX12_push_10 : decode cX12_push 10 = .ok (.aload_n 0, 1) := by decide +kernel
theorem dX12_push_11 : decode cX12_push 11 = .ok (.getfield 174, 3) := by decide +kernel
theorem dX12_push_14 : decode cX12_push 14 = .ok (.aload_n 0, 1) := by decide +kernel
theorem dX12_push_15 : decode cX12_push 15 = .ok (.getfield 387, 3) := by decide +kernel
theorem dX12_push_18 : decode cX12_push 18 = .ok (.iload_n 1, 1) := by decide +kernel
theorem dX12_push_19 : decode cX12_push 19 = .ok (.iastore, 1) := by decide +kernel
theorem dX12_push_20 : decode cX12_push 20 = .ok (.aload_n 0, 1) := by decide +kernel
theorem dX12_push_21 : decode cX12_push 21 = .ok (.getfield 177, 3) := by decide +kernel
theorem dX12_push_24 : decode cX12_push 24 = .ok (.aload_n 0, 1) := by decide +kernel
theorem dX12_push_25 : decode cX12_push 25 = .ok (.getfield 387, 3) := by decide +kernel
theorem dX12_push_28 : decode cX12_push 28 = .ok (.iconst 0, 1) := by decide +kernel
theorem dX12_push_29 : decode cX12_push 29 = .ok (.iastore, 1) := by decide +kernel
theorem dX12_push_30 : decode cX12_push 30 = .ok (.return_, 1) := by decide +kernel
theorem dX12_then_0 : decode cX12_then 0 = .ok (.aload_n 0, 1) := by decide +kernel
theorem dX12_then_1 : decode cX12_then 1 = .ok (.getfield 177, 3) := by decide +kernel
theorem dX12_then_4 : decode cX12_then 4 = .ok (.aload_n 0, 1) := by decide +kernel
theorem dX12_then_5 : decode cX12_then 5 = .ok (.getfield 387, 3) := by decide +kernel
theorem dX12_then_8 : decode cX12_then 8 = .ok (.iload_n 1, 1) := by decide +kernel
theorem dX12_then_9 : decode cX12_then 9 = .ok (.iastore, 1) := by decide +kernel
theorem dX12_then_10 : decode cX12_then 10 = .ok (.aload_n 0, 1) := by decide +kernel
theorem dX12_then_11 : decode cX12_then 11 = .ok (.iload_n 2, 1) := by decide +kernel
theorem dX12_then_12 : decode cX12_then 12 = .ok (.invokevirtual 390, 3) := by decide +kernel
theorem dX12_then_15 : decode cX12_then 15 = .ok (.return_, 1) := by decide +kernel
theorem dX12_body_0 : decode cX12_body 0 = .ok (.aload_n 0, 1) := by decide +kernel
theorem dX12_body_1 : decode cX12_body 1 = .ok (.aload_n 0, 1) := by decide +kernel
theorem dX12_body_2 : decode cX12_body 2 = .ok (.getfield 307, 3) := by decide +kernel
theorem dX12_body_5 : decode cX12_body 5 = .ok (.sipush 410, 3) := by decide +kernel
theorem dX12_body_8 : decode cX12_body 8 = .ok (.if_icmp .eq 17, 3) := by decide +kernel
theorem dX12_body_11 : decode cX12_body 11 = .ok (.aload_n 0, 1) := by decide +kernel
theorem dX12_body_12 : decode cX12_body 12 = .ok (.getfield 307, 3) := by decide +kernel
theorem dX12_body_15 : decode cX12_body 15 = .ok (.sipush 411, 3) := by decide +kernel
theorem dX12_body_18 : decode cX12_body 18 = .ok (.if_icmp .eq 7, 3) := by decide +kernel
theorem dX12_body_21 : decode cX12_body 21 = .ok (.iconst 1, 1) := by decide +kernel
theorem dX12_body_22 : decode cX12_body 22 = .ok (.goto 4, 3) := by decide +kernel
theorem dX12_body_25 : decode cX12_body 25 = .ok (.iconst 0, 1) := by decide +kernel
theorem dX12_body_26 : decode cX12_body 26 = .ok (.invokevirtual 341, 3) := by decide +kernel
theorem dX12_body_29 : decode cX12_body 29 = .ok (.ifCond .eq 9, 3) := by decide +kernel
theorem dX12_body_32 : decode cX12_body 32 = .ok (.aload_n 0, 1) := by decide +kernel
theorem dX12_body_33 : decode cX12_body 33 = .ok (.iload_n 1, 1) := by decide +kernel
theorem dX12_body_34 : decode cX12_body 34 = .ok (.iconst 2, 1) := by decide +kernel
theorem dX12_body_35 : decode cX12_body 35 = .ok (.invokevirtual 393, 3) := by decide +kernel
theorem dX12_body_38 : decode cX12_body 38 = .ok (.return_, 1) := by decide +kernel
theorem dX12_over_0 : decode cX12_over 0 = .ok (.aload_n 0, 1) := by decide +kernel
theorem dX12_over_1 : decode cX12_over 1 = .ok (.iload_n 1, 1) := by decide +kernel
theorem dX12_over_2 : decode cX12_over 2 = .ok (.putfield 396, 3) := by decide +kernel
theorem dX12_over_5 : decode cX12_over 5 = .ok (.aload_n 0, 1) := by decide +kernel
theorem dX12_over_6 : decode cX12_over 6 = .ok (.dup, 1) := by decide +kernel
theorem dX12_over_7 : decode cX12_over 7 = .ok (.getfield 387, 3) := by decide +kernel
theorem dX12_over_10 : decode cX12_over 10 = .ok (.iconst 1, 1) := by decide +kernel
theorem dX12_over_11 : decode cX12_over 11 = .ok (.isub, 1) := by decide +kernel
theorem dX12_over_12 : decode cX12_over 12 = .ok (.putfield 387, 3) := by decide +kernel
theorem dX12_over_15 : decode cX12_over 15 = .ok (.return_, 1) := by decide +kernel
theorem dX12_parse_0 : decode cX12_parse 0 = .ok (.aload_n 0, 1) := by decide +kernel
theorem dX12_parse_1 : decode cX12_parse 1 = .ok (.iconst (-1), 1) := by decide +kernel
theorem dX12_parse_2 : decode cX12_parse 2 = .ok (.putfield 387, 3) := by decide +kernel
theorem dX12_parse_5 : decode cX12_parse 5 = .ok (.aload_n 0, 1) := by decide +kernel
theorem dX12_parse_6 : decode cX12_parse 6 = .ok (.iconst 1, 1) := by decide +kernel
theorem dX12_parse_7 : decode cX12_parse 7 = .ok (.invokevirtual 390, 3) := by decide +kernel
theorem dX12_parse_10 : decode cX12_parse 10 = .ok (.aload_n 0, 1) := by decide +kernel
theorem dX12_parse_11 : decode cX12_parse 11 = .ok (.getfield 387, 3) := by decide +kernel
theorem dX12_parse_14 : decode cX12_parse 14 = .ok (.ifCond .lt 270, 3) := by decide +kernel
theorem dX12_parse_17 : decode cX12_parse 17 = .ok (.aload_n 0, 1) := by decide +kernel
theorem dX12_parse_18 : decode cX12_parse 18 = .ok (.getfield 291, 3) := by decide +kernel
theorem dX12_parse_21 : decode cX12_parse 21 = .ok (.ifCond .ne 263, 3) := by decide +kernel
theorem dX12_parse_24 : decode cX12_parse 24 = .ok (.aload_n 0, 1) := by decide +kernel
theorem dX12_parse_25 : decode cX12_parse 25 = .ok (.getfield 174, 3) := by decide +kernel
theorem dX12_parse_28 : decode cX12_parse 28 = .ok (.aload_n 0, 1) := by decide +kernel
theorem dX12_parse_29 : decode cX12_parse 29 = .ok (.getfield 387, 3) := by decide +kernel
theorem dX12_parse_32 : decode cX12_parse 32 = .ok (.iaload, 1) := by decide +kernel
theorem dX12_parse_33 : decode cX12_parse 33 = .ok (.tableswitch 240 1 15 #[75, 86, 97, 108, 119, 130, 141, 152, 163, 174, 185, 196, 207, 218, 229], 75) := by decide +kernel
theorem dX12_parse_108 : decode cX12_parse 108 = .ok (.aload_n 0, 1) := by decide +kernel
theorem dX12_parse_109 : decode cX12_parse 109 = .ok (.aload_n 0, 1) := by decide +kernel
theorem dX12_parse_110 : decode cX12_parse 110 = .ok (.getfield 387, 3) := by decide +kernel
theorem dX12_parse_113 : decode cX12_parse 113 = .ok (.invokevirtual 399, 3) := by decide +kernel
theorem dX12_parse_116 : decode cX12_parse 116 = .ok (.goto (-106), 3) := by decide +kernel
theorem dX12_parse_119 : decode cX12_parse 119 = .ok (.aload_n 0, 1) := by decide +kernel
theorem dX12_parse_120 : decode cX12_parse 120 = .ok (.aload_n 0, 1) := by decide +kernel
theorem dX12_parse_121 : decode cX12_parse 121 = .ok (.getfield 387, 3) := by decide +kernel
theorem dX12_parse_124 : decode cX12_parse 124 = .ok (.invokevirtual 402, 3) := by decide +kernel
theorem dX12_parse_127 : decode cX12_parse 127 = .ok (.goto (-117), 3) := by decide +kernel
theorem dX12_parse_130 : decode cX12_parse 130 = .ok (.aload_n 0, 1) := by decide +kernel
theorem dX12_parse_131 : decode cX12_parse 131 = .ok (.aload_n 0, 1) := by decide +kernel
theorem dX12_parse_132 : decode cX12_parse 132 = .ok (.getfield 387, 3) := by decide +kernel
theorem dX12_parse_135 : decode cX12_parse 135 = .ok (.invokevirtual 405, 3) := by decide +kernel
theorem dX12_parse_138 : decode cX12_parse 138 = .ok (.goto (-128), 3) := by decide +kernel
theorem dX12_parse_141 : decode cX12_parse 141 = .ok (.aload_n 0, 1) := by decide +kernel
theorem dX12_parse_142 : decode cX12_parse 142 = .ok (.aload_n 0, 1) := by decide +kernel
theorem dX12_parse_143 : decode cX12_parse 143 = .ok (.getfield 387, 3) := by decide +kernel
theorem dX12_parse_146 : decode cX12_parse 146 = .ok (.invokevirtual 408, 3) := by decide +kernel
theorem dX12_parse_149 : decode cX12_parse 149 = .ok (.goto (-139), 3) := by decide +kernel
theorem dX12_parse_152 : decode cX12_parse 152 = .ok (.aload_n 0, 1) := by decide +kernel
theorem dX12_parse_153 : decode cX12_parse 153 = .ok (.aload_n 0, 1) := by decide +kernel
theorem dX12_parse_154 : decode cX12_parse 154 = .ok (.getfield 387, 3) := by decide +kernel
theorem dX12_parse_157 : decode cX12_parse 157 = .ok (.invokevirtual 411, 3) := by decide +kernel
theorem dX12_parse_160 : decode cX12_parse 160 = .ok (.goto (-150), 3) := by decide +kernel
theorem dX12_parse_163 : decode cX12_parse 163 = .ok (.aload_n 0, 1) := by decide +kernel
theorem dX12_parse_164 : decode cX12_parse 164 = .ok (.aload_n 0, 1) := by decide +kernel
theorem dX12_parse_165 : decode cX12_parse 165 = .ok (.getfield 387, 3) := by decide +kernel
theorem dX12_parse_168 : decode cX12_parse 168 = .ok (.invokevirtual 414, 3) := by decide +kernel
theorem dX12_parse_171 : decode cX12_parse 171 = .ok (.goto (-161), 3) := by decide +kernel
theorem dX12_parse_174 : decode cX12_parse 174 = .ok (.aload_n 0, 1) := by decide +kernel
theorem dX12_parse_175 : decode cX12_parse 175 = .ok (.aload_n 0, 1) := by decide +kernel
theorem dX12_parse_176 : decode cX12_parse 176 = .ok (.getfield 387, 3) := by decide +kernel
theorem dX12_parse_179 : decode cX12_parse 179 = .ok (.invokevirtual 417, 3) := by decide +kernel
theorem dX12_parse_182 : decode cX12_parse 182 = .ok (.goto (-172), 3) := by decide +kernel
theorem dX12_parse_185 : decode cX12_parse 185 = .ok (.aload_n 0, 1) := by decide +kernel
theorem dX12_parse_186 : decode cX12_parse 186 = .ok (.aload_n 0, 1) := by decide +kernel
theorem dX12_parse_187 : decode cX12_parse 187 = .ok (.getfield 387, 3) := by decide +kernel
theorem dX12_parse_190 : decode cX12_parse 190 = .ok (.invokevirtual 420, 3) := by decide +kernel
theorem dX12_parse_193 : decode cX12_parse 193 = .ok (.goto (-183), 3) := by decide +kernel
theorem dX12_parse_196 : decode cX12_parse 196 = .ok (.aload_n 0, 1) := by decide +kernel
theorem dX12_parse_197 : decode cX12_parse 197 = .ok (.aload_n 0, 1) := by decide +kernel
theorem dX12_parse_198 : decode cX12_parse 198 = .ok (.getfield 387, 3) := by decide +kernel
theorem dX12_parse_201 : decode cX12_parse 201 = .ok (.invokevirtual 423, 3) := by decide +kernel
theorem dX12_parse_204 : decode cX12_parse 204 = .ok (.goto (-194), 3) := by decide +kernel
theorem dX12_parse_207 : decode cX12_parse 207 = .ok (.aload_n 0, 1) := by decide +kernel
theorem dX12_parse_208 : decode cX12_parse 208 = .ok (.aload_n 0, 1) := by decide +kernel
theorem dX12_parse_209 : decode cX12_parse 209 = .ok (.getfield 387, 3) := by decide +kernel
theorem dX12_parse_212 : decode cX12_parse 212 = .ok (.invokevirtual 426, 3) := by decide +kernel
theorem dX12_parse_215 : decode cX12_parse 215 = .ok (.goto (-205), 3) := by decide +kernel
theorem dX12_parse_218 : decode cX12_parse 218 = .ok (.aload_n 0, 1) := by decide +kernel
theorem dX12_parse_219 : decode cX12_parse 219 = .ok (.aload_n 0, 1) := by decide +kernel
theorem dX12_parse_220 : decode cX12_parse 220 = .ok (.getfield 387, 3) := by decide +kernel
theorem dX12_parse_223 : decode cX12_parse 223 = .ok (.invokevirtual 429, 3) := by decide +kernel
theorem dX12_parse_226 : decode cX12_parse 226 = .ok (.goto (-216), 3) := by decide +kernel
theorem dX12_parse_229 : decode cX12_parse 229 = .ok (.aload_n 0, 1) := by decide +kernel
theorem dX12_parse_230 : decode cX12_parse 230 = .ok (.aload_n 0, 1) := by decide +kernel
theorem dX12_parse_231 : decode cX12_parse 231 = .ok (.getfield 387, 3) := by decide +kernel
theorem dX12_parse_234 : decode cX12_parse 234 = .ok (.invokevirtual 432, 3) := by decide +kernel
theorem dX12_parse_237 : decode cX12_parse 237 = .ok (.goto (-227), 3) := by decide +kernel
theorem dX12_parse_240 : decode cX12_parse 240 = .ok (.aload_n 0, 1) := by decide +kernel
theorem dX12_parse_241 : decode cX12_parse 241 = .ok (.aload_n 0, 1) := by decide +kernel
theorem dX12_parse_242 : decode cX12_parse 242 = .ok (.getfield 387, 3) := by decide +kernel
theorem dX12_parse_245 : decode cX12_parse 245 = .ok (.invokevirtual 435, 3) := by decide +kernel
theorem dX12_parse_248 : decode cX12_parse 248 = .ok (.goto (-238), 3) := by decide +kernel
theorem dX12_parse_251 : decode cX12_parse 251 = .ok (.aload_n 0, 1) := by decide +kernel
theorem dX12_parse_252 : decode cX12_parse 252 = .ok (.aload_n 0, 1) := by decide +kernel
theorem dX12_parse_253 : decode cX12_parse 253 = .ok (.getfield 387, 3) := by decide +kernel
theorem dX12_parse_256 : decode cX12_parse 256 = .ok (.invokevirtual 438, 3) := by decide +kernel
theorem dX12_parse_259 : decode cX12_parse 259 = .ok (.goto (-249), 3) := by decide +kernel
theorem dX12_parse_262 : decode cX12_parse 262 = .ok (.aload_n 0, 1) := by decide +kernel
theorem dX12_parse_263 : decode cX12_parse 263 = .ok (.aload_n 0, 1) := by decide +kernel
theorem dX12_parse_264 : decode cX12_parse 264 = .ok (.getfield 387, 3) := by decide +kernel
theorem dX12_parse_267 : decode cX12_parse 267 = .ok (.invokevirtual 441, 3) := by decide +kernel
theorem dX12_parse_270 : decode cX12_parse 270 = .ok (.goto (-260), 3) := by decide +kernel
theorem dX12_parse_273 : decode cX12_parse 273 = .ok (.aload_n 0, 1) := by decide +kernel
theorem dX12_parse_274 : decode cX12_parse 274 = .ok (.aload_n 0, 1) := by decide +kernel
theorem dX12_parse_275 : decode cX12_parse 275 = .ok (.getfield 387, 3) := by decide +kernel
theorem dX12_parse_278 : decode cX12_parse 278 = .ok (.invokevirtual 444, 3) := by decide +kernel
theorem dX12_parse_281 : decode cX12_parse 281 = .ok (.goto (-271), 3) := by decide +kernel
theorem dX12_parse_284 : decode cX12_parse 284 = .ok (.return_, 1) := by decide +kernel
theorem dX12_thing_0 : decode cX12_thing 0 = .ok (.aload_n 0, 1) := by decide +kernel
theorem dX12_thing_1 : decode cX12_thing 1 = .ok (.getfield 174, 3) := by decide +kernel
theorem dX12_thing_4 : decode cX12_thing 4 = .ok (.iload_n 1, 1) := by decide +kernel
theorem dX12_thing_5 : decode cX12_thing 5 = .ok (.iaload, 1) := by decide +kernel
theorem dX12_thing_6 : decode cX12_thing 6 = .ok (.tableswitch 159 16 21 #[38, 71, 113, 121, 129, 144], 38) := by decide +kernel
theorem dX12_thing_44 : decode cX12_thing 44 = .ok (.aload_n 0, 1) := by decide +kernel
theorem dX12_thing_45 : decode cX12_thing 45 = .ok (.iload_n 1, 1) := by decide +kernel
