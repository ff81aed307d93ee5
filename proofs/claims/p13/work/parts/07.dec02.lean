section
theorem dX12_seenAs_11 : decode cX12_seenAs 11 = .ok (.aload_n 0, 1) := by decide +kernel
theorem dX12_seenAs_12 : decode cX12_seenAs 12 = .ok (.getfield 126, 3) := by decide +kernel
theorem dX12_seenAs_15 : decode cX12_seenAs 15 = .ok (.iload_n 3, 1) := by decide +kernel
theorem dX12_seenAs_16 : decode cX12_seenAs 16 = .ok (.laload, 1) := by decide +kernel
theorem dX12_seenAs_17 : decode cX12_seenAs 17 = .ok (.lload_n 1, 1) := by decide +kernel
theorem dX12_seenAs_18 : decode cX12_seenAs 18 = .ok (.lcmp, 1) := by decide +kernel
theorem dX12_seenAs_19 : decode cX12_seenAs 19 = .ok (.ifCond .ne 5, 3) := by decide +kernel
theorem dX12_seenAs_22 : decode cX12_seenAs 22 = .ok (.iload_n 3, 1) := by decide +kernel
theorem dX12_seenAs_23 : decode cX12_seenAs 23 = .ok (.ireturn, 1) := by decide +kernel
theorem dX12_seenAs_24 : decode cX12_seenAs 24 = .ok (.iinc 3 (-1), 3) := by decide +kernel
theorem dX12_seenAs_27 : decode cX12_seenAs 27 = .ok (.goto (-20), 3) := by decide +kernel
theorem dX12_seenAs_30 : decode cX12_seenAs 30 = .ok (.iconst (-1), 1) := by decide +kernel
theorem dX12_seenAs_31 : decode cX12_seenAs 31 = .ok (.ireturn, 1) := by decide +kernel
theorem dX12_see_0 : decode cX12_see 0 = .ok (.aload_n 0, 1) := by decide +kernel
theorem dX12_see_1 : decode cX12_see 1 = .ok (.getfield 126, 3) := by decide +kernel
theorem dX12_see_4 : decode cX12_see 4 = .ok (.aload_n 0, 1) := by decide +kernel
theorem dX12_see_5 : decode cX12_see 5 = .ok (.getfield 361, 3) := by decide +kernel
theorem dX12_see_8 : decode cX12_see 8 = .ok (.lload_n 1, 1) := by decide +kernel
theorem dX12_see_9 : decode cX12_see 9 = .ok (.lastore, 1) := by decide +kernel
theorem dX12_see_10 : decode cX12_see 10 = .ok (.aload_n 0, 1) := by decide +kernel
theorem dX12_see_11 : decode cX12_see 11 = .ok (.getfield 129, 3) := by decide +kernel
theorem dX12_see_14 : decode cX12_see 14 = .ok (.aload_n 0, 1) := by decide +kernel
theorem dX12_see_15 : decode cX12_see 15 = .ok (.getfield 361, 3) := by decide +kernel
theorem dX12_see_18 : decode cX12_see 18 = .ok (.aload_n 0, 1) := by decide +kernel
theorem dX12_see_19 : decode cX12_see 19 = .ok (.getfield 364, 3) := by decide +kernel
theorem dX12_see_22 : decode cX12_see 22 = .ok (.iastore, 1) := by decide +kernel
theorem dX12_see_23 : decode cX12_see 23 = .ok (.aload_n 0, 1) := by decide +kernel
theorem dX12_see_24 : decode cX12_see 24 = .ok (.getfield 132, 3) := by decide +kernel
theorem dX12_see_27 : decode cX12_see 27 = .ok (.aload_n 0, 1) := by decide +kernel
theorem dX12_see_28 : decode cX12_see 28 = .ok (.getfield 361, 3) := by decide +kernel
theorem dX12_see_31 : decode cX12_see 31 = .ok (.iload_n 3, 1) := by decide +kernel
theorem dX12_see_32 : decode cX12_see 32 = .ok (.bastore, 1) := by decide +kernel
theorem dX12_see_33 : decode cX12_see 33 = .ok (.aload_n 0, 1) := by decide +kernel
theorem dX12_see_34 : decode cX12_see 34 = .ok (.dup, 1) := by decide +kernel
theorem dX12_see_35 : decode cX12_see 35 = .ok (.getfield 361, 3) := by decide +kernel
theorem dX12_see_38 : decode cX12_see 38 = .ok (.iconst 1, 1) := by decide +kernel
theorem dX12_see_39 : decode cX12_see 39 = .ok (.iadd, 1) := by decide +kernel
theorem dX12_see_40 : decode cX12_see 40 = .ok (.putfield 361, 3) := by decide +kernel
theorem dX12_see_43 : decode cX12_see 43 = .ok (.aload_n 0, 1) := by decide +kernel
theorem dX12_see_44 : decode cX12_see 44 = .ok (.dup, 1) := by decide +kernel
theorem dX12_see_45 : decode cX12_see 45 = .ok (.getfield 364, 3) := by decide +kernel
theorem dX12_see_48 : decode cX12_see 48 = .ok (.iconst 1, 1) := by decide +kernel
theorem dX12_see_49 : decode cX12_see 49 = .ok (.iadd, 1) := by decide +kernel
theorem dX12_see_50 : decode cX12_see 50 = .ok (.putfield 364, 3) := by decide +kernel
theorem dX12_see_53 : decode cX12_see 53 = .ok (.aload_n 0, 1) := by decide +kernel
theorem dX12_see_54 : decode cX12_see 54 = .ok (.getfield 364, 3) := by decide +kernel
theorem dX12_see_57 : decode cX12_see 57 = .ok (.iconst 1, 1) := by decide +kernel
theorem dX12_see_58 : decode cX12_see 58 = .ok (.isub, 1) := by decide +kernel
theorem dX12_see_59 : decode cX12_see 59 = .ok (.ireturn, 1) := by decide +kernel
theorem dX12_goal_0 : decode cX12_goal 0 = .ok (.aload_n 0, 1) := by decide +kernel
theorem dX12_goal_1 : decode cX12_goal 1 = .ok (.getfield 135, 3) := by decide +kernel
theorem dX12_goal_4 : decode cX12_goal 4 = .ok (.aload_n 0, 1) := by decide +kernel
theorem dX12_goal_5 : decode cX12_goal 5 = .ok (.getfield 367, 3) := by decide +kernel
theorem dX12_goal_8 : decode cX12_goal 8 = .ok (.iload_n 1, 1) := by decide +kernel
theorem dX12_goal_9 : decode cX12_goal 9 = .ok (.iastore, 1) := by decide +kernel
theorem dX12_goal_10 : decode cX12_goal 10 = .ok (.aload_n 0, 1) := by decide +kernel
theorem dX12_goal_11 : decode cX12_goal 11 = .ok (.getfield 138, 3) := by decide +kernel
theorem dX12_goal_14 : decode cX12_goal 14 = .ok (.aload_n 0, 1) := by decide +kernel
theorem dX12_goal_15 : decode cX12_goal 15 = .ok (.getfield 367, 3) := by decide +kernel
theorem dX12_goal_18 : decode cX12_goal 18 = .ok (.lload_n 2, 1) := by decide +kernel
theorem dX12_goal_19 : decode cX12_goal 19 = .ok (.lastore, 1) := by decide +kernel
theorem dX12_goal_20 : decode cX12_goal 20 = .ok (.aload_n 0, 1) := by decide +kernel
theorem dX12_goal_21 : decode cX12_goal 21 = .ok (.getfield 141, 3) := by decide +kernel
theorem dX12_goal_24 : decode cX12_goal 24 = .ok (.aload_n 0, 1) := by decide +kernel
theorem dX12_goal_25 : decode cX12_goal 25 = .ok (.getfield 367, 3) := by decide +kernel
theorem dX12_goal_28 : decode cX12_goal 28 = .ok (.iconst (-1), 1) := by decide +kernel
theorem dX12_goal_29 : decode cX12_goal 29 = .ok (.iastore, 1) := by decide +kernel
theorem dX12_goal_30 : decode cX12_goal 30 = .ok (.aload_n 0, 1) := by decide +kernel
theorem dX12_goal_31 : decode cX12_goal 31 = .ok (.getfield 144, 3) := by decide +kernel
theorem dX12_goal_34 : decode cX12_goal 34 = .ok (.aload_n 0, 1) := by decide +kernel
theorem dX12_goal_35 : decode cX12_goal 35 = .ok (.getfield 367, 3) := by decide +kernel
theorem dX12_goal_38 : decode cX12_goal 38 = .ok (.aload_n 0, 1) := by decide +kernel
theorem dX12_goal_39 : decode cX12_goal 39 = .ok (.getfield 370, 3) := by decide +kernel
theorem dX12_goal_42 : decode cX12_goal 42 = .ok (.iastore, 1) := by decide +kernel
theorem dX12_goal_43 : decode cX12_goal 43 = .ok (.aload_n 0, 1) := by decide +kernel
theorem dX12_goal_44 : decode cX12_goal 44 = .ok (.getfield 147, 3) := by decide +kernel
theorem dX12_goal_47 : decode cX12_goal 47 = .ok (.aload_n 0, 1) := by decide +kernel
theorem dX12_goal_48 : decode cX12_goal 48 = .ok (.getfield 367, 3) := by decide +kernel
theorem dX12_goal_51 : decode cX12_goal 51 = .ok (.iconst (-1), 1) := by decide +kernel
theorem dX12_goal_52 : decode cX12_goal 52 = .ok (.iastore, 1) := by decide +kernel
theorem dX12_goal_53 : decode cX12_goal 53 = .ok (.aload_n 0, 1) := by decide +kernel
theorem dX12_goal_54 : decode cX12_goal 54 = .ok (.getfield 150, 3) := by decide +kernel
theorem dX12_goal_57 : decode cX12_goal 57 = .ok (.aload_n 0, 1) := by decide +kernel
theorem dX12_goal_58 : decode cX12_goal 58 = .ok (.getfield 367, 3) := by decide +kernel
theorem dX12_goal_61 : decode cX12_goal 61 = .ok (.iconst (-1), 1) := by decide +kernel
theorem dX12_goal_62 : decode cX12_goal 62 = .ok (.iastore, 1) := by decide +kernel
theorem dX12_goal_63 : decode cX12_goal 63 = .ok (.aload_n 0, 1) := by decide +kernel
theorem dX12_goal_64 : decode cX12_goal 64 = .ok (.getfield 153, 3) := by decide +kernel
theorem dX12_goal_67 : decode cX12_goal 67 = .ok (.aload_n 0, 1) := by decide +kernel
theorem dX12_goal_68 : decode cX12_goal 68 = .ok (.getfield 367, 3) := by decide +kernel
theorem dX12_goal_71 : decode cX12_goal 71 = .ok (.iconst 0, 1) := by decide +kernel
theorem dX12_goal_72 : decode cX12_goal 72 = .ok (.bastore, 1) := by decide +kernel
theorem dX12_goal_73 : decode cX12_goal 73 = .ok (.aload_n 0, 1) := by decide +kernel
theorem dX12_goal_74 : decode cX12_goal 74 = .ok (.getfield 156, 3) := by decide +kernel
theorem dX12_goal_77 : decode cX12_goal 77 = .ok (.aload_n 0, 1) := by decide +kernel
theorem dX12_goal_78 : decode cX12_goal 78 = .ok (.getfield 367, 3) := by decide +kernel
theorem dX12_goal_81 : decode cX12_goal 81 = .ok (.iconst 0, 1) := by decide +kernel
theorem dX12_goal_82 : decode cX12_goal 82 = .ok (.bastore, 1) := by decide +kernel
theorem dX12_goal_83 : decode cX12_goal 83 = .ok (.aload_n 0, 1) := by decide +kernel
theorem dX12_goal_84 : decode cX12_goal 84 = .ok (.dup, 1) := by decide +kernel
theorem dX12_goal_85 : decode cX12_goal 85 = .ok (.getfield 367, 3) := by decide +kernel
theorem dX12_goal_88 : decode cX12_goal 88 = .ok (.iconst 1, 1) := by decide +kernel
theorem dX12_goal_89 : decode cX12_goal 89 = .ok (.iadd, 1) := by decide +kernel
theorem dX12_goal_90 : decode cX12_goal 90 = .ok (.putfield 367, 3) := by decide +kernel
theorem dX12_goal_93 : decode cX12_goal 93 = .ok (.aload_n 0, 1) := by decide +kernel
theorem dX12_goal_94 : decode cX12_goal 94 = .ok (.getfield 367, 3) := by decide +kernel
theorem dX12_goal_97 : decode cX12_goal 97 = .ok (.iconst 1, 1) := by decide +kernel
theorem dX12_goal_98 : decode cX12_goal 98 = .ok (.isub, 1) := by decide +kernel
theorem dX12_goal_99 : decode cX12_goal 99 = .ok (.ireturn, 1) := by decide +kernel
theorem dX12_loopGoal_0 : decode cX12_loopGoal 0 = .ok (.aload_n 0, 1) := by decide +kernel
theorem dX12_loopGoal_1 : decode cX12_loopGoal 1 = .ok (.iconst 0, 1) := by decide +kernel
theorem dX12_loopGoal_2 : decode cX12_loopGoal 2 = .ok (.lconst 0, 1) := by decide +kernel
theorem dX12_loopGoal_3 : decode cX12_loopGoal 3 = .ok (.invokevirtual 373, 3) := by decide +kernel
theorem dX12_loopGoal_6 : decode cX12_loopGoal 6 = .ok (.istore_n 1, 1) := by decide +kernel
theorem dX12_loopGoal_7 : decode cX12_loopGoal 7 = .ok (.iload_n 1, 1) := by decide +kernel
theorem dX12_loopGoal_8 : decode cX12_loopGoal 8 = .ok (.iconst 1, 1) := by decide +kernel
theorem dX12_loopGoal_9 : decode cX12_loopGoal 9 = .ok (.isub, 1) := by decide +kernel
theorem dX12_loopGoal_10 : decode cX12_loopGoal 10 = .ok (.istore_n 2, 1) := by decide +kernel
theorem dX12_loopGoal_11 : decode cX12_loopGoal 11 = .ok (.iload_n 2, 1) := by decide +kernel
theorem dX12_loopGoal_12 : decode cX12_loopGoal 12 = .ok (.ifCond .lt 37, 3) := by decide +kernel
theorem dX12_loopGoal_15 : decode cX12_loopGoal 15 = .ok (.aload_n 0, 1) := by decide +kernel
theorem dX12_loopGoal_16 : decode cX12_loopGoal 16 = .ok (.getfield 135, 3) := by decide +kernel
theorem dX12_loopGoal_19 : decode cX12_loopGoal 19 = .ok (.iload_n 2, 1) := by decide +kernel
theorem dX12_loopGoal_20 : decode cX12_loopGoal 20 = .ok (.iaload, 1) := by decide +kernel
theorem dX12_loopGoal_21 : decode cX12_loopGoal 21 = .ok (.iconst 2, 1) := by decide +kernel
theorem dX12_loopGoal_22 : decode cX12_loopGoal 22 = .ok (.if_icmp .ne 27, 3) := by decide +kernel
theorem dX12_loopGoal_25 : decode cX12_loopGoal 25 = .ok (.aload_n 0, 1) := by decide +kernel
theorem dX12_loopGoal_26 : decode cX12_loopGoal 26 = .ok (.getfield 141, 3) := by decide +kernel
theorem dX12_loopGoal_29 : decode cX12_loopGoal 29 = .ok (.iload_n 2, 1) := by decide +kernel
theorem dX12_loopGoal_30 : decode cX12_loopGoal 30 = .ok (.iaload, 1) := by decide +kernel
theorem dX12_loopGoal_31 : decode cX12_loopGoal 31 = .ok (.bipush (-3), 2) := by decide +kernel
theorem dX12_loopGoal_33 : decode cX12_loopGoal 33 = .ok (.if_icmp .ne 16, 3) := by decide +kernel
theorem dX12_loopGoal_36 : decode cX12_loopGoal 36 = .ok (.aload_n 0, 1) := by decide +kernel
theorem dX12_loopGoal_37 : decode cX12_loopGoal 37 = .ok (.getfield 141, 3) := by decide +kernel
theorem dX12_loopGoal_40 : decode cX12_loopGoal 40 = .ok (.iload_n 2, 1) := by decide +kernel
theorem dX12_loopGoal_41 : decode cX12_loopGoal 41 = .ok (.iload_n 1, 1) := by decide +kernel
theorem dX12_loopGoal_42 : decode cX12_loopGoal 42 = .ok (.iastore, 1) := by decide +kernel
theorem dX12_loopGoal_43 : decode cX12_loopGoal 43 = .ok (.iinc 2 (-1), 3) := by decide +kernel
theorem dX12_loopGoal_46 : decode cX12_loopGoal 46 = .ok (.goto (-35), 3) := by decide +kernel
theorem dX12_loopGoal_49 : decode cX12_loopGoal 49 = .ok (.iload_n 1, 1) := by decide +kernel
theorem dX12_loopGoal_50 : decode cX12_loopGoal 50 = .ok (.ireturn, 1) := by decide +kernel
theorem dX12_patch_0 : decode cX12_patch 0 = .ok (.iload_n 1, 1) := by decide +kernel
theorem dX12_patch_1 : decode cX12_patch 1 = .ok (.istore_n 3, 1) := by decide +kernel
theorem dX12_patch_2 : decode cX12_patch 2 = .ok (.iload_n 3, 1) := by decide +kernel
theorem dX12_patch_3 : decode cX12_patch 3 = .ok (.ifCond .lt 24, 3) := by decide +kernel
theorem dX12_patch_6 : decode cX12_patch 6 = .ok (.aload_n 0, 1) := by decide +kernel
theorem dX12_patch_7 : decode cX12_patch 7 = .ok (.getfield 87, 3) := by decide +kernel
theorem dX12_patch_10 : decode cX12_patch 10 = .ok (.iload_n 3, 1) := by decide +kernel
theorem dX12_patch_11 : decode cX12_patch 11 = .ok (.iaload, 1) := by decide +kernel
theorem dX12_patch_12 : decode cX12_patch 12 = .ok (.istore 4, 2) := by decide +kernel
theorem dX12_patch_14 : decode cX12_patch 14 = .ok (.aload_n 0, 1) := by decide +kernel
theorem dX12_patch_15 : decode cX12_patch 15 = .ok (.getfield 87, 3) := by decide +kernel
theorem dX12_patch_18 : decode cX12_patch 18 = .ok (.iload_n 3, 1) := by decide +kernel
theorem dX12_patch_19 : decode cX12_patch 19 = .ok (.iload_n 2, 1) := by decide +kernel
theorem dX12_patch_20 : decode cX12_patch 20 = .ok (.iastore, 1) := by decide +kernel
theorem dX12_patch_21 : decode cX12_patch 21 = .ok (.iload 4, 2) := by decide +kernel
theorem dX12_patch_23 : decode cX12_patch 23 = .ok (.istore_n 3, 1) := by decide +kernel
theorem dX12_patch_24 : decode cX12_patch 24 = .ok (.goto (-22), 3) := by decide +kernel
theorem dX12_patch_27 : decode cX12_patch 27 = .ok (.return_, 1) := by decide +kernel
theorem dX12_goes_0 : decode cX12_goes 0 = .ok (.iload_n 2, 1) := by decide +kernel
theorem dX12_goes_1 : decode cX12_goes 1 = .ok (.ifCond .eq 13, 3) := by decide +kernel
theorem dX12_goes_4 : decode cX12_goes 4 = .ok (.aload_n 0, 1) := by decide +kernel
theorem dX12_goes_5 : decode cX12_goes 5 = .ok (.getfield 153, 3) := by decide +kernel
theorem dX12_goes_8 : decode cX12_goes 8 = .ok (.iload_n 1, 1) := by decide +kernel
theorem dX12_goes_9 : decode cX12_goes 9 = .ok (.iconst 1, 1) := by decide +kernel
theorem dX12_goes_10 : decode cX12_goes 10 = .ok (.bastore, 1) := by decide +kernel
theorem dX12_goes_11 : decode cX12_goes 11 = .ok (.goto 10, 3) := by decide +kernel
theorem dX12_goes_14 : decode cX12_goes 14 = .ok (.aload_n 0, 1) := by decide +kernel
theorem dX12_goes_15 : decode cX12_goes 15 = .ok (.getfield 156, 3) := by decide +kernel
theorem dX12_goes_18 : decode cX12_goes 18 = .ok (.iload_n 1, 1) := by decide +kernel
theorem dX12_goes_19 : decode cX12_goes 19 = .ok (.iconst 1, 1) := by decide +kernel
theorem dX12_goes_20 : decode cX12_goes 20 = .ok (.bastore, 1) := by decide +kernel
theorem dX12_goes_21 : decode cX12_goes 21 = .ok (.return_, 1) := by decide +kernel
theorem dX12_pend_0 : decode cX12_pend 0 = .ok (.aload_n 0, 1) := by decide +kernel
theorem dX12_pend_1 : decode cX12_pend 1 = .ok (.getfield 377, 3) := by decide +kernel
theorem dX12_pend_4 : decode cX12_pend 4 = .ok (.ifCond .eq 18, 3) := by decide +kernel
theorem dX12_pend_7 : decode cX12_pend 7 = .ok (.iload_n 1, 1) := by decide +kernel
theorem dX12_pend_8 : decode cX12_pend 8 = .ok (.aload_n 0, 1) := by decide +kernel
theorem dX12_pend_9 : decode cX12_pend 9 = .ok (.getfield 162, 3) := by decide +kernel
theorem dX12_pend_12 : decode cX12_pend 12 = .ok (.aload_n 0, 1) := by decide +kernel
theorem dX12_pend_13 : decode cX12_pend 13 = .ok (.getfield 377, 3) := by decide +kernel
theorem dX12_pend_16 : decode cX12_pend 16 = .ok (.iconst 1, 1) := by decide +kernel
theorem dX12_pend_17 : decode cX12_pend 17 = .ok (.isub, 1) := by decide +kernel
theorem dX12_pend_18 : decode cX12_pend 18 = .ok (.iaload, 1) := by decide +kernel
theorem dX12_pend_19 : decode cX12_pend 19 = .ok (.if_icmp .lt 10, 3) := by decide +kernel
theorem dX12_pend_22 : decode cX12_pend 22 = .ok (.aload_n 0, 1) := by decide +kernel
theorem dX12_pend_23 : decode cX12_pend 23 = .ok (.iload_n 1, 1) := by decide +kernel
theorem dX12_pend_24 : decode cX12_pend 24 = .ok (.iload_n 2, 1) := by decide +kernel
theorem dX12_pend_25 : decode cX12_pend 25 = .ok (.invokevirtual 380, 3) := by decide +kernel
theorem dX12_pend_28 : decode cX12_pend 28 = .ok (.return_, 1) := by decide +kernel
theorem dX12_pend_29 : decode cX12_pend 29 = .ok (.aload_n 0, 1) := by decide +kernel
theorem dX12_pend_30 : decode cX12_pend 30 = .ok (.getfield 165, 3) := by decide +kernel
theorem dX12_pend_33 : decode cX12_pend 33 = .ok (.aload_n 0, 1) := by decide +kernel
theorem dX12_pend_34 : decode cX12_pend 34 = .ok (.getfield 384, 3) := by decide +kernel
theorem dX12_pend_37 : decode cX12_pend 37 = .ok (.iload_n 1, 1) := by decide +kernel
theorem dX12_pend_38 : decode cX12_pend 38 = .ok (.iastore, 1) := by decide +kernel
theorem dX12_pend_39 : decode cX12_pend 39 = .ok (.aload_n 0, 1) := by decide +kernel
theorem dX12_pend_40 : decode cX12_pend 40 = .ok (.getfield 168, 3) := by decide +kernel
theorem dX12_pend_43 : decode cX12_pend 43 = .ok (.aload_n 0, 1) := by decide +kernel
theorem dX12_pend_44 : decode cX12_pend 44 = .ok (.getfield 384, 3) := by decide +kernel
theorem dX12_pend_47 : decode cX12_pend 47 = .ok (.iload_n 2, 1) := by decide +kernel
theorem dX12_pend_48 : decode cX12_pend 48 = .ok (.bastore, 1) := by decide +kernel
theorem dX12_pend_49 : decode cX12_pend 49 = .ok (.aload_n 0, 1) := by decide +kernel
theorem dX12_pend_50 : decode cX12_pend 50 = .ok (.getfield 171, 3) := by decide +kernel
theorem dX12_pend_53 : decode cX12_pend 53 = .ok (.aload_n 0, 1) := by decide +kernel
theorem dX12_pend_54 : decode cX12_pend 54 = .ok (.getfield 384, 3) := by decide +kernel
theorem dX12_pend_57 : decode cX12_pend 57 = .ok (.aload_n 0, 1) := by decide +kernel
theorem dX12_pend_58 : decode cX12_pend 58 = .ok (.getfield 159, 3) := by decide +kernel
theorem dX12_pend_61 : decode cX12_pend 61 = .ok (.aload_n 0, 1) := by decide +kernel
theorem dX12_pend_62 : decode cX12_pend 62 = .ok (.getfield 377, 3) := by decide +kernel
theorem dX12_pend_65 : decode cX12_pend 65 = .ok (.iconst 1, 1) := by decide +kernel
theorem dX12_pend_66 : decode cX12_pend 66 = .ok (.isub, 1) := by decide +kernel
theorem dX12_pend_67 : decode cX12_pend 67 = .ok (.iaload, 1) := by decide +kernel
theorem dX12_pend_68 : decode cX12_pend 68 = .ok (.iastore, 1) := by decide +kernel
theorem dX12_pend_69 : decode cX12_pend 69 = .ok (.aload_n 0, 1) := by decide +kernel
theorem dX12_pend_70 : decode cX12_pend 70 = .ok (.dup, 1) := by decide +kernel
theorem dX12_pend_71 : decode cX12_pend 71 = .ok (.getfield 384, 3) := by decide +kernel
theorem dX12_pend_74 : decode cX12_pend 74 = .ok (.iconst 1, 1) := by decide +kernel
theorem dX12_pend_75 : decode cX12_pend 75 = .ok (.iadd, 1) := by decide +kernel
theorem dX12_pend_76 : decode cX12_pend 76 = .ok (.putfield 384, 3) := by decide +kernel
theorem dX12_pend_79 : decode cX12_pend 79 = .ok (.return_, 1) := by decide +kernel
theorem dX12_resolve_0 : decode cX12_resolve 0 = .ok (.iconst 0, 1) := by decide +kernel
theorem dX12_resolve_1 : decode cX12_resolve 1 = .ok (.istore_n 3, 1) := by decide +kernel
theorem dX12_resolve_2 : decode cX12_resolve 2 = .ok (.iload_n 3, 1) := by decide +kernel
theorem dX12_resolve_3 : decode cX12_resolve 3 = .ok (.aload_n 0, 1) := by decide +kernel
theorem dX12_resolve_4 : decode cX12_resolve 4 = .ok (.getfield 384, 3) := by decide +kernel
theorem dX12_resolve_7 : decode cX12_resolve 7 = .ok (.if_icmp .ge 111, 3) := by decide +kernel
theorem dX12_resolve_10 : decode cX12_resolve 10 = .ok (.aload_n 0, 1) := by decide +kernel
theorem dX12_resolve_11 : decode cX12_resolve 11 = .ok (.getfield 171, 3) := by decide +kernel
theorem dX12_resolve_14 : decode cX12_resolve 14 = .ok (.iload_n 3, 1) := by decide +kernel
theorem dX12_resolve_15 : decode cX12_resolve 15 = .ok (.iaload, 1) := by decide +kernel
theorem dX12_resolve_16 : decode cX12_resolve 16 = .ok (.iload_n 1, 1) := by decide +kernel
theorem dX12_resolve_17 : decode cX12_resolve 17 = .ok (.if_icmp .eq 6, 3) := by decide +kernel
theorem dX12_resolve_20 : decode cX12_resolve 20 = .ok (.goto 92, 3) := by decide +kernel
theorem dX12_resolve_23 : decode cX12_resolve 23 = .ok (.aload_n 0, 1) := by decide +kernel
theorem dX12_resolve_24 : decode cX12_resolve 24 = .ok (.getfield 165, 3) := by decide +kernel
theorem dX12_resolve_27 : decode cX12_resolve 27 = .ok (.iload_n 3, 1) := by decide +kernel
theorem dX12_resolve_28 : decode cX12_resolve 28 = .ok (.iaload, 1) := by decide +kernel
theorem dX12_resolve_29 : decode cX12_resolve 29 = .ok (.istore 4, 2) := by decide +kernel
theorem dX12_resolve_31 : decode cX12_resolve 31 = .ok (.iload_n 2, 1) := by decide +kernel
theorem dX12_resolve_32 : decode cX12_resolve 32 = .ok (.ifCond .eq 30, 3) := by decide +kernel
theorem dX12_resolve_35 : decode cX12_resolve 35 = .ok (.aload_n 0, 1) := by decide +kernel
theorem dX12_resolve_36 : decode cX12_resolve 36 = .ok (.getfield 377, 3) := by decide +kernel
theorem dX12_resolve_39 : decode cX12_resolve 39 = .ok (.ifCond .le 23, 3) := by decide +kernel
theorem dX12_resolve_42 : decode cX12_resolve 42 = .ok (.iload 4, 2) := by decide +kernel
theorem dX12_resolve_44 : decode cX12_resolve 44 = .ok (.aload_n 0, 1) := by decide +kernel
theorem dX12_resolve_45 : decode cX12_resolve 45 = .ok (.getfield 162, 3) := by decide +kernel
theorem dX12_resolve_48 : decode cX12_resolve 48 = .ok (.aload_n 0, 1) := by decide +kernel
theorem dX12_resolve_49 : decode cX12_resolve 49 = .ok (.getfield 377, 3) := by decide +kernel
theorem dX12_resolve_52 : decode cX12_resolve 52 = .ok (.iconst 1, 1) := by decide +kernel
theorem dX12_resolve_53 : decode cX12_resolve 53 = .ok (.isub, 1) := by decide +kernel
theorem dX12_resolve_54 : decode cX12_resolve 54 = .ok (.iaload, 1) := by decide +kernel
theorem dX12_resolve_55 : decode cX12_resolve 55 = .ok (.if_icmp .ge 7, 3) := by decide +kernel
theorem dX12_resolve_58 : decode cX12_resolve 58 = .ok (.iconst 1, 1) := by decide +kernel
theorem dX12_resolve_59 : decode cX12_resolve 59 = .ok (.goto 4, 3) := by decide +kernel
theorem dX12_resolve_62 : decode cX12_resolve 62 = .ok (.iconst 0, 1) := by decide +kernel
theorem dX12_resolve_63 : decode cX12_resolve 63 = .ok (.istore 5, 2) := by decide +kernel
theorem dX12_resolve_65 : decode cX12_resolve 65 = .ok (.aload_n 0, 1) := by decide +kernel
theorem dX12_resolve_66 : decode cX12_resolve 66 = .ok (.getfield 171, 3) := by decide +kernel
theorem dX12_resolve_69 : decode cX12_resolve 69 = .ok (.iload_n 3, 1) := by decide +kernel
theorem dX12_resolve_70 : decode cX12_resolve 70 = .ok (.iload 5, 2) := by decide +kernel
theorem dX12_resolve_72 : decode cX12_resolve 72 = .ok (.ifCond .eq 17, 3) := by decide +kernel
theorem dX12_resolve_75 : decode cX12_resolve 75 = .ok (.aload_n 0, 1) := by decide +kernel
theorem dX12_resolve_76 : decode cX12_resolve 76 = .ok (.getfield 159, 3) := by decide +kernel
theorem dX12_resolve_79 : decode cX12_resolve 79 = .ok (.aload_n 0, 1) := by decide +kernel
theorem dX12_resolve_80 : decode cX12_resolve 80 = .ok (.getfield 377, 3) := by decide +kernel
theorem dX12_resolve_83 : decode cX12_resolve 83 = .ok (.iconst 1, 1) := by decide +kernel
theorem dX12_resolve_84 : decode cX12_resolve 84 = .ok (.isub, 1) := by decide +kernel
theorem dX12_resolve_85 : decode cX12_resolve 85 = .ok (.iaload, 1) := by decide +kernel
theorem dX12_resolve_86 : decode cX12_resolve 86 = .ok (.goto 4, 3) := by decide +kernel
theorem dX12_resolve_89 : decode cX12_resolve 89 = .ok (.iconst (-1), 1) := by decide +kernel
theorem dX12_resolve_90 : decode cX12_resolve 90 = .ok (.iastore, 1) := by decide +kernel
theorem dX12_resolve_91 : decode cX12_resolve 91 = .ok (.iload_n 2, 1) := by decide +kernel
theorem dX12_resolve_92 : decode cX12_resolve 92 = .ok (.ifCond .eq 20, 3) := by decide +kernel
theorem dX12_resolve_95 : decode cX12_resolve 95 = .ok (.iload 5, 2) := by decide +kernel
theorem dX12_resolve_97 : decode cX12_resolve 97 = .ok (.ifCond .ne 15, 3) := by decide +kernel
theorem dX12_resolve_100 : decode cX12_resolve 100 = .ok (.aload_n 0, 1) := by decide +kernel
theorem dX12_resolve_101 : decode cX12_resolve 101 = .ok (.iload 4, 2) := by decide +kernel
theorem dX12_resolve_103 : decode cX12_resolve 103 = .ok (.aload_n 0, 1) := by decide +kernel
theorem dX12_resolve_104 : decode cX12_resolve 104 = .ok (.getfield 168, 3) := by decide +kernel
theorem dX12_resolve_107 : decode cX12_resolve 107 = .ok (.iload_n 3, 1) := by decide +kernel
theorem dX12_resolve_108 : decode cX12_resolve 108 = .ok (.baload, 1) := by decide +kernel
theorem dX12_resolve_109 : decode cX12_resolve 109 = .ok (.invokevirtual 380, 3) := by decide +kernel
theorem dX12_resolve_112 : decode cX12_resolve 112 = .ok (.iinc 3 1, 3) := by decide +kernel
theorem dX12_resolve_115 : decode cX12_resolve 115 = .ok (.goto (-113), 3) := by decide +kernel
theorem dX12_resolve_118 : decode cX12_resolve 118 = .ok (.return_, 1) := by decide +kernel
theorem dX12_push_0 : decode cX12_push 0 = .ok (.aload_n 0, 1) := by decide +kernel
theorem dX12_push_1 : decode cX12_push 1 = .ok (.dup, 1) := by decide +kernel
theorem dX12_push_2 : decode cX12_push 2 = .ok (.getfield 387, 3) := by decide +kernel
theorem dX12_push_5 : decode cX12_push 5 = .ok (.iconst 1, 1) := by decide +kernel
theorem dX12_push_6 : decode cX12_push 6 = .ok (.iadd, 1) := by decide +kernel
theorem dX12_push_7 : decode cX12_push 7 = .ok (.putfield 387, 3) := by decide +kernel
theorem dX12_push_10 : decode cX12_push 10 = .ok (.aload_n 0, 1) := by decide +kernel
theorem dX12_push_11 : decode cX12_push 11 = .ok (.getfield 174, 3) := by decide +kernel
theorem dX12_push_14 : decode cX12_push 14 = .ok (.aload_n 0, 1) := by decide +kernel
theorem dX12_push_15 : decode cX12_push 15 = .ok (.getfield 387, 3) := by decide +kernel
theorem dX12_push_18 : decode cX12_push 18 = .ok (.iload_n 1, 1) := by decide +kernel
theorem dX12_push_19 : decode cX12_push 19 = .ok (.iastore, 1) := by decide +kernel
theorem dX12_push_20 : decode cX12_push 20 = .ok (.aload_n 0, 1) := by decide +kernel
theorem dX12_push_21 : decode cX12_push 21 = .ok (.getfield 177, 3) := by decide +kernel
theorem dX12_push_24 : decode cX12_push 24 = .ok (.aload_n 0, 1) := by decide +kernel
theorem dX12_push_25 : decode cX12_push 25 = .ok (.getfield 387, 3) := by decide +kernel
theorem dX12_push_28 : decode cX12_push 28 = .ok (.iconst 0, 1) := by decide +kernel
theorem dX12_push_29 : decode cX12_push 29 = .ok (.iastore, 1) := by decide +kernel
theorem dX12_push_30 : decode cX12_push 30 = .ok (.return_, 1) := by decide +kernel
theorem dX12_then_0 : decode cX12_then 0 = .ok (.aload_n 0, 1) := by decide +kernel
theorem dX12_then_1 : decode cX12_then 1 = .ok (.getfield 177, 3) := by decide +kernel
theorem dX12_then_4 : decode cX12_then 4 = .ok (.aload_n 0, 1) := by decide +kernel
theorem dX12_then_5 : decode cX12_then 5 = .ok (.getfield 387, 3) := by decide +kernel
theorem dX12_then_8 : decode cX12_then 8 = .ok (.iload_n 1, 1) := by decide +kernel
theorem dX12_then_9 : decode cX12_then 9 = .ok (.iastore, 1) := by decide +kernel
theorem dX12_then_10 : decode cX12_then 10 = .ok (.aload_n 0, 1) := by decide +kernel
theorem dX12_then_11 : decode cX12_then 11 = .ok (.iload_n 2, 1) := by decide +kernel
theorem dX12_then_12 : decode cX12_then 12 = .ok (.invokevirtual 390, 3) := by decide +kernel
theorem dX12_then_15 : decode cX12_then 15 = .ok (.return_, 1) := by decide +kernel
theorem dX12_body_0 : decode cX12_body 0 = .ok (.aload_n 0, 1) := by decide +kernel
theorem dX12_body_1 : decode cX12_body 1 = .ok (.aload_n 0, 1) := by decide +kernel
theorem dX12_body_2 : decode cX12_body 2 = .ok (.getfield 307, 3) := by decide +kernel
theorem dX12_body_5 : decode cX12_body 5 = .ok (.sipush 410, 3) := by decide +kernel
theorem dX12_body_8 : decode cX12_body 8 = .ok (.if_icmp .eq 17, 3) := by decide +kernel
theorem dX12_body_11 : decode cX12_body 11 = .ok (.aload_n 0, 1) := by decide +kernel
theorem dX12_body_12 : decode cX12_body 12 = .ok (.getfield 307, 3) := by decide +kernel
theorem dX12_body_15 : decode cX12_body 15 = .ok (.sipush 411, 3) := by decide +kernel
theorem dX12_body_18 : decode cX12_body 18 = .ok (.if_icmp .eq 7, 3) := by decide +kernel
theorem dX12_body_21 : decode cX12_body 21 = .ok (.iconst 1, 1) := by decide +kernel
theorem dX12_body_22 : decode cX12_body 22 = .ok (.goto 4, 3) := by decide +kernel
theorem dX12_body_25 : decode cX12_body 25 = .ok (.iconst 0, 1) := by decide +kernel
theorem dX12_body_26 : decode cX12_body 26 = .ok (.invokevirtual 341, 3) := by decide +kernel
theorem dX12_body_29 : decode cX12_body 29 = .ok (.ifCond .eq 9, 3) := by decide +kernel
theorem dX12_body_32 : decode cX12_body 32 = .ok (.aload_n 0, 1) := by decide +kernel
theorem dX12_body_33 : decode cX12_body 33 = .ok (.iload_n 1, 1) := by decide +kernel
theorem dX12_body_34 : decode cX12_body 34 = .ok (.iconst 2, 1) := by decide +kernel
theorem dX12_body_35 : decode cX12_body 35 = .ok (.invokevirtual 393, 3) := by decide +kernel
theorem dX12_body_38 : decode cX12_body 38 = .ok (.return_, 1) := by decide +kernel
theorem dX12_over_0 : decode cX12_over 0 = .ok (.aload_n 0, 1) := by decide +kernel
theorem dX12_over_1 : decode cX12_over 1 = .ok (.iload_n 1, 1) := by decide +kernel
theorem dX12_over_2 : decode cX12_over 2 = .ok (.putfield 396, 3) := by decide +kernel
theorem dX12_over_5 : decode cX12_over 5 = .ok (.aload_n 0, 1) := by decide +kernel
theorem dX12_over_6 : decode cX12_over 6 = .ok (.dup, 1) := by decide +kernel
theorem dX12_over_7 : decode cX12_over 7 = .ok (.getfield 387, 3) := by decide +kernel
theorem dX12_over_10 : decode cX12_over 10 = .ok (.iconst 1, 1) := by decide +kernel
theorem dX12_over_11 : decode cX12_over 11 = .ok (.isub, 1) := by decide +kernel
theorem dX12_over_12 : decode cX12_over 12 = .ok (.putfield 387, 3) := by decide +kernel
theorem dX12_over_15 : decode cX12_over 15 = .ok (.return_, 1) := by decide +kernel
theorem dX12_parse_0 : decode cX12_parse 0 = .ok (.aload_n 0, 1) := by decide +kernel
theorem dX12_parse_1 : decode cX12_parse 1 = .ok (.iconst (-1), 1) := by decide +kernel
theorem dX12_parse_2 : decode cX12_parse 2 = .ok (.putfield 387, 3) := by decide +kernel
theorem dX12_parse_5 : decode cX12_parse 5 = .ok (.aload_n 0, 1) := by decide +kernel
theorem dX12_parse_6 : decode cX12_parse 6 = .ok (.iconst 1, 1) := by decide +kernel
theorem dX12_parse_7 : decode cX12_parse 7 = .ok (.invokevirtual 390, 3) := by decide +kernel
theorem dX12_parse_10 : decode cX12_parse 10 = .ok (.aload_n 0, 1) := by decide +kernel
theorem dX12_parse_11 : decode cX12_parse 11 = .ok (.getfield 387, 3) := by decide +kernel
theorem dX12_parse_14 : decode cX12_parse 14 = .ok (.ifCond .lt 270, 3) := by decide +kernel
theorem dX12_parse_17 : decode cX12_parse 17 = .ok (.aload_n 0, 1) := by decide +kernel
theorem dX12_parse_18 : decode cX12_parse 18 = .ok (.getfield 291, 3) := by decide +kernel
theorem dX12_parse_21 : decode cX12_parse 21 = .ok (.ifCond .ne 263, 3) := by decide +kernel
theorem dX12_parse_24 : decode cX12_parse 24 = .ok (.aload_n 0, 1) := by decide +kernel
theorem dX12_parse_25 : decode cX12_parse 25 = .ok (.getfield 174, 3) := by decide +kernel
theorem dX12_parse_28 : decode cX12_parse 28 = .ok (.aload_n 0, 1) := by decide +kernel
theorem dX12_parse_29 : decode cX12_parse 29 = .ok (.getfield 387, 3) := by decide +kernel
theorem dX12_parse_32 : decode cX12_parse 32 = .ok (.iaload, 1) := by decide +kernel
theorem dX12_parse_33 : decode cX12_parse 33 = .ok (.tableswitch 240 1 15 #[75, 86, 97, 108, 119, 130, 141, 152, 163, 174, 185, 196, 207, 218, 229], 75) := by decide +kernel
theorem dX12_parse_108 : decode cX12_parse 108 = .ok (.aload_n 0, 1) := by decide +kernel
theorem dX12_parse_109 : decode cX12_parse 109 = .ok (.aload_n 0, 1) := by decide +kernel
theorem dX12_parse_110 : decode cX12_parse 110 = .ok (.getfield 387, 3) := by decide +kernel
theorem dX12_parse_113 : decode cX12_parse 113 = .ok (.invokevirtual 399, 3) := by decide +kernel
theorem dX12_parse_116 : decode cX12_parse 116 = .ok (.goto (-106), 3) := by decide +kernel
theorem dX12_parse_119 : decode cX12_parse 119 = .ok (.aload_n 0, 1) := by decide +kernel
theorem dX12_parse_120 : decode cX12_parse 120 = .ok (.aload_n 0, 1) := by decide +kernel
theorem dX12_parse_121 : decode cX12_parse 121 = .ok (.getfield 387, 3) := by decide +kernel
theorem dX12_parse_124 : decode cX12_parse 124 = .ok (.invokevirtual 402, 3) := by decide +kernel
theorem dX12_parse_127 : decode cX12_parse 127 = .ok (.goto (-117), 3) := by decide +kernel
theorem dX12_parse_130 : decode cX12_parse 130 = .ok (.aload_n 0, 1) := by decide +kernel
theorem dX12_parse_131 : decode cX12_parse 131 = .ok (.aload_n 0, 1) := by decide +kernel
theorem dX12_parse_132 : decode cX12_parse 132 = .ok (.getfield 387, 3) := by decide +kernel
theorem dX12_parse_135 : decode cX12_parse 135 = .ok (.invokevirtual 405, 3) := by decide +kernel
theorem dX12_parse_138 : decode cX12_parse 138 = .ok (.goto (-128), 3) := by decide +kernel
theorem dX12_parse_141 : decode cX12_parse 141 = .ok (.aload_n 0, 1) := by decide +kernel
theorem dX12_parse_142 : decode cX12_parse 142 = .ok (.aload_n 0, 1) := by decide +kernel
theorem dX12_parse_143 : decode cX12_parse 143 = .ok (.getfield 387, 3) := by decide +kernel
theorem dX12_parse_146 : decode cX12_parse 146 = .ok (.invokevirtual 408, 3) := by decide +kernel
theorem dX12_parse_149 : decode cX12_parse 149 = .ok (.goto (-139), 3) := by decide +kernel
theorem dX12_parse_152 : decode cX12_parse 152 = .ok (.aload_n 0, 1) := by decide +kernel
theorem dX12_parse_153 : decode cX12_parse 153 = .ok (.aload_n 0, 1) := by decide +kernel
theorem dX12_parse_154 : decode cX12_parse 154 = .ok (.getfield 387, 3) := by decide +kernel
theorem dX12_parse_157 : decode cX12_parse 157 = .ok (.invokevirtual 411, 3) := by decide +kernel
theorem dX12_parse_160 : decode cX12_parse 160 = .ok (.goto (-150), 3) := by decide +kernel
theorem dX12_parse_163 : decode cX12_parse 163 = .ok (.aload_n 0, 1) := by decide +kernel
theorem dX12_parse_164 : decode cX12_parse 164 = .ok (.aload_n 0, 1) := by decide +kernel
theorem dX12_parse_165 : decode cX12_parse 165 = .ok (.getfield 387, 3) := by decide +kernel
theorem dX12_parse_168 : decode cX12_parse 168 = .ok (.invokevirtual 414, 3) := by decide +kernel
theorem dX12_parse_171 : decode cX12_parse 171 = .ok (.goto (-161), 3) := by decide +kernel
theorem dX12_parse_174 : decode cX12_parse 174 = .ok (.aload_n 0, 1) := by decide +kernel
theorem dX12_parse_175 : decode cX12_parse 175 = .ok (.aload_n 0, 1) := by decide +kernel
theorem dX12_parse_176 : decode cX12_parse 176 = .ok (.getfield 387, 3) := by decide +kernel
theorem dX12_parse_179 : decode cX12_parse 179 = .ok (.invokevirtual 417, 3) := by decide +kernel
theorem dX12_parse_182 : decode cX12_parse 182 = .ok (.goto (-172), 3) := by decide +kernel
theorem dX12_parse_185 : decode cX12_parse 185 = .ok (.aload_n 0, 1) := by decide +kernel
theorem dX12_parse_186 : decode cX12_parse 186 = .ok (.aload_n 0, 1) := by decide +kernel
theorem dX12_parse_187 : decode cX12_parse 187 = .ok (.getfield 387, 3) := by decide +kernel
theorem dX12_parse_190 : decode cX12_parse 190 = .ok (.invokevirtual 420, 3) := by decide +kernel
theorem dX12_parse_193 : decode cX12_parse 193 = .ok (.goto (-183), 3) := by decide +kernel
theorem dX12_parse_196 : decode cX12_parse 196 = .ok (.aload_n 0, 1) := by decide +kernel
theorem dX12_parse_197 : decode cX12_parse 197 = .ok (.aload_n 0, 1) := by decide +kernel
theorem dX12_parse_198 : decode cX12_parse 198 = .ok (.getfield 387, 3) := by decide +kernel
theorem dX12_parse_201 : decode cX12_parse 201 = .ok (.invokevirtual 423, 3) := by decide +kernel
theorem dX12_parse_204 : decode cX12_parse 204 = .ok (.goto (-194), 3) := by decide +kernel
theorem dX12_parse_207 : decode cX12_parse 207 = .ok (.aload_n 0, 1) := by decide +kernel
theorem dX12_parse_208 : decode cX12_parse 208 = .ok (.aload_n 0, 1) := by decide +kernel
theorem dX12_parse_209 : decode cX12_parse 209 = .ok (.getfield 387, 3) := by decide +kernel
theorem dX12_parse_212 : decode cX12_parse 212 = .ok (.invokevirtual 426, 3) := by decide +kernel
theorem dX12_parse_215 : decode cX12_parse 215 = .ok (.goto (-205), 3) := by decide +kernel
theorem dX12_parse_218 : decode cX12_parse 218 = .ok (.aload_n 0, 1) := by decide +kernel
theorem dX12_parse_219 : decode cX12_parse 219 = .ok (.aload_n 0, 1) := by decide +kernel
theorem dX12_parse_220 : decode cX12_parse 220 = .ok (.getfield 387, 3) := by decide +kernel
theorem dX12_parse_223 : decode cX12_parse 223 = .ok (.invokevirtual 429, 3) := by decide +kernel
theorem dX12_parse_226 : decode cX12_parse 226 = .ok (.goto (-216), 3) := by decide +kernel
theorem dX12_parse_229 : decode cX12_parse 229 = .ok (.aload_n 0, 1) := by decide +kernel
theorem dX12_parse_230 : decode cX12_parse 230 = .ok (.aload_n 0, 1) := by decide +kernel
theorem dX12_parse_231 : decode cX12_parse 231 = .ok (.getfield 387, 3) := by decide +kernel
theorem dX12_parse_234 : decode cX12_parse 234 = .ok (.invokevirtual 432, 3) := by decide +kernel
theorem dX12_parse_237 : decode cX12_parse 237 = .ok (.goto (-227), 3) := by decide +kernel
theorem dX12_parse_240 : decode cX12_parse 240 = .ok (.aload_n 0, 1) := by decide +kernel
theorem dX12_parse_241 : decode cX12_parse 241 = .ok (.aload_n 0, 1) := by decide +kernel
theorem dX12_parse_242 : decode cX12_parse 242 = .ok (.getfield 387, 3) := by decide +kernel
theorem dX12_parse_245 : decode cX12_parse 245 = .ok (.invokevirtual 435, 3) := by decide +kernel
theorem dX12_parse_248 : decode cX12_parse 248 = .ok (.goto (-238), 3) := by decide +kernel
theorem dX12_parse_251 : decode cX12_parse 251 = .ok (.aload_n 0, 1) := by decide +kernel
theorem dX12_parse_252 : decode cX12_parse 252 = .ok (.aload_n 0, 1) := by decide +kernel
theorem dX12_parse_253 : decode cX12_parse 253 = .ok (.getfield 387, 3) := by decide +kernel
theorem dX12_parse_256 : decode cX12_parse 256 = .ok (.invokevirtual 438, 3) := by decide +kernel
theorem dX12_parse_259 : decode cX12_parse 259 = .ok (.goto (-249), 3) := by decide +kernel
theorem dX12_parse_262 : decode cX12_parse 262 = .ok (.aload_n 0, 1) := by decide +kernel
theorem dX12_parse_263 : decode cX12_parse 263 = .ok (.aload_n 0, 1) := by decide +kernel
theorem dX12_parse_264 : decode cX12_parse 264 = .ok (.getfield 387, 3) := by decide +kernel
theorem dX12_parse_267 : decode cX12_parse 267 = .ok (.invokevirtual 441, 3) := by decide +kernel
theorem dX12_parse_270 : decode cX12_parse 270 = .ok (.goto (-260), 3) := by decide +kernel
theorem dX12_parse_273 : decode cX12_parse 273 = .ok (.aload_n 0, 1) := by decide +kernel
theorem dX12_parse_274 : decode cX12_parse 274 = .ok (.aload_n 0, 1) := by decide +kernel
theorem dX12_parse_275 : decode cX12_parse 275 = .ok (.getfield 387, 3) := by decide +kernel
theorem dX12_parse_278 : decode cX12_parse 278 = .ok (.invokevirtual 444, 3) := by decide +kernel
theorem dX12_parse_281 : decode cX12_parse 281 = .ok (.goto (-271), 3) := by decide +kernel
theorem dX12_parse_284 : decode cX12_parse 284 = .ok (.return_, 1) := by decide +kernel
theorem dX12_thing_0 : decode cX12_thing 0 = .ok (.aload_n 0, 1) := by decide +kernel
theorem dX12_thing_1 : decode cX12_thing 1 = .ok (.getfield 174, 3) := by decide +kernel
theorem dX12_thing_4 : decode cX12_thing 4 = .ok (.iload_n 1, 1) := by decide +kernel
theorem dX12_thing_5 : decode cX12_thing 5 = .ok (.iaload, 1) := by decide +kernel
theorem dX12_thing_6 : decode cX12_thing 6 = .ok (.tableswitch 159 16 21 #[38, 71, 113, 121, 129, 144], 38) := by decide +kernel
theorem dX12_thing_44 : decode cX12_thing 44 = .ok (.aload_n 0, 1) := by decide +kernel
theorem dX12_thing_45 : decode cX12_thing 45 = .ok (.iload_n 1, 1) := by decide +kernel
end
section
theorem dX12_thing_46 : decode cX12_thing 46 = .ok (.bipush 17, 2) := by decide +kernel
theorem dX12_thing_48 : decode cX12_thing 48 = .ok (.aload_n 0, 1) := by decide +kernel
theorem dX12_thing_49 : decode cX12_thing 49 = .ok (.getfield 307, 3) := by decide +kernel
theorem dX12_thing_52 : decode cX12_thing 52 = .ok (.bipush 43, 2) := by decide +kernel
theorem dX12_thing_54 : decode cX12_thing 54 = .ok (.if_icmp .eq 12, 3) := by decide +kernel
theorem dX12_thing_57 : decode cX12_thing 57 = .ok (.aload_n 0, 1) := by decide +kernel
theorem dX12_thing_58 : decode cX12_thing 58 = .ok (.getfield 307, 3) := by decide +kernel
theorem dX12_thing_61 : decode cX12_thing 61 = .ok (.bipush 45, 2) := by decide +kernel
theorem dX12_thing_63 : decode cX12_thing 63 = .ok (.if_icmp .ne 7, 3) := by decide +kernel
theorem dX12_thing_66 : decode cX12_thing 66 = .ok (.iconst 1, 1) := by decide +kernel
theorem dX12_thing_67 : decode cX12_thing 67 = .ok (.goto 4, 3) := by decide +kernel
theorem dX12_thing_70 : decode cX12_thing 70 = .ok (.iconst 0, 1) := by decide +kernel
theorem dX12_thing_71 : decode cX12_thing 71 = .ok (.invokevirtual 447, 3) := by decide +kernel
theorem dX12_thing_74 : decode cX12_thing 74 = .ok (.goto 96, 3) := by decide +kernel
theorem dX12_thing_77 : decode cX12_thing 77 = .ok (.aload_n 0, 1) := by decide +kernel
theorem dX12_thing_78 : decode cX12_thing 78 = .ok (.iload_n 1, 1) := by decide +kernel
theorem dX12_thing_79 : decode cX12_thing 79 = .ok (.bipush 18, 2) := by decide +kernel
theorem dX12_thing_81 : decode cX12_thing 81 = .ok (.aload_n 0, 1) := by decide +kernel
theorem dX12_thing_82 : decode cX12_thing 82 = .ok (.getfield 307, 3) := by decide +kernel
theorem dX12_thing_85 : decode cX12_thing 85 = .ok (.bipush 42, 2) := by decide +kernel
theorem dX12_thing_87 : decode cX12_thing 87 = .ok (.if_icmp .eq 21, 3) := by decide +kernel
theorem dX12_thing_90 : decode cX12_thing 90 = .ok (.aload_n 0, 1) := by decide +kernel
theorem dX12_thing_91 : decode cX12_thing 91 = .ok (.getfield 307, 3) := by decide +kernel
theorem dX12_thing_94 : decode cX12_thing 94 = .ok (.bipush 47, 2) := by decide +kernel
theorem dX12_thing_96 : decode cX12_thing 96 = .ok (.if_icmp .eq 12, 3) := by decide +kernel
theorem dX12_thing_99 : decode cX12_thing 99 = .ok (.aload_n 0, 1) := by decide +kernel
theorem dX12_thing_100 : decode cX12_thing 100 = .ok (.getfield 307, 3) := by decide +kernel
theorem dX12_thing_103 : decode cX12_thing 103 = .ok (.bipush 37, 2) := by decide +kernel
theorem dX12_thing_105 : decode cX12_thing 105 = .ok (.if_icmp .ne 7, 3) := by decide +kernel
theorem dX12_thing_108 : decode cX12_thing 108 = .ok (.iconst 1, 1) := by decide +kernel
theorem dX12_thing_109 : decode cX12_thing 109 = .ok (.goto 4, 3) := by decide +kernel
theorem dX12_thing_112 : decode cX12_thing 112 = .ok (.iconst 0, 1) := by decide +kernel
theorem dX12_thing_113 : decode cX12_thing 113 = .ok (.invokevirtual 447, 3) := by decide +kernel
theorem dX12_thing_116 : decode cX12_thing 116 = .ok (.goto 54, 3) := by decide +kernel
theorem dX12_thing_119 : decode cX12_thing 119 = .ok (.aload_n 0, 1) := by decide +kernel
theorem dX12_thing_120 : decode cX12_thing 120 = .ok (.iload_n 1, 1) := by decide +kernel
theorem dX12_thing_121 : decode cX12_thing 121 = .ok (.invokevirtual 451, 3) := by decide +kernel
theorem dX12_thing_124 : decode cX12_thing 124 = .ok (.goto 46, 3) := by decide +kernel
theorem dX12_thing_127 : decode cX12_thing 127 = .ok (.aload_n 0, 1) := by decide +kernel
theorem dX12_thing_128 : decode cX12_thing 128 = .ok (.iload_n 1, 1) := by decide +kernel
theorem dX12_thing_129 : decode cX12_thing 129 = .ok (.invokevirtual 454, 3) := by decide +kernel
theorem dX12_thing_132 : decode cX12_thing 132 = .ok (.goto 38, 3) := by decide +kernel
theorem dX12_thing_135 : decode cX12_thing 135 = .ok (.aload_n 0, 1) := by decide +kernel
theorem dX12_thing_136 : decode cX12_thing 136 = .ok (.iload_n 1, 1) := by decide +kernel
theorem dX12_thing_137 : decode cX12_thing 137 = .ok (.bipush 21, 2) := by decide +kernel
theorem dX12_thing_139 : decode cX12_thing 139 = .ok (.sipush 305, 3) := by decide +kernel
theorem dX12_thing_142 : decode cX12_thing 142 = .ok (.bipush 11, 2) := by decide +kernel
theorem dX12_thing_144 : decode cX12_thing 144 = .ok (.invokevirtual 457, 3) := by decide +kernel
theorem dX12_thing_147 : decode cX12_thing 147 = .ok (.goto 23, 3) := by decide +kernel
theorem dX12_thing_150 : decode cX12_thing 150 = .ok (.aload_n 0, 1) := by decide +kernel
theorem dX12_thing_151 : decode cX12_thing 151 = .ok (.iload_n 1, 1) := by decide +kernel
theorem dX12_thing_152 : decode cX12_thing 152 = .ok (.bipush 22, 2) := by decide +kernel
theorem dX12_thing_154 : decode cX12_thing 154 = .ok (.sipush 304, 3) := by decide +kernel
theorem dX12_thing_157 : decode cX12_thing 157 = .ok (.bipush 12, 2) := by decide +kernel
theorem dX12_thing_159 : decode cX12_thing 159 = .ok (.invokevirtual 457, 3) := by decide +kernel
theorem dX12_thing_162 : decode cX12_thing 162 = .ok (.goto 8, 3) := by decide +kernel
theorem dX12_thing_165 : decode cX12_thing 165 = .ok (.aload_n 0, 1) := by decide +kernel
theorem dX12_thing_166 : decode cX12_thing 166 = .ok (.iload_n 1, 1) := by decide +kernel
theorem dX12_thing_167 : decode cX12_thing 167 = .ok (.invokevirtual 461, 3) := by decide +kernel
theorem dX12_thing_170 : decode cX12_thing 170 = .ok (.return_, 1) := by decide +kernel
theorem dX12_sums_0 : decode cX12_sums 0 = .ok (.aload_n 0, 1) := by decide +kernel
theorem dX12_sums_1 : decode cX12_sums 1 = .ok (.getfield 177, 3) := by decide +kernel
theorem dX12_sums_4 : decode cX12_sums 4 = .ok (.iload_n 1, 1) := by decide +kernel
theorem dX12_sums_5 : decode cX12_sums 5 = .ok (.iaload, 1) := by decide +kernel
theorem dX12_sums_6 : decode cX12_sums 6 = .ok (.ifCond .ne 10, 3) := by decide +kernel
theorem dX12_sums_9 : decode cX12_sums 9 = .ok (.aload_n 0, 1) := by decide +kernel
theorem dX12_sums_10 : decode cX12_sums 10 = .ok (.iconst 1, 1) := by decide +kernel
theorem dX12_sums_11 : decode cX12_sums 11 = .ok (.iload_n 2, 1) := by decide +kernel
theorem dX12_sums_12 : decode cX12_sums 12 = .ok (.invokevirtual 393, 3) := by decide +kernel
theorem dX12_sums_15 : decode cX12_sums 15 = .ok (.return_, 1) := by decide +kernel
theorem dX12_sums_16 : decode cX12_sums 16 = .ok (.aload_n 0, 1) := by decide +kernel
theorem dX12_sums_17 : decode cX12_sums 17 = .ok (.getfield 177, 3) := by decide +kernel
theorem dX12_sums_20 : decode cX12_sums 20 = .ok (.iload_n 1, 1) := by decide +kernel
theorem dX12_sums_21 : decode cX12_sums 21 = .ok (.iaload, 1) := by decide +kernel
theorem dX12_sums_22 : decode cX12_sums 22 = .ok (.iconst 2, 1) := by decide +kernel
theorem dX12_sums_23 : decode cX12_sums 23 = .ok (.if_icmp .ne 16, 3) := by decide +kernel
theorem dX12_sums_26 : decode cX12_sums 26 = .ok (.aload_n 0, 1) := by decide +kernel
theorem dX12_sums_27 : decode cX12_sums 27 = .ok (.bipush 8, 2) := by decide +kernel
theorem dX12_sums_29 : decode cX12_sums 29 = .ok (.aload_n 0, 1) := by decide +kernel
theorem dX12_sums_30 : decode cX12_sums 30 = .ok (.getfield 180, 3) := by decide +kernel
theorem dX12_sums_33 : decode cX12_sums 33 = .ok (.iload_n 1, 1) := by decide +kernel
theorem dX12_sums_34 : decode cX12_sums 34 = .ok (.iaload, 1) := by decide +kernel
theorem dX12_sums_35 : decode cX12_sums 35 = .ok (.invokevirtual 464, 3) := by decide +kernel
theorem dX12_sums_38 : decode cX12_sums 38 = .ok (.pop, 1) := by decide +kernel
theorem dX12_sums_39 : decode cX12_sums 39 = .ok (.iload_n 3, 1) := by decide +kernel
theorem dX12_sums_40 : decode cX12_sums 40 = .ok (.ifCond .eq 26, 3) := by decide +kernel
theorem dX12_sums_43 : decode cX12_sums 43 = .ok (.aload_n 0, 1) := by decide +kernel
theorem dX12_sums_44 : decode cX12_sums 44 = .ok (.getfield 180, 3) := by decide +kernel
theorem dX12_sums_47 : decode cX12_sums 47 = .ok (.iload_n 1, 1) := by decide +kernel
theorem dX12_sums_48 : decode cX12_sums 48 = .ok (.aload_n 0, 1) := by decide +kernel
theorem dX12_sums_49 : decode cX12_sums 49 = .ok (.getfield 307, 3) := by decide +kernel
theorem dX12_sums_52 : decode cX12_sums 52 = .ok (.iastore, 1) := by decide +kernel
theorem dX12_sums_53 : decode cX12_sums 53 = .ok (.aload_n 0, 1) := by decide +kernel
theorem dX12_sums_54 : decode cX12_sums 54 = .ok (.invokevirtual 345, 3) := by decide +kernel
theorem dX12_sums_57 : decode cX12_sums 57 = .ok (.aload_n 0, 1) := by decide +kernel
theorem dX12_sums_58 : decode cX12_sums 58 = .ok (.iconst 2, 1) := by decide +kernel
theorem dX12_sums_59 : decode cX12_sums 59 = .ok (.iload_n 2, 1) := by decide +kernel
theorem dX12_sums_60 : decode cX12_sums 60 = .ok (.invokevirtual 393, 3) := by decide +kernel
theorem dX12_sums_63 : decode cX12_sums 63 = .ok (.goto 13, 3) := by decide +kernel
theorem dX12_sums_66 : decode cX12_sums 66 = .ok (.aload_n 0, 1) := by decide +kernel
theorem dX12_sums_67 : decode cX12_sums 67 = .ok (.dup, 1) := by decide +kernel
theorem dX12_sums_68 : decode cX12_sums 68 = .ok (.getfield 387, 3) := by decide +kernel
theorem dX12_sums_71 : decode cX12_sums 71 = .ok (.iconst 1, 1) := by decide +kernel
theorem dX12_sums_72 : decode cX12_sums 72 = .ok (.isub, 1) := by decide +kernel
theorem dX12_sums_73 : decode cX12_sums 73 = .ok (.putfield 387, 3) := by decide +kernel
theorem dX12_sums_76 : decode cX12_sums 76 = .ok (.return_, 1) := by decide +kernel
theorem dX12_both_0 : decode cX12_both 0 = .ok (.aload_n 0, 1) := by decide +kernel
theorem dX12_both_1 : decode cX12_both 1 = .ok (.getfield 177, 3) := by decide +kernel
theorem dX12_both_4 : decode cX12_both 4 = .ok (.iload_n 1, 1) := by decide +kernel
theorem dX12_both_5 : decode cX12_both 5 = .ok (.iaload, 1) := by decide +kernel
theorem dX12_both_6 : decode cX12_both 6 = .ok (.ifCond .ne 10, 3) := by decide +kernel
theorem dX12_both_9 : decode cX12_both 9 = .ok (.aload_n 0, 1) := by decide +kernel
theorem dX12_both_10 : decode cX12_both 10 = .ok (.iconst 1, 1) := by decide +kernel
theorem dX12_both_11 : decode cX12_both 11 = .ok (.iload_n 2, 1) := by decide +kernel
theorem dX12_both_12 : decode cX12_both 12 = .ok (.invokevirtual 393, 3) := by decide +kernel
theorem dX12_both_15 : decode cX12_both 15 = .ok (.return_, 1) := by decide +kernel
theorem dX12_both_16 : decode cX12_both 16 = .ok (.aload_n 0, 1) := by decide +kernel
theorem dX12_both_17 : decode cX12_both 17 = .ok (.getfield 177, 3) := by decide +kernel
theorem dX12_both_20 : decode cX12_both 20 = .ok (.iload_n 1, 1) := by decide +kernel
theorem dX12_both_21 : decode cX12_both 21 = .ok (.iaload, 1) := by decide +kernel
theorem dX12_both_22 : decode cX12_both 22 = .ok (.iconst 2, 1) := by decide +kernel
theorem dX12_both_23 : decode cX12_both 23 = .ok (.if_icmp .ne 18, 3) := by decide +kernel
theorem dX12_both_26 : decode cX12_both 26 = .ok (.aload_n 0, 1) := by decide +kernel
theorem dX12_both_27 : decode cX12_both 27 = .ok (.getfield 87, 3) := by decide +kernel
theorem dX12_both_30 : decode cX12_both 30 = .ok (.aload_n 0, 1) := by decide +kernel
theorem dX12_both_31 : decode cX12_both 31 = .ok (.getfield 180, 3) := by decide +kernel
theorem dX12_both_34 : decode cX12_both 34 = .ok (.iload_n 1, 1) := by decide +kernel
theorem dX12_both_35 : decode cX12_both 35 = .ok (.iaload, 1) := by decide +kernel
theorem dX12_both_36 : decode cX12_both 36 = .ok (.aload_n 0, 1) := by decide +kernel
theorem dX12_both_37 : decode cX12_both 37 = .ok (.getfield 358, 3) := by decide +kernel
theorem dX12_both_40 : decode cX12_both 40 = .ok (.iastore, 1) := by decide +kernel
theorem dX12_both_41 : decode cX12_both 41 = .ok (.aload_n 0, 1) := by decide +kernel
theorem dX12_both_42 : decode cX12_both 42 = .ok (.getfield 307, 3) := by decide +kernel
theorem dX12_both_45 : decode cX12_both 45 = .ok (.iload_n 3, 1) := by decide +kernel
theorem dX12_both_46 : decode cX12_both 46 = .ok (.if_icmp .ne 29, 3) := by decide +kernel
theorem dX12_both_49 : decode cX12_both 49 = .ok (.aload_n 0, 1) := by decide +kernel
theorem dX12_both_50 : decode cX12_both 50 = .ok (.invokevirtual 345, 3) := by decide +kernel
theorem dX12_both_53 : decode cX12_both 53 = .ok (.aload_n 0, 1) := by decide +kernel
theorem dX12_both_54 : decode cX12_both 54 = .ok (.getfield 180, 3) := by decide +kernel
theorem dX12_both_57 : decode cX12_both 57 = .ok (.iload_n 1, 1) := by decide +kernel
theorem dX12_both_58 : decode cX12_both 58 = .ok (.aload_n 0, 1) := by decide +kernel
theorem dX12_both_59 : decode cX12_both 59 = .ok (.iload 4, 2) := by decide +kernel
theorem dX12_both_61 : decode cX12_both 61 = .ok (.iconst 0, 1) := by decide +kernel
theorem dX12_both_62 : decode cX12_both 62 = .ok (.invokevirtual 464, 3) := by decide +kernel
theorem dX12_both_65 : decode cX12_both 65 = .ok (.iastore, 1) := by decide +kernel
theorem dX12_both_66 : decode cX12_both 66 = .ok (.aload_n 0, 1) := by decide +kernel
theorem dX12_both_67 : decode cX12_both 67 = .ok (.iconst 2, 1) := by decide +kernel
theorem dX12_both_68 : decode cX12_both 68 = .ok (.iload_n 2, 1) := by decide +kernel
theorem dX12_both_69 : decode cX12_both 69 = .ok (.invokevirtual 393, 3) := by decide +kernel
theorem dX12_both_72 : decode cX12_both 72 = .ok (.goto 13, 3) := by decide +kernel
theorem dX12_both_75 : decode cX12_both 75 = .ok (.aload_n 0, 1) := by decide +kernel
theorem dX12_both_76 : decode cX12_both 76 = .ok (.dup, 1) := by decide +kernel
theorem dX12_both_77 : decode cX12_both 77 = .ok (.getfield 387, 3) := by decide +kernel
theorem dX12_both_80 : decode cX12_both 80 = .ok (.iconst 1, 1) := by decide +kernel
theorem dX12_both_81 : decode cX12_both 81 = .ok (.isub, 1) := by decide +kernel
theorem dX12_both_82 : decode cX12_both 82 = .ok (.putfield 387, 3) := by decide +kernel
theorem dX12_both_85 : decode cX12_both 85 = .ok (.return_, 1) := by decide +kernel
theorem dX12_factor_0 : decode cX12_factor 0 = .ok (.aload_n 0, 1) := by decide +kernel
theorem dX12_factor_1 : decode cX12_factor 1 = .ok (.getfield 177, 3) := by decide +kernel
theorem dX12_factor_4 : decode cX12_factor 4 = .ok (.iload_n 1, 1) := by decide +kernel
theorem dX12_factor_5 : decode cX12_factor 5 = .ok (.iaload, 1) := by decide +kernel
theorem dX12_factor_6 : decode cX12_factor 6 = .ok (.iconst 1, 1) := by decide +kernel
theorem dX12_factor_7 : decode cX12_factor 7 = .ok (.if_icmp .ne 32, 3) := by decide +kernel
theorem dX12_factor_10 : decode cX12_factor 10 = .ok (.aload_n 0, 1) := by decide +kernel
theorem dX12_factor_11 : decode cX12_factor 11 = .ok (.dup, 1) := by decide +kernel
theorem dX12_factor_12 : decode cX12_factor 12 = .ok (.getfield 348, 3) := by decide +kernel
theorem dX12_factor_15 : decode cX12_factor 15 = .ok (.iconst 1, 1) := by decide +kernel
theorem dX12_factor_16 : decode cX12_factor 16 = .ok (.isub, 1) := by decide +kernel
theorem dX12_factor_17 : decode cX12_factor 17 = .ok (.putfield 348, 3) := by decide +kernel
theorem dX12_factor_20 : decode cX12_factor 20 = .ok (.aload_n 0, 1) := by decide +kernel
theorem dX12_factor_21 : decode cX12_factor 21 = .ok (.bipush 7, 2) := by decide +kernel
theorem dX12_factor_23 : decode cX12_factor 23 = .ok (.iconst 0, 1) := by decide +kernel
theorem dX12_factor_24 : decode cX12_factor 24 = .ok (.invokevirtual 464, 3) := by decide +kernel
theorem dX12_factor_27 : decode cX12_factor 27 = .ok (.pop, 1) := by decide +kernel
theorem dX12_factor_28 : decode cX12_factor 28 = .ok (.aload_n 0, 1) := by decide +kernel
theorem dX12_factor_29 : decode cX12_factor 29 = .ok (.dup, 1) := by decide +kernel
theorem dX12_factor_30 : decode cX12_factor 30 = .ok (.getfield 387, 3) := by decide +kernel
theorem dX12_factor_33 : decode cX12_factor 33 = .ok (.iconst 1, 1) := by decide +kernel
theorem dX12_factor_34 : decode cX12_factor 34 = .ok (.isub, 1) := by decide +kernel
theorem dX12_factor_35 : decode cX12_factor 35 = .ok (.putfield 387, 3) := by decide +kernel
theorem dX12_factor_38 : decode cX12_factor 38 = .ok (.return_, 1) := by decide +kernel
theorem dX12_factor_39 : decode cX12_factor 39 = .ok (.aload_n 0, 1) := by decide +kernel
theorem dX12_factor_40 : decode cX12_factor 40 = .ok (.getfield 177, 3) := by decide +kernel
theorem dX12_factor_43 : decode cX12_factor 43 = .ok (.iload_n 1, 1) := by decide +kernel
theorem dX12_factor_44 : decode cX12_factor 44 = .ok (.iaload, 1) := by decide +kernel
theorem dX12_factor_45 : decode cX12_factor 45 = .ok (.iconst 2, 1) := by decide +kernel
theorem dX12_factor_46 : decode cX12_factor 46 = .ok (.if_icmp .ne 21, 3) := by decide +kernel
theorem dX12_factor_49 : decode cX12_factor 49 = .ok (.aload_n 0, 1) := by decide +kernel
theorem dX12_factor_50 : decode cX12_factor 50 = .ok (.bipush 41, 2) := by decide +kernel
theorem dX12_factor_52 : decode cX12_factor 52 = .ok (.invokevirtual 468, 3) := by decide +kernel
theorem dX12_factor_55 : decode cX12_factor 55 = .ok (.pop, 1) := by decide +kernel
theorem dX12_factor_56 : decode cX12_factor 56 = .ok (.aload_n 0, 1) := by decide +kernel
theorem dX12_factor_57 : decode cX12_factor 57 = .ok (.dup, 1) := by decide +kernel
theorem dX12_factor_58 : decode cX12_factor 58 = .ok (.getfield 387, 3) := by decide +kernel
theorem dX12_factor_61 : decode cX12_factor 61 = .ok (.iconst 1, 1) := by decide +kernel
theorem dX12_factor_62 : decode cX12_factor 62 = .ok (.isub, 1) := by decide +kernel
theorem dX12_factor_63 : decode cX12_factor 63 = .ok (.putfield 387, 3) := by decide +kernel
theorem dX12_factor_66 : decode cX12_factor 66 = .ok (.return_, 1) := by decide +kernel
theorem dX12_factor_67 : decode cX12_factor 67 = .ok (.aload_n 0, 1) := by decide +kernel
theorem dX12_factor_68 : decode cX12_factor 68 = .ok (.aload_n 0, 1) := by decide +kernel
theorem dX12_factor_69 : decode cX12_factor 69 = .ok (.getfield 307, 3) := by decide +kernel
theorem dX12_factor_72 : decode cX12_factor 72 = .ok (.iconst 1, 1) := by decide +kernel
theorem dX12_factor_73 : decode cX12_factor 73 = .ok (.if_icmp .eq 39, 3) := by decide +kernel
theorem dX12_factor_76 : decode cX12_factor 76 = .ok (.aload_n 0, 1) := by decide +kernel
theorem dX12_factor_77 : decode cX12_factor 77 = .ok (.getfield 307, 3) := by decide +kernel
theorem dX12_factor_80 : decode cX12_factor 80 = .ok (.iconst 2, 1) := by decide +kernel
theorem dX12_factor_81 : decode cX12_factor 81 = .ok (.if_icmp .eq 31, 3) := by decide +kernel
theorem dX12_factor_84 : decode cX12_factor 84 = .ok (.aload_n 0, 1) := by decide +kernel
theorem dX12_factor_85 : decode cX12_factor 85 = .ok (.getfield 307, 3) := by decide +kernel
theorem dX12_factor_88 : decode cX12_factor 88 = .ok (.bipush 45, 2) := by decide +kernel
theorem dX12_factor_90 : decode cX12_factor 90 = .ok (.if_icmp .eq 22, 3) := by decide +kernel
theorem dX12_factor_93 : decode cX12_factor 93 = .ok (.aload_n 0, 1) := by decide +kernel
theorem dX12_factor_94 : decode cX12_factor 94 = .ok (.getfield 307, 3) := by decide +kernel
theorem dX12_factor_97 : decode cX12_factor 97 = .ok (.bipush 40, 2) := by decide +kernel
theorem dX12_factor_99 : decode cX12_factor 99 = .ok (.if_icmp .eq 13, 3) := by decide +kernel
theorem dX12_factor_102 : decode cX12_factor 102 = .ok (.aload_n 0, 1) := by decide +kernel
theorem dX12_factor_103 : decode cX12_factor 103 = .ok (.getfield 307, 3) := by decide +kernel
theorem dX12_factor_106 : decode cX12_factor 106 = .ok (.sipush 428, 3) := by decide +kernel
theorem dX12_factor_109 : decode cX12_factor 109 = .ok (.if_icmp .ne 7, 3) := by decide +kernel
theorem dX12_factor_112 : decode cX12_factor 112 = .ok (.iconst 1, 1) := by decide +kernel
theorem dX12_factor_113 : decode cX12_factor 113 = .ok (.goto 4, 3) := by decide +kernel
theorem dX12_factor_116 : decode cX12_factor 116 = .ok (.iconst 0, 1) := by decide +kernel
theorem dX12_factor_117 : decode cX12_factor 117 = .ok (.invokevirtual 341, 3) := by decide +kernel
theorem dX12_factor_120 : decode cX12_factor 120 = .ok (.ifCond .ne 4, 3) := by decide +kernel
theorem dX12_factor_123 : decode cX12_factor 123 = .ok (.return_, 1) := by decide +kernel
theorem dX12_factor_124 : decode cX12_factor 124 = .ok (.aload_n 0, 1) := by decide +kernel
theorem dX12_factor_125 : decode cX12_factor 125 = .ok (.getfield 307, 3) := by decide +kernel
theorem dX12_factor_128 : decode cX12_factor 128 = .ok (.iconst 1, 1) := by decide +kernel
theorem dX12_factor_129 : decode cX12_factor 129 = .ok (.if_icmp .ne 30, 3) := by decide +kernel
theorem dX12_factor_132 : decode cX12_factor 132 = .ok (.aload_n 0, 1) := by decide +kernel
theorem dX12_factor_133 : decode cX12_factor 133 = .ok (.iconst 2, 1) := by decide +kernel
theorem dX12_factor_134 : decode cX12_factor 134 = .ok (.aload_n 0, 1) := by decide +kernel
theorem dX12_factor_135 : decode cX12_factor 135 = .ok (.getfield 314, 3) := by decide +kernel
theorem dX12_factor_138 : decode cX12_factor 138 = .ok (.invokevirtual 464, 3) := by decide +kernel
theorem dX12_factor_141 : decode cX12_factor 141 = .ok (.pop, 1) := by decide +kernel
theorem dX12_factor_142 : decode cX12_factor 142 = .ok (.aload_n 0, 1) := by decide +kernel
theorem dX12_factor_143 : decode cX12_factor 143 = .ok (.invokevirtual 345, 3) := by decide +kernel
theorem dX12_factor_146 : decode cX12_factor 146 = .ok (.aload_n 0, 1) := by decide +kernel
theorem dX12_factor_147 : decode cX12_factor 147 = .ok (.dup, 1) := by decide +kernel
theorem dX12_factor_148 : decode cX12_factor 148 = .ok (.getfield 387, 3) := by decide +kernel
theorem dX12_factor_151 : decode cX12_factor 151 = .ok (.iconst 1, 1) := by decide +kernel
theorem dX12_factor_152 : decode cX12_factor 152 = .ok (.isub, 1) := by decide +kernel
theorem dX12_factor_153 : decode cX12_factor 153 = .ok (.putfield 387, 3) := by decide +kernel
theorem dX12_factor_156 : decode cX12_factor 156 = .ok (.goto 140, 3) := by decide +kernel
theorem dX12_factor_159 : decode cX12_factor 159 = .ok (.aload_n 0, 1) := by decide +kernel
theorem dX12_factor_160 : decode cX12_factor 160 = .ok (.getfield 307, 3) := by decide +kernel
theorem dX12_factor_163 : decode cX12_factor 163 = .ok (.iconst 2, 1) := by decide +kernel
theorem dX12_factor_164 : decode cX12_factor 164 = .ok (.if_icmp .ne 68, 3) := by decide +kernel
theorem dX12_factor_167 : decode cX12_factor 167 = .ok (.aload_n 0, 1) := by decide +kernel
theorem dX12_factor_168 : decode cX12_factor 168 = .ok (.aload_n 0, 1) := by decide +kernel
theorem dX12_factor_169 : decode cX12_factor 169 = .ok (.getfield 327, 3) := by decide +kernel
theorem dX12_factor_172 : decode cX12_factor 172 = .ok (.invokevirtual 471, 3) := by decide +kernel
theorem dX12_factor_175 : decode cX12_factor 175 = .ok (.istore_n 2, 1) := by decide +kernel
theorem dX12_factor_176 : decode cX12_factor 176 = .ok (.iload_n 2, 1) := by decide +kernel
theorem dX12_factor_177 : decode cX12_factor 177 = .ok (.ifCond .ge 13, 3) := by decide +kernel
theorem dX12_factor_180 : decode cX12_factor 180 = .ok (.aload_n 0, 1) := by decide +kernel
theorem dX12_factor_181 : decode cX12_factor 181 = .ok (.iconst 3, 1) := by decide +kernel
theorem dX12_factor_182 : decode cX12_factor 182 = .ok (.aload_n 0, 1) := by decide +kernel
theorem dX12_factor_183 : decode cX12_factor 183 = .ok (.getfield 304, 3) := by decide +kernel
theorem dX12_factor_186 : decode cX12_factor 186 = .ok (.invokevirtual 337, 3) := by decide +kernel
theorem dX12_factor_189 : decode cX12_factor 189 = .ok (.return_, 1) := by decide +kernel
theorem dX12_factor_190 : decode cX12_factor 190 = .ok (.aload_n 0, 1) := by decide +kernel
theorem dX12_factor_191 : decode cX12_factor 191 = .ok (.aload_n 0, 1) := by decide +kernel
theorem dX12_factor_192 : decode cX12_factor 192 = .ok (.getfield 132, 3) := by decide +kernel
theorem dX12_factor_195 : decode cX12_factor 195 = .ok (.iload_n 2, 1) := by decide +kernel
theorem dX12_factor_196 : decode cX12_factor 196 = .ok (.baload, 1) := by decide +kernel
theorem dX12_factor_197 : decode cX12_factor 197 = .ok (.ifCond .eq 7, 3) := by decide +kernel
theorem dX12_factor_200 : decode cX12_factor 200 = .ok (.iconst 4, 1) := by decide +kernel
theorem dX12_factor_201 : decode cX12_factor 201 = .ok (.goto 4, 3) := by decide +kernel
theorem dX12_factor_204 : decode cX12_factor 204 = .ok (.iconst 3, 1) := by decide +kernel
theorem dX12_factor_205 : decode cX12_factor 205 = .ok (.aload_n 0, 1) := by decide +kernel
theorem dX12_factor_206 : decode cX12_factor 206 = .ok (.getfield 129, 3) := by decide +kernel
theorem dX12_factor_209 : decode cX12_factor 209 = .ok (.iload_n 2, 1) := by decide +kernel
theorem dX12_factor_210 : decode cX12_factor 210 = .ok (.iaload, 1) := by decide +kernel
theorem dX12_factor_211 : decode cX12_factor 211 = .ok (.invokevirtual 464, 3) := by decide +kernel
theorem dX12_factor_214 : decode cX12_factor 214 = .ok (.pop, 1) := by decide +kernel
theorem dX12_factor_215 : decode cX12_factor 215 = .ok (.aload_n 0, 1) := by decide +kernel
theorem dX12_factor_216 : decode cX12_factor 216 = .ok (.invokevirtual 345, 3) := by decide +kernel
theorem dX12_factor_219 : decode cX12_factor 219 = .ok (.aload_n 0, 1) := by decide +kernel
theorem dX12_factor_220 : decode cX12_factor 220 = .ok (.dup, 1) := by decide +kernel
theorem dX12_factor_221 : decode cX12_factor 221 = .ok (.getfield 387, 3) := by decide +kernel
theorem dX12_factor_224 : decode cX12_factor 224 = .ok (.iconst 1, 1) := by decide +kernel
theorem dX12_factor_225 : decode cX12_factor 225 = .ok (.isub, 1) := by decide +kernel
theorem dX12_factor_226 : decode cX12_factor 226 = .ok (.putfield 387, 3) := by decide +kernel
theorem dX12_factor_229 : decode cX12_factor 229 = .ok (.goto 67, 3) := by decide +kernel
theorem dX12_factor_232 : decode cX12_factor 232 = .ok (.aload_n 0, 1) := by decide +kernel
theorem dX12_factor_233 : decode cX12_factor 233 = .ok (.getfield 307, 3) := by decide +kernel
theorem dX12_factor_236 : decode cX12_factor 236 = .ok (.bipush 45, 2) := by decide +kernel
theorem dX12_factor_238 : decode cX12_factor 238 = .ok (.if_icmp .ne 24, 3) := by decide +kernel
theorem dX12_factor_241 : decode cX12_factor 241 = .ok (.aload_n 0, 1) := by decide +kernel
theorem dX12_factor_242 : decode cX12_factor 242 = .ok (.invokevirtual 351, 3) := by decide +kernel
theorem dX12_factor_245 : decode cX12_factor 245 = .ok (.ifCond .eq 51, 3) := by decide +kernel
theorem dX12_factor_248 : decode cX12_factor 248 = .ok (.aload_n 0, 1) := by decide +kernel
theorem dX12_factor_249 : decode cX12_factor 249 = .ok (.invokevirtual 345, 3) := by decide +kernel
theorem dX12_factor_252 : decode cX12_factor 252 = .ok (.aload_n 0, 1) := by decide +kernel
theorem dX12_factor_253 : decode cX12_factor 253 = .ok (.iconst 1, 1) := by decide +kernel
theorem dX12_factor_254 : decode cX12_factor 254 = .ok (.bipush 18, 2) := by decide +kernel
theorem dX12_factor_256 : decode cX12_factor 256 = .ok (.invokevirtual 393, 3) := by decide +kernel
theorem dX12_factor_259 : decode cX12_factor 259 = .ok (.goto 37, 3) := by decide +kernel
theorem dX12_factor_262 : decode cX12_factor 262 = .ok (.aload_n 0, 1) := by decide +kernel
theorem dX12_factor_263 : decode cX12_factor 263 = .ok (.getfield 307, 3) := by decide +kernel
theorem dX12_factor_266 : decode cX12_factor 266 = .ok (.bipush 40, 2) := by decide +kernel
theorem dX12_factor_268 : decode cX12_factor 268 = .ok (.if_icmp .ne 20, 3) := by decide +kernel
theorem dX12_factor_271 : decode cX12_factor 271 = .ok (.aload_n 0, 1) := by decide +kernel
theorem dX12_factor_272 : decode cX12_factor 272 = .ok (.bipush 40, 2) := by decide +kernel
theorem dX12_factor_274 : decode cX12_factor 274 = .ok (.invokevirtual 475, 3) := by decide +kernel
theorem dX12_factor_277 : decode cX12_factor 277 = .ok (.pop, 1) := by decide +kernel
theorem dX12_factor_278 : decode cX12_factor 278 = .ok (.aload_n 0, 1) := by decide +kernel
theorem dX12_factor_279 : decode cX12_factor 279 = .ok (.iconst 2, 1) := by decide +kernel
theorem dX12_factor_280 : decode cX12_factor 280 = .ok (.bipush 16, 2) := by decide +kernel
theorem dX12_factor_282 : decode cX12_factor 282 = .ok (.invokevirtual 393, 3) := by decide +kernel
theorem dX12_factor_285 : decode cX12_factor 285 = .ok (.goto 11, 3) := by decide +kernel
theorem dX12_factor_288 : decode cX12_factor 288 = .ok (.aload_n 0, 1) := by decide +kernel
theorem dX12_factor_289 : decode cX12_factor 289 = .ok (.getfield 174, 3) := by decide +kernel
theorem dX12_factor_292 : decode cX12_factor 292 = .ok (.iload_n 1, 1) := by decide +kernel
theorem dX12_factor_293 : decode cX12_factor 293 = .ok (.bipush 19, 2) := by decide +kernel
theorem dX12_factor_295 : decode cX12_factor 295 = .ok (.iastore, 1) := by decide +kernel
theorem dX12_factor_296 : decode cX12_factor 296 = .ok (.return_, 1) := by decide +kernel
theorem dX12_one_0 : decode cX12_one 0 = .ok (.aload_n 0, 1) := by decide +kernel
theorem dX12_one_1 : decode cX12_one 1 = .ok (.getfield 177, 3) := by decide +kernel
theorem dX12_one_4 : decode cX12_one 4 = .ok (.iload_n 1, 1) := by decide +kernel
theorem dX12_one_5 : decode cX12_one 5 = .ok (.iaload, 1) := by decide +kernel
theorem dX12_one_6 : decode cX12_one 6 = .ok (.tableswitch 299 0 3 #[30, 154, 185, 205], 30) := by decide +kernel
theorem dX12_one_36 : decode cX12_one 36 = .ok (.aload_n 0, 1) := by decide +kernel
theorem dX12_one_37 : decode cX12_one 37 = .ok (.getfield 307, 3) := by decide +kernel
theorem dX12_one_40 : decode cX12_one 40 = .ok (.bipush 33, 2) := by decide +kernel
theorem dX12_one_42 : decode cX12_one 42 = .ok (.if_icmp .ne 24, 3) := by decide +kernel
theorem dX12_one_45 : decode cX12_one 45 = .ok (.aload_n 0, 1) := by decide +kernel
theorem dX12_one_46 : decode cX12_one 46 = .ok (.invokevirtual 351, 3) := by decide +kernel
theorem dX12_one_49 : decode cX12_one 49 = .ok (.ifCond .eq 279, 3) := by decide +kernel
theorem dX12_one_52 : decode cX12_one 52 = .ok (.aload_n 0, 1) := by decide +kernel
theorem dX12_one_53 : decode cX12_one 53 = .ok (.invokevirtual 345, 3) := by decide +kernel
theorem dX12_one_56 : decode cX12_one 56 = .ok (.aload_n 0, 1) := by decide +kernel
theorem dX12_one_57 : decode cX12_one 57 = .ok (.iconst 1, 1) := by decide +kernel
theorem dX12_one_58 : decode cX12_one 58 = .ok (.bipush 22, 2) := by decide +kernel
theorem dX12_one_60 : decode cX12_one 60 = .ok (.invokevirtual 393, 3) := by decide +kernel
theorem dX12_one_63 : decode cX12_one 63 = .ok (.goto 265, 3) := by decide +kernel
theorem dX12_one_66 : decode cX12_one 66 = .ok (.aload_n 0, 1) := by decide +kernel
theorem dX12_one_67 : decode cX12_one 67 = .ok (.getfield 307, 3) := by decide +kernel
theorem dX12_one_70 : decode cX12_one 70 = .ok (.bipush 91, 2) := by decide +kernel
theorem dX12_one_72 : decode cX12_one 72 = .ok (.if_icmp .ne 20, 3) := by decide +kernel
theorem dX12_one_75 : decode cX12_one 75 = .ok (.aload_n 0, 1) := by decide +kernel
theorem dX12_one_76 : decode cX12_one 76 = .ok (.bipush 91, 2) := by decide +kernel
theorem dX12_one_78 : decode cX12_one 78 = .ok (.invokevirtual 475, 3) := by decide +kernel
theorem dX12_one_81 : decode cX12_one 81 = .ok (.pop, 1) := by decide +kernel
theorem dX12_one_82 : decode cX12_one 82 = .ok (.aload_n 0, 1) := by decide +kernel
theorem dX12_one_83 : decode cX12_one 83 = .ok (.iconst 2, 1) := by decide +kernel
theorem dX12_one_84 : decode cX12_one 84 = .ok (.bipush 20, 2) := by decide +kernel
theorem dX12_one_86 : decode cX12_one 86 = .ok (.invokevirtual 393, 3) := by decide +kernel
theorem dX12_one_89 : decode cX12_one 89 = .ok (.goto 239, 3) := by decide +kernel
theorem dX12_one_92 : decode cX12_one 92 = .ok (.aload_n 0, 1) := by decide +kernel
theorem dX12_one_93 : decode cX12_one 93 = .ok (.getfield 307, 3) := by decide +kernel
theorem dX12_one_96 : decode cX12_one 96 = .ok (.sipush 432, 3) := by decide +kernel
theorem dX12_one_99 : decode cX12_one 99 = .ok (.if_icmp .eq 13, 3) := by decide +kernel
theorem dX12_one_102 : decode cX12_one 102 = .ok (.aload_n 0, 1) := by decide +kernel
theorem dX12_one_103 : decode cX12_one 103 = .ok (.getfield 307, 3) := by decide +kernel
theorem dX12_one_106 : decode cX12_one 106 = .ok (.sipush 433, 3) := by decide +kernel
theorem dX12_one_109 : decode cX12_one 109 = .ok (.if_icmp .ne 41, 3) := by decide +kernel
theorem dX12_one_112 : decode cX12_one 112 = .ok (.aload_n 0, 1) := by decide +kernel
theorem dX12_one_113 : decode cX12_one 113 = .ok (.iconst 2, 1) := by decide +kernel
theorem dX12_one_114 : decode cX12_one 114 = .ok (.aload_n 0, 1) := by decide +kernel
theorem dX12_one_115 : decode cX12_one 115 = .ok (.getfield 307, 3) := by decide +kernel
theorem dX12_one_118 : decode cX12_one 118 = .ok (.sipush 432, 3) := by decide +kernel
theorem dX12_one_121 : decode cX12_one 121 = .ok (.if_icmp .ne 7, 3) := by decide +kernel
theorem dX12_one_124 : decode cX12_one 124 = .ok (.iconst 1, 1) := by decide +kernel
theorem dX12_one_125 : decode cX12_one 125 = .ok (.goto 4, 3) := by decide +kernel
theorem dX12_one_128 : decode cX12_one 128 = .ok (.iconst 0, 1) := by decide +kernel
theorem dX12_one_129 : decode cX12_one 129 = .ok (.invokevirtual 464, 3) := by decide +kernel
theorem dX12_one_132 : decode cX12_one 132 = .ok (.pop, 1) := by decide +kernel
theorem dX12_one_133 : decode cX12_one 133 = .ok (.aload_n 0, 1) := by decide +kernel
theorem dX12_one_134 : decode cX12_one 134 = .ok (.invokevirtual 345, 3) := by decide +kernel
theorem dX12_one_137 : decode cX12_one 137 = .ok (.aload_n 0, 1) := by decide +kernel
theorem dX12_one_138 : decode cX12_one 138 = .ok (.dup, 1) := by decide +kernel
theorem dX12_one_139 : decode cX12_one 139 = .ok (.getfield 387, 3) := by decide +kernel
theorem dX12_one_142 : decode cX12_one 142 = .ok (.iconst 1, 1) := by decide +kernel
theorem dX12_one_143 : decode cX12_one 143 = .ok (.isub, 1) := by decide +kernel
theorem dX12_one_144 : decode cX12_one 144 = .ok (.putfield 387, 3) := by decide +kernel
theorem dX12_one_147 : decode cX12_one 147 = .ok (.goto 181, 3) := by decide +kernel
theorem dX12_one_150 : decode cX12_one 150 = .ok (.aload_n 0, 1) := by decide +kernel
theorem dX12_one_151 : decode cX12_one 151 = .ok (.iconst 3, 1) := by decide +kernel
theorem dX12_one_152 : decode cX12_one 152 = .ok (.bipush 16, 2) := by decide +kernel
theorem dX12_one_154 : decode cX12_one 154 = .ok (.invokevirtual 393, 3) := by decide +kernel
theorem dX12_one_157 : decode cX12_one 157 = .ok (.goto 171, 3) := by decide +kernel
theorem dX12_one_160 : decode cX12_one 160 = .ok (.aload_n 0, 1) := by decide +kernel
theorem dX12_one_161 : decode cX12_one 161 = .ok (.dup, 1) := by decide +kernel
theorem dX12_one_162 : decode cX12_one 162 = .ok (.getfield 348, 3) := by decide +kernel
theorem dX12_one_165 : decode cX12_one 165 = .ok (.iconst 1, 1) := by decide +kernel
theorem dX12_one_166 : decode cX12_one 166 = .ok (.isub, 1) := by decide +kernel
theorem dX12_one_167 : decode cX12_one 167 = .ok (.putfield 348, 3) := by decide +kernel
theorem dX12_one_170 : decode cX12_one 170 = .ok (.aload_n 0, 1) := by decide +kernel
theorem dX12_one_171 : decode cX12_one 171 = .ok (.bipush 10, 2) := by decide +kernel
theorem dX12_one_173 : decode cX12_one 173 = .ok (.iconst 0, 1) := by decide +kernel
theorem dX12_one_174 : decode cX12_one 174 = .ok (.invokevirtual 464, 3) := by decide +kernel
theorem dX12_one_177 : decode cX12_one 177 = .ok (.pop, 1) := by decide +kernel
theorem dX12_one_178 : decode cX12_one 178 = .ok (.aload_n 0, 1) := by decide +kernel
theorem dX12_one_179 : decode cX12_one 179 = .ok (.dup, 1) := by decide +kernel
theorem dX12_one_180 : decode cX12_one 180 = .ok (.getfield 387, 3) := by decide +kernel
theorem dX12_one_183 : decode cX12_one 183 = .ok (.iconst 1, 1) := by decide +kernel
theorem dX12_one_184 : decode cX12_one 184 = .ok (.isub, 1) := by decide +kernel
theorem dX12_one_185 : decode cX12_one 185 = .ok (.putfield 387, 3) := by decide +kernel
theorem dX12_one_188 : decode cX12_one 188 = .ok (.goto 140, 3) := by decide +kernel
theorem dX12_one_191 : decode cX12_one 191 = .ok (.aload_n 0, 1) := by decide +kernel
theorem dX12_one_192 : decode cX12_one 192 = .ok (.bipush 93, 2) := by decide +kernel
theorem dX12_one_194 : decode cX12_one 194 = .ok (.invokevirtual 468, 3) := by decide +kernel
theorem dX12_one_197 : decode cX12_one 197 = .ok (.pop, 1) := by decide +kernel
theorem dX12_one_198 : decode cX12_one 198 = .ok (.aload_n 0, 1) := by decide +kernel
theorem dX12_one_199 : decode cX12_one 199 = .ok (.dup, 1) := by decide +kernel
theorem dX12_one_200 : decode cX12_one 200 = .ok (.getfield 387, 3) := by decide +kernel
theorem dX12_one_203 : decode cX12_one 203 = .ok (.iconst 1, 1) := by decide +kernel
theorem dX12_one_204 : decode cX12_one 204 = .ok (.isub, 1) := by decide +kernel
theorem dX12_one_205 : decode cX12_one 205 = .ok (.putfield 387, 3) := by decide +kernel
theorem dX12_one_208 : decode cX12_one 208 = .ok (.goto 120, 3) := by decide +kernel
theorem dX12_one_211 : decode cX12_one 211 = .ok (.aload_n 0, 1) := by decide +kernel
theorem dX12_one_212 : decode cX12_one 212 = .ok (.aload_n 0, 1) := by decide +kernel
theorem dX12_one_213 : decode cX12_one 213 = .ok (.getfield 307, 3) := by decide +kernel
theorem dX12_one_216 : decode cX12_one 216 = .ok (.bipush 60, 2) := by decide +kernel
theorem dX12_one_218 : decode cX12_one 218 = .ok (.if_icmp .eq 52, 3) := by decide +kernel
theorem dX12_one_221 : decode cX12_one 221 = .ok (.aload_n 0, 1) := by decide +kernel
theorem dX12_one_222 : decode cX12_one 222 = .ok (.getfield 307, 3) := by decide +kernel
theorem dX12_one_225 : decode cX12_one 225 = .ok (.sipush 300, 3) := by decide +kernel
theorem dX12_one_228 : decode cX12_one 228 = .ok (.if_icmp .eq 42, 3) := by decide +kernel
theorem dX12_one_231 : decode cX12_one 231 = .ok (.aload_n 0, 1) := by decide +kernel
theorem dX12_one_232 : decode cX12_one 232 = .ok (.getfield 307, 3) := by decide +kernel
theorem dX12_one_235 : decode cX12_one 235 = .ok (.bipush 62, 2) := by decide +kernel
theorem dX12_one_237 : decode cX12_one 237 = .ok (.if_icmp .eq 33, 3) := by decide +kernel
theorem dX12_one_240 : decode cX12_one 240 = .ok (.aload_n 0, 1) := by decide +kernel
theorem dX12_one_241 : decode cX12_one 241 = .ok (.getfield 307, 3) := by decide +kernel
theorem dX12_one_244 : decode cX12_one 244 = .ok (.sipush 301, 3) := by decide +kernel
theorem dX12_one_247 : decode cX12_one 247 = .ok (.if_icmp .eq 23, 3) := by decide +kernel
theorem dX12_one_250 : decode cX12_one 250 = .ok (.aload_n 0, 1) := by decide +kernel
theorem dX12_one_251 : decode cX12_one 251 = .ok (.getfield 307, 3) := by decide +kernel
theorem dX12_one_254 : decode cX12_one 254 = .ok (.sipush 302, 3) := by decide +kernel
theorem dX12_one_257 : decode cX12_one 257 = .ok (.if_icmp .eq 13, 3) := by decide +kernel
theorem dX12_one_260 : decode cX12_one 260 = .ok (.aload_n 0, 1) := by decide +kernel
theorem dX12_one_261 : decode cX12_one 261 = .ok (.getfield 307, 3) := by decide +kernel
theorem dX12_one_264 : decode cX12_one 264 = .ok (.sipush 303, 3) := by decide +kernel
theorem dX12_one_267 : decode cX12_one 267 = .ok (.if_icmp .ne 7, 3) := by decide +kernel
theorem dX12_one_270 : decode cX12_one 270 = .ok (.iconst 1, 1) := by decide +kernel
theorem dX12_one_271 : decode cX12_one 271 = .ok (.goto 4, 3) := by decide +kernel
theorem dX12_one_274 : decode cX12_one 274 = .ok (.iconst 0, 1) := by decide +kernel
theorem dX12_one_275 : decode cX12_one 275 = .ok (.invokevirtual 341, 3) := by decide +kernel
theorem dX12_one_278 : decode cX12_one 278 = .ok (.ifCond .eq 50, 3) := by decide +kernel
theorem dX12_one_281 : decode cX12_one 281 = .ok (.aload_n 0, 1) := by decide +kernel
theorem dX12_one_282 : decode cX12_one 282 = .ok (.getfield 180, 3) := by decide +kernel
theorem dX12_one_285 : decode cX12_one 285 = .ok (.iload_n 1, 1) := by decide +kernel
theorem dX12_one_286 : decode cX12_one 286 = .ok (.aload_n 0, 1) := by decide +kernel
theorem dX12_one_287 : decode cX12_one 287 = .ok (.getfield 307, 3) := by decide +kernel
theorem dX12_one_290 : decode cX12_one 290 = .ok (.iastore, 1) := by decide +kernel
theorem dX12_one_291 : decode cX12_one 291 = .ok (.aload_n 0, 1) := by decide +kernel
theorem dX12_one_292 : decode cX12_one 292 = .ok (.invokevirtual 345, 3) := by decide +kernel
end
section
theorem dX12_one_295 : decode cX12_one 295 = .ok (.aload_n 0, 1) := by decide +kernel
theorem dX12_one_296 : decode cX12_one 296 = .ok (.iconst 4, 1) := by decide +kernel
theorem dX12_one_297 : decode cX12_one 297 = .ok (.bipush 16, 2) := by decide +kernel
theorem dX12_one_299 : decode cX12_one 299 = .ok (.invokevirtual 393, 3) := by decide +kernel
theorem dX12_one_302 : decode cX12_one 302 = .ok (.goto 26, 3) := by decide +kernel
theorem dX12_one_305 : decode cX12_one 305 = .ok (.aload_n 0, 1) := by decide +kernel
theorem dX12_one_306 : decode cX12_one 306 = .ok (.bipush 9, 2) := by decide +kernel
theorem dX12_one_308 : decode cX12_one 308 = .ok (.aload_n 0, 1) := by decide +kernel
theorem dX12_one_309 : decode cX12_one 309 = .ok (.getfield 180, 3) := by decide +kernel
theorem dX12_one_312 : decode cX12_one 312 = .ok (.iload_n 1, 1) := by decide +kernel
theorem dX12_one_313 : decode cX12_one 313 = .ok (.iaload, 1) := by decide +kernel
theorem dX12_one_314 : decode cX12_one 314 = .ok (.invokevirtual 464, 3) := by decide +kernel
theorem dX12_one_317 : decode cX12_one 317 = .ok (.pop, 1) := by decide +kernel
theorem dX12_one_318 : decode cX12_one 318 = .ok (.aload_n 0, 1) := by decide +kernel
theorem dX12_one_319 : decode cX12_one 319 = .ok (.dup, 1) := by decide +kernel
theorem dX12_one_320 : decode cX12_one 320 = .ok (.getfield 387, 3) := by decide +kernel
theorem dX12_one_323 : decode cX12_one 323 = .ok (.iconst 1, 1) := by decide +kernel
theorem dX12_one_324 : decode cX12_one 324 = .ok (.isub, 1) := by decide +kernel
theorem dX12_one_325 : decode cX12_one 325 = .ok (.putfield 387, 3) := by decide +kernel
theorem dX12_one_328 : decode cX12_one 328 = .ok (.return_, 1) := by decide +kernel
theorem dX12_entry_0 : decode cX12_entry 0 = .ok (.aload_n 0, 1) := by decide +kernel
theorem dX12_entry_1 : decode cX12_entry 1 = .ok (.getfield 93, 3) := by decide +kernel
theorem dX12_entry_4 : decode cX12_entry 4 = .ok (.aload_n 0, 1) := by decide +kernel
theorem dX12_entry_5 : decode cX12_entry 5 = .ok (.getfield 478, 3) := by decide +kernel
theorem dX12_entry_8 : decode cX12_entry 8 = .ok (.iload_n 2, 1) := by decide +kernel
theorem dX12_entry_9 : decode cX12_entry 9 = .ok (.iastore, 1) := by decide +kernel
theorem dX12_entry_10 : decode cX12_entry 10 = .ok (.aload_n 0, 1) := by decide +kernel
theorem dX12_entry_11 : decode cX12_entry 11 = .ok (.getfield 96, 3) := by decide +kernel
theorem dX12_entry_14 : decode cX12_entry 14 = .ok (.aload_n 0, 1) := by decide +kernel
theorem dX12_entry_15 : decode cX12_entry 15 = .ok (.getfield 478, 3) := by decide +kernel
theorem dX12_entry_18 : decode cX12_entry 18 = .ok (.aload_n 0, 1) := by decide +kernel
theorem dX12_entry_19 : decode cX12_entry 19 = .ok (.getfield 358, 3) := by decide +kernel
theorem dX12_entry_22 : decode cX12_entry 22 = .ok (.iastore, 1) := by decide +kernel
theorem dX12_entry_23 : decode cX12_entry 23 = .ok (.aload_n 0, 1) := by decide +kernel
theorem dX12_entry_24 : decode cX12_entry 24 = .ok (.getfield 99, 3) := by decide +kernel
theorem dX12_entry_27 : decode cX12_entry 27 = .ok (.aload_n 0, 1) := by decide +kernel
theorem dX12_entry_28 : decode cX12_entry 28 = .ok (.getfield 478, 3) := by decide +kernel
theorem dX12_entry_31 : decode cX12_entry 31 = .ok (.iconst (-1), 1) := by decide +kernel
theorem dX12_entry_32 : decode cX12_entry 32 = .ok (.iastore, 1) := by decide +kernel
theorem dX12_entry_33 : decode cX12_entry 33 = .ok (.aload_n 0, 1) := by decide +kernel
theorem dX12_entry_34 : decode cX12_entry 34 = .ok (.getfield 102, 3) := by decide +kernel
theorem dX12_entry_37 : decode cX12_entry 37 = .ok (.aload_n 0, 1) := by decide +kernel
theorem dX12_entry_38 : decode cX12_entry 38 = .ok (.getfield 478, 3) := by decide +kernel
theorem dX12_entry_41 : decode cX12_entry 41 = .ok (.iload_n 3, 1) := by decide +kernel
theorem dX12_entry_42 : decode cX12_entry 42 = .ok (.bastore, 1) := by decide +kernel
theorem dX12_entry_43 : decode cX12_entry 43 = .ok (.aload_n 0, 1) := by decide +kernel
theorem dX12_entry_44 : decode cX12_entry 44 = .ok (.getfield 183, 3) := by decide +kernel
theorem dX12_entry_47 : decode cX12_entry 47 = .ok (.iload_n 1, 1) := by decide +kernel
theorem dX12_entry_48 : decode cX12_entry 48 = .ok (.iaload, 1) := by decide +kernel
theorem dX12_entry_49 : decode cX12_entry 49 = .ok (.ifCond .ge 21, 3) := by decide +kernel
theorem dX12_entry_52 : decode cX12_entry 52 = .ok (.aload_n 0, 1) := by decide +kernel
theorem dX12_entry_53 : decode cX12_entry 53 = .ok (.getfield 87, 3) := by decide +kernel
theorem dX12_entry_56 : decode cX12_entry 56 = .ok (.aload_n 0, 1) := by decide +kernel
theorem dX12_entry_57 : decode cX12_entry 57 = .ok (.getfield 180, 3) := by decide +kernel
theorem dX12_entry_60 : decode cX12_entry 60 = .ok (.iload_n 1, 1) := by decide +kernel
theorem dX12_entry_61 : decode cX12_entry 61 = .ok (.iaload, 1) := by decide +kernel
theorem dX12_entry_62 : decode cX12_entry 62 = .ok (.aload_n 0, 1) := by decide +kernel
theorem dX12_entry_63 : decode cX12_entry 63 = .ok (.getfield 478, 3) := by decide +kernel
theorem dX12_entry_66 : decode cX12_entry 66 = .ok (.iastore, 1) := by decide +kernel
theorem dX12_entry_67 : decode cX12_entry 67 = .ok (.goto 18, 3) := by decide +kernel
theorem dX12_entry_70 : decode cX12_entry 70 = .ok (.aload_n 0, 1) := by decide +kernel
theorem dX12_entry_71 : decode cX12_entry 71 = .ok (.getfield 99, 3) := by decide +kernel
theorem dX12_entry_74 : decode cX12_entry 74 = .ok (.aload_n 0, 1) := by decide +kernel
theorem dX12_entry_75 : decode cX12_entry 75 = .ok (.getfield 183, 3) := by decide +kernel
theorem dX12_entry_78 : decode cX12_entry 78 = .ok (.iload_n 1, 1) := by decide +kernel
theorem dX12_entry_79 : decode cX12_entry 79 = .ok (.iaload, 1) := by decide +kernel
theorem dX12_entry_80 : decode cX12_entry 80 = .ok (.aload_n 0, 1) := by decide +kernel
theorem dX12_entry_81 : decode cX12_entry 81 = .ok (.getfield 478, 3) := by decide +kernel
theorem dX12_entry_84 : decode cX12_entry 84 = .ok (.iastore, 1) := by decide +kernel
theorem dX12_entry_85 : decode cX12_entry 85 = .ok (.aload_n 0, 1) := by decide +kernel
theorem dX12_entry_86 : decode cX12_entry 86 = .ok (.getfield 183, 3) := by decide +kernel
theorem dX12_entry_89 : decode cX12_entry 89 = .ok (.iload_n 1, 1) := by decide +kernel
theorem dX12_entry_90 : decode cX12_entry 90 = .ok (.aload_n 0, 1) := by decide +kernel
theorem dX12_entry_91 : decode cX12_entry 91 = .ok (.getfield 478, 3) := by decide +kernel
theorem dX12_entry_94 : decode cX12_entry 94 = .ok (.iastore, 1) := by decide +kernel
theorem dX12_entry_95 : decode cX12_entry 95 = .ok (.aload_n 0, 1) := by decide +kernel
theorem dX12_entry_96 : decode cX12_entry 96 = .ok (.dup, 1) := by decide +kernel
theorem dX12_entry_97 : decode cX12_entry 97 = .ok (.getfield 478, 3) := by decide +kernel
theorem dX12_entry_100 : decode cX12_entry 100 = .ok (.iconst 1, 1) := by decide +kernel
theorem dX12_entry_101 : decode cX12_entry 101 = .ok (.iadd, 1) := by decide +kernel
theorem dX12_entry_102 : decode cX12_entry 102 = .ok (.putfield 478, 3) := by decide +kernel
theorem dX12_entry_105 : decode cX12_entry 105 = .ok (.return_, 1) := by decide +kernel
theorem dX12_caseNumber_0 : decode cX12_caseNumber 0 = .ok (.aload_n 0, 1) := by decide +kernel
theorem dX12_caseNumber_1 : decode cX12_caseNumber 1 = .ok (.getfield 307, 3) := by decide +kernel
theorem dX12_caseNumber_4 : decode cX12_caseNumber 4 = .ok (.bipush 45, 2) := by decide +kernel
theorem dX12_caseNumber_6 : decode cX12_caseNumber 6 = .ok (.if_icmp .ne 7, 3) := by decide +kernel
theorem dX12_caseNumber_9 : decode cX12_caseNumber 9 = .ok (.iconst 1, 1) := by decide +kernel
theorem dX12_caseNumber_10 : decode cX12_caseNumber 10 = .ok (.goto 4, 3) := by decide +kernel
theorem dX12_caseNumber_13 : decode cX12_caseNumber 13 = .ok (.iconst 0, 1) := by decide +kernel
theorem dX12_caseNumber_14 : decode cX12_caseNumber 14 = .ok (.istore_n 2, 1) := by decide +kernel
theorem dX12_caseNumber_15 : decode cX12_caseNumber 15 = .ok (.iload_n 2, 1) := by decide +kernel
theorem dX12_caseNumber_16 : decode cX12_caseNumber 16 = .ok (.ifCond .eq 7, 3) := by decide +kernel
theorem dX12_caseNumber_19 : decode cX12_caseNumber 19 = .ok (.aload_n 0, 1) := by decide +kernel
theorem dX12_caseNumber_20 : decode cX12_caseNumber 20 = .ok (.invokevirtual 345, 3) := by decide +kernel
theorem dX12_caseNumber_23 : decode cX12_caseNumber 23 = .ok (.aload_n 0, 1) := by decide +kernel
theorem dX12_caseNumber_24 : decode cX12_caseNumber 24 = .ok (.aload_n 0, 1) := by decide +kernel
theorem dX12_caseNumber_25 : decode cX12_caseNumber 25 = .ok (.getfield 307, 3) := by decide +kernel
theorem dX12_caseNumber_28 : decode cX12_caseNumber 28 = .ok (.iconst 1, 1) := by decide +kernel
theorem dX12_caseNumber_29 : decode cX12_caseNumber 29 = .ok (.if_icmp .ne 7, 3) := by decide +kernel
theorem dX12_caseNumber_32 : decode cX12_caseNumber 32 = .ok (.iconst 1, 1) := by decide +kernel
theorem dX12_caseNumber_33 : decode cX12_caseNumber 33 = .ok (.goto 4, 3) := by decide +kernel
theorem dX12_caseNumber_36 : decode cX12_caseNumber 36 = .ok (.iconst 0, 1) := by decide +kernel
theorem dX12_caseNumber_37 : decode cX12_caseNumber 37 = .ok (.invokevirtual 341, 3) := by decide +kernel
theorem dX12_caseNumber_40 : decode cX12_caseNumber 40 = .ok (.ifCond .ne 5, 3) := by decide +kernel
theorem dX12_caseNumber_43 : decode cX12_caseNumber 43 = .ok (.iconst 0, 1) := by decide +kernel
theorem dX12_caseNumber_44 : decode cX12_caseNumber 44 = .ok (.ireturn, 1) := by decide +kernel
theorem dX12_caseNumber_45 : decode cX12_caseNumber 45 = .ok (.iload_n 2, 1) := by decide +kernel
theorem dX12_caseNumber_46 : decode cX12_caseNumber 46 = .ok (.ifCond .eq 11, 3) := by decide +kernel
theorem dX12_caseNumber_49 : decode cX12_caseNumber 49 = .ok (.aload_n 0, 1) := by decide +kernel
theorem dX12_caseNumber_50 : decode cX12_caseNumber 50 = .ok (.getfield 314, 3) := by decide +kernel
theorem dX12_caseNumber_53 : decode cX12_caseNumber 53 = .ok (.ineg, 1) := by decide +kernel
theorem dX12_caseNumber_54 : decode cX12_caseNumber 54 = .ok (.goto 7, 3) := by decide +kernel
theorem dX12_caseNumber_57 : decode cX12_caseNumber 57 = .ok (.aload_n 0, 1) := by decide +kernel
theorem dX12_caseNumber_58 : decode cX12_caseNumber 58 = .ok (.getfield 314, 3) := by decide +kernel
theorem dX12_caseNumber_61 : decode cX12_caseNumber 61 = .ok (.istore_n 3, 1) := by decide +kernel
theorem dX12_caseNumber_62 : decode cX12_caseNumber 62 = .ok (.aload_n 0, 1) := by decide +kernel
theorem dX12_caseNumber_63 : decode cX12_caseNumber 63 = .ok (.getfield 87, 3) := by decide +kernel
theorem dX12_caseNumber_66 : decode cX12_caseNumber 66 = .ok (.aload_n 0, 1) := by decide +kernel
theorem dX12_caseNumber_67 : decode cX12_caseNumber 67 = .ok (.getfield 180, 3) := by decide +kernel
theorem dX12_caseNumber_70 : decode cX12_caseNumber 70 = .ok (.iload_n 1, 1) := by decide +kernel
theorem dX12_caseNumber_71 : decode cX12_caseNumber 71 = .ok (.iaload, 1) := by decide +kernel
theorem dX12_caseNumber_72 : decode cX12_caseNumber 72 = .ok (.iaload, 1) := by decide +kernel
theorem dX12_caseNumber_73 : decode cX12_caseNumber 73 = .ok (.istore 4, 2) := by decide +kernel
theorem dX12_caseNumber_75 : decode cX12_caseNumber 75 = .ok (.iload 4, 2) := by decide +kernel
theorem dX12_caseNumber_77 : decode cX12_caseNumber 77 = .ok (.ifCond .lt 45, 3) := by decide +kernel
theorem dX12_caseNumber_80 : decode cX12_caseNumber 80 = .ok (.aload_n 0, 1) := by decide +kernel
theorem dX12_caseNumber_81 : decode cX12_caseNumber 81 = .ok (.getfield 102, 3) := by decide +kernel
theorem dX12_caseNumber_84 : decode cX12_caseNumber 84 = .ok (.iload 4, 2) := by decide +kernel
theorem dX12_caseNumber_86 : decode cX12_caseNumber 86 = .ok (.baload, 1) := by decide +kernel
theorem dX12_caseNumber_87 : decode cX12_caseNumber 87 = .ok (.ifCond .ne 23, 3) := by decide +kernel
theorem dX12_caseNumber_90 : decode cX12_caseNumber 90 = .ok (.aload_n 0, 1) := by decide +kernel
theorem dX12_caseNumber_91 : decode cX12_caseNumber 91 = .ok (.getfield 93, 3) := by decide +kernel
theorem dX12_caseNumber_94 : decode cX12_caseNumber 94 = .ok (.iload 4, 2) := by decide +kernel
theorem dX12_caseNumber_96 : decode cX12_caseNumber 96 = .ok (.iaload, 1) := by decide +kernel
theorem dX12_caseNumber_97 : decode cX12_caseNumber 97 = .ok (.iload_n 3, 1) := by decide +kernel
theorem dX12_caseNumber_98 : decode cX12_caseNumber 98 = .ok (.if_icmp .ne 12, 3) := by decide +kernel
theorem dX12_caseNumber_101 : decode cX12_caseNumber 101 = .ok (.aload_n 0, 1) := by decide +kernel
theorem dX12_caseNumber_102 : decode cX12_caseNumber 102 = .ok (.iconst 4, 1) := by decide +kernel
theorem dX12_caseNumber_103 : decode cX12_caseNumber 103 = .ok (.aload_n 0, 1) := by decide +kernel
theorem dX12_caseNumber_104 : decode cX12_caseNumber 104 = .ok (.getfield 304, 3) := by decide +kernel
theorem dX12_caseNumber_107 : decode cX12_caseNumber 107 = .ok (.invokevirtual 337, 3) := by decide +kernel
theorem dX12_caseNumber_110 : decode cX12_caseNumber 110 = .ok (.aload_n 0, 1) := by decide +kernel
theorem dX12_caseNumber_111 : decode cX12_caseNumber 111 = .ok (.getfield 99, 3) := by decide +kernel
theorem dX12_caseNumber_114 : decode cX12_caseNumber 114 = .ok (.iload 4, 2) := by decide +kernel
theorem dX12_caseNumber_116 : decode cX12_caseNumber 116 = .ok (.iaload, 1) := by decide +kernel
theorem dX12_caseNumber_117 : decode cX12_caseNumber 117 = .ok (.istore 4, 2) := by decide +kernel
theorem dX12_caseNumber_119 : decode cX12_caseNumber 119 = .ok (.goto (-44), 3) := by decide +kernel
theorem dX12_caseNumber_122 : decode cX12_caseNumber 122 = .ok (.aload_n 0, 1) := by decide +kernel
theorem dX12_caseNumber_123 : decode cX12_caseNumber 123 = .ok (.getfield 291, 3) := by decide +kernel
theorem dX12_caseNumber_126 : decode cX12_caseNumber 126 = .ok (.ifCond .ne 14, 3) := by decide +kernel
theorem dX12_caseNumber_129 : decode cX12_caseNumber 129 = .ok (.aload_n 0, 1) := by decide +kernel
theorem dX12_caseNumber_130 : decode cX12_caseNumber 130 = .ok (.iload_n 1, 1) := by decide +kernel
theorem dX12_caseNumber_131 : decode cX12_caseNumber 131 = .ok (.iload_n 3, 1) := by decide +kernel
theorem dX12_caseNumber_132 : decode cX12_caseNumber 132 = .ok (.iconst 0, 1) := by decide +kernel
theorem dX12_caseNumber_133 : decode cX12_caseNumber 133 = .ok (.invokevirtual 481, 3) := by decide +kernel
theorem dX12_caseNumber_136 : decode cX12_caseNumber 136 = .ok (.aload_n 0, 1) := by decide +kernel
theorem dX12_caseNumber_137 : decode cX12_caseNumber 137 = .ok (.invokevirtual 345, 3) := by decide +kernel
theorem dX12_caseNumber_140 : decode cX12_caseNumber 140 = .ok (.aload_n 0, 1) := by decide +kernel
theorem dX12_caseNumber_141 : decode cX12_caseNumber 141 = .ok (.getfield 291, 3) := by decide +kernel
theorem dX12_caseNumber_144 : decode cX12_caseNumber 144 = .ok (.ifCond .ne 7, 3) := by decide +kernel
theorem dX12_caseNumber_147 : decode cX12_caseNumber 147 = .ok (.iconst 1, 1) := by decide +kernel
theorem dX12_caseNumber_148 : decode cX12_caseNumber 148 = .ok (.goto 4, 3) := by decide +kernel
theorem dX12_caseNumber_151 : decode cX12_caseNumber 151 = .ok (.iconst 0, 1) := by decide +kernel
theorem dX12_caseNumber_152 : decode cX12_caseNumber 152 = .ok (.ireturn, 1) := by decide +kernel
theorem dX12_arms_0 : decode cX12_arms 0 = .ok (.aload_n 0, 1) := by decide +kernel
theorem dX12_arms_1 : decode cX12_arms 1 = .ok (.getfield 177, 3) := by decide +kernel
theorem dX12_arms_4 : decode cX12_arms 4 = .ok (.iload_n 1, 1) := by decide +kernel
theorem dX12_arms_5 : decode cX12_arms 5 = .ok (.iaload, 1) := by decide +kernel
theorem dX12_arms_6 : decode cX12_arms 6 = .ok (.tableswitch 456 0 6 #[42, 63, 131, 299, 456, 343, 405], 42) := by decide +kernel
theorem dX12_arms_48 : decode cX12_arms 48 = .ok (.aload_n 0, 1) := by decide +kernel
theorem dX12_arms_49 : decode cX12_arms 49 = .ok (.invokevirtual 345, 3) := by decide +kernel
theorem dX12_arms_52 : decode cX12_arms 52 = .ok (.aload_n 0, 1) := by decide +kernel
theorem dX12_arms_53 : decode cX12_arms 53 = .ok (.bipush 40, 2) := by decide +kernel
theorem dX12_arms_55 : decode cX12_arms 55 = .ok (.invokevirtual 475, 3) := by decide +kernel
theorem dX12_arms_58 : decode cX12_arms 58 = .ok (.pop, 1) := by decide +kernel
theorem dX12_arms_59 : decode cX12_arms 59 = .ok (.aload_n 0, 1) := by decide +kernel
theorem dX12_arms_60 : decode cX12_arms 60 = .ok (.iconst 1, 1) := by decide +kernel
theorem dX12_arms_61 : decode cX12_arms 61 = .ok (.bipush 16, 2) := by decide +kernel
theorem dX12_arms_63 : decode cX12_arms 63 = .ok (.invokevirtual 393, 3) := by decide +kernel
theorem dX12_arms_66 : decode cX12_arms 66 = .ok (.goto 418, 3) := by decide +kernel
theorem dX12_arms_69 : decode cX12_arms 69 = .ok (.aload_n 0, 1) := by decide +kernel
theorem dX12_arms_70 : decode cX12_arms 70 = .ok (.bipush 41, 2) := by decide +kernel
theorem dX12_arms_72 : decode cX12_arms 72 = .ok (.invokevirtual 468, 3) := by decide +kernel
theorem dX12_arms_75 : decode cX12_arms 75 = .ok (.pop, 1) := by decide +kernel
theorem dX12_arms_76 : decode cX12_arms 76 = .ok (.aload_n 0, 1) := by decide +kernel
theorem dX12_arms_77 : decode cX12_arms 77 = .ok (.getfield 180, 3) := by decide +kernel
theorem dX12_arms_80 : decode cX12_arms 80 = .ok (.iload_n 1, 1) := by decide +kernel
theorem dX12_arms_81 : decode cX12_arms 81 = .ok (.aload_n 0, 1) := by decide +kernel
theorem dX12_arms_82 : decode cX12_arms 82 = .ok (.bipush 29, 2) := by decide +kernel
theorem dX12_arms_84 : decode cX12_arms 84 = .ok (.iconst (-1), 1) := by decide +kernel
theorem dX12_arms_85 : decode cX12_arms 85 = .ok (.invokevirtual 464, 3) := by decide +kernel
theorem dX12_arms_88 : decode cX12_arms 88 = .ok (.iastore, 1) := by decide +kernel
theorem dX12_arms_89 : decode cX12_arms 89 = .ok (.aload_n 0, 1) := by decide +kernel
theorem dX12_arms_90 : decode cX12_arms 90 = .ok (.getfield 183, 3) := by decide +kernel
theorem dX12_arms_93 : decode cX12_arms 93 = .ok (.iload_n 1, 1) := by decide +kernel
theorem dX12_arms_94 : decode cX12_arms 94 = .ok (.iconst (-1), 1) := by decide +kernel
theorem dX12_arms_95 : decode cX12_arms 95 = .ok (.iastore, 1) := by decide +kernel
theorem dX12_arms_96 : decode cX12_arms 96 = .ok (.aload_n 0, 1) := by decide +kernel
theorem dX12_arms_97 : decode cX12_arms 97 = .ok (.getfield 186, 3) := by decide +kernel
theorem dX12_arms_100 : decode cX12_arms 100 = .ok (.iload_n 1, 1) := by decide +kernel
theorem dX12_arms_101 : decode cX12_arms 101 = .ok (.iconst 0, 1) := by decide +kernel
theorem dX12_arms_102 : decode cX12_arms 102 = .ok (.iastore, 1) := by decide +kernel
theorem dX12_arms_103 : decode cX12_arms 103 = .ok (.aload_n 0, 1) := by decide +kernel
theorem dX12_arms_104 : decode cX12_arms 104 = .ok (.dup, 1) := by decide +kernel
theorem dX12_arms_105 : decode cX12_arms 105 = .ok (.getfield 370, 3) := by decide +kernel
theorem dX12_arms_108 : decode cX12_arms 108 = .ok (.iconst 1, 1) := by decide +kernel
theorem dX12_arms_109 : decode cX12_arms 109 = .ok (.iadd, 1) := by decide +kernel
theorem dX12_arms_110 : decode cX12_arms 110 = .ok (.putfield 370, 3) := by decide +kernel
theorem dX12_arms_113 : decode cX12_arms 113 = .ok (.aload_n 0, 1) := by decide +kernel
theorem dX12_arms_114 : decode cX12_arms 114 = .ok (.iconst 3, 1) := by decide +kernel
theorem dX12_arms_115 : decode cX12_arms 115 = .ok (.lconst 0, 1) := by decide +kernel
theorem dX12_arms_116 : decode cX12_arms 116 = .ok (.invokevirtual 373, 3) := by decide +kernel
theorem dX12_arms_119 : decode cX12_arms 119 = .ok (.pop, 1) := by decide +kernel
theorem dX12_arms_120 : decode cX12_arms 120 = .ok (.aload_n 0, 1) := by decide +kernel
theorem dX12_arms_121 : decode cX12_arms 121 = .ok (.bipush 123, 2) := by decide +kernel
theorem dX12_arms_123 : decode cX12_arms 123 = .ok (.invokevirtual 475, 3) := by decide +kernel
theorem dX12_arms_126 : decode cX12_arms 126 = .ok (.pop, 1) := by decide +kernel
theorem dX12_arms_127 : decode cX12_arms 127 = .ok (.aload_n 0, 1) := by decide +kernel
theorem dX12_arms_128 : decode cX12_arms 128 = .ok (.getfield 177, 3) := by decide +kernel
theorem dX12_arms_131 : decode cX12_arms 131 = .ok (.iload_n 1, 1) := by decide +kernel
theorem dX12_arms_132 : decode cX12_arms 132 = .ok (.iconst 2, 1) := by decide +kernel
theorem dX12_arms_133 : decode cX12_arms 133 = .ok (.iastore, 1) := by decide +kernel
theorem dX12_arms_134 : decode cX12_arms 134 = .ok (.goto 350, 3) := by decide +kernel
theorem dX12_arms_137 : decode cX12_arms 137 = .ok (.aload_n 0, 1) := by decide +kernel
theorem dX12_arms_138 : decode cX12_arms 138 = .ok (.getfield 307, 3) := by decide +kernel
theorem dX12_arms_141 : decode cX12_arms 141 = .ok (.sipush 429, 3) := by decide +kernel
theorem dX12_arms_144 : decode cX12_arms 144 = .ok (.if_icmp .ne 17, 3) := by decide +kernel
theorem dX12_arms_147 : decode cX12_arms 147 = .ok (.aload_n 0, 1) := by decide +kernel
theorem dX12_arms_148 : decode cX12_arms 148 = .ok (.invokevirtual 345, 3) := by decide +kernel
theorem dX12_arms_151 : decode cX12_arms 151 = .ok (.aload_n 0, 1) := by decide +kernel
theorem dX12_arms_152 : decode cX12_arms 152 = .ok (.getfield 177, 3) := by decide +kernel
theorem dX12_arms_155 : decode cX12_arms 155 = .ok (.iload_n 1, 1) := by decide +kernel
theorem dX12_arms_156 : decode cX12_arms 156 = .ok (.iconst 3, 1) := by decide +kernel
theorem dX12_arms_157 : decode cX12_arms 157 = .ok (.iastore, 1) := by decide +kernel
theorem dX12_arms_158 : decode cX12_arms 158 = .ok (.goto 326, 3) := by decide +kernel
theorem dX12_arms_161 : decode cX12_arms 161 = .ok (.aload_n 0, 1) := by decide +kernel
theorem dX12_arms_162 : decode cX12_arms 162 = .ok (.getfield 307, 3) := by decide +kernel
theorem dX12_arms_165 : decode cX12_arms 165 = .ok (.sipush 430, 3) := by decide +kernel
theorem dX12_arms_168 : decode cX12_arms 168 = .ok (.if_icmp .ne 51, 3) := by decide +kernel
theorem dX12_arms_171 : decode cX12_arms 171 = .ok (.aload_n 0, 1) := by decide +kernel
theorem dX12_arms_172 : decode cX12_arms 172 = .ok (.getfield 186, 3) := by decide +kernel
theorem dX12_arms_175 : decode cX12_arms 175 = .ok (.iload_n 1, 1) := by decide +kernel
theorem dX12_arms_176 : decode cX12_arms 176 = .ok (.iaload, 1) := by decide +kernel
theorem dX12_arms_177 : decode cX12_arms 177 = .ok (.iconst 1, 1) := by decide +kernel
theorem dX12_arms_178 : decode cX12_arms 178 = .ok (.if_icmp .ne 13, 3) := by decide +kernel
theorem dX12_arms_181 : decode cX12_arms 181 = .ok (.aload_n 0, 1) := by decide +kernel
theorem dX12_arms_182 : decode cX12_arms 182 = .ok (.iconst 4, 1) := by decide +kernel
theorem dX12_arms_183 : decode cX12_arms 183 = .ok (.aload_n 0, 1) := by decide +kernel
theorem dX12_arms_184 : decode cX12_arms 184 = .ok (.getfield 304, 3) := by decide +kernel
theorem dX12_arms_187 : decode cX12_arms 187 = .ok (.invokevirtual 337, 3) := by decide +kernel
theorem dX12_arms_190 : decode cX12_arms 190 = .ok (.return_, 1) := by decide +kernel
theorem dX12_arms_191 : decode cX12_arms 191 = .ok (.aload_n 0, 1) := by decide +kernel
theorem dX12_arms_192 : decode cX12_arms 192 = .ok (.getfield 186, 3) := by decide +kernel
theorem dX12_arms_195 : decode cX12_arms 195 = .ok (.iload_n 1, 1) := by decide +kernel
theorem dX12_arms_196 : decode cX12_arms 196 = .ok (.iconst 1, 1) := by decide +kernel
theorem dX12_arms_197 : decode cX12_arms 197 = .ok (.iastore, 1) := by decide +kernel
theorem dX12_arms_198 : decode cX12_arms 198 = .ok (.aload_n 0, 1) := by decide +kernel
theorem dX12_arms_199 : decode cX12_arms 199 = .ok (.iload_n 1, 1) := by decide +kernel
theorem dX12_arms_200 : decode cX12_arms 200 = .ok (.iconst 0, 1) := by decide +kernel
theorem dX12_arms_201 : decode cX12_arms 201 = .ok (.iconst 1, 1) := by decide +kernel
theorem dX12_arms_202 : decode cX12_arms 202 = .ok (.invokevirtual 481, 3) := by decide +kernel
theorem dX12_arms_205 : decode cX12_arms 205 = .ok (.aload_n 0, 1) := by decide +kernel
theorem dX12_arms_206 : decode cX12_arms 206 = .ok (.invokevirtual 345, 3) := by decide +kernel
theorem dX12_arms_209 : decode cX12_arms 209 = .ok (.aload_n 0, 1) := by decide +kernel
theorem dX12_arms_210 : decode cX12_arms 210 = .ok (.getfield 177, 3) := by decide +kernel
theorem dX12_arms_213 : decode cX12_arms 213 = .ok (.iload_n 1, 1) := by decide +kernel
theorem dX12_arms_214 : decode cX12_arms 214 = .ok (.iconst 5, 1) := by decide +kernel
theorem dX12_arms_215 : decode cX12_arms 215 = .ok (.iastore, 1) := by decide +kernel
theorem dX12_arms_216 : decode cX12_arms 216 = .ok (.goto 268, 3) := by decide +kernel
theorem dX12_arms_219 : decode cX12_arms 219 = .ok (.aload_n 0, 1) := by decide +kernel
theorem dX12_arms_220 : decode cX12_arms 220 = .ok (.aload_n 0, 1) := by decide +kernel
theorem dX12_arms_221 : decode cX12_arms 221 = .ok (.getfield 307, 3) := by decide +kernel
theorem dX12_arms_224 : decode cX12_arms 224 = .ok (.bipush 125, 2) := by decide +kernel
theorem dX12_arms_226 : decode cX12_arms 226 = .ok (.if_icmp .ne 17, 3) := by decide +kernel
theorem dX12_arms_229 : decode cX12_arms 229 = .ok (.aload_n 0, 1) := by decide +kernel
theorem dX12_arms_230 : decode cX12_arms 230 = .ok (.getfield 186, 3) := by decide +kernel
theorem dX12_arms_233 : decode cX12_arms 233 = .ok (.iload_n 1, 1) := by decide +kernel
theorem dX12_arms_234 : decode cX12_arms 234 = .ok (.iaload, 1) := by decide +kernel
theorem dX12_arms_235 : decode cX12_arms 235 = .ok (.iconst 1, 1) := by decide +kernel
theorem dX12_arms_236 : decode cX12_arms 236 = .ok (.if_icmp .ne 7, 3) := by decide +kernel
theorem dX12_arms_239 : decode cX12_arms 239 = .ok (.iconst 1, 1) := by decide +kernel
theorem dX12_arms_240 : decode cX12_arms 240 = .ok (.goto 4, 3) := by decide +kernel
theorem dX12_arms_243 : decode cX12_arms 243 = .ok (.iconst 0, 1) := by decide +kernel
theorem dX12_arms_244 : decode cX12_arms 244 = .ok (.invokevirtual 341, 3) := by decide +kernel
theorem dX12_arms_247 : decode cX12_arms 247 = .ok (.ifCond .eq 237, 3) := by decide +kernel
theorem dX12_arms_250 : decode cX12_arms 250 = .ok (.aload_n 0, 1) := by decide +kernel
theorem dX12_arms_251 : decode cX12_arms 251 = .ok (.bipush 125, 2) := by decide +kernel
theorem dX12_arms_253 : decode cX12_arms 253 = .ok (.invokevirtual 468, 3) := by decide +kernel
theorem dX12_arms_256 : decode cX12_arms 256 = .ok (.pop, 1) := by decide +kernel
theorem dX12_arms_257 : decode cX12_arms 257 = .ok (.aload_n 0, 1) := by decide +kernel
theorem dX12_arms_258 : decode cX12_arms 258 = .ok (.dup, 1) := by decide +kernel
theorem dX12_arms_259 : decode cX12_arms 259 = .ok (.getfield 367, 3) := by decide +kernel
theorem dX12_arms_262 : decode cX12_arms 262 = .ok (.iconst 1, 1) := by decide +kernel
theorem dX12_arms_263 : decode cX12_arms 263 = .ok (.isub, 1) := by decide +kernel
theorem dX12_arms_264 : decode cX12_arms 264 = .ok (.putfield 367, 3) := by decide +kernel
theorem dX12_arms_267 : decode cX12_arms 267 = .ok (.aload_n 0, 1) := by decide +kernel
theorem dX12_arms_268 : decode cX12_arms 268 = .ok (.dup, 1) := by decide +kernel
theorem dX12_arms_269 : decode cX12_arms 269 = .ok (.getfield 370, 3) := by decide +kernel
theorem dX12_arms_272 : decode cX12_arms 272 = .ok (.iconst 1, 1) := by decide +kernel
theorem dX12_arms_273 : decode cX12_arms 273 = .ok (.isub, 1) := by decide +kernel
theorem dX12_arms_274 : decode cX12_arms 274 = .ok (.putfield 370, 3) := by decide +kernel
theorem dX12_arms_277 : decode cX12_arms 277 = .ok (.aload_n 0, 1) := by decide +kernel
theorem dX12_arms_278 : decode cX12_arms 278 = .ok (.getfield 90, 3) := by decide +kernel
theorem dX12_arms_281 : decode cX12_arms 281 = .ok (.aload_n 0, 1) := by decide +kernel
theorem dX12_arms_282 : decode cX12_arms 282 = .ok (.getfield 180, 3) := by decide +kernel
theorem dX12_arms_285 : decode cX12_arms 285 = .ok (.iload_n 1, 1) := by decide +kernel
theorem dX12_arms_286 : decode cX12_arms 286 = .ok (.iaload, 1) := by decide +kernel
theorem dX12_arms_287 : decode cX12_arms 287 = .ok (.aload_n 0, 1) := by decide +kernel
theorem dX12_arms_288 : decode cX12_arms 288 = .ok (.getfield 358, 3) := by decide +kernel
theorem dX12_arms_291 : decode cX12_arms 291 = .ok (.iastore, 1) := by decide +kernel
theorem dX12_arms_292 : decode cX12_arms 292 = .ok (.aload_n 0, 1) := by decide +kernel
theorem dX12_arms_293 : decode cX12_arms 293 = .ok (.dup, 1) := by decide +kernel
theorem dX12_arms_294 : decode cX12_arms 294 = .ok (.getfield 387, 3) := by decide +kernel
theorem dX12_arms_297 : decode cX12_arms 297 = .ok (.iconst 1, 1) := by decide +kernel
theorem dX12_arms_298 : decode cX12_arms 298 = .ok (.isub, 1) := by decide +kernel
theorem dX12_arms_299 : decode cX12_arms 299 = .ok (.putfield 387, 3) := by decide +kernel
theorem dX12_arms_302 : decode cX12_arms 302 = .ok (.goto 182, 3) := by decide +kernel
theorem dX12_arms_305 : decode cX12_arms 305 = .ok (.aload_n 0, 1) := by decide +kernel
theorem dX12_arms_306 : decode cX12_arms 306 = .ok (.iload_n 1, 1) := by decide +kernel
theorem dX12_arms_307 : decode cX12_arms 307 = .ok (.invokevirtual 484, 3) := by decide +kernel
theorem dX12_arms_310 : decode cX12_arms 310 = .ok (.ifCond .eq 174, 3) := by decide +kernel
theorem dX12_arms_313 : decode cX12_arms 313 = .ok (.aload_n 0, 1) := by decide +kernel
theorem dX12_arms_314 : decode cX12_arms 314 = .ok (.getfield 177, 3) := by decide +kernel
theorem dX12_arms_317 : decode cX12_arms 317 = .ok (.iload_n 1, 1) := by decide +kernel
theorem dX12_arms_318 : decode cX12_arms 318 = .ok (.aload_n 0, 1) := by decide +kernel
theorem dX12_arms_319 : decode cX12_arms 319 = .ok (.getfield 307, 3) := by decide +kernel
theorem dX12_arms_322 : decode cX12_arms 322 = .ok (.bipush 44, 2) := by decide +kernel
theorem dX12_arms_324 : decode cX12_arms 324 = .ok (.if_icmp .ne 7, 3) := by decide +kernel
theorem dX12_arms_327 : decode cX12_arms 327 = .ok (.iconst 3, 1) := by decide +kernel
theorem dX12_arms_328 : decode cX12_arms 328 = .ok (.goto 4, 3) := by decide +kernel
theorem dX12_arms_331 : decode cX12_arms 331 = .ok (.iconst 5, 1) := by decide +kernel
theorem dX12_arms_332 : decode cX12_arms 332 = .ok (.iastore, 1) := by decide +kernel
theorem dX12_arms_333 : decode cX12_arms 333 = .ok (.aload_n 0, 1) := by decide +kernel
theorem dX12_arms_334 : decode cX12_arms 334 = .ok (.getfield 307, 3) := by decide +kernel
theorem dX12_arms_337 : decode cX12_arms 337 = .ok (.bipush 44, 2) := by decide +kernel
theorem dX12_arms_339 : decode cX12_arms 339 = .ok (.if_icmp .ne 145, 3) := by decide +kernel
theorem dX12_arms_342 : decode cX12_arms 342 = .ok (.aload_n 0, 1) := by decide +kernel
theorem dX12_arms_343 : decode cX12_arms 343 = .ok (.invokevirtual 345, 3) := by decide +kernel
theorem dX12_arms_346 : decode cX12_arms 346 = .ok (.goto 138, 3) := by decide +kernel
theorem dX12_arms_349 : decode cX12_arms 349 = .ok (.aload_n 0, 1) := by decide +kernel
theorem dX12_arms_350 : decode cX12_arms 350 = .ok (.sipush 306, 3) := by decide +kernel
theorem dX12_arms_353 : decode cX12_arms 353 = .ok (.invokevirtual 355, 3) := by decide +kernel
theorem dX12_arms_356 : decode cX12_arms 356 = .ok (.pop, 1) := by decide +kernel
theorem dX12_arms_357 : decode cX12_arms 357 = .ok (.aload_n 0, 1) := by decide +kernel
theorem dX12_arms_358 : decode cX12_arms 358 = .ok (.getfield 291, 3) := by decide +kernel
theorem dX12_arms_361 : decode cX12_arms 361 = .ok (.ifCond .ne 39, 3) := by decide +kernel
theorem dX12_arms_364 : decode cX12_arms 364 = .ok (.aload_n 0, 1) := by decide +kernel
theorem dX12_arms_365 : decode cX12_arms 365 = .ok (.getfield 307, 3) := by decide +kernel
theorem dX12_arms_368 : decode cX12_arms 368 = .ok (.bipush 123, 2) := by decide +kernel
theorem dX12_arms_370 : decode cX12_arms 370 = .ok (.if_icmp .ne 30, 3) := by decide +kernel
theorem dX12_arms_373 : decode cX12_arms 373 = .ok (.aload_n 0, 1) := by decide +kernel
theorem dX12_arms_374 : decode cX12_arms 374 = .ok (.bipush 123, 2) := by decide +kernel
theorem dX12_arms_376 : decode cX12_arms 376 = .ok (.invokevirtual 475, 3) := by decide +kernel
theorem dX12_arms_379 : decode cX12_arms 379 = .ok (.pop, 1) := by decide +kernel
theorem dX12_arms_380 : decode cX12_arms 380 = .ok (.aload_n 0, 1) := by decide +kernel
theorem dX12_arms_381 : decode cX12_arms 381 = .ok (.getfield 195, 3) := by decide +kernel
theorem dX12_arms_384 : decode cX12_arms 384 = .ok (.iload_n 1, 1) := by decide +kernel
theorem dX12_arms_385 : decode cX12_arms 385 = .ok (.aload_n 0, 1) := by decide +kernel
theorem dX12_arms_386 : decode cX12_arms 386 = .ok (.getfield 361, 3) := by decide +kernel
theorem dX12_arms_389 : decode cX12_arms 389 = .ok (.iastore, 1) := by decide +kernel
theorem dX12_arms_390 : decode cX12_arms 390 = .ok (.aload_n 0, 1) := by decide +kernel
theorem dX12_arms_391 : decode cX12_arms 391 = .ok (.bipush 6, 2) := by decide +kernel
theorem dX12_arms_393 : decode cX12_arms 393 = .ok (.iconst 1, 1) := by decide +kernel
theorem dX12_arms_394 : decode cX12_arms 394 = .ok (.invokevirtual 393, 3) := by decide +kernel
theorem dX12_arms_397 : decode cX12_arms 397 = .ok (.goto 87, 3) := by decide +kernel
theorem dX12_arms_400 : decode cX12_arms 400 = .ok (.aload_n 0, 1) := by decide +kernel
theorem dX12_arms_401 : decode cX12_arms 401 = .ok (.bipush 7, 2) := by decide +kernel
theorem dX12_arms_403 : decode cX12_arms 403 = .ok (.bipush 16, 2) := by decide +kernel
theorem dX12_arms_405 : decode cX12_arms 405 = .ok (.invokevirtual 393, 3) := by decide +kernel
theorem dX12_arms_408 : decode cX12_arms 408 = .ok (.goto 76, 3) := by decide +kernel
theorem dX12_arms_411 : decode cX12_arms 411 = .ok (.aload_n 0, 1) := by decide +kernel
theorem dX12_arms_412 : decode cX12_arms 412 = .ok (.getfield 396, 3) := by decide +kernel
theorem dX12_arms_415 : decode cX12_arms 415 = .ok (.ifCond .eq 20, 3) := by decide +kernel
theorem dX12_arms_418 : decode cX12_arms 418 = .ok (.aload_n 0, 1) := by decide +kernel
theorem dX12_arms_419 : decode cX12_arms 419 = .ok (.getfield 307, 3) := by decide +kernel
theorem dX12_arms_422 : decode cX12_arms 422 = .ok (.bipush 125, 2) := by decide +kernel
theorem dX12_arms_424 : decode cX12_arms 424 = .ok (.if_icmp .ne 11, 3) := by decide +kernel
theorem dX12_arms_427 : decode cX12_arms 427 = .ok (.aload_n 0, 1) := by decide +kernel
theorem dX12_arms_428 : decode cX12_arms 428 = .ok (.aload_n 0, 1) := by decide +kernel
theorem dX12_arms_429 : decode cX12_arms 429 = .ok (.getfield 304, 3) := by decide +kernel
theorem dX12_arms_432 : decode cX12_arms 432 = .ok (.invokevirtual 487, 3) := by decide +kernel
theorem dX12_arms_435 : decode cX12_arms 435 = .ok (.aload_n 0, 1) := by decide +kernel
theorem dX12_arms_436 : decode cX12_arms 436 = .ok (.bipush 125, 2) := by decide +kernel
theorem dX12_arms_438 : decode cX12_arms 438 = .ok (.invokevirtual 468, 3) := by decide +kernel
theorem dX12_arms_441 : decode cX12_arms 441 = .ok (.pop, 1) := by decide +kernel
theorem dX12_arms_442 : decode cX12_arms 442 = .ok (.aload_n 0, 1) := by decide +kernel
theorem dX12_arms_443 : decode cX12_arms 443 = .ok (.aload_n 0, 1) := by decide +kernel
theorem dX12_arms_444 : decode cX12_arms 444 = .ok (.getfield 195, 3) := by decide +kernel
theorem dX12_arms_447 : decode cX12_arms 447 = .ok (.iload_n 1, 1) := by decide +kernel
theorem dX12_arms_448 : decode cX12_arms 448 = .ok (.iaload, 1) := by decide +kernel
theorem dX12_arms_449 : decode cX12_arms 449 = .ok (.putfield 361, 3) := by decide +kernel
theorem dX12_arms_452 : decode cX12_arms 452 = .ok (.aload_n 0, 1) := by decide +kernel
theorem dX12_arms_453 : decode cX12_arms 453 = .ok (.getfield 177, 3) := by decide +kernel
theorem dX12_arms_456 : decode cX12_arms 456 = .ok (.iload_n 1, 1) := by decide +kernel
theorem dX12_arms_457 : decode cX12_arms 457 = .ok (.iconst 2, 1) := by decide +kernel
theorem dX12_arms_458 : decode cX12_arms 458 = .ok (.iastore, 1) := by decide +kernel
theorem dX12_arms_459 : decode cX12_arms 459 = .ok (.goto 25, 3) := by decide +kernel
theorem dX12_arms_462 : decode cX12_arms 462 = .ok (.aload_n 0, 1) := by decide +kernel
theorem dX12_arms_463 : decode cX12_arms 463 = .ok (.bipush 59, 2) := by decide +kernel
theorem dX12_arms_465 : decode cX12_arms 465 = .ok (.invokevirtual 355, 3) := by decide +kernel
theorem dX12_arms_468 : decode cX12_arms 468 = .ok (.pop, 1) := by decide +kernel
theorem dX12_arms_469 : decode cX12_arms 469 = .ok (.aload_n 0, 1) := by decide +kernel
theorem dX12_arms_470 : decode cX12_arms 470 = .ok (.bipush 30, 2) := by decide +kernel
theorem dX12_arms_472 : decode cX12_arms 472 = .ok (.iconst 0, 1) := by decide +kernel
theorem dX12_arms_473 : decode cX12_arms 473 = .ok (.invokevirtual 464, 3) := by decide +kernel
theorem dX12_arms_476 : decode cX12_arms 476 = .ok (.pop, 1) := by decide +kernel
theorem dX12_arms_477 : decode cX12_arms 477 = .ok (.aload_n 0, 1) := by decide +kernel
theorem dX12_arms_478 : decode cX12_arms 478 = .ok (.getfield 177, 3) := by decide +kernel
theorem dX12_arms_481 : decode cX12_arms 481 = .ok (.iload_n 1, 1) := by decide +kernel
theorem dX12_arms_482 : decode cX12_arms 482 = .ok (.iconst 2, 1) := by decide +kernel
theorem dX12_arms_483 : decode cX12_arms 483 = .ok (.iastore, 1) := by decide +kernel
theorem dX12_arms_484 : decode cX12_arms 484 = .ok (.return_, 1) := by decide +kernel
theorem dX12_list_0 : decode cX12_list 0 = .ok (.aload_n 0, 1) := by decide +kernel
theorem dX12_list_1 : decode cX12_list 1 = .ok (.getfield 177, 3) := by decide +kernel
theorem dX12_list_4 : decode cX12_list 4 = .ok (.iload_n 1, 1) := by decide +kernel
theorem dX12_list_5 : decode cX12_list 5 = .ok (.iaload, 1) := by decide +kernel
theorem dX12_list_6 : decode cX12_list 6 = .ok (.ifCond .ne 13, 3) := by decide +kernel
theorem dX12_list_9 : decode cX12_list 9 = .ok (.aload_n 0, 1) := by decide +kernel
theorem dX12_list_10 : decode cX12_list 10 = .ok (.getfield 180, 3) := by decide +kernel
theorem dX12_list_13 : decode cX12_list 13 = .ok (.iload_n 1, 1) := by decide +kernel
theorem dX12_list_14 : decode cX12_list 14 = .ok (.iconst 1, 1) := by decide +kernel
theorem dX12_list_15 : decode cX12_list 15 = .ok (.iastore, 1) := by decide +kernel
theorem dX12_list_16 : decode cX12_list 16 = .ok (.goto 21, 3) := by decide +kernel
theorem dX12_list_19 : decode cX12_list 19 = .ok (.aload_n 0, 1) := by decide +kernel
theorem dX12_list_20 : decode cX12_list 20 = .ok (.getfield 180, 3) := by decide +kernel
theorem dX12_list_23 : decode cX12_list 23 = .ok (.iload_n 1, 1) := by decide +kernel
theorem dX12_list_24 : decode cX12_list 24 = .ok (.aload_n 0, 1) := by decide +kernel
theorem dX12_list_25 : decode cX12_list 25 = .ok (.getfield 396, 3) := by decide +kernel
theorem dX12_list_28 : decode cX12_list 28 = .ok (.ifCond .eq 7, 3) := by decide +kernel
theorem dX12_list_31 : decode cX12_list 31 = .ok (.iconst 1, 1) := by decide +kernel
theorem dX12_list_32 : decode cX12_list 32 = .ok (.goto 4, 3) := by decide +kernel
theorem dX12_list_35 : decode cX12_list 35 = .ok (.iconst 0, 1) := by decide +kernel
theorem dX12_list_36 : decode cX12_list 36 = .ok (.iastore, 1) := by decide +kernel
theorem dX12_list_37 : decode cX12_list 37 = .ok (.aload_n 0, 1) := by decide +kernel
theorem dX12_list_38 : decode cX12_list 38 = .ok (.getfield 307, 3) := by decide +kernel
theorem dX12_list_41 : decode cX12_list 41 = .ok (.bipush 125, 2) := by decide +kernel
theorem dX12_list_43 : decode cX12_list 43 = .ok (.if_icmp .eq 30, 3) := by decide +kernel
theorem dX12_list_46 : decode cX12_list 46 = .ok (.aload_n 0, 1) := by decide +kernel
theorem dX12_list_47 : decode cX12_list 47 = .ok (.getfield 307, 3) := by decide +kernel
theorem dX12_list_50 : decode cX12_list 50 = .ok (.sipush 429, 3) := by decide +kernel
theorem dX12_list_53 : decode cX12_list 53 = .ok (.if_icmp .eq 20, 3) := by decide +kernel
theorem dX12_list_56 : decode cX12_list 56 = .ok (.aload_n 0, 1) := by decide +kernel
theorem dX12_list_57 : decode cX12_list 57 = .ok (.getfield 307, 3) := by decide +kernel
theorem dX12_list_60 : decode cX12_list 60 = .ok (.sipush 430, 3) := by decide +kernel
theorem dX12_list_63 : decode cX12_list 63 = .ok (.if_icmp .eq 10, 3) := by decide +kernel
theorem dX12_list_66 : decode cX12_list 66 = .ok (.aload_n 0, 1) := by decide +kernel
theorem dX12_list_67 : decode cX12_list 67 = .ok (.getfield 307, 3) := by decide +kernel
theorem dX12_list_70 : decode cX12_list 70 = .ok (.ifCond .ne 23, 3) := by decide +kernel
theorem dX12_list_73 : decode cX12_list 73 = .ok (.aload_n 0, 1) := by decide +kernel
theorem dX12_list_74 : decode cX12_list 74 = .ok (.aload_n 0, 1) := by decide +kernel
end
