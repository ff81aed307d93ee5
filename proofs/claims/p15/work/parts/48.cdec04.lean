theorem dX6_labelled_7 : decode cX6_labelled 7 = .ok (.iload_n 3, 1) := by decide +kernel
theorem dX6_labelled_8 : decode cX6_labelled 8 = .ok (.aload_n 0, 1) := by decide +kernel
theorem dX6_labelled_9 : decode cX6_labelled 9 = .ok (.getfield 31, 3) := by decide +kernel
theorem dX6_labelled_12 : decode cX6_labelled 12 = .ok (.if_icmp .le 44, 3) := by decide +kernel
theorem dX6_labelled_15 : decode cX6_labelled 15 = .ok (.aload_n 0, 1) := by decide +kernel
theorem dX6_labelled_16 : decode cX6_labelled 16 = .ok (.iload_n 3, 1) := by decide +kernel
theorem dX6_labelled_17 : decode cX6_labelled 17 = .ok (.invokevirtual 88, 3) := by decide +kernel
theorem dX6_labelled_20 : decode cX6_labelled 20 = .ok (.astore 4, 2) := by decide +kernel
theorem dX6_labelled_22 : decode cX6_labelled 22 = .ok (.aload 4, 2) := by decide +kernel
theorem dX6_labelled_24 : decode cX6_labelled 24 = .ok (.ifnull 26, 3) := by decide +kernel
theorem dX6_labelled_27 : decode cX6_labelled 27 = .ok (.aload 4, 2) := by decide +kernel
theorem dX6_labelled_29 : decode cX6_labelled 29 = .ok (.getfield 41, 3) := by decide +kernel
theorem dX6_labelled_32 : decode cX6_labelled 32 = .ok (.sipush 303, 3) := by decide +kernel
theorem dX6_labelled_35 : decode cX6_labelled 35 = .ok (.if_icmp .ne 15, 3) := by decide +kernel
theorem dX6_labelled_38 : decode cX6_labelled 38 = .ok (.aload 4, 2) := by decide +kernel
theorem dX6_labelled_40 : decode cX6_labelled 40 = .ok (.getfield 53, 3) := by decide +kernel
theorem dX6_labelled_43 : decode cX6_labelled 43 = .ok (.lload_n 1, 1) := by decide +kernel
theorem dX6_labelled_44 : decode cX6_labelled 44 = .ok (.lcmp, 1) := by decide +kernel
theorem dX6_labelled_45 : decode cX6_labelled 45 = .ok (.ifCond .ne 5, 3) := by decide +kernel
theorem dX6_labelled_48 : decode cX6_labelled 48 = .ok (.iload_n 3, 1) := by decide +kernel
theorem dX6_labelled_49 : decode cX6_labelled 49 = .ok (.ireturn, 1) := by decide +kernel
theorem dX6_labelled_50 : decode cX6_labelled 50 = .ok (.iinc 3 (-1), 3) := by decide +kernel
theorem dX6_labelled_53 : decode cX6_labelled 53 = .ok (.goto (-46), 3) := by decide +kernel
theorem dX6_labelled_56 : decode cX6_labelled 56 = .ok (.iconst (-1), 1) := by decide +kernel
theorem dX6_labelled_57 : decode cX6_labelled 57 = .ok (.ireturn, 1) := by decide +kernel
theorem dX6_loopBehind_0 : decode cX6_loopBehind 0 = .ok (.iload_n 1, 1) := by decide +kernel
theorem dX6_loopBehind_1 : decode cX6_loopBehind 1 = .ok (.iconst 1, 1) := by decide +kernel
theorem dX6_loopBehind_2 : decode cX6_loopBehind 2 = .ok (.iadd, 1) := by decide +kernel
theorem dX6_loopBehind_3 : decode cX6_loopBehind 3 = .ok (.istore_n 2, 1) := by decide +kernel
theorem dX6_loopBehind_4 : decode cX6_loopBehind 4 = .ok (.iload_n 2, 1) := by decide +kernel
theorem dX6_loopBehind_5 : decode cX6_loopBehind 5 = .ok (.aload_n 0, 1) := by decide +kernel
theorem dX6_loopBehind_6 : decode cX6_loopBehind 6 = .ok (.getfield 21, 3) := by decide +kernel
theorem dX6_loopBehind_9 : decode cX6_loopBehind 9 = .ok (.if_icmp .ge 46, 3) := by decide +kernel
theorem dX6_loopBehind_12 : decode cX6_loopBehind 12 = .ok (.aload_n 0, 1) := by decide +kernel
theorem dX6_loopBehind_13 : decode cX6_loopBehind 13 = .ok (.iload_n 2, 1) := by decide +kernel
theorem dX6_loopBehind_14 : decode cX6_loopBehind 14 = .ok (.invokevirtual 88, 3) := by decide +kernel
theorem dX6_loopBehind_17 : decode cX6_loopBehind 17 = .ok (.astore_n 3, 1) := by decide +kernel
theorem dX6_loopBehind_18 : decode cX6_loopBehind 18 = .ok (.aload_n 3, 1) := by decide +kernel
theorem dX6_loopBehind_19 : decode cX6_loopBehind 19 = .ok (.ifnull 13, 3) := by decide +kernel
theorem dX6_loopBehind_22 : decode cX6_loopBehind 22 = .ok (.aload_n 3, 1) := by decide +kernel
theorem dX6_loopBehind_23 : decode cX6_loopBehind 23 = .ok (.getfield 41, 3) := by decide +kernel
theorem dX6_loopBehind_26 : decode cX6_loopBehind 26 = .ok (.sipush 303, 3) := by decide +kernel
theorem dX6_loopBehind_29 : decode cX6_loopBehind 29 = .ok (.if_icmp .eq 20, 3) := by decide +kernel
theorem dX6_loopBehind_32 : decode cX6_loopBehind 32 = .ok (.aload_n 3, 1) := by decide +kernel
theorem dX6_loopBehind_33 : decode cX6_loopBehind 33 = .ok (.ifnull 14, 3) := by decide +kernel
theorem dX6_loopBehind_36 : decode cX6_loopBehind 36 = .ok (.aload_n 3, 1) := by decide +kernel
theorem dX6_loopBehind_37 : decode cX6_loopBehind 37 = .ok (.invokevirtual 92, 3) := by decide +kernel
theorem dX6_loopBehind_40 : decode cX6_loopBehind 40 = .ok (.ifCond .eq 7, 3) := by decide +kernel
theorem dX6_loopBehind_43 : decode cX6_loopBehind 43 = .ok (.iload_n 2, 1) := by decide +kernel
theorem dX6_loopBehind_44 : decode cX6_loopBehind 44 = .ok (.goto 4, 3) := by decide +kernel
theorem dX6_loopBehind_47 : decode cX6_loopBehind 47 = .ok (.iconst (-1), 1) := by decide +kernel
theorem dX6_loopBehind_48 : decode cX6_loopBehind 48 = .ok (.ireturn, 1) := by decide +kernel
theorem dX6_loopBehind_49 : decode cX6_loopBehind 49 = .ok (.iinc 2 1, 3) := by decide +kernel
theorem dX6_loopBehind_52 : decode cX6_loopBehind 52 = .ok (.goto (-48), 3) := by decide +kernel
theorem dX6_loopBehind_55 : decode cX6_loopBehind 55 = .ok (.iconst (-1), 1) := by decide +kernel
theorem dX6_loopBehind_56 : decode cX6_loopBehind 56 = .ok (.ireturn, 1) := by decide +kernel
theorem dX6_addJump_0 : decode cX6_addJump 0 = .ok (.aload_n 0, 1) := by decide +kernel
theorem dX6_addJump_1 : decode cX6_addJump 1 = .ok (.getfield 17, 3) := by decide +kernel
theorem dX6_addJump_4 : decode cX6_addJump 4 = .ok (.aload_n 0, 1) := by decide +kernel
theorem dX6_addJump_5 : decode cX6_addJump 5 = .ok (.getfield 28, 3) := by decide +kernel
theorem dX6_addJump_8 : decode cX6_addJump 8 = .ok (.aload_n 1, 1) := by decide +kernel
theorem dX6_addJump_9 : decode cX6_addJump 9 = .ok (.iload_n 2, 1) := by decide +kernel
theorem dX6_addJump_10 : decode cX6_addJump 10 = .ok (.invokestatic 96, 3) := by decide +kernel
theorem dX6_addJump_13 : decode cX6_addJump 13 = .ok (.invokestatic 100, 3) := by decide +kernel
theorem dX6_addJump_16 : decode cX6_addJump 16 = .ok (.aload_n 0, 1) := by decide +kernel
theorem dX6_addJump_17 : decode cX6_addJump 17 = .ok (.dup, 1) := by decide +kernel
theorem dX6_addJump_18 : decode cX6_addJump 18 = .ok (.getfield 28, 3) := by decide +kernel
theorem dX6_addJump_21 : decode cX6_addJump 21 = .ok (.iconst 1, 1) := by decide +kernel
theorem dX6_addJump_22 : decode cX6_addJump 22 = .ok (.iadd, 1) := by decide +kernel
theorem dX6_addJump_23 : decode cX6_addJump 23 = .ok (.putfield 28, 3) := by decide +kernel
theorem dX6_addJump_26 : decode cX6_addJump 26 = .ok (.return_, 1) := by decide +kernel
theorem dX6_isGoneTo_0 : decode cX6_isGoneTo 0 = .ok (.aload_n 1, 1) := by decide +kernel
theorem dX6_isGoneTo_1 : decode cX6_isGoneTo 1 = .ok (.getfield 82, 3) := by decide +kernel
theorem dX6_isGoneTo_4 : decode cX6_isGoneTo 4 = .ok (.istore_n 3, 1) := by decide +kernel
theorem dX6_isGoneTo_5 : decode cX6_isGoneTo 5 = .ok (.iload_n 3, 1) := by decide +kernel
theorem dX6_isGoneTo_6 : decode cX6_isGoneTo 6 = .ok (.aload_n 0, 1) := by decide +kernel
theorem dX6_isGoneTo_7 : decode cX6_isGoneTo 7 = .ok (.getfield 28, 3) := by decide +kernel
theorem dX6_isGoneTo_10 : decode cX6_isGoneTo 10 = .ok (.if_icmp .ge 27, 3) := by decide +kernel
theorem dX6_isGoneTo_13 : decode cX6_isGoneTo 13 = .ok (.aload_n 0, 1) := by decide +kernel
theorem dX6_isGoneTo_14 : decode cX6_isGoneTo 14 = .ok (.getfield 17, 3) := by decide +kernel
theorem dX6_isGoneTo_17 : decode cX6_isGoneTo 17 = .ok (.iload_n 3, 1) := by decide +kernel
theorem dX6_isGoneTo_18 : decode cX6_isGoneTo 18 = .ok (.invokestatic 104, 3) := by decide +kernel
theorem dX6_isGoneTo_21 : decode cX6_isGoneTo 21 = .ok (.aload_n 1, 1) := by decide +kernel
theorem dX6_isGoneTo_22 : decode cX6_isGoneTo 22 = .ok (.iload_n 2, 1) := by decide +kernel
theorem dX6_isGoneTo_23 : decode cX6_isGoneTo 23 = .ok (.invokestatic 96, 3) := by decide +kernel
theorem dX6_isGoneTo_26 : decode cX6_isGoneTo 26 = .ok (.if_icmp .ne 5, 3) := by decide +kernel
theorem dX6_isGoneTo_29 : decode cX6_isGoneTo 29 = .ok (.iconst 1, 1) := by decide +kernel
theorem dX6_isGoneTo_30 : decode cX6_isGoneTo 30 = .ok (.ireturn, 1) := by decide +kernel
theorem dX6_isGoneTo_31 : decode cX6_isGoneTo 31 = .ok (.iinc 3 1, 3) := by decide +kernel
theorem dX6_isGoneTo_34 : decode cX6_isGoneTo 34 = .ok (.goto (-29), 3) := by decide +kernel
theorem dX6_isGoneTo_37 : decode cX6_isGoneTo 37 = .ok (.iconst 0, 1) := by decide +kernel
theorem dX6_isGoneTo_38 : decode cX6_isGoneTo 38 = .ok (.ireturn, 1) := by decide +kernel
theorem dX6_jumpTo_0 : decode cX6_jumpTo 0 = .ok (.iconst 2, 1) := by decide +kernel
theorem dX6_jumpTo_1 : decode cX6_jumpTo 1 = .ok (.aload_n 0, 1) := by decide +kernel
theorem dX6_jumpTo_2 : decode cX6_jumpTo 2 = .ok (.getfield 44, 3) := by decide +kernel
theorem dX6_jumpTo_5 : decode cX6_jumpTo 5 = .ok (.imul, 1) := by decide +kernel
theorem dX6_jumpTo_6 : decode cX6_jumpTo 6 = .ok (.iload_n 1, 1) := by decide +kernel
theorem dX6_jumpTo_7 : decode cX6_jumpTo 7 = .ok (.ifCond .eq 7, 3) := by decide +kernel
theorem dX6_jumpTo_10 : decode cX6_jumpTo 10 = .ok (.iconst 1, 1) := by decide +kernel
theorem dX6_jumpTo_11 : decode cX6_jumpTo 11 = .ok (.goto 4, 3) := by decide +kernel
theorem dX6_jumpTo_14 : decode cX6_jumpTo 14 = .ok (.iconst 0, 1) := by decide +kernel
theorem dX6_jumpTo_15 : decode cX6_jumpTo 15 = .ok (.iadd, 1) := by decide +kernel
theorem dX6_jumpTo_16 : decode cX6_jumpTo 16 = .ok (.ireturn, 1) := by decide +kernel
theorem dX6_loseJumps_0 : decode cX6_loseJumps 0 = .ok (.iload_n 1, 1) := by decide +kernel
theorem dX6_loseJumps_1 : decode cX6_loseJumps 1 = .ok (.istore_n 3, 1) := by decide +kernel
theorem dX6_loseJumps_2 : decode cX6_loseJumps 2 = .ok (.iload_n 3, 1) := by decide +kernel
theorem dX6_loseJumps_3 : decode cX6_loseJumps 3 = .ok (.iload_n 2, 1) := by decide +kernel
theorem dX6_loseJumps_4 : decode cX6_loseJumps 4 = .ok (.if_icmp .ge 18, 3) := by decide +kernel
theorem dX6_loseJumps_7 : decode cX6_loseJumps 7 = .ok (.aload_n 0, 1) := by decide +kernel
theorem dX6_loseJumps_8 : decode cX6_loseJumps 8 = .ok (.getfield 17, 3) := by decide +kernel
theorem dX6_loseJumps_11 : decode cX6_loseJumps 11 = .ok (.iload_n 3, 1) := by decide +kernel
theorem dX6_loseJumps_12 : decode cX6_loseJumps 12 = .ok (.iconst 0, 1) := by decide +kernel
theorem dX6_loseJumps_13 : decode cX6_loseJumps 13 = .ok (.invokestatic 100, 3) := by decide +kernel
theorem dX6_loseJumps_16 : decode cX6_loseJumps 16 = .ok (.iinc 3 1, 3) := by decide +kernel
theorem dX6_loseJumps_19 : decode cX6_loseJumps 19 = .ok (.goto (-17), 3) := by decide +kernel
theorem dX6_loseJumps_22 : decode cX6_loseJumps 22 = .ok (.return_, 1) := by decide +kernel
theorem dX7_notReached_0 : decode cX7_notReached 0 = .ok (.aload_n 0, 1) := by decide +kernel
theorem dX7_notReached_1 : decode cX7_notReached 1 = .ok (.getfield 65, 3) := by decide +kernel
theorem dX7_notReached_4 : decode cX7_notReached 4 = .ok (.ifCond .ge 8, 3) := by decide +kernel
theorem dX7_notReached_7 : decode cX7_notReached 7 = .ok (.aload_n 0, 1) := by decide +kernel
theorem dX7_notReached_8 : decode cX7_notReached 8 = .ok (.iload_n 1, 1) := by decide +kernel
theorem dX7_notReached_9 : decode cX7_notReached 9 = .ok (.putfield 65, 3) := by decide +kernel
theorem dX7_notReached_12 : decode cX7_notReached 12 = .ok (.return_, 1) := by decide +kernel
theorem dX7_newName_0 : decode cX7_newName 0 = .ok (.aload_n 0, 1) := by decide +kernel
theorem dX7_newName_1 : decode cX7_newName 1 = .ok (.getfield 71, 3) := by decide +kernel
theorem dX7_newName_4 : decode cX7_newName 4 = .ok (.getfield 181, 3) := by decide +kernel
theorem dX7_newName_7 : decode cX7_newName 7 = .ok (.lstore_n 1, 1) := by decide +kernel
theorem dX7_newName_8 : decode cX7_newName 8 = .ok (.aload_n 0, 1) := by decide +kernel
theorem dX7_newName_9 : decode cX7_newName 9 = .ok (.iconst 2, 1) := by decide +kernel
theorem dX7_newName_10 : decode cX7_newName 10 = .ok (.invokevirtual 110, 3) := by decide +kernel
theorem dX7_newName_13 : decode cX7_newName 13 = .ok (.ifCond .ne 10, 3) := by decide +kernel
theorem dX7_newName_16 : decode cX7_newName 16 = .ok (.aload_n 0, 1) := by decide +kernel
theorem dX7_newName_17 : decode cX7_newName 17 = .ok (.invokevirtual 161, 3) := by decide +kernel
theorem dX7_newName_20 : decode cX7_newName 20 = .ok (.goto 36, 3) := by decide +kernel
theorem dX7_newName_23 : decode cX7_newName 23 = .ok (.aload_n 0, 1) := by decide +kernel
theorem dX7_newName_24 : decode cX7_newName 24 = .ok (.getfield 29, 3) := by decide +kernel
theorem dX7_newName_27 : decode cX7_newName 27 = .ok (.lload_n 1, 1) := by decide +kernel
theorem dX7_newName_28 : decode cX7_newName 28 = .ok (.invokevirtual 199, 3) := by decide +kernel
theorem dX7_newName_31 : decode cX7_newName 31 = .ok (.ifCond .lt 18, 3) := by decide +kernel
theorem dX7_newName_34 : decode cX7_newName 34 = .ok (.aload_n 0, 1) := by decide +kernel
theorem dX7_newName_35 : decode cX7_newName 35 = .ok (.iconst 4, 1) := by decide +kernel
theorem dX7_newName_36 : decode cX7_newName 36 = .ok (.aload_n 0, 1) := by decide +kernel
theorem dX7_newName_37 : decode cX7_newName 37 = .ok (.getfield 71, 3) := by decide +kernel
theorem dX7_newName_40 : decode cX7_newName 40 = .ok (.getfield 143, 3) := by decide +kernel
theorem dX7_newName_43 : decode cX7_newName 43 = .ok (.invokevirtual 88, 3) := by decide +kernel
theorem dX7_newName_46 : decode cX7_newName 46 = .ok (.goto 10, 3) := by decide +kernel
theorem dX7_newName_49 : decode cX7_newName 49 = .ok (.aload_n 0, 1) := by decide +kernel
theorem dX7_newName_50 : decode cX7_newName 50 = .ok (.getfield 71, 3) := by decide +kernel
theorem dX7_newName_53 : decode cX7_newName 53 = .ok (.invokevirtual 146, 3) := by decide +kernel
theorem dX7_newName_56 : decode cX7_newName 56 = .ok (.lload_n 1, 1) := by decide +kernel
theorem dX7_newName_57 : decode cX7_newName 57 = .ok (.lreturn, 1) := by decide +kernel
theorem dX7_tell_0 : decode cX7_tell 0 = .ok (.aload_n 0, 1) := by decide +kernel
theorem dX7_tell_1 : decode cX7_tell 1 = .ok (.getfield 20, 3) := by decide +kernel
theorem dX7_tell_4 : decode cX7_tell 4 = .ok (.iconst 1, 1) := by decide +kernel
theorem dX7_tell_5 : decode cX7_tell 5 = .ok (.invokevirtual 41, 3) := by decide +kernel
theorem dX7_tell_8 : decode cX7_tell 8 = .ok (.istore_n 3, 1) := by decide +kernel
theorem dX7_tell_9 : decode cX7_tell 9 = .ok (.aload_n 0, 1) := by decide +kernel
theorem dX7_tell_10 : decode cX7_tell 10 = .ok (.getfield 29, 3) := by decide +kernel
theorem dX7_tell_13 : decode cX7_tell 13 = .ok (.lload_n 1, 1) := by decide +kernel
theorem dX7_tell_14 : decode cX7_tell 14 = .ok (.iload_n 3, 1) := by decide +kernel
theorem dX7_tell_15 : decode cX7_tell 15 = .ok (.iconst (-1), 1) := by decide +kernel
theorem dX7_tell_16 : decode cX7_tell 16 = .ok (.invokevirtual 45, 3) := by decide +kernel
theorem dX7_tell_19 : decode cX7_tell 19 = .ok (.aload_n 0, 1) := by decide +kernel
theorem dX7_tell_20 : decode cX7_tell 20 = .ok (.getfield 20, 3) := by decide +kernel
theorem dX7_tell_23 : decode cX7_tell 23 = .ok (.dup, 1) := by decide +kernel
theorem dX7_tell_24 : decode cX7_tell 24 = .ok (.getfield 267, 3) := by decide +kernel
theorem dX7_tell_27 : decode cX7_tell 27 = .ok (.iconst 1, 1) := by decide +kernel
theorem dX7_tell_28 : decode cX7_tell 28 = .ok (.iadd, 1) := by decide +kernel
theorem dX7_tell_29 : decode cX7_tell 29 = .ok (.putfield 267, 3) := by decide +kernel
theorem dX7_tell_32 : decode cX7_tell 32 = .ok (.iload_n 3, 1) := by decide +kernel
theorem dX7_tell_33 : decode cX7_tell 33 = .ok (.ireturn, 1) := by decide +kernel
theorem dX7_jump_0 : decode cX7_jump 0 = .ok (.aload_n 0, 1) := by decide +kernel
theorem dX7_jump_1 : decode cX7_jump 1 = .ok (.sipush 209, 3) := by decide +kernel
theorem dX7_jump_4 : decode cX7_jump 4 = .ok (.invokevirtual 110, 3) := by decide +kernel
theorem dX7_jump_7 : decode cX7_jump 7 = .ok (.istore_n 1, 1) := by decide +kernel
theorem dX7_jump_8 : decode cX7_jump 8 = .ok (.aload_n 0, 1) := by decide +kernel
theorem dX7_jump_9 : decode cX7_jump 9 = .ok (.getfield 71, 3) := by decide +kernel
theorem dX7_jump_12 : decode cX7_jump 12 = .ok (.getfield 143, 3) := by decide +kernel
theorem dX7_jump_15 : decode cX7_jump 15 = .ok (.istore_n 2, 1) := by decide +kernel
theorem dX7_jump_16 : decode cX7_jump 16 = .ok (.aload_n 0, 1) := by decide +kernel
theorem dX7_jump_17 : decode cX7_jump 17 = .ok (.getfield 20, 3) := by decide +kernel
theorem dX7_jump_20 : decode cX7_jump 20 = .ok (.dup, 1) := by decide +kernel
theorem dX7_jump_21 : decode cX7_jump 21 = .ok (.getfield 270, 3) := by decide +kernel
theorem dX7_jump_24 : decode cX7_jump 24 = .ok (.iconst 1, 1) := by decide +kernel
theorem dX7_jump_25 : decode cX7_jump 25 = .ok (.iadd, 1) := by decide +kernel
theorem dX7_jump_26 : decode cX7_jump 26 = .ok (.putfield 270, 3) := by decide +kernel
theorem dX7_jump_29 : decode cX7_jump 29 = .ok (.aload_n 0, 1) := by decide +kernel
theorem dX7_jump_30 : decode cX7_jump 30 = .ok (.getfield 71, 3) := by decide +kernel
theorem dX7_jump_33 : decode cX7_jump 33 = .ok (.invokevirtual 146, 3) := by decide +kernel
theorem dX7_jump_36 : decode cX7_jump 36 = .ok (.aload_n 0, 1) := by decide +kernel
theorem dX7_jump_37 : decode cX7_jump 37 = .ok (.iconst 2, 1) := by decide +kernel
theorem dX7_jump_38 : decode cX7_jump 38 = .ok (.invokevirtual 110, 3) := by decide +kernel
theorem dX7_jump_41 : decode cX7_jump 41 = .ok (.ifCond .eq 12, 3) := by decide +kernel
theorem dX7_jump_44 : decode cX7_jump 44 = .ok (.aload_n 0, 1) := by decide +kernel
theorem dX7_jump_45 : decode cX7_jump 45 = .ok (.iload_n 1, 1) := by decide +kernel
theorem dX7_jump_46 : decode cX7_jump 46 = .ok (.invokevirtual 273, 3) := by decide +kernel
theorem dX7_jump_49 : decode cX7_jump 49 = .ok (.istore_n 3, 1) := by decide +kernel
theorem dX7_jump_50 : decode cX7_jump 50 = .ok (.goto 22, 3) := by decide +kernel
theorem dX7_jump_53 : decode cX7_jump 53 = .ok (.aload_n 0, 1) := by decide +kernel
theorem dX7_jump_54 : decode cX7_jump 54 = .ok (.getfield 14, 3) := by decide +kernel
theorem dX7_jump_57 : decode cX7_jump 57 = .ok (.iload_n 1, 1) := by decide +kernel
theorem dX7_jump_58 : decode cX7_jump 58 = .ok (.invokevirtual 277, 3) := by decide +kernel
theorem dX7_jump_61 : decode cX7_jump 61 = .ok (.istore_n 3, 1) := by decide +kernel
theorem dX7_jump_62 : decode cX7_jump 62 = .ok (.iload_n 3, 1) := by decide +kernel
theorem dX7_jump_63 : decode cX7_jump 63 = .ok (.ifCond .ge 9, 3) := by decide +kernel
theorem dX7_jump_66 : decode cX7_jump 66 = .ok (.aload_n 0, 1) := by decide +kernel
theorem dX7_jump_67 : decode cX7_jump 67 = .ok (.iconst 5, 1) := by decide +kernel
theorem dX7_jump_68 : decode cX7_jump 68 = .ok (.iload_n 2, 1) := by decide +kernel
theorem dX7_jump_69 : decode cX7_jump 69 = .ok (.invokevirtual 88, 3) := by decide +kernel
theorem dX7_jump_72 : decode cX7_jump 72 = .ok (.aload_n 0, 1) := by decide +kernel
theorem dX7_jump_73 : decode cX7_jump 73 = .ok (.bipush 59, 2) := by decide +kernel
theorem dX7_jump_75 : decode cX7_jump 75 = .ok (.invokevirtual 155, 3) := by decide +kernel
theorem dX7_jump_78 : decode cX7_jump 78 = .ok (.aload_n 0, 1) := by decide +kernel
theorem dX7_jump_79 : decode cX7_jump 79 = .ok (.getfield 14, 3) := by decide +kernel
theorem dX7_jump_82 : decode cX7_jump 82 = .ok (.iload_n 3, 1) := by decide +kernel
theorem dX7_jump_83 : decode cX7_jump 83 = .ok (.invokevirtual 93, 3) := by decide +kernel
theorem dX7_jump_86 : decode cX7_jump 86 = .ok (.astore 4, 2) := by decide +kernel
theorem dX7_jump_88 : decode cX7_jump 88 = .ok (.aload 4, 2) := by decide +kernel
theorem dX7_jump_90 : decode cX7_jump 90 = .ok (.ifnull 39, 3) := by decide +kernel
theorem dX7_jump_93 : decode cX7_jump 93 = .ok (.aload_n 0, 1) := by decide +kernel
theorem dX7_jump_94 : decode cX7_jump 94 = .ok (.getfield 14, 3) := by decide +kernel
theorem dX7_jump_97 : decode cX7_jump 97 = .ok (.aload 4, 2) := by decide +kernel
theorem dX7_jump_99 : decode cX7_jump 99 = .ok (.iload_n 1, 1) := by decide +kernel
theorem dX7_jump_100 : decode cX7_jump 100 = .ok (.invokevirtual 280, 3) := by decide +kernel
theorem dX7_jump_103 : decode cX7_jump 103 = .ok (.aload_n 0, 1) := by decide +kernel
theorem dX7_jump_104 : decode cX7_jump 104 = .ok (.iload_n 1, 1) := by decide +kernel
theorem dX7_jump_105 : decode cX7_jump 105 = .ok (.ifCond .eq 11, 3) := by decide +kernel
theorem dX7_jump_108 : decode cX7_jump 108 = .ok (.aload 4, 2) := by decide +kernel
theorem dX7_jump_110 : decode cX7_jump 110 = .ok (.getfield 284, 3) := by decide +kernel
theorem dX7_jump_113 : decode cX7_jump 113 = .ok (.goto 8, 3) := by decide +kernel
theorem dX7_jump_116 : decode cX7_jump 116 = .ok (.aload 4, 2) := by decide +kernel
theorem dX7_jump_118 : decode cX7_jump 118 = .ok (.getfield 196, 3) := by decide +kernel
theorem dX7_jump_121 : decode cX7_jump 121 = .ok (.aload 4, 2) := by decide +kernel
theorem dX7_jump_123 : decode cX7_jump 123 = .ok (.getfield 287, 3) := by decide +kernel
theorem dX7_jump_126 : decode cX7_jump 126 = .ok (.invokevirtual 288, 3) := by decide +kernel
theorem dX7_jump_129 : decode cX7_jump 129 = .ok (.aload_n 0, 1) := by decide +kernel
theorem dX7_jump_130 : decode cX7_jump 130 = .ok (.iconst 0, 1) := by decide +kernel
theorem dX7_jump_131 : decode cX7_jump 131 = .ok (.putfield 61, 3) := by decide +kernel
theorem dX7_jump_134 : decode cX7_jump 134 = .ok (.return_, 1) := by decide +kernel
theorem dX7_labelTarget_0 : decode cX7_labelTarget 0 = .ok (.aload_n 0, 1) := by decide +kernel
theorem dX7_labelTarget_1 : decode cX7_labelTarget 1 = .ok (.getfield 14, 3) := by decide +kernel
theorem dX7_labelTarget_4 : decode cX7_labelTarget 4 = .ok (.aload_n 0, 1) := by decide +kernel
theorem dX7_labelTarget_5 : decode cX7_labelTarget 5 = .ok (.getfield 71, 3) := by decide +kernel
theorem dX7_labelTarget_8 : decode cX7_labelTarget 8 = .ok (.getfield 181, 3) := by decide +kernel
theorem dX7_labelTarget_11 : decode cX7_labelTarget 11 = .ok (.invokevirtual 189, 3) := by decide +kernel
theorem dX7_labelTarget_14 : decode cX7_labelTarget 14 = .ok (.istore_n 2, 1) := by decide +kernel
theorem dX7_labelTarget_15 : decode cX7_labelTarget 15 = .ok (.iload_n 2, 1) := by decide +kernel
theorem dX7_labelTarget_16 : decode cX7_labelTarget 16 = .ok (.ifCond .ge 18, 3) := by decide +kernel
theorem dX7_labelTarget_19 : decode cX7_labelTarget 19 = .ok (.aload_n 0, 1) := by decide +kernel
theorem dX7_labelTarget_20 : decode cX7_labelTarget 20 = .ok (.iconst 3, 1) := by decide +kernel
theorem dX7_labelTarget_21 : decode cX7_labelTarget 21 = .ok (.aload_n 0, 1) := by decide +kernel
theorem dX7_labelTarget_22 : decode cX7_labelTarget 22 = .ok (.getfield 71, 3) := by decide +kernel
theorem dX7_labelTarget_25 : decode cX7_labelTarget 25 = .ok (.getfield 143, 3) := by decide +kernel
theorem dX7_labelTarget_28 : decode cX7_labelTarget 28 = .ok (.invokevirtual 88, 3) := by decide +kernel
theorem dX7_labelTarget_31 : decode cX7_labelTarget 31 = .ok (.goto 32, 3) := by decide +kernel
theorem dX7_labelTarget_34 : decode cX7_labelTarget 34 = .ok (.iload_n 1, 1) := by decide +kernel
theorem dX7_labelTarget_35 : decode cX7_labelTarget 35 = .ok (.ifCond .eq 28, 3) := by decide +kernel
theorem dX7_labelTarget_38 : decode cX7_labelTarget 38 = .ok (.aload_n 0, 1) := by decide +kernel
theorem dX7_labelTarget_39 : decode cX7_labelTarget 39 = .ok (.getfield 14, 3) := by decide +kernel
theorem dX7_labelTarget_42 : decode cX7_labelTarget 42 = .ok (.iload_n 2, 1) := by decide +kernel
theorem dX7_labelTarget_43 : decode cX7_labelTarget 43 = .ok (.invokevirtual 291, 3) := by decide +kernel
theorem dX7_labelTarget_46 : decode cX7_labelTarget 46 = .ok (.istore_n 2, 1) := by decide +kernel
theorem dX7_labelTarget_47 : decode cX7_labelTarget 47 = .ok (.iload_n 2, 1) := by decide +kernel
theorem dX7_labelTarget_48 : decode cX7_labelTarget 48 = .ok (.ifCond .ge 15, 3) := by decide +kernel
theorem dX7_labelTarget_51 : decode cX7_labelTarget 51 = .ok (.aload_n 0, 1) := by decide +kernel
theorem dX7_labelTarget_52 : decode cX7_labelTarget 52 = .ok (.iconst 5, 1) := by decide +kernel
theorem dX7_labelTarget_53 : decode cX7_labelTarget 53 = .ok (.aload_n 0, 1) := by decide +kernel
theorem dX7_labelTarget_54 : decode cX7_labelTarget 54 = .ok (.getfield 71, 3) := by decide +kernel
theorem dX7_labelTarget_57 : decode cX7_labelTarget 57 = .ok (.getfield 143, 3) := by decide +kernel
theorem dX7_labelTarget_60 : decode cX7_labelTarget 60 = .ok (.invokevirtual 88, 3) := by decide +kernel
theorem dX7_labelTarget_63 : decode cX7_labelTarget 63 = .ok (.aload_n 0, 1) := by decide +kernel
theorem dX7_labelTarget_64 : decode cX7_labelTarget 64 = .ok (.getfield 71, 3) := by decide +kernel
theorem dX7_labelTarget_67 : decode cX7_labelTarget 67 = .ok (.invokevirtual 146, 3) := by decide +kernel
theorem dX7_labelTarget_70 : decode cX7_labelTarget 70 = .ok (.iload_n 2, 1) := by decide +kernel
theorem dX7_labelTarget_71 : decode cX7_labelTarget 71 = .ok (.ireturn, 1) := by decide +kernel
theorem dX7_leave_0 : decode cX7_leave 0 = .ok (.iload_n 2, 1) := by decide +kernel
theorem dX7_leave_1 : decode cX7_leave 1 = .ok (.aload_n 0, 1) := by decide +kernel
theorem dX7_leave_2 : decode cX7_leave 2 = .ok (.getfield 68, 3) := by decide +kernel
theorem dX7_leave_5 : decode cX7_leave 5 = .ok (.if_icmp .ne 16, 3) := by decide +kernel
theorem dX7_leave_8 : decode cX7_leave 8 = .ok (.aload_n 0, 1) := by decide +kernel
theorem dX7_leave_9 : decode cX7_leave 9 = .ok (.getfield 20, 3) := by decide +kernel
theorem dX7_leave_12 : decode cX7_leave 12 = .ok (.bipush 30, 2) := by decide +kernel
theorem dX7_leave_14 : decode cX7_leave 14 = .ok (.iload_n 1, 1) := by decide +kernel
theorem dX7_leave_15 : decode cX7_leave 15 = .ok (.invokevirtual 176, 3) := by decide +kernel
theorem dX7_leave_18 : decode cX7_leave 18 = .ok (.goto 18, 3) := by decide +kernel
theorem dX7_leave_21 : decode cX7_leave 21 = .ok (.aload_n 0, 1) := by decide +kernel
theorem dX7_leave_22 : decode cX7_leave 22 = .ok (.getfield 20, 3) := by decide +kernel
theorem dX7_leave_25 : decode cX7_leave 25 = .ok (.bipush 60, 2) := by decide +kernel
theorem dX7_leave_27 : decode cX7_leave 27 = .ok (.iload_n 1, 1) := by decide +kernel
theorem dX7_leave_28 : decode cX7_leave 28 = .ok (.bipush 32, 2) := by decide +kernel
theorem dX7_leave_30 : decode cX7_leave 30 = .ok (.imul, 1) := by decide +kernel
theorem dX7_leave_31 : decode cX7_leave 31 = .ok (.iload_n 2, 1) := by decide +kernel
theorem dX7_leave_32 : decode cX7_leave 32 = .ok (.iadd, 1) := by decide +kernel
theorem dX7_leave_33 : decode cX7_leave 33 = .ok (.invokevirtual 176, 3) := by decide +kernel
theorem dX7_leave_36 : decode cX7_leave 36 = .ok (.return_, 1) := by decide +kernel
theorem dX7_pushLoop_0 : decode cX7_pushLoop 0 = .ok (.aload_n 0, 1) := by decide +kernel
theorem dX7_pushLoop_1 : decode cX7_pushLoop 1 = .ok (.getfield 14, 3) := by decide +kernel
theorem dX7_pushLoop_4 : decode cX7_pushLoop 4 = .ok (.iload_n 1, 1) := by decide +kernel
theorem dX7_pushLoop_5 : decode cX7_pushLoop 5 = .ok (.aload_n 0, 1) := by decide +kernel
theorem dX7_pushLoop_6 : decode cX7_pushLoop 6 = .ok (.getfield 68, 3) := by decide +kernel
theorem dX7_pushLoop_9 : decode cX7_pushLoop 9 = .ok (.aload_n 0, 1) := by decide +kernel
theorem dX7_pushLoop_10 : decode cX7_pushLoop 10 = .ok (.getfield 29, 3) := by decide +kernel
theorem dX7_pushLoop_13 : decode cX7_pushLoop 13 = .ok (.getfield 33, 3) := by decide +kernel
theorem dX7_pushLoop_16 : decode cX7_pushLoop 16 = .ok (.invokevirtual 81, 3) := by decide +kernel
theorem dX7_pushLoop_19 : decode cX7_pushLoop 19 = .ok (.astore 4, 2) := by decide +kernel
theorem dX7_pushLoop_21 : decode cX7_pushLoop 21 = .ok (.aload 4, 2) := by decide +kernel
theorem dX7_pushLoop_23 : decode cX7_pushLoop 23 = .ok (.iload_n 2, 1) := by decide +kernel
theorem dX7_pushLoop_24 : decode cX7_pushLoop 24 = .ok (.putfield 284, 3) := by decide +kernel
theorem dX7_pushLoop_27 : decode cX7_pushLoop 27 = .ok (.aload 4, 2) := by decide +kernel
theorem dX7_pushLoop_29 : decode cX7_pushLoop 29 = .ok (.iload_n 3, 1) := by decide +kernel
theorem dX7_pushLoop_30 : decode cX7_pushLoop 30 = .ok (.putfield 196, 3) := by decide +kernel
theorem dX7_pushLoop_33 : decode cX7_pushLoop 33 = .ok (.aload 4, 2) := by decide +kernel
theorem dX7_pushLoop_35 : decode cX7_pushLoop 35 = .ok (.areturn, 1) := by decide +kernel
theorem dX7_beginDo_0 : decode cX7_beginDo 0 = .ok (.aload_n 0, 1) := by decide +kernel
theorem dX7_beginDo_1 : decode cX7_beginDo 1 = .ok (.sipush 206, 3) := by decide +kernel
theorem dX7_beginDo_4 : decode cX7_beginDo 4 = .ok (.aload_n 0, 1) := by decide +kernel
theorem dX7_beginDo_5 : decode cX7_beginDo 5 = .ok (.getfield 20, 3) := by decide +kernel
theorem dX7_beginDo_8 : decode cX7_beginDo 8 = .ok (.invokevirtual 136, 3) := by decide +kernel
theorem dX7_beginDo_11 : decode cX7_beginDo 11 = .ok (.aload_n 0, 1) := by decide +kernel
theorem dX7_beginDo_12 : decode cX7_beginDo 12 = .ok (.getfield 20, 3) := by decide +kernel
theorem dX7_beginDo_15 : decode cX7_beginDo 15 = .ok (.invokevirtual 136, 3) := by decide +kernel
theorem dX7_beginDo_18 : decode cX7_beginDo 18 = .ok (.invokevirtual 321, 3) := by decide +kernel
theorem dX7_beginDo_21 : decode cX7_beginDo 21 = .ok (.astore_n 1, 1) := by decide +kernel
theorem dX7_beginDo_22 : decode cX7_beginDo 22 = .ok (.aload_n 1, 1) := by decide +kernel
theorem dX7_beginDo_23 : decode cX7_beginDo 23 = .ok (.aload_n 0, 1) := by decide +kernel
theorem dX7_beginDo_24 : decode cX7_beginDo 24 = .ok (.getfield 20, 3) := by decide +kernel
theorem dX7_beginDo_27 : decode cX7_beginDo 27 = .ok (.invokevirtual 136, 3) := by decide +kernel
theorem dX7_beginDo_30 : decode cX7_beginDo 30 = .ok (.putfield 140, 3) := by decide +kernel
theorem dX7_beginDo_33 : decode cX7_beginDo 33 = .ok (.aload_n 0, 1) := by decide +kernel
theorem dX7_beginDo_34 : decode cX7_beginDo 34 = .ok (.getfield 71, 3) := by decide +kernel
theorem dX7_beginDo_37 : decode cX7_beginDo 37 = .ok (.invokevirtual 146, 3) := by decide +kernel
theorem dX7_beginDo_40 : decode cX7_beginDo 40 = .ok (.aload_n 0, 1) := by decide +kernel
theorem dX7_beginDo_41 : decode cX7_beginDo 41 = .ok (.getfield 20, 3) := by decide +kernel
theorem dX7_beginDo_44 : decode cX7_beginDo 44 = .ok (.aload_n 1, 1) := by decide +kernel
theorem dX7_beginDo_45 : decode cX7_beginDo 45 = .ok (.getfield 140, 3) := by decide +kernel
theorem dX7_beginDo_48 : decode cX7_beginDo 48 = .ok (.invokevirtual 158, 3) := by decide +kernel
theorem dX7_beginDo_51 : decode cX7_beginDo 51 = .ok (.aload_n 0, 1) := by decide +kernel
theorem dX7_beginDo_52 : decode cX7_beginDo 52 = .ok (.getfield 20, 3) := by decide +kernel
theorem dX7_beginDo_55 : decode cX7_beginDo 55 = .ok (.bipush 51, 2) := by decide +kernel
theorem dX7_beginDo_57 : decode cX7_beginDo 57 = .ok (.iconst 0, 1) := by decide +kernel
theorem dX7_beginDo_58 : decode cX7_beginDo 58 = .ok (.invokevirtual 176, 3) := by decide +kernel
theorem dX7_beginDo_61 : decode cX7_beginDo 61 = .ok (.return_, 1) := by decide +kernel
theorem dX7_throwNull_0 : decode cX7_throwNull 0 = .ok (.aload_n 0, 1) := by decide +kernel
theorem dX7_throwNull_1 : decode cX7_throwNull 1 = .ok (.getfield 20, 3) := by decide +kernel
theorem dX7_throwNull_4 : decode cX7_throwNull 4 = .ok (.iconst 0, 1) := by decide +kernel
theorem dX7_throwNull_5 : decode cX7_throwNull 5 = .ok (.iconst 0, 1) := by decide +kernel
theorem dX7_throwNull_6 : decode cX7_throwNull 6 = .ok (.invokevirtual 176, 3) := by decide +kernel
theorem dX7_throwNull_9 : decode cX7_throwNull 9 = .ok (.aload_n 0, 1) := by decide +kernel
theorem dX7_throwNull_10 : decode cX7_throwNull 10 = .ok (.getfield 20, 3) := by decide +kernel
theorem dX7_throwNull_13 : decode cX7_throwNull 13 = .ok (.bipush 63, 2) := by decide +kernel
theorem dX7_throwNull_15 : decode cX7_throwNull 15 = .ok (.iconst 1, 1) := by decide +kernel
theorem dX7_throwNull_16 : decode cX7_throwNull 16 = .ok (.invokevirtual 176, 3) := by decide +kernel
theorem dX7_throwNull_19 : decode cX7_throwNull 19 = .ok (.return_, 1) := by decide +kernel
theorem dX7_beginLock_0 : decode cX7_beginLock 0 = .ok (.aload_n 0, 1) := by decide +kernel
theorem dX7_beginLock_1 : decode cX7_beginLock 1 = .ok (.getfield 71, 3) := by decide +kernel
theorem dX7_beginLock_4 : decode cX7_beginLock 4 = .ok (.invokevirtual 146, 3) := by decide +kernel
theorem dX7_beginLock_7 : decode cX7_beginLock 7 = .ok (.aload_n 0, 1) := by decide +kernel
theorem dX7_beginLock_8 : decode cX7_beginLock 8 = .ok (.bipush 40, 2) := by decide +kernel
theorem dX7_beginLock_10 : decode cX7_beginLock 10 = .ok (.invokevirtual 173, 3) := by decide +kernel
theorem dX7_beginLock_13 : decode cX7_beginLock 13 = .ok (.aload_n 0, 1) := by decide +kernel
theorem dX7_beginLock_14 : decode cX7_beginLock 14 = .ok (.iconst 3, 1) := by decide +kernel
theorem dX7_beginLock_15 : decode cX7_beginLock 15 = .ok (.invokevirtual 110, 3) := by decide +kernel
theorem dX7_beginLock_18 : decode cX7_beginLock 18 = .ok (.ifCond .eq 29, 3) := by decide +kernel
theorem dX7_beginLock_21 : decode cX7_beginLock 21 = .ok (.aload_n 0, 1) := by decide +kernel
theorem dX7_beginLock_22 : decode cX7_beginLock 22 = .ok (.getfield 20, 3) := by decide +kernel
theorem dX7_beginLock_25 : decode cX7_beginLock 25 = .ok (.bipush 53, 2) := by decide +kernel
theorem dX7_beginLock_27 : decode cX7_beginLock 27 = .ok (.aload_n 0, 1) := by decide +kernel
theorem dX7_beginLock_28 : decode cX7_beginLock 28 = .ok (.getfield 71, 3) := by decide +kernel
theorem dX7_beginLock_31 : decode cX7_beginLock 31 = .ok (.getfield 297, 3) := by decide +kernel
theorem dX7_beginLock_34 : decode cX7_beginLock 34 = .ok (.invokevirtual 176, 3) := by decide +kernel
theorem dX7_beginLock_37 : decode cX7_beginLock 37 = .ok (.aload_n 0, 1) := by decide +kernel
theorem dX7_beginLock_38 : decode cX7_beginLock 38 = .ok (.getfield 71, 3) := by decide +kernel
theorem dX7_beginLock_41 : decode cX7_beginLock 41 = .ok (.invokevirtual 146, 3) := by decide +kernel
theorem dX7_beginLock_44 : decode cX7_beginLock 44 = .ok (.goto 14, 3) := by decide +kernel
theorem dX7_beginLock_47 : decode cX7_beginLock 47 = .ok (.aload_n 0, 1) := by decide +kernel
theorem dX7_beginLock_48 : decode cX7_beginLock 48 = .ok (.sipush 224, 3) := by decide +kernel
theorem dX7_beginLock_51 : decode cX7_beginLock 51 = .ok (.invokevirtual 155, 3) := by decide +kernel
theorem dX7_beginLock_54 : decode cX7_beginLock 54 = .ok (.aload_n 0, 1) := by decide +kernel
theorem dX7_beginLock_55 : decode cX7_beginLock 55 = .ok (.invokevirtual 344, 3) := by decide +kernel
theorem dX7_beginLock_58 : decode cX7_beginLock 58 = .ok (.aload_n 0, 1) := by decide +kernel
theorem dX7_beginLock_59 : decode cX7_beginLock 59 = .ok (.bipush 41, 2) := by decide +kernel
theorem dX7_beginLock_61 : decode cX7_beginLock 61 = .ok (.invokevirtual 318, 3) := by decide +kernel
theorem dX7_beginLock_64 : decode cX7_beginLock 64 = .ok (.aload_n 0, 1) := by decide +kernel
theorem dX7_beginLock_65 : decode cX7_beginLock 65 = .ok (.bipush 123, 2) := by decide +kernel
theorem dX7_beginLock_67 : decode cX7_beginLock 67 = .ok (.invokevirtual 173, 3) := by decide +kernel
theorem dX7_beginLock_70 : decode cX7_beginLock 70 = .ok (.aload_n 0, 1) := by decide +kernel
theorem dX7_beginLock_71 : decode cX7_beginLock 71 = .ok (.getfield 14, 3) := by decide +kernel
theorem dX7_beginLock_74 : decode cX7_beginLock 74 = .ok (.sipush 212, 3) := by decide +kernel
theorem dX7_beginLock_77 : decode cX7_beginLock 77 = .ok (.aload_n 0, 1) := by decide +kernel
theorem dX7_beginLock_78 : decode cX7_beginLock 78 = .ok (.getfield 68, 3) := by decide +kernel
theorem dX7_beginLock_81 : decode cX7_beginLock 81 = .ok (.aload_n 0, 1) := by decide +kernel
theorem dX7_beginLock_82 : decode cX7_beginLock 82 = .ok (.getfield 29, 3) := by decide +kernel
theorem dX7_beginLock_85 : decode cX7_beginLock 85 = .ok (.getfield 33, 3) := by decide +kernel
theorem dX7_beginLock_88 : decode cX7_beginLock 88 = .ok (.invokevirtual 81, 3) := by decide +kernel
theorem dX7_beginLock_91 : decode cX7_beginLock 91 = .ok (.astore_n 1, 1) := by decide +kernel
theorem dX7_beginLock_92 : decode cX7_beginLock 92 = .ok (.aload_n 1, 1) := by decide +kernel
theorem dX7_beginLock_93 : decode cX7_beginLock 93 = .ok (.aload_n 0, 1) := by decide +kernel
theorem dX7_beginLock_94 : decode cX7_beginLock 94 = .ok (.getfield 20, 3) := by decide +kernel
theorem dX7_beginLock_97 : decode cX7_beginLock 97 = .ok (.invokevirtual 136, 3) := by decide +kernel
theorem dX7_beginLock_100 : decode cX7_beginLock 100 = .ok (.putfield 196, 3) := by decide +kernel
theorem dX7_beginLock_103 : decode cX7_beginLock 103 = .ok (.aload_n 0, 1) := by decide +kernel
theorem dX7_beginLock_104 : decode cX7_beginLock 104 = .ok (.dup, 1) := by decide +kernel
theorem dX7_beginLock_105 : decode cX7_beginLock 105 = .ok (.getfield 68, 3) := by decide +kernel
theorem dX7_beginLock_108 : decode cX7_beginLock 108 = .ok (.iconst 1, 1) := by decide +kernel
theorem dX7_beginLock_109 : decode cX7_beginLock 109 = .ok (.iadd, 1) := by decide +kernel
theorem dX7_beginLock_110 : decode cX7_beginLock 110 = .ok (.putfield 68, 3) := by decide +kernel
theorem dX7_beginLock_113 : decode cX7_beginLock 113 = .ok (.return_, 1) := by decide +kernel
theorem dX7_beginTry_0 : decode cX7_beginTry 0 = .ok (.aload_n 0, 1) := by decide +kernel
theorem dX7_beginTry_1 : decode cX7_beginTry 1 = .ok (.getfield 14, 3) := by decide +kernel
theorem dX7_beginTry_4 : decode cX7_beginTry 4 = .ok (.sipush 213, 3) := by decide +kernel
theorem dX7_beginTry_7 : decode cX7_beginTry 7 = .ok (.aload_n 0, 1) := by decide +kernel
theorem dX7_beginTry_8 : decode cX7_beginTry 8 = .ok (.getfield 68, 3) := by decide +kernel
theorem dX7_beginTry_11 : decode cX7_beginTry 11 = .ok (.aload_n 0, 1) := by decide +kernel
theorem dX7_beginTry_12 : decode cX7_beginTry 12 = .ok (.getfield 29, 3) := by decide +kernel
theorem dX7_beginTry_15 : decode cX7_beginTry 15 = .ok (.getfield 33, 3) := by decide +kernel
theorem dX7_beginTry_18 : decode cX7_beginTry 18 = .ok (.invokevirtual 81, 3) := by decide +kernel
theorem dX7_beginTry_21 : decode cX7_beginTry 21 = .ok (.astore_n 1, 1) := by decide +kernel
theorem dX7_beginTry_22 : decode cX7_beginTry 22 = .ok (.aload_n 1, 1) := by decide +kernel
theorem dX7_beginTry_23 : decode cX7_beginTry 23 = .ok (.aload_n 0, 1) := by decide +kernel
theorem dX7_beginTry_24 : decode cX7_beginTry 24 = .ok (.getfield 20, 3) := by decide +kernel
theorem dX7_beginTry_27 : decode cX7_beginTry 27 = .ok (.invokevirtual 136, 3) := by decide +kernel
theorem dX7_beginTry_30 : decode cX7_beginTry 30 = .ok (.putfield 284, 3) := by decide +kernel
theorem dX7_beginTry_33 : decode cX7_beginTry 33 = .ok (.aload_n 1, 1) := by decide +kernel
theorem dX7_beginTry_34 : decode cX7_beginTry 34 = .ok (.aload_n 0, 1) := by decide +kernel
theorem dX7_beginTry_35 : decode cX7_beginTry 35 = .ok (.getfield 20, 3) := by decide +kernel
theorem dX7_beginTry_38 : decode cX7_beginTry 38 = .ok (.invokevirtual 136, 3) := by decide +kernel
theorem dX7_beginTry_41 : decode cX7_beginTry 41 = .ok (.putfield 140, 3) := by decide +kernel
theorem dX7_beginTry_44 : decode cX7_beginTry 44 = .ok (.aload_n 1, 1) := by decide +kernel
theorem dX7_beginTry_45 : decode cX7_beginTry 45 = .ok (.aload_n 0, 1) := by decide +kernel
theorem dX7_beginTry_46 : decode cX7_beginTry 46 = .ok (.getfield 20, 3) := by decide +kernel
theorem dX7_beginTry_49 : decode cX7_beginTry 49 = .ok (.invokevirtual 136, 3) := by decide +kernel
theorem dX7_beginTry_52 : decode cX7_beginTry 52 = .ok (.putfield 196, 3) := by decide +kernel
theorem dX7_beginTry_55 : decode cX7_beginTry 55 = .ok (.aload_n 0, 1) := by decide +kernel
theorem dX7_beginTry_56 : decode cX7_beginTry 56 = .ok (.getfield 71, 3) := by decide +kernel
theorem dX7_beginTry_59 : decode cX7_beginTry 59 = .ok (.invokevirtual 146, 3) := by decide +kernel
theorem dX7_beginTry_62 : decode cX7_beginTry 62 = .ok (.aload_n 0, 1) := by decide +kernel
theorem dX7_beginTry_63 : decode cX7_beginTry 63 = .ok (.getfield 20, 3) := by decide +kernel
theorem dX7_beginTry_66 : decode cX7_beginTry 66 = .ok (.bipush 54, 2) := by decide +kernel
theorem dX7_beginTry_68 : decode cX7_beginTry 68 = .ok (.aload_n 1, 1) := by decide +kernel
theorem dX7_beginTry_69 : decode cX7_beginTry 69 = .ok (.getfield 284, 3) := by decide +kernel
theorem dX7_beginTry_72 : decode cX7_beginTry 72 = .ok (.invokevirtual 176, 3) := by decide +kernel
theorem dX7_beginTry_75 : decode cX7_beginTry 75 = .ok (.aload_n 0, 1) := by decide +kernel
theorem dX7_beginTry_76 : decode cX7_beginTry 76 = .ok (.dup, 1) := by decide +kernel
theorem dX7_beginTry_77 : decode cX7_beginTry 77 = .ok (.getfield 68, 3) := by decide +kernel
theorem dX7_beginTry_80 : decode cX7_beginTry 80 = .ok (.iconst 1, 1) := by decide +kernel
theorem dX7_beginTry_81 : decode cX7_beginTry 81 = .ok (.iadd, 1) := by decide +kernel
theorem dX7_beginTry_82 : decode cX7_beginTry 82 = .ok (.putfield 68, 3) := by decide +kernel
theorem dX7_beginTry_85 : decode cX7_beginTry 85 = .ok (.aload_n 0, 1) := by decide +kernel
theorem dX7_beginTry_86 : decode cX7_beginTry 86 = .ok (.sipush 214, 3) := by decide +kernel
theorem dX7_beginTry_89 : decode cX7_beginTry 89 = .ok (.invokevirtual 205, 3) := by decide +kernel
