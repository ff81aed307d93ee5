theorem dX0_clear_0 : decode cX0_clear 0 = .ok (.aload_n 0, 1) := by decide +kernel
theorem dX0_clear_1 : decode cX0_clear 1 = .ok (.iconst 0, 1) := by decide +kernel
theorem dX0_clear_2 : decode cX0_clear 2 = .ok (.putfield 27, 3) := by decide +kernel
theorem dX0_clear_5 : decode cX0_clear 5 = .ok (.aload_n 0, 1) := by decide +kernel
theorem dX0_clear_6 : decode cX0_clear 6 = .ok (.iconst 0, 1) := by decide +kernel
theorem dX0_clear_7 : decode cX0_clear 7 = .ok (.putfield 31, 3) := by decide +kernel
theorem dX0_clear_10 : decode cX0_clear 10 = .ok (.aload_n 0, 1) := by decide +kernel
theorem dX0_clear_11 : decode cX0_clear 11 = .ok (.iconst 0, 1) := by decide +kernel
theorem dX0_clear_12 : decode cX0_clear 12 = .ok (.putfield 34, 3) := by decide +kernel
theorem dX0_clear_15 : decode cX0_clear 15 = .ok (.aload_n 0, 1) := by decide +kernel
theorem dX0_clear_16 : decode cX0_clear 16 = .ok (.iconst 0, 1) := by decide +kernel
theorem dX0_clear_17 : decode cX0_clear 17 = .ok (.putfield 37, 3) := by decide +kernel
theorem dX0_clear_20 : decode cX0_clear 20 = .ok (.aload_n 0, 1) := by decide +kernel
theorem dX0_clear_21 : decode cX0_clear 21 = .ok (.iconst 0, 1) := by decide +kernel
theorem dX0_clear_22 : decode cX0_clear 22 = .ok (.putfield 40, 3) := by decide +kernel
theorem dX0_clear_25 : decode cX0_clear 25 = .ok (.aload_n 0, 1) := by decide +kernel
theorem dX0_clear_26 : decode cX0_clear 26 = .ok (.iconst 0, 1) := by decide +kernel
theorem dX0_clear_27 : decode cX0_clear 27 = .ok (.putfield 43, 3) := by decide +kernel
theorem dX0_clear_30 : decode cX0_clear 30 = .ok (.aload_n 0, 1) := by decide +kernel
theorem dX0_clear_31 : decode cX0_clear 31 = .ok (.iconst 0, 1) := by decide +kernel
theorem dX0_clear_32 : decode cX0_clear 32 = .ok (.putfield 46, 3) := by decide +kernel
theorem dX0_clear_35 : decode cX0_clear 35 = .ok (.aload_n 0, 1) := by decide +kernel
theorem dX0_clear_36 : decode cX0_clear 36 = .ok (.iconst 0, 1) := by decide +kernel
theorem dX0_clear_37 : decode cX0_clear 37 = .ok (.putfield 49, 3) := by decide +kernel
theorem dX0_clear_40 : decode cX0_clear 40 = .ok (.return_, 1) := by decide +kernel
theorem dX0_add_0 : decode cX0_add 0 = .ok (.aload_n 0, 1) := by decide +kernel
theorem dX0_add_1 : decode cX0_add 1 = .ok (.getfield 9, 3) := by decide +kernel
theorem dX0_add_4 : decode cX0_add 4 = .ok (.aload_n 0, 1) := by decide +kernel
theorem dX0_add_5 : decode cX0_add 5 = .ok (.getfield 27, 3) := by decide +kernel
theorem dX0_add_8 : decode cX0_add 8 = .ok (.iload_n 1, 1) := by decide +kernel
theorem dX0_add_9 : decode cX0_add 9 = .ok (.invokestatic 53, 3) := by decide +kernel
theorem dX0_add_12 : decode cX0_add 12 = .ok (.aload_n 0, 1) := by decide +kernel
theorem dX0_add_13 : decode cX0_add 13 = .ok (.getfield 15, 3) := by decide +kernel
theorem dX0_add_16 : decode cX0_add 16 = .ok (.aload_n 0, 1) := by decide +kernel
theorem dX0_add_17 : decode cX0_add 17 = .ok (.getfield 27, 3) := by decide +kernel
theorem dX0_add_20 : decode cX0_add 20 = .ok (.iload_n 2, 1) := by decide +kernel
theorem dX0_add_21 : decode cX0_add 21 = .ok (.invokestatic 53, 3) := by decide +kernel
theorem dX0_add_24 : decode cX0_add 24 = .ok (.aload_n 0, 1) := by decide +kernel
theorem dX0_add_25 : decode cX0_add 25 = .ok (.dup, 1) := by decide +kernel
theorem dX0_add_26 : decode cX0_add 26 = .ok (.getfield 27, 3) := by decide +kernel
theorem dX0_add_29 : decode cX0_add 29 = .ok (.iconst 1, 1) := by decide +kernel
theorem dX0_add_30 : decode cX0_add 30 = .ok (.iadd, 1) := by decide +kernel
theorem dX0_add_31 : decode cX0_add 31 = .ok (.putfield 27, 3) := by decide +kernel
theorem dX0_add_34 : decode cX0_add 34 = .ok (.return_, 1) := by decide +kernel
theorem dX0_newTarget_0 : decode cX0_newTarget 0 = .ok (.aload_n 0, 1) := by decide +kernel
theorem dX0_newTarget_1 : decode cX0_newTarget 1 = .ok (.getfield 18, 3) := by decide +kernel
theorem dX0_newTarget_4 : decode cX0_newTarget 4 = .ok (.aload_n 0, 1) := by decide +kernel
theorem dX0_newTarget_5 : decode cX0_newTarget 5 = .ok (.getfield 31, 3) := by decide +kernel
theorem dX0_newTarget_8 : decode cX0_newTarget 8 = .ok (.iconst (-1), 1) := by decide +kernel
theorem dX0_newTarget_9 : decode cX0_newTarget 9 = .ok (.invokestatic 53, 3) := by decide +kernel
theorem dX0_newTarget_12 : decode cX0_newTarget 12 = .ok (.aload_n 0, 1) := by decide +kernel
theorem dX0_newTarget_13 : decode cX0_newTarget 13 = .ok (.dup, 1) := by decide +kernel
theorem dX0_newTarget_14 : decode cX0_newTarget 14 = .ok (.getfield 31, 3) := by decide +kernel
theorem dX0_newTarget_17 : decode cX0_newTarget 17 = .ok (.iconst 1, 1) := by decide +kernel
theorem dX0_newTarget_18 : decode cX0_newTarget 18 = .ok (.iadd, 1) := by decide +kernel
theorem dX0_newTarget_19 : decode cX0_newTarget 19 = .ok (.putfield 31, 3) := by decide +kernel
theorem dX0_newTarget_22 : decode cX0_newTarget 22 = .ok (.aload_n 0, 1) := by decide +kernel
theorem dX0_newTarget_23 : decode cX0_newTarget 23 = .ok (.getfield 31, 3) := by decide +kernel
theorem dX0_newTarget_26 : decode cX0_newTarget 26 = .ok (.iconst 1, 1) := by decide +kernel
theorem dX0_newTarget_27 : decode cX0_newTarget 27 = .ok (.isub, 1) := by decide +kernel
theorem dX0_newTarget_28 : decode cX0_newTarget 28 = .ok (.ireturn, 1) := by decide +kernel
theorem dX0_aim_0 : decode cX0_aim 0 = .ok (.aload_n 0, 1) := by decide +kernel
theorem dX0_aim_1 : decode cX0_aim 1 = .ok (.getfield 18, 3) := by decide +kernel
theorem dX0_aim_4 : decode cX0_aim 4 = .ok (.iload_n 1, 1) := by decide +kernel
theorem dX0_aim_5 : decode cX0_aim 5 = .ok (.aload_n 0, 1) := by decide +kernel
theorem dX0_aim_6 : decode cX0_aim 6 = .ok (.getfield 27, 3) := by decide +kernel
theorem dX0_aim_9 : decode cX0_aim 9 = .ok (.invokestatic 53, 3) := by decide +kernel
theorem dX0_aim_12 : decode cX0_aim 12 = .ok (.return_, 1) := by decide +kernel
theorem dX0_newCells_0 : decode cX0_newCells 0 = .ok (.aload_n 0, 1) := by decide +kernel
theorem dX0_newCells_1 : decode cX0_newCells 1 = .ok (.dup, 1) := by decide +kernel
theorem dX0_newCells_2 : decode cX0_newCells 2 = .ok (.getfield 37, 3) := by decide +kernel
theorem dX0_newCells_5 : decode cX0_newCells 5 = .ok (.iload_n 1, 1) := by decide +kernel
theorem dX0_newCells_6 : decode cX0_newCells 6 = .ok (.iadd, 1) := by decide +kernel
theorem dX0_newCells_7 : decode cX0_newCells 7 = .ok (.putfield 37, 3) := by decide +kernel
theorem dX0_newCells_10 : decode cX0_newCells 10 = .ok (.aload_n 0, 1) := by decide +kernel
theorem dX0_newCells_11 : decode cX0_newCells 11 = .ok (.getfield 37, 3) := by decide +kernel
theorem dX0_newCells_14 : decode cX0_newCells 14 = .ok (.iload_n 1, 1) := by decide +kernel
theorem dX0_newCells_15 : decode cX0_newCells 15 = .ok (.isub, 1) := by decide +kernel
theorem dX0_newCells_16 : decode cX0_newCells 16 = .ok (.ireturn, 1) := by decide +kernel
theorem dX0_hasCase_0 : decode cX0_hasCase 0 = .ok (.iload_n 1, 1) := by decide +kernel
theorem dX0_hasCase_1 : decode cX0_hasCase 1 = .ok (.istore_n 3, 1) := by decide +kernel
theorem dX0_hasCase_2 : decode cX0_hasCase 2 = .ok (.iload_n 3, 1) := by decide +kernel
theorem dX0_hasCase_3 : decode cX0_hasCase 3 = .ok (.aload_n 0, 1) := by decide +kernel
theorem dX0_hasCase_4 : decode cX0_hasCase 4 = .ok (.getfield 34, 3) := by decide +kernel
theorem dX0_hasCase_7 : decode cX0_hasCase 7 = .ok (.if_icmp .ge 23, 3) := by decide +kernel
theorem dX0_hasCase_10 : decode cX0_hasCase 10 = .ok (.aload_n 0, 1) := by decide +kernel
theorem dX0_hasCase_11 : decode cX0_hasCase 11 = .ok (.getfield 21, 3) := by decide +kernel
theorem dX0_hasCase_14 : decode cX0_hasCase 14 = .ok (.iload_n 3, 1) := by decide +kernel
theorem dX0_hasCase_15 : decode cX0_hasCase 15 = .ok (.invokestatic 57, 3) := by decide +kernel
theorem dX0_hasCase_18 : decode cX0_hasCase 18 = .ok (.iload_n 2, 1) := by decide +kernel
theorem dX0_hasCase_19 : decode cX0_hasCase 19 = .ok (.if_icmp .ne 5, 3) := by decide +kernel
theorem dX0_hasCase_22 : decode cX0_hasCase 22 = .ok (.iconst 1, 1) := by decide +kernel
theorem dX0_hasCase_23 : decode cX0_hasCase 23 = .ok (.ireturn, 1) := by decide +kernel
theorem dX0_hasCase_24 : decode cX0_hasCase 24 = .ok (.iinc 3 1, 3) := by decide +kernel
theorem dX0_hasCase_27 : decode cX0_hasCase 27 = .ok (.goto (-25), 3) := by decide +kernel
theorem dX0_hasCase_30 : decode cX0_hasCase 30 = .ok (.iconst 0, 1) := by decide +kernel
theorem dX0_hasCase_31 : decode cX0_hasCase 31 = .ok (.ireturn, 1) := by decide +kernel
theorem dX0_addCase_0 : decode cX0_addCase 0 = .ok (.aload_n 0, 1) := by decide +kernel
theorem dX0_addCase_1 : decode cX0_addCase 1 = .ok (.getfield 21, 3) := by decide +kernel
theorem dX0_addCase_4 : decode cX0_addCase 4 = .ok (.aload_n 0, 1) := by decide +kernel
theorem dX0_addCase_5 : decode cX0_addCase 5 = .ok (.getfield 34, 3) := by decide +kernel
theorem dX0_addCase_8 : decode cX0_addCase 8 = .ok (.iload_n 1, 1) := by decide +kernel
theorem dX0_addCase_9 : decode cX0_addCase 9 = .ok (.invokestatic 53, 3) := by decide +kernel
theorem dX0_addCase_12 : decode cX0_addCase 12 = .ok (.aload_n 0, 1) := by decide +kernel
theorem dX0_addCase_13 : decode cX0_addCase 13 = .ok (.getfield 24, 3) := by decide +kernel
theorem dX0_addCase_16 : decode cX0_addCase 16 = .ok (.aload_n 0, 1) := by decide +kernel
theorem dX0_addCase_17 : decode cX0_addCase 17 = .ok (.getfield 34, 3) := by decide +kernel
theorem dX0_addCase_20 : decode cX0_addCase 20 = .ok (.iload_n 2, 1) := by decide +kernel
theorem dX0_addCase_21 : decode cX0_addCase 21 = .ok (.invokestatic 53, 3) := by decide +kernel
theorem dX0_addCase_24 : decode cX0_addCase 24 = .ok (.aload_n 0, 1) := by decide +kernel
theorem dX0_addCase_25 : decode cX0_addCase 25 = .ok (.dup, 1) := by decide +kernel
theorem dX0_addCase_26 : decode cX0_addCase 26 = .ok (.getfield 34, 3) := by decide +kernel
theorem dX0_addCase_29 : decode cX0_addCase 29 = .ok (.iconst 1, 1) := by decide +kernel
theorem dX0_addCase_30 : decode cX0_addCase 30 = .ok (.iadd, 1) := by decide +kernel
theorem dX0_addCase_31 : decode cX0_addCase 31 = .ok (.putfield 34, 3) := by decide +kernel
theorem dX0_addCase_34 : decode cX0_addCase 34 = .ok (.return_, 1) := by decide +kernel
theorem dX0_addCases_0 : decode cX0_addCases 0 = .ok (.iload_n 1, 1) := by decide +kernel
theorem dX0_addCases_1 : decode cX0_addCases 1 = .ok (.istore_n 3, 1) := by decide +kernel
theorem dX0_addCases_2 : decode cX0_addCases 2 = .ok (.iload_n 3, 1) := by decide +kernel
theorem dX0_addCases_3 : decode cX0_addCases 3 = .ok (.aload_n 0, 1) := by decide +kernel
theorem dX0_addCases_4 : decode cX0_addCases 4 = .ok (.getfield 34, 3) := by decide +kernel
theorem dX0_addCases_7 : decode cX0_addCases 7 = .ok (.if_icmp .ge 36, 3) := by decide +kernel
theorem dX0_addCases_10 : decode cX0_addCases 10 = .ok (.aload_n 0, 1) := by decide +kernel
theorem dX0_addCases_11 : decode cX0_addCases 11 = .ok (.iconst 0, 1) := by decide +kernel
theorem dX0_addCases_12 : decode cX0_addCases 12 = .ok (.aload_n 0, 1) := by decide +kernel
theorem dX0_addCases_13 : decode cX0_addCases 13 = .ok (.getfield 21, 3) := by decide +kernel
theorem dX0_addCases_16 : decode cX0_addCases 16 = .ok (.iload_n 3, 1) := by decide +kernel
theorem dX0_addCases_17 : decode cX0_addCases 17 = .ok (.invokestatic 57, 3) := by decide +kernel
theorem dX0_addCases_20 : decode cX0_addCases 20 = .ok (.invokevirtual 61, 3) := by decide +kernel
theorem dX0_addCases_23 : decode cX0_addCases 23 = .ok (.aload_n 0, 1) := by decide +kernel
theorem dX0_addCases_24 : decode cX0_addCases 24 = .ok (.bipush 34, 2) := by decide +kernel
theorem dX0_addCases_26 : decode cX0_addCases 26 = .ok (.aload_n 0, 1) := by decide +kernel
theorem dX0_addCases_27 : decode cX0_addCases 27 = .ok (.getfield 24, 3) := by decide +kernel
theorem dX0_addCases_30 : decode cX0_addCases 30 = .ok (.iload_n 3, 1) := by decide +kernel
theorem dX0_addCases_31 : decode cX0_addCases 31 = .ok (.invokestatic 57, 3) := by decide +kernel
theorem dX0_addCases_34 : decode cX0_addCases 34 = .ok (.invokevirtual 61, 3) := by decide +kernel
theorem dX0_addCases_37 : decode cX0_addCases 37 = .ok (.iinc 3 1, 3) := by decide +kernel
theorem dX0_addCases_40 : decode cX0_addCases 40 = .ok (.goto (-38), 3) := by decide +kernel
theorem dX0_addCases_43 : decode cX0_addCases 43 = .ok (.aload_n 0, 1) := by decide +kernel
theorem dX0_addCases_44 : decode cX0_addCases 44 = .ok (.iload_n 1, 1) := by decide +kernel
theorem dX0_addCases_45 : decode cX0_addCases 45 = .ok (.putfield 34, 3) := by decide +kernel
theorem dX0_addCases_48 : decode cX0_addCases 48 = .ok (.aload_n 0, 1) := by decide +kernel
theorem dX0_addCases_49 : decode cX0_addCases 49 = .ok (.bipush 6, 2) := by decide +kernel
theorem dX0_addCases_51 : decode cX0_addCases 51 = .ok (.iconst 0, 1) := by decide +kernel
theorem dX0_addCases_52 : decode cX0_addCases 52 = .ok (.invokevirtual 61, 3) := by decide +kernel
theorem dX0_addCases_55 : decode cX0_addCases 55 = .ok (.aload_n 0, 1) := by decide +kernel
theorem dX0_addCases_56 : decode cX0_addCases 56 = .ok (.bipush 30, 2) := by decide +kernel
theorem dX0_addCases_58 : decode cX0_addCases 58 = .ok (.iload_n 2, 1) := by decide +kernel
theorem dX0_addCases_59 : decode cX0_addCases 59 = .ok (.invokevirtual 61, 3) := by decide +kernel
theorem dX0_addCases_62 : decode cX0_addCases 62 = .ok (.return_, 1) := by decide +kernel
theorem dX1_fail_0 : decode cX1_fail 0 = .ok (.aload_n 0, 1) := by decide +kernel
theorem dX1_fail_1 : decode cX1_fail 1 = .ok (.getfield 30, 3) := by decide +kernel
theorem dX1_fail_4 : decode cX1_fail 4 = .ok (.ifCond .ne 20, 3) := by decide +kernel
theorem dX1_fail_7 : decode cX1_fail 7 = .ok (.aload_n 0, 1) := by decide +kernel
theorem dX1_fail_8 : decode cX1_fail 8 = .ok (.iload_n 1, 1) := by decide +kernel
theorem dX1_fail_9 : decode cX1_fail 9 = .ok (.putfield 30, 3) := by decide +kernel
theorem dX1_fail_12 : decode cX1_fail 12 = .ok (.aload_n 0, 1) := by decide +kernel
theorem dX1_fail_13 : decode cX1_fail 13 = .ok (.iload_n 2, 1) := by decide +kernel
theorem dX1_fail_14 : decode cX1_fail 14 = .ok (.putfield 34, 3) := by decide +kernel
theorem dX1_fail_17 : decode cX1_fail 17 = .ok (.aload_n 0, 1) := by decide +kernel
theorem dX1_fail_18 : decode cX1_fail 18 = .ok (.getfield 18, 3) := by decide +kernel
theorem dX1_fail_21 : decode cX1_fail 21 = .ok (.invokevirtual 37, 3) := by decide +kernel
theorem dX1_fail_24 : decode cX1_fail 24 = .ok (.return_, 1) := by decide +kernel
theorem dX1_misplaced_0 : decode cX1_misplaced 0 = .ok (.aload_n 0, 1) := by decide +kernel
theorem dX1_misplaced_1 : decode cX1_misplaced 1 = .ok (.aload_n 0, 1) := by decide +kernel
theorem dX1_misplaced_2 : decode cX1_misplaced 2 = .ok (.bipush 6, 2) := by decide +kernel
theorem dX1_misplaced_4 : decode cX1_misplaced 4 = .ok (.invokevirtual 42, 3) := by decide +kernel
theorem dX1_misplaced_7 : decode cX1_misplaced 7 = .ok (.ifCond .eq 7, 3) := by decide +kernel
theorem dX1_misplaced_10 : decode cX1_misplaced 10 = .ok (.iconst 1, 1) := by decide +kernel
theorem dX1_misplaced_11 : decode cX1_misplaced 11 = .ok (.goto 4, 3) := by decide +kernel
theorem dX1_misplaced_14 : decode cX1_misplaced 14 = .ok (.iconst 2, 1) := by decide +kernel
theorem dX1_misplaced_15 : decode cX1_misplaced 15 = .ok (.aload_n 0, 1) := by decide +kernel
theorem dX1_misplaced_16 : decode cX1_misplaced 16 = .ok (.getfield 18, 3) := by decide +kernel
theorem dX1_misplaced_19 : decode cX1_misplaced 19 = .ok (.getfield 46, 3) := by decide +kernel
theorem dX1_misplaced_22 : decode cX1_misplaced 22 = .ok (.invokevirtual 49, 3) := by decide +kernel
theorem dX1_misplaced_25 : decode cX1_misplaced 25 = .ok (.return_, 1) := by decide +kernel
theorem dX1_found_0 : decode cX1_found 0 = .ok (.aload_n 0, 1) := by decide +kernel
theorem dX1_found_1 : decode cX1_found 1 = .ok (.getfield 18, 3) := by decide +kernel
theorem dX1_found_4 : decode cX1_found 4 = .ok (.getfield 53, 3) := by decide +kernel
theorem dX1_found_7 : decode cX1_found 7 = .ok (.iload_n 1, 1) := by decide +kernel
theorem dX1_found_8 : decode cX1_found 8 = .ok (.if_icmp .ne 7, 3) := by decide +kernel
theorem dX1_found_11 : decode cX1_found 11 = .ok (.iconst 1, 1) := by decide +kernel
theorem dX1_found_12 : decode cX1_found 12 = .ok (.goto 4, 3) := by decide +kernel
theorem dX1_found_15 : decode cX1_found 15 = .ok (.iconst 0, 1) := by decide +kernel
theorem dX1_found_16 : decode cX1_found 16 = .ok (.ireturn, 1) := by decide +kernel
theorem dX1_skip_0 : decode cX1_skip 0 = .ok (.aload_n 0, 1) := by decide +kernel
theorem dX1_skip_1 : decode cX1_skip 1 = .ok (.iload_n 1, 1) := by decide +kernel
theorem dX1_skip_2 : decode cX1_skip 2 = .ok (.invokevirtual 42, 3) := by decide +kernel
theorem dX1_skip_5 : decode cX1_skip 5 = .ok (.istore_n 2, 1) := by decide +kernel
theorem dX1_skip_6 : decode cX1_skip 6 = .ok (.iload_n 2, 1) := by decide +kernel
theorem dX1_skip_7 : decode cX1_skip 7 = .ok (.ifCond .eq 10, 3) := by decide +kernel
theorem dX1_skip_10 : decode cX1_skip 10 = .ok (.aload_n 0, 1) := by decide +kernel
theorem dX1_skip_11 : decode cX1_skip 11 = .ok (.getfield 18, 3) := by decide +kernel
theorem dX1_skip_14 : decode cX1_skip 14 = .ok (.invokevirtual 56, 3) := by decide +kernel
theorem dX1_skip_17 : decode cX1_skip 17 = .ok (.iload_n 2, 1) := by decide +kernel
theorem dX1_skip_18 : decode cX1_skip 18 = .ok (.ireturn, 1) := by decide +kernel
theorem dX1_expect_0 : decode cX1_expect 0 = .ok (.aload_n 0, 1) := by decide +kernel
theorem dX1_expect_1 : decode cX1_expect 1 = .ok (.iload_n 1, 1) := by decide +kernel
theorem dX1_expect_2 : decode cX1_expect 2 = .ok (.invokevirtual 42, 3) := by decide +kernel
theorem dX1_expect_5 : decode cX1_expect 5 = .ok (.ifCond .eq 13, 3) := by decide +kernel
theorem dX1_expect_8 : decode cX1_expect 8 = .ok (.aload_n 0, 1) := by decide +kernel
theorem dX1_expect_9 : decode cX1_expect 9 = .ok (.getfield 18, 3) := by decide +kernel
theorem dX1_expect_12 : decode cX1_expect 12 = .ok (.invokevirtual 56, 3) := by decide +kernel
theorem dX1_expect_15 : decode cX1_expect 15 = .ok (.goto 7, 3) := by decide +kernel
theorem dX1_expect_18 : decode cX1_expect 18 = .ok (.aload_n 0, 1) := by decide +kernel
theorem dX1_expect_19 : decode cX1_expect 19 = .ok (.invokevirtual 59, 3) := by decide +kernel
theorem dX1_expect_22 : decode cX1_expect 22 = .ok (.return_, 1) := by decide +kernel
theorem dX1_open_0 : decode cX1_open 0 = .ok (.aload_n 0, 1) := by decide +kernel
theorem dX1_open_1 : decode cX1_open 1 = .ok (.iload_n 1, 1) := by decide +kernel
theorem dX1_open_2 : decode cX1_open 2 = .ok (.invokevirtual 42, 3) := by decide +kernel
theorem dX1_open_5 : decode cX1_open 5 = .ok (.ifCond .ne 10, 3) := by decide +kernel
theorem dX1_open_8 : decode cX1_open 8 = .ok (.aload_n 0, 1) := by decide +kernel
theorem dX1_open_9 : decode cX1_open 9 = .ok (.invokevirtual 59, 3) := by decide +kernel
theorem dX1_open_12 : decode cX1_open 12 = .ok (.goto 45, 3) := by decide +kernel
theorem dX1_open_15 : decode cX1_open 15 = .ok (.aload_n 0, 1) := by decide +kernel
theorem dX1_open_16 : decode cX1_open 16 = .ok (.getfield 62, 3) := by decide +kernel
theorem dX1_open_19 : decode cX1_open 19 = .ok (.bipush 20, 2) := by decide +kernel
theorem dX1_open_21 : decode cX1_open 21 = .ok (.if_icmp .lt 19, 3) := by decide +kernel
theorem dX1_open_24 : decode cX1_open 24 = .ok (.aload_n 0, 1) := by decide +kernel
theorem dX1_open_25 : decode cX1_open 25 = .ok (.bipush 6, 2) := by decide +kernel
theorem dX1_open_27 : decode cX1_open 27 = .ok (.aload_n 0, 1) := by decide +kernel
theorem dX1_open_28 : decode cX1_open 28 = .ok (.getfield 18, 3) := by decide +kernel
theorem dX1_open_31 : decode cX1_open 31 = .ok (.getfield 46, 3) := by decide +kernel
theorem dX1_open_34 : decode cX1_open 34 = .ok (.invokevirtual 49, 3) := by decide +kernel
theorem dX1_open_37 : decode cX1_open 37 = .ok (.goto 20, 3) := by decide +kernel
theorem dX1_open_40 : decode cX1_open 40 = .ok (.aload_n 0, 1) := by decide +kernel
theorem dX1_open_41 : decode cX1_open 41 = .ok (.dup, 1) := by decide +kernel
theorem dX1_open_42 : decode cX1_open 42 = .ok (.getfield 62, 3) := by decide +kernel
theorem dX1_open_45 : decode cX1_open 45 = .ok (.iconst 1, 1) := by decide +kernel
theorem dX1_open_46 : decode cX1_open 46 = .ok (.iadd, 1) := by decide +kernel
theorem dX1_open_47 : decode cX1_open 47 = .ok (.putfield 62, 3) := by decide +kernel
theorem dX1_open_50 : decode cX1_open 50 = .ok (.aload_n 0, 1) := by decide +kernel
theorem dX1_open_51 : decode cX1_open 51 = .ok (.getfield 18, 3) := by decide +kernel
theorem dX1_open_54 : decode cX1_open 54 = .ok (.invokevirtual 56, 3) := by decide +kernel
theorem dX1_open_57 : decode cX1_open 57 = .ok (.return_, 1) := by decide +kernel
theorem dX1_close_0 : decode cX1_close 0 = .ok (.aload_n 0, 1) := by decide +kernel
theorem dX1_close_1 : decode cX1_close 1 = .ok (.iload_n 1, 1) := by decide +kernel
theorem dX1_close_2 : decode cX1_close 2 = .ok (.invokevirtual 42, 3) := by decide +kernel
theorem dX1_close_5 : decode cX1_close 5 = .ok (.ifCond .eq 13, 3) := by decide +kernel
theorem dX1_close_8 : decode cX1_close 8 = .ok (.aload_n 0, 1) := by decide +kernel
theorem dX1_close_9 : decode cX1_close 9 = .ok (.getfield 18, 3) := by decide +kernel
theorem dX1_close_12 : decode cX1_close 12 = .ok (.invokevirtual 56, 3) := by decide +kernel
theorem dX1_close_15 : decode cX1_close 15 = .ok (.goto 7, 3) := by decide +kernel
theorem dX1_close_18 : decode cX1_close 18 = .ok (.aload_n 0, 1) := by decide +kernel
theorem dX1_close_19 : decode cX1_close 19 = .ok (.invokevirtual 59, 3) := by decide +kernel
theorem dX1_close_22 : decode cX1_close 22 = .ok (.aload_n 0, 1) := by decide +kernel
theorem dX1_close_23 : decode cX1_close 23 = .ok (.dup, 1) := by decide +kernel
theorem dX1_close_24 : decode cX1_close 24 = .ok (.getfield 62, 3) := by decide +kernel
theorem dX1_close_27 : decode cX1_close 27 = .ok (.iconst 1, 1) := by decide +kernel
theorem dX1_close_28 : decode cX1_close 28 = .ok (.isub, 1) := by decide +kernel
theorem dX1_close_29 : decode cX1_close 29 = .ok (.putfield 62, 3) := by decide +kernel
theorem dX1_close_32 : decode cX1_close 32 = .ok (.return_, 1) := by decide +kernel
theorem dX1_expression_0 : decode cX1_expression 0 = .ok (.aload_n 0, 1) := by decide +kernel
theorem dX1_expression_1 : decode cX1_expression 1 = .ok (.invokevirtual 65, 3) := by decide +kernel
theorem dX1_expression_4 : decode cX1_expression 4 = .ok (.iconst 0, 1) := by decide +kernel
theorem dX1_expression_5 : decode cX1_expression 5 = .ok (.istore_n 1, 1) := by decide +kernel
theorem dX1_expression_6 : decode cX1_expression 6 = .ok (.iload_n 1, 1) := by decide +kernel
theorem dX1_expression_7 : decode cX1_expression 7 = .ok (.sipush 900, 3) := by decide +kernel
theorem dX1_expression_10 : decode cX1_expression 10 = .ok (.if_icmp .ge 64, 3) := by decide +kernel
theorem dX1_expression_13 : decode cX1_expression 13 = .ok (.aload_n 0, 1) := by decide +kernel
theorem dX1_expression_14 : decode cX1_expression 14 = .ok (.bipush 43, 2) := by decide +kernel
theorem dX1_expression_16 : decode cX1_expression 16 = .ok (.invokevirtual 42, 3) := by decide +kernel
theorem dX1_expression_19 : decode cX1_expression 19 = .ok (.ifCond .ne 12, 3) := by decide +kernel
theorem dX1_expression_22 : decode cX1_expression 22 = .ok (.aload_n 0, 1) := by decide +kernel
theorem dX1_expression_23 : decode cX1_expression 23 = .ok (.bipush 45, 2) := by decide +kernel
theorem dX1_expression_25 : decode cX1_expression 25 = .ok (.invokevirtual 42, 3) := by decide +kernel
theorem dX1_expression_28 : decode cX1_expression 28 = .ok (.ifCond .eq 46, 3) := by decide +kernel
theorem dX1_expression_31 : decode cX1_expression 31 = .ok (.aload_n 0, 1) := by decide +kernel
theorem dX1_expression_32 : decode cX1_expression 32 = .ok (.bipush 43, 2) := by decide +kernel
theorem dX1_expression_34 : decode cX1_expression 34 = .ok (.invokevirtual 42, 3) := by decide +kernel
theorem dX1_expression_37 : decode cX1_expression 37 = .ok (.ifCond .eq 8, 3) := by decide +kernel
theorem dX1_expression_40 : decode cX1_expression 40 = .ok (.bipush 7, 2) := by decide +kernel
theorem dX1_expression_42 : decode cX1_expression 42 = .ok (.goto 5, 3) := by decide +kernel
theorem dX1_expression_45 : decode cX1_expression 45 = .ok (.bipush 8, 2) := by decide +kernel
theorem dX1_expression_47 : decode cX1_expression 47 = .ok (.istore_n 2, 1) := by decide +kernel
theorem dX1_expression_48 : decode cX1_expression 48 = .ok (.aload_n 0, 1) := by decide +kernel
theorem dX1_expression_49 : decode cX1_expression 49 = .ok (.getfield 18, 3) := by decide +kernel
theorem dX1_expression_52 : decode cX1_expression 52 = .ok (.invokevirtual 56, 3) := by decide +kernel
theorem dX1_expression_55 : decode cX1_expression 55 = .ok (.aload_n 0, 1) := by decide +kernel
theorem dX1_expression_56 : decode cX1_expression 56 = .ok (.invokevirtual 65, 3) := by decide +kernel
theorem dX1_expression_59 : decode cX1_expression 59 = .ok (.aload_n 0, 1) := by decide +kernel
theorem dX1_expression_60 : decode cX1_expression 60 = .ok (.getfield 22, 3) := by decide +kernel
theorem dX1_expression_63 : decode cX1_expression 63 = .ok (.iload_n 2, 1) := by decide +kernel
theorem dX1_expression_64 : decode cX1_expression 64 = .ok (.iconst 0, 1) := by decide +kernel
theorem dX1_expression_65 : decode cX1_expression 65 = .ok (.invokevirtual 68, 3) := by decide +kernel
theorem dX1_expression_68 : decode cX1_expression 68 = .ok (.iinc 1 1, 3) := by decide +kernel
theorem dX1_expression_71 : decode cX1_expression 71 = .ok (.goto (-65), 3) := by decide +kernel
theorem dX1_expression_74 : decode cX1_expression 74 = .ok (.return_, 1) := by decide +kernel
theorem dX1_product_0 : decode cX1_product 0 = .ok (.aload_n 0, 1) := by decide +kernel
theorem dX1_product_1 : decode cX1_product 1 = .ok (.invokevirtual 73, 3) := by decide +kernel
theorem dX1_product_4 : decode cX1_product 4 = .ok (.iconst 0, 1) := by decide +kernel
theorem dX1_product_5 : decode cX1_product 5 = .ok (.istore_n 1, 1) := by decide +kernel
theorem dX1_product_6 : decode cX1_product 6 = .ok (.iload_n 1, 1) := by decide +kernel
theorem dX1_product_7 : decode cX1_product 7 = .ok (.sipush 900, 3) := by decide +kernel
theorem dX1_product_10 : decode cX1_product 10 = .ok (.if_icmp .ge 87, 3) := by decide +kernel
theorem dX1_product_13 : decode cX1_product 13 = .ok (.aload_n 0, 1) := by decide +kernel
theorem dX1_product_14 : decode cX1_product 14 = .ok (.bipush 42, 2) := by decide +kernel
theorem dX1_product_16 : decode cX1_product 16 = .ok (.invokevirtual 42, 3) := by decide +kernel
theorem dX1_product_19 : decode cX1_product 19 = .ok (.ifCond .ne 21, 3) := by decide +kernel
theorem dX1_product_22 : decode cX1_product 22 = .ok (.aload_n 0, 1) := by decide +kernel
theorem dX1_product_23 : decode cX1_product 23 = .ok (.bipush 47, 2) := by decide +kernel
theorem dX1_product_25 : decode cX1_product 25 = .ok (.invokevirtual 42, 3) := by decide +kernel
theorem dX1_product_28 : decode cX1_product 28 = .ok (.ifCond .ne 12, 3) := by decide +kernel
theorem dX1_product_31 : decode cX1_product 31 = .ok (.aload_n 0, 1) := by decide +kernel
theorem dX1_product_32 : decode cX1_product 32 = .ok (.bipush 37, 2) := by decide +kernel
theorem dX1_product_34 : decode cX1_product 34 = .ok (.invokevirtual 42, 3) := by decide +kernel
theorem dX1_product_37 : decode cX1_product 37 = .ok (.ifCond .eq 60, 3) := by decide +kernel
theorem dX1_product_40 : decode cX1_product 40 = .ok (.aload_n 0, 1) := by decide +kernel
theorem dX1_product_41 : decode cX1_product 41 = .ok (.bipush 42, 2) := by decide +kernel
theorem dX1_product_43 : decode cX1_product 43 = .ok (.invokevirtual 42, 3) := by decide +kernel
theorem dX1_product_46 : decode cX1_product 46 = .ok (.ifCond .eq 8, 3) := by decide +kernel
theorem dX1_product_49 : decode cX1_product 49 = .ok (.bipush 9, 2) := by decide +kernel
theorem dX1_product_51 : decode cX1_product 51 = .ok (.goto 19, 3) := by decide +kernel
theorem dX1_product_54 : decode cX1_product 54 = .ok (.aload_n 0, 1) := by decide +kernel
theorem dX1_product_55 : decode cX1_product 55 = .ok (.bipush 47, 2) := by decide +kernel
theorem dX1_product_57 : decode cX1_product 57 = .ok (.invokevirtual 42, 3) := by decide +kernel
theorem dX1_product_60 : decode cX1_product 60 = .ok (.ifCond .eq 8, 3) := by decide +kernel
theorem dX1_product_63 : decode cX1_product 63 = .ok (.bipush 10, 2) := by decide +kernel
theorem dX1_product_65 : decode cX1_product 65 = .ok (.goto 5, 3) := by decide +kernel
theorem dX1_product_68 : decode cX1_product 68 = .ok (.bipush 11, 2) := by decide +kernel
theorem dX1_product_70 : decode cX1_product 70 = .ok (.istore_n 2, 1) := by decide +kernel
theorem dX1_product_71 : decode cX1_product 71 = .ok (.aload_n 0, 1) := by decide +kernel
theorem dX1_product_72 : decode cX1_product 72 = .ok (.getfield 18, 3) := by decide +kernel
theorem dX1_product_75 : decode cX1_product 75 = .ok (.invokevirtual 56, 3) := by decide +kernel
theorem dX1_product_78 : decode cX1_product 78 = .ok (.aload_n 0, 1) := by decide +kernel
theorem dX1_product_79 : decode cX1_product 79 = .ok (.invokevirtual 73, 3) := by decide +kernel
theorem dX1_product_82 : decode cX1_product 82 = .ok (.aload_n 0, 1) := by decide +kernel
theorem dX1_product_83 : decode cX1_product 83 = .ok (.getfield 22, 3) := by decide +kernel
theorem dX1_product_86 : decode cX1_product 86 = .ok (.iload_n 2, 1) := by decide +kernel
theorem dX1_product_87 : decode cX1_product 87 = .ok (.iconst 0, 1) := by decide +kernel
theorem dX1_product_88 : decode cX1_product 88 = .ok (.invokevirtual 68, 3) := by decide +kernel
theorem dX1_product_91 : decode cX1_product 91 = .ok (.iinc 1 1, 3) := by decide +kernel
theorem dX1_product_94 : decode cX1_product 94 = .ok (.goto (-88), 3) := by decide +kernel
theorem dX1_product_97 : decode cX1_product 97 = .ok (.return_, 1) := by decide +kernel
theorem dX1_factor_0 : decode cX1_factor 0 = .ok (.aload_n 0, 1) := by decide +kernel
theorem dX1_factor_1 : decode cX1_factor 1 = .ok (.getfield 18, 3) := by decide +kernel
theorem dX1_factor_4 : decode cX1_factor 4 = .ok (.getfield 53, 3) := by decide +kernel
theorem dX1_factor_7 : decode cX1_factor 7 = .ok (.lookupswitch 114 #[(1, 49), (2, 74), (40, 88), (45, 81), (218, 107)], 49) := by decide +kernel
theorem dX1_factor_56 : decode cX1_factor 56 = .ok (.aload_n 0, 1) := by decide +kernel
theorem dX1_factor_57 : decode cX1_factor 57 = .ok (.getfield 22, 3) := by decide +kernel
theorem dX1_factor_60 : decode cX1_factor 60 = .ok (.iconst 0, 1) := by decide +kernel
theorem dX1_factor_61 : decode cX1_factor 61 = .ok (.aload_n 0, 1) := by decide +kernel
theorem dX1_factor_62 : decode cX1_factor 62 = .ok (.getfield 18, 3) := by decide +kernel
theorem dX1_factor_65 : decode cX1_factor 65 = .ok (.getfield 76, 3) := by decide +kernel
theorem dX1_factor_68 : decode cX1_factor 68 = .ok (.invokevirtual 68, 3) := by decide +kernel
theorem dX1_factor_71 : decode cX1_factor 71 = .ok (.aload_n 0, 1) := by decide +kernel
theorem dX1_factor_72 : decode cX1_factor 72 = .ok (.getfield 18, 3) := by decide +kernel
theorem dX1_factor_75 : decode cX1_factor 75 = .ok (.invokevirtual 56, 3) := by decide +kernel
theorem dX1_factor_78 : decode cX1_factor 78 = .ok (.goto 47, 3) := by decide +kernel
theorem dX1_factor_81 : decode cX1_factor 81 = .ok (.aload_n 0, 1) := by decide +kernel
theorem dX1_factor_82 : decode cX1_factor 82 = .ok (.invokevirtual 79, 3) := by decide +kernel
theorem dX1_factor_85 : decode cX1_factor 85 = .ok (.goto 40, 3) := by decide +kernel
theorem dX1_factor_88 : decode cX1_factor 88 = .ok (.aload_n 0, 1) := by decide +kernel
theorem dX1_factor_89 : decode cX1_factor 89 = .ok (.invokevirtual 82, 3) := by decide +kernel
theorem dX1_factor_92 : decode cX1_factor 92 = .ok (.goto 33, 3) := by decide +kernel
theorem dX1_factor_95 : decode cX1_factor 95 = .ok (.aload_n 0, 1) := by decide +kernel
theorem dX1_factor_96 : decode cX1_factor 96 = .ok (.bipush 40, 2) := by decide +kernel
theorem dX1_factor_98 : decode cX1_factor 98 = .ok (.invokevirtual 85, 3) := by decide +kernel
theorem dX1_factor_101 : decode cX1_factor 101 = .ok (.aload_n 0, 1) := by decide +kernel
theorem dX1_factor_102 : decode cX1_factor 102 = .ok (.invokevirtual 89, 3) := by decide +kernel
theorem dX1_factor_105 : decode cX1_factor 105 = .ok (.aload_n 0, 1) := by decide +kernel
theorem dX1_factor_106 : decode cX1_factor 106 = .ok (.bipush 41, 2) := by decide +kernel
theorem dX1_factor_108 : decode cX1_factor 108 = .ok (.invokevirtual 92, 3) := by decide +kernel
theorem dX1_factor_111 : decode cX1_factor 111 = .ok (.goto 14, 3) := by decide +kernel
theorem dX1_factor_114 : decode cX1_factor 114 = .ok (.aload_n 0, 1) := by decide +kernel
theorem dX1_factor_115 : decode cX1_factor 115 = .ok (.invokevirtual 95, 3) := by decide +kernel
theorem dX1_factor_118 : decode cX1_factor 118 = .ok (.goto 7, 3) := by decide +kernel
theorem dX1_factor_121 : decode cX1_factor 121 = .ok (.aload_n 0, 1) := by decide +kernel
theorem dX1_factor_122 : decode cX1_factor 122 = .ok (.invokevirtual 59, 3) := by decide +kernel
theorem dX1_factor_125 : decode cX1_factor 125 = .ok (.return_, 1) := by decide +kernel
theorem dX1_loadName_0 : decode cX1_loadName 0 = .ok (.aload_n 0, 1) := by decide +kernel
theorem dX1_loadName_1 : decode cX1_loadName 1 = .ok (.getfield 12, 3) := by decide +kernel
theorem dX1_loadName_4 : decode cX1_loadName 4 = .ok (.aload_n 0, 1) := by decide +kernel
theorem dX1_loadName_5 : decode cX1_loadName 5 = .ok (.getfield 18, 3) := by decide +kernel
theorem dX1_loadName_8 : decode cX1_loadName 8 = .ok (.getfield 98, 3) := by decide +kernel
theorem dX1_loadName_11 : decode cX1_loadName 11 = .ok (.invokevirtual 102, 3) := by decide +kernel
theorem dX1_loadName_14 : decode cX1_loadName 14 = .ok (.istore_n 1, 1) := by decide +kernel
theorem dX1_loadName_15 : decode cX1_loadName 15 = .ok (.iload_n 1, 1) := by decide +kernel
theorem dX1_loadName_16 : decode cX1_loadName 16 = .ok (.ifCond .ge 16, 3) := by decide +kernel
theorem dX1_loadName_19 : decode cX1_loadName 19 = .ok (.aload_n 0, 1) := by decide +kernel
theorem dX1_loadName_20 : decode cX1_loadName 20 = .ok (.iconst 3, 1) := by decide +kernel
theorem dX1_loadName_21 : decode cX1_loadName 21 = .ok (.aload_n 0, 1) := by decide +kernel
theorem dX1_loadName_22 : decode cX1_loadName 22 = .ok (.getfield 18, 3) := by decide +kernel
theorem dX1_loadName_25 : decode cX1_loadName 25 = .ok (.getfield 46, 3) := by decide +kernel
theorem dX1_loadName_28 : decode cX1_loadName 28 = .ok (.invokevirtual 49, 3) := by decide +kernel
theorem dX1_loadName_31 : decode cX1_loadName 31 = .ok (.return_, 1) := by decide +kernel
theorem dX1_loadName_32 : decode cX1_loadName 32 = .ok (.aload_n 0, 1) := by decide +kernel
theorem dX1_loadName_33 : decode cX1_loadName 33 = .ok (.getfield 22, 3) := by decide +kernel
theorem dX1_loadName_36 : decode cX1_loadName 36 = .ok (.iconst 1, 1) := by decide +kernel
theorem dX1_loadName_37 : decode cX1_loadName 37 = .ok (.aload_n 0, 1) := by decide +kernel
theorem dX1_loadName_38 : decode cX1_loadName 38 = .ok (.getfield 12, 3) := by decide +kernel
theorem dX1_loadName_41 : decode cX1_loadName 41 = .ok (.iload_n 1, 1) := by decide +kernel
theorem dX1_loadName_42 : decode cX1_loadName 42 = .ok (.invokevirtual 106, 3) := by decide +kernel
theorem dX1_loadName_45 : decode cX1_loadName 45 = .ok (.invokevirtual 68, 3) := by decide +kernel
theorem dX1_loadName_48 : decode cX1_loadName 48 = .ok (.aload_n 0, 1) := by decide +kernel
theorem dX1_loadName_49 : decode cX1_loadName 49 = .ok (.getfield 18, 3) := by decide +kernel
theorem dX1_loadName_52 : decode cX1_loadName 52 = .ok (.invokevirtual 56, 3) := by decide +kernel
theorem dX1_loadName_55 : decode cX1_loadName 55 = .ok (.return_, 1) := by decide +kernel
theorem dX1_negated_0 : decode cX1_negated 0 = .ok (.aload_n 0, 1) := by decide +kernel
theorem dX1_negated_1 : decode cX1_negated 1 = .ok (.bipush 45, 2) := by decide +kernel
theorem dX1_negated_3 : decode cX1_negated 3 = .ok (.invokevirtual 85, 3) := by decide +kernel
theorem dX1_negated_6 : decode cX1_negated 6 = .ok (.aload_n 0, 1) := by decide +kernel
theorem dX1_negated_7 : decode cX1_negated 7 = .ok (.getfield 30, 3) := by decide +kernel
theorem dX1_negated_10 : decode cX1_negated 10 = .ok (.ifCond .ne 7, 3) := by decide +kernel
theorem dX1_negated_13 : decode cX1_negated 13 = .ok (.aload_n 0, 1) := by decide +kernel
theorem dX1_negated_14 : decode cX1_negated 14 = .ok (.invokevirtual 73, 3) := by decide +kernel
theorem dX1_negated_17 : decode cX1_negated 17 = .ok (.aload_n 0, 1) := by decide +kernel
theorem dX1_negated_18 : decode cX1_negated 18 = .ok (.dup, 1) := by decide +kernel
theorem dX1_negated_19 : decode cX1_negated 19 = .ok (.getfield 62, 3) := by decide +kernel
theorem dX1_negated_22 : decode cX1_negated 22 = .ok (.iconst 1, 1) := by decide +kernel
theorem dX1_negated_23 : decode cX1_negated 23 = .ok (.isub, 1) := by decide +kernel
theorem dX1_negated_24 : decode cX1_negated 24 = .ok (.putfield 62, 3) := by decide +kernel
theorem dX1_negated_27 : decode cX1_negated 27 = .ok (.aload_n 0, 1) := by decide +kernel
theorem dX1_negated_28 : decode cX1_negated 28 = .ok (.getfield 22, 3) := by decide +kernel
theorem dX1_negated_31 : decode cX1_negated 31 = .ok (.iconst 4, 1) := by decide +kernel
theorem dX1_negated_32 : decode cX1_negated 32 = .ok (.iconst 0, 1) := by decide +kernel
theorem dX1_negated_33 : decode cX1_negated 33 = .ok (.invokevirtual 68, 3) := by decide +kernel
theorem dX1_negated_36 : decode cX1_negated 36 = .ok (.return_, 1) := by decide +kernel
theorem dX1_choice_0 : decode cX1_choice 0 = .ok (.aload_n 0, 1) := by decide +kernel
theorem dX1_choice_1 : decode cX1_choice 1 = .ok (.getfield 18, 3) := by decide +kernel
theorem dX1_choice_4 : decode cX1_choice 4 = .ok (.invokevirtual 56, 3) := by decide +kernel
theorem dX1_choice_7 : decode cX1_choice 7 = .ok (.aload_n 0, 1) := by decide +kernel
theorem dX1_choice_8 : decode cX1_choice 8 = .ok (.bipush 40, 2) := by decide +kernel
theorem dX1_choice_10 : decode cX1_choice 10 = .ok (.invokevirtual 85, 3) := by decide +kernel
theorem dX1_choice_13 : decode cX1_choice 13 = .ok (.aload_n 0, 1) := by decide +kernel
theorem dX1_choice_14 : decode cX1_choice 14 = .ok (.invokevirtual 89, 3) := by decide +kernel
theorem dX1_choice_17 : decode cX1_choice 17 = .ok (.aload_n 0, 1) := by decide +kernel
theorem dX1_choice_18 : decode cX1_choice 18 = .ok (.bipush 41, 2) := by decide +kernel
theorem dX1_choice_20 : decode cX1_choice 20 = .ok (.invokevirtual 92, 3) := by decide +kernel
theorem dX1_choice_23 : decode cX1_choice 23 = .ok (.aload_n 0, 1) := by decide +kernel
theorem dX1_choice_24 : decode cX1_choice 24 = .ok (.bipush 123, 2) := by decide +kernel
theorem dX1_choice_26 : decode cX1_choice 26 = .ok (.invokevirtual 85, 3) := by decide +kernel
theorem dX1_choice_29 : decode cX1_choice 29 = .ok (.aload_n 0, 1) := by decide +kernel
theorem dX1_choice_30 : decode cX1_choice 30 = .ok (.getfield 22, 3) := by decide +kernel
theorem dX1_choice_33 : decode cX1_choice 33 = .ok (.invokevirtual 110, 3) := by decide +kernel
theorem dX1_choice_36 : decode cX1_choice 36 = .ok (.istore_n 1, 1) := by decide +kernel
theorem dX1_choice_37 : decode cX1_choice 37 = .ok (.aload_n 0, 1) := by decide +kernel
theorem dX1_choice_38 : decode cX1_choice 38 = .ok (.getfield 22, 3) := by decide +kernel
theorem dX1_choice_41 : decode cX1_choice 41 = .ok (.invokevirtual 110, 3) := by decide +kernel
theorem dX1_choice_44 : decode cX1_choice 44 = .ok (.istore_n 2, 1) := by decide +kernel
theorem dX1_choice_45 : decode cX1_choice 45 = .ok (.aload_n 0, 1) := by decide +kernel
theorem dX1_choice_46 : decode cX1_choice 46 = .ok (.getfield 22, 3) := by decide +kernel
theorem dX1_choice_49 : decode cX1_choice 49 = .ok (.getfield 114, 3) := by decide +kernel
theorem dX1_choice_52 : decode cX1_choice 52 = .ok (.istore_n 3, 1) := by decide +kernel
theorem dX1_choice_53 : decode cX1_choice 53 = .ok (.iconst (-1), 1) := by decide +kernel
theorem dX1_choice_54 : decode cX1_choice 54 = .ok (.istore 4, 2) := by decide +kernel
theorem dX1_choice_56 : decode cX1_choice 56 = .ok (.aload_n 0, 1) := by decide +kernel
theorem dX1_choice_57 : decode cX1_choice 57 = .ok (.getfield 22, 3) := by decide +kernel
theorem dX1_choice_60 : decode cX1_choice 60 = .ok (.bipush 30, 2) := by decide +kernel
theorem dX1_choice_62 : decode cX1_choice 62 = .ok (.iload_n 1, 1) := by decide +kernel
