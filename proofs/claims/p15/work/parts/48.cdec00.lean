theorem dX0_clear_0 : decode cX0_clear 0 = .ok (.aload_n 0, 1) := by decide +kernel
theorem dX0_clear_1 : decode cX0_clear 1 = .ok (.iconst 0, 1) := by decide +kernel
theorem dX0_clear_2 : decode cX0_clear 2 = .ok (.putfield 27, 3) := by decide +kernel
theorem dX0_clear_5 : decode cX0_clear 5 = .ok (.aload_n 0, 1) := by decide +kernel
theorem dX0_clear_6 : decode cX0_clear 6 = .ok (.iconst 0, 1) := by decide +kernel
theorem dX0_clear_7 : decode cX0_clear 7 = .ok (.putfield 31, 3) := by decide +kernel
theorem dX0_clear_10 : decode cX0_clear 10 = .ok (.aload_n 0, 1) := by decide +kernel
theorem dX0_clear_11 : decode cX0_clear 11 = .ok (.iconst 0, 1) := by decide +kernel
theorem dX0_clear_12 : decode cX0_clear 12 = .ok (.putfield 34, 3) := by decide +kernel
theorem dX0_clear_15 : decode cX0_clear 15 = .ok (.aload_n 0, 1) := by decide +kernel
theorem dX0_clear_16 : decode cX0_clear 16 = .ok (.iconst 0, 1) := by decide +kernel
theorem dX0_clear_17 : decode cX0_clear 17 = .ok (.putfield 37, 3) := by decide +kernel
theorem dX0_clear_20 : decode cX0_clear 20 = .ok (.aload_n 0, 1) := by decide +kernel
theorem dX0_clear_21 : decode cX0_clear 21 = .ok (.iconst 0, 1) := by decide +kernel
theorem dX0_clear_22 : decode cX0_clear 22 = .ok (.putfield 40, 3) := by decide +kernel
theorem dX0_clear_25 : decode cX0_clear 25 = .ok (.aload_n 0, 1) := by decide +kernel
theorem dX0_clear_26 : decode cX0_clear 26 = .ok (.iconst 0, 1) := by decide +kernel
theorem dX0_clear_27 : decode cX0_clear 27 = .ok (.putfield 43, 3) := by decide +kernel
theorem dX0_clear_30 : decode cX0_clear 30 = .ok (.aload_n 0, 1) := by decide +kernel
theorem dX0_clear_31 : decode cX0_clear 31 = .ok (.iconst 0, 1) := by decide +kernel
theorem dX0_clear_32 : decode cX0_clear 32 = .ok (.putfield 46, 3) := by decide +kernel
theorem dX0_clear_35 : decode cX0_clear 35 = .ok (.aload_n 0, 1) := by decide +kernel
theorem dX0_clear_36 : decode cX0_clear 36 = .ok (.iconst 0, 1) := by decide +kernel
theorem dX0_clear_37 : decode cX0_clear 37 = .ok (.putfield 49, 3) := by decide +kernel
theorem dX0_clear_40 : decode cX0_clear 40 = .ok (.return_, 1) := by decide +kernel
theorem dX0_add_0 : decode cX0_add 0 = .ok (.aload_n 0, 1) := by decide +kernel
theorem dX0_add_1 : decode cX0_add 1 = .ok (.getfield 9, 3) := by decide +kernel
theorem dX0_add_4 : decode cX0_add 4 = .ok (.aload_n 0, 1) := by decide +kernel
theorem dX0_add_5 : decode cX0_add 5 = .ok (.getfield 27, 3) := by decide +kernel
theorem dX0_add_8 : decode cX0_add 8 = .ok (.iload_n 1, 1) := by decide +kernel
theorem dX0_add_9 : decode cX0_add 9 = .ok (.invokestatic 53, 3) := by decide +kernel
theorem dX0_add_12 : decode cX0_add 12 = .ok (.aload_n 0, 1) := by decide +kernel
theorem dX0_add_13 : decode cX0_add 13 = .ok (.getfield 15, 3) := by decide +kernel
theorem dX0_add_16 : decode cX0_add 16 = .ok (.aload_n 0, 1) := by decide +kernel
theorem dX0_add_17 : decode cX0_add 17 = .ok (.getfield 27, 3) := by decide +kernel
theorem dX0_add_20 : decode cX0_add 20 = .ok (.iload_n 2, 1) := by decide +kernel
theorem dX0_add_21 : decode cX0_add 21 = .ok (.invokestatic 53, 3) := by decide +kernel
theorem dX0_add_24 : decode cX0_add 24 = .ok (.aload_n 0, 1) := by decide +kernel
theorem dX0_add_25 : decode cX0_add 25 = .ok (.dup, 1) := by decide +kernel
theorem dX0_add_26 : decode cX0_add 26 = .ok (.getfield 27, 3) := by decide +kernel
theorem dX0_add_29 : decode cX0_add 29 = .ok (.iconst 1, 1) := by decide +kernel
theorem dX0_add_30 : decode cX0_add 30 = .ok (.iadd, 1) := by decide +kernel
theorem dX0_add_31 : decode cX0_add 31 = .ok (.putfield 27, 3) := by decide +kernel
theorem dX0_add_34 : decode cX0_add 34 = .ok (.return_, 1) := by decide +kernel
theorem dX0_newTarget_0 : decode cX0_newTarget 0 = .ok (.aload_n 0, 1) := by decide +kernel
theorem dX0_newTarget_1 : decode cX0_newTarget 1 = .ok (.getfield 18, 3) := by decide +kernel
theorem dX0_newTarget_4 : decode cX0_newTarget 4 = .ok (.aload_n 0, 1) := by decide +kernel
theorem dX0_newTarget_5 : decode cX0_newTarget 5 = .ok (.getfield 31, 3) := by decide +kernel
theorem dX0_newTarget_8 : decode cX0_newTarget 8 = .ok (.iconst (-1), 1) := by decide +kernel
theorem dX0_newTarget_9 : decode cX0_newTarget 9 = .ok (.invokestatic 53, 3) := by decide +kernel
theorem dX0_newTarget_12 : decode cX0_newTarget 12 = .ok (.aload_n 0, 1) := by decide +kernel
theorem dX0_newTarget_13 : decode cX0_newTarget 13 = .ok (.dup, 1) := by decide +kernel
theorem dX0_newTarget_14 : decode cX0_newTarget 14 = .ok (.getfield 31, 3) := by decide +kernel
theorem dX0_newTarget_17 : decode cX0_newTarget 17 = .ok (.iconst 1, 1) := by decide +kernel
theorem dX0_newTarget_18 : decode cX0_newTarget 18 = .ok (.iadd, 1) := by decide +kernel
theorem dX0_newTarget_19 : decode cX0_newTarget 19 = .ok (.putfield 31, 3) := by decide +kernel
theorem dX0_newTarget_22 : decode cX0_newTarget 22 = .ok (.aload_n 0, 1) := by decide +kernel
theorem dX0_newTarget_23 : decode cX0_newTarget 23 = .ok (.getfield 31, 3) := by decide +kernel
theorem dX0_newTarget_26 : decode cX0_newTarget 26 = .ok (.iconst 1, 1) := by decide +kernel
theorem dX0_newTarget_27 : decode cX0_newTarget 27 = .ok (.isub, 1) := by decide +kernel
theorem dX0_newTarget_28 : decode cX0_newTarget 28 = .ok (.ireturn, 1) := by decide +kernel
theorem dX0_aim_0 : decode cX0_aim 0 = .ok (.aload_n 0, 1) := by decide +kernel
theorem dX0_aim_1 : decode cX0_aim 1 = .ok (.getfield 18, 3) := by decide +kernel
theorem dX0_aim_4 : decode cX0_aim 4 = .ok (.iload_n 1, 1) := by decide +kernel
theorem dX0_aim_5 : decode cX0_aim 5 = .ok (.aload_n 0, 1) := by decide +kernel
theorem dX0_aim_6 : decode cX0_aim 6 = .ok (.getfield 27, 3) := by decide +kernel
theorem dX0_aim_9 : decode cX0_aim 9 = .ok (.invokestatic 53, 3) := by decide +kernel
theorem dX0_aim_12 : decode cX0_aim 12 = .ok (.return_, 1) := by decide +kernel
theorem dX0_newCells_0 : decode cX0_newCells 0 = .ok (.aload_n 0, 1) := by decide +kernel
theorem dX0_newCells_1 : decode cX0_newCells 1 = .ok (.dup, 1) := by decide +kernel
theorem dX0_newCells_2 : decode cX0_newCells 2 = .ok (.getfield 37, 3) := by decide +kernel
theorem dX0_newCells_5 : decode cX0_newCells 5 = .ok (.iload_n 1, 1) := by decide +kernel
theorem dX0_newCells_6 : decode cX0_newCells 6 = .ok (.iadd, 1) := by decide +kernel
theorem dX0_newCells_7 : decode cX0_newCells 7 = .ok (.putfield 37, 3) := by decide +kernel
theorem dX0_newCells_10 : decode cX0_newCells 10 = .ok (.aload_n 0, 1) := by decide +kernel
theorem dX0_newCells_11 : decode cX0_newCells 11 = .ok (.getfield 37, 3) := by decide +kernel
theorem dX0_newCells_14 : decode cX0_newCells 14 = .ok (.iload_n 1, 1) := by decide +kernel
theorem dX0_newCells_15 : decode cX0_newCells 15 = .ok (.isub, 1) := by decide +kernel
theorem dX0_newCells_16 : decode cX0_newCells 16 = .ok (.ireturn, 1) := by decide +kernel
theorem dX0_hasCase_0 : decode cX0_hasCase 0 = .ok (.iload_n 1, 1) := by decide +kernel
theorem dX0_hasCase_1 : decode cX0_hasCase 1 = .ok (.istore_n 3, 1) := by decide +kernel
theorem dX0_hasCase_2 : decode cX0_hasCase 2 = .ok (.iload_n 3, 1) := by decide +kernel
theorem dX0_hasCase_3 : decode cX0_hasCase 3 = .ok (.aload_n 0, 1) := by decide +kernel
theorem dX0_hasCase_4 : decode cX0_hasCase 4 = .ok (.getfield 34, 3) := by decide +kernel
theorem dX0_hasCase_7 : decode cX0_hasCase 7 = .ok (.if_icmp .ge 23, 3) := by decide +kernel
theorem dX0_hasCase_10 : decode cX0_hasCase 10 = .ok (.aload_n 0, 1) := by decide +kernel
theorem dX0_hasCase_11 : decode cX0_hasCase 11 = .ok (.getfield 21, 3) := by decide +kernel
theorem dX0_hasCase_14 : decode cX0_hasCase 14 = .ok (.iload_n 3, 1) := by decide +kernel
theorem dX0_hasCase_15 : decode cX0_hasCase 15 = .ok (.invokestatic 57, 3) := by decide +kernel
theorem dX0_hasCase_18 : decode cX0_hasCase 18 = .ok (.iload_n 2, 1) := by decide +kernel
theorem dX0_hasCase_19 : decode cX0_hasCase 19 = .ok (.if_icmp .ne 5, 3) := by decide +kernel
theorem dX0_hasCase_22 : decode cX0_hasCase 22 = .ok (.iconst 1, 1) := by decide +kernel
theorem dX0_hasCase_23 : decode cX0_hasCase 23 = .ok (.ireturn, 1) := by decide +kernel
theorem dX0_hasCase_24 : decode cX0_hasCase 24 = .ok (.iinc 3 1, 3) := by decide +kernel
theorem dX0_hasCase_27 : decode cX0_hasCase 27 = .ok (.goto (-25), 3) := by decide +kernel
theorem dX0_hasCase_30 : decode cX0_hasCase 30 = .ok (.iconst 0, 1) := by decide +kernel
theorem dX0_hasCase_31 : decode cX0_hasCase 31 = .ok (.ireturn, 1) := by decide +kernel
theorem dX0_addCase_0 : decode cX0_addCase 0 = .ok (.aload_n 0, 1) := by decide +kernel
theorem dX0_addCase_1 : decode cX0_addCase 1 = .ok (.getfield 21, 3) := by decide +kernel
theorem dX0_addCase_4 : decode cX0_addCase 4 = .ok (.aload_n 0, 1) := by decide +kernel
theorem dX0_addCase_5 : decode cX0_addCase 5 = .ok (.getfield 34, 3) := by decide +kernel
theorem dX0_addCase_8 : decode cX0_addCase 8 = .ok (.iload_n 1, 1) := by decide +kernel
theorem dX0_addCase_9 : decode cX0_addCase 9 = .ok (.invokestatic 53, 3) := by decide +kernel
theorem dX0_addCase_12 : decode cX0_addCase 12 = .ok (.aload_n 0, 1) := by decide +kernel
theorem dX0_addCase_13 : decode cX0_addCase 13 = .ok (.getfield 24, 3) := by decide +kernel
theorem dX0_addCase_16 : decode cX0_addCase 16 = .ok (.aload_n 0, 1) := by decide +kernel
theorem dX0_addCase_17 : decode cX0_addCase 17 = .ok (.getfield 34, 3) := by decide +kernel
theorem dX0_addCase_20 : decode cX0_addCase 20 = .ok (.iload_n 2, 1) := by decide +kernel
theorem dX0_addCase_21 : decode cX0_addCase 21 = .ok (.invokestatic 53, 3) := by decide +kernel
theorem dX0_addCase_24 : decode cX0_addCase 24 = .ok (.aload_n 0, 1) := by decide +kernel
theorem dX0_addCase_25 : decode cX0_addCase 25 = .ok (.dup, 1) := by decide +kernel
theorem dX0_addCase_26 : decode cX0_addCase 26 = .ok (.getfield 34, 3) := by decide +kernel
theorem dX0_addCase_29 : decode cX0_addCase 29 = .ok (.iconst 1, 1) := by decide +kernel
theorem dX0_addCase_30 : decode cX0_addCase 30 = .ok (.iadd, 1) := by decide +kernel
theorem dX0_addCase_31 : decode cX0_addCase 31 = .ok (.putfield 34, 3) := by decide +kernel
theorem dX0_addCase_34 : decode cX0_addCase 34 = .ok (.return_, 1) := by decide +kernel
theorem dX0_addCases_0 : decode cX0_addCases 0 = .ok (.iload_n 1, 1) := by decide +kernel
theorem dX0_addCases_1 : decode cX0_addCases 1 = .ok (.istore_n 3, 1) := by decide +kernel
theorem dX0_addCases_2 : decode cX0_addCases 2 = .ok (.iload_n 3, 1) := by decide +kernel
theorem dX0_addCases_3 : decode cX0_addCases 3 = .ok (.aload_n 0, 1) := by decide +kernel
theorem dX0_addCases_4 : decode cX0_addCases 4 = .ok (.getfield 34, 3) := by decide +kernel
theorem dX0_addCases_7 : decode cX0_addCases 7 = .ok (.if_icmp .ge 36, 3) := by decide +kernel
theorem dX0_addCases_10 : decode cX0_addCases 10 = .ok (.aload_n 0, 1) := by decide +kernel
theorem dX0_addCases_11 : decode cX0_addCases 11 = .ok (.iconst 0, 1) := by decide +kernel
theorem dX0_addCases_12 : decode cX0_addCases 12 = .ok (.aload_n 0, 1) := by decide +kernel
theorem dX0_addCases_13 : decode cX0_addCases 13 = .ok (.getfield 21, 3) := by decide +kernel
theorem dX0_addCases_16 : decode cX0_addCases 16 = .ok (.iload_n 3, 1) := by decide +kernel
theorem dX0_addCases_17 : decode cX0_addCases 17 = .ok (.invokestatic 57, 3) := by decide +kernel
theorem dX0_addCases_20 : decode cX0_addCases 20 = .ok (.invokevirtual 61, 3) := by decide +kernel
theorem dX0_addCases_23 : decode cX0_addCases 23 = .ok (.aload_n 0, 1) := by decide +kernel
theorem dX0_addCases_24 : decode cX0_addCases 24 = .ok (.bipush 34, 2) := by decide +kernel
theorem dX0_addCases_26 : decode cX0_addCases 26 = .ok (.aload_n 0, 1) := by decide +kernel
theorem dX0_addCases_27 : decode cX0_addCases 27 = .ok (.getfield 24, 3) := by decide +kernel
theorem dX0_addCases_30 : decode cX0_addCases 30 = .ok (.iload_n 3, 1) := by decide +kernel
theorem dX0_addCases_31 : decode cX0_addCases 31 = .ok (.invokestatic 57, 3) := by decide +kernel
theorem dX0_addCases_34 : decode cX0_addCases 34 = .ok (.invokevirtual 61, 3) := by decide +kernel
theorem dX0_addCases_37 : decode cX0_addCases 37 = .ok (.iinc 3 1, 3) := by decide +kernel
theorem dX0_addCases_40 : decode cX0_addCases 40 = .ok (.goto (-38), 3) := by decide +kernel
theorem dX0_addCases_43 : decode cX0_addCases 43 = .ok (.aload_n 0, 1) := by decide +kernel
theorem dX0_addCases_44 : decode cX0_addCases 44 = .ok (.iload_n 1, 1) := by decide +kernel
theorem dX0_addCases_45 : decode cX0_addCases 45 = .ok (.putfield 34, 3) := by decide +kernel
theorem dX0_addCases_48 : decode cX0_addCases 48 = .ok (.aload_n 0, 1) := by decide +kernel
theorem dX0_addCases_49 : decode cX0_addCases 49 = .ok (.bipush 6, 2) := by decide +kernel
theorem dX0_addCases_51 : decode cX0_addCases 51 = .ok (.iconst 0, 1) := by decide +kernel
theorem dX0_addCases_52 : decode cX0_addCases 52 = .ok (.invokevirtual 61, 3) := by decide +kernel
theorem dX0_addCases_55 : decode cX0_addCases 55 = .ok (.aload_n 0, 1) := by decide +kernel
theorem dX0_addCases_56 : decode cX0_addCases 56 = .ok (.bipush 30, 2) := by decide +kernel
theorem dX0_addCases_58 : decode cX0_addCases 58 = .ok (.iload_n 2, 1) := by decide +kernel
theorem dX0_addCases_59 : decode cX0_addCases 59 = .ok (.invokevirtual 61, 3) := by decide +kernel
theorem dX0_addCases_62 : decode cX0_addCases 62 = .ok (.return_, 1) := by decide +kernel
theorem dX1_fail_0 : decode cX1_fail 0 = .ok (.aload_n 0, 1) := by decide +kernel
theorem dX1_fail_1 : decode cX1_fail 1 = .ok (.getfield 30, 3) := by decide +kernel
theorem dX1_fail_4 : decode cX1_fail 4 = .ok (.ifCond .ne 20, 3) := by decide +kernel
theorem dX1_fail_7 : decode cX1_fail 7 = .ok (.aload_n 0, 1) := by decide +kernel
theorem dX1_fail_8 : decode cX1_fail 8 = .ok (.iload_n 1, 1) := by decide +kernel
theorem dX1_fail_9 : decode cX1_fail 9 = .ok (.putfield 30, 3) := by decide +kernel
theorem dX1_fail_12 : decode cX1_fail 12 = .ok (.aload_n 0, 1) := by decide +kernel
theorem dX1_fail_13 : decode cX1_fail 13 = .ok (.iload_n 2, 1) := by decide +kernel
theorem dX1_fail_14 : decode cX1_fail 14 = .ok (.putfield 34, 3) := by decide +kernel
theorem dX1_fail_17 : decode cX1_fail 17 = .ok (.aload_n 0, 1) := by decide +kernel
theorem dX1_fail_18 : decode cX1_fail 18 = .ok (.getfield 18, 3) := by decide +kernel
theorem dX1_fail_21 : decode cX1_fail 21 = .ok (.invokevirtual 37, 3) := by decide +kernel
theorem dX1_fail_24 : decode cX1_fail 24 = .ok (.return_, 1) := by decide +kernel
theorem dX1_misplaced_0 : decode cX1_misplaced 0 = .ok (.aload_n 0, 1) := by decide +kernel
theorem dX1_misplaced_1 : decode cX1_misplaced 1 = .ok (.aload_n 0, 1) := by decide +kernel
theorem dX1_misplaced_2 : decode cX1_misplaced 2 = .ok (.bipush 6, 2) := by decide +kernel
theorem dX1_misplaced_4 : decode cX1_misplaced 4 = .ok (.invokevirtual 42, 3) := by decide +kernel
theorem dX1_misplaced_7 : decode cX1_misplaced 7 = .ok (.ifCond .eq 7, 3) := by decide +kernel
theorem dX1_misplaced_10 : decode cX1_misplaced 10 = .ok (.iconst 1, 1) := by decide +kernel
theorem dX1_misplaced_11 : decode cX1_misplaced 11 = .ok (.goto 4, 3) := by decide +kernel
theorem dX1_misplaced_14 : decode cX1_misplaced 14 = .ok (.iconst 2, 1) := by decide +kernel
theorem dX1_misplaced_15 : decode cX1_misplaced 15 = .ok (.aload_n 0, 1) := by decide +kernel
theorem dX1_misplaced_16 : decode cX1_misplaced 16 = .ok (.getfield 18, 3) := by decide +kernel
theorem dX1_misplaced_19 : decode cX1_misplaced 19 = .ok (.getfield 46, 3) := by decide +kernel
theorem dX1_misplaced_22 : decode cX1_misplaced 22 = .ok (.invokevirtual 49, 3) := by decide +kernel
theorem dX1_misplaced_25 : decode cX1_misplaced 25 = .ok (.return_, 1) := by decide +kernel
theorem dX1_found_0 : decode cX1_found 0 = .ok (.aload_n 0, 1) := by decide +kernel
theorem dX1_found_1 : decode cX1_found 1 = .ok (.getfield 18, 3) := by decide +kernel
theorem dX1_found_4 : decode cX1_found 4 = .ok (.getfield 53, 3) := by decide +kernel
theorem dX1_found_7 : decode cX1_found 7 = .ok (.iload_n 1, 1) := by decide +kernel
theorem dX1_found_8 : decode cX1_found 8 = .ok (.if_icmp .ne 7, 3) := by decide +kernel
theorem dX1_found_11 : decode cX1_found 11 = .ok (.iconst 1, 1) := by decide +kernel
theorem dX1_found_12 : decode cX1_found 12 = .ok (.goto 4, 3) := by decide +kernel
theorem dX1_found_15 : decode cX1_found 15 = .ok (.iconst 0, 1) := by decide +kernel
theorem dX1_found_16 : decode cX1_found 16 = .ok (.ireturn, 1) := by decide +kernel
theorem dX1_skip_0 : decode cX1_skip 0 = .ok (.aload_n 0, 1) := by decide +kernel
theorem dX1_skip_1 : decode cX1_skip 1 = .ok (.iload_n 1, 1) := by decide +kernel
theorem dX1_skip_2 : decode cX1_skip 2 = .ok (.invokevirtual 42, 3) := by decide +kernel
theorem dX1_skip_5 : decode cX1_skip 5 = .ok (.istore_n 2, 1) := by decide +kernel
theorem dX1_skip_6 : decode cX1_skip 6 = .ok (.iload_n 2, 1) := by decide +kernel
theorem dX1_skip_7 : decode cX1_skip 7 = .ok (.ifCond .eq 10, 3) := by decide +kernel
theorem dX1_skip_10 : decode cX1_skip 10 = .ok (.aload_n 0, 1) := by decide +kernel
theorem dX1_skip_11 : decode cX1_skip 11 = .ok (.getfield 18, 3) := by decide +kernel
theorem dX1_skip_14 : decode cX1_skip 14 = .ok (.invokevirtual 56, 3) := by decide +kernel
theorem dX1_skip_17 : decode cX1_skip 17 = .ok (.iload_n 2, 1) := by decide +kernel
theorem dX1_skip_18 : decode cX1_skip 18 = .ok (.ireturn, 1) := by decide +kernel
theorem dX1_expect_0 : decode cX1_expect 0 = .ok (.aload_n 0, 1) := by decide +kernel
theorem dX1_expect_1 : decode cX1_expect 1 = .ok (.iload_n 1, 1) := by decide +kernel
theorem dX1_expect_2 : decode cX1_expect 2 = .ok (.invokevirtual 42, 3) := by decide +kernel
theorem dX1_expect_5 : decode cX1_expect 5 = .ok (.ifCond .eq 13, 3) := by decide +kernel
theorem dX1_expect_8 : decode cX1_expect 8 = .ok (.aload_n 0, 1) := by decide +kernel
theorem dX1_expect_9 : decode cX1_expect 9 = .ok (.getfield 18, 3) := by decide +kernel
theorem dX1_expect_12 : decode cX1_expect 12 = .ok (.invokevirtual 56, 3) := by decide +kernel
theorem dX1_expect_15 : decode cX1_expect 15 = .ok (.goto 7, 3) := by decide +kernel
theorem dX1_expect_18 : decode cX1_expect 18 = .ok (.aload_n 0, 1) := by decide +kernel
theorem dX1_expect_19 : decode cX1_expect 19 = .ok (.invokevirtual 59, 3) := by decide +kernel
theorem dX1_expect_22 : decode cX1_expect 22 = .ok (.return_, 1) := by decide +kernel
theorem dX1_open_0 : decode cX1_open 0 = .ok (.aload_n 0, 1) := by decide +kernel
theorem dX1_open_1 : decode cX1_open 1 = .ok (.iload_n 1, 1) := by decide +kernel
theorem dX1_open_2 : decode cX1_open 2 = .ok (.invokevirtual 42, 3) := by decide +kernel
theorem dX1_open_5 : decode cX1_open 5 = .ok (.ifCond .ne 10, 3) := by decide +kernel
theorem dX1_open_8 : decode cX1_open 8 = .ok (.aload_n 0, 1) := by decide +kernel
theorem dX1_open_9 : decode cX1_open 9 = .ok (.invokevirtual 59, 3) := by decide +kernel
theorem dX1_open_12 : decode cX1_open 12 = .ok (.goto 45, 3) := by decide +kernel
theorem dX1_open_15 : decode cX1_open 15 = .ok (.aload_n 0, 1) := by decide +kernel
theorem dX1_open_16 : decode cX1_open 16 = .ok (.getfield 62, 3) := by decide +kernel
theorem dX1_open_19 : decode cX1_open 19 = .ok (.bipush 20, 2) := by decide +kernel
theorem dX1_open_21 : decode cX1_open 21 = .ok (.if_icmp .lt 19, 3) := by decide +kernel
theorem dX1_open_24 : decode cX1_open 24 = .ok (.aload_n 0, 1) := by decide +kernel
theorem dX1_open_25 : decode cX1_open 25 = .ok (.bipush 6, 2) := by decide +kernel
theorem dX1_open_27 : decode cX1_open 27 = .ok (.aload_n 0, 1) := by decide +kernel
theorem dX1_open_28 : decode cX1_open 28 = .ok (.getfield 18, 3) := by decide +kernel
theorem dX1_open_31 : decode cX1_open 31 = .ok (.getfield 46, 3) := by decide +kernel
theorem dX1_open_34 : decode cX1_open 34 = .ok (.invokevirtual 49, 3) := by decide +kernel
theorem dX1_open_37 : decode cX1_open 37 = .ok (.goto 20, 3) := by decide +kernel
theorem dX1_open_40 : decode cX1_open 40 = .ok (.aload_n 0, 1) := by decide +kernel
theorem dX1_open_41 : decode cX1_open 41 = .ok (.dup, 1) := by decide +kernel
theorem dX1_open_42 : decode cX1_open 42 = .ok (.getfield 62, 3) := by decide +kernel
theorem dX1_open_45 : decode cX1_open 45 = .ok (.iconst 1, 1) := by decide +kernel
theorem dX1_open_46 : decode cX1_open 46 = .ok (.iadd, 1) := by decide +kernel
theorem dX1_open_47 : decode cX1_open 47 = .ok (.putfield 62, 3) := by decide +kernel
theorem dX1_open_50 : decode cX1_open 50 = .ok (.aload_n 0, 1) := by decide +kernel
theorem dX1_open_51 : decode cX1_open 51 = .ok (.getfield 18, 3) := by decide +kernel
theorem dX1_open_54 : decode cX1_open 54 = .ok (.invokevirtual 56, 3) := by decide +kernel
theorem dX1_open_57 : decode cX1_open 57 = .ok (.return_, 1) := by decide +kernel
theorem dX1_close_0 : decode cX1_close 0 = .ok (.aload_n 0, 1) := by decide +kernel
theorem dX1_close_1 : decode cX1_close 1 = .ok (.iload_n 1, 1) := by decide +kernel
theorem dX1_close_2 : decode cX1_close 2 = .ok (.invokevirtual 42, 3) := by decide +kernel
theorem dX1_close_5 : decode cX1_close 5 = .ok (.ifCond .eq 13, 3) := by decide +kernel
theorem dX1_close_8 : decode cX1_close 8 = .ok (.aload_n 0, 1) := by decide +kernel
theorem dX1_close_9 : decode cX1_close 9 = .ok (.getfield 18, 3) := by decide +kernel
theorem dX1_close_12 : decode cX1_close 12 = .ok (.invokevirtual 56, 3) := by decide +kernel
theorem dX1_close_15 : decode cX1_close 15 = .ok (.goto 7, 3) := by decide +kernel
theorem dX1_close_18 : decode cX1_close 18 = .ok (.aload_n 0, 1) := by decide +kernel
theorem dX1_close_19 : decode cX1_close 19 = .ok (.invokevirtual 59, 3) := by decide +kernel
theorem dX1_close_22 : decode cX1_close 22 = .ok (.aload_n 0, 1) := by decide +kernel
theorem dX1_close_23 : decode cX1_close 23 = .ok (.dup, 1) := by decide +kernel
theorem dX1_close_24 : decode cX1_close 24 = .ok (.getfield 62, 3) := by decide +kernel
theorem dX1_close_27 : decode cX1_close 27 = .ok (.iconst 1, 1) := by decide +kernel
theorem dX1_close_28 : decode cX1_close 28 = .ok (.isub, 1) := by decide +kernel
theorem dX1_close_29 : decode cX1_close 29 = .ok (.putfield 62, 3) := by decide +kernel
theorem dX1_close_32 : decode cX1_close 32 = .ok (.return_, 1) := by decide +kernel
theorem dX1_loadName_0 : decode cX1_loadName 0 = .ok (.aload_n 0, 1) := by decide +kernel
theorem dX1_loadName_1 : decode cX1_loadName 1 = .ok (.getfield 12, 3) := by decide +kernel
theorem dX1_loadName_4 : decode cX1_loadName 4 = .ok (.aload_n 0, 1) := by decide +kernel
theorem dX1_loadName_5 : decode cX1_loadName 5 = .ok (.getfield 18, 3) := by decide +kernel
theorem dX1_loadName_8 : decode cX1_loadName 8 = .ok (.getfield 98, 3) := by decide +kernel
theorem dX1_loadName_11 : decode cX1_loadName 11 = .ok (.invokevirtual 102, 3) := by decide +kernel
theorem dX1_loadName_14 : decode cX1_loadName 14 = .ok (.istore_n 1, 1) := by decide +kernel
theorem dX1_loadName_15 : decode cX1_loadName 15 = .ok (.iload_n 1, 1) := by decide +kernel
theorem dX1_loadName_16 : decode cX1_loadName 16 = .ok (.ifCond .ge 16, 3) := by decide +kernel
theorem dX1_loadName_19 : decode cX1_loadName 19 = .ok (.aload_n 0, 1) := by decide +kernel
theorem dX1_loadName_20 : decode cX1_loadName 20 = .ok (.iconst 3, 1) := by decide +kernel
theorem dX1_loadName_21 : decode cX1_loadName 21 = .ok (.aload_n 0, 1) := by decide +kernel
theorem dX1_loadName_22 : decode cX1_loadName 22 = .ok (.getfield 18, 3) := by decide +kernel
theorem dX1_loadName_25 : decode cX1_loadName 25 = .ok (.getfield 46, 3) := by decide +kernel
theorem dX1_loadName_28 : decode cX1_loadName 28 = .ok (.invokevirtual 49, 3) := by decide +kernel
theorem dX1_loadName_31 : decode cX1_loadName 31 = .ok (.return_, 1) := by decide +kernel
theorem dX1_loadName_32 : decode cX1_loadName 32 = .ok (.aload_n 0, 1) := by decide +kernel
theorem dX1_loadName_33 : decode cX1_loadName 33 = .ok (.getfield 22, 3) := by decide +kernel
theorem dX1_loadName_36 : decode cX1_loadName 36 = .ok (.iconst 1, 1) := by decide +kernel
theorem dX1_loadName_37 : decode cX1_loadName 37 = .ok (.aload_n 0, 1) := by decide +kernel
theorem dX1_loadName_38 : decode cX1_loadName 38 = .ok (.getfield 12, 3) := by decide +kernel
theorem dX1_loadName_41 : decode cX1_loadName 41 = .ok (.iload_n 1, 1) := by decide +kernel
theorem dX1_loadName_42 : decode cX1_loadName 42 = .ok (.invokevirtual 106, 3) := by decide +kernel
theorem dX1_loadName_45 : decode cX1_loadName 45 = .ok (.invokevirtual 68, 3) := by decide +kernel
theorem dX1_loadName_48 : decode cX1_loadName 48 = .ok (.aload_n 0, 1) := by decide +kernel
theorem dX1_loadName_49 : decode cX1_loadName 49 = .ok (.getfield 18, 3) := by decide +kernel
theorem dX1_loadName_52 : decode cX1_loadName 52 = .ok (.invokevirtual 56, 3) := by decide +kernel
theorem dX1_loadName_55 : decode cX1_loadName 55 = .ok (.return_, 1) := by decide +kernel
theorem dX1_caseNumber_0 : decode cX1_caseNumber 0 = .ok (.aload_n 0, 1) := by decide +kernel
theorem dX1_caseNumber_1 : decode cX1_caseNumber 1 = .ok (.bipush 45, 2) := by decide +kernel
theorem dX1_caseNumber_3 : decode cX1_caseNumber 3 = .ok (.invokevirtual 130, 3) := by decide +kernel
theorem dX1_caseNumber_6 : decode cX1_caseNumber 6 = .ok (.istore_n 3, 1) := by decide +kernel
theorem dX1_caseNumber_7 : decode cX1_caseNumber 7 = .ok (.aload_n 0, 1) := by decide +kernel
theorem dX1_caseNumber_8 : decode cX1_caseNumber 8 = .ok (.iconst 1, 1) := by decide +kernel
theorem dX1_caseNumber_9 : decode cX1_caseNumber 9 = .ok (.invokevirtual 42, 3) := by decide +kernel
theorem dX1_caseNumber_12 : decode cX1_caseNumber 12 = .ok (.ifCond .ne 8, 3) := by decide +kernel
theorem dX1_caseNumber_15 : decode cX1_caseNumber 15 = .ok (.aload_n 0, 1) := by decide +kernel
theorem dX1_caseNumber_16 : decode cX1_caseNumber 16 = .ok (.invokevirtual 59, 3) := by decide +kernel
theorem dX1_caseNumber_19 : decode cX1_caseNumber 19 = .ok (.return_, 1) := by decide +kernel
theorem dX1_caseNumber_20 : decode cX1_caseNumber 20 = .ok (.iload_n 3, 1) := by decide +kernel
theorem dX1_caseNumber_21 : decode cX1_caseNumber 21 = .ok (.ifCond .eq 14, 3) := by decide +kernel
theorem dX1_caseNumber_24 : decode cX1_caseNumber 24 = .ok (.aload_n 0, 1) := by decide +kernel
theorem dX1_caseNumber_25 : decode cX1_caseNumber 25 = .ok (.getfield 18, 3) := by decide +kernel
theorem dX1_caseNumber_28 : decode cX1_caseNumber 28 = .ok (.getfield 76, 3) := by decide +kernel
theorem dX1_caseNumber_31 : decode cX1_caseNumber 31 = .ok (.ineg, 1) := by decide +kernel
theorem dX1_caseNumber_32 : decode cX1_caseNumber 32 = .ok (.goto 10, 3) := by decide +kernel
theorem dX1_caseNumber_35 : decode cX1_caseNumber 35 = .ok (.aload_n 0, 1) := by decide +kernel
theorem dX1_caseNumber_36 : decode cX1_caseNumber 36 = .ok (.getfield 18, 3) := by decide +kernel
theorem dX1_caseNumber_39 : decode cX1_caseNumber 39 = .ok (.getfield 76, 3) := by decide +kernel
theorem dX1_caseNumber_42 : decode cX1_caseNumber 42 = .ok (.istore 4, 2) := by decide +kernel
theorem dX1_caseNumber_44 : decode cX1_caseNumber 44 = .ok (.aload_n 0, 1) := by decide +kernel
theorem dX1_caseNumber_45 : decode cX1_caseNumber 45 = .ok (.getfield 22, 3) := by decide +kernel
theorem dX1_caseNumber_48 : decode cX1_caseNumber 48 = .ok (.iload_n 1, 1) := by decide +kernel
theorem dX1_caseNumber_49 : decode cX1_caseNumber 49 = .ok (.iload 4, 2) := by decide +kernel
theorem dX1_caseNumber_51 : decode cX1_caseNumber 51 = .ok (.invokevirtual 139, 3) := by decide +kernel
theorem dX1_caseNumber_54 : decode cX1_caseNumber 54 = .ok (.ifCond .eq 16, 3) := by decide +kernel
theorem dX1_caseNumber_57 : decode cX1_caseNumber 57 = .ok (.aload_n 0, 1) := by decide +kernel
theorem dX1_caseNumber_58 : decode cX1_caseNumber 58 = .ok (.iconst 4, 1) := by decide +kernel
theorem dX1_caseNumber_59 : decode cX1_caseNumber 59 = .ok (.aload_n 0, 1) := by decide +kernel
theorem dX1_caseNumber_60 : decode cX1_caseNumber 60 = .ok (.getfield 18, 3) := by decide +kernel
theorem dX1_caseNumber_63 : decode cX1_caseNumber 63 = .ok (.getfield 46, 3) := by decide +kernel
theorem dX1_caseNumber_66 : decode cX1_caseNumber 66 = .ok (.invokevirtual 49, 3) := by decide +kernel
theorem dX1_caseNumber_69 : decode cX1_caseNumber 69 = .ok (.return_, 1) := by decide +kernel
theorem dX1_caseNumber_70 : decode cX1_caseNumber 70 = .ok (.aload_n 0, 1) := by decide +kernel
theorem dX1_caseNumber_71 : decode cX1_caseNumber 71 = .ok (.getfield 22, 3) := by decide +kernel
theorem dX1_caseNumber_74 : decode cX1_caseNumber 74 = .ok (.iload 4, 2) := by decide +kernel
theorem dX1_caseNumber_76 : decode cX1_caseNumber 76 = .ok (.iload_n 2, 1) := by decide +kernel
theorem dX1_caseNumber_77 : decode cX1_caseNumber 77 = .ok (.invokevirtual 143, 3) := by decide +kernel
theorem dX1_caseNumber_80 : decode cX1_caseNumber 80 = .ok (.aload_n 0, 1) := by decide +kernel
theorem dX1_caseNumber_81 : decode cX1_caseNumber 81 = .ok (.getfield 18, 3) := by decide +kernel
theorem dX1_caseNumber_84 : decode cX1_caseNumber 84 = .ok (.invokevirtual 56, 3) := by decide +kernel
theorem dX1_caseNumber_87 : decode cX1_caseNumber 87 = .ok (.return_, 1) := by decide +kernel
theorem dX1_comparing_0 : decode cX1_comparing 0 = .ok (.iload_n 0, 1) := by decide +kernel
theorem dX1_comparing_1 : decode cX1_comparing 1 = .ok (.lookupswitch 77 #[(60, 59), (62, 65), (128, 62), (129, 68), (130, 71), (131, 74)], 59) := by decide +kernel
theorem dX1_comparing_60 : decode cX1_comparing 60 = .ok (.bipush 12, 2) := by decide +kernel
theorem dX1_comparing_62 : decode cX1_comparing 62 = .ok (.ireturn, 1) := by decide +kernel
theorem dX1_comparing_63 : decode cX1_comparing 63 = .ok (.bipush 13, 2) := by decide +kernel
theorem dX1_comparing_65 : decode cX1_comparing 65 = .ok (.ireturn, 1) := by decide +kernel
theorem dX1_comparing_66 : decode cX1_comparing 66 = .ok (.bipush 14, 2) := by decide +kernel
theorem dX1_comparing_68 : decode cX1_comparing 68 = .ok (.ireturn, 1) := by decide +kernel
theorem dX1_comparing_69 : decode cX1_comparing 69 = .ok (.bipush 15, 2) := by decide +kernel
theorem dX1_comparing_71 : decode cX1_comparing 71 = .ok (.ireturn, 1) := by decide +kernel
theorem dX1_comparing_72 : decode cX1_comparing 72 = .ok (.bipush 16, 2) := by decide +kernel
theorem dX1_comparing_74 : decode cX1_comparing 74 = .ok (.ireturn, 1) := by decide +kernel
theorem dX1_comparing_75 : decode cX1_comparing 75 = .ok (.bipush 17, 2) := by decide +kernel
theorem dX1_comparing_77 : decode cX1_comparing 77 = .ok (.ireturn, 1) := by decide +kernel
theorem dX1_comparing_78 : decode cX1_comparing 78 = .ok (.iconst (-1), 1) := by decide +kernel
theorem dX1_comparing_79 : decode cX1_comparing 79 = .ok (.ireturn, 1) := by decide +kernel
theorem dX2_init_0 : decode cX2_init 0 = .ok (.aload_n 0, 1) := by decide +kernel
theorem dX2_init_1 : decode cX2_init 1 = .ok (.invokespecial 1, 3) := by decide +kernel
theorem dX2_init_4 : decode cX2_init 4 = .ok (.return_, 1) := by decide +kernel
theorem dX3_perform_0 : decode cX3_perform 0 = .ok (.iconst 0, 1) := by decide +kernel
theorem dX3_perform_1 : decode cX3_perform 1 = .ok (.istore_n 3, 1) := by decide +kernel
theorem dX3_perform_2 : decode cX3_perform 2 = .ok (.iload_n 3, 1) := by decide +kernel
theorem dX3_perform_3 : decode cX3_perform 3 = .ok (.aload_n 0, 1) := by decide +kernel
theorem dX3_perform_4 : decode cX3_perform 4 = .ok (.getfield 40, 3) := by decide +kernel
theorem dX3_perform_7 : decode cX3_perform 7 = .ok (.getfield 44, 3) := by decide +kernel
theorem dX3_perform_10 : decode cX3_perform 10 = .ok (.if_icmp .ge 25, 3) := by decide +kernel
theorem dX3_perform_13 : decode cX3_perform 13 = .ok (.iload_n 3, 1) := by decide +kernel
theorem dX3_perform_14 : decode cX3_perform 14 = .ok (.aload_n 0, 1) := by decide +kernel
theorem dX3_perform_15 : decode cX3_perform 15 = .ok (.getfield 9, 3) := by decide +kernel
theorem dX3_perform_18 : decode cX3_perform 18 = .ok (.arraylength, 1) := by decide +kernel
theorem dX3_perform_19 : decode cX3_perform 19 = .ok (.if_icmp .ge 16, 3) := by decide +kernel
theorem dX3_perform_22 : decode cX3_perform 22 = .ok (.aload_n 0, 1) := by decide +kernel
theorem dX3_perform_23 : decode cX3_perform 23 = .ok (.getfield 9, 3) := by decide +kernel
theorem dX3_perform_26 : decode cX3_perform 26 = .ok (.iload_n 3, 1) := by decide +kernel
theorem dX3_perform_27 : decode cX3_perform 27 = .ok (.iconst 0, 1) := by decide +kernel
theorem dX3_perform_28 : decode cX3_perform 28 = .ok (.iastore, 1) := by decide +kernel
theorem dX3_perform_29 : decode cX3_perform 29 = .ok (.iinc 3 1, 3) := by decide +kernel
theorem dX3_perform_32 : decode cX3_perform 32 = .ok (.goto (-30), 3) := by decide +kernel
theorem dX3_perform_35 : decode cX3_perform 35 = .ok (.aload_n 0, 1) := by decide +kernel
theorem dX3_perform_36 : decode cX3_perform 36 = .ok (.getfield 9, 3) := by decide +kernel
theorem dX3_perform_39 : decode cX3_perform 39 = .ok (.iconst 0, 1) := by decide +kernel
theorem dX3_perform_40 : decode cX3_perform 40 = .ok (.iload_n 1, 1) := by decide +kernel
theorem dX3_perform_41 : decode cX3_perform 41 = .ok (.invokestatic 50, 3) := by decide +kernel
theorem dX3_perform_44 : decode cX3_perform 44 = .ok (.aload_n 0, 1) := by decide +kernel
theorem dX3_perform_45 : decode cX3_perform 45 = .ok (.getfield 9, 3) := by decide +kernel
theorem dX3_perform_48 : decode cX3_perform 48 = .ok (.iconst 1, 1) := by decide +kernel
theorem dX3_perform_49 : decode cX3_perform 49 = .ok (.iload_n 2, 1) := by decide +kernel
theorem dX3_perform_50 : decode cX3_perform 50 = .ok (.invokestatic 50, 3) := by decide +kernel
theorem dX3_perform_53 : decode cX3_perform 53 = .ok (.aload_n 0, 1) := by decide +kernel
theorem dX3_perform_54 : decode cX3_perform 54 = .ok (.iconst 0, 1) := by decide +kernel
theorem dX3_perform_55 : decode cX3_perform 55 = .ok (.putfield 54, 3) := by decide +kernel
theorem dX3_perform_58 : decode cX3_perform 58 = .ok (.aload_n 0, 1) := by decide +kernel
theorem dX3_perform_59 : decode cX3_perform 59 = .ok (.iconst 0, 1) := by decide +kernel
theorem dX3_perform_60 : decode cX3_perform 60 = .ok (.putfield 57, 3) := by decide +kernel
theorem dX3_perform_63 : decode cX3_perform 63 = .ok (.aload_n 0, 1) := by decide +kernel
theorem dX3_perform_64 : decode cX3_perform 64 = .ok (.iconst 0, 1) := by decide +kernel
theorem dX3_perform_65 : decode cX3_perform 65 = .ok (.putfield 60, 3) := by decide +kernel
theorem dX3_perform_68 : decode cX3_perform 68 = .ok (.aload_n 0, 1) := by decide +kernel
theorem dX3_perform_69 : decode cX3_perform 69 = .ok (.iconst 0, 1) := by decide +kernel
theorem dX3_perform_70 : decode cX3_perform 70 = .ok (.putfield 63, 3) := by decide +kernel
theorem dX3_perform_73 : decode cX3_perform 73 = .ok (.aload_n 0, 1) := by decide +kernel
theorem dX3_perform_74 : decode cX3_perform 74 = .ok (.iconst 0, 1) := by decide +kernel
theorem dX3_perform_75 : decode cX3_perform 75 = .ok (.putfield 66, 3) := by decide +kernel
theorem dX3_perform_78 : decode cX3_perform 78 = .ok (.aload_n 0, 1) := by decide +kernel
theorem dX3_perform_79 : decode cX3_perform 79 = .ok (.iconst 0, 1) := by decide +kernel
theorem dX3_perform_80 : decode cX3_perform 80 = .ok (.putfield 69, 3) := by decide +kernel
theorem dX3_perform_83 : decode cX3_perform 83 = .ok (.aload_n 0, 1) := by decide +kernel
theorem dX3_perform_84 : decode cX3_perform 84 = .ok (.iconst 0, 1) := by decide +kernel
theorem dX3_perform_85 : decode cX3_perform 85 = .ok (.putfield 72, 3) := by decide +kernel
theorem dX3_perform_88 : decode cX3_perform 88 = .ok (.aload_n 0, 1) := by decide +kernel
theorem dX3_perform_89 : decode cX3_perform 89 = .ok (.iconst 0, 1) := by decide +kernel
theorem dX3_perform_90 : decode cX3_perform 90 = .ok (.putfield 75, 3) := by decide +kernel
theorem dX3_perform_93 : decode cX3_perform 93 = .ok (.aload_n 0, 1) := by decide +kernel
theorem dX3_perform_94 : decode cX3_perform 94 = .ok (.iconst 0, 1) := by decide +kernel
theorem dX3_perform_95 : decode cX3_perform 95 = .ok (.putfield 78, 3) := by decide +kernel
theorem dX3_perform_98 : decode cX3_perform 98 = .ok (.aload_n 0, 1) := by decide +kernel
theorem dX3_perform_99 : decode cX3_perform 99 = .ok (.aconst_null, 1) := by decide +kernel
theorem dX3_perform_100 : decode cX3_perform 100 = .ok (.putfield 81, 3) := by decide +kernel
theorem dX3_perform_103 : decode cX3_perform 103 = .ok (.aload_n 0, 1) := by decide +kernel
theorem dX3_perform_104 : decode cX3_perform 104 = .ok (.iconst (-1), 1) := by decide +kernel
theorem dX3_perform_105 : decode cX3_perform 105 = .ok (.putfield 85, 3) := by decide +kernel
theorem dX3_perform_108 : decode cX3_perform 108 = .ok (.iconst 0, 1) := by decide +kernel
theorem dX3_perform_109 : decode cX3_perform 109 = .ok (.istore_n 3, 1) := by decide +kernel
theorem dX3_perform_110 : decode cX3_perform 110 = .ok (.iload_n 3, 1) := by decide +kernel
theorem dX3_perform_111 : decode cX3_perform 111 = .ok (.ldc 88, 2) := by decide +kernel
theorem dX3_perform_113 : decode cX3_perform 113 = .ok (.if_icmp .ge 35, 3) := by decide +kernel
theorem dX3_perform_116 : decode cX3_perform 116 = .ok (.aload_n 0, 1) := by decide +kernel
theorem dX3_perform_117 : decode cX3_perform 117 = .ok (.getfield 85, 3) := by decide +kernel
theorem dX3_perform_120 : decode cX3_perform 120 = .ok (.iconst (-1), 1) := by decide +kernel
theorem dX3_perform_121 : decode cX3_perform 121 = .ok (.if_icmp .ne 27, 3) := by decide +kernel
theorem dX3_perform_124 : decode cX3_perform 124 = .ok (.aload_n 0, 1) := by decide +kernel
theorem dX3_perform_125 : decode cX3_perform 125 = .ok (.getfield 75, 3) := by decide +kernel
theorem dX3_perform_128 : decode cX3_perform 128 = .ok (.ifCond .ne 10, 3) := by decide +kernel
theorem dX3_perform_131 : decode cX3_perform 131 = .ok (.aload_n 0, 1) := by decide +kernel
theorem dX3_perform_132 : decode cX3_perform 132 = .ok (.invokevirtual 89, 3) := by decide +kernel
theorem dX3_perform_135 : decode cX3_perform 135 = .ok (.goto 7, 3) := by decide +kernel
theorem dX3_perform_138 : decode cX3_perform 138 = .ok (.aload_n 0, 1) := by decide +kernel
theorem dX3_perform_139 : decode cX3_perform 139 = .ok (.invokevirtual 92, 3) := by decide +kernel
theorem dX3_perform_142 : decode cX3_perform 142 = .ok (.iinc 3 1, 3) := by decide +kernel
theorem dX3_perform_145 : decode cX3_perform 145 = .ok (.goto (-35), 3) := by decide +kernel
theorem dX3_perform_148 : decode cX3_perform 148 = .ok (.aload_n 0, 1) := by decide +kernel
theorem dX3_perform_149 : decode cX3_perform 149 = .ok (.getfield 85, 3) := by decide +kernel
theorem dX3_perform_152 : decode cX3_perform 152 = .ok (.ireturn, 1) := by decide +kernel
theorem dX3_answer_0 : decode cX3_answer 0 = .ok (.aload_n 0, 1) := by decide +kernel
theorem dX3_answer_1 : decode cX3_answer 1 = .ok (.invokevirtual 95, 3) := by decide +kernel
theorem dX3_answer_4 : decode cX3_answer 4 = .ok (.astore_n 2, 1) := by decide +kernel
theorem dX3_answer_5 : decode cX3_answer 5 = .ok (.iload_n 1, 1) := by decide +kernel
theorem dX3_answer_6 : decode cX3_answer 6 = .ok (.tableswitch 104 0 5 #[38, 43, 48, 65, 78, 91], 38) := by decide +kernel
theorem dX3_answer_44 : decode cX3_answer 44 = .ok (.aload_n 0, 1) := by decide +kernel
theorem dX3_answer_45 : decode cX3_answer 45 = .ok (.getfield 69, 3) := by decide +kernel
theorem dX3_answer_48 : decode cX3_answer 48 = .ok (.ireturn, 1) := by decide +kernel
theorem dX3_answer_49 : decode cX3_answer 49 = .ok (.aload_n 0, 1) := by decide +kernel
theorem dX3_answer_50 : decode cX3_answer 50 = .ok (.getfield 66, 3) := by decide +kernel
theorem dX3_answer_53 : decode cX3_answer 53 = .ok (.ireturn, 1) := by decide +kernel
theorem dX3_answer_54 : decode cX3_answer 54 = .ok (.aload_n 0, 1) := by decide +kernel
theorem dX3_answer_55 : decode cX3_answer 55 = .ok (.getfield 85, 3) := by decide +kernel
theorem dX3_answer_58 : decode cX3_answer 58 = .ok (.iconst 1, 1) := by decide +kernel
theorem dX3_answer_59 : decode cX3_answer 59 = .ok (.if_icmp .ne 10, 3) := by decide +kernel
theorem dX3_answer_62 : decode cX3_answer 62 = .ok (.aload_n 0, 1) := by decide +kernel
theorem dX3_answer_63 : decode cX3_answer 63 = .ok (.getfield 78, 3) := by decide +kernel
theorem dX3_answer_66 : decode cX3_answer 66 = .ok (.goto 4, 3) := by decide +kernel
theorem dX3_answer_69 : decode cX3_answer 69 = .ok (.iconst 0, 1) := by decide +kernel
theorem dX3_answer_70 : decode cX3_answer 70 = .ok (.ireturn, 1) := by decide +kernel
theorem dX3_answer_71 : decode cX3_answer 71 = .ok (.aload_n 2, 1) := by decide +kernel
theorem dX3_answer_72 : decode cX3_answer 72 = .ok (.ifnonnull 7, 3) := by decide +kernel
theorem dX3_answer_75 : decode cX3_answer 75 = .ok (.iconst (-1), 1) := by decide +kernel
