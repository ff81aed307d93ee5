theorem dX0_clear_0 : decode cX0_clear 0 = .ok (.aload_n 0, 1) := by decide +kernel
theorem dX0_clear_1 : decode cX0_clear 1 = .ok (.iconst 0, 1) := by decide +kernel
theorem dX0_clear_2 : decode cX0_clear 2 = .ok (.putfield 27, 3) := by decide +kernel
theorem dX0_clear_5 : decode cX0_clear 5 = .ok (.aload_n 0, 1) := by decide +kernel
theorem dX0_clear_6 : decode cX0_clear 6 = .ok (.iconst 0, 1) := by decide +kernel
theorem dX0_clear_7 : decode cX0_clear 7 = .ok (.putfield 31, 3) := by decide +kernel
theorem dX0_clear_10 : decode cX0_clear 10 = .ok (.aload_n 0, 1) := by decide +kernel
theorem dX0_clear_11 : decode cX0_clear 11 = .ok (.iconst 0, 1) := by decide +kernel
theorem dX0_clear_12 : decode cX0_clear 12 = .ok (.putfield 34, 3) := by decide +kernel
theorem dX0_clear_15 : decode cX0_clear 15 = .ok (.aload_n 0, 1) := by decide +kernel
theorem dX0_clear_16 : decode cX0_clear 16 = .ok (.iconst 0, 1) := by decide +kernel
theorem dX0_clear_17 : decode cX0_clear 17 = .ok (.putfield 37, 3) := by decide +kernel
theorem dX0_clear_20 : decode cX0_clear 20 = .ok (.aload_n 0, 1) := by decide +kernel
theorem dX0_clear_21 : decode cX0_clear 21 = .ok (.iconst 0, 1) := by decide +kernel
theorem dX0_clear_22 : decode cX0_clear 22 = .ok (.putfield 40, 3) := by decide +kernel
theorem dX0_clear_25 : decode cX0_clear 25 = .ok (.aload_n 0, 1) := by decide +kernel
theorem dX0_clear_26 : decode cX0_clear 26 = .ok (.iconst 0, 1) := by decide +kernel
theorem dX0_clear_27 : decode cX0_clear 27 = .ok (.putfield 43, 3) := by decide +kernel
theorem dX0_clear_30 : decode cX0_clear 30 = .ok (.aload_n 0, 1) := by decide +kernel
theorem dX0_clear_31 : decode cX0_clear 31 = .ok (.iconst 0, 1) := by decide +kernel
theorem dX0_clear_32 : decode cX0_clear 32 = .ok (.putfield 46, 3) := by decide +kernel
theorem dX0_clear_35 : decode cX0_clear 35 = .ok (.aload_n 0, 1) := by decide +kernel
theorem dX0_clear_36 : decode cX0_clear 36 = .ok (.iconst 0, 1) := by decide +kernel
theorem dX0_clear_37 : decode cX0_clear 37 = .ok (.putfield 49, 3) := by decide +kernel
theorem dX0_clear_40 : decode cX0_clear 40 = .ok (.return_, 1) := by decide +kernel
theorem dX0_add_0 : decode cX0_add 0 = .ok (.aload_n 0, 1) := by decide +kernel
theorem dX0_add_1 : decode cX0_add 1 = .ok (.getfield 9, 3) := by decide +kernel
theorem dX0_add_4 : decode cX0_add 4 = .ok (.aload_n 0, 1) := by decide +kernel
theorem dX0_add_5 : decode cX0_add 5 = .ok (.getfield 27, 3) := by decide +kernel
theorem dX0_add_8 : decode cX0_add 8 = .ok (.iload_n 1, 1) := by decide +kernel
theorem dX0_add_9 : decode cX0_add 9 = .ok (.invokestatic 53, 3) := by decide +kernel
theorem dX0_add_12 : decode cX0_add 12 = .ok (.aload_n 0, 1) := by decide +kernel
theorem dX0_add_13 : decode cX0_add 13 = .ok (.getfield 15, 3) := by decide +kernel
theorem dX0_add_16 : decode cX0_add 16 = .ok (.aload_n 0, 1) := by decide +kernel
theorem dX0_add_17 : decode cX0_add 17 = .ok (.getfield 27, 3) := by decide +kernel
theorem dX0_add_20 : decode cX0_add 20 = .ok (.iload_n 2, 1) := by decide +kernel
theorem dX0_add_21 : decode cX0_add 21 = .ok (.invokestatic 53, 3) := by decide +kernel
theorem dX0_add_24 : decode cX0_add 24 = .ok (.aload_n 0, 1) := by decide +kernel
theorem dX0_add_25 : decode cX0_add 25 = .ok (.dup, 1) := by decide +kernel
theorem dX0_add_26 : decode cX0_add 26 = .ok (.getfield 27, 3) := by decide +kernel
theorem dX0_add_29 : decode cX0_add 29 = .ok (.iconst 1, 1) := by decide +kernel
theorem dX0_add_30 : decode cX0_add 30 = .ok (.iadd, 1) := by decide +kernel
theorem dX0_add_31 : decode cX0_add 31 = .ok (.putfield 27, 3) := by decide +kernel
theorem dX0_add_34 : decode cX0_add 34 = .ok (.return_, 1) := by decide +kernel
theorem dX0_newTarget_0 : decode cX0_newTarget 0 = .ok (.aload_n 0, 1) := by decide +kernel
theorem dX0_newTarget_1 : decode cX0_newTarget 1 = .ok (.getfield 18, 3) := by decide +kernel
theorem dX0_newTarget_4 : decode cX0_newTarget 4 = .ok (.aload_n 0, 1) := by decide +kernel
theorem dX0_newTarget_5 : decode cX0_newTarget 5 = .ok (.getfield 31, 3) := by decide +kernel
theorem dX0_newTarget_8 : decode cX0_newTarget 8 = .ok (.iconst (-1), 1) := by decide +kernel
theorem dX0_newTarget_9 : decode cX0_newTarget 9 = .ok (.invokestatic 53, 3) := by decide +kernel
theorem dX0_newTarget_12 : decode cX0_newTarget 12 = .ok (.aload_n 0, 1) := by decide +kernel
theorem dX0_newTarget_13 : decode cX0_newTarget 13 = .ok (.dup, 1) := by decide +kernel
theorem dX0_newTarget_14 : decode cX0_newTarget 14 = .ok (.getfield 31, 3) := by decide +kernel
theorem dX0_newTarget_17 : decode cX0_newTarget 17 = .ok (.iconst 1, 1) := by decide +kernel
theorem dX0_newTarget_18 : decode cX0_newTarget 18 = .ok (.iadd, 1) := by decide +kernel
theorem dX0_newTarget_19 : decode cX0_newTarget 19 = .ok (.putfield 31, 3) := by decide +kernel
theorem dX0_newTarget_22 : decode cX0_newTarget 22 = .ok (.aload_n 0, 1) := by decide +kernel
theorem dX0_newTarget_23 : decode cX0_newTarget 23 = .ok (.getfield 31, 3) := by decide +kernel
theorem dX0_newTarget_26 : decode cX0_newTarget 26 = .ok (.iconst 1, 1) := by decide +kernel
theorem dX0_newTarget_27 : decode cX0_newTarget 27 = .ok (.isub, 1) := by decide +kernel
theorem dX0_newTarget_28 : decode cX0_newTarget 28 = .ok (.ireturn, 1) := by decide +kernel
theorem dX0_aim_0 : decode cX0_aim 0 = .ok (.aload_n 0, 1) := by decide +kernel
theorem dX0_aim_1 : decode cX0_aim 1 = .ok (.getfield 18, 3) := by decide +kernel
theorem dX0_aim_4 : decode cX0_aim 4 = .ok (.iload_n 1, 1) := by decide +kernel
theorem dX0_aim_5 : decode cX0_aim 5 = .ok (.aload_n 0, 1) := by decide +kernel
theorem dX0_aim_6 : decode cX0_aim 6 = .ok (.getfield 27, 3) := by decide +kernel
theorem dX0_aim_9 : decode cX0_aim 9 = .ok (.invokestatic 53, 3) := by decide +kernel
theorem dX0_aim_12 : decode cX0_aim 12 = .ok (.return_, 1) := by decide +kernel
theorem dX0_newCells_0 : decode cX0_newCells 0 = .ok (.aload_n 0, 1) := by decide +kernel
theorem dX0_newCells_1 : decode cX0_newCells 1 = .ok (.dup, 1) := by decide +kernel
theorem dX0_newCells_2 : decode cX0_newCells 2 = .ok (.getfield 37, 3) := by decide +kernel
theorem dX0_newCells_5 : decode cX0_newCells 5 = .ok (.iload_n 1, 1) := by decide +kernel
theorem dX0_newCells_6 : decode cX0_newCells 6 = .ok (.iadd, 1) := by decide +kernel
theorem dX0_newCells_7 : decode cX0_newCells 7 = .ok (.putfield 37, 3) := by decide +kernel
theorem dX0_newCells_10 : decode cX0_newCells 10 = .ok (.aload_n 0, 1) := by decide +kernel
theorem dX0_newCells_11 : decode cX0_newCells 11 = .ok (.getfield 37, 3) := by decide +kernel
theorem dX0_newCells_14 : decode cX0_newCells 14 = .ok (.iload_n 1, 1) := by decide +kernel
theorem dX0_newCells_15 : decode cX0_newCells 15 = .ok (.isub, 1) := by decide +kernel
theorem dX0_newCells_16 : decode cX0_newCells 16 = .ok (.ireturn, 1) := by decide +kernel
theorem dX0_hasCase_0 : decode cX0_hasCase 0 = .ok (.iload_n 1, 1) := by decide +kernel
theorem dX0_hasCase_1 : decode cX0_hasCase 1 = .ok (.istore_n 3, 1) := by decide +kernel
theorem dX0_hasCase_2 : decode cX0_hasCase 2 = .ok (.iload_n 3, 1) := by decide +kernel
theorem dX0_hasCase_3 : decode cX0_hasCase 3 = .ok (.aload_n 0, 1) := by decide +kernel
theorem dX0_hasCase_4 : decode cX0_hasCase 4 = .ok (.getfield 34, 3) := by decide +kernel
theorem dX0_hasCase_7 : decode cX0_hasCase 7 = .ok (.if_icmp .ge 23, 3) := by decide +kernel
theorem dX0_hasCase_10 : decode cX0_hasCase 10 = .ok (.aload_n 0, 1) := by decide +kernel
theorem dX0_hasCase_11 : decode cX0_hasCase 11 = .ok (.getfield 21, 3) := by decide +kernel
theorem dX0_hasCase_14 : decode cX0_hasCase 14 = .ok (.iload_n 3, 1) := by decide +kernel
theorem dX0_hasCase_15 : decode cX0_hasCase 15 = .ok (.invokestatic 57, 3) := by decide +kernel
theorem dX0_hasCase_18 : decode cX0_hasCase 18 = .ok (.iload_n 2, 1) := by decide +kernel
theorem dX0_hasCase_19 : decode cX0_hasCase 19 = .ok (.if_icmp .ne 5, 3) := by decide +kernel
theorem dX0_hasCase_22 : decode cX0_hasCase 22 = .ok (.iconst 1, 1) := by decide +kernel
theorem dX0_hasCase_23 : decode cX0_hasCase 23 = .ok (.ireturn, 1) := by decide +kernel
theorem dX0_hasCase_24 : decode cX0_hasCase 24 = .ok (.iinc 3 1, 3) := by decide +kernel
theorem dX0_hasCase_27 : decode cX0_hasCase 27 = .ok (.goto (-25), 3) := by decide +kernel
theorem dX0_hasCase_30 : decode cX0_hasCase 30 = .ok (.iconst 0, 1) := by decide +kernel
theorem dX0_hasCase_31 : decode cX0_hasCase 31 = .ok (.ireturn, 1) := by decide +kernel
theorem dX0_addCase_0 : decode cX0_addCase 0 = .ok (.aload_n 0, 1) := by decide +kernel
theorem dX0_addCase_1 : decode cX0_addCase 1 = .ok (.getfield 21, 3) := by decide +kernel
theorem dX0_addCase_4 : decode cX0_addCase 4 = .ok (.aload_n 0, 1) := by decide +kernel
theorem dX0_addCase_5 : decode cX0_addCase 5 = .ok (.getfield 34, 3) := by decide +kernel
theorem dX0_addCase_8 : decode cX0_addCase 8 = .ok (.iload_n 1, 1) := by decide +kernel
theorem dX0_addCase_9 : decode cX0_addCase 9 = .ok (.invokestatic 53, 3) := by decide +kernel
theorem dX0_addCase_12 : decode cX0_addCase 12 = .ok (.aload_n 0, 1) := by decide +kernel
theorem dX0_addCase_13 : decode cX0_addCase 13 = .ok (.getfield 24, 3) := by decide +kernel
theorem dX0_addCase_16 : decode cX0_addCase 16 = .ok (.aload_n 0, 1) := by decide +kernel
theorem dX0_addCase_17 : decode cX0_addCase 17 = .ok (.getfield 34, 3) := by decide +kernel
theorem dX0_addCase_20 : decode cX0_addCase 20 = .ok (.iload_n 2, 1) := by decide +kernel
theorem dX0_addCase_21 : decode cX0_addCase 21 = .ok (.invokestatic 53, 3) := by decide +kernel
theorem dX0_addCase_24 : decode cX0_addCase 24 = .ok (.aload_n 0, 1) := by decide +kernel
theorem dX0_addCase_25 : decode cX0_addCase 25 = .ok (.dup, 1) := by decide +kernel
theorem dX0_addCase_26 : decode cX0_addCase 26 = .ok (.getfield 34, 3) := by decide +kernel
theorem dX0_addCase_29 : decode cX0_addCase 29 = .ok (.iconst 1, 1) := by decide +kernel
theorem dX0_addCase_30 : decode cX0_addCase 30 = .ok (.iadd, 1) := by decide +kernel
theorem dX0_addCase_31 : decode cX0_addCase 31 = .ok (.putfield 34, 3) := by decide +kernel
theorem dX0_addCase_34 : decode cX0_addCase 34 = .ok (.return_, 1) := by decide +kernel
theorem dX0_addCases_0 : decode cX0_addCases 0 = .ok (.iload_n 1, 1) := by decide +kernel
theorem dX0_addCases_1 : decode cX0_addCases 1 = .ok (.istore_n 3, 1) := by decide +kernel
theorem dX0_addCases_2 : decode cX0_addCases 2 = .ok (.iload_n 3, 1) := by decide +kernel
theorem dX0_addCases_3 : decode cX0_addCases 3 = .ok (.aload_n 0, 1) := by decide +kernel
theorem dX0_addCases_4 : decode cX0_addCases 4 = .ok (.getfield 34, 3) := by decide +kernel
theorem dX0_addCases_7 : decode cX0_addCases 7 = .ok (.if_icmp .ge 36, 3) := by decide +kernel
theorem dX0_addCases_10 : decode cX0_addCases 10 = .ok (.aload_n 0, 1) := by decide +kernel
theorem dX0_addCases_11 : decode cX0_addCases 11 = .ok (.iconst 0, 1) := by decide +kernel
theorem dX0_addCases_12 : decode cX0_addCases 12 = .ok (.aload_n 0, 1) := by decide +kernel
theorem dX0_addCases_13 : decode cX0_addCases 13 = .ok (.getfield 21, 3) := by decide +kernel
theorem dX0_addCases_16 : decode cX0_addCases 16 = .ok (.iload_n 3, 1) := by decide +kernel
theorem dX0_addCases_17 : decode cX0_addCases 17 = .ok (.invokestatic 57, 3) := by decide +kernel
theorem dX0_addCases_20 : decode cX0_addCases 20 = .ok (.invokevirtual 61, 3) := by decide +kernel
theorem dX0_addCases_23 : decode cX0_addCases 23 = .ok (.aload_n 0, 1) := by decide +kernel
theorem dX0_addCases_24 : decode cX0_addCases 24 = .ok (.bipush 34, 2) := by decide +kernel
theorem dX0_addCases_26 : decode cX0_addCases 26 = .ok (.aload_n 0, 1) := by decide +kernel
theorem dX0_addCases_27 : decode cX0_addCases 27 = .ok (.getfield 24, 3) := by decide +kernel
theorem dX0_addCases_30 : decode cX0_addCases 30 = .ok (.iload_n 3, 1) := by decide +kernel
theorem dX0_addCases_31 : decode cX0_addCases 31 = .ok (.invokestatic 57, 3) := by decide +kernel
theorem dX0_addCases_34 : decode cX0_addCases 34 = .ok (.invokevirtual 61, 3) := by decide +kernel
theorem dX0_addCases_37 : decode cX0_addCases 37 = .ok (.iinc 3 1, 3) := by decide +kernel
theorem dX0_addCases_40 : decode cX0_addCases 40 = .ok (.goto (-38), 3) := by decide +kernel
theorem dX0_addCases_43 : decode cX0_addCases 43 = .ok (.aload_n 0, 1) := by decide +kernel
theorem dX0_addCases_44 : decode cX0_addCases 44 = .ok (.iload_n 1, 1) := by decide +kernel
theorem dX0_addCases_45 : decode cX0_addCases 45 = .ok (.putfield 34, 3) := by decide +kernel
theorem dX0_addCases_48 : decode cX0_addCases 48 = .ok (.aload_n 0, 1) := by decide +kernel
theorem dX0_addCases_49 : decode cX0_addCases 49 = .ok (.bipush 6, 2) := by decide +kernel
theorem dX0_addCases_51 : decode cX0_addCases 51 = .ok (.iconst 0, 1) := by decide +kernel
theorem dX0_addCases_52 : decode cX0_addCases 52 = .ok (.invokevirtual 61, 3) := by decide +kernel
theorem dX0_addCases_55 : decode cX0_addCases 55 = .ok (.aload_n 0, 1) := by decide +kernel
theorem dX0_addCases_56 : decode cX0_addCases 56 = .ok (.bipush 30, 2) := by decide +kernel
theorem dX0_addCases_58 : decode cX0_addCases 58 = .ok (.iload_n 2, 1) := by decide +kernel
theorem dX0_addCases_59 : decode cX0_addCases 59 = .ok (.invokevirtual 61, 3) := by decide +kernel
theorem dX0_addCases_62 : decode cX0_addCases 62 = .ok (.return_, 1) := by decide +kernel
theorem dX4_find_0 : decode cX4_find 0 = .ok (.iconst 0, 1) := by decide +kernel
theorem dX4_find_1 : decode cX4_find 1 = .ok (.istore_n 3, 1) := by decide +kernel
theorem dX4_find_2 : decode cX4_find 2 = .ok (.iload_n 3, 1) := by decide +kernel
theorem dX4_find_3 : decode cX4_find 3 = .ok (.aload_n 0, 1) := by decide +kernel
theorem dX4_find_4 : decode cX4_find 4 = .ok (.getfield 20, 3) := by decide +kernel
theorem dX4_find_7 : decode cX4_find 7 = .ok (.if_icmp .ge 31, 3) := by decide +kernel
theorem dX4_find_10 : decode cX4_find 10 = .ok (.iload_n 3, 1) := by decide +kernel
theorem dX4_find_11 : decode cX4_find 11 = .ok (.aload_n 0, 1) := by decide +kernel
theorem dX4_find_12 : decode cX4_find 12 = .ok (.getfield 7, 3) := by decide +kernel
theorem dX4_find_15 : decode cX4_find 15 = .ok (.arraylength, 1) := by decide +kernel
theorem dX4_find_16 : decode cX4_find 16 = .ok (.if_icmp .ge 22, 3) := by decide +kernel
theorem dX4_find_19 : decode cX4_find 19 = .ok (.aload_n 0, 1) := by decide +kernel
theorem dX4_find_20 : decode cX4_find 20 = .ok (.getfield 7, 3) := by decide +kernel
theorem dX4_find_23 : decode cX4_find 23 = .ok (.iload_n 3, 1) := by decide +kernel
theorem dX4_find_24 : decode cX4_find 24 = .ok (.laload, 1) := by decide +kernel
theorem dX4_find_25 : decode cX4_find 25 = .ok (.lload_n 1, 1) := by decide +kernel
theorem dX4_find_26 : decode cX4_find 26 = .ok (.lcmp, 1) := by decide +kernel
theorem dX4_find_27 : decode cX4_find 27 = .ok (.ifCond .ne 5, 3) := by decide +kernel
theorem dX4_find_30 : decode cX4_find 30 = .ok (.iload_n 3, 1) := by decide +kernel
theorem dX4_find_31 : decode cX4_find 31 = .ok (.ireturn, 1) := by decide +kernel
theorem dX4_find_32 : decode cX4_find 32 = .ok (.iinc 3 1, 3) := by decide +kernel
theorem dX4_find_35 : decode cX4_find 35 = .ok (.goto (-33), 3) := by decide +kernel
theorem dX4_find_38 : decode cX4_find 38 = .ok (.iconst (-1), 1) := by decide +kernel
theorem dX4_find_39 : decode cX4_find 39 = .ok (.ireturn, 1) := by decide +kernel
theorem dX4_cellOf_0 : decode cX4_cellOf 0 = .ok (.aload_n 0, 1) := by decide +kernel
theorem dX4_cellOf_1 : decode cX4_cellOf 1 = .ok (.getfield 13, 3) := by decide +kernel
theorem dX4_cellOf_4 : decode cX4_cellOf 4 = .ok (.iload_n 1, 1) := by decide +kernel
theorem dX4_cellOf_5 : decode cX4_cellOf 5 = .ok (.invokestatic 24, 3) := by decide +kernel
theorem dX4_cellOf_8 : decode cX4_cellOf 8 = .ok (.ireturn, 1) := by decide +kernel
theorem dX4_frameOf_0 : decode cX4_frameOf 0 = .ok (.aload_n 0, 1) := by decide +kernel
theorem dX4_frameOf_1 : decode cX4_frameOf 1 = .ok (.getfield 17, 3) := by decide +kernel
theorem dX4_frameOf_4 : decode cX4_frameOf 4 = .ok (.iload_n 1, 1) := by decide +kernel
theorem dX4_frameOf_5 : decode cX4_frameOf 5 = .ok (.invokestatic 24, 3) := by decide +kernel
theorem dX4_frameOf_8 : decode cX4_frameOf 8 = .ok (.ireturn, 1) := by decide +kernel
theorem dX4_isCaught_0 : decode cX4_isCaught 0 = .ok (.aload_n 0, 1) := by decide +kernel
theorem dX4_isCaught_1 : decode cX4_isCaught 1 = .ok (.getfield 17, 3) := by decide +kernel
theorem dX4_isCaught_4 : decode cX4_isCaught 4 = .ok (.iload_n 1, 1) := by decide +kernel
theorem dX4_isCaught_5 : decode cX4_isCaught 5 = .ok (.invokestatic 24, 3) := by decide +kernel
theorem dX4_isCaught_8 : decode cX4_isCaught 8 = .ok (.ifCond .lt 7, 3) := by decide +kernel
theorem dX4_isCaught_11 : decode cX4_isCaught 11 = .ok (.iconst 1, 1) := by decide +kernel
theorem dX4_isCaught_12 : decode cX4_isCaught 12 = .ok (.goto 4, 3) := by decide +kernel
theorem dX4_isCaught_15 : decode cX4_isCaught 15 = .ok (.iconst 0, 1) := by decide +kernel
theorem dX4_isCaught_16 : decode cX4_isCaught 16 = .ok (.ireturn, 1) := by decide +kernel
theorem dX5_isLoop_0 : decode cX5_isLoop 0 = .ok (.aload_n 0, 1) := by decide +kernel
theorem dX5_isLoop_1 : decode cX5_isLoop 1 = .ok (.getfield 9, 3) := by decide +kernel
theorem dX5_isLoop_4 : decode cX5_isLoop 4 = .ok (.sipush 205, 3) := by decide +kernel
theorem dX5_isLoop_7 : decode cX5_isLoop 7 = .ok (.if_icmp .eq 33, 3) := by decide +kernel
theorem dX5_isLoop_10 : decode cX5_isLoop 10 = .ok (.aload_n 0, 1) := by decide +kernel
theorem dX5_isLoop_11 : decode cX5_isLoop 11 = .ok (.getfield 9, 3) := by decide +kernel
theorem dX5_isLoop_14 : decode cX5_isLoop 14 = .ok (.sipush 206, 3) := by decide +kernel
theorem dX5_isLoop_17 : decode cX5_isLoop 17 = .ok (.if_icmp .eq 23, 3) := by decide +kernel
theorem dX5_isLoop_20 : decode cX5_isLoop 20 = .ok (.aload_n 0, 1) := by decide +kernel
theorem dX5_isLoop_21 : decode cX5_isLoop 21 = .ok (.getfield 9, 3) := by decide +kernel
theorem dX5_isLoop_24 : decode cX5_isLoop 24 = .ok (.sipush 207, 3) := by decide +kernel
theorem dX5_isLoop_27 : decode cX5_isLoop 27 = .ok (.if_icmp .eq 13, 3) := by decide +kernel
theorem dX5_isLoop_30 : decode cX5_isLoop 30 = .ok (.aload_n 0, 1) := by decide +kernel
theorem dX5_isLoop_31 : decode cX5_isLoop 31 = .ok (.getfield 9, 3) := by decide +kernel
theorem dX5_isLoop_34 : decode cX5_isLoop 34 = .ok (.sipush 304, 3) := by decide +kernel
theorem dX5_isLoop_37 : decode cX5_isLoop 37 = .ok (.if_icmp .ne 7, 3) := by decide +kernel
theorem dX5_isLoop_40 : decode cX5_isLoop 40 = .ok (.iconst 1, 1) := by decide +kernel
theorem dX5_isLoop_41 : decode cX5_isLoop 41 = .ok (.goto 4, 3) := by decide +kernel
theorem dX5_isLoop_44 : decode cX5_isLoop 44 = .ok (.iconst 0, 1) := by decide +kernel
theorem dX5_isLoop_45 : decode cX5_isLoop 45 = .ok (.ireturn, 1) := by decide +kernel
theorem dX5_hasOneBody_0 : decode cX5_hasOneBody 0 = .ok (.aload_n 0, 1) := by decide +kernel
theorem dX5_hasOneBody_1 : decode cX5_hasOneBody 1 = .ok (.invokevirtual 15, 3) := by decide +kernel
theorem dX5_hasOneBody_4 : decode cX5_hasOneBody 4 = .ok (.ifCond .ne 33, 3) := by decide +kernel
theorem dX5_hasOneBody_7 : decode cX5_hasOneBody 7 = .ok (.aload_n 0, 1) := by decide +kernel
theorem dX5_hasOneBody_8 : decode cX5_hasOneBody 8 = .ok (.getfield 9, 3) := by decide +kernel
theorem dX5_hasOneBody_11 : decode cX5_hasOneBody 11 = .ok (.sipush 303, 3) := by decide +kernel
theorem dX5_hasOneBody_14 : decode cX5_hasOneBody 14 = .ok (.if_icmp .eq 23, 3) := by decide +kernel
theorem dX5_hasOneBody_17 : decode cX5_hasOneBody 17 = .ok (.aload_n 0, 1) := by decide +kernel
theorem dX5_hasOneBody_18 : decode cX5_hasOneBody 18 = .ok (.getfield 9, 3) := by decide +kernel
theorem dX5_hasOneBody_21 : decode cX5_hasOneBody 21 = .ok (.sipush 203, 3) := by decide +kernel
theorem dX5_hasOneBody_24 : decode cX5_hasOneBody 24 = .ok (.if_icmp .eq 13, 3) := by decide +kernel
theorem dX5_hasOneBody_27 : decode cX5_hasOneBody 27 = .ok (.aload_n 0, 1) := by decide +kernel
theorem dX5_hasOneBody_28 : decode cX5_hasOneBody 28 = .ok (.getfield 9, 3) := by decide +kernel
theorem dX5_hasOneBody_31 : decode cX5_hasOneBody 31 = .ok (.sipush 204, 3) := by decide +kernel
theorem dX5_hasOneBody_34 : decode cX5_hasOneBody 34 = .ok (.if_icmp .ne 7, 3) := by decide +kernel
theorem dX5_hasOneBody_37 : decode cX5_hasOneBody 37 = .ok (.iconst 1, 1) := by decide +kernel
theorem dX5_hasOneBody_38 : decode cX5_hasOneBody 38 = .ok (.goto 4, 3) := by decide +kernel
theorem dX5_hasOneBody_41 : decode cX5_hasOneBody 41 = .ok (.iconst 0, 1) := by decide +kernel
theorem dX5_hasOneBody_42 : decode cX5_hasOneBody 42 = .ok (.ireturn, 1) := by decide +kernel
theorem dX9_start_0 : decode cX9_start 0 = .ok (.aload_n 0, 1) := by decide +kernel
theorem dX9_start_1 : decode cX9_start 1 = .ok (.iload_n 1, 1) := by decide +kernel
theorem dX9_start_2 : decode cX9_start 2 = .ok (.putfield 31, 3) := by decide +kernel
theorem dX9_start_5 : decode cX9_start 5 = .ok (.aload_n 0, 1) := by decide +kernel
theorem dX9_start_6 : decode cX9_start 6 = .ok (.iconst 0, 1) := by decide +kernel
theorem dX9_start_7 : decode cX9_start 7 = .ok (.putfield 34, 3) := by decide +kernel
theorem dX9_start_10 : decode cX9_start 10 = .ok (.aload_n 0, 1) := by decide +kernel
theorem dX9_start_11 : decode cX9_start 11 = .ok (.invokevirtual 37, 3) := by decide +kernel
theorem dX9_start_14 : decode cX9_start 14 = .ok (.return_, 1) := by decide +kernel
theorem dX9_stop_0 : decode cX9_stop 0 = .ok (.aload_n 0, 1) := by decide +kernel
theorem dX9_stop_1 : decode cX9_stop 1 = .ok (.aload_n 0, 1) := by decide +kernel
theorem dX9_stop_2 : decode cX9_stop 2 = .ok (.getfield 31, 3) := by decide +kernel
theorem dX9_stop_5 : decode cX9_stop 5 = .ok (.putfield 34, 3) := by decide +kernel
theorem dX9_stop_8 : decode cX9_stop 8 = .ok (.aload_n 0, 1) := by decide +kernel
theorem dX9_stop_9 : decode cX9_stop 9 = .ok (.iconst 0, 1) := by decide +kernel
theorem dX9_stop_10 : decode cX9_stop 10 = .ok (.putfield 40, 3) := by decide +kernel
theorem dX9_stop_13 : decode cX9_stop 13 = .ok (.return_, 1) := by decide +kernel
theorem dX9_advance_0 : decode cX9_advance 0 = .ok (.iconst 0, 1) := by decide +kernel
theorem dX9_advance_1 : decode cX9_advance 1 = .ok (.istore_n 1, 1) := by decide +kernel
theorem dX9_advance_2 : decode cX9_advance 2 = .ok (.iload_n 1, 1) := by decide +kernel
theorem dX9_advance_3 : decode cX9_advance 3 = .ok (.sipush 900, 3) := by decide +kernel
theorem dX9_advance_6 : decode cX9_advance 6 = .ok (.if_icmp .ge 45, 3) := by decide +kernel
theorem dX9_advance_9 : decode cX9_advance 9 = .ok (.aload_n 0, 1) := by decide +kernel
theorem dX9_advance_10 : decode cX9_advance 10 = .ok (.aload_n 0, 1) := by decide +kernel
theorem dX9_advance_11 : decode cX9_advance 11 = .ok (.getfield 34, 3) := by decide +kernel
theorem dX9_advance_14 : decode cX9_advance 14 = .ok (.invokevirtual 43, 3) := by decide +kernel
theorem dX9_advance_17 : decode cX9_advance 17 = .ok (.bipush 32, 2) := by decide +kernel
theorem dX9_advance_19 : decode cX9_advance 19 = .ok (.if_icmp .eq 16, 3) := by decide +kernel
theorem dX9_advance_22 : decode cX9_advance 22 = .ok (.aload_n 0, 1) := by decide +kernel
theorem dX9_advance_23 : decode cX9_advance 23 = .ok (.aload_n 0, 1) := by decide +kernel
theorem dX9_advance_24 : decode cX9_advance 24 = .ok (.getfield 34, 3) := by decide +kernel
theorem dX9_advance_27 : decode cX9_advance 27 = .ok (.invokevirtual 43, 3) := by decide +kernel
theorem dX9_advance_30 : decode cX9_advance 30 = .ok (.bipush 10, 2) := by decide +kernel
theorem dX9_advance_32 : decode cX9_advance 32 = .ok (.if_icmp .ne 19, 3) := by decide +kernel
theorem dX9_advance_35 : decode cX9_advance 35 = .ok (.aload_n 0, 1) := by decide +kernel
theorem dX9_advance_36 : decode cX9_advance 36 = .ok (.dup, 1) := by decide +kernel
theorem dX9_advance_37 : decode cX9_advance 37 = .ok (.getfield 34, 3) := by decide +kernel
theorem dX9_advance_40 : decode cX9_advance 40 = .ok (.iconst 1, 1) := by decide +kernel
theorem dX9_advance_41 : decode cX9_advance 41 = .ok (.iadd, 1) := by decide +kernel
theorem dX9_advance_42 : decode cX9_advance 42 = .ok (.putfield 34, 3) := by decide +kernel
theorem dX9_advance_45 : decode cX9_advance 45 = .ok (.iinc 1 1, 3) := by decide +kernel
theorem dX9_advance_48 : decode cX9_advance 48 = .ok (.goto (-46), 3) := by decide +kernel
theorem dX9_advance_51 : decode cX9_advance 51 = .ok (.aload_n 0, 1) := by decide +kernel
theorem dX9_advance_52 : decode cX9_advance 52 = .ok (.aload_n 0, 1) := by decide +kernel
theorem dX9_advance_53 : decode cX9_advance 53 = .ok (.getfield 34, 3) := by decide +kernel
theorem dX9_advance_56 : decode cX9_advance 56 = .ok (.putfield 47, 3) := by decide +kernel
theorem dX9_advance_59 : decode cX9_advance 59 = .ok (.aload_n 0, 1) := by decide +kernel
theorem dX9_advance_60 : decode cX9_advance 60 = .ok (.getfield 34, 3) := by decide +kernel
theorem dX9_advance_63 : decode cX9_advance 63 = .ok (.aload_n 0, 1) := by decide +kernel
theorem dX9_advance_64 : decode cX9_advance 64 = .ok (.getfield 31, 3) := by decide +kernel
theorem dX9_advance_67 : decode cX9_advance 67 = .ok (.if_icmp .lt 11, 3) := by decide +kernel
theorem dX9_advance_70 : decode cX9_advance 70 = .ok (.aload_n 0, 1) := by decide +kernel
theorem dX9_advance_71 : decode cX9_advance 71 = .ok (.iconst 0, 1) := by decide +kernel
theorem dX9_advance_72 : decode cX9_advance 72 = .ok (.putfield 40, 3) := by decide +kernel
theorem dX9_advance_75 : decode cX9_advance 75 = .ok (.goto 49, 3) := by decide +kernel
theorem dX9_advance_78 : decode cX9_advance 78 = .ok (.aload_n 0, 1) := by decide +kernel
theorem dX9_advance_79 : decode cX9_advance 79 = .ok (.aload_n 0, 1) := by decide +kernel
theorem dX9_advance_80 : decode cX9_advance 80 = .ok (.getfield 34, 3) := by decide +kernel
theorem dX9_advance_83 : decode cX9_advance 83 = .ok (.invokevirtual 43, 3) := by decide +kernel
theorem dX9_advance_86 : decode cX9_advance 86 = .ok (.invokestatic 50, 3) := by decide +kernel
theorem dX9_advance_89 : decode cX9_advance 89 = .ok (.ifCond .eq 10, 3) := by decide +kernel
theorem dX9_advance_92 : decode cX9_advance 92 = .ok (.aload_n 0, 1) := by decide +kernel
theorem dX9_advance_93 : decode cX9_advance 93 = .ok (.invokevirtual 54, 3) := by decide +kernel
theorem dX9_advance_96 : decode cX9_advance 96 = .ok (.goto 28, 3) := by decide +kernel
theorem dX9_advance_99 : decode cX9_advance 99 = .ok (.aload_n 0, 1) := by decide +kernel
theorem dX9_advance_100 : decode cX9_advance 100 = .ok (.aload_n 0, 1) := by decide +kernel
theorem dX9_advance_101 : decode cX9_advance 101 = .ok (.getfield 34, 3) := by decide +kernel
theorem dX9_advance_104 : decode cX9_advance 104 = .ok (.invokevirtual 43, 3) := by decide +kernel
theorem dX9_advance_107 : decode cX9_advance 107 = .ok (.invokestatic 57, 3) := by decide +kernel
theorem dX9_advance_110 : decode cX9_advance 110 = .ok (.ifCond .eq 10, 3) := by decide +kernel
theorem dX9_advance_113 : decode cX9_advance 113 = .ok (.aload_n 0, 1) := by decide +kernel
theorem dX9_advance_114 : decode cX9_advance 114 = .ok (.invokevirtual 60, 3) := by decide +kernel
theorem dX9_advance_117 : decode cX9_advance 117 = .ok (.goto 7, 3) := by decide +kernel
theorem dX9_advance_120 : decode cX9_advance 120 = .ok (.aload_n 0, 1) := by decide +kernel
theorem dX9_advance_121 : decode cX9_advance 121 = .ok (.invokevirtual 63, 3) := by decide +kernel
theorem dX9_advance_124 : decode cX9_advance 124 = .ok (.return_, 1) := by decide +kernel
theorem dX9_byteAt_0 : decode cX9_byteAt 0 = .ok (.iload_n 1, 1) := by decide +kernel
theorem dX9_byteAt_1 : decode cX9_byteAt 1 = .ok (.ifCond .lt 29, 3) := by decide +kernel
theorem dX9_byteAt_4 : decode cX9_byteAt 4 = .ok (.iload_n 1, 1) := by decide +kernel
theorem dX9_byteAt_5 : decode cX9_byteAt 5 = .ok (.aload_n 0, 1) := by decide +kernel
theorem dX9_byteAt_6 : decode cX9_byteAt 6 = .ok (.getfield 31, 3) := by decide +kernel
theorem dX9_byteAt_9 : decode cX9_byteAt 9 = .ok (.if_icmp .ge 21, 3) := by decide +kernel
theorem dX9_byteAt_12 : decode cX9_byteAt 12 = .ok (.iload_n 1, 1) := by decide +kernel
theorem dX9_byteAt_13 : decode cX9_byteAt 13 = .ok (.aload_n 0, 1) := by decide +kernel
theorem dX9_byteAt_14 : decode cX9_byteAt 14 = .ok (.getfield 15, 3) := by decide +kernel
theorem dX9_byteAt_17 : decode cX9_byteAt 17 = .ok (.arraylength, 1) := by decide +kernel
theorem dX9_byteAt_18 : decode cX9_byteAt 18 = .ok (.if_icmp .ge 12, 3) := by decide +kernel
theorem dX9_byteAt_21 : decode cX9_byteAt 21 = .ok (.aload_n 0, 1) := by decide +kernel
theorem dX9_byteAt_22 : decode cX9_byteAt 22 = .ok (.getfield 15, 3) := by decide +kernel
theorem dX9_byteAt_25 : decode cX9_byteAt 25 = .ok (.iload_n 1, 1) := by decide +kernel
theorem dX9_byteAt_26 : decode cX9_byteAt 26 = .ok (.iaload, 1) := by decide +kernel
theorem dX9_byteAt_27 : decode cX9_byteAt 27 = .ok (.goto 4, 3) := by decide +kernel
theorem dX9_byteAt_30 : decode cX9_byteAt 30 = .ok (.iconst (-1), 1) := by decide +kernel
theorem dX9_byteAt_31 : decode cX9_byteAt 31 = .ok (.ireturn, 1) := by decide +kernel
theorem dX9_isDigit_0 : decode cX9_isDigit 0 = .ok (.iload_n 0, 1) := by decide +kernel
theorem dX9_isDigit_1 : decode cX9_isDigit 1 = .ok (.bipush 48, 2) := by decide +kernel
theorem dX9_isDigit_3 : decode cX9_isDigit 3 = .ok (.if_icmp .lt 13, 3) := by decide +kernel
theorem dX9_isDigit_6 : decode cX9_isDigit 6 = .ok (.iload_n 0, 1) := by decide +kernel
theorem dX9_isDigit_7 : decode cX9_isDigit 7 = .ok (.bipush 57, 2) := by decide +kernel
theorem dX9_isDigit_9 : decode cX9_isDigit 9 = .ok (.if_icmp .gt 7, 3) := by decide +kernel
theorem dX9_isDigit_12 : decode cX9_isDigit 12 = .ok (.iconst 1, 1) := by decide +kernel
theorem dX9_isDigit_13 : decode cX9_isDigit 13 = .ok (.goto 4, 3) := by decide +kernel
theorem dX9_isDigit_16 : decode cX9_isDigit 16 = .ok (.iconst 0, 1) := by decide +kernel
theorem dX9_isDigit_17 : decode cX9_isDigit 17 = .ok (.ireturn, 1) := by decide +kernel
theorem dX9_isLetter_0 : decode cX9_isLetter 0 = .ok (.iload_n 0, 1) := by decide +kernel
theorem dX9_isLetter_1 : decode cX9_isLetter 1 = .ok (.bipush 97, 2) := by decide +kernel
theorem dX9_isLetter_3 : decode cX9_isLetter 3 = .ok (.if_icmp .lt 13, 3) := by decide +kernel
theorem dX9_isLetter_6 : decode cX9_isLetter 6 = .ok (.iload_n 0, 1) := by decide +kernel
theorem dX9_isLetter_7 : decode cX9_isLetter 7 = .ok (.bipush 122, 2) := by decide +kernel
theorem dX9_isLetter_9 : decode cX9_isLetter 9 = .ok (.if_icmp .gt 7, 3) := by decide +kernel
theorem dX9_isLetter_12 : decode cX9_isLetter 12 = .ok (.iconst 1, 1) := by decide +kernel
theorem dX9_isLetter_13 : decode cX9_isLetter 13 = .ok (.goto 4, 3) := by decide +kernel
theorem dX9_isLetter_16 : decode cX9_isLetter 16 = .ok (.iconst 0, 1) := by decide +kernel
theorem dX9_isLetter_17 : decode cX9_isLetter 17 = .ok (.ireturn, 1) := by decide +kernel
theorem dX9_takeNumber_0 : decode cX9_takeNumber 0 = .ok (.aload_n 0, 1) := by decide +kernel
theorem dX9_takeNumber_1 : decode cX9_takeNumber 1 = .ok (.iconst 0, 1) := by decide +kernel
theorem dX9_takeNumber_2 : decode cX9_takeNumber 2 = .ok (.putfield 66, 3) := by decide +kernel
theorem dX9_takeNumber_5 : decode cX9_takeNumber 5 = .ok (.iconst 0, 1) := by decide +kernel
theorem dX9_takeNumber_6 : decode cX9_takeNumber 6 = .ok (.istore_n 1, 1) := by decide +kernel
theorem dX9_takeNumber_7 : decode cX9_takeNumber 7 = .ok (.iload_n 1, 1) := by decide +kernel
theorem dX9_takeNumber_8 : decode cX9_takeNumber 8 = .ok (.sipush 900, 3) := by decide +kernel
theorem dX9_takeNumber_11 : decode cX9_takeNumber 11 = .ok (.if_icmp .ge 56, 3) := by decide +kernel
theorem dX9_takeNumber_14 : decode cX9_takeNumber 14 = .ok (.aload_n 0, 1) := by decide +kernel
theorem dX9_takeNumber_15 : decode cX9_takeNumber 15 = .ok (.aload_n 0, 1) := by decide +kernel
theorem dX9_takeNumber_16 : decode cX9_takeNumber 16 = .ok (.getfield 34, 3) := by decide +kernel
theorem dX9_takeNumber_19 : decode cX9_takeNumber 19 = .ok (.invokevirtual 43, 3) := by decide +kernel
theorem dX9_takeNumber_22 : decode cX9_takeNumber 22 = .ok (.invokestatic 50, 3) := by decide +kernel
theorem dX9_takeNumber_25 : decode cX9_takeNumber 25 = .ok (.ifCond .eq 42, 3) := by decide +kernel
theorem dX9_takeNumber_28 : decode cX9_takeNumber 28 = .ok (.aload_n 0, 1) := by decide +kernel
theorem dX9_takeNumber_29 : decode cX9_takeNumber 29 = .ok (.aload_n 0, 1) := by decide +kernel
theorem dX9_takeNumber_30 : decode cX9_takeNumber 30 = .ok (.getfield 66, 3) := by decide +kernel
theorem dX9_takeNumber_33 : decode cX9_takeNumber 33 = .ok (.bipush 10, 2) := by decide +kernel
theorem dX9_takeNumber_35 : decode cX9_takeNumber 35 = .ok (.imul, 1) := by decide +kernel
theorem dX9_takeNumber_36 : decode cX9_takeNumber 36 = .ok (.aload_n 0, 1) := by decide +kernel
theorem dX9_takeNumber_37 : decode cX9_takeNumber 37 = .ok (.aload_n 0, 1) := by decide +kernel
theorem dX9_takeNumber_38 : decode cX9_takeNumber 38 = .ok (.getfield 34, 3) := by decide +kernel
theorem dX9_takeNumber_41 : decode cX9_takeNumber 41 = .ok (.invokevirtual 43, 3) := by decide +kernel
theorem dX9_takeNumber_44 : decode cX9_takeNumber 44 = .ok (.iadd, 1) := by decide +kernel
theorem dX9_takeNumber_45 : decode cX9_takeNumber 45 = .ok (.bipush 48, 2) := by decide +kernel
theorem dX9_takeNumber_47 : decode cX9_takeNumber 47 = .ok (.isub, 1) := by decide +kernel
theorem dX9_takeNumber_48 : decode cX9_takeNumber 48 = .ok (.putfield 66, 3) := by decide +kernel
theorem dX9_takeNumber_51 : decode cX9_takeNumber 51 = .ok (.aload_n 0, 1) := by decide +kernel
theorem dX9_takeNumber_52 : decode cX9_takeNumber 52 = .ok (.dup, 1) := by decide +kernel
theorem dX9_takeNumber_53 : decode cX9_takeNumber 53 = .ok (.getfield 34, 3) := by decide +kernel
theorem dX9_takeNumber_56 : decode cX9_takeNumber 56 = .ok (.iconst 1, 1) := by decide +kernel
theorem dX9_takeNumber_57 : decode cX9_takeNumber 57 = .ok (.iadd, 1) := by decide +kernel
theorem dX9_takeNumber_58 : decode cX9_takeNumber 58 = .ok (.putfield 34, 3) := by decide +kernel
theorem dX9_takeNumber_61 : decode cX9_takeNumber 61 = .ok (.iinc 1 1, 3) := by decide +kernel
theorem dX9_takeNumber_64 : decode cX9_takeNumber 64 = .ok (.goto (-57), 3) := by decide +kernel
theorem dX9_takeNumber_67 : decode cX9_takeNumber 67 = .ok (.aload_n 0, 1) := by decide +kernel
theorem dX9_takeNumber_68 : decode cX9_takeNumber 68 = .ok (.aload_n 0, 1) := by decide +kernel
theorem dX9_takeNumber_69 : decode cX9_takeNumber 69 = .ok (.getfield 34, 3) := by decide +kernel
theorem dX9_takeNumber_72 : decode cX9_takeNumber 72 = .ok (.aload_n 0, 1) := by decide +kernel
theorem dX9_takeNumber_73 : decode cX9_takeNumber 73 = .ok (.getfield 47, 3) := by decide +kernel
theorem dX9_takeNumber_76 : decode cX9_takeNumber 76 = .ok (.isub, 1) := by decide +kernel
theorem dX9_takeNumber_77 : decode cX9_takeNumber 77 = .ok (.bipush 9, 2) := by decide +kernel
theorem dX9_takeNumber_79 : decode cX9_takeNumber 79 = .ok (.if_icmp .le 8, 3) := by decide +kernel
theorem dX9_takeNumber_82 : decode cX9_takeNumber 82 = .ok (.bipush 6, 2) := by decide +kernel
theorem dX9_takeNumber_84 : decode cX9_takeNumber 84 = .ok (.goto 4, 3) := by decide +kernel
theorem dX9_takeNumber_87 : decode cX9_takeNumber 87 = .ok (.iconst 1, 1) := by decide +kernel
theorem dX9_takeNumber_88 : decode cX9_takeNumber 88 = .ok (.putfield 40, 3) := by decide +kernel
theorem dX9_takeNumber_91 : decode cX9_takeNumber 91 = .ok (.return_, 1) := by decide +kernel
theorem dX9_takeRow_0 : decode cX9_takeRow 0 = .ok (.aload_n 0, 1) := by decide +kernel
theorem dX9_takeRow_1 : decode cX9_takeRow 1 = .ok (.lconst 0, 1) := by decide +kernel
theorem dX9_takeRow_2 : decode cX9_takeRow 2 = .ok (.putfield 69, 3) := by decide +kernel
theorem dX9_takeRow_5 : decode cX9_takeRow 5 = .ok (.iconst 0, 1) := by decide +kernel
theorem dX9_takeRow_6 : decode cX9_takeRow 6 = .ok (.istore_n 1, 1) := by decide +kernel
theorem dX9_takeRow_7 : decode cX9_takeRow 7 = .ok (.iload_n 1, 1) := by decide +kernel
theorem dX9_takeRow_8 : decode cX9_takeRow 8 = .ok (.sipush 900, 3) := by decide +kernel
theorem dX9_takeRow_11 : decode cX9_takeRow 11 = .ok (.if_icmp .ge 68, 3) := by decide +kernel
theorem dX9_takeRow_14 : decode cX9_takeRow 14 = .ok (.aload_n 0, 1) := by decide +kernel
theorem dX9_takeRow_15 : decode cX9_takeRow 15 = .ok (.aload_n 0, 1) := by decide +kernel
theorem dX9_takeRow_16 : decode cX9_takeRow 16 = .ok (.getfield 34, 3) := by decide +kernel
theorem dX9_takeRow_19 : decode cX9_takeRow 19 = .ok (.invokevirtual 43, 3) := by decide +kernel
theorem dX9_takeRow_22 : decode cX9_takeRow 22 = .ok (.invokestatic 50, 3) := by decide +kernel
theorem dX9_takeRow_25 : decode cX9_takeRow 25 = .ok (.ifCond .ne 17, 3) := by decide +kernel
theorem dX9_takeRow_28 : decode cX9_takeRow 28 = .ok (.aload_n 0, 1) := by decide +kernel
theorem dX9_takeRow_29 : decode cX9_takeRow 29 = .ok (.aload_n 0, 1) := by decide +kernel
theorem dX9_takeRow_30 : decode cX9_takeRow 30 = .ok (.getfield 34, 3) := by decide +kernel
theorem dX9_takeRow_33 : decode cX9_takeRow 33 = .ok (.invokevirtual 43, 3) := by decide +kernel
theorem dX9_takeRow_36 : decode cX9_takeRow 36 = .ok (.invokestatic 57, 3) := by decide +kernel
theorem dX9_takeRow_39 : decode cX9_takeRow 39 = .ok (.ifCond .eq 40, 3) := by decide +kernel
theorem dX9_takeRow_42 : decode cX9_takeRow 42 = .ok (.aload_n 0, 1) := by decide +kernel
theorem dX9_takeRow_43 : decode cX9_takeRow 43 = .ok (.aload_n 0, 1) := by decide +kernel
theorem dX9_takeRow_44 : decode cX9_takeRow 44 = .ok (.getfield 69, 3) := by decide +kernel
theorem dX9_takeRow_47 : decode cX9_takeRow 47 = .ok (.bipush 8, 2) := by decide +kernel
theorem dX9_takeRow_49 : decode cX9_takeRow 49 = .ok (.lshl, 1) := by decide +kernel
theorem dX9_takeRow_50 : decode cX9_takeRow 50 = .ok (.aload_n 0, 1) := by decide +kernel
theorem dX9_takeRow_51 : decode cX9_takeRow 51 = .ok (.aload_n 0, 1) := by decide +kernel
theorem dX9_takeRow_52 : decode cX9_takeRow 52 = .ok (.getfield 34, 3) := by decide +kernel
theorem dX9_takeRow_55 : decode cX9_takeRow 55 = .ok (.invokevirtual 43, 3) := by decide +kernel
theorem dX9_takeRow_58 : decode cX9_takeRow 58 = .ok (.i2l, 1) := by decide +kernel
theorem dX9_takeRow_59 : decode cX9_takeRow 59 = .ok (.lor, 1) := by decide +kernel
theorem dX9_takeRow_60 : decode cX9_takeRow 60 = .ok (.putfield 69, 3) := by decide +kernel
theorem dX9_takeRow_63 : decode cX9_takeRow 63 = .ok (.aload_n 0, 1) := by decide +kernel
theorem dX9_takeRow_64 : decode cX9_takeRow 64 = .ok (.dup, 1) := by decide +kernel
theorem dX9_takeRow_65 : decode cX9_takeRow 65 = .ok (.getfield 34, 3) := by decide +kernel
theorem dX9_takeRow_68 : decode cX9_takeRow 68 = .ok (.iconst 1, 1) := by decide +kernel
theorem dX9_takeRow_69 : decode cX9_takeRow 69 = .ok (.iadd, 1) := by decide +kernel
theorem dX9_takeRow_70 : decode cX9_takeRow 70 = .ok (.putfield 34, 3) := by decide +kernel
theorem dX9_takeRow_73 : decode cX9_takeRow 73 = .ok (.iinc 1 1, 3) := by decide +kernel
theorem dX9_takeRow_76 : decode cX9_takeRow 76 = .ok (.goto (-69), 3) := by decide +kernel
theorem dX9_takeRow_79 : decode cX9_takeRow 79 = .ok (.aload_n 0, 1) := by decide +kernel
theorem dX9_takeRow_80 : decode cX9_takeRow 80 = .ok (.aload_n 0, 1) := by decide +kernel
theorem dX9_takeRow_81 : decode cX9_takeRow 81 = .ok (.getfield 34, 3) := by decide +kernel
theorem dX9_takeRow_84 : decode cX9_takeRow 84 = .ok (.aload_n 0, 1) := by decide +kernel
theorem dX9_takeRow_85 : decode cX9_takeRow 85 = .ok (.getfield 47, 3) := by decide +kernel
theorem dX9_takeRow_88 : decode cX9_takeRow 88 = .ok (.isub, 1) := by decide +kernel
theorem dX9_takeRow_89 : decode cX9_takeRow 89 = .ok (.bipush 8, 2) := by decide +kernel
theorem dX9_takeRow_91 : decode cX9_takeRow 91 = .ok (.if_icmp .le 8, 3) := by decide +kernel
theorem dX9_takeRow_94 : decode cX9_takeRow 94 = .ok (.bipush 6, 2) := by decide +kernel
theorem dX9_takeRow_96 : decode cX9_takeRow 96 = .ok (.goto 16, 3) := by decide +kernel
theorem dX9_takeRow_99 : decode cX9_takeRow 99 = .ok (.aload_n 0, 1) := by decide +kernel
theorem dX9_takeRow_100 : decode cX9_takeRow 100 = .ok (.aload_n 0, 1) := by decide +kernel
theorem dX9_takeRow_101 : decode cX9_takeRow 101 = .ok (.getfield 34, 3) := by decide +kernel
theorem dX9_takeRow_104 : decode cX9_takeRow 104 = .ok (.aload_n 0, 1) := by decide +kernel
theorem dX9_takeRow_105 : decode cX9_takeRow 105 = .ok (.getfield 47, 3) := by decide +kernel
theorem dX9_takeRow_108 : decode cX9_takeRow 108 = .ok (.isub, 1) := by decide +kernel
