theorem dX0_init_0 : decode cX0_init 0 = .ok (.aload_n 0, 1) := by decide +kernel
theorem dX0_init_1 : decode cX0_init 1 = .ok (.invokespecial 3, 3) := by decide +kernel
theorem dX0_init_4 : decode cX0_init 4 = .ok (.aload_n 0, 1) := by decide +kernel
theorem dX0_init_5 : decode cX0_init 5 = .ok (.sipush 1200, 3) := by decide +kernel
theorem dX0_init_8 : decode cX0_init 8 = .ok (.newarray .int, 2) := by decide +kernel
theorem dX0_init_10 : decode cX0_init 10 = .ok (.putfield 9, 3) := by decide +kernel
theorem dX0_init_13 : decode cX0_init 13 = .ok (.aload_n 0, 1) := by decide +kernel
theorem dX0_init_14 : decode cX0_init 14 = .ok (.sipush 1200, 3) := by decide +kernel
theorem dX0_init_17 : decode cX0_init 17 = .ok (.newarray .int, 2) := by decide +kernel
theorem dX0_init_19 : decode cX0_init 19 = .ok (.putfield 15, 3) := by decide +kernel
theorem dX0_init_22 : decode cX0_init 22 = .ok (.aload_n 0, 1) := by decide +kernel
theorem dX0_init_23 : decode cX0_init 23 = .ok (.sipush 1024, 3) := by decide +kernel
theorem dX0_init_26 : decode cX0_init 26 = .ok (.newarray .int, 2) := by decide +kernel
theorem dX0_init_28 : decode cX0_init 28 = .ok (.putfield 18, 3) := by decide +kernel
theorem dX0_init_31 : decode cX0_init 31 = .ok (.aload_n 0, 1) := by decide +kernel
theorem dX0_init_32 : decode cX0_init 32 = .ok (.sipush 320, 3) := by decide +kernel
theorem dX0_init_35 : decode cX0_init 35 = .ok (.newarray .int, 2) := by decide +kernel
theorem dX0_init_37 : decode cX0_init 37 = .ok (.putfield 21, 3) := by decide +kernel
theorem dX0_init_40 : decode cX0_init 40 = .ok (.aload_n 0, 1) := by decide +kernel
theorem dX0_init_41 : decode cX0_init 41 = .ok (.sipush 320, 3) := by decide +kernel
theorem dX0_init_44 : decode cX0_init 44 = .ok (.newarray .int, 2) := by decide +kernel
theorem dX0_init_46 : decode cX0_init 46 = .ok (.putfield 24, 3) := by decide +kernel
theorem dX0_init_49 : decode cX0_init 49 = .ok (.return_, 1) := by decide +kernel
theorem dX0_clear_0 : decode cX0_clear 0 = .ok (.aload_n 0, 1) := by decide +kernel
theorem dX0_clear_1 : decode cX0_clear 1 = .ok (.iconst 0, 1) := by decide +kernel
theorem dX0_clear_2 : decode cX0_clear 2 = .ok (.putfield 27, 3) := by decide +kernel
theorem dX0_clear_5 : decode cX0_clear 5 = .ok (.aload_n 0, 1) := by decide +kernel
theorem dX0_clear_6 : decode cX0_clear 6 = .ok (.iconst 0, 1) := by decide +kernel
theorem dX0_clear_7 : decode cX0_clear 7 = .ok (.putfield 31, 3) := by decide +kernel
theorem dX0_clear_10 : decode cX0_clear 10 = .ok (.aload_n 0, 1) := by decide +kernel
theorem dX0_clear_11 : decode cX0_clear 11 = .ok (.iconst 0, 1) := by decide +kernel
theorem dX0_clear_12 : decode cX0_clear 12 = .ok (.putfield 34, 3) := by decide +kernel
theorem dX0_clear_15 : decode cX0_clear 15 = .ok (.aload_n 0, 1) := by decide +kernel
theorem dX0_clear_16 : decode cX0_clear 16 = .ok (.iconst 0, 1) := by decide +kernel
theorem dX0_clear_17 : decode cX0_clear 17 = .ok (.putfield 37, 3) := by decide +kernel
theorem dX0_clear_20 : decode cX0_clear 20 = .ok (.aload_n 0, 1) := by decide +kernel
theorem dX0_clear_21 : decode cX0_clear 21 = .ok (.iconst 0, 1) := by decide +kernel
theorem dX0_clear_22 : decode cX0_clear 22 = .ok (.putfield 40, 3) := by decide +kernel
theorem dX0_clear_25 : decode cX0_clear 25 = .ok (.aload_n 0, 1) := by decide +kernel
theorem dX0_clear_26 : decode cX0_clear 26 = .ok (.iconst 0, 1) := by decide +kernel
theorem dX0_clear_27 : decode cX0_clear 27 = .ok (.putfield 43, 3) := by decide +kernel
theorem dX0_clear_30 : decode cX0_clear 30 = .ok (.aload_n 0, 1) := by decide +kernel
theorem dX0_clear_31 : decode cX0_clear 31 = .ok (.iconst 0, 1) := by decide +kernel
theorem dX0_clear_32 : decode cX0_clear 32 = .ok (.putfield 46, 3) := by decide +kernel
theorem dX0_clear_35 : decode cX0_clear 35 = .ok (.aload_n 0, 1) := by decide +kernel
theorem dX0_clear_36 : decode cX0_clear 36 = .ok (.iconst 0, 1) := by decide +kernel
theorem dX0_clear_37 : decode cX0_clear 37 = .ok (.putfield 49, 3) := by decide +kernel
theorem dX0_clear_40 : decode cX0_clear 40 = .ok (.return_, 1) := by decide +kernel
theorem dX0_add_0 : decode cX0_add 0 = .ok (.aload_n 0, 1) := by decide +kernel
theorem dX0_add_1 : decode cX0_add 1 = .ok (.getfield 9, 3) := by decide +kernel
theorem dX0_add_4 : decode cX0_add 4 = .ok (.aload_n 0, 1) := by decide +kernel
theorem dX0_add_5 : decode cX0_add 5 = .ok (.getfield 27, 3) := by decide +kernel
theorem dX0_add_8 : decode cX0_add 8 = .ok (.iload_n 1, 1) := by decide +kernel
theorem dX0_add_9 : decode cX0_add 9 = .ok (.invokestatic 53, 3) := by decide +kernel
theorem dX0_add_12 : decode cX0_add 12 = .ok (.aload_n 0, 1) := by decide +kernel
theorem dX0_add_13 : decode cX0_add 13 = .ok (.getfield 15, 3) := by decide +kernel
theorem dX0_add_16 : decode cX0_add 16 = .ok (.aload_n 0, 1) := by decide +kernel
theorem dX0_add_17 : decode cX0_add 17 = .ok (.getfield 27, 3) := by decide +kernel
theorem dX0_add_20 : decode cX0_add 20 = .ok (.iload_n 2, 1) := by decide +kernel
theorem dX0_add_21 : decode cX0_add 21 = .ok (.invokestatic 53, 3) := by decide +kernel
theorem dX0_add_24 : decode cX0_add 24 = .ok (.aload_n 0, 1) := by decide +kernel
theorem dX0_add_25 : decode cX0_add 25 = .ok (.dup, 1) := by decide +kernel
theorem dX0_add_26 : decode cX0_add 26 = .ok (.getfield 27, 3) := by decide +kernel
theorem dX0_add_29 : decode cX0_add 29 = .ok (.iconst 1, 1) := by decide +kernel
theorem dX0_add_30 : decode cX0_add 30 = .ok (.iadd, 1) := by decide +kernel
theorem dX0_add_31 : decode cX0_add 31 = .ok (.putfield 27, 3) := by decide +kernel
theorem dX0_add_34 : decode cX0_add 34 = .ok (.return_, 1) := by decide +kernel
theorem dX0_newCells_0 : decode cX0_newCells 0 = .ok (.aload_n 0, 1) := by decide +kernel
theorem dX0_newCells_1 : decode cX0_newCells 1 = .ok (.dup, 1) := by decide +kernel
theorem dX0_newCells_2 : decode cX0_newCells 2 = .ok (.getfield 37, 3) := by decide +kernel
theorem dX0_newCells_5 : decode cX0_newCells 5 = .ok (.iload_n 1, 1) := by decide +kernel
theorem dX0_newCells_6 : decode cX0_newCells 6 = .ok (.iadd, 1) := by decide +kernel
theorem dX0_newCells_7 : decode cX0_newCells 7 = .ok (.putfield 37, 3) := by decide +kernel
theorem dX0_newCells_10 : decode cX0_newCells 10 = .ok (.aload_n 0, 1) := by decide +kernel
theorem dX0_newCells_11 : decode cX0_newCells 11 = .ok (.getfield 37, 3) := by decide +kernel
theorem dX0_newCells_14 : decode cX0_newCells 14 = .ok (.iload_n 1, 1) := by decide +kernel
theorem dX0_newCells_15 : decode cX0_newCells 15 = .ok (.isub, 1) := by decide +kernel
theorem dX0_newCells_16 : decode cX0_newCells 16 = .ok (.ireturn, 1) := by decide +kernel
theorem dX1_init_0 : decode cX1_init 0 = .ok (.aload_n 0, 1) := by decide +kernel
theorem dX1_init_1 : decode cX1_init 1 = .ok (.invokespecial 3, 3) := by decide +kernel
theorem dX1_init_4 : decode cX1_init 4 = .ok (.aload_n 0, 1) := by decide +kernel
theorem dX1_init_5 : decode cX1_init 5 = .ok (.new 9, 3) := by decide +kernel
theorem dX1_init_8 : decode cX1_init 8 = .ok (.dup, 1) := by decide +kernel
theorem dX1_init_9 : decode cX1_init 9 = .ok (.invokespecial 11, 3) := by decide +kernel
theorem dX1_init_12 : decode cX1_init 12 = .ok (.putfield 12, 3) := by decide +kernel
theorem dX1_init_15 : decode cX1_init 15 = .ok (.aload_n 0, 1) := by decide +kernel
theorem dX1_init_16 : decode cX1_init 16 = .ok (.aload_n 1, 1) := by decide +kernel
theorem dX1_init_17 : decode cX1_init 17 = .ok (.putfield 18, 3) := by decide +kernel
theorem dX1_init_20 : decode cX1_init 20 = .ok (.aload_n 0, 1) := by decide +kernel
theorem dX1_init_21 : decode cX1_init 21 = .ok (.aload_n 2, 1) := by decide +kernel
theorem dX1_init_22 : decode cX1_init 22 = .ok (.putfield 22, 3) := by decide +kernel
theorem dX1_init_25 : decode cX1_init 25 = .ok (.aload_n 0, 1) := by decide +kernel
theorem dX1_init_26 : decode cX1_init 26 = .ok (.aload_n 3, 1) := by decide +kernel
theorem dX1_init_27 : decode cX1_init 27 = .ok (.putfield 26, 3) := by decide +kernel
theorem dX1_init_30 : decode cX1_init 30 = .ok (.return_, 1) := by decide +kernel
theorem dX1_found_0 : decode cX1_found 0 = .ok (.aload_n 0, 1) := by decide +kernel
theorem dX1_found_1 : decode cX1_found 1 = .ok (.getfield 18, 3) := by decide +kernel
theorem dX1_found_4 : decode cX1_found 4 = .ok (.getfield 53, 3) := by decide +kernel
theorem dX1_found_7 : decode cX1_found 7 = .ok (.iload_n 1, 1) := by decide +kernel
theorem dX1_found_8 : decode cX1_found 8 = .ok (.if_icmp .ne 7, 3) := by decide +kernel
theorem dX1_found_11 : decode cX1_found 11 = .ok (.iconst 1, 1) := by decide +kernel
theorem dX1_found_12 : decode cX1_found 12 = .ok (.goto 4, 3) := by decide +kernel
theorem dX1_found_15 : decode cX1_found 15 = .ok (.iconst 0, 1) := by decide +kernel
theorem dX1_found_16 : decode cX1_found 16 = .ok (.ireturn, 1) := by decide +kernel
theorem dX1_expect_0 : decode cX1_expect 0 = .ok (.aload_n 0, 1) := by decide +kernel
theorem dX1_expect_1 : decode cX1_expect 1 = .ok (.iload_n 1, 1) := by decide +kernel
theorem dX1_expect_2 : decode cX1_expect 2 = .ok (.invokevirtual 42, 3) := by decide +kernel
theorem dX1_expect_5 : decode cX1_expect 5 = .ok (.ifCond .eq 13, 3) := by decide +kernel
theorem dX1_expect_8 : decode cX1_expect 8 = .ok (.aload_n 0, 1) := by decide +kernel
theorem dX1_expect_9 : decode cX1_expect 9 = .ok (.getfield 18, 3) := by decide +kernel
theorem dX1_expect_12 : decode cX1_expect 12 = .ok (.invokevirtual 56, 3) := by decide +kernel
theorem dX1_expect_15 : decode cX1_expect 15 = .ok (.goto 7, 3) := by decide +kernel
theorem dX1_expect_22 : decode cX1_expect 22 = .ok (.return_, 1) := by decide +kernel
theorem dX3_init_0 : decode cX3_init 0 = .ok (.aload_n 0, 1) := by decide +kernel
theorem dX3_init_1 : decode cX3_init 1 = .ok (.invokespecial 3, 3) := by decide +kernel
theorem dX3_init_4 : decode cX3_init 4 = .ok (.aload_n 0, 1) := by decide +kernel
theorem dX3_init_5 : decode cX3_init 5 = .ok (.sipush 720, 3) := by decide +kernel
theorem dX3_init_8 : decode cX3_init 8 = .ok (.newarray .int, 2) := by decide +kernel
theorem dX3_init_10 : decode cX3_init 10 = .ok (.putfield 9, 3) := by decide +kernel
theorem dX3_init_13 : decode cX3_init 13 = .ok (.aload_n 0, 1) := by decide +kernel
theorem dX3_init_14 : decode cX3_init 14 = .ok (.sipush 600, 3) := by decide +kernel
theorem dX3_init_17 : decode cX3_init 17 = .ok (.newarray .int, 2) := by decide +kernel
theorem dX3_init_19 : decode cX3_init 19 = .ok (.putfield 15, 3) := by decide +kernel
theorem dX3_init_22 : decode cX3_init 22 = .ok (.aload_n 0, 1) := by decide +kernel
theorem dX3_init_23 : decode cX3_init 23 = .ok (.bipush 24, 2) := by decide +kernel
theorem dX3_init_25 : decode cX3_init 25 = .ok (.anewarray 18, 3) := by decide +kernel
theorem dX3_init_28 : decode cX3_init 28 = .ok (.putfield 20, 3) := by decide +kernel
theorem dX3_init_31 : decode cX3_init 31 = .ok (.aload_n 0, 1) := by decide +kernel
theorem dX3_init_32 : decode cX3_init 32 = .ok (.bipush 24, 2) := by decide +kernel
theorem dX3_init_34 : decode cX3_init 34 = .ok (.anewarray 24, 3) := by decide +kernel
theorem dX3_init_37 : decode cX3_init 37 = .ok (.putfield 26, 3) := by decide +kernel
theorem dX3_init_40 : decode cX3_init 40 = .ok (.aload_n 0, 1) := by decide +kernel
theorem dX3_init_41 : decode cX3_init 41 = .ok (.sipush 320, 3) := by decide +kernel
theorem dX3_init_44 : decode cX3_init 44 = .ok (.newarray .int, 2) := by decide +kernel
theorem dX3_init_46 : decode cX3_init 46 = .ok (.putfield 30, 3) := by decide +kernel
theorem dX3_init_49 : decode cX3_init 49 = .ok (.aload_n 0, 1) := by decide +kernel
theorem dX3_init_50 : decode cX3_init 50 = .ok (.sipush 400, 3) := by decide +kernel
theorem dX3_init_53 : decode cX3_init 53 = .ok (.newarray .int, 2) := by decide +kernel
theorem dX3_init_55 : decode cX3_init 55 = .ok (.putfield 33, 3) := by decide +kernel
theorem dX3_init_58 : decode cX3_init 58 = .ok (.aload_n 0, 1) := by decide +kernel
theorem dX3_init_59 : decode cX3_init 59 = .ok (.aload_n 1, 1) := by decide +kernel
theorem dX3_init_60 : decode cX3_init 60 = .ok (.putfield 36, 3) := by decide +kernel
theorem dX3_init_63 : decode cX3_init 63 = .ok (.aload_n 0, 1) := by decide +kernel
theorem dX3_init_64 : decode cX3_init 64 = .ok (.aload_n 2, 1) := by decide +kernel
theorem dX3_init_65 : decode cX3_init 65 = .ok (.putfield 40, 3) := by decide +kernel
theorem dX3_init_68 : decode cX3_init 68 = .ok (.return_, 1) := by decide +kernel
theorem dX4_init_0 : decode cX4_init 0 = .ok (.aload_n 0, 1) := by decide +kernel
theorem dX4_init_1 : decode cX4_init 1 = .ok (.invokespecial 1, 3) := by decide +kernel
theorem dX4_init_4 : decode cX4_init 4 = .ok (.aload_n 0, 1) := by decide +kernel
theorem dX4_init_5 : decode cX4_init 5 = .ok (.sipush 128, 3) := by decide +kernel
theorem dX4_init_8 : decode cX4_init 8 = .ok (.newarray .long, 2) := by decide +kernel
theorem dX4_init_10 : decode cX4_init 10 = .ok (.putfield 7, 3) := by decide +kernel
theorem dX4_init_13 : decode cX4_init 13 = .ok (.aload_n 0, 1) := by decide +kernel
theorem dX4_init_14 : decode cX4_init 14 = .ok (.sipush 128, 3) := by decide +kernel
theorem dX4_init_17 : decode cX4_init 17 = .ok (.newarray .int, 2) := by decide +kernel
theorem dX4_init_19 : decode cX4_init 19 = .ok (.putfield 13, 3) := by decide +kernel
theorem dX4_init_22 : decode cX4_init 22 = .ok (.aload_n 0, 1) := by decide +kernel
theorem dX4_init_23 : decode cX4_init 23 = .ok (.sipush 128, 3) := by decide +kernel
theorem dX4_init_26 : decode cX4_init 26 = .ok (.newarray .int, 2) := by decide +kernel
theorem dX4_init_28 : decode cX4_init 28 = .ok (.putfield 17, 3) := by decide +kernel
theorem dX4_init_31 : decode cX4_init 31 = .ok (.return_, 1) := by decide +kernel
theorem dX4_add_0 : decode cX4_add 0 = .ok (.aload_n 0, 1) := by decide +kernel
theorem dX4_add_1 : decode cX4_add 1 = .ok (.getfield 20, 3) := by decide +kernel
theorem dX4_add_4 : decode cX4_add 4 = .ok (.aload_n 0, 1) := by decide +kernel
theorem dX4_add_5 : decode cX4_add 5 = .ok (.getfield 7, 3) := by decide +kernel
theorem dX4_add_8 : decode cX4_add 8 = .ok (.arraylength, 1) := by decide +kernel
theorem dX4_add_9 : decode cX4_add 9 = .ok (.if_icmp .ge 44, 3) := by decide +kernel
theorem dX4_add_12 : decode cX4_add 12 = .ok (.aload_n 0, 1) := by decide +kernel
theorem dX4_add_13 : decode cX4_add 13 = .ok (.getfield 7, 3) := by decide +kernel
theorem dX4_add_16 : decode cX4_add 16 = .ok (.aload_n 0, 1) := by decide +kernel
theorem dX4_add_17 : decode cX4_add 17 = .ok (.getfield 20, 3) := by decide +kernel
theorem dX4_add_20 : decode cX4_add 20 = .ok (.lload_n 1, 1) := by decide +kernel
theorem dX4_add_21 : decode cX4_add 21 = .ok (.lastore, 1) := by decide +kernel
theorem dX4_add_22 : decode cX4_add 22 = .ok (.aload_n 0, 1) := by decide +kernel
theorem dX4_add_23 : decode cX4_add 23 = .ok (.getfield 13, 3) := by decide +kernel
theorem dX4_add_26 : decode cX4_add 26 = .ok (.aload_n 0, 1) := by decide +kernel
theorem dX4_add_27 : decode cX4_add 27 = .ok (.getfield 20, 3) := by decide +kernel
theorem dX4_add_30 : decode cX4_add 30 = .ok (.iload_n 3, 1) := by decide +kernel
theorem dX4_add_31 : decode cX4_add 31 = .ok (.iastore, 1) := by decide +kernel
theorem dX4_add_32 : decode cX4_add 32 = .ok (.aload_n 0, 1) := by decide +kernel
theorem dX4_add_33 : decode cX4_add 33 = .ok (.getfield 17, 3) := by decide +kernel
theorem dX4_add_36 : decode cX4_add 36 = .ok (.aload_n 0, 1) := by decide +kernel
theorem dX4_add_37 : decode cX4_add 37 = .ok (.getfield 20, 3) := by decide +kernel
theorem dX4_add_40 : decode cX4_add 40 = .ok (.iload 4, 2) := by decide +kernel
theorem dX4_add_42 : decode cX4_add 42 = .ok (.iastore, 1) := by decide +kernel
theorem dX4_add_43 : decode cX4_add 43 = .ok (.aload_n 0, 1) := by decide +kernel
theorem dX4_add_44 : decode cX4_add 44 = .ok (.dup, 1) := by decide +kernel
theorem dX4_add_45 : decode cX4_add 45 = .ok (.getfield 20, 3) := by decide +kernel
theorem dX4_add_48 : decode cX4_add 48 = .ok (.iconst 1, 1) := by decide +kernel
theorem dX4_add_49 : decode cX4_add 49 = .ok (.iadd, 1) := by decide +kernel
theorem dX4_add_50 : decode cX4_add 50 = .ok (.putfield 20, 3) := by decide +kernel
theorem dX4_add_53 : decode cX4_add 53 = .ok (.return_, 1) := by decide +kernel
theorem dX5_init_0 : decode cX5_init 0 = .ok (.aload_n 0, 1) := by decide +kernel
theorem dX5_init_1 : decode cX5_init 1 = .ok (.invokespecial 3, 3) := by decide +kernel
theorem dX5_init_4 : decode cX5_init 4 = .ok (.return_, 1) := by decide +kernel
theorem dX5_isLoop_0 : decode cX5_isLoop 0 = .ok (.aload_n 0, 1) := by decide +kernel
theorem dX5_isLoop_1 : decode cX5_isLoop 1 = .ok (.getfield 9, 3) := by decide +kernel
theorem dX5_isLoop_4 : decode cX5_isLoop 4 = .ok (.sipush 205, 3) := by decide +kernel
theorem dX5_isLoop_7 : decode cX5_isLoop 7 = .ok (.if_icmp .eq 33, 3) := by decide +kernel
theorem dX5_isLoop_10 : decode cX5_isLoop 10 = .ok (.aload_n 0, 1) := by decide +kernel
theorem dX5_isLoop_11 : decode cX5_isLoop 11 = .ok (.getfield 9, 3) := by decide +kernel
theorem dX5_isLoop_14 : decode cX5_isLoop 14 = .ok (.sipush 206, 3) := by decide +kernel
theorem dX5_isLoop_17 : decode cX5_isLoop 17 = .ok (.if_icmp .eq 23, 3) := by decide +kernel
theorem dX5_isLoop_20 : decode cX5_isLoop 20 = .ok (.aload_n 0, 1) := by decide +kernel
theorem dX5_isLoop_21 : decode cX5_isLoop 21 = .ok (.getfield 9, 3) := by decide +kernel
theorem dX5_isLoop_24 : decode cX5_isLoop 24 = .ok (.sipush 207, 3) := by decide +kernel
theorem dX5_isLoop_27 : decode cX5_isLoop 27 = .ok (.if_icmp .eq 13, 3) := by decide +kernel
theorem dX5_isLoop_30 : decode cX5_isLoop 30 = .ok (.aload_n 0, 1) := by decide +kernel
theorem dX5_isLoop_31 : decode cX5_isLoop 31 = .ok (.getfield 9, 3) := by decide +kernel
theorem dX5_isLoop_34 : decode cX5_isLoop 34 = .ok (.sipush 304, 3) := by decide +kernel
theorem dX5_isLoop_37 : decode cX5_isLoop 37 = .ok (.if_icmp .ne 7, 3) := by decide +kernel
theorem dX5_isLoop_44 : decode cX5_isLoop 44 = .ok (.iconst 0, 1) := by decide +kernel
theorem dX5_isLoop_45 : decode cX5_isLoop 45 = .ok (.ireturn, 1) := by decide +kernel
theorem dX5_hasOneBody_0 : decode cX5_hasOneBody 0 = .ok (.aload_n 0, 1) := by decide +kernel
theorem dX5_hasOneBody_1 : decode cX5_hasOneBody 1 = .ok (.invokevirtual 15, 3) := by decide +kernel
theorem dX5_hasOneBody_4 : decode cX5_hasOneBody 4 = .ok (.ifCond .ne 33, 3) := by decide +kernel
theorem dX5_hasOneBody_7 : decode cX5_hasOneBody 7 = .ok (.aload_n 0, 1) := by decide +kernel
theorem dX5_hasOneBody_8 : decode cX5_hasOneBody 8 = .ok (.getfield 9, 3) := by decide +kernel
theorem dX5_hasOneBody_11 : decode cX5_hasOneBody 11 = .ok (.sipush 303, 3) := by decide +kernel
theorem dX5_hasOneBody_14 : decode cX5_hasOneBody 14 = .ok (.if_icmp .eq 23, 3) := by decide +kernel
theorem dX5_hasOneBody_17 : decode cX5_hasOneBody 17 = .ok (.aload_n 0, 1) := by decide +kernel
theorem dX5_hasOneBody_18 : decode cX5_hasOneBody 18 = .ok (.getfield 9, 3) := by decide +kernel
theorem dX5_hasOneBody_21 : decode cX5_hasOneBody 21 = .ok (.sipush 203, 3) := by decide +kernel
theorem dX5_hasOneBody_24 : decode cX5_hasOneBody 24 = .ok (.if_icmp .eq 13, 3) := by decide +kernel
theorem dX5_hasOneBody_27 : decode cX5_hasOneBody 27 = .ok (.aload_n 0, 1) := by decide +kernel
theorem dX5_hasOneBody_28 : decode cX5_hasOneBody 28 = .ok (.getfield 9, 3) := by decide +kernel
theorem dX5_hasOneBody_31 : decode cX5_hasOneBody 31 = .ok (.sipush 204, 3) := by decide +kernel
theorem dX5_hasOneBody_34 : decode cX5_hasOneBody 34 = .ok (.if_icmp .ne 7, 3) := by decide +kernel
theorem dX5_hasOneBody_41 : decode cX5_hasOneBody 41 = .ok (.iconst 0, 1) := by decide +kernel
theorem dX5_hasOneBody_42 : decode cX5_hasOneBody 42 = .ok (.ireturn, 1) := by decide +kernel
theorem dX6_init_0 : decode cX6_init 0 = .ok (.aload_n 0, 1) := by decide +kernel
theorem dX6_init_1 : decode cX6_init 1 = .ok (.invokespecial 3, 3) := by decide +kernel
theorem dX6_init_4 : decode cX6_init 4 = .ok (.aload_n 0, 1) := by decide +kernel
theorem dX6_init_5 : decode cX6_init 5 = .ok (.sipush 400, 3) := by decide +kernel
theorem dX6_init_8 : decode cX6_init 8 = .ok (.anewarray 9, 3) := by decide +kernel
theorem dX6_init_11 : decode cX6_init 11 = .ok (.putfield 11, 3) := by decide +kernel
theorem dX6_init_14 : decode cX6_init 14 = .ok (.aload_n 0, 1) := by decide +kernel
theorem dX6_init_15 : decode cX6_init 15 = .ok (.sipush 160, 3) := by decide +kernel
theorem dX6_init_18 : decode cX6_init 18 = .ok (.newarray .int, 2) := by decide +kernel
theorem dX6_init_20 : decode cX6_init 20 = .ok (.putfield 17, 3) := by decide +kernel
theorem dX6_init_23 : decode cX6_init 23 = .ok (.return_, 1) := by decide +kernel
theorem dX6_clear_0 : decode cX6_clear 0 = .ok (.aload_n 0, 1) := by decide +kernel
theorem dX6_clear_1 : decode cX6_clear 1 = .ok (.iconst 0, 1) := by decide +kernel
theorem dX6_clear_2 : decode cX6_clear 2 = .ok (.putfield 21, 3) := by decide +kernel
theorem dX6_clear_5 : decode cX6_clear 5 = .ok (.aload_n 0, 1) := by decide +kernel
theorem dX6_clear_6 : decode cX6_clear 6 = .ok (.iconst 0, 1) := by decide +kernel
theorem dX6_clear_7 : decode cX6_clear 7 = .ok (.putfield 25, 3) := by decide +kernel
theorem dX6_clear_10 : decode cX6_clear 10 = .ok (.aload_n 0, 1) := by decide +kernel
theorem dX6_clear_11 : decode cX6_clear 11 = .ok (.iconst 0, 1) := by decide +kernel
theorem dX6_clear_12 : decode cX6_clear 12 = .ok (.putfield 28, 3) := by decide +kernel
theorem dX6_clear_15 : decode cX6_clear 15 = .ok (.aload_n 0, 1) := by decide +kernel
theorem dX6_clear_16 : decode cX6_clear 16 = .ok (.iconst (-1), 1) := by decide +kernel
theorem dX6_clear_17 : decode cX6_clear 17 = .ok (.putfield 31, 3) := by decide +kernel
theorem dX6_clear_20 : decode cX6_clear 20 = .ok (.return_, 1) := by decide +kernel
theorem dX6_push_0 : decode cX6_push 0 = .ok (.aload_n 0, 1) := by decide +kernel
theorem dX6_push_1 : decode cX6_push 1 = .ok (.getfield 21, 3) := by decide +kernel
theorem dX6_push_4 : decode cX6_push 4 = .ok (.aload_n 0, 1) := by decide +kernel
theorem dX6_push_5 : decode cX6_push 5 = .ok (.getfield 11, 3) := by decide +kernel
theorem dX6_push_8 : decode cX6_push 8 = .ok (.arraylength, 1) := by decide +kernel
theorem dX6_push_9 : decode cX6_push 9 = .ok (.iconst 1, 1) := by decide +kernel
theorem dX6_push_10 : decode cX6_push 10 = .ok (.isub, 1) := by decide +kernel
theorem dX6_push_11 : decode cX6_push 11 = .ok (.invokestatic 34, 3) := by decide +kernel
theorem dX6_push_14 : decode cX6_push 14 = .ok (.istore 4, 2) := by decide +kernel
theorem dX6_push_16 : decode cX6_push 16 = .ok (.aload_n 0, 1) := by decide +kernel
theorem dX6_push_17 : decode cX6_push 17 = .ok (.getfield 11, 3) := by decide +kernel
theorem dX6_push_20 : decode cX6_push 20 = .ok (.iload 4, 2) := by decide +kernel
theorem dX6_push_22 : decode cX6_push 22 = .ok (.aaload, 1) := by decide +kernel
theorem dX6_push_23 : decode cX6_push 23 = .ok (.astore 5, 2) := by decide +kernel
theorem dX6_push_25 : decode cX6_push 25 = .ok (.aload 5, 2) := by decide +kernel
theorem dX6_push_27 : decode cX6_push 27 = .ok (.ifnonnull 21, 3) := by decide +kernel
theorem dX6_push_30 : decode cX6_push 30 = .ok (.new 9, 3) := by decide +kernel
theorem dX6_push_33 : decode cX6_push 33 = .ok (.dup, 1) := by decide +kernel
theorem dX6_push_34 : decode cX6_push 34 = .ok (.invokespecial 40, 3) := by decide +kernel
theorem dX6_push_37 : decode cX6_push 37 = .ok (.astore 5, 2) := by decide +kernel
theorem dX6_push_39 : decode cX6_push 39 = .ok (.aload_n 0, 1) := by decide +kernel
theorem dX6_push_40 : decode cX6_push 40 = .ok (.getfield 11, 3) := by decide +kernel
theorem dX6_push_43 : decode cX6_push 43 = .ok (.iload 4, 2) := by decide +kernel
theorem dX6_push_45 : decode cX6_push 45 = .ok (.aload 5, 2) := by decide +kernel
theorem dX6_push_47 : decode cX6_push 47 = .ok (.aastore, 1) := by decide +kernel
theorem dX6_push_48 : decode cX6_push 48 = .ok (.aload_n 0, 1) := by decide +kernel
theorem dX6_push_49 : decode cX6_push 49 = .ok (.iload 4, 2) := by decide +kernel
theorem dX6_push_51 : decode cX6_push 51 = .ok (.iconst 1, 1) := by decide +kernel
theorem dX6_push_52 : decode cX6_push 52 = .ok (.iadd, 1) := by decide +kernel
theorem dX6_push_53 : decode cX6_push 53 = .ok (.putfield 21, 3) := by decide +kernel
theorem dX6_push_56 : decode cX6_push 56 = .ok (.aload_n 0, 1) := by decide +kernel
theorem dX6_push_57 : decode cX6_push 57 = .ok (.dup, 1) := by decide +kernel
theorem dX6_push_58 : decode cX6_push 58 = .ok (.getfield 25, 3) := by decide +kernel
theorem dX6_push_61 : decode cX6_push 61 = .ok (.iconst 1, 1) := by decide +kernel
theorem dX6_push_62 : decode cX6_push 62 = .ok (.iadd, 1) := by decide +kernel
theorem dX6_push_63 : decode cX6_push 63 = .ok (.putfield 25, 3) := by decide +kernel
theorem dX6_push_66 : decode cX6_push 66 = .ok (.aload 5, 2) := by decide +kernel
theorem dX6_push_68 : decode cX6_push 68 = .ok (.iload_n 1, 1) := by decide +kernel
theorem dX6_push_69 : decode cX6_push 69 = .ok (.putfield 41, 3) := by decide +kernel
theorem dX6_push_72 : decode cX6_push 72 = .ok (.aload 5, 2) := by decide +kernel
theorem dX6_push_74 : decode cX6_push 74 = .ok (.aload_n 0, 1) := by decide +kernel
theorem dX6_push_75 : decode cX6_push 75 = .ok (.getfield 25, 3) := by decide +kernel
theorem dX6_push_78 : decode cX6_push 78 = .ok (.putfield 44, 3) := by decide +kernel
theorem dX6_push_81 : decode cX6_push 81 = .ok (.aload 5, 2) := by decide +kernel
theorem dX6_push_83 : decode cX6_push 83 = .ok (.iload_n 2, 1) := by decide +kernel
theorem dX6_push_84 : decode cX6_push 84 = .ok (.putfield 47, 3) := by decide +kernel
theorem dX6_push_87 : decode cX6_push 87 = .ok (.aload 5, 2) := by decide +kernel
theorem dX6_push_89 : decode cX6_push 89 = .ok (.iload_n 3, 1) := by decide +kernel
theorem dX6_push_90 : decode cX6_push 90 = .ok (.putfield 50, 3) := by decide +kernel
theorem dX6_push_93 : decode cX6_push 93 = .ok (.aload 5, 2) := by decide +kernel
theorem dX6_push_95 : decode cX6_push 95 = .ok (.lconst 0, 1) := by decide +kernel
theorem dX6_push_96 : decode cX6_push 96 = .ok (.putfield 53, 3) := by decide +kernel
theorem dX6_push_99 : decode cX6_push 99 = .ok (.aload 5, 2) := by decide +kernel
theorem dX6_push_101 : decode cX6_push 101 = .ok (.iconst 0, 1) := by decide +kernel
theorem dX6_push_102 : decode cX6_push 102 = .ok (.putfield 57, 3) := by decide +kernel
theorem dX6_push_105 : decode cX6_push 105 = .ok (.aload 5, 2) := by decide +kernel
theorem dX6_push_107 : decode cX6_push 107 = .ok (.iconst 0, 1) := by decide +kernel
theorem dX6_push_108 : decode cX6_push 108 = .ok (.putfield 61, 3) := by decide +kernel
theorem dX6_push_111 : decode cX6_push 111 = .ok (.aload 5, 2) := by decide +kernel
theorem dX6_push_113 : decode cX6_push 113 = .ok (.iconst 0, 1) := by decide +kernel
theorem dX6_push_114 : decode cX6_push 114 = .ok (.putfield 64, 3) := by decide +kernel
theorem dX6_push_117 : decode cX6_push 117 = .ok (.aload 5, 2) := by decide +kernel
theorem dX6_push_119 : decode cX6_push 119 = .ok (.iconst 0, 1) := by decide +kernel
theorem dX6_push_120 : decode cX6_push 120 = .ok (.putfield 67, 3) := by decide +kernel
theorem dX6_push_123 : decode cX6_push 123 = .ok (.aload 5, 2) := by decide +kernel
theorem dX6_push_125 : decode cX6_push 125 = .ok (.iconst (-1), 1) := by decide +kernel
theorem dX6_push_126 : decode cX6_push 126 = .ok (.putfield 70, 3) := by decide +kernel
theorem dX6_push_129 : decode cX6_push 129 = .ok (.aload 5, 2) := by decide +kernel
theorem dX6_push_131 : decode cX6_push 131 = .ok (.iconst (-1), 1) := by decide +kernel
theorem dX6_push_132 : decode cX6_push 132 = .ok (.putfield 73, 3) := by decide +kernel
theorem dX6_push_135 : decode cX6_push 135 = .ok (.aload 5, 2) := by decide +kernel
theorem dX6_push_137 : decode cX6_push 137 = .ok (.iconst (-1), 1) := by decide +kernel
theorem dX6_push_138 : decode cX6_push 138 = .ok (.putfield 76, 3) := by decide +kernel
theorem dX6_push_141 : decode cX6_push 141 = .ok (.aload 5, 2) := by decide +kernel
theorem dX6_push_143 : decode cX6_push 143 = .ok (.iconst 0, 1) := by decide +kernel
theorem dX6_push_144 : decode cX6_push 144 = .ok (.putfield 79, 3) := by decide +kernel
theorem dX6_push_147 : decode cX6_push 147 = .ok (.aload 5, 2) := by decide +kernel
theorem dX6_push_149 : decode cX6_push 149 = .ok (.aload_n 0, 1) := by decide +kernel
theorem dX6_push_150 : decode cX6_push 150 = .ok (.getfield 28, 3) := by decide +kernel
theorem dX6_push_153 : decode cX6_push 153 = .ok (.putfield 82, 3) := by decide +kernel
theorem dX6_push_156 : decode cX6_push 156 = .ok (.aload 5, 2) := by decide +kernel
theorem dX6_push_158 : decode cX6_push 158 = .ok (.areturn, 1) := by decide +kernel
theorem dX6_pop_0 : decode cX6_pop 0 = .ok (.aload_n 0, 1) := by decide +kernel
theorem dX6_pop_1 : decode cX6_pop 1 = .ok (.iconst 0, 1) := by decide +kernel
theorem dX6_pop_2 : decode cX6_pop 2 = .ok (.aload_n 0, 1) := by decide +kernel
theorem dX6_pop_3 : decode cX6_pop 3 = .ok (.getfield 21, 3) := by decide +kernel
theorem dX6_pop_6 : decode cX6_pop 6 = .ok (.iconst 1, 1) := by decide +kernel
theorem dX6_pop_7 : decode cX6_pop 7 = .ok (.isub, 1) := by decide +kernel
theorem dX6_pop_8 : decode cX6_pop 8 = .ok (.invokestatic 85, 3) := by decide +kernel
theorem dX6_pop_11 : decode cX6_pop 11 = .ok (.putfield 21, 3) := by decide +kernel
theorem dX6_pop_14 : decode cX6_pop 14 = .ok (.return_, 1) := by decide +kernel
theorem dX6_row_0 : decode cX6_row 0 = .ok (.iload_n 1, 1) := by decide +kernel
theorem dX6_row_1 : decode cX6_row 1 = .ok (.ifCond .lt 29, 3) := by decide +kernel
theorem dX6_row_4 : decode cX6_row 4 = .ok (.iload_n 1, 1) := by decide +kernel
theorem dX6_row_5 : decode cX6_row 5 = .ok (.aload_n 0, 1) := by decide +kernel
theorem dX6_row_6 : decode cX6_row 6 = .ok (.getfield 21, 3) := by decide +kernel
theorem dX6_row_9 : decode cX6_row 9 = .ok (.if_icmp .ge 21, 3) := by decide +kernel
theorem dX6_row_12 : decode cX6_row 12 = .ok (.iload_n 1, 1) := by decide +kernel
theorem dX6_row_13 : decode cX6_row 13 = .ok (.aload_n 0, 1) := by decide +kernel
theorem dX6_row_14 : decode cX6_row 14 = .ok (.getfield 11, 3) := by decide +kernel
theorem dX6_row_17 : decode cX6_row 17 = .ok (.arraylength, 1) := by decide +kernel
theorem dX6_row_18 : decode cX6_row 18 = .ok (.if_icmp .ge 12, 3) := by decide +kernel
theorem dX6_row_21 : decode cX6_row 21 = .ok (.aload_n 0, 1) := by decide +kernel
theorem dX6_row_22 : decode cX6_row 22 = .ok (.getfield 11, 3) := by decide +kernel
theorem dX6_row_25 : decode cX6_row 25 = .ok (.iload_n 1, 1) := by decide +kernel
theorem dX6_row_26 : decode cX6_row 26 = .ok (.aaload, 1) := by decide +kernel
theorem dX6_row_27 : decode cX6_row 27 = .ok (.goto 4, 3) := by decide +kernel
theorem dX6_row_31 : decode cX6_row 31 = .ok (.areturn, 1) := by decide +kernel
theorem dX7_init_0 : decode cX7_init 0 = .ok (.aload_n 0, 1) := by decide +kernel
theorem dX7_init_1 : decode cX7_init 1 = .ok (.aload_n 1, 1) := by decide +kernel
theorem dX7_init_2 : decode cX7_init 2 = .ok (.aload_n 2, 1) := by decide +kernel
theorem dX7_init_3 : decode cX7_init 3 = .ok (.aload_n 3, 1) := by decide +kernel
theorem dX7_init_4 : decode cX7_init 4 = .ok (.invokespecial 3, 3) := by decide +kernel
theorem dX7_init_7 : decode cX7_init 7 = .ok (.aload_n 0, 1) := by decide +kernel
theorem dX7_init_8 : decode cX7_init 8 = .ok (.new 9, 3) := by decide +kernel
theorem dX7_init_11 : decode cX7_init 11 = .ok (.dup, 1) := by decide +kernel
theorem dX7_init_12 : decode cX7_init 12 = .ok (.invokespecial 11, 3) := by decide +kernel
theorem dX7_init_15 : decode cX7_init 15 = .ok (.putfield 14, 3) := by decide +kernel
theorem dX7_init_18 : decode cX7_init 18 = .ok (.return_, 1) := by decide +kernel
theorem dX7_translate_0 : decode cX7_translate 0 = .ok (.aload_n 0, 1) := by decide +kernel
theorem dX7_translate_1 : decode cX7_translate 1 = .ok (.getfield 20, 3) := by decide +kernel
theorem dX7_translate_4 : decode cX7_translate 4 = .ok (.invokevirtual 24, 3) := by decide +kernel
theorem dX7_translate_7 : decode cX7_translate 7 = .ok (.aload_n 0, 1) := by decide +kernel
theorem dX7_translate_8 : decode cX7_translate 8 = .ok (.getfield 29, 3) := by decide +kernel
theorem dX7_translate_11 : decode cX7_translate 11 = .ok (.iconst 0, 1) := by decide +kernel
theorem dX7_translate_12 : decode cX7_translate 12 = .ok (.putfield 33, 3) := by decide +kernel
theorem dX7_translate_15 : decode cX7_translate 15 = .ok (.aload_n 0, 1) := by decide +kernel
theorem dX7_translate_16 : decode cX7_translate 16 = .ok (.getfield 29, 3) := by decide +kernel
theorem dX7_translate_19 : decode cX7_translate 19 = .ok (.ldc2_w 39, 3) := by decide +kernel
theorem dX7_translate_22 : decode cX7_translate 22 = .ok (.aload_n 0, 1) := by decide +kernel
theorem dX7_translate_23 : decode cX7_translate 23 = .ok (.getfield 20, 3) := by decide +kernel
theorem dX7_translate_26 : decode cX7_translate 26 = .ok (.iconst 1, 1) := by decide +kernel
theorem dX7_translate_27 : decode cX7_translate 27 = .ok (.invokevirtual 41, 3) := by decide +kernel
theorem dX7_translate_30 : decode cX7_translate 30 = .ok (.iconst (-1), 1) := by decide +kernel
theorem dX7_translate_31 : decode cX7_translate 31 = .ok (.invokevirtual 45, 3) := by decide +kernel
theorem dX7_translate_34 : decode cX7_translate 34 = .ok (.aload_n 0, 1) := by decide +kernel
theorem dX7_translate_35 : decode cX7_translate 35 = .ok (.getfield 29, 3) := by decide +kernel
theorem dX7_translate_38 : decode cX7_translate 38 = .ok (.ldc2_w 49, 3) := by decide +kernel
theorem dX7_translate_41 : decode cX7_translate 41 = .ok (.aload_n 0, 1) := by decide +kernel
theorem dX7_translate_42 : decode cX7_translate 42 = .ok (.getfield 20, 3) := by decide +kernel
theorem dX7_translate_45 : decode cX7_translate 45 = .ok (.iconst 1, 1) := by decide +kernel
theorem dX7_translate_46 : decode cX7_translate 46 = .ok (.invokevirtual 41, 3) := by decide +kernel
theorem dX7_translate_49 : decode cX7_translate 49 = .ok (.iconst (-1), 1) := by decide +kernel
theorem dX7_translate_50 : decode cX7_translate 50 = .ok (.invokevirtual 45, 3) := by decide +kernel
theorem dX7_translate_53 : decode cX7_translate 53 = .ok (.aload_n 0, 1) := by decide +kernel
theorem dX7_translate_54 : decode cX7_translate 54 = .ok (.getfield 14, 3) := by decide +kernel
theorem dX7_translate_57 : decode cX7_translate 57 = .ok (.invokevirtual 51, 3) := by decide +kernel
theorem dX7_translate_60 : decode cX7_translate 60 = .ok (.aload_n 0, 1) := by decide +kernel
theorem dX7_translate_61 : decode cX7_translate 61 = .ok (.iconst 0, 1) := by decide +kernel
theorem dX7_translate_62 : decode cX7_translate 62 = .ok (.putfield 52, 3) := by decide +kernel
theorem dX7_translate_65 : decode cX7_translate 65 = .ok (.aload_n 0, 1) := by decide +kernel
theorem dX7_translate_66 : decode cX7_translate 66 = .ok (.iconst 0, 1) := by decide +kernel
theorem dX7_translate_67 : decode cX7_translate 67 = .ok (.putfield 55, 3) := by decide +kernel
theorem dX7_translate_70 : decode cX7_translate 70 = .ok (.aload_n 0, 1) := by decide +kernel
theorem dX7_translate_71 : decode cX7_translate 71 = .ok (.iconst 0, 1) := by decide +kernel
theorem dX7_translate_72 : decode cX7_translate 72 = .ok (.putfield 58, 3) := by decide +kernel
theorem dX7_translate_75 : decode cX7_translate 75 = .ok (.aload_n 0, 1) := by decide +kernel
theorem dX7_translate_76 : decode cX7_translate 76 = .ok (.iconst 1, 1) := by decide +kernel
theorem dX7_translate_77 : decode cX7_translate 77 = .ok (.putfield 61, 3) := by decide +kernel
theorem dX7_translate_80 : decode cX7_translate 80 = .ok (.aload_n 0, 1) := by decide +kernel
theorem dX7_translate_81 : decode cX7_translate 81 = .ok (.iconst (-1), 1) := by decide +kernel
theorem dX7_translate_82 : decode cX7_translate 82 = .ok (.putfield 65, 3) := by decide +kernel
theorem dX7_translate_85 : decode cX7_translate 85 = .ok (.aload_n 0, 1) := by decide +kernel
theorem dX7_translate_86 : decode cX7_translate 86 = .ok (.iconst 0, 1) := by decide +kernel
theorem dX7_translate_87 : decode cX7_translate 87 = .ok (.putfield 68, 3) := by decide +kernel
theorem dX7_translate_90 : decode cX7_translate 90 = .ok (.aload_n 0, 1) := by decide +kernel
theorem dX7_translate_91 : decode cX7_translate 91 = .ok (.getfield 71, 3) := by decide +kernel
theorem dX7_translate_94 : decode cX7_translate 94 = .ok (.iload_n 1, 1) := by decide +kernel
theorem dX7_translate_95 : decode cX7_translate 95 = .ok (.invokevirtual 75, 3) := by decide +kernel
theorem dX7_translate_98 : decode cX7_translate 98 = .ok (.aload_n 0, 1) := by decide +kernel
theorem dX7_translate_99 : decode cX7_translate 99 = .ok (.getfield 14, 3) := by decide +kernel
theorem dX7_translate_102 : decode cX7_translate 102 = .ok (.sipush 300, 3) := by decide +kernel
theorem dX7_translate_105 : decode cX7_translate 105 = .ok (.iconst 0, 1) := by decide +kernel
theorem dX7_translate_106 : decode cX7_translate 106 = .ok (.aload_n 0, 1) := by decide +kernel
theorem dX7_translate_107 : decode cX7_translate 107 = .ok (.getfield 29, 3) := by decide +kernel
theorem dX7_translate_110 : decode cX7_translate 110 = .ok (.getfield 33, 3) := by decide +kernel
theorem dX7_translate_113 : decode cX7_translate 113 = .ok (.invokevirtual 81, 3) := by decide +kernel
theorem dX7_translate_116 : decode cX7_translate 116 = .ok (.pop, 1) := by decide +kernel
theorem dX7_translate_117 : decode cX7_translate 117 = .ok (.aload_n 0, 1) := by decide +kernel
theorem dX7_translate_118 : decode cX7_translate 118 = .ok (.iconst 0, 1) := by decide +kernel
theorem dX7_translate_119 : decode cX7_translate 119 = .ok (.invokevirtual 85, 3) := by decide +kernel
theorem dX7_translate_122 : decode cX7_translate 122 = .ok (.aload_n 0, 1) := by decide +kernel
theorem dX7_translate_123 : decode cX7_translate 123 = .ok (.getfield 65, 3) := by decide +kernel
theorem dX7_translate_126 : decode cX7_translate 126 = .ok (.ifCond .lt 13, 3) := by decide +kernel
theorem dX7_translate_139 : decode cX7_translate 139 = .ok (.aload_n 0, 1) := by decide +kernel
theorem dX7_translate_140 : decode cX7_translate 140 = .ok (.getfield 52, 3) := by decide +kernel
theorem dX7_translate_143 : decode cX7_translate 143 = .ok (.ireturn, 1) := by decide +kernel
theorem dX7_turns_0 : decode cX7_turns 0 = .ok (.iconst 0, 1) := by decide +kernel
theorem dX7_turns_1 : decode cX7_turns 1 = .ok (.istore_n 2, 1) := by decide +kernel
theorem dX7_turns_2 : decode cX7_turns 2 = .ok (.iload_n 2, 1) := by decide +kernel
theorem dX7_turns_3 : decode cX7_turns 3 = .ok (.sipush 10000, 3) := by decide +kernel
theorem dX7_turns_6 : decode cX7_turns 6 = .ok (.if_icmp .ge 158, 3) := by decide +kernel
theorem dX7_turns_9 : decode cX7_turns 9 = .ok (.aload_n 0, 1) := by decide +kernel
theorem dX7_turns_10 : decode cX7_turns 10 = .ok (.getfield 52, 3) := by decide +kernel
theorem dX7_turns_13 : decode cX7_turns 13 = .ok (.ifCond .ne 151, 3) := by decide +kernel
theorem dX7_turns_16 : decode cX7_turns 16 = .ok (.aload_n 0, 1) := by decide +kernel
