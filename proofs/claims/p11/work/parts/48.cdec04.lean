theorem dX3_leaveOne_80 : decode cX3_leaveOne 80 = .ok (.aload_n 1, 1) := by decide +kernel
theorem dX3_leaveOne_81 : decode cX3_leaveOne 81 = .ok (.invokevirtual 255, 3) := by decide +kernel
theorem dX3_leaveOne_84 : decode cX3_leaveOne 84 = .ok (.goto 39, 3) := by decide +kernel
theorem dX3_leaveOne_87 : decode cX3_leaveOne 87 = .ok (.aload_n 1, 1) := by decide +kernel
theorem dX3_leaveOne_88 : decode cX3_leaveOne 88 = .ok (.getfield 194, 3) := by decide +kernel
theorem dX3_leaveOne_91 : decode cX3_leaveOne 91 = .ok (.ifCond .ne 22, 3) := by decide +kernel
theorem dX3_leaveOne_94 : decode cX3_leaveOne 94 = .ok (.aload_n 0, 1) := by decide +kernel
theorem dX3_leaveOne_95 : decode cX3_leaveOne 95 = .ok (.dup, 1) := by decide +kernel
theorem dX3_leaveOne_96 : decode cX3_leaveOne 96 = .ok (.getfield 72, 3) := by decide +kernel
theorem dX3_leaveOne_99 : decode cX3_leaveOne 99 = .ok (.iconst 1, 1) := by decide +kernel
theorem dX3_leaveOne_100 : decode cX3_leaveOne 100 = .ok (.isub, 1) := by decide +kernel
theorem dX3_leaveOne_101 : decode cX3_leaveOne 101 = .ok (.putfield 72, 3) := by decide +kernel
theorem dX3_leaveOne_104 : decode cX3_leaveOne 104 = .ok (.aload_n 0, 1) := by decide +kernel
theorem dX3_leaveOne_105 : decode cX3_leaveOne 105 = .ok (.iconst 4, 1) := by decide +kernel
theorem dX3_leaveOne_106 : decode cX3_leaveOne 106 = .ok (.aload_n 1, 1) := by decide +kernel
theorem dX3_leaveOne_107 : decode cX3_leaveOne 107 = .ok (.getfield 197, 3) := by decide +kernel
theorem dX3_leaveOne_110 : decode cX3_leaveOne 110 = .ok (.invokevirtual 178, 3) := by decide +kernel
theorem dX3_leaveOne_113 : decode cX3_leaveOne 113 = .ok (.aload_n 0, 1) := by decide +kernel
theorem dX3_leaveOne_114 : decode cX3_leaveOne 114 = .ok (.dup, 1) := by decide +kernel
theorem dX3_leaveOne_115 : decode cX3_leaveOne 115 = .ok (.getfield 60, 3) := by decide +kernel
theorem dX3_leaveOne_118 : decode cX3_leaveOne 118 = .ok (.iconst 1, 1) := by decide +kernel
theorem dX3_leaveOne_119 : decode cX3_leaveOne 119 = .ok (.isub, 1) := by decide +kernel
theorem dX3_leaveOne_120 : decode cX3_leaveOne 120 = .ok (.putfield 60, 3) := by decide +kernel
theorem dX3_leaveOne_123 : decode cX3_leaveOne 123 = .ok (.return_, 1) := by decide +kernel
theorem dX3_arrive_0 : decode cX3_arrive 0 = .ok (.aload_n 0, 1) := by decide +kernel
theorem dX3_arrive_1 : decode cX3_arrive 1 = .ok (.getfield 75, 3) := by decide +kernel
theorem dX3_arrive_4 : decode cX3_arrive 4 = .ok (.iconst 3, 1) := by decide +kernel
theorem dX3_arrive_5 : decode cX3_arrive 5 = .ok (.if_icmp .ne 11, 3) := by decide +kernel
theorem dX3_arrive_8 : decode cX3_arrive 8 = .ok (.aload_n 0, 1) := by decide +kernel
theorem dX3_arrive_9 : decode cX3_arrive 9 = .ok (.iconst 1, 1) := by decide +kernel
theorem dX3_arrive_10 : decode cX3_arrive 10 = .ok (.putfield 85, 3) := by decide +kernel
theorem dX3_arrive_13 : decode cX3_arrive 13 = .ok (.goto 61, 3) := by decide +kernel
theorem dX3_arrive_16 : decode cX3_arrive 16 = .ok (.aload_n 0, 1) := by decide +kernel
theorem dX3_arrive_17 : decode cX3_arrive 17 = .ok (.getfield 75, 3) := by decide +kernel
theorem dX3_arrive_20 : decode cX3_arrive 20 = .ok (.iconst 4, 1) := by decide +kernel
theorem dX3_arrive_21 : decode cX3_arrive 21 = .ok (.if_icmp .ne 11, 3) := by decide +kernel
theorem dX3_arrive_24 : decode cX3_arrive 24 = .ok (.aload_n 0, 1) := by decide +kernel
theorem dX3_arrive_25 : decode cX3_arrive 25 = .ok (.iconst 2, 1) := by decide +kernel
theorem dX3_arrive_26 : decode cX3_arrive 26 = .ok (.putfield 85, 3) := by decide +kernel
theorem dX3_arrive_29 : decode cX3_arrive 29 = .ok (.goto 45, 3) := by decide +kernel
theorem dX3_arrive_32 : decode cX3_arrive 32 = .ok (.aload_n 0, 1) := by decide +kernel
theorem dX3_arrive_33 : decode cX3_arrive 33 = .ok (.getfield 75, 3) := by decide +kernel
theorem dX3_arrive_36 : decode cX3_arrive 36 = .ok (.iconst 2, 1) := by decide +kernel
theorem dX3_arrive_37 : decode cX3_arrive 37 = .ok (.if_icmp .ne 11, 3) := by decide +kernel
theorem dX3_arrive_40 : decode cX3_arrive 40 = .ok (.aload_n 0, 1) := by decide +kernel
theorem dX3_arrive_41 : decode cX3_arrive 41 = .ok (.aload_n 0, 1) := by decide +kernel
theorem dX3_arrive_42 : decode cX3_arrive 42 = .ok (.getfield 78, 3) := by decide +kernel
theorem dX3_arrive_45 : decode cX3_arrive 45 = .ok (.invokevirtual 135, 3) := by decide +kernel
theorem dX3_arrive_48 : decode cX3_arrive 48 = .ok (.aload_n 0, 1) := by decide +kernel
theorem dX3_arrive_49 : decode cX3_arrive 49 = .ok (.aload_n 0, 1) := by decide +kernel
theorem dX3_arrive_50 : decode cX3_arrive 50 = .ok (.getfield 40, 3) := by decide +kernel
theorem dX3_arrive_53 : decode cX3_arrive 53 = .ok (.getfield 153, 3) := by decide +kernel
theorem dX3_arrive_56 : decode cX3_arrive 56 = .ok (.aload_n 0, 1) := by decide +kernel
theorem dX3_arrive_57 : decode cX3_arrive 57 = .ok (.getfield 235, 3) := by decide +kernel
theorem dX3_arrive_60 : decode cX3_arrive 60 = .ok (.bipush 32, 2) := by decide +kernel
theorem dX3_arrive_62 : decode cX3_arrive 62 = .ok (.idiv, 1) := by decide +kernel
theorem dX3_arrive_63 : decode cX3_arrive 63 = .ok (.invokestatic 111, 3) := by decide +kernel
theorem dX3_arrive_66 : decode cX3_arrive 66 = .ok (.putfield 57, 3) := by decide +kernel
theorem dX3_arrive_69 : decode cX3_arrive 69 = .ok (.aload_n 0, 1) := by decide +kernel
theorem dX3_arrive_70 : decode cX3_arrive 70 = .ok (.iconst 0, 1) := by decide +kernel
theorem dX3_arrive_71 : decode cX3_arrive 71 = .ok (.putfield 75, 3) := by decide +kernel
theorem dX3_arrive_74 : decode cX3_arrive 74 = .ok (.return_, 1) := by decide +kernel
theorem dX3_leaveBody_0 : decode cX3_leaveBody 0 = .ok (.aload_n 0, 1) := by decide +kernel
theorem dX3_leaveBody_1 : decode cX3_leaveBody 1 = .ok (.getfield 63, 3) := by decide +kernel
theorem dX3_leaveBody_4 : decode cX3_leaveBody 4 = .ok (.iconst 1, 1) := by decide +kernel
theorem dX3_leaveBody_5 : decode cX3_leaveBody 5 = .ok (.isub, 1) := by decide +kernel
theorem dX3_leaveBody_6 : decode cX3_leaveBody 6 = .ok (.istore_n 2, 1) := by decide +kernel
theorem dX3_leaveBody_7 : decode cX3_leaveBody 7 = .ok (.iload_n 2, 1) := by decide +kernel
theorem dX3_leaveBody_8 : decode cX3_leaveBody 8 = .ok (.aload_n 1, 1) := by decide +kernel
theorem dX3_leaveBody_9 : decode cX3_leaveBody 9 = .ok (.getfield 201, 3) := by decide +kernel
theorem dX3_leaveBody_12 : decode cX3_leaveBody 12 = .ok (.if_icmp .lt 21, 3) := by decide +kernel
theorem dX3_leaveBody_15 : decode cX3_leaveBody 15 = .ok (.aload_n 0, 1) := by decide +kernel
theorem dX3_leaveBody_16 : decode cX3_leaveBody 16 = .ok (.aload_n 0, 1) := by decide +kernel
theorem dX3_leaveBody_17 : decode cX3_leaveBody 17 = .ok (.getfield 30, 3) := by decide +kernel
theorem dX3_leaveBody_20 : decode cX3_leaveBody 20 = .ok (.iload_n 2, 1) := by decide +kernel
theorem dX3_leaveBody_21 : decode cX3_leaveBody 21 = .ok (.invokestatic 111, 3) := by decide +kernel
theorem dX3_leaveBody_24 : decode cX3_leaveBody 24 = .ok (.invokevirtual 258, 3) := by decide +kernel
theorem dX3_leaveBody_27 : decode cX3_leaveBody 27 = .ok (.iinc 2 (-1), 3) := by decide +kernel
theorem dX3_leaveBody_30 : decode cX3_leaveBody 30 = .ok (.goto (-23), 3) := by decide +kernel
theorem dX3_leaveBody_33 : decode cX3_leaveBody 33 = .ok (.aload_n 0, 1) := by decide +kernel
theorem dX3_leaveBody_34 : decode cX3_leaveBody 34 = .ok (.aload_n 1, 1) := by decide +kernel
theorem dX3_leaveBody_35 : decode cX3_leaveBody 35 = .ok (.getfield 201, 3) := by decide +kernel
theorem dX3_leaveBody_38 : decode cX3_leaveBody 38 = .ok (.putfield 63, 3) := by decide +kernel
theorem dX3_leaveBody_41 : decode cX3_leaveBody 41 = .ok (.aload_n 1, 1) := by decide +kernel
theorem dX3_leaveBody_42 : decode cX3_leaveBody 42 = .ok (.iconst 2, 1) := by decide +kernel
theorem dX3_leaveBody_43 : decode cX3_leaveBody 43 = .ok (.putfield 194, 3) := by decide +kernel
theorem dX3_leaveBody_46 : decode cX3_leaveBody 46 = .ok (.aload_n 0, 1) := by decide +kernel
theorem dX3_leaveBody_47 : decode cX3_leaveBody 47 = .ok (.getfield 75, 3) := by decide +kernel
theorem dX3_leaveBody_50 : decode cX3_leaveBody 50 = .ok (.iconst 4, 1) := by decide +kernel
theorem dX3_leaveBody_51 : decode cX3_leaveBody 51 = .ok (.if_icmp .ne 20, 3) := by decide +kernel
theorem dX3_leaveBody_54 : decode cX3_leaveBody 54 = .ok (.aload_n 1, 1) := by decide +kernel
theorem dX3_leaveBody_55 : decode cX3_leaveBody 55 = .ok (.aload_n 0, 1) := by decide +kernel
theorem dX3_leaveBody_56 : decode cX3_leaveBody 56 = .ok (.getfield 81, 3) := by decide +kernel
theorem dX3_leaveBody_59 : decode cX3_leaveBody 59 = .ok (.putfield 204, 3) := by decide +kernel
theorem dX3_leaveBody_62 : decode cX3_leaveBody 62 = .ok (.aload_n 0, 1) := by decide +kernel
theorem dX3_leaveBody_63 : decode cX3_leaveBody 63 = .ok (.aload_n 1, 1) := by decide +kernel
theorem dX3_leaveBody_64 : decode cX3_leaveBody 64 = .ok (.aload_n 1, 1) := by decide +kernel
theorem dX3_leaveBody_65 : decode cX3_leaveBody 65 = .ok (.getfield 197, 3) := by decide +kernel
theorem dX3_leaveBody_68 : decode cX3_leaveBody 68 = .ok (.invokevirtual 261, 3) := by decide +kernel
theorem dX3_leaveBody_71 : decode cX3_leaveBody 71 = .ok (.return_, 1) := by decide +kernel
theorem dX3_closeOne_0 : decode cX3_closeOne 0 = .ok (.aload_n 0, 1) := by decide +kernel
theorem dX3_closeOne_1 : decode cX3_closeOne 1 = .ok (.getfield 36, 3) := by decide +kernel
theorem dX3_closeOne_4 : decode cX3_closeOne 4 = .ok (.getfield 265, 3) := by decide +kernel
theorem dX3_closeOne_7 : decode cX3_closeOne 7 = .ok (.iload_n 1, 1) := by decide +kernel
theorem dX3_closeOne_8 : decode cX3_closeOne 8 = .ok (.invokestatic 111, 3) := by decide +kernel
theorem dX3_closeOne_11 : decode cX3_closeOne 11 = .ok (.istore_n 2, 1) := by decide +kernel
theorem dX3_closeOne_12 : decode cX3_closeOne 12 = .ok (.aload_n 0, 1) := by decide +kernel
theorem dX3_closeOne_13 : decode cX3_closeOne 13 = .ok (.iconst 2, 1) := by decide +kernel
theorem dX3_closeOne_14 : decode cX3_closeOne 14 = .ok (.iload_n 1, 1) := by decide +kernel
theorem dX3_closeOne_15 : decode cX3_closeOne 15 = .ok (.invokevirtual 178, 3) := by decide +kernel
theorem dX3_closeOne_18 : decode cX3_closeOne 18 = .ok (.iload_n 2, 1) := by decide +kernel
theorem dX3_closeOne_19 : decode cX3_closeOne 19 = .ok (.ifCond .ge 4, 3) := by decide +kernel
theorem dX3_closeOne_22 : decode cX3_closeOne 22 = .ok (.return_, 1) := by decide +kernel
theorem dX3_closeOne_23 : decode cX3_closeOne 23 = .ok (.aload_n 0, 1) := by decide +kernel
theorem dX3_closeOne_24 : decode cX3_closeOne 24 = .ok (.getfield 75, 3) := by decide +kernel
theorem dX3_closeOne_27 : decode cX3_closeOne 27 = .ok (.iconst 4, 1) := by decide +kernel
theorem dX3_closeOne_28 : decode cX3_closeOne 28 = .ok (.if_icmp .ne 22, 3) := by decide +kernel
theorem dX3_closeOne_31 : decode cX3_closeOne 31 = .ok (.aload_n 0, 1) := by decide +kernel
theorem dX3_closeOne_32 : decode cX3_closeOne 32 = .ok (.getfield 81, 3) := by decide +kernel
theorem dX3_closeOne_35 : decode cX3_closeOne 35 = .ok (.ifnull 15, 3) := by decide +kernel
theorem dX3_closeOne_38 : decode cX3_closeOne 38 = .ok (.aload_n 0, 1) := by decide +kernel
theorem dX3_closeOne_39 : decode cX3_closeOne 39 = .ok (.getfield 81, 3) := by decide +kernel
theorem dX3_closeOne_42 : decode cX3_closeOne 42 = .ok (.iload_n 2, 1) := by decide +kernel
theorem dX3_closeOne_43 : decode cX3_closeOne 43 = .ok (.iload_n 1, 1) := by decide +kernel
theorem dX3_closeOne_44 : decode cX3_closeOne 44 = .ok (.invokevirtual 268, 3) := by decide +kernel
theorem dX3_closeOne_47 : decode cX3_closeOne 47 = .ok (.goto 9, 3) := by decide +kernel
theorem dX3_closeOne_50 : decode cX3_closeOne 50 = .ok (.aload_n 0, 1) := by decide +kernel
theorem dX3_closeOne_51 : decode cX3_closeOne 51 = .ok (.iload_n 2, 1) := by decide +kernel
theorem dX3_closeOne_52 : decode cX3_closeOne 52 = .ok (.iload_n 1, 1) := by decide +kernel
theorem dX3_closeOne_53 : decode cX3_closeOne 53 = .ok (.invokevirtual 150, 3) := by decide +kernel
theorem dX3_closeOne_56 : decode cX3_closeOne 56 = .ok (.return_, 1) := by decide +kernel
theorem dX3_enterFinally_0 : decode cX3_enterFinally 0 = .ok (.aload_n 1, 1) := by decide +kernel
theorem dX3_enterFinally_1 : decode cX3_enterFinally 1 = .ok (.iconst 3, 1) := by decide +kernel
theorem dX3_enterFinally_2 : decode cX3_enterFinally 2 = .ok (.putfield 194, 3) := by decide +kernel
theorem dX3_enterFinally_5 : decode cX3_enterFinally 5 = .ok (.aload_n 1, 1) := by decide +kernel
theorem dX3_enterFinally_6 : decode cX3_enterFinally 6 = .ok (.aload_n 0, 1) := by decide +kernel
theorem dX3_enterFinally_7 : decode cX3_enterFinally 7 = .ok (.getfield 81, 3) := by decide +kernel
theorem dX3_enterFinally_10 : decode cX3_enterFinally 10 = .ok (.putfield 204, 3) := by decide +kernel
theorem dX3_enterFinally_13 : decode cX3_enterFinally 13 = .ok (.aload_n 1, 1) := by decide +kernel
theorem dX3_enterFinally_14 : decode cX3_enterFinally 14 = .ok (.aload_n 0, 1) := by decide +kernel
theorem dX3_enterFinally_15 : decode cX3_enterFinally 15 = .ok (.getfield 75, 3) := by decide +kernel
theorem dX3_enterFinally_18 : decode cX3_enterFinally 18 = .ok (.putfield 246, 3) := by decide +kernel
theorem dX3_enterFinally_21 : decode cX3_enterFinally 21 = .ok (.aload_n 1, 1) := by decide +kernel
theorem dX3_enterFinally_22 : decode cX3_enterFinally 22 = .ok (.aload_n 0, 1) := by decide +kernel
theorem dX3_enterFinally_23 : decode cX3_enterFinally 23 = .ok (.getfield 78, 3) := by decide +kernel
theorem dX3_enterFinally_26 : decode cX3_enterFinally 26 = .ok (.putfield 247, 3) := by decide +kernel
theorem dX3_enterFinally_29 : decode cX3_enterFinally 29 = .ok (.aload_n 1, 1) := by decide +kernel
theorem dX3_enterFinally_30 : decode cX3_enterFinally 30 = .ok (.aload_n 0, 1) := by decide +kernel
theorem dX3_enterFinally_31 : decode cX3_enterFinally 31 = .ok (.getfield 235, 3) := by decide +kernel
theorem dX3_enterFinally_34 : decode cX3_enterFinally 34 = .ok (.putfield 248, 3) := by decide +kernel
theorem dX3_enterFinally_37 : decode cX3_enterFinally 37 = .ok (.aload_n 0, 1) := by decide +kernel
theorem dX3_enterFinally_38 : decode cX3_enterFinally 38 = .ok (.aload_n 1, 1) := by decide +kernel
theorem dX3_enterFinally_39 : decode cX3_enterFinally 39 = .ok (.aload_n 1, 1) := by decide +kernel
theorem dX3_enterFinally_40 : decode cX3_enterFinally 40 = .ok (.getfield 197, 3) := by decide +kernel
theorem dX3_enterFinally_43 : decode cX3_enterFinally 43 = .ok (.iconst 1, 1) := by decide +kernel
theorem dX3_enterFinally_44 : decode cX3_enterFinally 44 = .ok (.iadd, 1) := by decide +kernel
theorem dX3_enterFinally_45 : decode cX3_enterFinally 45 = .ok (.invokevirtual 261, 3) := by decide +kernel
theorem dX3_enterFinally_48 : decode cX3_enterFinally 48 = .ok (.return_, 1) := by decide +kernel
theorem dX3_begin_0 : decode cX3_begin 0 = .ok (.aload_n 0, 1) := by decide +kernel
theorem dX3_begin_1 : decode cX3_begin 1 = .ok (.aload_n 1, 1) := by decide +kernel
theorem dX3_begin_2 : decode cX3_begin 2 = .ok (.getfield 200, 3) := by decide +kernel
theorem dX3_begin_5 : decode cX3_begin 5 = .ok (.putfield 54, 3) := by decide +kernel
theorem dX3_begin_8 : decode cX3_begin 8 = .ok (.aload_n 0, 1) := by decide +kernel
theorem dX3_begin_9 : decode cX3_begin 9 = .ok (.aload_n 0, 1) := by decide +kernel
theorem dX3_begin_10 : decode cX3_begin 10 = .ok (.getfield 40, 3) := by decide +kernel
theorem dX3_begin_13 : decode cX3_begin 13 = .ok (.getfield 153, 3) := by decide +kernel
theorem dX3_begin_16 : decode cX3_begin 16 = .ok (.iload_n 2, 1) := by decide +kernel
theorem dX3_begin_17 : decode cX3_begin 17 = .ok (.invokestatic 111, 3) := by decide +kernel
theorem dX3_begin_20 : decode cX3_begin 20 = .ok (.putfield 57, 3) := by decide +kernel
theorem dX3_begin_23 : decode cX3_begin 23 = .ok (.aload_n 0, 1) := by decide +kernel
theorem dX3_begin_24 : decode cX3_begin 24 = .ok (.iconst 0, 1) := by decide +kernel
theorem dX3_begin_25 : decode cX3_begin 25 = .ok (.putfield 75, 3) := by decide +kernel
theorem dX3_begin_28 : decode cX3_begin 28 = .ok (.return_, 1) := by decide +kernel
theorem dX4_find_0 : decode cX4_find 0 = .ok (.iconst 0, 1) := by decide +kernel
theorem dX4_find_1 : decode cX4_find 1 = .ok (.istore_n 3, 1) := by decide +kernel
theorem dX4_find_2 : decode cX4_find 2 = .ok (.iload_n 3, 1) := by decide +kernel
theorem dX4_find_3 : decode cX4_find 3 = .ok (.aload_n 0, 1) := by decide +kernel
theorem dX4_find_4 : decode cX4_find 4 = .ok (.getfield 20, 3) := by decide +kernel
theorem dX4_find_7 : decode cX4_find 7 = .ok (.if_icmp .ge 31, 3) := by decide +kernel
theorem dX4_find_10 : decode cX4_find 10 = .ok (.iload_n 3, 1) := by decide +kernel
theorem dX4_find_11 : decode cX4_find 11 = .ok (.aload_n 0, 1) := by decide +kernel
theorem dX4_find_12 : decode cX4_find 12 = .ok (.getfield 7, 3) := by decide +kernel
theorem dX4_find_15 : decode cX4_find 15 = .ok (.arraylength, 1) := by decide +kernel
theorem dX4_find_16 : decode cX4_find 16 = .ok (.if_icmp .ge 22, 3) := by decide +kernel
theorem dX4_find_19 : decode cX4_find 19 = .ok (.aload_n 0, 1) := by decide +kernel
theorem dX4_find_20 : decode cX4_find 20 = .ok (.getfield 7, 3) := by decide +kernel
theorem dX4_find_23 : decode cX4_find 23 = .ok (.iload_n 3, 1) := by decide +kernel
theorem dX4_find_24 : decode cX4_find 24 = .ok (.laload, 1) := by decide +kernel
theorem dX4_find_25 : decode cX4_find 25 = .ok (.lload_n 1, 1) := by decide +kernel
theorem dX4_find_26 : decode cX4_find 26 = .ok (.lcmp, 1) := by decide +kernel
theorem dX4_find_27 : decode cX4_find 27 = .ok (.ifCond .ne 5, 3) := by decide +kernel
theorem dX4_find_30 : decode cX4_find 30 = .ok (.iload_n 3, 1) := by decide +kernel
theorem dX4_find_31 : decode cX4_find 31 = .ok (.ireturn, 1) := by decide +kernel
theorem dX4_find_32 : decode cX4_find 32 = .ok (.iinc 3 1, 3) := by decide +kernel
theorem dX4_find_35 : decode cX4_find 35 = .ok (.goto (-33), 3) := by decide +kernel
theorem dX4_find_38 : decode cX4_find 38 = .ok (.iconst (-1), 1) := by decide +kernel
theorem dX4_find_39 : decode cX4_find 39 = .ok (.ireturn, 1) := by decide +kernel
theorem dX4_add_0 : decode cX4_add 0 = .ok (.aload_n 0, 1) := by decide +kernel
theorem dX4_add_1 : decode cX4_add 1 = .ok (.getfield 20, 3) := by decide +kernel
theorem dX4_add_4 : decode cX4_add 4 = .ok (.aload_n 0, 1) := by decide +kernel
theorem dX4_add_5 : decode cX4_add 5 = .ok (.getfield 7, 3) := by decide +kernel
theorem dX4_add_8 : decode cX4_add 8 = .ok (.arraylength, 1) := by decide +kernel
theorem dX4_add_9 : decode cX4_add 9 = .ok (.if_icmp .ge 44, 3) := by decide +kernel
theorem dX4_add_12 : decode cX4_add 12 = .ok (.aload_n 0, 1) := by decide +kernel
theorem dX4_add_13 : decode cX4_add 13 = .ok (.getfield 7, 3) := by decide +kernel
theorem dX4_add_16 : decode cX4_add 16 = .ok (.aload_n 0, 1) := by decide +kernel
theorem dX4_add_17 : decode cX4_add 17 = .ok (.getfield 20, 3) := by decide +kernel
theorem dX4_add_20 : decode cX4_add 20 = .ok (.lload_n 1, 1) := by decide +kernel
theorem dX4_add_21 : decode cX4_add 21 = .ok (.lastore, 1) := by decide +kernel
theorem dX4_add_22 : decode cX4_add 22 = .ok (.aload_n 0, 1) := by decide +kernel
theorem dX4_add_23 : decode cX4_add 23 = .ok (.getfield 13, 3) := by decide +kernel
theorem dX4_add_26 : decode cX4_add 26 = .ok (.aload_n 0, 1) := by decide +kernel
theorem dX4_add_27 : decode cX4_add 27 = .ok (.getfield 20, 3) := by decide +kernel
theorem dX4_add_30 : decode cX4_add 30 = .ok (.iload_n 3, 1) := by decide +kernel
theorem dX4_add_31 : decode cX4_add 31 = .ok (.iastore, 1) := by decide +kernel
theorem dX4_add_32 : decode cX4_add 32 = .ok (.aload_n 0, 1) := by decide +kernel
theorem dX4_add_33 : decode cX4_add 33 = .ok (.getfield 17, 3) := by decide +kernel
theorem dX4_add_36 : decode cX4_add 36 = .ok (.aload_n 0, 1) := by decide +kernel
theorem dX4_add_37 : decode cX4_add 37 = .ok (.getfield 20, 3) := by decide +kernel
theorem dX4_add_40 : decode cX4_add 40 = .ok (.iload 4, 2) := by decide +kernel
theorem dX4_add_42 : decode cX4_add 42 = .ok (.iastore, 1) := by decide +kernel
theorem dX4_add_43 : decode cX4_add 43 = .ok (.aload_n 0, 1) := by decide +kernel
theorem dX4_add_44 : decode cX4_add 44 = .ok (.dup, 1) := by decide +kernel
theorem dX4_add_45 : decode cX4_add 45 = .ok (.getfield 20, 3) := by decide +kernel
theorem dX4_add_48 : decode cX4_add 48 = .ok (.iconst 1, 1) := by decide +kernel
theorem dX4_add_49 : decode cX4_add 49 = .ok (.iadd, 1) := by decide +kernel
theorem dX4_add_50 : decode cX4_add 50 = .ok (.putfield 20, 3) := by decide +kernel
theorem dX4_add_53 : decode cX4_add 53 = .ok (.return_, 1) := by decide +kernel
theorem dX4_cellOf_0 : decode cX4_cellOf 0 = .ok (.aload_n 0, 1) := by decide +kernel
theorem dX4_cellOf_1 : decode cX4_cellOf 1 = .ok (.getfield 13, 3) := by decide +kernel
theorem dX4_cellOf_4 : decode cX4_cellOf 4 = .ok (.iload_n 1, 1) := by decide +kernel
theorem dX4_cellOf_5 : decode cX4_cellOf 5 = .ok (.invokestatic 24, 3) := by decide +kernel
theorem dX4_cellOf_8 : decode cX4_cellOf 8 = .ok (.ireturn, 1) := by decide +kernel
theorem dX4_frameOf_0 : decode cX4_frameOf 0 = .ok (.aload_n 0, 1) := by decide +kernel
theorem dX4_frameOf_1 : decode cX4_frameOf 1 = .ok (.getfield 17, 3) := by decide +kernel
theorem dX4_frameOf_4 : decode cX4_frameOf 4 = .ok (.iload_n 1, 1) := by decide +kernel
theorem dX4_frameOf_5 : decode cX4_frameOf 5 = .ok (.invokestatic 24, 3) := by decide +kernel
theorem dX4_frameOf_8 : decode cX4_frameOf 8 = .ok (.ireturn, 1) := by decide +kernel
theorem dX4_isCaught_0 : decode cX4_isCaught 0 = .ok (.aload_n 0, 1) := by decide +kernel
theorem dX4_isCaught_1 : decode cX4_isCaught 1 = .ok (.getfield 17, 3) := by decide +kernel
theorem dX4_isCaught_4 : decode cX4_isCaught 4 = .ok (.iload_n 1, 1) := by decide +kernel
theorem dX4_isCaught_5 : decode cX4_isCaught 5 = .ok (.invokestatic 24, 3) := by decide +kernel
theorem dX4_isCaught_8 : decode cX4_isCaught 8 = .ok (.ifCond .lt 7, 3) := by decide +kernel
theorem dX4_isCaught_11 : decode cX4_isCaught 11 = .ok (.iconst 1, 1) := by decide +kernel
theorem dX4_isCaught_12 : decode cX4_isCaught 12 = .ok (.goto 4, 3) := by decide +kernel
theorem dX4_isCaught_15 : decode cX4_isCaught 15 = .ok (.iconst 0, 1) := by decide +kernel
theorem dX4_isCaught_16 : decode cX4_isCaught 16 = .ok (.ireturn, 1) := by decide +kernel
theorem dX5_init_0 : decode cX5_init 0 = .ok (.aload_n 0, 1) := by decide +kernel
theorem dX5_init_1 : decode cX5_init 1 = .ok (.invokespecial 3, 3) := by decide +kernel
theorem dX5_init_4 : decode cX5_init 4 = .ok (.return_, 1) := by decide +kernel
theorem dX5_isLoop_0 : decode cX5_isLoop 0 = .ok (.aload_n 0, 1) := by decide +kernel
theorem dX5_isLoop_1 : decode cX5_isLoop 1 = .ok (.getfield 9, 3) := by decide +kernel
theorem dX5_isLoop_4 : decode cX5_isLoop 4 = .ok (.sipush 205, 3) := by decide +kernel
theorem dX5_isLoop_7 : decode cX5_isLoop 7 = .ok (.if_icmp .eq 33, 3) := by decide +kernel
theorem dX5_isLoop_10 : decode cX5_isLoop 10 = .ok (.aload_n 0, 1) := by decide +kernel
theorem dX5_isLoop_11 : decode cX5_isLoop 11 = .ok (.getfield 9, 3) := by decide +kernel
theorem dX5_isLoop_14 : decode cX5_isLoop 14 = .ok (.sipush 206, 3) := by decide +kernel
theorem dX5_isLoop_17 : decode cX5_isLoop 17 = .ok (.if_icmp .eq 23, 3) := by decide +kernel
theorem dX5_isLoop_20 : decode cX5_isLoop 20 = .ok (.aload_n 0, 1) := by decide +kernel
theorem dX5_isLoop_21 : decode cX5_isLoop 21 = .ok (.getfield 9, 3) := by decide +kernel
theorem dX5_isLoop_24 : decode cX5_isLoop 24 = .ok (.sipush 207, 3) := by decide +kernel
theorem dX5_isLoop_27 : decode cX5_isLoop 27 = .ok (.if_icmp .eq 13, 3) := by decide +kernel
theorem dX5_isLoop_30 : decode cX5_isLoop 30 = .ok (.aload_n 0, 1) := by decide +kernel
theorem dX5_isLoop_31 : decode cX5_isLoop 31 = .ok (.getfield 9, 3) := by decide +kernel
theorem dX5_isLoop_34 : decode cX5_isLoop 34 = .ok (.sipush 304, 3) := by decide +kernel
theorem dX5_isLoop_37 : decode cX5_isLoop 37 = .ok (.if_icmp .ne 7, 3) := by decide +kernel
theorem dX5_isLoop_40 : decode cX5_isLoop 40 = .ok (.iconst 1, 1) := by decide +kernel
theorem dX5_isLoop_41 : decode cX5_isLoop 41 = .ok (.goto 4, 3) := by decide +kernel
theorem dX5_isLoop_44 : decode cX5_isLoop 44 = .ok (.iconst 0, 1) := by decide +kernel
theorem dX5_isLoop_45 : decode cX5_isLoop 45 = .ok (.ireturn, 1) := by decide +kernel
theorem dX5_hasOneBody_0 : decode cX5_hasOneBody 0 = .ok (.aload_n 0, 1) := by decide +kernel
theorem dX5_hasOneBody_1 : decode cX5_hasOneBody 1 = .ok (.invokevirtual 15, 3) := by decide +kernel
theorem dX5_hasOneBody_4 : decode cX5_hasOneBody 4 = .ok (.ifCond .ne 33, 3) := by decide +kernel
theorem dX5_hasOneBody_7 : decode cX5_hasOneBody 7 = .ok (.aload_n 0, 1) := by decide +kernel
theorem dX5_hasOneBody_8 : decode cX5_hasOneBody 8 = .ok (.getfield 9, 3) := by decide +kernel
theorem dX5_hasOneBody_11 : decode cX5_hasOneBody 11 = .ok (.sipush 303, 3) := by decide +kernel
theorem dX5_hasOneBody_14 : decode cX5_hasOneBody 14 = .ok (.if_icmp .eq 23, 3) := by decide +kernel
theorem dX5_hasOneBody_17 : decode cX5_hasOneBody 17 = .ok (.aload_n 0, 1) := by decide +kernel
theorem dX5_hasOneBody_18 : decode cX5_hasOneBody 18 = .ok (.getfield 9, 3) := by decide +kernel
theorem dX5_hasOneBody_21 : decode cX5_hasOneBody 21 = .ok (.sipush 203, 3) := by decide +kernel
theorem dX5_hasOneBody_24 : decode cX5_hasOneBody 24 = .ok (.if_icmp .eq 13, 3) := by decide +kernel
theorem dX5_hasOneBody_27 : decode cX5_hasOneBody 27 = .ok (.aload_n 0, 1) := by decide +kernel
theorem dX5_hasOneBody_28 : decode cX5_hasOneBody 28 = .ok (.getfield 9, 3) := by decide +kernel
theorem dX5_hasOneBody_31 : decode cX5_hasOneBody 31 = .ok (.sipush 204, 3) := by decide +kernel
theorem dX5_hasOneBody_34 : decode cX5_hasOneBody 34 = .ok (.if_icmp .ne 7, 3) := by decide +kernel
theorem dX5_hasOneBody_37 : decode cX5_hasOneBody 37 = .ok (.iconst 1, 1) := by decide +kernel
theorem dX5_hasOneBody_38 : decode cX5_hasOneBody 38 = .ok (.goto 4, 3) := by decide +kernel
theorem dX5_hasOneBody_41 : decode cX5_hasOneBody 41 = .ok (.iconst 0, 1) := by decide +kernel
theorem dX5_hasOneBody_42 : decode cX5_hasOneBody 42 = .ok (.ireturn, 1) := by decide +kernel
theorem dX6_clear_0 : decode cX6_clear 0 = .ok (.aload_n 0, 1) := by decide +kernel
theorem dX6_clear_1 : decode cX6_clear 1 = .ok (.iconst 0, 1) := by decide +kernel
theorem dX6_clear_2 : decode cX6_clear 2 = .ok (.putfield 21, 3) := by decide +kernel
theorem dX6_clear_5 : decode cX6_clear 5 = .ok (.aload_n 0, 1) := by decide +kernel
theorem dX6_clear_6 : decode cX6_clear 6 = .ok (.iconst 0, 1) := by decide +kernel
theorem dX6_clear_7 : decode cX6_clear 7 = .ok (.putfield 25, 3) := by decide +kernel
theorem dX6_clear_10 : decode cX6_clear 10 = .ok (.aload_n 0, 1) := by decide +kernel
theorem dX6_clear_11 : decode cX6_clear 11 = .ok (.iconst 0, 1) := by decide +kernel
theorem dX6_clear_12 : decode cX6_clear 12 = .ok (.putfield 28, 3) := by decide +kernel
theorem dX6_clear_15 : decode cX6_clear 15 = .ok (.aload_n 0, 1) := by decide +kernel
theorem dX6_clear_16 : decode cX6_clear 16 = .ok (.iconst (-1), 1) := by decide +kernel
theorem dX6_clear_17 : decode cX6_clear 17 = .ok (.putfield 31, 3) := by decide +kernel
theorem dX6_clear_20 : decode cX6_clear 20 = .ok (.return_, 1) := by decide +kernel
theorem dX6_push_0 : decode cX6_push 0 = .ok (.aload_n 0, 1) := by decide +kernel
theorem dX6_push_1 : decode cX6_push 1 = .ok (.getfield 21, 3) := by decide +kernel
theorem dX6_push_4 : decode cX6_push 4 = .ok (.aload_n 0, 1) := by decide +kernel
theorem dX6_push_5 : decode cX6_push 5 = .ok (.getfield 11, 3) := by decide +kernel
theorem dX6_push_8 : decode cX6_push 8 = .ok (.arraylength, 1) := by decide +kernel
theorem dX6_push_9 : decode cX6_push 9 = .ok (.iconst 1, 1) := by decide +kernel
theorem dX6_push_10 : decode cX6_push 10 = .ok (.isub, 1) := by decide +kernel
theorem dX6_push_11 : decode cX6_push 11 = .ok (.invokestatic 34, 3) := by decide +kernel
theorem dX6_push_14 : decode cX6_push 14 = .ok (.istore 4, 2) := by decide +kernel
theorem dX6_push_16 : decode cX6_push 16 = .ok (.aload_n 0, 1) := by decide +kernel
theorem dX6_push_17 : decode cX6_push 17 = .ok (.getfield 11, 3) := by decide +kernel
theorem dX6_push_20 : decode cX6_push 20 = .ok (.iload 4, 2) := by decide +kernel
theorem dX6_push_22 : decode cX6_push 22 = .ok (.aaload, 1) := by decide +kernel
theorem dX6_push_23 : decode cX6_push 23 = .ok (.astore 5, 2) := by decide +kernel
theorem dX6_push_25 : decode cX6_push 25 = .ok (.aload 5, 2) := by decide +kernel
theorem dX6_push_27 : decode cX6_push 27 = .ok (.ifnonnull 21, 3) := by decide +kernel
theorem dX6_push_30 : decode cX6_push 30 = .ok (.new 9, 3) := by decide +kernel
theorem dX6_push_33 : decode cX6_push 33 = .ok (.dup, 1) := by decide +kernel
theorem dX6_push_34 : decode cX6_push 34 = .ok (.invokespecial 40, 3) := by decide +kernel
theorem dX6_push_37 : decode cX6_push 37 = .ok (.astore 5, 2) := by decide +kernel
theorem dX6_push_39 : decode cX6_push 39 = .ok (.aload_n 0, 1) := by decide +kernel
theorem dX6_push_40 : decode cX6_push 40 = .ok (.getfield 11, 3) := by decide +kernel
theorem dX6_push_43 : decode cX6_push 43 = .ok (.iload 4, 2) := by decide +kernel
theorem dX6_push_45 : decode cX6_push 45 = .ok (.aload 5, 2) := by decide +kernel
theorem dX6_push_47 : decode cX6_push 47 = .ok (.aastore, 1) := by decide +kernel
theorem dX6_push_48 : decode cX6_push 48 = .ok (.aload_n 0, 1) := by decide +kernel
theorem dX6_push_49 : decode cX6_push 49 = .ok (.iload 4, 2) := by decide +kernel
theorem dX6_push_51 : decode cX6_push 51 = .ok (.iconst 1, 1) := by decide +kernel
theorem dX6_push_52 : decode cX6_push 52 = .ok (.iadd, 1) := by decide +kernel
theorem dX6_push_53 : decode cX6_push 53 = .ok (.putfield 21, 3) := by decide +kernel
theorem dX6_push_56 : decode cX6_push 56 = .ok (.aload_n 0, 1) := by decide +kernel
theorem dX6_push_57 : decode cX6_push 57 = .ok (.dup, 1) := by decide +kernel
theorem dX6_push_58 : decode cX6_push 58 = .ok (.getfield 25, 3) := by decide +kernel
theorem dX6_push_61 : decode cX6_push 61 = .ok (.iconst 1, 1) := by decide +kernel
theorem dX6_push_62 : decode cX6_push 62 = .ok (.iadd, 1) := by decide +kernel
theorem dX6_push_63 : decode cX6_push 63 = .ok (.putfield 25, 3) := by decide +kernel
theorem dX6_push_66 : decode cX6_push 66 = .ok (.aload 5, 2) := by decide +kernel
theorem dX6_push_68 : decode cX6_push 68 = .ok (.iload_n 1, 1) := by decide +kernel
theorem dX6_push_69 : decode cX6_push 69 = .ok (.putfield 41, 3) := by decide +kernel
theorem dX6_push_72 : decode cX6_push 72 = .ok (.aload 5, 2) := by decide +kernel
theorem dX6_push_74 : decode cX6_push 74 = .ok (.aload_n 0, 1) := by decide +kernel
theorem dX6_push_75 : decode cX6_push 75 = .ok (.getfield 25, 3) := by decide +kernel
theorem dX6_push_78 : decode cX6_push 78 = .ok (.putfield 44, 3) := by decide +kernel
theorem dX6_push_81 : decode cX6_push 81 = .ok (.aload 5, 2) := by decide +kernel
theorem dX6_push_83 : decode cX6_push 83 = .ok (.iload_n 2, 1) := by decide +kernel
theorem dX6_push_84 : decode cX6_push 84 = .ok (.putfield 47, 3) := by decide +kernel
theorem dX6_push_87 : decode cX6_push 87 = .ok (.aload 5, 2) := by decide +kernel
theorem dX6_push_89 : decode cX6_push 89 = .ok (.iload_n 3, 1) := by decide +kernel
theorem dX6_push_90 : decode cX6_push 90 = .ok (.putfield 50, 3) := by decide +kernel
theorem dX6_push_93 : decode cX6_push 93 = .ok (.aload 5, 2) := by decide +kernel
theorem dX6_push_95 : decode cX6_push 95 = .ok (.lconst 0, 1) := by decide +kernel
theorem dX6_push_96 : decode cX6_push 96 = .ok (.putfield 53, 3) := by decide +kernel
theorem dX6_push_99 : decode cX6_push 99 = .ok (.aload 5, 2) := by decide +kernel
theorem dX6_push_101 : decode cX6_push 101 = .ok (.iconst 0, 1) := by decide +kernel
theorem dX6_push_102 : decode cX6_push 102 = .ok (.putfield 57, 3) := by decide +kernel
theorem dX6_push_105 : decode cX6_push 105 = .ok (.aload 5, 2) := by decide +kernel
theorem dX6_push_107 : decode cX6_push 107 = .ok (.iconst 0, 1) := by decide +kernel
theorem dX6_push_108 : decode cX6_push 108 = .ok (.putfield 61, 3) := by decide +kernel
theorem dX6_push_111 : decode cX6_push 111 = .ok (.aload 5, 2) := by decide +kernel
theorem dX6_push_113 : decode cX6_push 113 = .ok (.iconst 0, 1) := by decide +kernel
theorem dX6_push_114 : decode cX6_push 114 = .ok (.putfield 64, 3) := by decide +kernel
theorem dX6_push_117 : decode cX6_push 117 = .ok (.aload 5, 2) := by decide +kernel
theorem dX6_push_119 : decode cX6_push 119 = .ok (.iconst 0, 1) := by decide +kernel
theorem dX6_push_120 : decode cX6_push 120 = .ok (.putfield 67, 3) := by decide +kernel
theorem dX6_push_123 : decode cX6_push 123 = .ok (.aload 5, 2) := by decide +kernel
theorem dX6_push_125 : decode cX6_push 125 = .ok (.iconst (-1), 1) := by decide +kernel
theorem dX6_push_126 : decode cX6_push 126 = .ok (.putfield 70, 3) := by decide +kernel
theorem dX6_push_129 : decode cX6_push 129 = .ok (.aload 5, 2) := by decide +kernel
theorem dX6_push_131 : decode cX6_push 131 = .ok (.iconst (-1), 1) := by decide +kernel
theorem dX6_push_132 : decode cX6_push 132 = .ok (.putfield 73, 3) := by decide +kernel
theorem dX6_push_135 : decode cX6_push 135 = .ok (.aload 5, 2) := by decide +kernel
theorem dX6_push_137 : decode cX6_push 137 = .ok (.iconst (-1), 1) := by decide +kernel
theorem dX6_push_138 : decode cX6_push 138 = .ok (.putfield 76, 3) := by decide +kernel
theorem dX6_push_141 : decode cX6_push 141 = .ok (.aload 5, 2) := by decide +kernel
theorem dX6_push_143 : decode cX6_push 143 = .ok (.iconst 0, 1) := by decide +kernel
theorem dX6_push_144 : decode cX6_push 144 = .ok (.putfield 79, 3) := by decide +kernel
theorem dX6_push_147 : decode cX6_push 147 = .ok (.aload 5, 2) := by decide +kernel
theorem dX6_push_149 : decode cX6_push 149 = .ok (.aload_n 0, 1) := by decide +kernel
theorem dX6_push_150 : decode cX6_push 150 = .ok (.getfield 28, 3) := by decide +kernel
theorem dX6_push_153 : decode cX6_push 153 = .ok (.putfield 82, 3) := by decide +kernel
theorem dX6_push_156 : decode cX6_push 156 = .ok (.aload 5, 2) := by decide +kernel
theorem dX6_push_158 : decode cX6_push 158 = .ok (.areturn, 1) := by decide +kernel
theorem dX6_pop_0 : decode cX6_pop 0 = .ok (.aload_n 0, 1) := by decide +kernel
theorem dX6_pop_1 : decode cX6_pop 1 = .ok (.iconst 0, 1) := by decide +kernel
theorem dX6_pop_2 : decode cX6_pop 2 = .ok (.aload_n 0, 1) := by decide +kernel
theorem dX6_pop_3 : decode cX6_pop 3 = .ok (.getfield 21, 3) := by decide +kernel
theorem dX6_pop_6 : decode cX6_pop 6 = .ok (.iconst 1, 1) := by decide +kernel
theorem dX6_pop_7 : decode cX6_pop 7 = .ok (.isub, 1) := by decide +kernel
theorem dX6_pop_8 : decode cX6_pop 8 = .ok (.invokestatic 85, 3) := by decide +kernel
theorem dX6_pop_11 : decode cX6_pop 11 = .ok (.putfield 21, 3) := by decide +kernel
theorem dX6_pop_14 : decode cX6_pop 14 = .ok (.return_, 1) := by decide +kernel
theorem dX6_row_0 : decode cX6_row 0 = .ok (.iload_n 1, 1) := by decide +kernel
theorem dX6_row_1 : decode cX6_row 1 = .ok (.ifCond .lt 29, 3) := by decide +kernel
theorem dX6_row_4 : decode cX6_row 4 = .ok (.iload_n 1, 1) := by decide +kernel
theorem dX6_row_5 : decode cX6_row 5 = .ok (.aload_n 0, 1) := by decide +kernel
theorem dX6_row_6 : decode cX6_row 6 = .ok (.getfield 21, 3) := by decide +kernel
theorem dX6_row_9 : decode cX6_row 9 = .ok (.if_icmp .ge 21, 3) := by decide +kernel
theorem dX6_row_12 : decode cX6_row 12 = .ok (.iload_n 1, 1) := by decide +kernel
theorem dX6_row_13 : decode cX6_row 13 = .ok (.aload_n 0, 1) := by decide +kernel
theorem dX6_row_14 : decode cX6_row 14 = .ok (.getfield 11, 3) := by decide +kernel
theorem dX6_row_17 : decode cX6_row 17 = .ok (.arraylength, 1) := by decide +kernel
theorem dX6_row_18 : decode cX6_row 18 = .ok (.if_icmp .ge 12, 3) := by decide +kernel
theorem dX6_row_21 : decode cX6_row 21 = .ok (.aload_n 0, 1) := by decide +kernel
theorem dX6_row_22 : decode cX6_row 22 = .ok (.getfield 11, 3) := by decide +kernel
theorem dX6_row_25 : decode cX6_row 25 = .ok (.iload_n 1, 1) := by decide +kernel
theorem dX6_row_26 : decode cX6_row 26 = .ok (.aaload, 1) := by decide +kernel
theorem dX6_row_27 : decode cX6_row 27 = .ok (.goto 4, 3) := by decide +kernel
theorem dX6_row_30 : decode cX6_row 30 = .ok (.aconst_null, 1) := by decide +kernel
theorem dX6_row_31 : decode cX6_row 31 = .ok (.areturn, 1) := by decide +kernel
theorem dX6_nearest_0 : decode cX6_nearest 0 = .ok (.aload_n 0, 1) := by decide +kernel
theorem dX6_nearest_1 : decode cX6_nearest 1 = .ok (.getfield 21, 3) := by decide +kernel
theorem dX6_nearest_4 : decode cX6_nearest 4 = .ok (.iconst 1, 1) := by decide +kernel
theorem dX6_nearest_5 : decode cX6_nearest 5 = .ok (.isub, 1) := by decide +kernel
theorem dX6_nearest_6 : decode cX6_nearest 6 = .ok (.istore_n 2, 1) := by decide +kernel
theorem dX6_nearest_7 : decode cX6_nearest 7 = .ok (.iload_n 2, 1) := by decide +kernel
theorem dX6_nearest_8 : decode cX6_nearest 8 = .ok (.aload_n 0, 1) := by decide +kernel
theorem dX6_nearest_9 : decode cX6_nearest 9 = .ok (.getfield 31, 3) := by decide +kernel
theorem dX6_nearest_12 : decode cX6_nearest 12 = .ok (.if_icmp .le 42, 3) := by decide +kernel
theorem dX6_nearest_15 : decode cX6_nearest 15 = .ok (.aload_n 0, 1) := by decide +kernel
theorem dX6_nearest_16 : decode cX6_nearest 16 = .ok (.iload_n 2, 1) := by decide +kernel
theorem dX6_nearest_17 : decode cX6_nearest 17 = .ok (.invokevirtual 88, 3) := by decide +kernel
theorem dX6_nearest_20 : decode cX6_nearest 20 = .ok (.astore_n 3, 1) := by decide +kernel
theorem dX6_nearest_21 : decode cX6_nearest 21 = .ok (.aload_n 3, 1) := by decide +kernel
theorem dX6_nearest_22 : decode cX6_nearest 22 = .ok (.ifnull 26, 3) := by decide +kernel
theorem dX6_nearest_25 : decode cX6_nearest 25 = .ok (.aload_n 3, 1) := by decide +kernel
theorem dX6_nearest_26 : decode cX6_nearest 26 = .ok (.invokevirtual 92, 3) := by decide +kernel
theorem dX6_nearest_29 : decode cX6_nearest 29 = .ok (.ifCond .ne 17, 3) := by decide +kernel
theorem dX6_nearest_32 : decode cX6_nearest 32 = .ok (.iload_n 1, 1) := by decide +kernel
theorem dX6_nearest_33 : decode cX6_nearest 33 = .ok (.ifCond .ne 15, 3) := by decide +kernel
theorem dX6_nearest_36 : decode cX6_nearest 36 = .ok (.aload_n 3, 1) := by decide +kernel
theorem dX6_nearest_37 : decode cX6_nearest 37 = .ok (.getfield 41, 3) := by decide +kernel
theorem dX6_nearest_40 : decode cX6_nearest 40 = .ok (.sipush 218, 3) := by decide +kernel
theorem dX6_nearest_43 : decode cX6_nearest 43 = .ok (.if_icmp .ne 5, 3) := by decide +kernel
theorem dX6_nearest_46 : decode cX6_nearest 46 = .ok (.iload_n 2, 1) := by decide +kernel
theorem dX6_nearest_47 : decode cX6_nearest 47 = .ok (.ireturn, 1) := by decide +kernel
theorem dX6_nearest_48 : decode cX6_nearest 48 = .ok (.iinc 2 (-1), 3) := by decide +kernel
theorem dX6_nearest_51 : decode cX6_nearest 51 = .ok (.goto (-44), 3) := by decide +kernel
theorem dX6_nearest_54 : decode cX6_nearest 54 = .ok (.iconst (-1), 1) := by decide +kernel
theorem dX6_nearest_55 : decode cX6_nearest 55 = .ok (.ireturn, 1) := by decide +kernel
theorem dX6_labelled_0 : decode cX6_labelled 0 = .ok (.aload_n 0, 1) := by decide +kernel
theorem dX6_labelled_1 : decode cX6_labelled 1 = .ok (.getfield 21, 3) := by decide +kernel
theorem dX6_labelled_4 : decode cX6_labelled 4 = .ok (.iconst 1, 1) := by decide +kernel
theorem dX6_labelled_5 : decode cX6_labelled 5 = .ok (.isub, 1) := by decide +kernel
theorem dX6_labelled_6 : decode cX6_labelled 6 = .ok (.istore_n 3, 1) := by decide +kernel
theorem dX6_labelled_7 : decode cX6_labelled 7 = .ok (.iload_n 3, 1) := by decide +kernel
theorem dX6_labelled_8 : decode cX6_labelled 8 = .ok (.aload_n 0, 1) := by decide +kernel
theorem dX6_labelled_9 : decode cX6_labelled 9 = .ok (.getfield 31, 3) := by decide +kernel
theorem dX6_labelled_12 : decode cX6_labelled 12 = .ok (.if_icmp .le 44, 3) := by decide +kernel
