theorem dX10_init_7 : decode cX10_init 7 = .ok (.newarray .int, 2) := by decide +kernel
theorem dX10_init_9 : decode cX10_init 9 = .ok (.putfield 9, 3) := by decide +kernel
theorem dX10_init_12 : decode cX10_init 12 = .ok (.aload_n 0, 1) := by decide +kernel
theorem dX10_init_13 : decode cX10_init 13 = .ok (.bipush 8, 2) := by decide +kernel
theorem dX10_init_15 : decode cX10_init 15 = .ok (.newarray .int, 2) := by decide +kernel
theorem dX10_init_17 : decode cX10_init 17 = .ok (.putfield 15, 3) := by decide +kernel
theorem dX10_init_20 : decode cX10_init 20 = .ok (.aload_n 0, 1) := by decide +kernel
theorem dX10_init_21 : decode cX10_init 21 = .ok (.bipush 8, 2) := by decide +kernel
theorem dX10_init_23 : decode cX10_init 23 = .ok (.newarray .int, 2) := by decide +kernel
theorem dX10_init_25 : decode cX10_init 25 = .ok (.putfield 18, 3) := by decide +kernel
theorem dX10_init_28 : decode cX10_init 28 = .ok (.aload_n 0, 1) := by decide +kernel
theorem dX10_init_29 : decode cX10_init 29 = .ok (.bipush 8, 2) := by decide +kernel
theorem dX10_init_31 : decode cX10_init 31 = .ok (.newarray .int, 2) := by decide +kernel
theorem dX10_init_33 : decode cX10_init 33 = .ok (.putfield 21, 3) := by decide +kernel
theorem dX10_init_36 : decode cX10_init 36 = .ok (.aload_n 0, 1) := by decide +kernel
theorem dX10_init_37 : decode cX10_init 37 = .ok (.iconst 4, 1) := by decide +kernel
theorem dX10_init_38 : decode cX10_init 38 = .ok (.putfield 24, 3) := by decide +kernel
theorem dX10_init_41 : decode cX10_init 41 = .ok (.aload_n 0, 1) := by decide +kernel
theorem dX10_init_42 : decode cX10_init 42 = .ok (.getfield 9, 3) := by decide +kernel
theorem dX10_init_45 : decode cX10_init 45 = .ok (.iconst 0, 1) := by decide +kernel
theorem dX10_init_46 : decode cX10_init 46 = .ok (.iconst (-1), 1) := by decide +kernel
theorem dX10_init_47 : decode cX10_init 47 = .ok (.iastore, 1) := by decide +kernel
theorem dX10_init_48 : decode cX10_init 48 = .ok (.iconst 0, 1) := by decide +kernel
theorem dX10_init_49 : decode cX10_init 49 = .ok (.istore_n 1, 1) := by decide +kernel
theorem dX10_init_50 : decode cX10_init 50 = .ok (.iload_n 1, 1) := by decide +kernel
theorem dX10_init_51 : decode cX10_init 51 = .ok (.bipush 8, 2) := by decide +kernel
theorem dX10_init_53 : decode cX10_init 53 = .ok (.if_icmp .ge 23, 3) := by decide +kernel
theorem dX10_init_56 : decode cX10_init 56 = .ok (.aload_n 0, 1) := by decide +kernel
theorem dX10_init_57 : decode cX10_init 57 = .ok (.getfield 18, 3) := by decide +kernel
theorem dX10_init_60 : decode cX10_init 60 = .ok (.iload_n 1, 1) := by decide +kernel
theorem dX10_init_61 : decode cX10_init 61 = .ok (.iconst (-1), 1) := by decide +kernel
theorem dX10_init_62 : decode cX10_init 62 = .ok (.iastore, 1) := by decide +kernel
theorem dX10_init_63 : decode cX10_init 63 = .ok (.aload_n 0, 1) := by decide +kernel
theorem dX10_init_64 : decode cX10_init 64 = .ok (.getfield 21, 3) := by decide +kernel
theorem dX10_init_67 : decode cX10_init 67 = .ok (.iload_n 1, 1) := by decide +kernel
theorem dX10_init_68 : decode cX10_init 68 = .ok (.iconst (-1), 1) := by decide +kernel
theorem dX10_init_69 : decode cX10_init 69 = .ok (.iastore, 1) := by decide +kernel
theorem dX10_init_70 : decode cX10_init 70 = .ok (.iinc 1 1, 3) := by decide +kernel
theorem dX10_init_73 : decode cX10_init 73 = .ok (.goto (-23), 3) := by decide +kernel
theorem dX10_init_76 : decode cX10_init 76 = .ok (.return_, 1) := by decide +kernel
theorem dX10_isKind_0 : decode cX10_isKind 0 = .ok (.iload_n 1, 1) := by decide +kernel
theorem dX10_isKind_1 : decode cX10_isKind 1 = .ok (.ifCond .lt 15, 3) := by decide +kernel
theorem dX10_isKind_4 : decode cX10_isKind 4 = .ok (.iload_n 1, 1) := by decide +kernel
theorem dX10_isKind_5 : decode cX10_isKind 5 = .ok (.aload_n 0, 1) := by decide +kernel
theorem dX10_isKind_6 : decode cX10_isKind 6 = .ok (.getfield 24, 3) := by decide +kernel
theorem dX10_isKind_9 : decode cX10_isKind 9 = .ok (.if_icmp .ge 7, 3) := by decide +kernel
theorem dX10_isKind_12 : decode cX10_isKind 12 = .ok (.iconst 1, 1) := by decide +kernel
theorem dX10_isKind_13 : decode cX10_isKind 13 = .ok (.goto 4, 3) := by decide +kernel
theorem dX10_isKind_16 : decode cX10_isKind 16 = .ok (.iconst 0, 1) := by decide +kernel
theorem dX10_isKind_17 : decode cX10_isKind 17 = .ok (.ireturn, 1) := by decide +kernel
theorem dX10_isFull_0 : decode cX10_isFull 0 = .ok (.aload_n 0, 1) := by decide +kernel
theorem dX10_isFull_1 : decode cX10_isFull 1 = .ok (.getfield 24, 3) := by decide +kernel
theorem dX10_isFull_4 : decode cX10_isFull 4 = .ok (.bipush 12, 2) := by decide +kernel
theorem dX10_isFull_6 : decode cX10_isFull 6 = .ok (.if_icmp .lt 7, 3) := by decide +kernel
theorem dX10_isFull_9 : decode cX10_isFull 9 = .ok (.iconst 1, 1) := by decide +kernel
theorem dX10_isFull_10 : decode cX10_isFull 10 = .ok (.goto 4, 3) := by decide +kernel
theorem dX10_isFull_13 : decode cX10_isFull 13 = .ok (.iconst 0, 1) := by decide +kernel
theorem dX10_isFull_14 : decode cX10_isFull 14 = .ok (.ireturn, 1) := by decide +kernel
theorem dX10_addKind_0 : decode cX10_addKind 0 = .ok (.aload_n 0, 1) := by decide +kernel
theorem dX10_addKind_1 : decode cX10_addKind 1 = .ok (.getfield 9, 3) := by decide +kernel
theorem dX10_addKind_4 : decode cX10_addKind 4 = .ok (.aload_n 0, 1) := by decide +kernel
theorem dX10_addKind_5 : decode cX10_addKind 5 = .ok (.getfield 24, 3) := by decide +kernel
theorem dX10_addKind_8 : decode cX10_addKind 8 = .ok (.iload_n 1, 1) := by decide +kernel
theorem dX10_addKind_9 : decode cX10_addKind 9 = .ok (.invokestatic 28, 3) := by decide +kernel
theorem dX10_addKind_12 : decode cX10_addKind 12 = .ok (.aload_n 0, 1) := by decide +kernel
theorem dX10_addKind_13 : decode cX10_addKind 13 = .ok (.dup, 1) := by decide +kernel
theorem dX10_addKind_14 : decode cX10_addKind 14 = .ok (.getfield 24, 3) := by decide +kernel
theorem dX10_addKind_17 : decode cX10_addKind 17 = .ok (.iconst 1, 1) := by decide +kernel
theorem dX10_addKind_18 : decode cX10_addKind 18 = .ok (.iadd, 1) := by decide +kernel
theorem dX10_addKind_19 : decode cX10_addKind 19 = .ok (.putfield 24, 3) := by decide +kernel
theorem dX10_addKind_22 : decode cX10_addKind 22 = .ok (.aload_n 0, 1) := by decide +kernel
theorem dX10_addKind_23 : decode cX10_addKind 23 = .ok (.getfield 24, 3) := by decide +kernel
theorem dX10_addKind_26 : decode cX10_addKind 26 = .ok (.iconst 1, 1) := by decide +kernel
theorem dX10_addKind_27 : decode cX10_addKind 27 = .ok (.isub, 1) := by decide +kernel
theorem dX10_addKind_28 : decode cX10_addKind 28 = .ok (.ireturn, 1) := by decide +kernel
theorem dX10_isUnder_0 : decode cX10_isUnder 0 = .ok (.iload_n 1, 1) := by decide +kernel
theorem dX10_isUnder_1 : decode cX10_isUnder 1 = .ok (.istore_n 3, 1) := by decide +kernel
theorem dX10_isUnder_2 : decode cX10_isUnder 2 = .ok (.iconst 0, 1) := by decide +kernel
theorem dX10_isUnder_3 : decode cX10_isUnder 3 = .ok (.istore 4, 2) := by decide +kernel
theorem dX10_isUnder_5 : decode cX10_isUnder 5 = .ok (.iload 4, 2) := by decide +kernel
theorem dX10_isUnder_7 : decode cX10_isUnder 7 = .ok (.bipush 12, 2) := by decide +kernel
theorem dX10_isUnder_9 : decode cX10_isUnder 9 = .ok (.if_icmp .ge 29, 3) := by decide +kernel
theorem dX10_isUnder_12 : decode cX10_isUnder 12 = .ok (.iload_n 3, 1) := by decide +kernel
theorem dX10_isUnder_13 : decode cX10_isUnder 13 = .ok (.ifCond .lt 25, 3) := by decide +kernel
theorem dX10_isUnder_16 : decode cX10_isUnder 16 = .ok (.iload_n 3, 1) := by decide +kernel
theorem dX10_isUnder_17 : decode cX10_isUnder 17 = .ok (.iload_n 2, 1) := by decide +kernel
theorem dX10_isUnder_18 : decode cX10_isUnder 18 = .ok (.if_icmp .ne 5, 3) := by decide +kernel
theorem dX10_isUnder_21 : decode cX10_isUnder 21 = .ok (.iconst 1, 1) := by decide +kernel
theorem dX10_isUnder_22 : decode cX10_isUnder 22 = .ok (.ireturn, 1) := by decide +kernel
theorem dX10_isUnder_23 : decode cX10_isUnder 23 = .ok (.aload_n 0, 1) := by decide +kernel
theorem dX10_isUnder_24 : decode cX10_isUnder 24 = .ok (.getfield 9, 3) := by decide +kernel
theorem dX10_isUnder_27 : decode cX10_isUnder 27 = .ok (.iload_n 3, 1) := by decide +kernel
theorem dX10_isUnder_28 : decode cX10_isUnder 28 = .ok (.invokestatic 32, 3) := by decide +kernel
theorem dX10_isUnder_31 : decode cX10_isUnder 31 = .ok (.istore_n 3, 1) := by decide +kernel
theorem dX10_isUnder_32 : decode cX10_isUnder 32 = .ok (.iinc 4 1, 3) := by decide +kernel
theorem dX10_isUnder_35 : decode cX10_isUnder 35 = .ok (.goto (-30), 3) := by decide +kernel
theorem dX10_isUnder_38 : decode cX10_isUnder 38 = .ok (.iconst 0, 1) := by decide +kernel
theorem dX10_isUnder_39 : decode cX10_isUnder 39 = .ok (.ireturn, 1) := by decide +kernel
theorem dX10_tellResource_0 : decode cX10_tellResource 0 = .ok (.aload_n 0, 1) := by decide +kernel
theorem dX10_tellResource_1 : decode cX10_tellResource 1 = .ok (.getfield 15, 3) := by decide +kernel
theorem dX10_tellResource_4 : decode cX10_tellResource 4 = .ok (.iload_n 1, 1) := by decide +kernel
theorem dX10_tellResource_5 : decode cX10_tellResource 5 = .ok (.iload_n 2, 1) := by decide +kernel
theorem dX10_tellResource_6 : decode cX10_tellResource 6 = .ok (.invokestatic 28, 3) := by decide +kernel
theorem dX10_tellResource_9 : decode cX10_tellResource 9 = .ok (.aload_n 0, 1) := by decide +kernel
theorem dX10_tellResource_10 : decode cX10_tellResource 10 = .ok (.getfield 18, 3) := by decide +kernel
theorem dX10_tellResource_13 : decode cX10_tellResource 13 = .ok (.iload_n 1, 1) := by decide +kernel
theorem dX10_tellResource_14 : decode cX10_tellResource 14 = .ok (.iload_n 3, 1) := by decide +kernel
theorem dX10_tellResource_15 : decode cX10_tellResource 15 = .ok (.invokestatic 28, 3) := by decide +kernel
theorem dX10_tellResource_18 : decode cX10_tellResource 18 = .ok (.aload_n 0, 1) := by decide +kernel
theorem dX10_tellResource_19 : decode cX10_tellResource 19 = .ok (.getfield 21, 3) := by decide +kernel
theorem dX10_tellResource_22 : decode cX10_tellResource 22 = .ok (.iload_n 1, 1) := by decide +kernel
theorem dX10_tellResource_23 : decode cX10_tellResource 23 = .ok (.iload 4, 2) := by decide +kernel
theorem dX10_tellResource_25 : decode cX10_tellResource 25 = .ok (.invokestatic 28, 3) := by decide +kernel
theorem dX10_tellResource_28 : decode cX10_tellResource 28 = .ok (.return_, 1) := by decide +kernel
theorem dX0_init_0 : decode cX0_init 0 = .ok (.aload_n 0, 1) := by decide +kernel
theorem dX0_init_1 : decode cX0_init 1 = .ok (.invokespecial 3, 3) := by decide +kernel
theorem dX0_init_4 : decode cX0_init 4 = .ok (.aload_n 0, 1) := by decide +kernel
theorem dX0_init_5 : decode cX0_init 5 = .ok (.sipush 1200, 3) := by decide +kernel
theorem dX0_init_8 : decode cX0_init 8 = .ok (.newarray .int, 2) := by decide +kernel
theorem dX0_init_10 : decode cX0_init 10 = .ok (.putfield 9, 3) := by decide +kernel
theorem dX0_init_13 : decode cX0_init 13 = .ok (.aload_n 0, 1) := by decide +kernel
theorem dX0_init_14 : decode cX0_init 14 = .ok (.sipush 1200, 3) := by decide +kernel
theorem dX0_init_17 : decode cX0_init 17 = .ok (.newarray .int, 2) := by decide +kernel
theorem dX0_init_19 : decode cX0_init 19 = .ok (.putfield 15, 3) := by decide +kernel
theorem dX0_init_22 : decode cX0_init 22 = .ok (.aload_n 0, 1) := by decide +kernel
theorem dX0_init_23 : decode cX0_init 23 = .ok (.sipush 1024, 3) := by decide +kernel
theorem dX0_init_26 : decode cX0_init 26 = .ok (.newarray .int, 2) := by decide +kernel
theorem dX0_init_28 : decode cX0_init 28 = .ok (.putfield 18, 3) := by decide +kernel
theorem dX0_init_31 : decode cX0_init 31 = .ok (.aload_n 0, 1) := by decide +kernel
theorem dX0_init_32 : decode cX0_init 32 = .ok (.sipush 320, 3) := by decide +kernel
theorem dX0_init_35 : decode cX0_init 35 = .ok (.newarray .int, 2) := by decide +kernel
theorem dX0_init_37 : decode cX0_init 37 = .ok (.putfield 21, 3) := by decide +kernel
theorem dX0_init_40 : decode cX0_init 40 = .ok (.aload_n 0, 1) := by decide +kernel
theorem dX0_init_41 : decode cX0_init 41 = .ok (.sipush 320, 3) := by decide +kernel
theorem dX0_init_44 : decode cX0_init 44 = .ok (.newarray .int, 2) := by decide +kernel
theorem dX0_init_46 : decode cX0_init 46 = .ok (.putfield 24, 3) := by decide +kernel
theorem dX0_init_49 : decode cX0_init 49 = .ok (.return_, 1) := by decide +kernel
theorem dX0_clear_0 : decode cX0_clear 0 = .ok (.aload_n 0, 1) := by decide +kernel
theorem dX0_clear_1 : decode cX0_clear 1 = .ok (.iconst 0, 1) := by decide +kernel
theorem dX0_clear_2 : decode cX0_clear 2 = .ok (.putfield 27, 3) := by decide +kernel
theorem dX0_clear_5 : decode cX0_clear 5 = .ok (.aload_n 0, 1) := by decide +kernel
theorem dX0_clear_6 : decode cX0_clear 6 = .ok (.iconst 0, 1) := by decide +kernel
theorem dX0_clear_7 : decode cX0_clear 7 = .ok (.putfield 31, 3) := by decide +kernel
theorem dX0_clear_10 : decode cX0_clear 10 = .ok (.aload_n 0, 1) := by decide +kernel
theorem dX0_clear_11 : decode cX0_clear 11 = .ok (.iconst 0, 1) := by decide +kernel
theorem dX0_clear_12 : decode cX0_clear 12 = .ok (.putfield 34, 3) := by decide +kernel
theorem dX0_clear_15 : decode cX0_clear 15 = .ok (.aload_n 0, 1) := by decide +kernel
theorem dX0_clear_16 : decode cX0_clear 16 = .ok (.iconst 0, 1) := by decide +kernel
theorem dX0_clear_17 : decode cX0_clear 17 = .ok (.putfield 37, 3) := by decide +kernel
theorem dX0_clear_20 : decode cX0_clear 20 = .ok (.aload_n 0, 1) := by decide +kernel
theorem dX0_clear_21 : decode cX0_clear 21 = .ok (.iconst 0, 1) := by decide +kernel
theorem dX0_clear_22 : decode cX0_clear 22 = .ok (.putfield 40, 3) := by decide +kernel
theorem dX0_clear_25 : decode cX0_clear 25 = .ok (.aload_n 0, 1) := by decide +kernel
theorem dX0_clear_26 : decode cX0_clear 26 = .ok (.iconst 0, 1) := by decide +kernel
theorem dX0_clear_27 : decode cX0_clear 27 = .ok (.putfield 43, 3) := by decide +kernel
theorem dX0_clear_30 : decode cX0_clear 30 = .ok (.aload_n 0, 1) := by decide +kernel
theorem dX0_clear_31 : decode cX0_clear 31 = .ok (.iconst 0, 1) := by decide +kernel
theorem dX0_clear_32 : decode cX0_clear 32 = .ok (.putfield 46, 3) := by decide +kernel
theorem dX0_clear_35 : decode cX0_clear 35 = .ok (.aload_n 0, 1) := by decide +kernel
theorem dX0_clear_36 : decode cX0_clear 36 = .ok (.iconst 0, 1) := by decide +kernel
theorem dX0_clear_37 : decode cX0_clear 37 = .ok (.putfield 49, 3) := by decide +kernel
theorem dX0_clear_40 : decode cX0_clear 40 = .ok (.return_, 1) := by decide +kernel
theorem dX0_add_0 : decode cX0_add 0 = .ok (.aload_n 0, 1) := by decide +kernel
theorem dX0_add_1 : decode cX0_add 1 = .ok (.getfield 9, 3) := by decide +kernel
theorem dX0_add_4 : decode cX0_add 4 = .ok (.aload_n 0, 1) := by decide +kernel
theorem dX0_add_5 : decode cX0_add 5 = .ok (.getfield 27, 3) := by decide +kernel
theorem dX0_add_8 : decode cX0_add 8 = .ok (.iload_n 1, 1) := by decide +kernel
theorem dX0_add_9 : decode cX0_add 9 = .ok (.invokestatic 53, 3) := by decide +kernel
theorem dX0_add_12 : decode cX0_add 12 = .ok (.aload_n 0, 1) := by decide +kernel
theorem dX0_add_13 : decode cX0_add 13 = .ok (.getfield 15, 3) := by decide +kernel
theorem dX0_add_16 : decode cX0_add 16 = .ok (.aload_n 0, 1) := by decide +kernel
theorem dX0_add_17 : decode cX0_add 17 = .ok (.getfield 27, 3) := by decide +kernel
theorem dX0_add_20 : decode cX0_add 20 = .ok (.iload_n 2, 1) := by decide +kernel
theorem dX0_add_21 : decode cX0_add 21 = .ok (.invokestatic 53, 3) := by decide +kernel
theorem dX0_add_24 : decode cX0_add 24 = .ok (.aload_n 0, 1) := by decide +kernel
theorem dX0_add_25 : decode cX0_add 25 = .ok (.dup, 1) := by decide +kernel
theorem dX0_add_26 : decode cX0_add 26 = .ok (.getfield 27, 3) := by decide +kernel
theorem dX0_add_29 : decode cX0_add 29 = .ok (.iconst 1, 1) := by decide +kernel
theorem dX0_add_30 : decode cX0_add 30 = .ok (.iadd, 1) := by decide +kernel
theorem dX0_add_31 : decode cX0_add 31 = .ok (.putfield 27, 3) := by decide +kernel
theorem dX0_add_34 : decode cX0_add 34 = .ok (.return_, 1) := by decide +kernel
theorem dX0_newCells_0 : decode cX0_newCells 0 = .ok (.aload_n 0, 1) := by decide +kernel
theorem dX0_newCells_1 : decode cX0_newCells 1 = .ok (.dup, 1) := by decide +kernel
theorem dX0_newCells_2 : decode cX0_newCells 2 = .ok (.getfield 37, 3) := by decide +kernel
theorem dX0_newCells_5 : decode cX0_newCells 5 = .ok (.iload_n 1, 1) := by decide +kernel
theorem dX0_newCells_6 : decode cX0_newCells 6 = .ok (.iadd, 1) := by decide +kernel
theorem dX0_newCells_7 : decode cX0_newCells 7 = .ok (.putfield 37, 3) := by decide +kernel
theorem dX0_newCells_10 : decode cX0_newCells 10 = .ok (.aload_n 0, 1) := by decide +kernel
theorem dX0_newCells_11 : decode cX0_newCells 11 = .ok (.getfield 37, 3) := by decide +kernel
theorem dX0_newCells_14 : decode cX0_newCells 14 = .ok (.iload_n 1, 1) := by decide +kernel
theorem dX0_newCells_15 : decode cX0_newCells 15 = .ok (.isub, 1) := by decide +kernel
theorem dX0_newCells_16 : decode cX0_newCells 16 = .ok (.ireturn, 1) := by decide +kernel
theorem dX9_init_0 : decode cX9_init 0 = .ok (.aload_n 0, 1) := by decide +kernel
theorem dX9_init_1 : decode cX9_init 1 = .ok (.invokespecial 3, 3) := by decide +kernel
theorem dX9_init_4 : decode cX9_init 4 = .ok (.aload_n 0, 1) := by decide +kernel
theorem dX9_init_5 : decode cX9_init 5 = .ok (.bipush 25, 2) := by decide +kernel
theorem dX9_init_7 : decode cX9_init 7 = .ok (.newarray .long, 2) := by decide +kernel
theorem dX9_init_9 : decode cX9_init 9 = .ok (.putfield 9, 3) := by decide +kernel
theorem dX9_init_12 : decode cX9_init 12 = .ok (.aload_n 0, 1) := by decide +kernel
theorem dX9_init_13 : decode cX9_init 13 = .ok (.aload_n 1, 1) := by decide +kernel
theorem dX9_init_14 : decode cX9_init 14 = .ok (.putfield 15, 3) := by decide +kernel
theorem dX9_init_17 : decode cX9_init 17 = .ok (.iconst 0, 1) := by decide +kernel
theorem dX9_init_18 : decode cX9_init 18 = .ok (.istore_n 2, 1) := by decide +kernel
theorem dX9_init_19 : decode cX9_init 19 = .ok (.iconst 0, 1) := by decide +kernel
theorem dX9_init_20 : decode cX9_init 20 = .ok (.istore_n 3, 1) := by decide +kernel
theorem dX9_init_21 : decode cX9_init 21 = .ok (.iload_n 3, 1) := by decide +kernel
theorem dX9_init_22 : decode cX9_init 22 = .ok (.ldc 19, 2) := by decide +kernel
theorem dX9_init_24 : decode cX9_init 24 = .ok (.invokevirtual 21, 3) := by decide +kernel
theorem dX9_init_27 : decode cX9_init 27 = .ok (.if_icmp .ge 55, 3) := by decide +kernel
theorem dX9_init_30 : decode cX9_init 30 = .ok (.ldc 19, 2) := by decide +kernel
theorem dX9_init_32 : decode cX9_init 32 = .ok (.iload_n 3, 1) := by decide +kernel
theorem dX9_init_33 : decode cX9_init 33 = .ok (.invokevirtual 27, 3) := by decide +kernel
theorem dX9_init_36 : decode cX9_init 36 = .ok (.bipush 32, 2) := by decide +kernel
theorem dX9_init_38 : decode cX9_init 38 = .ok (.if_icmp .ne 9, 3) := by decide +kernel
theorem dX9_init_41 : decode cX9_init 41 = .ok (.iinc 2 1, 3) := by decide +kernel
theorem dX9_init_44 : decode cX9_init 44 = .ok (.goto 32, 3) := by decide +kernel
theorem dX9_init_47 : decode cX9_init 47 = .ok (.iload_n 2, 1) := by decide +kernel
theorem dX9_init_48 : decode cX9_init 48 = .ok (.bipush 25, 2) := by decide +kernel
theorem dX9_init_50 : decode cX9_init 50 = .ok (.if_icmp .ge 26, 3) := by decide +kernel
theorem dX9_init_53 : decode cX9_init 53 = .ok (.aload_n 0, 1) := by decide +kernel
theorem dX9_init_54 : decode cX9_init 54 = .ok (.getfield 9, 3) := by decide +kernel
theorem dX9_init_57 : decode cX9_init 57 = .ok (.iload_n 2, 1) := by decide +kernel
theorem dX9_init_58 : decode cX9_init 58 = .ok (.aload_n 0, 1) := by decide +kernel
theorem dX9_init_59 : decode cX9_init 59 = .ok (.getfield 9, 3) := by decide +kernel
theorem dX9_init_62 : decode cX9_init 62 = .ok (.iload_n 2, 1) := by decide +kernel
theorem dX9_init_63 : decode cX9_init 63 = .ok (.laload, 1) := by decide +kernel
theorem dX9_init_64 : decode cX9_init 64 = .ok (.bipush 8, 2) := by decide +kernel
theorem dX9_init_66 : decode cX9_init 66 = .ok (.lshl, 1) := by decide +kernel
theorem dX9_init_67 : decode cX9_init 67 = .ok (.ldc 19, 2) := by decide +kernel
theorem dX9_init_69 : decode cX9_init 69 = .ok (.iload_n 3, 1) := by decide +kernel
theorem dX9_init_70 : decode cX9_init 70 = .ok (.invokevirtual 27, 3) := by decide +kernel
theorem dX9_init_73 : decode cX9_init 73 = .ok (.i2l, 1) := by decide +kernel
theorem dX9_init_74 : decode cX9_init 74 = .ok (.lor, 1) := by decide +kernel
theorem dX9_init_75 : decode cX9_init 75 = .ok (.lastore, 1) := by decide +kernel
theorem dX9_init_76 : decode cX9_init 76 = .ok (.iinc 3 1, 3) := by decide +kernel
theorem dX9_init_79 : decode cX9_init 79 = .ok (.goto (-58), 3) := by decide +kernel
theorem dX9_init_82 : decode cX9_init 82 = .ok (.return_, 1) := by decide +kernel
theorem dX9_start_0 : decode cX9_start 0 = .ok (.aload_n 0, 1) := by decide +kernel
theorem dX9_start_1 : decode cX9_start 1 = .ok (.iload_n 1, 1) := by decide +kernel
theorem dX9_start_2 : decode cX9_start 2 = .ok (.putfield 31, 3) := by decide +kernel
theorem dX9_start_5 : decode cX9_start 5 = .ok (.aload_n 0, 1) := by decide +kernel
theorem dX9_start_6 : decode cX9_start 6 = .ok (.iconst 0, 1) := by decide +kernel
theorem dX9_start_7 : decode cX9_start 7 = .ok (.putfield 34, 3) := by decide +kernel
theorem dX9_start_10 : decode cX9_start 10 = .ok (.aload_n 0, 1) := by decide +kernel
theorem dX9_start_11 : decode cX9_start 11 = .ok (.invokevirtual 37, 3) := by decide +kernel
theorem dX9_start_14 : decode cX9_start 14 = .ok (.return_, 1) := by decide +kernel
theorem dX9_advance_0 : decode cX9_advance 0 = .ok (.iconst 0, 1) := by decide +kernel
theorem dX9_advance_1 : decode cX9_advance 1 = .ok (.istore_n 1, 1) := by decide +kernel
theorem dX9_advance_2 : decode cX9_advance 2 = .ok (.iload_n 1, 1) := by decide +kernel
theorem dX9_advance_3 : decode cX9_advance 3 = .ok (.sipush 900, 3) := by decide +kernel
theorem dX9_advance_6 : decode cX9_advance 6 = .ok (.if_icmp .ge 45, 3) := by decide +kernel
theorem dX9_advance_9 : decode cX9_advance 9 = .ok (.aload_n 0, 1) := by decide +kernel
theorem dX9_advance_10 : decode cX9_advance 10 = .ok (.aload_n 0, 1) := by decide +kernel
theorem dX9_advance_11 : decode cX9_advance 11 = .ok (.getfield 34, 3) := by decide +kernel
theorem dX9_advance_14 : decode cX9_advance 14 = .ok (.invokevirtual 43, 3) := by decide +kernel
theorem dX9_advance_17 : decode cX9_advance 17 = .ok (.bipush 32, 2) := by decide +kernel
theorem dX9_advance_19 : decode cX9_advance 19 = .ok (.if_icmp .eq 16, 3) := by decide +kernel
theorem dX9_advance_22 : decode cX9_advance 22 = .ok (.aload_n 0, 1) := by decide +kernel
theorem dX9_advance_23 : decode cX9_advance 23 = .ok (.aload_n 0, 1) := by decide +kernel
theorem dX9_advance_24 : decode cX9_advance 24 = .ok (.getfield 34, 3) := by decide +kernel
theorem dX9_advance_27 : decode cX9_advance 27 = .ok (.invokevirtual 43, 3) := by decide +kernel
theorem dX9_advance_30 : decode cX9_advance 30 = .ok (.bipush 10, 2) := by decide +kernel
theorem dX9_advance_32 : decode cX9_advance 32 = .ok (.if_icmp .ne 19, 3) := by decide +kernel
theorem dX9_advance_35 : decode cX9_advance 35 = .ok (.aload_n 0, 1) := by decide +kernel
theorem dX9_advance_36 : decode cX9_advance 36 = .ok (.dup, 1) := by decide +kernel
theorem dX9_advance_37 : decode cX9_advance 37 = .ok (.getfield 34, 3) := by decide +kernel
theorem dX9_advance_40 : decode cX9_advance 40 = .ok (.iconst 1, 1) := by decide +kernel
theorem dX9_advance_41 : decode cX9_advance 41 = .ok (.iadd, 1) := by decide +kernel
theorem dX9_advance_42 : decode cX9_advance 42 = .ok (.putfield 34, 3) := by decide +kernel
theorem dX9_advance_45 : decode cX9_advance 45 = .ok (.iinc 1 1, 3) := by decide +kernel
theorem dX9_advance_48 : decode cX9_advance 48 = .ok (.goto (-46), 3) := by decide +kernel
theorem dX9_advance_51 : decode cX9_advance 51 = .ok (.aload_n 0, 1) := by decide +kernel
theorem dX9_advance_52 : decode cX9_advance 52 = .ok (.aload_n 0, 1) := by decide +kernel
theorem dX9_advance_53 : decode cX9_advance 53 = .ok (.getfield 34, 3) := by decide +kernel
theorem dX9_advance_56 : decode cX9_advance 56 = .ok (.putfield 47, 3) := by decide +kernel
theorem dX9_advance_59 : decode cX9_advance 59 = .ok (.aload_n 0, 1) := by decide +kernel
theorem dX9_advance_60 : decode cX9_advance 60 = .ok (.getfield 34, 3) := by decide +kernel
theorem dX9_advance_63 : decode cX9_advance 63 = .ok (.aload_n 0, 1) := by decide +kernel
theorem dX9_advance_64 : decode cX9_advance 64 = .ok (.getfield 31, 3) := by decide +kernel
theorem dX9_advance_67 : decode cX9_advance 67 = .ok (.if_icmp .lt 11, 3) := by decide +kernel
theorem dX9_advance_70 : decode cX9_advance 70 = .ok (.aload_n 0, 1) := by decide +kernel
theorem dX9_advance_71 : decode cX9_advance 71 = .ok (.iconst 0, 1) := by decide +kernel
theorem dX9_advance_72 : decode cX9_advance 72 = .ok (.putfield 40, 3) := by decide +kernel
theorem dX9_advance_75 : decode cX9_advance 75 = .ok (.goto 49, 3) := by decide +kernel
theorem dX9_advance_78 : decode cX9_advance 78 = .ok (.aload_n 0, 1) := by decide +kernel
theorem dX9_advance_79 : decode cX9_advance 79 = .ok (.aload_n 0, 1) := by decide +kernel
theorem dX9_advance_80 : decode cX9_advance 80 = .ok (.getfield 34, 3) := by decide +kernel
theorem dX9_advance_83 : decode cX9_advance 83 = .ok (.invokevirtual 43, 3) := by decide +kernel
theorem dX9_advance_86 : decode cX9_advance 86 = .ok (.invokestatic 50, 3) := by decide +kernel
theorem dX9_advance_89 : decode cX9_advance 89 = .ok (.ifCond .eq 10, 3) := by decide +kernel
theorem dX9_advance_92 : decode cX9_advance 92 = .ok (.aload_n 0, 1) := by decide +kernel
theorem dX9_advance_93 : decode cX9_advance 93 = .ok (.invokevirtual 54, 3) := by decide +kernel
theorem dX9_advance_96 : decode cX9_advance 96 = .ok (.goto 28, 3) := by decide +kernel
theorem dX9_advance_99 : decode cX9_advance 99 = .ok (.aload_n 0, 1) := by decide +kernel
theorem dX9_advance_100 : decode cX9_advance 100 = .ok (.aload_n 0, 1) := by decide +kernel
theorem dX9_advance_101 : decode cX9_advance 101 = .ok (.getfield 34, 3) := by decide +kernel
theorem dX9_advance_104 : decode cX9_advance 104 = .ok (.invokevirtual 43, 3) := by decide +kernel
theorem dX9_advance_107 : decode cX9_advance 107 = .ok (.invokestatic 57, 3) := by decide +kernel
theorem dX9_advance_110 : decode cX9_advance 110 = .ok (.ifCond .eq 10, 3) := by decide +kernel
theorem dX9_advance_113 : decode cX9_advance 113 = .ok (.aload_n 0, 1) := by decide +kernel
theorem dX9_advance_114 : decode cX9_advance 114 = .ok (.invokevirtual 60, 3) := by decide +kernel
theorem dX9_advance_117 : decode cX9_advance 117 = .ok (.goto 7, 3) := by decide +kernel
theorem dX9_advance_120 : decode cX9_advance 120 = .ok (.aload_n 0, 1) := by decide +kernel
theorem dX9_advance_121 : decode cX9_advance 121 = .ok (.invokevirtual 63, 3) := by decide +kernel
theorem dX9_advance_124 : decode cX9_advance 124 = .ok (.return_, 1) := by decide +kernel
theorem dX9_byteAt_0 : decode cX9_byteAt 0 = .ok (.iload_n 1, 1) := by decide +kernel
theorem dX9_byteAt_1 : decode cX9_byteAt 1 = .ok (.ifCond .lt 29, 3) := by decide +kernel
theorem dX9_byteAt_4 : decode cX9_byteAt 4 = .ok (.iload_n 1, 1) := by decide +kernel
theorem dX9_byteAt_5 : decode cX9_byteAt 5 = .ok (.aload_n 0, 1) := by decide +kernel
theorem dX9_byteAt_6 : decode cX9_byteAt 6 = .ok (.getfield 31, 3) := by decide +kernel
theorem dX9_byteAt_9 : decode cX9_byteAt 9 = .ok (.if_icmp .ge 21, 3) := by decide +kernel
theorem dX9_byteAt_12 : decode cX9_byteAt 12 = .ok (.iload_n 1, 1) := by decide +kernel
theorem dX9_byteAt_13 : decode cX9_byteAt 13 = .ok (.aload_n 0, 1) := by decide +kernel
theorem dX9_byteAt_14 : decode cX9_byteAt 14 = .ok (.getfield 15, 3) := by decide +kernel
theorem dX9_byteAt_17 : decode cX9_byteAt 17 = .ok (.arraylength, 1) := by decide +kernel
theorem dX9_byteAt_18 : decode cX9_byteAt 18 = .ok (.if_icmp .ge 12, 3) := by decide +kernel
theorem dX9_byteAt_21 : decode cX9_byteAt 21 = .ok (.aload_n 0, 1) := by decide +kernel
theorem dX9_byteAt_22 : decode cX9_byteAt 22 = .ok (.getfield 15, 3) := by decide +kernel
theorem dX9_byteAt_25 : decode cX9_byteAt 25 = .ok (.iload_n 1, 1) := by decide +kernel
theorem dX9_byteAt_26 : decode cX9_byteAt 26 = .ok (.iaload, 1) := by decide +kernel
theorem dX9_byteAt_27 : decode cX9_byteAt 27 = .ok (.goto 4, 3) := by decide +kernel
theorem dX9_byteAt_30 : decode cX9_byteAt 30 = .ok (.iconst (-1), 1) := by decide +kernel
theorem dX9_byteAt_31 : decode cX9_byteAt 31 = .ok (.ireturn, 1) := by decide +kernel
theorem dX7_init_0 : decode cX7_init 0 = .ok (.aload_n 0, 1) := by decide +kernel
theorem dX7_init_1 : decode cX7_init 1 = .ok (.aload_n 1, 1) := by decide +kernel
theorem dX7_init_2 : decode cX7_init 2 = .ok (.aload_n 2, 1) := by decide +kernel
theorem dX7_init_3 : decode cX7_init 3 = .ok (.aload_n 3, 1) := by decide +kernel
theorem dX7_init_4 : decode cX7_init 4 = .ok (.invokespecial 3, 3) := by decide +kernel
theorem dX7_init_7 : decode cX7_init 7 = .ok (.aload_n 0, 1) := by decide +kernel
theorem dX7_init_8 : decode cX7_init 8 = .ok (.new 9, 3) := by decide +kernel
theorem dX7_init_11 : decode cX7_init 11 = .ok (.dup, 1) := by decide +kernel
theorem dX7_init_12 : decode cX7_init 12 = .ok (.invokespecial 11, 3) := by decide +kernel
theorem dX7_init_15 : decode cX7_init 15 = .ok (.putfield 14, 3) := by decide +kernel
theorem dX7_init_18 : decode cX7_init 18 = .ok (.return_, 1) := by decide +kernel
theorem dX7_translate_0 : decode cX7_translate 0 = .ok (.aload_n 0, 1) := by decide +kernel
theorem dX7_translate_1 : decode cX7_translate 1 = .ok (.getfield 20, 3) := by decide +kernel
theorem dX7_translate_4 : decode cX7_translate 4 = .ok (.invokevirtual 24, 3) := by decide +kernel
theorem dX7_translate_7 : decode cX7_translate 7 = .ok (.aload_n 0, 1) := by decide +kernel
theorem dX7_translate_8 : decode cX7_translate 8 = .ok (.getfield 29, 3) := by decide +kernel
theorem dX7_translate_11 : decode cX7_translate 11 = .ok (.iconst 0, 1) := by decide +kernel
theorem dX7_translate_12 : decode cX7_translate 12 = .ok (.putfield 33, 3) := by decide +kernel
theorem dX7_translate_15 : decode cX7_translate 15 = .ok (.aload_n 0, 1) := by decide +kernel
theorem dX7_translate_16 : decode cX7_translate 16 = .ok (.getfield 29, 3) := by decide +kernel
theorem dX7_translate_19 : decode cX7_translate 19 = .ok (.ldc2_w 39, 3) := by decide +kernel
theorem dX7_translate_22 : decode cX7_translate 22 = .ok (.aload_n 0, 1) := by decide +kernel
theorem dX7_translate_23 : decode cX7_translate 23 = .ok (.getfield 20, 3) := by decide +kernel
theorem dX7_translate_26 : decode cX7_translate 26 = .ok (.iconst 1, 1) := by decide +kernel
theorem dX7_translate_27 : decode cX7_translate 27 = .ok (.invokevirtual 41, 3) := by decide +kernel
theorem dX7_translate_30 : decode cX7_translate 30 = .ok (.iconst (-1), 1) := by decide +kernel
theorem dX7_translate_31 : decode cX7_translate 31 = .ok (.invokevirtual 45, 3) := by decide +kernel
theorem dX7_translate_34 : decode cX7_translate 34 = .ok (.aload_n 0, 1) := by decide +kernel
theorem dX7_translate_35 : decode cX7_translate 35 = .ok (.getfield 29, 3) := by decide +kernel
theorem dX7_translate_38 : decode cX7_translate 38 = .ok (.ldc2_w 49, 3) := by decide +kernel
theorem dX7_translate_41 : decode cX7_translate 41 = .ok (.aload_n 0, 1) := by decide +kernel
theorem dX7_translate_42 : decode cX7_translate 42 = .ok (.getfield 20, 3) := by decide +kernel
theorem dX7_translate_45 : decode cX7_translate 45 = .ok (.iconst 1, 1) := by decide +kernel
theorem dX7_translate_46 : decode cX7_translate 46 = .ok (.invokevirtual 41, 3) := by decide +kernel
theorem dX7_translate_49 : decode cX7_translate 49 = .ok (.iconst (-1), 1) := by decide +kernel
theorem dX7_translate_50 : decode cX7_translate 50 = .ok (.invokevirtual 45, 3) := by decide +kernel
theorem dX7_translate_53 : decode cX7_translate 53 = .ok (.aload_n 0, 1) := by decide +kernel
theorem dX7_translate_54 : decode cX7_translate 54 = .ok (.getfield 14, 3) := by decide +kernel
theorem dX7_translate_57 : decode cX7_translate 57 = .ok (.invokevirtual 51, 3) := by decide +kernel
theorem dX7_translate_60 : decode cX7_translate 60 = .ok (.aload_n 0, 1) := by decide +kernel
theorem dX7_translate_61 : decode cX7_translate 61 = .ok (.iconst 0, 1) := by decide +kernel
theorem dX7_translate_62 : decode cX7_translate 62 = .ok (.putfield 52, 3) := by decide +kernel
theorem dX7_translate_65 : decode cX7_translate 65 = .ok (.aload_n 0, 1) := by decide +kernel
theorem dX7_translate_66 : decode cX7_translate 66 = .ok (.iconst 0, 1) := by decide +kernel
theorem dX7_translate_67 : decode cX7_translate 67 = .ok (.putfield 55, 3) := by decide +kernel
theorem dX7_translate_70 : decode cX7_translate 70 = .ok (.aload_n 0, 1) := by decide +kernel
theorem dX7_translate_71 : decode cX7_translate 71 = .ok (.iconst 0, 1) := by decide +kernel
theorem dX7_translate_72 : decode cX7_translate 72 = .ok (.putfield 58, 3) := by decide +kernel
theorem dX7_translate_75 : decode cX7_translate 75 = .ok (.aload_n 0, 1) := by decide +kernel
theorem dX7_translate_76 : decode cX7_translate 76 = .ok (.iconst 1, 1) := by decide +kernel
theorem dX7_translate_77 : decode cX7_translate 77 = .ok (.putfield 61, 3) := by decide +kernel
theorem dX7_translate_80 : decode cX7_translate 80 = .ok (.aload_n 0, 1) := by decide +kernel
theorem dX7_translate_81 : decode cX7_translate 81 = .ok (.iconst (-1), 1) := by decide +kernel
theorem dX7_translate_82 : decode cX7_translate 82 = .ok (.putfield 65, 3) := by decide +kernel
theorem dX7_translate_85 : decode cX7_translate 85 = .ok (.aload_n 0, 1) := by decide +kernel
theorem dX7_translate_86 : decode cX7_translate 86 = .ok (.iconst 0, 1) := by decide +kernel
theorem dX7_translate_87 : decode cX7_translate 87 = .ok (.putfield 68, 3) := by decide +kernel
theorem dX7_translate_90 : decode cX7_translate 90 = .ok (.aload_n 0, 1) := by decide +kernel
theorem dX7_translate_91 : decode cX7_translate 91 = .ok (.getfield 71, 3) := by decide +kernel
theorem dX7_translate_94 : decode cX7_translate 94 = .ok (.iload_n 1, 1) := by decide +kernel
theorem dX7_translate_95 : decode cX7_translate 95 = .ok (.invokevirtual 75, 3) := by decide +kernel
theorem dX7_translate_98 : decode cX7_translate 98 = .ok (.aload_n 0, 1) := by decide +kernel
theorem dX7_translate_99 : decode cX7_translate 99 = .ok (.getfield 14, 3) := by decide +kernel
theorem dX7_translate_102 : decode cX7_translate 102 = .ok (.sipush 300, 3) := by decide +kernel
theorem dX7_translate_105 : decode cX7_translate 105 = .ok (.iconst 0, 1) := by decide +kernel
theorem dX7_translate_106 : decode cX7_translate 106 = .ok (.aload_n 0, 1) := by decide +kernel
theorem dX7_translate_107 : decode cX7_translate 107 = .ok (.getfield 29, 3) := by decide +kernel
theorem dX7_translate_110 : decode cX7_translate 110 = .ok (.getfield 33, 3) := by decide +kernel
theorem dX7_translate_113 : decode cX7_translate 113 = .ok (.invokevirtual 81, 3) := by decide +kernel
theorem dX7_translate_116 : decode cX7_translate 116 = .ok (.pop, 1) := by decide +kernel
theorem dX7_translate_117 : decode cX7_translate 117 = .ok (.aload_n 0, 1) := by decide +kernel
theorem dX7_translate_118 : decode cX7_translate 118 = .ok (.iconst 0, 1) := by decide +kernel
theorem dX7_translate_119 : decode cX7_translate 119 = .ok (.invokevirtual 85, 3) := by decide +kernel
theorem dX7_translate_122 : decode cX7_translate 122 = .ok (.aload_n 0, 1) := by decide +kernel
theorem dX7_translate_123 : decode cX7_translate 123 = .ok (.getfield 65, 3) := by decide +kernel
theorem dX7_translate_126 : decode cX7_translate 126 = .ok (.ifCond .lt 13, 3) := by decide +kernel
theorem dX7_translate_129 : decode cX7_translate 129 = .ok (.aload_n 0, 1) := by decide +kernel
theorem dX7_translate_130 : decode cX7_translate 130 = .ok (.bipush 7, 2) := by decide +kernel
theorem dX7_translate_132 : decode cX7_translate 132 = .ok (.aload_n 0, 1) := by decide +kernel
theorem dX7_translate_133 : decode cX7_translate 133 = .ok (.getfield 65, 3) := by decide +kernel
theorem dX7_translate_136 : decode cX7_translate 136 = .ok (.invokevirtual 88, 3) := by decide +kernel
theorem dX7_translate_139 : decode cX7_translate 139 = .ok (.aload_n 0, 1) := by decide +kernel
theorem dX7_translate_140 : decode cX7_translate 140 = .ok (.getfield 52, 3) := by decide +kernel
theorem dX7_translate_143 : decode cX7_translate 143 = .ok (.ireturn, 1) := by decide +kernel
theorem dX7_turns_0 : decode cX7_turns 0 = .ok (.iconst 0, 1) := by decide +kernel
theorem dX7_turns_1 : decode cX7_turns 1 = .ok (.istore_n 2, 1) := by decide +kernel
theorem dX7_turns_2 : decode cX7_turns 2 = .ok (.iload_n 2, 1) := by decide +kernel
theorem dX7_turns_3 : decode cX7_turns 3 = .ok (.sipush 10000, 3) := by decide +kernel
theorem dX7_turns_6 : decode cX7_turns 6 = .ok (.if_icmp .ge 158, 3) := by decide +kernel
theorem dX7_turns_9 : decode cX7_turns 9 = .ok (.aload_n 0, 1) := by decide +kernel
theorem dX7_turns_10 : decode cX7_turns 10 = .ok (.getfield 52, 3) := by decide +kernel
theorem dX7_turns_13 : decode cX7_turns 13 = .ok (.ifCond .ne 151, 3) := by decide +kernel
theorem dX7_turns_16 : decode cX7_turns 16 = .ok (.aload_n 0, 1) := by decide +kernel
theorem dX7_turns_17 : decode cX7_turns 17 = .ok (.getfield 14, 3) := by decide +kernel
theorem dX7_turns_20 : decode cX7_turns 20 = .ok (.getfield 92, 3) := by decide +kernel
theorem dX7_turns_23 : decode cX7_turns 23 = .ok (.iload_n 1, 1) := by decide +kernel
theorem dX7_turns_24 : decode cX7_turns 24 = .ok (.if_icmp .le 140, 3) := by decide +kernel
