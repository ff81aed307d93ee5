theorem dX10_isKind_6 : decode cX10_isKind 6 = .ok (.getfield 24, 3) := by decide +kernel
theorem dX10_isKind_9 : decode cX10_isKind 9 = .ok (.if_icmp .ge 7, 3) := by decide +kernel
theorem dX10_isKind_12 : decode cX10_isKind 12 = .ok (.iconst 1, 1) := by decide +kernel
theorem dX10_isKind_13 : decode cX10_isKind 13 = .ok (.goto 4, 3) := by decide +kernel
theorem dX10_isKind_16 : decode cX10_isKind 16 = .ok (.iconst 0, 1) := by decide +kernel
theorem dX10_isKind_17 : decode cX10_isKind 17 = .ok (.ireturn, 1) := by decide +kernel
theorem dX10_isFull_0 : decode cX10_isFull 0 = .ok (.aload_n 0, 1) := by decide +kernel
theorem dX10_isFull_1 : decode cX10_isFull 1 = .ok (.getfield 24, 3) := by decide +kernel
theorem dX10_isFull_4 : decode cX10_isFull 4 = .ok (.bipush 12, 2) := by decide +kernel
theorem dX10_isFull_6 : decode cX10_isFull 6 = .ok (.if_icmp .lt 7, 3) := by decide +kernel
theorem dX10_isFull_9 : decode cX10_isFull 9 = .ok (.iconst 1, 1) := by decide +kernel
theorem dX10_isFull_10 : decode cX10_isFull 10 = .ok (.goto 4, 3) := by decide +kernel
theorem dX10_isFull_13 : decode cX10_isFull 13 = .ok (.iconst 0, 1) := by decide +kernel
theorem dX10_isFull_14 : decode cX10_isFull 14 = .ok (.ireturn, 1) := by decide +kernel
theorem dX10_addKind_0 : decode cX10_addKind 0 = .ok (.aload_n 0, 1) := by decide +kernel
theorem dX10_addKind_1 : decode cX10_addKind 1 = .ok (.getfield 9, 3) := by decide +kernel
theorem dX10_addKind_4 : decode cX10_addKind 4 = .ok (.aload_n 0, 1) := by decide +kernel
theorem dX10_addKind_5 : decode cX10_addKind 5 = .ok (.getfield 24, 3) := by decide +kernel
theorem dX10_addKind_8 : decode cX10_addKind 8 = .ok (.iload_n 1, 1) := by decide +kernel
theorem dX10_addKind_9 : decode cX10_addKind 9 = .ok (.invokestatic 28, 3) := by decide +kernel
theorem dX10_addKind_12 : decode cX10_addKind 12 = .ok (.aload_n 0, 1) := by decide +kernel
theorem dX10_addKind_13 : decode cX10_addKind 13 = .ok (.dup, 1) := by decide +kernel
theorem dX10_addKind_14 : decode cX10_addKind 14 = .ok (.getfield 24, 3) := by decide +kernel
theorem dX10_addKind_17 : decode cX10_addKind 17 = .ok (.iconst 1, 1) := by decide +kernel
theorem dX10_addKind_18 : decode cX10_addKind 18 = .ok (.iadd, 1) := by decide +kernel
theorem dX10_addKind_19 : decode cX10_addKind 19 = .ok (.putfield 24, 3) := by decide +kernel
theorem dX10_addKind_22 : decode cX10_addKind 22 = .ok (.aload_n 0, 1) := by decide +kernel
theorem dX10_addKind_23 : decode cX10_addKind 23 = .ok (.getfield 24, 3) := by decide +kernel
theorem dX10_addKind_26 : decode cX10_addKind 26 = .ok (.iconst 1, 1) := by decide +kernel
theorem dX10_addKind_27 : decode cX10_addKind 27 = .ok (.isub, 1) := by decide +kernel
theorem dX10_addKind_28 : decode cX10_addKind 28 = .ok (.ireturn, 1) := by decide +kernel
theorem dX10_isUnder_0 : decode cX10_isUnder 0 = .ok (.iload_n 1, 1) := by decide +kernel
theorem dX10_isUnder_1 : decode cX10_isUnder 1 = .ok (.istore_n 3, 1) := by decide +kernel
theorem dX10_isUnder_2 : decode cX10_isUnder 2 = .ok (.iconst 0, 1) := by decide +kernel
theorem dX10_isUnder_3 : decode cX10_isUnder 3 = .ok (.istore 4, 2) := by decide +kernel
theorem dX10_isUnder_5 : decode cX10_isUnder 5 = .ok (.iload 4, 2) := by decide +kernel
theorem dX10_isUnder_7 : decode cX10_isUnder 7 = .ok (.bipush 12, 2) := by decide +kernel
theorem dX10_isUnder_9 : decode cX10_isUnder 9 = .ok (.if_icmp .ge 29, 3) := by decide +kernel
theorem dX10_isUnder_12 : decode cX10_isUnder 12 = .ok (.iload_n 3, 1) := by decide +kernel
theorem dX10_isUnder_13 : decode cX10_isUnder 13 = .ok (.ifCond .lt 25, 3) := by decide +kernel
theorem dX10_isUnder_16 : decode cX10_isUnder 16 = .ok (.iload_n 3, 1) := by decide +kernel
theorem dX10_isUnder_17 : decode cX10_isUnder 17 = .ok (.iload_n 2, 1) := by decide +kernel
theorem dX10_isUnder_18 : decode cX10_isUnder 18 = .ok (.if_icmp .ne 5, 3) := by decide +kernel
theorem dX10_isUnder_21 : decode cX10_isUnder 21 = .ok (.iconst 1, 1) := by decide +kernel
theorem dX10_isUnder_22 : decode cX10_isUnder 22 = .ok (.ireturn, 1) := by decide +kernel
theorem dX10_isUnder_23 : decode cX10_isUnder 23 = .ok (.aload_n 0, 1) := by decide +kernel
theorem dX10_isUnder_24 : decode cX10_isUnder 24 = .ok (.getfield 9, 3) := by decide +kernel
theorem dX10_isUnder_27 : decode cX10_isUnder 27 = .ok (.iload_n 3, 1) := by decide +kernel
theorem dX10_isUnder_28 : decode cX10_isUnder 28 = .ok (.invokestatic 32, 3) := by decide +kernel
theorem dX10_isUnder_31 : decode cX10_isUnder 31 = .ok (.istore_n 3, 1) := by decide +kernel
theorem dX10_isUnder_32 : decode cX10_isUnder 32 = .ok (.iinc 4 1, 3) := by decide +kernel
theorem dX10_isUnder_35 : decode cX10_isUnder 35 = .ok (.goto (-30), 3) := by decide +kernel
theorem dX10_isUnder_38 : decode cX10_isUnder 38 = .ok (.iconst 0, 1) := by decide +kernel
theorem dX10_isUnder_39 : decode cX10_isUnder 39 = .ok (.ireturn, 1) := by decide +kernel
theorem dX10_tellResource_0 : decode cX10_tellResource 0 = .ok (.aload_n 0, 1) := by decide +kernel
theorem dX10_tellResource_1 : decode cX10_tellResource 1 = .ok (.getfield 15, 3) := by decide +kernel
theorem dX10_tellResource_4 : decode cX10_tellResource 4 = .ok (.iload_n 1, 1) := by decide +kernel
theorem dX10_tellResource_5 : decode cX10_tellResource 5 = .ok (.iload_n 2, 1) := by decide +kernel
theorem dX10_tellResource_6 : decode cX10_tellResource 6 = .ok (.invokestatic 28, 3) := by decide +kernel
theorem dX10_tellResource_9 : decode cX10_tellResource 9 = .ok (.aload_n 0, 1) := by decide +kernel
theorem dX10_tellResource_10 : decode cX10_tellResource 10 = .ok (.getfield 18, 3) := by decide +kernel
theorem dX10_tellResource_13 : decode cX10_tellResource 13 = .ok (.iload_n 1, 1) := by decide +kernel
theorem dX10_tellResource_14 : decode cX10_tellResource 14 = .ok (.iload_n 3, 1) := by decide +kernel
theorem dX10_tellResource_15 : decode cX10_tellResource 15 = .ok (.invokestatic 28, 3) := by decide +kernel
theorem dX10_tellResource_18 : decode cX10_tellResource 18 = .ok (.aload_n 0, 1) := by decide +kernel
theorem dX10_tellResource_19 : decode cX10_tellResource 19 = .ok (.getfield 21, 3) := by decide +kernel
theorem dX10_tellResource_22 : decode cX10_tellResource 22 = .ok (.iload_n 1, 1) := by decide +kernel
theorem dX10_tellResource_23 : decode cX10_tellResource 23 = .ok (.iload 4, 2) := by decide +kernel
theorem dX10_tellResource_25 : decode cX10_tellResource 25 = .ok (.invokestatic 28, 3) := by decide +kernel
theorem dX10_tellResource_28 : decode cX10_tellResource 28 = .ok (.return_, 1) := by decide +kernel
theorem dX11_feed_0 : decode cX11_feed 0 = .ok (.aload_n 0, 1) := by decide +kernel
theorem dX11_feed_1 : decode cX11_feed 1 = .ok (.getfield 50, 3) := by decide +kernel
theorem dX11_feed_4 : decode cX11_feed 4 = .ok (.bipush 20, 2) := by decide +kernel
theorem dX11_feed_6 : decode cX11_feed 6 = .ok (.iadd, 1) := by decide +kernel
theorem dX11_feed_7 : decode cX11_feed 7 = .ok (.sipush 900, 3) := by decide +kernel
theorem dX11_feed_10 : decode cX11_feed 10 = .ok (.if_icmp .le 6, 3) := by decide +kernel
theorem dX11_feed_13 : decode cX11_feed 13 = .ok (.bipush (-2), 2) := by decide +kernel
theorem dX11_feed_15 : decode cX11_feed 15 = .ok (.ireturn, 1) := by decide +kernel
theorem dX11_feed_16 : decode cX11_feed 16 = .ok (.aload_n 0, 1) := by decide +kernel
theorem dX11_feed_17 : decode cX11_feed 17 = .ok (.iload_n 1, 1) := by decide +kernel
theorem dX11_feed_18 : decode cX11_feed 18 = .ok (.invokevirtual 54, 3) := by decide +kernel
theorem dX11_feed_21 : decode cX11_feed 21 = .ok (.aload_n 0, 1) := by decide +kernel
theorem dX11_feed_22 : decode cX11_feed 22 = .ok (.iload_n 2, 1) := by decide +kernel
theorem dX11_feed_23 : decode cX11_feed 23 = .ok (.invokevirtual 54, 3) := by decide +kernel
theorem dX11_feed_26 : decode cX11_feed 26 = .ok (.aload_n 0, 1) := by decide +kernel
theorem dX11_feed_27 : decode cX11_feed 27 = .ok (.iload_n 3, 1) := by decide +kernel
theorem dX11_feed_28 : decode cX11_feed 28 = .ok (.invokevirtual 54, 3) := by decide +kernel
theorem dX11_feed_31 : decode cX11_feed 31 = .ok (.aload_n 0, 1) := by decide +kernel
theorem dX11_feed_32 : decode cX11_feed 32 = .ok (.iload 4, 2) := by decide +kernel
theorem dX11_feed_34 : decode cX11_feed 34 = .ok (.invokevirtual 54, 3) := by decide +kernel
theorem dX11_feed_37 : decode cX11_feed 37 = .ok (.aload_n 0, 1) := by decide +kernel
theorem dX11_feed_38 : decode cX11_feed 38 = .ok (.iload 5, 2) := by decide +kernel
theorem dX11_feed_40 : decode cX11_feed 40 = .ok (.invokevirtual 54, 3) := by decide +kernel
theorem dX11_feed_43 : decode cX11_feed 43 = .ok (.aload_n 0, 1) := by decide +kernel
theorem dX11_feed_44 : decode cX11_feed 44 = .ok (.getfield 50, 3) := by decide +kernel
theorem dX11_feed_47 : decode cX11_feed 47 = .ok (.ireturn, 1) := by decide +kernel
theorem dX11_addBytes_0 : decode cX11_addBytes 0 = .ok (.bipush 24, 2) := by decide +kernel
theorem dX11_addBytes_2 : decode cX11_addBytes 2 = .ok (.istore_n 2, 1) := by decide +kernel
theorem dX11_addBytes_3 : decode cX11_addBytes 3 = .ok (.iload_n 2, 1) := by decide +kernel
theorem dX11_addBytes_4 : decode cX11_addBytes 4 = .ok (.ifCond .lt 37, 3) := by decide +kernel
theorem dX11_addBytes_7 : decode cX11_addBytes 7 = .ok (.aload_n 0, 1) := by decide +kernel
theorem dX11_addBytes_8 : decode cX11_addBytes 8 = .ok (.getfield 9, 3) := by decide +kernel
theorem dX11_addBytes_11 : decode cX11_addBytes 11 = .ok (.aload_n 0, 1) := by decide +kernel
theorem dX11_addBytes_12 : decode cX11_addBytes 12 = .ok (.getfield 50, 3) := by decide +kernel
theorem dX11_addBytes_15 : decode cX11_addBytes 15 = .ok (.iload_n 1, 1) := by decide +kernel
theorem dX11_addBytes_16 : decode cX11_addBytes 16 = .ok (.iload_n 2, 1) := by decide +kernel
theorem dX11_addBytes_17 : decode cX11_addBytes 17 = .ok (.iushr, 1) := by decide +kernel
theorem dX11_addBytes_18 : decode cX11_addBytes 18 = .ok (.sipush 255, 3) := by decide +kernel
theorem dX11_addBytes_21 : decode cX11_addBytes 21 = .ok (.iand, 1) := by decide +kernel
theorem dX11_addBytes_22 : decode cX11_addBytes 22 = .ok (.invokestatic 58, 3) := by decide +kernel
theorem dX11_addBytes_25 : decode cX11_addBytes 25 = .ok (.aload_n 0, 1) := by decide +kernel
theorem dX11_addBytes_26 : decode cX11_addBytes 26 = .ok (.dup, 1) := by decide +kernel
theorem dX11_addBytes_27 : decode cX11_addBytes 27 = .ok (.getfield 50, 3) := by decide +kernel
theorem dX11_addBytes_30 : decode cX11_addBytes 30 = .ok (.iconst 1, 1) := by decide +kernel
theorem dX11_addBytes_31 : decode cX11_addBytes 31 = .ok (.iadd, 1) := by decide +kernel
theorem dX11_addBytes_32 : decode cX11_addBytes 32 = .ok (.putfield 50, 3) := by decide +kernel
theorem dX11_addBytes_35 : decode cX11_addBytes 35 = .ok (.iinc 2 (-8), 3) := by decide +kernel
theorem dX11_addBytes_38 : decode cX11_addBytes 38 = .ok (.goto (-35), 3) := by decide +kernel
theorem dX11_addBytes_41 : decode cX11_addBytes 41 = .ok (.return_, 1) := by decide +kernel
theorem dX11_cut_0 : decode cX11_cut 0 = .ok (.iload_n 1, 1) := by decide +kernel
theorem dX11_cut_1 : decode cX11_cut 1 = .ok (.ifCond .lt 11, 3) := by decide +kernel
theorem dX11_cut_4 : decode cX11_cut 4 = .ok (.iload_n 1, 1) := by decide +kernel
theorem dX11_cut_5 : decode cX11_cut 5 = .ok (.aload_n 0, 1) := by decide +kernel
theorem dX11_cut_6 : decode cX11_cut 6 = .ok (.getfield 50, 3) := by decide +kernel
theorem dX11_cut_9 : decode cX11_cut 9 = .ok (.if_icmp .le 5, 3) := by decide +kernel
theorem dX11_cut_12 : decode cX11_cut 12 = .ok (.iconst (-1), 1) := by decide +kernel
theorem dX11_cut_13 : decode cX11_cut 13 = .ok (.ireturn, 1) := by decide +kernel
theorem dX11_cut_14 : decode cX11_cut 14 = .ok (.aload_n 0, 1) := by decide +kernel
theorem dX11_cut_15 : decode cX11_cut 15 = .ok (.getfield 50, 3) := by decide +kernel
theorem dX11_cut_18 : decode cX11_cut 18 = .ok (.iload_n 1, 1) := by decide +kernel
theorem dX11_cut_19 : decode cX11_cut 19 = .ok (.isub, 1) := by decide +kernel
theorem dX11_cut_20 : decode cX11_cut 20 = .ok (.istore_n 2, 1) := by decide +kernel
theorem dX11_cut_21 : decode cX11_cut 21 = .ok (.aload_n 0, 1) := by decide +kernel
theorem dX11_cut_22 : decode cX11_cut 22 = .ok (.iload_n 1, 1) := by decide +kernel
theorem dX11_cut_23 : decode cX11_cut 23 = .ok (.putfield 50, 3) := by decide +kernel
theorem dX11_cut_26 : decode cX11_cut 26 = .ok (.iload_n 2, 1) := by decide +kernel
theorem dX11_cut_27 : decode cX11_cut 27 = .ok (.ireturn, 1) := by decide +kernel
theorem dX11_kind_0 : decode cX11_kind 0 = .ok (.aload_n 0, 1) := by decide +kernel
theorem dX11_kind_1 : decode cX11_kind 1 = .ok (.getfield 16, 3) := by decide +kernel
theorem dX11_kind_4 : decode cX11_kind 4 = .ok (.iload_n 1, 1) := by decide +kernel
theorem dX11_kind_5 : decode cX11_kind 5 = .ok (.invokevirtual 62, 3) := by decide +kernel
theorem dX11_kind_8 : decode cX11_kind 8 = .ok (.ifCond .ne 5, 3) := by decide +kernel
theorem dX11_kind_11 : decode cX11_kind 11 = .ok (.iconst (-1), 1) := by decide +kernel
theorem dX11_kind_12 : decode cX11_kind 12 = .ok (.ireturn, 1) := by decide +kernel
theorem dX11_kind_13 : decode cX11_kind 13 = .ok (.aload_n 0, 1) := by decide +kernel
theorem dX11_kind_14 : decode cX11_kind 14 = .ok (.getfield 16, 3) := by decide +kernel
theorem dX11_kind_17 : decode cX11_kind 17 = .ok (.invokevirtual 66, 3) := by decide +kernel
theorem dX11_kind_20 : decode cX11_kind 20 = .ok (.ifCond .eq 8, 3) := by decide +kernel
theorem dX11_kind_23 : decode cX11_kind 23 = .ok (.bipush (-2), 2) := by decide +kernel
theorem dX11_kind_25 : decode cX11_kind 25 = .ok (.goto 11, 3) := by decide +kernel
theorem dX11_kind_28 : decode cX11_kind 28 = .ok (.aload_n 0, 1) := by decide +kernel
theorem dX11_kind_29 : decode cX11_kind 29 = .ok (.getfield 16, 3) := by decide +kernel
theorem dX11_kind_32 : decode cX11_kind 32 = .ok (.iload_n 1, 1) := by decide +kernel
theorem dX11_kind_33 : decode cX11_kind 33 = .ok (.invokevirtual 70, 3) := by decide +kernel
theorem dX11_kind_36 : decode cX11_kind 36 = .ok (.ireturn, 1) := by decide +kernel
theorem dX11_resource_0 : decode cX11_resource 0 = .ok (.iload_n 1, 1) := by decide +kernel
theorem dX11_resource_1 : decode cX11_resource 1 = .ok (.ifCond .lt 18, 3) := by decide +kernel
theorem dX11_resource_4 : decode cX11_resource 4 = .ok (.iload_n 1, 1) := by decide +kernel
theorem dX11_resource_5 : decode cX11_resource 5 = .ok (.bipush 8, 2) := by decide +kernel
theorem dX11_resource_7 : decode cX11_resource 7 = .ok (.if_icmp .ge 12, 3) := by decide +kernel
theorem dX11_resource_10 : decode cX11_resource 10 = .ok (.iload_n 2, 1) := by decide +kernel
theorem dX11_resource_11 : decode cX11_resource 11 = .ok (.ifCond .lt 8, 3) := by decide +kernel
theorem dX11_resource_14 : decode cX11_resource 14 = .ok (.iload_n 2, 1) := by decide +kernel
theorem dX11_resource_15 : decode cX11_resource 15 = .ok (.iconst 1, 1) := by decide +kernel
theorem dX11_resource_16 : decode cX11_resource 16 = .ok (.if_icmp .le 5, 3) := by decide +kernel
theorem dX11_resource_19 : decode cX11_resource 19 = .ok (.iconst (-1), 1) := by decide +kernel
theorem dX11_resource_20 : decode cX11_resource 20 = .ok (.ireturn, 1) := by decide +kernel
theorem dX11_resource_21 : decode cX11_resource 21 = .ok (.aload_n 0, 1) := by decide +kernel
theorem dX11_resource_22 : decode cX11_resource 22 = .ok (.iload_n 3, 1) := by decide +kernel
theorem dX11_resource_23 : decode cX11_resource 23 = .ok (.invokevirtual 74, 3) := by decide +kernel
theorem dX11_resource_26 : decode cX11_resource 26 = .ok (.ifCond .eq 12, 3) := by decide +kernel
theorem dX11_resource_29 : decode cX11_resource 29 = .ok (.aload_n 0, 1) := by decide +kernel
theorem dX11_resource_30 : decode cX11_resource 30 = .ok (.iload 4, 2) := by decide +kernel
theorem dX11_resource_32 : decode cX11_resource 32 = .ok (.invokevirtual 74, 3) := by decide +kernel
theorem dX11_resource_35 : decode cX11_resource 35 = .ok (.ifCond .ne 5, 3) := by decide +kernel
theorem dX11_resource_38 : decode cX11_resource 38 = .ok (.iconst (-1), 1) := by decide +kernel
theorem dX11_resource_39 : decode cX11_resource 39 = .ok (.ireturn, 1) := by decide +kernel
theorem dX11_resource_40 : decode cX11_resource 40 = .ok (.aload_n 0, 1) := by decide +kernel
theorem dX11_resource_41 : decode cX11_resource 41 = .ok (.getfield 16, 3) := by decide +kernel
theorem dX11_resource_44 : decode cX11_resource 44 = .ok (.iload_n 1, 1) := by decide +kernel
theorem dX11_resource_45 : decode cX11_resource 45 = .ok (.iload_n 2, 1) := by decide +kernel
theorem dX11_resource_46 : decode cX11_resource 46 = .ok (.iload_n 3, 1) := by decide +kernel
theorem dX11_resource_47 : decode cX11_resource 47 = .ok (.iload 4, 2) := by decide +kernel
theorem dX11_resource_49 : decode cX11_resource 49 = .ok (.invokevirtual 77, 3) := by decide +kernel
theorem dX11_resource_52 : decode cX11_resource 52 = .ok (.iconst 1, 1) := by decide +kernel
theorem dX11_resource_53 : decode cX11_resource 53 = .ok (.ireturn, 1) := by decide +kernel
theorem dX11_isKindOrNothing_0 : decode cX11_isKindOrNothing 0 = .ok (.iload_n 1, 1) := by decide +kernel
theorem dX11_isKindOrNothing_1 : decode cX11_isKindOrNothing 1 = .ok (.iconst (-1), 1) := by decide +kernel
theorem dX11_isKindOrNothing_2 : decode cX11_isKindOrNothing 2 = .ok (.if_icmp .eq 14, 3) := by decide +kernel
theorem dX11_isKindOrNothing_5 : decode cX11_isKindOrNothing 5 = .ok (.aload_n 0, 1) := by decide +kernel
theorem dX11_isKindOrNothing_6 : decode cX11_isKindOrNothing 6 = .ok (.getfield 16, 3) := by decide +kernel
theorem dX11_isKindOrNothing_9 : decode cX11_isKindOrNothing 9 = .ok (.iload_n 1, 1) := by decide +kernel
theorem dX11_isKindOrNothing_10 : decode cX11_isKindOrNothing 10 = .ok (.invokevirtual 62, 3) := by decide +kernel
theorem dX11_isKindOrNothing_13 : decode cX11_isKindOrNothing 13 = .ok (.ifCond .eq 7, 3) := by decide +kernel
theorem dX11_isKindOrNothing_16 : decode cX11_isKindOrNothing 16 = .ok (.iconst 1, 1) := by decide +kernel
theorem dX11_isKindOrNothing_17 : decode cX11_isKindOrNothing 17 = .ok (.goto 4, 3) := by decide +kernel
theorem dX11_isKindOrNothing_20 : decode cX11_isKindOrNothing 20 = .ok (.iconst 0, 1) := by decide +kernel
theorem dX11_isKindOrNothing_21 : decode cX11_isKindOrNothing 21 = .ok (.ireturn, 1) := by decide +kernel
theorem dX11_asserts_0 : decode cX11_asserts 0 = .ok (.aload_n 0, 1) := by decide +kernel
theorem dX11_asserts_1 : decode cX11_asserts 1 = .ok (.getfield 16, 3) := by decide +kernel
theorem dX11_asserts_4 : decode cX11_asserts 4 = .ok (.getfield 81, 3) := by decide +kernel
theorem dX11_asserts_7 : decode cX11_asserts 7 = .ok (.ifCond .eq 7, 3) := by decide +kernel
theorem dX11_asserts_10 : decode cX11_asserts 10 = .ok (.iconst 1, 1) := by decide +kernel
theorem dX11_asserts_11 : decode cX11_asserts 11 = .ok (.goto 4, 3) := by decide +kernel
theorem dX11_asserts_14 : decode cX11_asserts 14 = .ok (.iconst 0, 1) := by decide +kernel
theorem dX11_asserts_15 : decode cX11_asserts 15 = .ok (.istore_n 2, 1) := by decide +kernel
theorem dX11_asserts_16 : decode cX11_asserts 16 = .ok (.aload_n 0, 1) := by decide +kernel
theorem dX11_asserts_17 : decode cX11_asserts 17 = .ok (.getfield 16, 3) := by decide +kernel
theorem dX11_asserts_20 : decode cX11_asserts 20 = .ok (.iload_n 1, 1) := by decide +kernel
theorem dX11_asserts_21 : decode cX11_asserts 21 = .ok (.putfield 81, 3) := by decide +kernel
theorem dX11_asserts_24 : decode cX11_asserts 24 = .ok (.iload_n 2, 1) := by decide +kernel
theorem dX11_asserts_25 : decode cX11_asserts 25 = .ok (.ireturn, 1) := by decide +kernel
theorem dX11_read_0 : decode cX11_read 0 = .ok (.aload_n 0, 1) := by decide +kernel
theorem dX11_read_1 : decode cX11_read 1 = .ok (.getfield 50, 3) := by decide +kernel
theorem dX11_read_4 : decode cX11_read 4 = .ok (.istore_n 1, 1) := by decide +kernel
theorem dX11_read_5 : decode cX11_read 5 = .ok (.aload_n 0, 1) := by decide +kernel
theorem dX11_read_6 : decode cX11_read 6 = .ok (.iconst 0, 1) := by decide +kernel
theorem dX11_read_7 : decode cX11_read 7 = .ok (.putfield 50, 3) := by decide +kernel
theorem dX11_read_10 : decode cX11_read 10 = .ok (.aload_n 0, 1) := by decide +kernel
theorem dX11_read_11 : decode cX11_read 11 = .ok (.iconst 0, 1) := by decide +kernel
theorem dX11_read_12 : decode cX11_read 12 = .ok (.putfield 85, 3) := by decide +kernel
theorem dX11_read_15 : decode cX11_read 15 = .ok (.aload_n 0, 1) := by decide +kernel
theorem dX11_read_16 : decode cX11_read 16 = .ok (.aload_n 0, 1) := by decide +kernel
theorem dX11_read_17 : decode cX11_read 17 = .ok (.getfield 37, 3) := by decide +kernel
theorem dX11_read_20 : decode cX11_read 20 = .ok (.iload_n 1, 1) := by decide +kernel
theorem dX11_read_21 : decode cX11_read 21 = .ok (.invokevirtual 88, 3) := by decide +kernel
theorem dX11_read_24 : decode cX11_read 24 = .ok (.putfield 91, 3) := by decide +kernel
theorem dX11_read_27 : decode cX11_read 27 = .ok (.aload_n 0, 1) := by decide +kernel
theorem dX11_read_28 : decode cX11_read 28 = .ok (.aload_n 0, 1) := by decide +kernel
theorem dX11_read_29 : decode cX11_read 29 = .ok (.getfield 91, 3) := by decide +kernel
theorem dX11_read_32 : decode cX11_read 32 = .ok (.ifCond .ne 7, 3) := by decide +kernel
theorem dX11_read_35 : decode cX11_read 35 = .ok (.iconst 1, 1) := by decide +kernel
theorem dX11_read_36 : decode cX11_read 36 = .ok (.goto 4, 3) := by decide +kernel
theorem dX11_read_39 : decode cX11_read 39 = .ok (.iconst 0, 1) := by decide +kernel
theorem dX11_read_40 : decode cX11_read 40 = .ok (.putfield 94, 3) := by decide +kernel
theorem dX11_read_43 : decode cX11_read 43 = .ok (.aload_n 0, 1) := by decide +kernel
theorem dX11_read_44 : decode cX11_read 44 = .ok (.getfield 94, 3) := by decide +kernel
theorem dX11_read_47 : decode cX11_read 47 = .ok (.ifCond .eq 13, 3) := by decide +kernel
theorem dX11_read_50 : decode cX11_read 50 = .ok (.aload_n 0, 1) := by decide +kernel
theorem dX11_read_51 : decode cX11_read 51 = .ok (.getfield 23, 3) := by decide +kernel
theorem dX11_read_54 : decode cX11_read 54 = .ok (.getfield 97, 3) := by decide +kernel
theorem dX11_read_57 : decode cX11_read 57 = .ok (.goto 13, 3) := by decide +kernel
theorem dX11_read_60 : decode cX11_read 60 = .ok (.bipush (-10), 2) := by decide +kernel
theorem dX11_read_62 : decode cX11_read 62 = .ok (.aload_n 0, 1) := by decide +kernel
theorem dX11_read_63 : decode cX11_read 63 = .ok (.getfield 37, 3) := by decide +kernel
theorem dX11_read_66 : decode cX11_read 66 = .ok (.getfield 100, 3) := by decide +kernel
theorem dX11_read_69 : decode cX11_read 69 = .ok (.isub, 1) := by decide +kernel
theorem dX11_read_70 : decode cX11_read 70 = .ok (.ireturn, 1) := by decide +kernel
theorem dX11_fault_0 : decode cX11_fault 0 = .ok (.aload_n 0, 1) := by decide +kernel
theorem dX11_fault_1 : decode cX11_fault 1 = .ok (.getfield 91, 3) := by decide +kernel
theorem dX11_fault_4 : decode cX11_fault 4 = .ok (.ireturn, 1) := by decide +kernel
theorem dX11_program_0 : decode cX11_program 0 = .ok (.iload_n 1, 1) := by decide +kernel
theorem dX11_program_1 : decode cX11_program 1 = .ok (.ifCond .lt 8, 3) := by decide +kernel
theorem dX11_program_4 : decode cX11_program 4 = .ok (.iload_n 1, 1) := by decide +kernel
theorem dX11_program_5 : decode cX11_program 5 = .ok (.iconst 3, 1) := by decide +kernel
theorem dX11_program_6 : decode cX11_program 6 = .ok (.if_icmp .le 5, 3) := by decide +kernel
theorem dX11_program_9 : decode cX11_program 9 = .ok (.iconst (-1), 1) := by decide +kernel
theorem dX11_program_10 : decode cX11_program 10 = .ok (.ireturn, 1) := by decide +kernel
theorem dX11_program_11 : decode cX11_program 11 = .ok (.aload_n 0, 1) := by decide +kernel
theorem dX11_program_12 : decode cX11_program 12 = .ok (.getfield 94, 3) := by decide +kernel
theorem dX11_program_15 : decode cX11_program 15 = .ok (.ifCond .ne 6, 3) := by decide +kernel
theorem dX11_program_18 : decode cX11_program 18 = .ok (.bipush (-3), 2) := by decide +kernel
theorem dX11_program_20 : decode cX11_program 20 = .ok (.ireturn, 1) := by decide +kernel
theorem dX11_program_21 : decode cX11_program 21 = .ok (.iload_n 1, 1) := by decide +kernel
theorem dX11_program_22 : decode cX11_program 22 = .ok (.tableswitch 58 0 2 #[26, 34, 50], 26) := by decide +kernel
theorem dX11_program_48 : decode cX11_program 48 = .ok (.aload_n 0, 1) := by decide +kernel
theorem dX11_program_49 : decode cX11_program 49 = .ok (.getfield 23, 3) := by decide +kernel
theorem dX11_program_52 : decode cX11_program 52 = .ok (.getfield 97, 3) := by decide +kernel
theorem dX11_program_55 : decode cX11_program 55 = .ok (.ireturn, 1) := by decide +kernel
theorem dX11_program_56 : decode cX11_program 56 = .ok (.aload_n 0, 1) := by decide +kernel
theorem dX11_program_57 : decode cX11_program 57 = .ok (.getfield 23, 3) := by decide +kernel
theorem dX11_program_60 : decode cX11_program 60 = .ok (.getfield 103, 3) := by decide +kernel
theorem dX11_program_63 : decode cX11_program 63 = .ok (.ifCond .eq 7, 3) := by decide +kernel
theorem dX11_program_66 : decode cX11_program 66 = .ok (.iconst 1, 1) := by decide +kernel
theorem dX11_program_67 : decode cX11_program 67 = .ok (.goto 4, 3) := by decide +kernel
theorem dX11_program_70 : decode cX11_program 70 = .ok (.iconst 0, 1) := by decide +kernel
theorem dX11_program_71 : decode cX11_program 71 = .ok (.ireturn, 1) := by decide +kernel
theorem dX11_program_72 : decode cX11_program 72 = .ok (.aload_n 0, 1) := by decide +kernel
theorem dX11_program_73 : decode cX11_program 73 = .ok (.getfield 23, 3) := by decide +kernel
theorem dX11_program_76 : decode cX11_program 76 = .ok (.getfield 106, 3) := by decide +kernel
theorem dX11_program_79 : decode cX11_program 79 = .ok (.ireturn, 1) := by decide +kernel
theorem dX11_program_80 : decode cX11_program 80 = .ok (.aload_n 0, 1) := by decide +kernel
theorem dX11_program_81 : decode cX11_program 81 = .ok (.getfield 23, 3) := by decide +kernel
theorem dX11_program_84 : decode cX11_program 84 = .ok (.getfield 109, 3) := by decide +kernel
theorem dX11_program_87 : decode cX11_program 87 = .ok (.ireturn, 1) := by decide +kernel
theorem dX11_run_0 : decode cX11_run 0 = .ok (.aload_n 0, 1) := by decide +kernel
theorem dX11_run_1 : decode cX11_run 1 = .ok (.getfield 94, 3) := by decide +kernel
theorem dX11_run_4 : decode cX11_run 4 = .ok (.ifCond .ne 6, 3) := by decide +kernel
theorem dX11_run_7 : decode cX11_run 7 = .ok (.bipush (-3), 2) := by decide +kernel
theorem dX11_run_9 : decode cX11_run 9 = .ok (.ireturn, 1) := by decide +kernel
theorem dX11_run_10 : decode cX11_run 10 = .ok (.aload_n 0, 1) := by decide +kernel
theorem dX11_run_11 : decode cX11_run 11 = .ok (.iconst 1, 1) := by decide +kernel
theorem dX11_run_12 : decode cX11_run 12 = .ok (.putfield 85, 3) := by decide +kernel
theorem dX11_run_15 : decode cX11_run 15 = .ok (.aload_n 0, 1) := by decide +kernel
theorem dX11_run_16 : decode cX11_run 16 = .ok (.getfield 46, 3) := by decide +kernel
theorem dX11_run_19 : decode cX11_run 19 = .ok (.iload_n 1, 1) := by decide +kernel
theorem dX11_run_20 : decode cX11_run 20 = .ok (.iload_n 2, 1) := by decide +kernel
theorem dX11_run_21 : decode cX11_run 21 = .ok (.invokevirtual 112, 3) := by decide +kernel
theorem dX11_run_24 : decode cX11_run 24 = .ok (.ireturn, 1) := by decide +kernel
theorem dX11_ran_0 : decode cX11_ran 0 = .ok (.iload_n 1, 1) := by decide +kernel
theorem dX11_ran_1 : decode cX11_ran 1 = .ok (.ifCond .lt 9, 3) := by decide +kernel
theorem dX11_ran_4 : decode cX11_ran 4 = .ok (.iload_n 1, 1) := by decide +kernel
theorem dX11_ran_5 : decode cX11_ran 5 = .ok (.bipush 6, 2) := by decide +kernel
theorem dX11_ran_7 : decode cX11_ran 7 = .ok (.if_icmp .le 5, 3) := by decide +kernel
theorem dX11_ran_10 : decode cX11_ran 10 = .ok (.iconst (-1), 1) := by decide +kernel
theorem dX11_ran_11 : decode cX11_ran 11 = .ok (.ireturn, 1) := by decide +kernel
theorem dX11_ran_12 : decode cX11_ran 12 = .ok (.aload_n 0, 1) := by decide +kernel
theorem dX11_ran_13 : decode cX11_ran 13 = .ok (.getfield 85, 3) := by decide +kernel
theorem dX11_ran_16 : decode cX11_ran 16 = .ok (.ifCond .eq 14, 3) := by decide +kernel
theorem dX11_ran_19 : decode cX11_ran 19 = .ok (.aload_n 0, 1) := by decide +kernel
theorem dX11_ran_20 : decode cX11_ran 20 = .ok (.getfield 46, 3) := by decide +kernel
theorem dX11_ran_23 : decode cX11_ran 23 = .ok (.iload_n 1, 1) := by decide +kernel
theorem dX11_ran_24 : decode cX11_ran 24 = .ok (.invokevirtual 116, 3) := by decide +kernel
theorem dX11_ran_27 : decode cX11_ran 27 = .ok (.goto 5, 3) := by decide +kernel
theorem dX11_ran_30 : decode cX11_ran 30 = .ok (.bipush (-3), 2) := by decide +kernel
theorem dX11_ran_32 : decode cX11_ran 32 = .ok (.ireturn, 1) := by decide +kernel
theorem dX11_trace_0 : decode cX11_trace 0 = .ok (.aload_n 0, 1) := by decide +kernel
theorem dX11_trace_1 : decode cX11_trace 1 = .ok (.getfield 85, 3) := by decide +kernel
theorem dX11_trace_4 : decode cX11_trace 4 = .ok (.ifCond .eq 27, 3) := by decide +kernel
theorem dX11_trace_7 : decode cX11_trace 7 = .ok (.iload_n 1, 1) := by decide +kernel
theorem dX11_trace_8 : decode cX11_trace 8 = .ok (.ifCond .lt 23, 3) := by decide +kernel
theorem dX11_trace_11 : decode cX11_trace 11 = .ok (.iload_n 1, 1) := by decide +kernel
theorem dX11_trace_12 : decode cX11_trace 12 = .ok (.aload_n 0, 1) := by decide +kernel
theorem dX11_trace_13 : decode cX11_trace 13 = .ok (.getfield 46, 3) := by decide +kernel
theorem dX11_trace_16 : decode cX11_trace 16 = .ok (.getfield 119, 3) := by decide +kernel
theorem dX11_trace_19 : decode cX11_trace 19 = .ok (.if_icmp .ge 12, 3) := by decide +kernel
theorem dX11_trace_22 : decode cX11_trace 22 = .ok (.iload_n 2, 1) := by decide +kernel
theorem dX11_trace_23 : decode cX11_trace 23 = .ok (.ifCond .lt 8, 3) := by decide +kernel
theorem dX11_trace_26 : decode cX11_trace 26 = .ok (.iload_n 2, 1) := by decide +kernel
theorem dX11_trace_27 : decode cX11_trace 27 = .ok (.iconst 1, 1) := by decide +kernel
theorem dX11_trace_28 : decode cX11_trace 28 = .ok (.if_icmp .le 5, 3) := by decide +kernel
theorem dX11_trace_31 : decode cX11_trace 31 = .ok (.iconst (-1), 1) := by decide +kernel
theorem dX11_trace_32 : decode cX11_trace 32 = .ok (.ireturn, 1) := by decide +kernel
theorem dX11_trace_33 : decode cX11_trace 33 = .ok (.aload_n 0, 1) := by decide +kernel
theorem dX11_trace_34 : decode cX11_trace 34 = .ok (.getfield 46, 3) := by decide +kernel
theorem dX11_trace_37 : decode cX11_trace 37 = .ok (.getfield 122, 3) := by decide +kernel
theorem dX11_trace_40 : decode cX11_trace 40 = .ok (.iconst 2, 1) := by decide +kernel
theorem dX11_trace_41 : decode cX11_trace 41 = .ok (.iload_n 1, 1) := by decide +kernel
theorem dX11_trace_42 : decode cX11_trace 42 = .ok (.imul, 1) := by decide +kernel
theorem dX11_trace_43 : decode cX11_trace 43 = .ok (.iload_n 2, 1) := by decide +kernel
theorem dX11_trace_44 : decode cX11_trace 44 = .ok (.iadd, 1) := by decide +kernel
theorem dX11_trace_45 : decode cX11_trace 45 = .ok (.invokestatic 125, 3) := by decide +kernel
theorem dX11_trace_48 : decode cX11_trace 48 = .ok (.ireturn, 1) := by decide +kernel
theorem dX11_suppressed_0 : decode cX11_suppressed 0 = .ok (.aload_n 0, 1) := by decide +kernel
theorem dX11_suppressed_1 : decode cX11_suppressed 1 = .ok (.getfield 85, 3) := by decide +kernel
theorem dX11_suppressed_4 : decode cX11_suppressed 4 = .ok (.ifCond .eq 13, 3) := by decide +kernel
theorem dX11_suppressed_7 : decode cX11_suppressed 7 = .ok (.aload_n 0, 1) := by decide +kernel
theorem dX11_suppressed_8 : decode cX11_suppressed 8 = .ok (.getfield 46, 3) := by decide +kernel
theorem dX11_suppressed_11 : decode cX11_suppressed 11 = .ok (.invokevirtual 129, 3) := by decide +kernel
theorem dX11_suppressed_14 : decode cX11_suppressed 14 = .ok (.goto 4, 3) := by decide +kernel
theorem dX11_suppressed_17 : decode cX11_suppressed 17 = .ok (.aconst_null, 1) := by decide +kernel
theorem dX11_suppressed_18 : decode cX11_suppressed 18 = .ok (.astore_n 3, 1) := by decide +kernel
theorem dX11_suppressed_19 : decode cX11_suppressed 19 = .ok (.aload_n 3, 1) := by decide +kernel
theorem dX11_suppressed_20 : decode cX11_suppressed 20 = .ok (.ifnull 24, 3) := by decide +kernel
theorem dX11_suppressed_23 : decode cX11_suppressed 23 = .ok (.iload_n 1, 1) := by decide +kernel
theorem dX11_suppressed_24 : decode cX11_suppressed 24 = .ok (.ifCond .lt 20, 3) := by decide +kernel
theorem dX11_suppressed_27 : decode cX11_suppressed 27 = .ok (.iload_n 1, 1) := by decide +kernel
theorem dX11_suppressed_28 : decode cX11_suppressed 28 = .ok (.aload_n 3, 1) := by decide +kernel
theorem dX11_suppressed_29 : decode cX11_suppressed 29 = .ok (.getfield 133, 3) := by decide +kernel
theorem dX11_suppressed_32 : decode cX11_suppressed 32 = .ok (.if_icmp .ge 12, 3) := by decide +kernel
theorem dX11_suppressed_35 : decode cX11_suppressed 35 = .ok (.iload_n 2, 1) := by decide +kernel
theorem dX11_suppressed_36 : decode cX11_suppressed 36 = .ok (.ifCond .lt 8, 3) := by decide +kernel
theorem dX11_suppressed_39 : decode cX11_suppressed 39 = .ok (.iload_n 2, 1) := by decide +kernel
theorem dX11_suppressed_40 : decode cX11_suppressed 40 = .ok (.iconst 1, 1) := by decide +kernel
theorem dX11_suppressed_41 : decode cX11_suppressed 41 = .ok (.if_icmp .le 5, 3) := by decide +kernel
theorem dX11_suppressed_44 : decode cX11_suppressed 44 = .ok (.iconst (-1), 1) := by decide +kernel
theorem dX11_suppressed_45 : decode cX11_suppressed 45 = .ok (.ireturn, 1) := by decide +kernel
theorem dX11_suppressed_46 : decode cX11_suppressed 46 = .ok (.iload_n 2, 1) := by decide +kernel
theorem dX11_suppressed_47 : decode cX11_suppressed 47 = .ok (.ifCond .ne 10, 3) := by decide +kernel
theorem dX11_suppressed_50 : decode cX11_suppressed 50 = .ok (.aload_n 3, 1) := by decide +kernel
theorem dX11_suppressed_51 : decode cX11_suppressed 51 = .ok (.getfield 138, 3) := by decide +kernel
theorem dX11_suppressed_54 : decode cX11_suppressed 54 = .ok (.goto 7, 3) := by decide +kernel
theorem dX11_suppressed_57 : decode cX11_suppressed 57 = .ok (.aload_n 3, 1) := by decide +kernel
theorem dX11_suppressed_58 : decode cX11_suppressed 58 = .ok (.getfield 141, 3) := by decide +kernel
theorem dX11_suppressed_61 : decode cX11_suppressed 61 = .ok (.iload_n 1, 1) := by decide +kernel
theorem dX11_suppressed_62 : decode cX11_suppressed 62 = .ok (.invokestatic 125, 3) := by decide +kernel
theorem dX11_suppressed_65 : decode cX11_suppressed 65 = .ok (.ireturn, 1) := by decide +kernel
theorem dX11_under_0 : decode cX11_under 0 = .ok (.aload_n 0, 1) := by decide +kernel
theorem dX11_under_1 : decode cX11_under 1 = .ok (.getfield 16, 3) := by decide +kernel
theorem dX11_under_4 : decode cX11_under 4 = .ok (.iload_n 1, 1) := by decide +kernel
theorem dX11_under_5 : decode cX11_under 5 = .ok (.invokevirtual 62, 3) := by decide +kernel
theorem dX11_under_8 : decode cX11_under 8 = .ok (.ifCond .eq 14, 3) := by decide +kernel
theorem dX11_under_11 : decode cX11_under 11 = .ok (.aload_n 0, 1) := by decide +kernel
theorem dX11_under_12 : decode cX11_under 12 = .ok (.getfield 16, 3) := by decide +kernel
theorem dX11_under_15 : decode cX11_under 15 = .ok (.iload_n 2, 1) := by decide +kernel
theorem dX11_under_16 : decode cX11_under 16 = .ok (.invokevirtual 62, 3) := by decide +kernel
theorem dX11_under_19 : decode cX11_under 19 = .ok (.ifCond .ne 5, 3) := by decide +kernel
theorem dX11_under_22 : decode cX11_under 22 = .ok (.iconst (-1), 1) := by decide +kernel
theorem dX11_under_23 : decode cX11_under 23 = .ok (.ireturn, 1) := by decide +kernel
theorem dX11_under_24 : decode cX11_under 24 = .ok (.aload_n 0, 1) := by decide +kernel
theorem dX11_under_25 : decode cX11_under 25 = .ok (.getfield 16, 3) := by decide +kernel
theorem dX11_under_28 : decode cX11_under 28 = .ok (.iload_n 1, 1) := by decide +kernel
theorem dX11_under_29 : decode cX11_under 29 = .ok (.iload_n 2, 1) := by decide +kernel
theorem dX11_under_30 : decode cX11_under 30 = .ok (.invokevirtual 144, 3) := by decide +kernel
theorem dX11_under_33 : decode cX11_under 33 = .ok (.ifCond .eq 7, 3) := by decide +kernel
theorem dX11_under_36 : decode cX11_under 36 = .ok (.iconst 1, 1) := by decide +kernel
theorem dX11_under_37 : decode cX11_under 37 = .ok (.goto 4, 3) := by decide +kernel
theorem dX11_under_40 : decode cX11_under 40 = .ok (.iconst 0, 1) := by decide +kernel
theorem dX11_under_41 : decode cX11_under 41 = .ok (.ireturn, 1) := by decide +kernel
theorem dX11_at_0 : decode cX11_at 0 = .ok (.iload_n 1, 1) := by decide +kernel
theorem dX11_at_1 : decode cX11_at 1 = .ok (.ifCond .lt 15, 3) := by decide +kernel
theorem dX11_at_4 : decode cX11_at 4 = .ok (.iload_n 1, 1) := by decide +kernel
theorem dX11_at_5 : decode cX11_at 5 = .ok (.aload_n 0, 1) := by decide +kernel
theorem dX11_at_6 : decode cX11_at 6 = .ok (.arraylength, 1) := by decide +kernel
theorem dX11_at_7 : decode cX11_at 7 = .ok (.if_icmp .ge 9, 3) := by decide +kernel
theorem dX11_at_10 : decode cX11_at 10 = .ok (.aload_n 0, 1) := by decide +kernel
theorem dX11_at_11 : decode cX11_at 11 = .ok (.iload_n 1, 1) := by decide +kernel
theorem dX11_at_12 : decode cX11_at 12 = .ok (.iaload, 1) := by decide +kernel
theorem dX11_at_13 : decode cX11_at 13 = .ok (.goto 4, 3) := by decide +kernel
theorem dX11_at_16 : decode cX11_at 16 = .ok (.iconst 0, 1) := by decide +kernel
theorem dX11_at_17 : decode cX11_at 17 = .ok (.ireturn, 1) := by decide +kernel
theorem dX11_put_0 : decode cX11_put 0 = .ok (.iload_n 1, 1) := by decide +kernel
theorem dX11_put_1 : decode cX11_put 1 = .ok (.ifCond .lt 13, 3) := by decide +kernel
theorem dX11_put_4 : decode cX11_put 4 = .ok (.iload_n 1, 1) := by decide +kernel
theorem dX11_put_5 : decode cX11_put 5 = .ok (.aload_n 0, 1) := by decide +kernel
theorem dX11_put_6 : decode cX11_put 6 = .ok (.arraylength, 1) := by decide +kernel
theorem dX11_put_7 : decode cX11_put 7 = .ok (.if_icmp .ge 7, 3) := by decide +kernel
theorem dX11_put_10 : decode cX11_put 10 = .ok (.aload_n 0, 1) := by decide +kernel
theorem dX11_put_11 : decode cX11_put 11 = .ok (.iload_n 1, 1) := by decide +kernel
theorem dX11_put_12 : decode cX11_put 12 = .ok (.iload_n 2, 1) := by decide +kernel
theorem dX11_put_13 : decode cX11_put 13 = .ok (.iastore, 1) := by decide +kernel
theorem dX11_put_14 : decode cX11_put 14 = .ok (.return_, 1) := by decide +kernel
