theorem dX12_suppressed_81 : decode cX12_suppressed 81 = .ok (.imul, 1) := by decide +kernel
theorem dX12_suppressed_82 : decode cX12_suppressed 82 = .ok (.iload_n 1, 1) := by decide +kernel
theorem dX12_suppressed_83 : decode cX12_suppressed 83 = .ok (.iadd, 1) := by decide +kernel
theorem dX12_suppressed_84 : decode cX12_suppressed 84 = .ok (.iaload, 1) := by decide +kernel
theorem dX12_suppressed_85 : decode cX12_suppressed 85 = .ok (.ireturn, 1) := by decide +kernel
theorem dX12_rounds_0 : decode cX12_rounds 0 = .ok (.aload_n 0, 1) := by decide +kernel
theorem dX12_rounds_1 : decode cX12_rounds 1 = .ok (.iconst 0, 1) := by decide +kernel
theorem dX12_rounds_2 : decode cX12_rounds 2 = .ok (.putfield 273, 3) := by decide +kernel
theorem dX12_rounds_5 : decode cX12_rounds 5 = .ok (.iload_n 1, 1) := by decide +kernel
theorem dX12_rounds_6 : decode cX12_rounds 6 = .ok (.ifCond .lt 7, 3) := by decide +kernel
theorem dX12_rounds_9 : decode cX12_rounds 9 = .ok (.iload_n 2, 1) := by decide +kernel
theorem dX12_rounds_10 : decode cX12_rounds 10 = .ok (.ifCond .ge 5, 3) := by decide +kernel
theorem dX12_rounds_13 : decode cX12_rounds 13 = .ok (.iconst (-1), 1) := by decide +kernel
theorem dX12_rounds_14 : decode cX12_rounds 14 = .ok (.ireturn, 1) := by decide +kernel
theorem dX12_rounds_15 : decode cX12_rounds 15 = .ok (.iload_n 2, 1) := by decide +kernel
theorem dX12_rounds_16 : decode cX12_rounds 16 = .ok (.ifCond .ne 10, 3) := by decide +kernel
theorem dX12_rounds_19 : decode cX12_rounds 19 = .ok (.aload_n 0, 1) := by decide +kernel
theorem dX12_rounds_20 : decode cX12_rounds 20 = .ok (.iconst 1, 1) := by decide +kernel
theorem dX12_rounds_21 : decode cX12_rounds 21 = .ok (.putfield 273, 3) := by decide +kernel
theorem dX12_rounds_24 : decode cX12_rounds 24 = .ok (.iconst 0, 1) := by decide +kernel
theorem dX12_rounds_25 : decode cX12_rounds 25 = .ok (.ireturn, 1) := by decide +kernel
theorem dX12_rounds_26 : decode cX12_rounds 26 = .ok (.iload_n 1, 1) := by decide +kernel
theorem dX12_rounds_27 : decode cX12_rounds 27 = .ok (.iload_n 2, 1) := by decide +kernel
theorem dX12_rounds_28 : decode cX12_rounds 28 = .ok (.idiv, 1) := by decide +kernel
theorem dX12_rounds_29 : decode cX12_rounds 29 = .ok (.iload_n 1, 1) := by decide +kernel
theorem dX12_rounds_30 : decode cX12_rounds 30 = .ok (.iload_n 2, 1) := by decide +kernel
theorem dX12_rounds_31 : decode cX12_rounds 31 = .ok (.irem, 1) := by decide +kernel
theorem dX12_rounds_32 : decode cX12_rounds 32 = .ok (.ifCond .le 7, 3) := by decide +kernel
theorem dX12_rounds_35 : decode cX12_rounds 35 = .ok (.iconst 1, 1) := by decide +kernel
theorem dX12_rounds_36 : decode cX12_rounds 36 = .ok (.goto 4, 3) := by decide +kernel
theorem dX12_rounds_39 : decode cX12_rounds 39 = .ok (.iconst 0, 1) := by decide +kernel
theorem dX12_rounds_40 : decode cX12_rounds 40 = .ok (.iadd, 1) := by decide +kernel
theorem dX12_rounds_41 : decode cX12_rounds 41 = .ok (.ireturn, 1) := by decide +kernel
