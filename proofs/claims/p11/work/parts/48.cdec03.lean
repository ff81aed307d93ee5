theorem dX3_act_1 : decode cX3_act 1 = .ok (.tableswitch 96 51 55 #[35, 42, 54, 79, 88], 35) := by decide +kernel
theorem dX3_act_36 : decode cX3_act 36 = .ok (.aload_n 0, 1) := by decide +kernel
theorem dX3_act_37 : decode cX3_act 37 = .ok (.invokevirtual 175, 3) := by decide +kernel
theorem dX3_act_40 : decode cX3_act 40 = .ok (.goto 62, 3) := by decide +kernel
theorem dX3_act_43 : decode cX3_act 43 = .ok (.aload_n 0, 1) := by decide +kernel
theorem dX3_act_44 : decode cX3_act 44 = .ok (.iconst 0, 1) := by decide +kernel
theorem dX3_act_45 : decode cX3_act 45 = .ok (.aload_n 0, 1) := by decide +kernel
theorem dX3_act_46 : decode cX3_act 46 = .ok (.invokevirtual 138, 3) := by decide +kernel
theorem dX3_act_49 : decode cX3_act 49 = .ok (.invokevirtual 178, 3) := by decide +kernel
theorem dX3_act_52 : decode cX3_act 52 = .ok (.goto 50, 3) := by decide +kernel
theorem dX3_act_55 : decode cX3_act 55 = .ok (.aload_n 0, 1) := by decide +kernel
theorem dX3_act_56 : decode cX3_act 56 = .ok (.iconst 0, 1) := by decide +kernel
theorem dX3_act_57 : decode cX3_act 57 = .ok (.iload_n 2, 1) := by decide +kernel
theorem dX3_act_58 : decode cX3_act 58 = .ok (.invokevirtual 181, 3) := by decide +kernel
theorem dX3_act_61 : decode cX3_act 61 = .ok (.aload_n 0, 1) := by decide +kernel
theorem dX3_act_62 : decode cX3_act 62 = .ok (.dup, 1) := by decide +kernel
theorem dX3_act_63 : decode cX3_act 63 = .ok (.getfield 72, 3) := by decide +kernel
theorem dX3_act_66 : decode cX3_act 66 = .ok (.iconst 1, 1) := by decide +kernel
theorem dX3_act_67 : decode cX3_act 67 = .ok (.iadd, 1) := by decide +kernel
theorem dX3_act_68 : decode cX3_act 68 = .ok (.putfield 72, 3) := by decide +kernel
theorem dX3_act_71 : decode cX3_act 71 = .ok (.aload_n 0, 1) := by decide +kernel
theorem dX3_act_72 : decode cX3_act 72 = .ok (.iconst 3, 1) := by decide +kernel
theorem dX3_act_73 : decode cX3_act 73 = .ok (.iload_n 2, 1) := by decide +kernel
theorem dX3_act_74 : decode cX3_act 74 = .ok (.invokevirtual 178, 3) := by decide +kernel
theorem dX3_act_77 : decode cX3_act 77 = .ok (.goto 25, 3) := by decide +kernel
theorem dX3_act_80 : decode cX3_act 80 = .ok (.aload_n 0, 1) := by decide +kernel
theorem dX3_act_81 : decode cX3_act 81 = .ok (.iconst 1, 1) := by decide +kernel
theorem dX3_act_82 : decode cX3_act 82 = .ok (.iload_n 2, 1) := by decide +kernel
theorem dX3_act_83 : decode cX3_act 83 = .ok (.invokevirtual 181, 3) := by decide +kernel
theorem dX3_act_86 : decode cX3_act 86 = .ok (.goto 16, 3) := by decide +kernel
theorem dX3_act_89 : decode cX3_act 89 = .ok (.aload_n 0, 1) := by decide +kernel
theorem dX3_act_90 : decode cX3_act 90 = .ok (.iload_n 2, 1) := by decide +kernel
theorem dX3_act_91 : decode cX3_act 91 = .ok (.invokevirtual 184, 3) := by decide +kernel
theorem dX3_act_94 : decode cX3_act 94 = .ok (.goto 8, 3) := by decide +kernel
theorem dX3_act_97 : decode cX3_act 97 = .ok (.aload_n 0, 1) := by decide +kernel
theorem dX3_act_98 : decode cX3_act 98 = .ok (.iconst 0, 1) := by decide +kernel
theorem dX3_act_99 : decode cX3_act 99 = .ok (.putfield 85, 3) := by decide +kernel
theorem dX3_act_102 : decode cX3_act 102 = .ok (.return_, 1) := by decide +kernel
theorem dX3_step_0 : decode cX3_step 0 = .ok (.aload_n 0, 1) := by decide +kernel
theorem dX3_step_1 : decode cX3_step 1 = .ok (.getfield 69, 3) := by decide +kernel
theorem dX3_step_4 : decode cX3_step 4 = .ok (.sipush 1000, 3) := by decide +kernel
theorem dX3_step_7 : decode cX3_step 7 = .ok (.if_icmp .lt 11, 3) := by decide +kernel
theorem dX3_step_10 : decode cX3_step 10 = .ok (.aload_n 0, 1) := by decide +kernel
theorem dX3_step_11 : decode cX3_step 11 = .ok (.iconst 3, 1) := by decide +kernel
theorem dX3_step_12 : decode cX3_step 12 = .ok (.putfield 85, 3) := by decide +kernel
theorem dX3_step_15 : decode cX3_step 15 = .ok (.goto 13, 3) := by decide +kernel
theorem dX3_step_18 : decode cX3_step 18 = .ok (.aload_n 0, 1) := by decide +kernel
theorem dX3_step_19 : decode cX3_step 19 = .ok (.dup, 1) := by decide +kernel
theorem dX3_step_20 : decode cX3_step 20 = .ok (.getfield 69, 3) := by decide +kernel
theorem dX3_step_23 : decode cX3_step 23 = .ok (.iconst 1, 1) := by decide +kernel
theorem dX3_step_24 : decode cX3_step 24 = .ok (.iadd, 1) := by decide +kernel
theorem dX3_step_25 : decode cX3_step 25 = .ok (.putfield 69, 3) := by decide +kernel
theorem dX3_step_28 : decode cX3_step 28 = .ok (.return_, 1) := by decide +kernel
theorem dX3_note_0 : decode cX3_note 0 = .ok (.aload_n 0, 1) := by decide +kernel
theorem dX3_note_1 : decode cX3_note 1 = .ok (.getfield 66, 3) := by decide +kernel
theorem dX3_note_4 : decode cX3_note 4 = .ok (.sipush 200, 3) := by decide +kernel
theorem dX3_note_7 : decode cX3_note 7 = .ok (.if_icmp .ge 43, 3) := by decide +kernel
theorem dX3_note_10 : decode cX3_note 10 = .ok (.aload_n 0, 1) := by decide +kernel
theorem dX3_note_11 : decode cX3_note 11 = .ok (.getfield 33, 3) := by decide +kernel
theorem dX3_note_14 : decode cX3_note 14 = .ok (.iconst 2, 1) := by decide +kernel
theorem dX3_note_15 : decode cX3_note 15 = .ok (.aload_n 0, 1) := by decide +kernel
theorem dX3_note_16 : decode cX3_note 16 = .ok (.getfield 66, 3) := by decide +kernel
theorem dX3_note_19 : decode cX3_note 19 = .ok (.imul, 1) := by decide +kernel
theorem dX3_note_20 : decode cX3_note 20 = .ok (.iload_n 1, 1) := by decide +kernel
theorem dX3_note_21 : decode cX3_note 21 = .ok (.invokestatic 50, 3) := by decide +kernel
theorem dX3_note_24 : decode cX3_note 24 = .ok (.aload_n 0, 1) := by decide +kernel
theorem dX3_note_25 : decode cX3_note 25 = .ok (.getfield 33, 3) := by decide +kernel
theorem dX3_note_28 : decode cX3_note 28 = .ok (.iconst 2, 1) := by decide +kernel
theorem dX3_note_29 : decode cX3_note 29 = .ok (.aload_n 0, 1) := by decide +kernel
theorem dX3_note_30 : decode cX3_note 30 = .ok (.getfield 66, 3) := by decide +kernel
theorem dX3_note_33 : decode cX3_note 33 = .ok (.imul, 1) := by decide +kernel
theorem dX3_note_34 : decode cX3_note 34 = .ok (.iconst 1, 1) := by decide +kernel
theorem dX3_note_35 : decode cX3_note 35 = .ok (.iadd, 1) := by decide +kernel
theorem dX3_note_36 : decode cX3_note 36 = .ok (.iload_n 2, 1) := by decide +kernel
theorem dX3_note_37 : decode cX3_note 37 = .ok (.invokestatic 50, 3) := by decide +kernel
theorem dX3_note_40 : decode cX3_note 40 = .ok (.aload_n 0, 1) := by decide +kernel
theorem dX3_note_41 : decode cX3_note 41 = .ok (.dup, 1) := by decide +kernel
theorem dX3_note_42 : decode cX3_note 42 = .ok (.getfield 66, 3) := by decide +kernel
theorem dX3_note_45 : decode cX3_note 45 = .ok (.iconst 1, 1) := by decide +kernel
theorem dX3_note_46 : decode cX3_note 46 = .ok (.iadd, 1) := by decide +kernel
theorem dX3_note_47 : decode cX3_note 47 = .ok (.putfield 66, 3) := by decide +kernel
theorem dX3_note_50 : decode cX3_note 50 = .ok (.return_, 1) := by decide +kernel
theorem dX3_enter_0 : decode cX3_enter 0 = .ok (.aload_n 0, 1) := by decide +kernel
theorem dX3_enter_1 : decode cX3_enter 1 = .ok (.getfield 60, 3) := by decide +kernel
theorem dX3_enter_4 : decode cX3_enter 4 = .ok (.aload_n 0, 1) := by decide +kernel
theorem dX3_enter_5 : decode cX3_enter 5 = .ok (.getfield 20, 3) := by decide +kernel
theorem dX3_enter_8 : decode cX3_enter 8 = .ok (.arraylength, 1) := by decide +kernel
theorem dX3_enter_9 : decode cX3_enter 9 = .ok (.iconst 1, 1) := by decide +kernel
theorem dX3_enter_10 : decode cX3_enter 10 = .ok (.isub, 1) := by decide +kernel
theorem dX3_enter_11 : decode cX3_enter 11 = .ok (.invokestatic 187, 3) := by decide +kernel
theorem dX3_enter_14 : decode cX3_enter 14 = .ok (.istore_n 3, 1) := by decide +kernel
theorem dX3_enter_15 : decode cX3_enter 15 = .ok (.aload_n 0, 1) := by decide +kernel
theorem dX3_enter_16 : decode cX3_enter 16 = .ok (.getfield 20, 3) := by decide +kernel
theorem dX3_enter_19 : decode cX3_enter 19 = .ok (.iload_n 3, 1) := by decide +kernel
theorem dX3_enter_20 : decode cX3_enter 20 = .ok (.aaload, 1) := by decide +kernel
theorem dX3_enter_21 : decode cX3_enter 21 = .ok (.astore 4, 2) := by decide +kernel
theorem dX3_enter_23 : decode cX3_enter 23 = .ok (.aload 4, 2) := by decide +kernel
theorem dX3_enter_25 : decode cX3_enter 25 = .ok (.ifnonnull 20, 3) := by decide +kernel
theorem dX3_enter_28 : decode cX3_enter 28 = .ok (.new 18, 3) := by decide +kernel
theorem dX3_enter_31 : decode cX3_enter 31 = .ok (.dup, 1) := by decide +kernel
theorem dX3_enter_32 : decode cX3_enter 32 = .ok (.invokespecial 193, 3) := by decide +kernel
theorem dX3_enter_35 : decode cX3_enter 35 = .ok (.astore 4, 2) := by decide +kernel
theorem dX3_enter_37 : decode cX3_enter 37 = .ok (.aload_n 0, 1) := by decide +kernel
theorem dX3_enter_38 : decode cX3_enter 38 = .ok (.getfield 20, 3) := by decide +kernel
theorem dX3_enter_41 : decode cX3_enter 41 = .ok (.iload_n 3, 1) := by decide +kernel
theorem dX3_enter_42 : decode cX3_enter 42 = .ok (.aload 4, 2) := by decide +kernel
theorem dX3_enter_44 : decode cX3_enter 44 = .ok (.aastore, 1) := by decide +kernel
theorem dX3_enter_45 : decode cX3_enter 45 = .ok (.aload 4, 2) := by decide +kernel
theorem dX3_enter_47 : decode cX3_enter 47 = .ok (.iload_n 1, 1) := by decide +kernel
theorem dX3_enter_48 : decode cX3_enter 48 = .ok (.putfield 194, 3) := by decide +kernel
theorem dX3_enter_51 : decode cX3_enter 51 = .ok (.aload 4, 2) := by decide +kernel
theorem dX3_enter_53 : decode cX3_enter 53 = .ok (.iload_n 2, 1) := by decide +kernel
theorem dX3_enter_54 : decode cX3_enter 54 = .ok (.putfield 197, 3) := by decide +kernel
theorem dX3_enter_57 : decode cX3_enter 57 = .ok (.aload 4, 2) := by decide +kernel
theorem dX3_enter_59 : decode cX3_enter 59 = .ok (.aload_n 0, 1) := by decide +kernel
theorem dX3_enter_60 : decode cX3_enter 60 = .ok (.getfield 54, 3) := by decide +kernel
theorem dX3_enter_63 : decode cX3_enter 63 = .ok (.putfield 200, 3) := by decide +kernel
theorem dX3_enter_66 : decode cX3_enter 66 = .ok (.aload 4, 2) := by decide +kernel
theorem dX3_enter_68 : decode cX3_enter 68 = .ok (.aload_n 0, 1) := by decide +kernel
theorem dX3_enter_69 : decode cX3_enter 69 = .ok (.getfield 63, 3) := by decide +kernel
theorem dX3_enter_72 : decode cX3_enter 72 = .ok (.putfield 201, 3) := by decide +kernel
theorem dX3_enter_75 : decode cX3_enter 75 = .ok (.aload 4, 2) := by decide +kernel
theorem dX3_enter_77 : decode cX3_enter 77 = .ok (.aconst_null, 1) := by decide +kernel
theorem dX3_enter_78 : decode cX3_enter 78 = .ok (.putfield 204, 3) := by decide +kernel
theorem dX3_enter_81 : decode cX3_enter 81 = .ok (.aload_n 0, 1) := by decide +kernel
theorem dX3_enter_82 : decode cX3_enter 82 = .ok (.iload_n 3, 1) := by decide +kernel
theorem dX3_enter_83 : decode cX3_enter 83 = .ok (.iconst 1, 1) := by decide +kernel
theorem dX3_enter_84 : decode cX3_enter 84 = .ok (.iadd, 1) := by decide +kernel
theorem dX3_enter_85 : decode cX3_enter 85 = .ok (.putfield 60, 3) := by decide +kernel
theorem dX3_enter_88 : decode cX3_enter 88 = .ok (.return_, 1) := by decide +kernel
theorem dX3_frame_0 : decode cX3_frame 0 = .ok (.iload_n 1, 1) := by decide +kernel
theorem dX3_frame_1 : decode cX3_frame 1 = .ok (.ifCond .lt 29, 3) := by decide +kernel
theorem dX3_frame_4 : decode cX3_frame 4 = .ok (.iload_n 1, 1) := by decide +kernel
theorem dX3_frame_5 : decode cX3_frame 5 = .ok (.aload_n 0, 1) := by decide +kernel
theorem dX3_frame_6 : decode cX3_frame 6 = .ok (.getfield 60, 3) := by decide +kernel
theorem dX3_frame_9 : decode cX3_frame 9 = .ok (.if_icmp .ge 21, 3) := by decide +kernel
theorem dX3_frame_12 : decode cX3_frame 12 = .ok (.iload_n 1, 1) := by decide +kernel
theorem dX3_frame_13 : decode cX3_frame 13 = .ok (.aload_n 0, 1) := by decide +kernel
theorem dX3_frame_14 : decode cX3_frame 14 = .ok (.getfield 20, 3) := by decide +kernel
theorem dX3_frame_17 : decode cX3_frame 17 = .ok (.arraylength, 1) := by decide +kernel
theorem dX3_frame_18 : decode cX3_frame 18 = .ok (.if_icmp .ge 12, 3) := by decide +kernel
theorem dX3_frame_21 : decode cX3_frame 21 = .ok (.aload_n 0, 1) := by decide +kernel
theorem dX3_frame_22 : decode cX3_frame 22 = .ok (.getfield 20, 3) := by decide +kernel
theorem dX3_frame_25 : decode cX3_frame 25 = .ok (.iload_n 1, 1) := by decide +kernel
theorem dX3_frame_26 : decode cX3_frame 26 = .ok (.aaload, 1) := by decide +kernel
theorem dX3_frame_27 : decode cX3_frame 27 = .ok (.goto 4, 3) := by decide +kernel
theorem dX3_frame_30 : decode cX3_frame 30 = .ok (.aconst_null, 1) := by decide +kernel
theorem dX3_frame_31 : decode cX3_frame 31 = .ok (.areturn, 1) := by decide +kernel
theorem dX3_openOne_0 : decode cX3_openOne 0 = .ok (.aload_n 0, 1) := by decide +kernel
theorem dX3_openOne_1 : decode cX3_openOne 1 = .ok (.getfield 36, 3) := by decide +kernel
theorem dX3_openOne_4 : decode cX3_openOne 4 = .ok (.getfield 207, 3) := by decide +kernel
theorem dX3_openOne_7 : decode cX3_openOne 7 = .ok (.iload_n 1, 1) := by decide +kernel
theorem dX3_openOne_8 : decode cX3_openOne 8 = .ok (.invokestatic 111, 3) := by decide +kernel
theorem dX3_openOne_11 : decode cX3_openOne 11 = .ok (.ifCond .lt 22, 3) := by decide +kernel
theorem dX3_openOne_14 : decode cX3_openOne 14 = .ok (.aload_n 0, 1) := by decide +kernel
theorem dX3_openOne_15 : decode cX3_openOne 15 = .ok (.aload_n 0, 1) := by decide +kernel
theorem dX3_openOne_16 : decode cX3_openOne 16 = .ok (.getfield 36, 3) := by decide +kernel
theorem dX3_openOne_19 : decode cX3_openOne 19 = .ok (.getfield 207, 3) := by decide +kernel
theorem dX3_openOne_22 : decode cX3_openOne 22 = .ok (.iload_n 1, 1) := by decide +kernel
theorem dX3_openOne_23 : decode cX3_openOne 23 = .ok (.invokestatic 111, 3) := by decide +kernel
theorem dX3_openOne_26 : decode cX3_openOne 26 = .ok (.iload_n 1, 1) := by decide +kernel
theorem dX3_openOne_27 : decode cX3_openOne 27 = .ok (.invokevirtual 150, 3) := by decide +kernel
theorem dX3_openOne_30 : decode cX3_openOne 30 = .ok (.goto 45, 3) := by decide +kernel
theorem dX3_openOne_33 : decode cX3_openOne 33 = .ok (.aload_n 0, 1) := by decide +kernel
theorem dX3_openOne_34 : decode cX3_openOne 34 = .ok (.getfield 36, 3) := by decide +kernel
theorem dX3_openOne_37 : decode cX3_openOne 37 = .ok (.getfield 210, 3) := by decide +kernel
theorem dX3_openOne_40 : decode cX3_openOne 40 = .ok (.iload_n 1, 1) := by decide +kernel
theorem dX3_openOne_41 : decode cX3_openOne 41 = .ok (.invokestatic 111, 3) := by decide +kernel
theorem dX3_openOne_44 : decode cX3_openOne 44 = .ok (.ifCond .ne 31, 3) := by decide +kernel
theorem dX3_openOne_47 : decode cX3_openOne 47 = .ok (.aload_n 0, 1) := by decide +kernel
theorem dX3_openOne_48 : decode cX3_openOne 48 = .ok (.iconst 1, 1) := by decide +kernel
theorem dX3_openOne_49 : decode cX3_openOne 49 = .ok (.iload_n 1, 1) := by decide +kernel
theorem dX3_openOne_50 : decode cX3_openOne 50 = .ok (.invokevirtual 178, 3) := by decide +kernel
theorem dX3_openOne_53 : decode cX3_openOne 53 = .ok (.aload_n 0, 1) := by decide +kernel
theorem dX3_openOne_54 : decode cX3_openOne 54 = .ok (.getfield 30, 3) := by decide +kernel
theorem dX3_openOne_57 : decode cX3_openOne 57 = .ok (.aload_n 0, 1) := by decide +kernel
theorem dX3_openOne_58 : decode cX3_openOne 58 = .ok (.getfield 63, 3) := by decide +kernel
theorem dX3_openOne_61 : decode cX3_openOne 61 = .ok (.iload_n 1, 1) := by decide +kernel
theorem dX3_openOne_62 : decode cX3_openOne 62 = .ok (.invokestatic 50, 3) := by decide +kernel
theorem dX3_openOne_65 : decode cX3_openOne 65 = .ok (.aload_n 0, 1) := by decide +kernel
theorem dX3_openOne_66 : decode cX3_openOne 66 = .ok (.dup, 1) := by decide +kernel
theorem dX3_openOne_67 : decode cX3_openOne 67 = .ok (.getfield 63, 3) := by decide +kernel
theorem dX3_openOne_70 : decode cX3_openOne 70 = .ok (.iconst 1, 1) := by decide +kernel
theorem dX3_openOne_71 : decode cX3_openOne 71 = .ok (.iadd, 1) := by decide +kernel
theorem dX3_openOne_72 : decode cX3_openOne 72 = .ok (.putfield 63, 3) := by decide +kernel
theorem dX3_openOne_75 : decode cX3_openOne 75 = .ok (.return_, 1) := by decide +kernel
theorem dX3_turn_0 : decode cX3_turn 0 = .ok (.iload_n 1, 1) := by decide +kernel
theorem dX3_turn_1 : decode cX3_turn 1 = .ok (.tableswitch 116 59 64 #[99, 39, 49, 62, 75, 87], 39) := by decide +kernel
theorem dX3_turn_40 : decode cX3_turn 40 = .ok (.aload_n 0, 1) := by decide +kernel
theorem dX3_turn_41 : decode cX3_turn 41 = .ok (.iconst 1, 1) := by decide +kernel
theorem dX3_turn_42 : decode cX3_turn 42 = .ok (.iconst 0, 1) := by decide +kernel
theorem dX3_turn_43 : decode cX3_turn 43 = .ok (.iload_n 2, 1) := by decide +kernel
theorem dX3_turn_44 : decode cX3_turn 44 = .ok (.invokevirtual 213, 3) := by decide +kernel
theorem dX3_turn_47 : decode cX3_turn 47 = .ok (.goto 86, 3) := by decide +kernel
theorem dX3_turn_50 : decode cX3_turn 50 = .ok (.aload_n 0, 1) := by decide +kernel
theorem dX3_turn_51 : decode cX3_turn 51 = .ok (.iconst 2, 1) := by decide +kernel
theorem dX3_turn_52 : decode cX3_turn 52 = .ok (.aload_n 0, 1) := by decide +kernel
theorem dX3_turn_53 : decode cX3_turn 53 = .ok (.invokevirtual 138, 3) := by decide +kernel
theorem dX3_turn_56 : decode cX3_turn 56 = .ok (.iload_n 2, 1) := by decide +kernel
theorem dX3_turn_57 : decode cX3_turn 57 = .ok (.invokevirtual 213, 3) := by decide +kernel
theorem dX3_turn_60 : decode cX3_turn 60 = .ok (.goto 73, 3) := by decide +kernel
theorem dX3_turn_63 : decode cX3_turn 63 = .ok (.aload_n 0, 1) := by decide +kernel
theorem dX3_turn_64 : decode cX3_turn 64 = .ok (.iconst 3, 1) := by decide +kernel
theorem dX3_turn_65 : decode cX3_turn 65 = .ok (.aload_n 0, 1) := by decide +kernel
theorem dX3_turn_66 : decode cX3_turn 66 = .ok (.invokevirtual 138, 3) := by decide +kernel
theorem dX3_turn_69 : decode cX3_turn 69 = .ok (.iconst 0, 1) := by decide +kernel
theorem dX3_turn_70 : decode cX3_turn 70 = .ok (.invokevirtual 213, 3) := by decide +kernel
theorem dX3_turn_73 : decode cX3_turn 73 = .ok (.goto 60, 3) := by decide +kernel
theorem dX3_turn_76 : decode cX3_turn 76 = .ok (.aload_n 0, 1) := by decide +kernel
theorem dX3_turn_77 : decode cX3_turn 77 = .ok (.iload_n 2, 1) := by decide +kernel
theorem dX3_turn_78 : decode cX3_turn 78 = .ok (.aload_n 0, 1) := by decide +kernel
theorem dX3_turn_79 : decode cX3_turn 79 = .ok (.invokevirtual 138, 3) := by decide +kernel
theorem dX3_turn_82 : decode cX3_turn 82 = .ok (.invokevirtual 150, 3) := by decide +kernel
theorem dX3_turn_85 : decode cX3_turn 85 = .ok (.goto 48, 3) := by decide +kernel
theorem dX3_turn_88 : decode cX3_turn 88 = .ok (.aload_n 0, 1) := by decide +kernel
theorem dX3_turn_89 : decode cX3_turn 89 = .ok (.aload_n 0, 1) := by decide +kernel
theorem dX3_turn_90 : decode cX3_turn 90 = .ok (.iload_n 2, 1) := by decide +kernel
theorem dX3_turn_91 : decode cX3_turn 91 = .ok (.invokevirtual 216, 3) := by decide +kernel
theorem dX3_turn_94 : decode cX3_turn 94 = .ok (.invokevirtual 220, 3) := by decide +kernel
theorem dX3_turn_97 : decode cX3_turn 97 = .ok (.goto 36, 3) := by decide +kernel
theorem dX3_turn_100 : decode cX3_turn 100 = .ok (.aload_n 0, 1) := by decide +kernel
theorem dX3_turn_101 : decode cX3_turn 101 = .ok (.aload_n 0, 1) := by decide +kernel
theorem dX3_turn_102 : decode cX3_turn 102 = .ok (.aload_n 0, 1) := by decide +kernel
theorem dX3_turn_103 : decode cX3_turn 103 = .ok (.getfield 60, 3) := by decide +kernel
theorem dX3_turn_106 : decode cX3_turn 106 = .ok (.iconst 1, 1) := by decide +kernel
theorem dX3_turn_107 : decode cX3_turn 107 = .ok (.isub, 1) := by decide +kernel
theorem dX3_turn_108 : decode cX3_turn 108 = .ok (.invokevirtual 216, 3) := by decide +kernel
theorem dX3_turn_111 : decode cX3_turn 111 = .ok (.invokevirtual 224, 3) := by decide +kernel
theorem dX3_turn_114 : decode cX3_turn 114 = .ok (.goto 19, 3) := by decide +kernel
theorem dX3_turn_117 : decode cX3_turn 117 = .ok (.aload_n 0, 1) := by decide +kernel
theorem dX3_turn_118 : decode cX3_turn 118 = .ok (.iload_n 1, 1) := by decide +kernel
theorem dX3_turn_119 : decode cX3_turn 119 = .ok (.iload_n 2, 1) := by decide +kernel
theorem dX3_turn_120 : decode cX3_turn 120 = .ok (.aload_n 0, 1) := by decide +kernel
theorem dX3_turn_121 : decode cX3_turn 121 = .ok (.aload_n 0, 1) := by decide +kernel
theorem dX3_turn_122 : decode cX3_turn 122 = .ok (.getfield 60, 3) := by decide +kernel
theorem dX3_turn_125 : decode cX3_turn 125 = .ok (.iconst 1, 1) := by decide +kernel
theorem dX3_turn_126 : decode cX3_turn 126 = .ok (.isub, 1) := by decide +kernel
theorem dX3_turn_127 : decode cX3_turn 127 = .ok (.invokevirtual 216, 3) := by decide +kernel
theorem dX3_turn_130 : decode cX3_turn 130 = .ok (.invokevirtual 227, 3) := by decide +kernel
theorem dX3_turn_133 : decode cX3_turn 133 = .ok (.return_, 1) := by decide +kernel
theorem dX3_handle_0 : decode cX3_handle 0 = .ok (.aload_n 3, 1) := by decide +kernel
theorem dX3_handle_1 : decode cX3_handle 1 = .ok (.ifnull 10, 3) := by decide +kernel
theorem dX3_handle_4 : decode cX3_handle 4 = .ok (.aload_n 3, 1) := by decide +kernel
theorem dX3_handle_5 : decode cX3_handle 5 = .ok (.getfield 204, 3) := by decide +kernel
theorem dX3_handle_8 : decode cX3_handle 8 = .ok (.ifnonnull 4, 3) := by decide +kernel
theorem dX3_handle_11 : decode cX3_handle 11 = .ok (.return_, 1) := by decide +kernel
theorem dX3_handle_12 : decode cX3_handle 12 = .ok (.iload_n 1, 1) := by decide +kernel
theorem dX3_handle_13 : decode cX3_handle 13 = .ok (.bipush 58, 2) := by decide +kernel
theorem dX3_handle_15 : decode cX3_handle 15 = .ok (.if_icmp .ne 11, 3) := by decide +kernel
theorem dX3_handle_18 : decode cX3_handle 18 = .ok (.aload_n 0, 1) := by decide +kernel
theorem dX3_handle_19 : decode cX3_handle 19 = .ok (.aload_n 3, 1) := by decide +kernel
theorem dX3_handle_20 : decode cX3_handle 20 = .ok (.invokevirtual 220, 3) := by decide +kernel
theorem dX3_handle_23 : decode cX3_handle 23 = .ok (.goto 53, 3) := by decide +kernel
theorem dX3_handle_26 : decode cX3_handle 26 = .ok (.iload_n 1, 1) := by decide +kernel
theorem dX3_handle_27 : decode cX3_handle 27 = .ok (.bipush 57, 2) := by decide +kernel
theorem dX3_handle_29 : decode cX3_handle 29 = .ok (.if_icmp .ne 21, 3) := by decide +kernel
theorem dX3_handle_32 : decode cX3_handle 32 = .ok (.aload_n 0, 1) := by decide +kernel
theorem dX3_handle_33 : decode cX3_handle 33 = .ok (.getfield 9, 3) := by decide +kernel
theorem dX3_handle_36 : decode cX3_handle 36 = .ok (.iload_n 2, 1) := by decide +kernel
theorem dX3_handle_37 : decode cX3_handle 37 = .ok (.aload_n 3, 1) := by decide +kernel
theorem dX3_handle_38 : decode cX3_handle 38 = .ok (.getfield 204, 3) := by decide +kernel
theorem dX3_handle_41 : decode cX3_handle 41 = .ok (.getfield 102, 3) := by decide +kernel
theorem dX3_handle_44 : decode cX3_handle 44 = .ok (.invokestatic 50, 3) := by decide +kernel
theorem dX3_handle_47 : decode cX3_handle 47 = .ok (.goto 29, 3) := by decide +kernel
theorem dX3_handle_50 : decode cX3_handle 50 = .ok (.aload_n 0, 1) := by decide +kernel
theorem dX3_handle_51 : decode cX3_handle 51 = .ok (.aload_n 0, 1) := by decide +kernel
theorem dX3_handle_52 : decode cX3_handle 52 = .ok (.getfield 36, 3) := by decide +kernel
theorem dX3_handle_55 : decode cX3_handle 55 = .ok (.aload_n 3, 1) := by decide +kernel
theorem dX3_handle_56 : decode cX3_handle 56 = .ok (.getfield 204, 3) := by decide +kernel
theorem dX3_handle_59 : decode cX3_handle 59 = .ok (.getfield 99, 3) := by decide +kernel
theorem dX3_handle_62 : decode cX3_handle 62 = .ok (.iload_n 2, 1) := by decide +kernel
theorem dX3_handle_63 : decode cX3_handle 63 = .ok (.bipush 16, 2) := by decide +kernel
theorem dX3_handle_65 : decode cX3_handle 65 = .ok (.irem, 1) := by decide +kernel
theorem dX3_handle_66 : decode cX3_handle 66 = .ok (.invokevirtual 231, 3) := by decide +kernel
theorem dX3_handle_69 : decode cX3_handle 69 = .ok (.iload_n 2, 1) := by decide +kernel
theorem dX3_handle_70 : decode cX3_handle 70 = .ok (.bipush 16, 2) := by decide +kernel
theorem dX3_handle_72 : decode cX3_handle 72 = .ok (.idiv, 1) := by decide +kernel
theorem dX3_handle_73 : decode cX3_handle 73 = .ok (.invokevirtual 156, 3) := by decide +kernel
theorem dX3_handle_76 : decode cX3_handle 76 = .ok (.return_, 1) := by decide +kernel
theorem dX3_go_0 : decode cX3_go 0 = .ok (.aload_n 0, 1) := by decide +kernel
theorem dX3_go_1 : decode cX3_go 1 = .ok (.iload_n 1, 1) := by decide +kernel
theorem dX3_go_2 : decode cX3_go 2 = .ok (.putfield 75, 3) := by decide +kernel
theorem dX3_go_5 : decode cX3_go 5 = .ok (.aload_n 0, 1) := by decide +kernel
theorem dX3_go_6 : decode cX3_go 6 = .ok (.iload_n 2, 1) := by decide +kernel
theorem dX3_go_7 : decode cX3_go 7 = .ok (.putfield 78, 3) := by decide +kernel
theorem dX3_go_10 : decode cX3_go 10 = .ok (.aload_n 0, 1) := by decide +kernel
theorem dX3_go_11 : decode cX3_go 11 = .ok (.iload_n 3, 1) := by decide +kernel
theorem dX3_go_12 : decode cX3_go 12 = .ok (.putfield 235, 3) := by decide +kernel
theorem dX3_go_15 : decode cX3_go 15 = .ok (.return_, 1) := by decide +kernel
theorem dX3_raise_0 : decode cX3_raise 0 = .ok (.aload_n 0, 1) := by decide +kernel
theorem dX3_raise_1 : decode cX3_raise 1 = .ok (.aload_n 0, 1) := by decide +kernel
theorem dX3_raise_2 : decode cX3_raise 2 = .ok (.invokevirtual 238, 3) := by decide +kernel
theorem dX3_raise_5 : decode cX3_raise 5 = .ok (.putfield 81, 3) := by decide +kernel
theorem dX3_raise_8 : decode cX3_raise 8 = .ok (.aload_n 0, 1) := by decide +kernel
theorem dX3_raise_9 : decode cX3_raise 9 = .ok (.getfield 81, 3) := by decide +kernel
theorem dX3_raise_12 : decode cX3_raise 12 = .ok (.iload_n 1, 1) := by decide +kernel
theorem dX3_raise_13 : decode cX3_raise 13 = .ok (.putfield 99, 3) := by decide +kernel
theorem dX3_raise_16 : decode cX3_raise 16 = .ok (.aload_n 0, 1) := by decide +kernel
theorem dX3_raise_17 : decode cX3_raise 17 = .ok (.getfield 81, 3) := by decide +kernel
theorem dX3_raise_20 : decode cX3_raise 20 = .ok (.iload_n 2, 1) := by decide +kernel
theorem dX3_raise_21 : decode cX3_raise 21 = .ok (.putfield 102, 3) := by decide +kernel
theorem dX3_raise_24 : decode cX3_raise 24 = .ok (.aload_n 0, 1) := by decide +kernel
theorem dX3_raise_25 : decode cX3_raise 25 = .ok (.getfield 81, 3) := by decide +kernel
theorem dX3_raise_28 : decode cX3_raise 28 = .ok (.iconst 0, 1) := by decide +kernel
theorem dX3_raise_29 : decode cX3_raise 29 = .ok (.putfield 105, 3) := by decide +kernel
theorem dX3_raise_32 : decode cX3_raise 32 = .ok (.aload_n 0, 1) := by decide +kernel
theorem dX3_raise_33 : decode cX3_raise 33 = .ok (.iconst 4, 1) := by decide +kernel
theorem dX3_raise_34 : decode cX3_raise 34 = .ok (.iconst 0, 1) := by decide +kernel
theorem dX3_raise_35 : decode cX3_raise 35 = .ok (.iconst 0, 1) := by decide +kernel
theorem dX3_raise_36 : decode cX3_raise 36 = .ok (.invokevirtual 213, 3) := by decide +kernel
theorem dX3_raise_39 : decode cX3_raise 39 = .ok (.return_, 1) := by decide +kernel
theorem dX3_throwAgain_0 : decode cX3_throwAgain 0 = .ok (.aload_n 1, 1) := by decide +kernel
theorem dX3_throwAgain_1 : decode cX3_throwAgain 1 = .ok (.ifnull 18, 3) := by decide +kernel
theorem dX3_throwAgain_4 : decode cX3_throwAgain 4 = .ok (.aload_n 0, 1) := by decide +kernel
theorem dX3_throwAgain_5 : decode cX3_throwAgain 5 = .ok (.aload_n 1, 1) := by decide +kernel
theorem dX3_throwAgain_6 : decode cX3_throwAgain 6 = .ok (.getfield 204, 3) := by decide +kernel
theorem dX3_throwAgain_9 : decode cX3_throwAgain 9 = .ok (.putfield 81, 3) := by decide +kernel
theorem dX3_throwAgain_12 : decode cX3_throwAgain 12 = .ok (.aload_n 0, 1) := by decide +kernel
theorem dX3_throwAgain_13 : decode cX3_throwAgain 13 = .ok (.iconst 4, 1) := by decide +kernel
theorem dX3_throwAgain_14 : decode cX3_throwAgain 14 = .ok (.iconst 0, 1) := by decide +kernel
theorem dX3_throwAgain_15 : decode cX3_throwAgain 15 = .ok (.iconst 0, 1) := by decide +kernel
theorem dX3_throwAgain_16 : decode cX3_throwAgain 16 = .ok (.invokevirtual 213, 3) := by decide +kernel
theorem dX3_throwAgain_19 : decode cX3_throwAgain 19 = .ok (.return_, 1) := by decide +kernel
theorem dX3_freeThrown_0 : decode cX3_freeThrown 0 = .ok (.iconst 0, 1) := by decide +kernel
theorem dX3_freeThrown_1 : decode cX3_freeThrown 1 = .ok (.istore_n 1, 1) := by decide +kernel
theorem dX3_freeThrown_2 : decode cX3_freeThrown 2 = .ok (.iload_n 1, 1) := by decide +kernel
theorem dX3_freeThrown_3 : decode cX3_freeThrown 3 = .ok (.aload_n 0, 1) := by decide +kernel
theorem dX3_freeThrown_4 : decode cX3_freeThrown 4 = .ok (.getfield 26, 3) := by decide +kernel
theorem dX3_freeThrown_7 : decode cX3_freeThrown 7 = .ok (.arraylength, 1) := by decide +kernel
theorem dX3_freeThrown_8 : decode cX3_freeThrown 8 = .ok (.if_icmp .ge 51, 3) := by decide +kernel
theorem dX3_freeThrown_11 : decode cX3_freeThrown 11 = .ok (.aload_n 0, 1) := by decide +kernel
theorem dX3_freeThrown_12 : decode cX3_freeThrown 12 = .ok (.getfield 26, 3) := by decide +kernel
theorem dX3_freeThrown_15 : decode cX3_freeThrown 15 = .ok (.iload_n 1, 1) := by decide +kernel
theorem dX3_freeThrown_16 : decode cX3_freeThrown 16 = .ok (.aaload, 1) := by decide +kernel
theorem dX3_freeThrown_17 : decode cX3_freeThrown 17 = .ok (.ifnonnull 16, 3) := by decide +kernel
theorem dX3_freeThrown_20 : decode cX3_freeThrown 20 = .ok (.aload_n 0, 1) := by decide +kernel
theorem dX3_freeThrown_21 : decode cX3_freeThrown 21 = .ok (.getfield 26, 3) := by decide +kernel
theorem dX3_freeThrown_24 : decode cX3_freeThrown 24 = .ok (.iload_n 1, 1) := by decide +kernel
theorem dX3_freeThrown_25 : decode cX3_freeThrown 25 = .ok (.new 24, 3) := by decide +kernel
theorem dX3_freeThrown_28 : decode cX3_freeThrown 28 = .ok (.dup, 1) := by decide +kernel
theorem dX3_freeThrown_29 : decode cX3_freeThrown 29 = .ok (.invokespecial 241, 3) := by decide +kernel
theorem dX3_freeThrown_32 : decode cX3_freeThrown 32 = .ok (.aastore, 1) := by decide +kernel
theorem dX3_freeThrown_33 : decode cX3_freeThrown 33 = .ok (.aload_n 0, 1) := by decide +kernel
theorem dX3_freeThrown_34 : decode cX3_freeThrown 34 = .ok (.aload_n 0, 1) := by decide +kernel
theorem dX3_freeThrown_35 : decode cX3_freeThrown 35 = .ok (.getfield 26, 3) := by decide +kernel
theorem dX3_freeThrown_38 : decode cX3_freeThrown 38 = .ok (.iload_n 1, 1) := by decide +kernel
theorem dX3_freeThrown_39 : decode cX3_freeThrown 39 = .ok (.aaload, 1) := by decide +kernel
theorem dX3_freeThrown_40 : decode cX3_freeThrown 40 = .ok (.invokevirtual 242, 3) := by decide +kernel
theorem dX3_freeThrown_43 : decode cX3_freeThrown 43 = .ok (.ifCond .ne 10, 3) := by decide +kernel
theorem dX3_freeThrown_46 : decode cX3_freeThrown 46 = .ok (.aload_n 0, 1) := by decide +kernel
theorem dX3_freeThrown_47 : decode cX3_freeThrown 47 = .ok (.getfield 26, 3) := by decide +kernel
theorem dX3_freeThrown_50 : decode cX3_freeThrown 50 = .ok (.iload_n 1, 1) := by decide +kernel
theorem dX3_freeThrown_51 : decode cX3_freeThrown 51 = .ok (.aaload, 1) := by decide +kernel
theorem dX3_freeThrown_52 : decode cX3_freeThrown 52 = .ok (.areturn, 1) := by decide +kernel
theorem dX3_freeThrown_53 : decode cX3_freeThrown 53 = .ok (.iinc 1 1, 3) := by decide +kernel
theorem dX3_freeThrown_56 : decode cX3_freeThrown 56 = .ok (.goto (-54), 3) := by decide +kernel
theorem dX3_freeThrown_59 : decode cX3_freeThrown 59 = .ok (.new 24, 3) := by decide +kernel
theorem dX3_freeThrown_62 : decode cX3_freeThrown 62 = .ok (.dup, 1) := by decide +kernel
theorem dX3_freeThrown_63 : decode cX3_freeThrown 63 = .ok (.invokespecial 241, 3) := by decide +kernel
theorem dX3_freeThrown_66 : decode cX3_freeThrown 66 = .ok (.areturn, 1) := by decide +kernel
theorem dX3_isHeld_0 : decode cX3_isHeld 0 = .ok (.iconst 0, 1) := by decide +kernel
theorem dX3_isHeld_1 : decode cX3_isHeld 1 = .ok (.istore_n 2, 1) := by decide +kernel
theorem dX3_isHeld_2 : decode cX3_isHeld 2 = .ok (.iload_n 2, 1) := by decide +kernel
theorem dX3_isHeld_3 : decode cX3_isHeld 3 = .ok (.aload_n 0, 1) := by decide +kernel
theorem dX3_isHeld_4 : decode cX3_isHeld 4 = .ok (.getfield 60, 3) := by decide +kernel
theorem dX3_isHeld_7 : decode cX3_isHeld 7 = .ok (.if_icmp .ge 39, 3) := by decide +kernel
theorem dX3_isHeld_10 : decode cX3_isHeld 10 = .ok (.iload_n 2, 1) := by decide +kernel
theorem dX3_isHeld_11 : decode cX3_isHeld 11 = .ok (.aload_n 0, 1) := by decide +kernel
theorem dX3_isHeld_12 : decode cX3_isHeld 12 = .ok (.getfield 20, 3) := by decide +kernel
theorem dX3_isHeld_15 : decode cX3_isHeld 15 = .ok (.arraylength, 1) := by decide +kernel
theorem dX3_isHeld_16 : decode cX3_isHeld 16 = .ok (.if_icmp .ge 30, 3) := by decide +kernel
theorem dX3_isHeld_19 : decode cX3_isHeld 19 = .ok (.aload_n 0, 1) := by decide +kernel
theorem dX3_isHeld_20 : decode cX3_isHeld 20 = .ok (.getfield 20, 3) := by decide +kernel
theorem dX3_isHeld_23 : decode cX3_isHeld 23 = .ok (.iload_n 2, 1) := by decide +kernel
theorem dX3_isHeld_24 : decode cX3_isHeld 24 = .ok (.aaload, 1) := by decide +kernel
theorem dX3_isHeld_25 : decode cX3_isHeld 25 = .ok (.astore_n 3, 1) := by decide +kernel
theorem dX3_isHeld_26 : decode cX3_isHeld 26 = .ok (.aload_n 3, 1) := by decide +kernel
theorem dX3_isHeld_27 : decode cX3_isHeld 27 = .ok (.ifnull 13, 3) := by decide +kernel
theorem dX3_isHeld_30 : decode cX3_isHeld 30 = .ok (.aload_n 3, 1) := by decide +kernel
theorem dX3_isHeld_31 : decode cX3_isHeld 31 = .ok (.getfield 204, 3) := by decide +kernel
theorem dX3_isHeld_34 : decode cX3_isHeld 34 = .ok (.aload_n 1, 1) := by decide +kernel
theorem dX3_isHeld_35 : decode cX3_isHeld 35 = .ok (.if_acmp .ne 5, 3) := by decide +kernel
theorem dX3_isHeld_38 : decode cX3_isHeld 38 = .ok (.iconst 1, 1) := by decide +kernel
theorem dX3_isHeld_39 : decode cX3_isHeld 39 = .ok (.ireturn, 1) := by decide +kernel
theorem dX3_isHeld_40 : decode cX3_isHeld 40 = .ok (.iinc 2 1, 3) := by decide +kernel
theorem dX3_isHeld_43 : decode cX3_isHeld 43 = .ok (.goto (-41), 3) := by decide +kernel
theorem dX3_isHeld_46 : decode cX3_isHeld 46 = .ok (.iconst 0, 1) := by decide +kernel
theorem dX3_isHeld_47 : decode cX3_isHeld 47 = .ok (.ireturn, 1) := by decide +kernel
theorem dX3_resume_0 : decode cX3_resume 0 = .ok (.aload_n 1, 1) := by decide +kernel
theorem dX3_resume_1 : decode cX3_resume 1 = .ok (.ifnull 37, 3) := by decide +kernel
theorem dX3_resume_4 : decode cX3_resume 4 = .ok (.aload_n 0, 1) := by decide +kernel
theorem dX3_resume_5 : decode cX3_resume 5 = .ok (.dup, 1) := by decide +kernel
theorem dX3_resume_6 : decode cX3_resume 6 = .ok (.getfield 60, 3) := by decide +kernel
theorem dX3_resume_9 : decode cX3_resume 9 = .ok (.iconst 1, 1) := by decide +kernel
theorem dX3_resume_10 : decode cX3_resume 10 = .ok (.isub, 1) := by decide +kernel
theorem dX3_resume_11 : decode cX3_resume 11 = .ok (.putfield 60, 3) := by decide +kernel
theorem dX3_resume_14 : decode cX3_resume 14 = .ok (.aload_n 0, 1) := by decide +kernel
theorem dX3_resume_15 : decode cX3_resume 15 = .ok (.aload_n 1, 1) := by decide +kernel
theorem dX3_resume_16 : decode cX3_resume 16 = .ok (.getfield 204, 3) := by decide +kernel
theorem dX3_resume_19 : decode cX3_resume 19 = .ok (.putfield 81, 3) := by decide +kernel
theorem dX3_resume_22 : decode cX3_resume 22 = .ok (.aload_n 0, 1) := by decide +kernel
theorem dX3_resume_23 : decode cX3_resume 23 = .ok (.aload_n 1, 1) := by decide +kernel
theorem dX3_resume_24 : decode cX3_resume 24 = .ok (.getfield 246, 3) := by decide +kernel
theorem dX3_resume_27 : decode cX3_resume 27 = .ok (.aload_n 1, 1) := by decide +kernel
theorem dX3_resume_28 : decode cX3_resume 28 = .ok (.getfield 247, 3) := by decide +kernel
theorem dX3_resume_31 : decode cX3_resume 31 = .ok (.aload_n 1, 1) := by decide +kernel
theorem dX3_resume_32 : decode cX3_resume 32 = .ok (.getfield 248, 3) := by decide +kernel
theorem dX3_resume_35 : decode cX3_resume 35 = .ok (.invokevirtual 213, 3) := by decide +kernel
theorem dX3_resume_38 : decode cX3_resume 38 = .ok (.return_, 1) := by decide +kernel
theorem dX3_leaveOne_0 : decode cX3_leaveOne 0 = .ok (.aload_n 0, 1) := by decide +kernel
theorem dX3_leaveOne_1 : decode cX3_leaveOne 1 = .ok (.aload_n 0, 1) := by decide +kernel
theorem dX3_leaveOne_2 : decode cX3_leaveOne 2 = .ok (.getfield 60, 3) := by decide +kernel
theorem dX3_leaveOne_5 : decode cX3_leaveOne 5 = .ok (.iconst 1, 1) := by decide +kernel
theorem dX3_leaveOne_6 : decode cX3_leaveOne 6 = .ok (.isub, 1) := by decide +kernel
theorem dX3_leaveOne_7 : decode cX3_leaveOne 7 = .ok (.invokevirtual 216, 3) := by decide +kernel
theorem dX3_leaveOne_10 : decode cX3_leaveOne 10 = .ok (.astore_n 1, 1) := by decide +kernel
theorem dX3_leaveOne_11 : decode cX3_leaveOne 11 = .ok (.aload_n 1, 1) := by decide +kernel
theorem dX3_leaveOne_12 : decode cX3_leaveOne 12 = .ok (.ifnull 17, 3) := by decide +kernel
theorem dX3_leaveOne_15 : decode cX3_leaveOne 15 = .ok (.aload_n 0, 1) := by decide +kernel
theorem dX3_leaveOne_16 : decode cX3_leaveOne 16 = .ok (.getfield 60, 3) := by decide +kernel
theorem dX3_leaveOne_19 : decode cX3_leaveOne 19 = .ok (.aload_n 0, 1) := by decide +kernel
theorem dX3_leaveOne_20 : decode cX3_leaveOne 20 = .ok (.getfield 235, 3) := by decide +kernel
theorem dX3_leaveOne_23 : decode cX3_leaveOne 23 = .ok (.bipush 32, 2) := by decide +kernel
theorem dX3_leaveOne_25 : decode cX3_leaveOne 25 = .ok (.irem, 1) := by decide +kernel
theorem dX3_leaveOne_26 : decode cX3_leaveOne 26 = .ok (.if_icmp .gt 10, 3) := by decide +kernel
theorem dX3_leaveOne_29 : decode cX3_leaveOne 29 = .ok (.aload_n 0, 1) := by decide +kernel
theorem dX3_leaveOne_30 : decode cX3_leaveOne 30 = .ok (.invokevirtual 249, 3) := by decide +kernel
theorem dX3_leaveOne_33 : decode cX3_leaveOne 33 = .ok (.goto 90, 3) := by decide +kernel
theorem dX3_leaveOne_36 : decode cX3_leaveOne 36 = .ok (.aload_n 1, 1) := by decide +kernel
theorem dX3_leaveOne_37 : decode cX3_leaveOne 37 = .ok (.getfield 194, 3) := by decide +kernel
theorem dX3_leaveOne_40 : decode cX3_leaveOne 40 = .ok (.iconst 1, 1) := by decide +kernel
theorem dX3_leaveOne_41 : decode cX3_leaveOne 41 = .ok (.if_icmp .ne 11, 3) := by decide +kernel
theorem dX3_leaveOne_44 : decode cX3_leaveOne 44 = .ok (.aload_n 0, 1) := by decide +kernel
theorem dX3_leaveOne_45 : decode cX3_leaveOne 45 = .ok (.aload_n 1, 1) := by decide +kernel
theorem dX3_leaveOne_46 : decode cX3_leaveOne 46 = .ok (.invokevirtual 252, 3) := by decide +kernel
theorem dX3_leaveOne_49 : decode cX3_leaveOne 49 = .ok (.goto 74, 3) := by decide +kernel
theorem dX3_leaveOne_52 : decode cX3_leaveOne 52 = .ok (.aload_n 1, 1) := by decide +kernel
theorem dX3_leaveOne_53 : decode cX3_leaveOne 53 = .ok (.getfield 194, 3) := by decide +kernel
theorem dX3_leaveOne_56 : decode cX3_leaveOne 56 = .ok (.iconst 2, 1) := by decide +kernel
theorem dX3_leaveOne_57 : decode cX3_leaveOne 57 = .ok (.if_icmp .ne 30, 3) := by decide +kernel
theorem dX3_leaveOne_60 : decode cX3_leaveOne 60 = .ok (.aload_n 0, 1) := by decide +kernel
theorem dX3_leaveOne_61 : decode cX3_leaveOne 61 = .ok (.getfield 40, 3) := by decide +kernel
theorem dX3_leaveOne_64 : decode cX3_leaveOne 64 = .ok (.getfield 153, 3) := by decide +kernel
theorem dX3_leaveOne_67 : decode cX3_leaveOne 67 = .ok (.aload_n 1, 1) := by decide +kernel
theorem dX3_leaveOne_68 : decode cX3_leaveOne 68 = .ok (.getfield 197, 3) := by decide +kernel
theorem dX3_leaveOne_71 : decode cX3_leaveOne 71 = .ok (.iconst 1, 1) := by decide +kernel
theorem dX3_leaveOne_72 : decode cX3_leaveOne 72 = .ok (.iadd, 1) := by decide +kernel
theorem dX3_leaveOne_73 : decode cX3_leaveOne 73 = .ok (.invokestatic 111, 3) := by decide +kernel
theorem dX3_leaveOne_76 : decode cX3_leaveOne 76 = .ok (.ifCond .lt 11, 3) := by decide +kernel
theorem dX3_leaveOne_79 : decode cX3_leaveOne 79 = .ok (.aload_n 0, 1) := by decide +kernel
