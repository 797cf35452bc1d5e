/-! the instructions, each read off its bytes -/
theorem dX11_looked_36 : decode cX11_looked 36 = .ok (.iload_n 1, 1) := by decide +kernel
theorem dX11_looked_37 : decode cX11_looked 37 = .ok (.iaload, 1) := by decide +kernel
theorem dX11_looked_38 : decode cX11_looked 38 = .ok (.if_icmp .eq 5, 3) := by decide +kernel
theorem dX11_looked_41 : decode cX11_looked 41 = .ok (.iload_n 1, 1) := by decide +kernel
theorem dX11_looked_42 : decode cX11_looked 42 = .ok (.ireturn, 1) := by decide +kernel
theorem dX11_looked_43 : decode cX11_looked 43 = .ok (.iinc 1 1, 3) := by decide +kernel
theorem dX11_looked_46 : decode cX11_looked 46 = .ok (.goto (-44), 3) := by decide +kernel
theorem dX11_looked_49 : decode cX11_looked 49 = .ok (.bipush (-5), 2) := by decide +kernel
theorem dX11_looked_51 : decode cX11_looked 51 = .ok (.ireturn, 1) := by decide +kernel
theorem dX11_judge_0 : decode cX11_judge 0 = .ok (.iload_n 1, 1) := by decide +kernel
theorem dX11_judge_1 : decode cX11_judge 1 = .ok (.invokestatic 243, 3) := by decide +kernel
theorem dX11_judge_4 : decode cX11_judge 4 = .ok (.ifCond .ne 5, 3) := by decide +kernel
theorem dX11_judge_7 : decode cX11_judge 7 = .ok (.iconst (-1), 1) := by decide +kernel
theorem dX11_judge_8 : decode cX11_judge 8 = .ok (.ireturn, 1) := by decide +kernel
theorem dX11_judge_9 : decode cX11_judge 9 = .ok (.aload_n 0, 1) := by decide +kernel
theorem dX11_judge_10 : decode cX11_judge 10 = .ok (.getfield 37, 3) := by decide +kernel
theorem dX11_judge_13 : decode cX11_judge 13 = .ok (.iload_n 1, 1) := by decide +kernel
theorem dX11_judge_14 : decode cX11_judge 14 = .ok (.aaload, 1) := by decide +kernel
theorem dX11_judge_15 : decode cX11_judge 15 = .ok (.astore_n 3, 1) := by decide +kernel
theorem dX11_judge_16 : decode cX11_judge 16 = .ok (.aload_n 3, 1) := by decide +kernel
theorem dX11_judge_17 : decode cX11_judge 17 = .ok (.invokevirtual 246, 3) := by decide +kernel
theorem dX11_judge_20 : decode cX11_judge 20 = .ok (.ifCond .eq 14, 3) := by decide +kernel
theorem dX11_judge_23 : decode cX11_judge 23 = .ok (.aload_n 3, 1) := by decide +kernel
theorem dX11_judge_24 : decode cX11_judge 24 = .ok (.getfield 249, 3) := by decide +kernel
theorem dX11_judge_27 : decode cX11_judge 27 = .ok (.iconst 4, 1) := by decide +kernel
theorem dX11_judge_28 : decode cX11_judge 28 = .ok (.if_icmp .eq 6, 3) := by decide +kernel
theorem dX11_judge_31 : decode cX11_judge 31 = .ok (.bipush (-12), 2) := by decide +kernel
theorem dX11_judge_33 : decode cX11_judge 33 = .ok (.ireturn, 1) := by decide +kernel
theorem dX11_judge_34 : decode cX11_judge 34 = .ok (.iconst 0, 1) := by decide +kernel
theorem dX11_judge_35 : decode cX11_judge 35 = .ok (.istore 4, 2) := by decide +kernel
theorem dX11_judge_37 : decode cX11_judge 37 = .ok (.iload 4, 2) := by decide +kernel
theorem dX11_judge_39 : decode cX11_judge 39 = .ok (.aload_n 0, 1) := by decide +kernel
theorem dX11_judge_40 : decode cX11_judge 40 = .ok (.getfield 12, 3) := by decide +kernel
theorem dX11_judge_43 : decode cX11_judge 43 = .ok (.invokevirtual 162, 3) := by decide +kernel
theorem dX11_judge_46 : decode cX11_judge 46 = .ok (.if_icmp .ge 64, 3) := by decide +kernel
theorem dX11_judge_49 : decode cX11_judge 49 = .ok (.iload_n 2, 1) := by decide +kernel
theorem dX11_judge_50 : decode cX11_judge 50 = .ok (.ifCond .lt 14, 3) := by decide +kernel
theorem dX11_judge_53 : decode cX11_judge 53 = .ok (.iload_n 2, 1) := by decide +kernel
theorem dX11_judge_54 : decode cX11_judge 54 = .ok (.aload_n 3, 1) := by decide +kernel
theorem dX11_judge_55 : decode cX11_judge 55 = .ok (.getfield 252, 3) := by decide +kernel
theorem dX11_judge_58 : decode cX11_judge 58 = .ok (.iload 4, 2) := by decide +kernel
theorem dX11_judge_60 : decode cX11_judge 60 = .ok (.isub, 1) := by decide +kernel
theorem dX11_judge_61 : decode cX11_judge 61 = .ok (.if_icmp .lt 9, 3) := by decide +kernel
theorem dX11_judge_64 : decode cX11_judge 64 = .ok (.bipush 100, 2) := by decide +kernel
theorem dX11_judge_66 : decode cX11_judge 66 = .ok (.iload 4, 2) := by decide +kernel
theorem dX11_judge_68 : decode cX11_judge 68 = .ok (.iadd, 1) := by decide +kernel
theorem dX11_judge_69 : decode cX11_judge 69 = .ok (.ireturn, 1) := by decide +kernel
theorem dX11_judge_70 : decode cX11_judge 70 = .ok (.aload_n 3, 1) := by decide +kernel
theorem dX11_judge_71 : decode cX11_judge 71 = .ok (.getfield 255, 3) := by decide +kernel
theorem dX11_judge_74 : decode cX11_judge 74 = .ok (.iload_n 2, 1) := by decide +kernel
theorem dX11_judge_75 : decode cX11_judge 75 = .ok (.iload 4, 2) := by decide +kernel
theorem dX11_judge_77 : decode cX11_judge 77 = .ok (.iadd, 1) := by decide +kernel
theorem dX11_judge_78 : decode cX11_judge 78 = .ok (.laload, 1) := by decide +kernel
theorem dX11_judge_79 : decode cX11_judge 79 = .ok (.lconst 0, 1) := by decide +kernel
theorem dX11_judge_80 : decode cX11_judge 80 = .ok (.lcmp, 1) := by decide +kernel
theorem dX11_judge_81 : decode cX11_judge 81 = .ok (.ifCond .eq 7, 3) := by decide +kernel
theorem dX11_judge_84 : decode cX11_judge 84 = .ok (.iconst 1, 1) := by decide +kernel
theorem dX11_judge_85 : decode cX11_judge 85 = .ok (.goto 4, 3) := by decide +kernel
theorem dX11_judge_88 : decode cX11_judge 88 = .ok (.iconst 0, 1) := by decide +kernel
theorem dX11_judge_89 : decode cX11_judge 89 = .ok (.aload_n 0, 1) := by decide +kernel
theorem dX11_judge_90 : decode cX11_judge 90 = .ok (.getfield 12, 3) := by decide +kernel
theorem dX11_judge_93 : decode cX11_judge 93 = .ok (.iload 4, 2) := by decide +kernel
theorem dX11_judge_95 : decode cX11_judge 95 = .ok (.invokevirtual 121, 3) := by decide +kernel
theorem dX11_judge_98 : decode cX11_judge 98 = .ok (.if_icmp .eq 6, 3) := by decide +kernel
theorem dX11_judge_101 : decode cX11_judge 101 = .ok (.iload 4, 2) := by decide +kernel
theorem dX11_judge_103 : decode cX11_judge 103 = .ok (.ireturn, 1) := by decide +kernel
theorem dX11_judge_104 : decode cX11_judge 104 = .ok (.iinc 4 1, 3) := by decide +kernel
theorem dX11_judge_107 : decode cX11_judge 107 = .ok (.goto (-70), 3) := by decide +kernel
theorem dX11_judge_110 : decode cX11_judge 110 = .ok (.bipush (-5), 2) := by decide +kernel
theorem dX11_judge_112 : decode cX11_judge 112 = .ok (.ireturn, 1) := by decide +kernel
theorem dX11_image_0 : decode cX11_image 0 = .ok (.aload_n 0, 1) := by decide +kernel
theorem dX11_image_1 : decode cX11_image 1 = .ok (.getfield 18, 3) := by decide +kernel
theorem dX11_image_4 : decode cX11_image 4 = .ok (.aload_n 0, 1) := by decide +kernel
theorem dX11_image_5 : decode cX11_image 5 = .ok (.getfield 12, 3) := by decide +kernel
theorem dX11_image_8 : decode cX11_image 8 = .ok (.invokevirtual 177, 3) := by decide +kernel
theorem dX11_image_11 : decode cX11_image 11 = .ok (.aload_n 0, 1) := by decide +kernel
theorem dX11_image_12 : decode cX11_image 12 = .ok (.iconst 1, 1) := by decide +kernel
theorem dX11_image_13 : decode cX11_image 13 = .ok (.putfield 259, 3) := by decide +kernel
theorem dX11_image_16 : decode cX11_image 16 = .ok (.aload_n 0, 1) := by decide +kernel
theorem dX11_image_17 : decode cX11_image 17 = .ok (.getfield 12, 3) := by decide +kernel
theorem dX11_image_20 : decode cX11_image 20 = .ok (.getfield 56, 3) := by decide +kernel
theorem dX11_image_23 : decode cX11_image 23 = .ok (.ireturn, 1) := by decide +kernel
theorem dX11_undo_0 : decode cX11_undo 0 = .ok (.aload_n 0, 1) := by decide +kernel
theorem dX11_undo_1 : decode cX11_undo 1 = .ok (.getfield 259, 3) := by decide +kernel
theorem dX11_undo_4 : decode cX11_undo 4 = .ok (.ifCond .ne 6, 3) := by decide +kernel
theorem dX11_undo_7 : decode cX11_undo 7 = .ok (.bipush (-3), 2) := by decide +kernel
theorem dX11_undo_9 : decode cX11_undo 9 = .ok (.ireturn, 1) := by decide +kernel
theorem dX11_undo_10 : decode cX11_undo 10 = .ok (.aload_n 0, 1) := by decide +kernel
theorem dX11_undo_11 : decode cX11_undo 11 = .ok (.getfield 12, 3) := by decide +kernel
theorem dX11_undo_14 : decode cX11_undo 14 = .ok (.aload_n 0, 1) := by decide +kernel
theorem dX11_undo_15 : decode cX11_undo 15 = .ok (.getfield 18, 3) := by decide +kernel
theorem dX11_undo_18 : decode cX11_undo 18 = .ok (.invokevirtual 177, 3) := by decide +kernel
theorem dX11_undo_21 : decode cX11_undo 21 = .ok (.aload_n 0, 1) := by decide +kernel
theorem dX11_undo_22 : decode cX11_undo 22 = .ok (.getfield 12, 3) := by decide +kernel
theorem dX11_undo_25 : decode cX11_undo 25 = .ok (.getfield 56, 3) := by decide +kernel
theorem dX11_undo_28 : decode cX11_undo 28 = .ok (.ireturn, 1) := by decide +kernel
theorem dX11_act_0 : decode cX11_act 0 = .ok (.aload_n 0, 1) := by decide +kernel
theorem dX11_act_1 : decode cX11_act 1 = .ok (.getfield 44, 3) := by decide +kernel
theorem dX11_act_4 : decode cX11_act 4 = .ok (.iconst 0, 1) := by decide +kernel
theorem dX11_act_5 : decode cX11_act 5 = .ok (.putfield 263, 3) := by decide +kernel
theorem dX11_act_8 : decode cX11_act 8 = .ok (.aload_n 0, 1) := by decide +kernel
theorem dX11_act_9 : decode cX11_act 9 = .ok (.getfield 12, 3) := by decide +kernel
theorem dX11_act_12 : decode cX11_act 12 = .ok (.iload_n 1, 1) := by decide +kernel
theorem dX11_act_13 : decode cX11_act 13 = .ok (.invokevirtual 68, 3) := by decide +kernel
theorem dX11_act_16 : decode cX11_act 16 = .ok (.astore 4, 2) := by decide +kernel
theorem dX11_act_18 : decode cX11_act 18 = .ok (.aload 4, 2) := by decide +kernel
theorem dX11_act_20 : decode cX11_act 20 = .ok (.ifnonnull 5, 3) := by decide +kernel
theorem dX11_act_23 : decode cX11_act 23 = .ok (.iconst 0, 1) := by decide +kernel
theorem dX11_act_24 : decode cX11_act 24 = .ok (.ireturn, 1) := by decide +kernel
theorem dX11_act_25 : decode cX11_act 25 = .ok (.iload_n 2, 1) := by decide +kernel
theorem dX11_act_26 : decode cX11_act 26 = .ok (.tableswitch 59 0 2 #[26, 37, 48], 26) := by decide +kernel
theorem dX11_act_52 : decode cX11_act 52 = .ok (.aload 4, 2) := by decide +kernel
theorem dX11_act_54 : decode cX11_act 54 = .ok (.iload_n 3, 1) := by decide +kernel
theorem dX11_act_55 : decode cX11_act 55 = .ok (.aload_n 0, 1) := by decide +kernel
theorem dX11_act_56 : decode cX11_act 56 = .ok (.getfield 44, 3) := by decide +kernel
theorem dX11_act_59 : decode cX11_act 59 = .ok (.invokevirtual 266, 3) := by decide +kernel
theorem dX11_act_62 : decode cX11_act 62 = .ok (.ireturn, 1) := by decide +kernel
theorem dX11_act_63 : decode cX11_act 63 = .ok (.aload 4, 2) := by decide +kernel
theorem dX11_act_65 : decode cX11_act 65 = .ok (.iload_n 3, 1) := by decide +kernel
theorem dX11_act_66 : decode cX11_act 66 = .ok (.aload_n 0, 1) := by decide +kernel
theorem dX11_act_67 : decode cX11_act 67 = .ok (.getfield 44, 3) := by decide +kernel
theorem dX11_act_70 : decode cX11_act 70 = .ok (.invokevirtual 270, 3) := by decide +kernel
theorem dX11_act_73 : decode cX11_act 73 = .ok (.ireturn, 1) := by decide +kernel
theorem dX11_act_74 : decode cX11_act 74 = .ok (.aload 4, 2) := by decide +kernel
theorem dX11_act_76 : decode cX11_act 76 = .ok (.iload_n 3, 1) := by decide +kernel
theorem dX11_act_77 : decode cX11_act 77 = .ok (.aload_n 0, 1) := by decide +kernel
theorem dX11_act_78 : decode cX11_act 78 = .ok (.getfield 44, 3) := by decide +kernel
theorem dX11_act_81 : decode cX11_act 81 = .ok (.invokevirtual 273, 3) := by decide +kernel
theorem dX11_act_84 : decode cX11_act 84 = .ok (.ireturn, 1) := by decide +kernel
theorem dX11_act_85 : decode cX11_act 85 = .ok (.iconst 0, 1) := by decide +kernel
theorem dX11_act_86 : decode cX11_act 86 = .ok (.ireturn, 1) := by decide +kernel
theorem dX11_trace_0 : decode cX11_trace 0 = .ok (.iload_n 1, 1) := by decide +kernel
theorem dX11_trace_1 : decode cX11_trace 1 = .ok (.ifCond .lt 20, 3) := by decide +kernel
theorem dX11_trace_4 : decode cX11_trace 4 = .ok (.iload_n 1, 1) := by decide +kernel
theorem dX11_trace_5 : decode cX11_trace 5 = .ok (.aload_n 0, 1) := by decide +kernel
theorem dX11_trace_6 : decode cX11_trace 6 = .ok (.getfield 44, 3) := by decide +kernel
theorem dX11_trace_9 : decode cX11_trace 9 = .ok (.getfield 263, 3) := by decide +kernel
theorem dX11_trace_12 : decode cX11_trace 12 = .ok (.if_icmp .ge 9, 3) := by decide +kernel
theorem dX11_trace_15 : decode cX11_trace 15 = .ok (.iload_n 1, 1) := by decide +kernel
theorem dX11_trace_16 : decode cX11_trace 16 = .ok (.bipush 20, 2) := by decide +kernel
theorem dX11_trace_18 : decode cX11_trace 18 = .ok (.if_icmp .lt 5, 3) := by decide +kernel
theorem dX11_trace_21 : decode cX11_trace 21 = .ok (.iconst (-1), 1) := by decide +kernel
theorem dX11_trace_22 : decode cX11_trace 22 = .ok (.ireturn, 1) := by decide +kernel
theorem dX11_trace_23 : decode cX11_trace 23 = .ok (.aload_n 0, 1) := by decide +kernel
theorem dX11_trace_24 : decode cX11_trace 24 = .ok (.getfield 44, 3) := by decide +kernel
theorem dX11_trace_27 : decode cX11_trace 27 = .ok (.getfield 276, 3) := by decide +kernel
theorem dX11_trace_30 : decode cX11_trace 30 = .ok (.iload_n 1, 1) := by decide +kernel
theorem dX11_trace_31 : decode cX11_trace 31 = .ok (.iaload, 1) := by decide +kernel
theorem dX11_trace_32 : decode cX11_trace 32 = .ok (.ireturn, 1) := by decide +kernel
theorem dX11_taken_0 : decode cX11_taken 0 = .ok (.iload_n 2, 1) := by decide +kernel
theorem dX11_taken_1 : decode cX11_taken 1 = .ok (.ifCond .lt 9, 3) := by decide +kernel
theorem dX11_taken_4 : decode cX11_taken 4 = .ok (.iload_n 2, 1) := by decide +kernel
theorem dX11_taken_5 : decode cX11_taken 5 = .ok (.bipush 6, 2) := by decide +kernel
theorem dX11_taken_7 : decode cX11_taken 7 = .ok (.if_icmp .le 6, 3) := by decide +kernel
theorem dX11_taken_10 : decode cX11_taken 10 = .ok (.bipush (-2), 2) := by decide +kernel
theorem dX11_taken_12 : decode cX11_taken 12 = .ok (.ireturn, 1) := by decide +kernel
theorem dX11_taken_13 : decode cX11_taken 13 = .ok (.aload_n 0, 1) := by decide +kernel
theorem dX11_taken_14 : decode cX11_taken 14 = .ok (.getfield 12, 3) := by decide +kernel
theorem dX11_taken_17 : decode cX11_taken 17 = .ok (.iload_n 1, 1) := by decide +kernel
theorem dX11_taken_18 : decode cX11_taken 18 = .ok (.invokevirtual 68, 3) := by decide +kernel
theorem dX11_taken_21 : decode cX11_taken 21 = .ok (.astore_n 3, 1) := by decide +kernel
theorem dX11_taken_22 : decode cX11_taken 22 = .ok (.aload_n 3, 1) := by decide +kernel
theorem dX11_taken_23 : decode cX11_taken 23 = .ok (.ifnonnull 6, 3) := by decide +kernel
theorem dX11_taken_26 : decode cX11_taken 26 = .ok (.bipush (-11), 2) := by decide +kernel
theorem dX11_taken_28 : decode cX11_taken 28 = .ok (.ireturn, 1) := by decide +kernel
theorem dX11_taken_29 : decode cX11_taken 29 = .ok (.aload_n 3, 1) := by decide +kernel
theorem dX11_taken_30 : decode cX11_taken 30 = .ok (.iload_n 2, 1) := by decide +kernel
theorem dX11_taken_31 : decode cX11_taken 31 = .ok (.invokestatic 279, 3) := by decide +kernel
theorem dX11_taken_34 : decode cX11_taken 34 = .ok (.ifCond .eq 10, 3) := by decide +kernel
theorem dX11_taken_37 : decode cX11_taken 37 = .ok (.aload_n 3, 1) := by decide +kernel
theorem dX11_taken_38 : decode cX11_taken 38 = .ok (.getfield 72, 3) := by decide +kernel
theorem dX11_taken_41 : decode cX11_taken 41 = .ok (.goto 5, 3) := by decide +kernel
theorem dX11_taken_44 : decode cX11_taken 44 = .ok (.bipush (-12), 2) := by decide +kernel
theorem dX11_taken_46 : decode cX11_taken 46 = .ok (.ireturn, 1) := by decide +kernel
theorem dX11_count_0 : decode cX11_count 0 = .ok (.iload_n 1, 1) := by decide +kernel
theorem dX11_count_1 : decode cX11_count 1 = .ok (.tableswitch 81 0 5 #[39, 47, 52, 60, 68, 73], 39) := by decide +kernel
theorem dX11_count_40 : decode cX11_count 40 = .ok (.aload_n 0, 1) := by decide +kernel
theorem dX11_count_41 : decode cX11_count 41 = .ok (.getfield 12, 3) := by decide +kernel
theorem dX11_count_44 : decode cX11_count 44 = .ok (.getfield 56, 3) := by decide +kernel
theorem dX11_count_47 : decode cX11_count 47 = .ok (.ireturn, 1) := by decide +kernel
theorem dX11_count_48 : decode cX11_count 48 = .ok (.aload_n 0, 1) := by decide +kernel
theorem dX11_count_49 : decode cX11_count 49 = .ok (.getfield 146, 3) := by decide +kernel
theorem dX11_count_52 : decode cX11_count 52 = .ok (.ireturn, 1) := by decide +kernel
theorem dX11_count_53 : decode cX11_count 53 = .ok (.aload_n 0, 1) := by decide +kernel
theorem dX11_count_54 : decode cX11_count 54 = .ok (.getfield 12, 3) := by decide +kernel
theorem dX11_count_57 : decode cX11_count 57 = .ok (.getfield 225, 3) := by decide +kernel
theorem dX11_count_60 : decode cX11_count 60 = .ok (.ireturn, 1) := by decide +kernel
theorem dX11_count_61 : decode cX11_count 61 = .ok (.aload_n 0, 1) := by decide +kernel
theorem dX11_count_62 : decode cX11_count 62 = .ok (.getfield 12, 3) := by decide +kernel
theorem dX11_count_65 : decode cX11_count 65 = .ok (.getfield 234, 3) := by decide +kernel
theorem dX11_count_68 : decode cX11_count 68 = .ok (.ireturn, 1) := by decide +kernel
theorem dX11_count_69 : decode cX11_count 69 = .ok (.aload_n 0, 1) := by decide +kernel
theorem dX11_count_70 : decode cX11_count 70 = .ok (.getfield 143, 3) := by decide +kernel
theorem dX11_count_73 : decode cX11_count 73 = .ok (.ireturn, 1) := by decide +kernel
theorem dX11_count_74 : decode cX11_count 74 = .ok (.aload_n 0, 1) := by decide +kernel
theorem dX11_count_75 : decode cX11_count 75 = .ok (.getfield 44, 3) := by decide +kernel
theorem dX11_count_78 : decode cX11_count 78 = .ok (.getfield 263, 3) := by decide +kernel
theorem dX11_count_81 : decode cX11_count 81 = .ok (.ireturn, 1) := by decide +kernel
theorem dX11_count_82 : decode cX11_count 82 = .ok (.bipush (-2), 2) := by decide +kernel
theorem dX11_count_84 : decode cX11_count 84 = .ok (.ireturn, 1) := by decide +kernel
theorem dX11_tape_0 : decode cX11_tape 0 = .ok (.iload_n 1, 1) := by decide +kernel
theorem dX11_tape_1 : decode cX11_tape 1 = .ok (.invokestatic 243, 3) := by decide +kernel
theorem dX11_tape_4 : decode cX11_tape 4 = .ok (.ifCond .ne 5, 3) := by decide +kernel
theorem dX11_tape_7 : decode cX11_tape 7 = .ok (.iconst (-1), 1) := by decide +kernel
theorem dX11_tape_8 : decode cX11_tape 8 = .ok (.ireturn, 1) := by decide +kernel
theorem dX11_tape_9 : decode cX11_tape 9 = .ok (.iload_n 2, 1) := by decide +kernel
theorem dX11_tape_10 : decode cX11_tape 10 = .ok (.iconst (-1), 1) := by decide +kernel
theorem dX11_tape_11 : decode cX11_tape 11 = .ok (.if_icmp .ne 16, 3) := by decide +kernel
theorem dX11_tape_14 : decode cX11_tape 14 = .ok (.aload_n 0, 1) := by decide +kernel
theorem dX11_tape_15 : decode cX11_tape 15 = .ok (.getfield 37, 3) := by decide +kernel
theorem dX11_tape_18 : decode cX11_tape 18 = .ok (.iload_n 1, 1) := by decide +kernel
theorem dX11_tape_19 : decode cX11_tape 19 = .ok (.aaload, 1) := by decide +kernel
theorem dX11_tape_20 : decode cX11_tape 20 = .ok (.iload_n 2, 1) := by decide +kernel
theorem dX11_tape_21 : decode cX11_tape 21 = .ok (.iconst 0, 1) := by decide +kernel
theorem dX11_tape_22 : decode cX11_tape 22 = .ok (.invokevirtual 283, 3) := by decide +kernel
theorem dX11_tape_25 : decode cX11_tape 25 = .ok (.iconst 1, 1) := by decide +kernel
theorem dX11_tape_26 : decode cX11_tape 26 = .ok (.ireturn, 1) := by decide +kernel
theorem dX11_tape_27 : decode cX11_tape 27 = .ok (.iload_n 2, 1) := by decide +kernel
theorem dX11_tape_28 : decode cX11_tape 28 = .ok (.ifCond .lt 14, 3) := by decide +kernel
theorem dX11_tape_31 : decode cX11_tape 31 = .ok (.iload_n 2, 1) := by decide +kernel
theorem dX11_tape_32 : decode cX11_tape 32 = .ok (.iconst 4, 1) := by decide +kernel
theorem dX11_tape_33 : decode cX11_tape 33 = .ok (.if_icmp .gt 9, 3) := by decide +kernel
theorem dX11_tape_36 : decode cX11_tape 36 = .ok (.iload_n 3, 1) := by decide +kernel
theorem dX11_tape_37 : decode cX11_tape 37 = .ok (.bipush 60, 2) := by decide +kernel
theorem dX11_tape_39 : decode cX11_tape 39 = .ok (.if_icmp .le 6, 3) := by decide +kernel
theorem dX11_tape_42 : decode cX11_tape 42 = .ok (.bipush (-2), 2) := by decide +kernel
theorem dX11_tape_44 : decode cX11_tape 44 = .ok (.ireturn, 1) := by decide +kernel
theorem dX11_tape_45 : decode cX11_tape 45 = .ok (.iload_n 3, 1) := by decide +kernel
theorem dX11_tape_46 : decode cX11_tape 46 = .ok (.ifCond .ge 6, 3) := by decide +kernel
theorem dX11_tape_49 : decode cX11_tape 49 = .ok (.bipush (-14), 2) := by decide +kernel
theorem dX11_tape_51 : decode cX11_tape 51 = .ok (.ireturn, 1) := by decide +kernel
theorem dX11_tape_52 : decode cX11_tape 52 = .ok (.aload_n 0, 1) := by decide +kernel
theorem dX11_tape_53 : decode cX11_tape 53 = .ok (.getfield 37, 3) := by decide +kernel
theorem dX11_tape_56 : decode cX11_tape 56 = .ok (.iload_n 1, 1) := by decide +kernel
theorem dX11_tape_57 : decode cX11_tape 57 = .ok (.aaload, 1) := by decide +kernel
theorem dX11_tape_58 : decode cX11_tape 58 = .ok (.iload_n 2, 1) := by decide +kernel
theorem dX11_tape_59 : decode cX11_tape 59 = .ok (.iload_n 3, 1) := by decide +kernel
theorem dX11_tape_60 : decode cX11_tape 60 = .ok (.invokevirtual 283, 3) := by decide +kernel
theorem dX11_tape_63 : decode cX11_tape 63 = .ok (.iconst 1, 1) := by decide +kernel
theorem dX11_tape_64 : decode cX11_tape 64 = .ok (.ireturn, 1) := by decide +kernel
theorem dX11_item_0 : decode cX11_item 0 = .ok (.iload_n 1, 1) := by decide +kernel
theorem dX11_item_1 : decode cX11_item 1 = .ok (.invokestatic 243, 3) := by decide +kernel
theorem dX11_item_4 : decode cX11_item 4 = .ok (.ifCond .ne 5, 3) := by decide +kernel
theorem dX11_item_7 : decode cX11_item 7 = .ok (.iconst (-1), 1) := by decide +kernel
theorem dX11_item_8 : decode cX11_item 8 = .ok (.ireturn, 1) := by decide +kernel
theorem dX11_item_9 : decode cX11_item 9 = .ok (.aload_n 0, 1) := by decide +kernel
theorem dX11_item_10 : decode cX11_item 10 = .ok (.getfield 37, 3) := by decide +kernel
theorem dX11_item_13 : decode cX11_item 13 = .ok (.iload_n 1, 1) := by decide +kernel
theorem dX11_item_14 : decode cX11_item 14 = .ok (.aaload, 1) := by decide +kernel
theorem dX11_item_15 : decode cX11_item 15 = .ok (.astore 5, 2) := by decide +kernel
theorem dX11_item_17 : decode cX11_item 17 = .ok (.aload 5, 2) := by decide +kernel
theorem dX11_item_19 : decode cX11_item 19 = .ok (.invokevirtual 246, 3) := by decide +kernel
theorem dX11_item_22 : decode cX11_item 22 = .ok (.ifCond .ne 6, 3) := by decide +kernel
theorem dX11_item_25 : decode cX11_item 25 = .ok (.bipush (-11), 2) := by decide +kernel
theorem dX11_item_27 : decode cX11_item 27 = .ok (.ireturn, 1) := by decide +kernel
theorem dX11_item_28 : decode cX11_item 28 = .ok (.aload 5, 2) := by decide +kernel
theorem dX11_item_30 : decode cX11_item 30 = .ok (.iload_n 2, 1) := by decide +kernel
theorem dX11_item_31 : decode cX11_item 31 = .ok (.invokevirtual 286, 3) := by decide +kernel
theorem dX11_item_34 : decode cX11_item 34 = .ok (.ifCond .ne 6, 3) := by decide +kernel
theorem dX11_item_37 : decode cX11_item 37 = .ok (.bipush (-13), 2) := by decide +kernel
theorem dX11_item_39 : decode cX11_item 39 = .ok (.ireturn, 1) := by decide +kernel
theorem dX11_item_40 : decode cX11_item 40 = .ok (.aload 5, 2) := by decide +kernel
theorem dX11_item_42 : decode cX11_item 42 = .ok (.getfield 255, 3) := by decide +kernel
theorem dX11_item_45 : decode cX11_item 45 = .ok (.iload_n 2, 1) := by decide +kernel
theorem dX11_item_46 : decode cX11_item 46 = .ok (.aload 5, 2) := by decide +kernel
theorem dX11_item_48 : decode cX11_item 48 = .ok (.lload_n 3, 1) := by decide +kernel
theorem dX11_item_49 : decode cX11_item 49 = .ok (.invokevirtual 289, 3) := by decide +kernel
theorem dX11_item_52 : decode cX11_item 52 = .ok (.lastore, 1) := by decide +kernel
theorem dX11_item_53 : decode cX11_item 53 = .ok (.iconst 1, 1) := by decide +kernel
theorem dX11_item_54 : decode cX11_item 54 = .ok (.ireturn, 1) := by decide +kernel
theorem dX11_read_0 : decode cX11_read 0 = .ok (.iload_n 1, 1) := by decide +kernel
theorem dX11_read_1 : decode cX11_read 1 = .ok (.invokestatic 243, 3) := by decide +kernel
theorem dX11_read_4 : decode cX11_read 4 = .ok (.ifCond .eq 16, 3) := by decide +kernel
theorem dX11_read_7 : decode cX11_read 7 = .ok (.aload_n 0, 1) := by decide +kernel
theorem dX11_read_8 : decode cX11_read 8 = .ok (.getfield 37, 3) := by decide +kernel
theorem dX11_read_11 : decode cX11_read 11 = .ok (.iload_n 1, 1) := by decide +kernel
theorem dX11_read_12 : decode cX11_read 12 = .ok (.aaload, 1) := by decide +kernel
theorem dX11_read_13 : decode cX11_read 13 = .ok (.iload_n 2, 1) := by decide +kernel
theorem dX11_read_14 : decode cX11_read 14 = .ok (.invokevirtual 286, 3) := by decide +kernel
theorem dX11_read_17 : decode cX11_read 17 = .ok (.ifCond .ne 7, 3) := by decide +kernel
theorem dX11_read_20 : decode cX11_read 20 = .ok (.ldc2_w 293, 3) := by decide +kernel
theorem dX11_read_23 : decode cX11_read 23 = .ok (.lreturn, 1) := by decide +kernel
theorem dX11_read_24 : decode cX11_read 24 = .ok (.aload_n 0, 1) := by decide +kernel
theorem dX11_read_25 : decode cX11_read 25 = .ok (.getfield 37, 3) := by decide +kernel
theorem dX11_read_28 : decode cX11_read 28 = .ok (.iload_n 1, 1) := by decide +kernel
theorem dX11_read_29 : decode cX11_read 29 = .ok (.aaload, 1) := by decide +kernel
theorem dX11_read_30 : decode cX11_read 30 = .ok (.getfield 255, 3) := by decide +kernel
theorem dX11_read_33 : decode cX11_read 33 = .ok (.iload_n 2, 1) := by decide +kernel
theorem dX11_read_34 : decode cX11_read 34 = .ok (.laload, 1) := by decide +kernel
theorem dX11_read_35 : decode cX11_read 35 = .ok (.lreturn, 1) := by decide +kernel
theorem dX11_shift_0 : decode cX11_shift 0 = .ok (.iload_n 1, 1) := by decide +kernel
theorem dX11_shift_1 : decode cX11_shift 1 = .ok (.invokestatic 243, 3) := by decide +kernel
theorem dX11_shift_4 : decode cX11_shift 4 = .ok (.ifCond .eq 10, 3) := by decide +kernel
theorem dX11_shift_7 : decode cX11_shift 7 = .ok (.iload_n 3, 1) := by decide +kernel
theorem dX11_shift_8 : decode cX11_shift 8 = .ok (.invokestatic 243, 3) := by decide +kernel
theorem dX11_shift_11 : decode cX11_shift 11 = .ok (.ifCond .ne 5, 3) := by decide +kernel
theorem dX11_shift_14 : decode cX11_shift 14 = .ok (.iconst (-1), 1) := by decide +kernel
theorem dX11_shift_15 : decode cX11_shift 15 = .ok (.ireturn, 1) := by decide +kernel
theorem dX11_shift_16 : decode cX11_shift 16 = .ok (.aload_n 0, 1) := by decide +kernel
theorem dX11_shift_17 : decode cX11_shift 17 = .ok (.getfield 37, 3) := by decide +kernel
theorem dX11_shift_20 : decode cX11_shift 20 = .ok (.iload_n 1, 1) := by decide +kernel
theorem dX11_shift_21 : decode cX11_shift 21 = .ok (.aaload, 1) := by decide +kernel
theorem dX11_shift_22 : decode cX11_shift 22 = .ok (.astore 6, 2) := by decide +kernel
theorem dX11_shift_24 : decode cX11_shift 24 = .ok (.aload_n 0, 1) := by decide +kernel
theorem dX11_shift_25 : decode cX11_shift 25 = .ok (.getfield 37, 3) := by decide +kernel
theorem dX11_shift_28 : decode cX11_shift 28 = .ok (.iload_n 3, 1) := by decide +kernel
theorem dX11_shift_29 : decode cX11_shift 29 = .ok (.aaload, 1) := by decide +kernel
theorem dX11_shift_30 : decode cX11_shift 30 = .ok (.astore 7, 2) := by decide +kernel
theorem dX11_shift_32 : decode cX11_shift 32 = .ok (.aload 6, 2) := by decide +kernel
theorem dX11_shift_34 : decode cX11_shift 34 = .ok (.invokevirtual 246, 3) := by decide +kernel
theorem dX11_shift_37 : decode cX11_shift 37 = .ok (.ifCond .eq 11, 3) := by decide +kernel
theorem dX11_shift_40 : decode cX11_shift 40 = .ok (.aload 7, 2) := by decide +kernel
theorem dX11_shift_42 : decode cX11_shift 42 = .ok (.invokevirtual 246, 3) := by decide +kernel
theorem dX11_shift_45 : decode cX11_shift 45 = .ok (.ifCond .ne 6, 3) := by decide +kernel
theorem dX11_shift_48 : decode cX11_shift 48 = .ok (.bipush (-11), 2) := by decide +kernel
theorem dX11_shift_50 : decode cX11_shift 50 = .ok (.ireturn, 1) := by decide +kernel
theorem dX11_shift_51 : decode cX11_shift 51 = .ok (.aload 6, 2) := by decide +kernel
theorem dX11_shift_53 : decode cX11_shift 53 = .ok (.getfield 249, 3) := by decide +kernel
theorem dX11_shift_56 : decode cX11_shift 56 = .ok (.aload 7, 2) := by decide +kernel
theorem dX11_shift_58 : decode cX11_shift 58 = .ok (.getfield 249, 3) := by decide +kernel
theorem dX11_shift_61 : decode cX11_shift 61 = .ok (.if_icmp .eq 6, 3) := by decide +kernel
theorem dX11_shift_64 : decode cX11_shift 64 = .ok (.bipush (-12), 2) := by decide +kernel
theorem dX11_shift_66 : decode cX11_shift 66 = .ok (.ireturn, 1) := by decide +kernel
theorem dX11_shift_67 : decode cX11_shift 67 = .ok (.aload 6, 2) := by decide +kernel
theorem dX11_shift_69 : decode cX11_shift 69 = .ok (.iload_n 2, 1) := by decide +kernel
theorem dX11_shift_70 : decode cX11_shift 70 = .ok (.iload 5, 2) := by decide +kernel
theorem dX11_shift_72 : decode cX11_shift 72 = .ok (.invokevirtual 295, 3) := by decide +kernel
theorem dX11_shift_75 : decode cX11_shift 75 = .ok (.ifCond .eq 15, 3) := by decide +kernel
theorem dX11_shift_78 : decode cX11_shift 78 = .ok (.aload 7, 2) := by decide +kernel
theorem dX11_shift_80 : decode cX11_shift 80 = .ok (.iload 4, 2) := by decide +kernel
theorem dX11_shift_82 : decode cX11_shift 82 = .ok (.iload 5, 2) := by decide +kernel
theorem dX11_shift_84 : decode cX11_shift 84 = .ok (.invokevirtual 295, 3) := by decide +kernel
theorem dX11_shift_87 : decode cX11_shift 87 = .ok (.ifCond .ne 6, 3) := by decide +kernel
theorem dX11_shift_90 : decode cX11_shift 90 = .ok (.bipush (-13), 2) := by decide +kernel
theorem dX11_shift_92 : decode cX11_shift 92 = .ok (.ireturn, 1) := by decide +kernel
theorem dX11_shift_93 : decode cX11_shift 93 = .ok (.aload 6, 2) := by decide +kernel
theorem dX11_shift_95 : decode cX11_shift 95 = .ok (.getfield 255, 3) := by decide +kernel
theorem dX11_shift_98 : decode cX11_shift 98 = .ok (.iload_n 2, 1) := by decide +kernel
theorem dX11_shift_99 : decode cX11_shift 99 = .ok (.aload 7, 2) := by decide +kernel
theorem dX11_shift_101 : decode cX11_shift 101 = .ok (.getfield 255, 3) := by decide +kernel
theorem dX11_shift_104 : decode cX11_shift 104 = .ok (.iload 4, 2) := by decide +kernel
theorem dX11_shift_106 : decode cX11_shift 106 = .ok (.iload 5, 2) := by decide +kernel
theorem dX11_shift_108 : decode cX11_shift 108 = .ok (.invokestatic 298, 3) := by decide +kernel
theorem dX11_shift_111 : decode cX11_shift 111 = .ok (.iload 5, 2) := by decide +kernel
theorem dX11_shift_113 : decode cX11_shift 113 = .ok (.ireturn, 1) := by decide +kernel
theorem dX11_asNumber_0 : decode cX11_asNumber 0 = .ok (.iload_n 0, 1) := by decide +kernel
theorem dX11_asNumber_1 : decode cX11_asNumber 1 = .ok (.ifCond .eq 7, 3) := by decide +kernel
theorem dX11_asNumber_4 : decode cX11_asNumber 4 = .ok (.iconst 1, 1) := by decide +kernel
theorem dX11_asNumber_5 : decode cX11_asNumber 5 = .ok (.goto 4, 3) := by decide +kernel
theorem dX11_asNumber_8 : decode cX11_asNumber 8 = .ok (.iconst 0, 1) := by decide +kernel
theorem dX11_asNumber_9 : decode cX11_asNumber 9 = .ok (.ireturn, 1) := by decide +kernel
theorem dX11_hasBit_0 : decode cX11_hasBit 0 = .ok (.iload_n 0, 1) := by decide +kernel
theorem dX11_hasBit_1 : decode cX11_hasBit 1 = .ok (.iload_n 1, 1) := by decide +kernel
theorem dX11_hasBit_2 : decode cX11_hasBit 2 = .ok (.ishr, 1) := by decide +kernel
theorem dX11_hasBit_3 : decode cX11_hasBit 3 = .ok (.iconst 1, 1) := by decide +kernel
theorem dX11_hasBit_4 : decode cX11_hasBit 4 = .ok (.iand, 1) := by decide +kernel
theorem dX11_hasBit_5 : decode cX11_hasBit 5 = .ok (.iconst 1, 1) := by decide +kernel
theorem dX11_hasBit_6 : decode cX11_hasBit 6 = .ok (.if_icmp .ne 7, 3) := by decide +kernel
theorem dX11_hasBit_9 : decode cX11_hasBit 9 = .ok (.iconst 1, 1) := by decide +kernel
theorem dX11_hasBit_10 : decode cX11_hasBit 10 = .ok (.goto 4, 3) := by decide +kernel
theorem dX11_hasBit_13 : decode cX11_hasBit 13 = .ok (.iconst 0, 1) := by decide +kernel
theorem dX11_hasBit_14 : decode cX11_hasBit 14 = .ok (.ireturn, 1) := by decide +kernel
theorem dX11_isTape_0 : decode cX11_isTape 0 = .ok (.iload_n 0, 1) := by decide +kernel
theorem dX11_isTape_1 : decode cX11_isTape 1 = .ok (.ifCond .lt 13, 3) := by decide +kernel
theorem dX11_isTape_4 : decode cX11_isTape 4 = .ok (.iload_n 0, 1) := by decide +kernel
theorem dX11_isTape_5 : decode cX11_isTape 5 = .ok (.bipush 6, 2) := by decide +kernel
theorem dX11_isTape_7 : decode cX11_isTape 7 = .ok (.if_icmp .ge 7, 3) := by decide +kernel
theorem dX11_isTape_10 : decode cX11_isTape 10 = .ok (.iconst 1, 1) := by decide +kernel
theorem dX11_isTape_11 : decode cX11_isTape 11 = .ok (.goto 4, 3) := by decide +kernel
theorem dX11_isTape_14 : decode cX11_isTape 14 = .ok (.iconst 0, 1) := by decide +kernel
theorem dX11_isTape_15 : decode cX11_isTape 15 = .ok (.ireturn, 1) := by decide +kernel
theorem dX11_newPerson_0 : decode cX11_newPerson 0 = .ok (.iload_n 0, 1) := by decide +kernel
theorem dX11_newPerson_1 : decode cX11_newPerson 1 = .ok (.tableswitch 105 1 6 #[39, 50, 61, 72, 83, 94], 39) := by decide +kernel
theorem dX11_newPerson_40 : decode cX11_newPerson 40 = .ok (.new 304, 3) := by decide +kernel
theorem dX11_newPerson_43 : decode cX11_newPerson 43 = .ok (.dup, 1) := by decide +kernel
theorem dX11_newPerson_44 : decode cX11_newPerson 44 = .ok (.iload_n 0, 1) := by decide +kernel
theorem dX11_newPerson_45 : decode cX11_newPerson 45 = .ok (.iload_n 1, 1) := by decide +kernel
theorem dX11_newPerson_46 : decode cX11_newPerson 46 = .ok (.iload_n 2, 1) := by decide +kernel
theorem dX11_newPerson_47 : decode cX11_newPerson 47 = .ok (.invokespecial 306, 3) := by decide +kernel
theorem dX11_newPerson_50 : decode cX11_newPerson 50 = .ok (.areturn, 1) := by decide +kernel
theorem dX11_newPerson_51 : decode cX11_newPerson 51 = .ok (.new 309, 3) := by decide +kernel
theorem dX11_newPerson_54 : decode cX11_newPerson 54 = .ok (.dup, 1) := by decide +kernel
theorem dX11_newPerson_55 : decode cX11_newPerson 55 = .ok (.iload_n 0, 1) := by decide +kernel
theorem dX11_newPerson_56 : decode cX11_newPerson 56 = .ok (.iload_n 1, 1) := by decide +kernel
theorem dX11_newPerson_57 : decode cX11_newPerson 57 = .ok (.iload_n 2, 1) := by decide +kernel
theorem dX11_newPerson_58 : decode cX11_newPerson 58 = .ok (.invokespecial 311, 3) := by decide +kernel
theorem dX11_newPerson_61 : decode cX11_newPerson 61 = .ok (.areturn, 1) := by decide +kernel
theorem dX11_newPerson_62 : decode cX11_newPerson 62 = .ok (.new 312, 3) := by decide +kernel
theorem dX11_newPerson_65 : decode cX11_newPerson 65 = .ok (.dup, 1) := by decide +kernel
theorem dX11_newPerson_66 : decode cX11_newPerson 66 = .ok (.iload_n 0, 1) := by decide +kernel
theorem dX11_newPerson_67 : decode cX11_newPerson 67 = .ok (.iload_n 1, 1) := by decide +kernel
theorem dX11_newPerson_68 : decode cX11_newPerson 68 = .ok (.iload_n 2, 1) := by decide +kernel
theorem dX11_newPerson_69 : decode cX11_newPerson 69 = .ok (.invokespecial 314, 3) := by decide +kernel
theorem dX11_newPerson_72 : decode cX11_newPerson 72 = .ok (.areturn, 1) := by decide +kernel
theorem dX11_newPerson_73 : decode cX11_newPerson 73 = .ok (.new 315, 3) := by decide +kernel
theorem dX11_newPerson_76 : decode cX11_newPerson 76 = .ok (.dup, 1) := by decide +kernel
theorem dX11_newPerson_77 : decode cX11_newPerson 77 = .ok (.iload_n 0, 1) := by decide +kernel
theorem dX11_newPerson_78 : decode cX11_newPerson 78 = .ok (.iload_n 1, 1) := by decide +kernel
theorem dX11_newPerson_79 : decode cX11_newPerson 79 = .ok (.iload_n 2, 1) := by decide +kernel
theorem dX11_newPerson_80 : decode cX11_newPerson 80 = .ok (.invokespecial 317, 3) := by decide +kernel
theorem dX11_newPerson_83 : decode cX11_newPerson 83 = .ok (.areturn, 1) := by decide +kernel
theorem dX11_newPerson_84 : decode cX11_newPerson 84 = .ok (.new 318, 3) := by decide +kernel
theorem dX11_newPerson_87 : decode cX11_newPerson 87 = .ok (.dup, 1) := by decide +kernel
theorem dX11_newPerson_88 : decode cX11_newPerson 88 = .ok (.iload_n 0, 1) := by decide +kernel
theorem dX11_newPerson_89 : decode cX11_newPerson 89 = .ok (.iload_n 1, 1) := by decide +kernel
theorem dX11_newPerson_90 : decode cX11_newPerson 90 = .ok (.iload_n 2, 1) := by decide +kernel
theorem dX11_newPerson_91 : decode cX11_newPerson 91 = .ok (.invokespecial 320, 3) := by decide +kernel
theorem dX11_newPerson_94 : decode cX11_newPerson 94 = .ok (.areturn, 1) := by decide +kernel
theorem dX11_newPerson_95 : decode cX11_newPerson 95 = .ok (.new 321, 3) := by decide +kernel
theorem dX11_newPerson_98 : decode cX11_newPerson 98 = .ok (.dup, 1) := by decide +kernel
theorem dX11_newPerson_99 : decode cX11_newPerson 99 = .ok (.iload_n 0, 1) := by decide +kernel
theorem dX11_newPerson_100 : decode cX11_newPerson 100 = .ok (.iload_n 1, 1) := by decide +kernel
theorem dX11_newPerson_101 : decode cX11_newPerson 101 = .ok (.iload_n 2, 1) := by decide +kernel
theorem dX11_newPerson_102 : decode cX11_newPerson 102 = .ok (.invokespecial 323, 3) := by decide +kernel
theorem dX11_newPerson_105 : decode cX11_newPerson 105 = .ok (.areturn, 1) := by decide +kernel
theorem dX11_newPerson_106 : decode cX11_newPerson 106 = .ok (.new 73, 3) := by decide +kernel
theorem dX11_newPerson_109 : decode cX11_newPerson 109 = .ok (.dup, 1) := by decide +kernel
theorem dX11_newPerson_110 : decode cX11_newPerson 110 = .ok (.iload_n 0, 1) := by decide +kernel
theorem dX11_newPerson_111 : decode cX11_newPerson 111 = .ok (.iload_n 1, 1) := by decide +kernel
theorem dX11_newPerson_112 : decode cX11_newPerson 112 = .ok (.iload_n 2, 1) := by decide +kernel
theorem dX11_newPerson_113 : decode cX11_newPerson 113 = .ok (.invokespecial 324, 3) := by decide +kernel
theorem dX11_newPerson_116 : decode cX11_newPerson 116 = .ok (.areturn, 1) := by decide +kernel
theorem dX11_isOfKind_0 : decode cX11_isOfKind 0 = .ok (.iload_n 1, 1) := by decide +kernel
theorem dX11_isOfKind_1 : decode cX11_isOfKind 1 = .ok (.tableswitch 69 1 6 #[39, 44, 49, 54, 59, 64], 39) := by decide +kernel
theorem dX11_isOfKind_40 : decode cX11_isOfKind 40 = .ok (.aload_n 0, 1) := by decide +kernel
theorem dX11_isOfKind_41 : decode cX11_isOfKind 41 = .ok (.instanceof 304, 3) := by decide +kernel
theorem dX11_isOfKind_44 : decode cX11_isOfKind 44 = .ok (.ireturn, 1) := by decide +kernel
theorem dX11_isOfKind_45 : decode cX11_isOfKind 45 = .ok (.aload_n 0, 1) := by decide +kernel
theorem dX11_isOfKind_46 : decode cX11_isOfKind 46 = .ok (.instanceof 309, 3) := by decide +kernel
theorem dX11_isOfKind_49 : decode cX11_isOfKind 49 = .ok (.ireturn, 1) := by decide +kernel
theorem dX11_isOfKind_50 : decode cX11_isOfKind 50 = .ok (.aload_n 0, 1) := by decide +kernel
theorem dX11_isOfKind_51 : decode cX11_isOfKind 51 = .ok (.instanceof 312, 3) := by decide +kernel
theorem dX11_isOfKind_54 : decode cX11_isOfKind 54 = .ok (.ireturn, 1) := by decide +kernel
theorem dX11_isOfKind_55 : decode cX11_isOfKind 55 = .ok (.aload_n 0, 1) := by decide +kernel
theorem dX11_isOfKind_56 : decode cX11_isOfKind 56 = .ok (.instanceof 315, 3) := by decide +kernel
theorem dX11_isOfKind_59 : decode cX11_isOfKind 59 = .ok (.ireturn, 1) := by decide +kernel
theorem dX11_isOfKind_60 : decode cX11_isOfKind 60 = .ok (.aload_n 0, 1) := by decide +kernel
theorem dX11_isOfKind_61 : decode cX11_isOfKind 61 = .ok (.instanceof 318, 3) := by decide +kernel
theorem dX11_isOfKind_64 : decode cX11_isOfKind 64 = .ok (.ireturn, 1) := by decide +kernel
theorem dX11_isOfKind_65 : decode cX11_isOfKind 65 = .ok (.aload_n 0, 1) := by decide +kernel
theorem dX11_isOfKind_66 : decode cX11_isOfKind 66 = .ok (.instanceof 321, 3) := by decide +kernel
theorem dX11_isOfKind_69 : decode cX11_isOfKind 69 = .ok (.ireturn, 1) := by decide +kernel
theorem dX11_isOfKind_70 : decode cX11_isOfKind 70 = .ok (.iconst 1, 1) := by decide +kernel
theorem dX11_isOfKind_71 : decode cX11_isOfKind 71 = .ok (.ireturn, 1) := by decide +kernel
theorem dX11_refusalOfTwo_0 : decode cX11_refusalOfTwo 0 = .ok (.aload_n 0, 1) := by decide +kernel
theorem dX11_refusalOfTwo_1 : decode cX11_refusalOfTwo 1 = .ok (.getfield 12, 3) := by decide +kernel
theorem dX11_refusalOfTwo_4 : decode cX11_refusalOfTwo 4 = .ok (.iload_n 1, 1) := by decide +kernel
theorem dX11_refusalOfTwo_5 : decode cX11_refusalOfTwo 5 = .ok (.invokevirtual 201, 3) := by decide +kernel
theorem dX11_refusalOfTwo_8 : decode cX11_refusalOfTwo 8 = .ok (.ifCond .eq 14, 3) := by decide +kernel
theorem dX11_refusalOfTwo_11 : decode cX11_refusalOfTwo 11 = .ok (.aload_n 0, 1) := by decide +kernel
theorem dX11_refusalOfTwo_12 : decode cX11_refusalOfTwo 12 = .ok (.getfield 12, 3) := by decide +kernel
theorem dX11_refusalOfTwo_15 : decode cX11_refusalOfTwo 15 = .ok (.iload_n 2, 1) := by decide +kernel
theorem dX11_refusalOfTwo_16 : decode cX11_refusalOfTwo 16 = .ok (.invokevirtual 201, 3) := by decide +kernel
theorem dX11_refusalOfTwo_19 : decode cX11_refusalOfTwo 19 = .ok (.ifCond .ne 5, 3) := by decide +kernel
theorem dX11_refusalOfTwo_22 : decode cX11_refusalOfTwo 22 = .ok (.iconst (-1), 1) := by decide +kernel
theorem dX11_refusalOfTwo_23 : decode cX11_refusalOfTwo 23 = .ok (.ireturn, 1) := by decide +kernel
theorem dX11_refusalOfTwo_24 : decode cX11_refusalOfTwo 24 = .ok (.iload_n 1, 1) := by decide +kernel
theorem dX11_refusalOfTwo_25 : decode cX11_refusalOfTwo 25 = .ok (.iload_n 2, 1) := by decide +kernel
theorem dX11_refusalOfTwo_26 : decode cX11_refusalOfTwo 26 = .ok (.if_icmp .ne 8, 3) := by decide +kernel
theorem dX11_refusalOfTwo_29 : decode cX11_refusalOfTwo 29 = .ok (.bipush (-2), 2) := by decide +kernel
theorem dX11_refusalOfTwo_31 : decode cX11_refusalOfTwo 31 = .ok (.goto 4, 3) := by decide +kernel
theorem dX11_refusalOfTwo_34 : decode cX11_refusalOfTwo 34 = .ok (.iconst 0, 1) := by decide +kernel
theorem dX11_refusalOfTwo_35 : decode cX11_refusalOfTwo 35 = .ok (.ireturn, 1) := by decide +kernel
theorem dX11_complainsAmong_0 : decode cX11_complainsAmong 0 = .ok (.iconst 0, 1) := by decide +kernel
theorem dX11_complainsAmong_1 : decode cX11_complainsAmong 1 = .ok (.istore_n 2, 1) := by decide +kernel
theorem dX11_complainsAmong_2 : decode cX11_complainsAmong 2 = .ok (.iconst 0, 1) := by decide +kernel
theorem dX11_complainsAmong_3 : decode cX11_complainsAmong 3 = .ok (.istore_n 3, 1) := by decide +kernel
theorem dX11_complainsAmong_4 : decode cX11_complainsAmong 4 = .ok (.iload_n 3, 1) := by decide +kernel
theorem dX11_complainsAmong_5 : decode cX11_complainsAmong 5 = .ok (.bipush 15, 2) := by decide +kernel
theorem dX11_complainsAmong_7 : decode cX11_complainsAmong 7 = .ok (.if_icmp .ge 38, 3) := by decide +kernel
theorem dX11_complainsAmong_10 : decode cX11_complainsAmong 10 = .ok (.iload_n 0, 1) := by decide +kernel
theorem dX11_complainsAmong_11 : decode cX11_complainsAmong 11 = .ok (.iload_n 3, 1) := by decide +kernel
theorem dX11_complainsAmong_12 : decode cX11_complainsAmong 12 = .ok (.invokestatic 198, 3) := by decide +kernel
theorem dX11_complainsAmong_15 : decode cX11_complainsAmong 15 = .ok (.ifCond .eq 24, 3) := by decide +kernel
theorem dX11_complainsAmong_18 : decode cX11_complainsAmong 18 = .ok (.getstatic 134, 3) := by decide +kernel
theorem dX11_complainsAmong_21 : decode cX11_complainsAmong 21 = .ok (.iload_n 3, 1) := by decide +kernel
theorem dX11_complainsAmong_22 : decode cX11_complainsAmong 22 = .ok (.iaload, 1) := by decide +kernel
theorem dX11_complainsAmong_23 : decode cX11_complainsAmong 23 = .ok (.iload_n 1, 1) := by decide +kernel
theorem dX11_complainsAmong_24 : decode cX11_complainsAmong 24 = .ok (.if_icmp .eq 12, 3) := by decide +kernel
theorem dX11_complainsAmong_27 : decode cX11_complainsAmong 27 = .ok (.getstatic 137, 3) := by decide +kernel
theorem dX11_complainsAmong_30 : decode cX11_complainsAmong 30 = .ok (.iload_n 3, 1) := by decide +kernel
theorem dX11_complainsAmong_31 : decode cX11_complainsAmong 31 = .ok (.iaload, 1) := by decide +kernel
theorem dX11_complainsAmong_32 : decode cX11_complainsAmong 32 = .ok (.iload_n 1, 1) := by decide +kernel
theorem dX11_complainsAmong_33 : decode cX11_complainsAmong 33 = .ok (.if_icmp .ne 6, 3) := by decide +kernel
theorem dX11_complainsAmong_36 : decode cX11_complainsAmong 36 = .ok (.iinc 2 1, 3) := by decide +kernel
theorem dX11_complainsAmong_39 : decode cX11_complainsAmong 39 = .ok (.iinc 3 1, 3) := by decide +kernel
theorem dX11_complainsAmong_42 : decode cX11_complainsAmong 42 = .ok (.goto (-38), 3) := by decide +kernel
theorem dX11_complainsAmong_45 : decode cX11_complainsAmong 45 = .ok (.iload_n 2, 1) := by decide +kernel
theorem dX11_complainsAmong_46 : decode cX11_complainsAmong 46 = .ok (.ireturn, 1) := by decide +kernel
theorem dX11_lowest_0 : decode cX11_lowest 0 = .ok (.iload_n 1, 1) := by decide +kernel
theorem dX11_lowest_1 : decode cX11_lowest 1 = .ok (.ifCond .le 12, 3) := by decide +kernel
theorem dX11_lowest_4 : decode cX11_lowest 4 = .ok (.iload_n 2, 1) := by decide +kernel
theorem dX11_lowest_5 : decode cX11_lowest 5 = .ok (.ifCond .lt 8, 3) := by decide +kernel
theorem dX11_lowest_8 : decode cX11_lowest 8 = .ok (.iload_n 2, 1) := by decide +kernel
theorem dX11_lowest_9 : decode cX11_lowest 9 = .ok (.iconst 1, 1) := by decide +kernel
theorem dX11_lowest_10 : decode cX11_lowest 10 = .ok (.if_icmp .le 7, 3) := by decide +kernel
theorem dX11_lowest_13 : decode cX11_lowest 13 = .ok (.ldc2_w 293, 3) := by decide +kernel
theorem dX11_lowest_16 : decode cX11_lowest 16 = .ok (.lreturn, 1) := by decide +kernel
theorem dX11_lowest_17 : decode cX11_lowest 17 = .ok (.iconst 1, 1) := by decide +kernel
theorem dX11_lowest_18 : decode cX11_lowest 18 = .ok (.istore_n 3, 1) := by decide +kernel
theorem dX11_lowest_19 : decode cX11_lowest 19 = .ok (.iconst 2, 1) := by decide +kernel
theorem dX11_lowest_20 : decode cX11_lowest 20 = .ok (.istore 4, 2) := by decide +kernel
theorem dX11_lowest_22 : decode cX11_lowest 22 = .ok (.iload 4, 2) := by decide +kernel
theorem dX11_lowest_24 : decode cX11_lowest 24 = .ok (.iload_n 1, 1) := by decide +kernel
theorem dX11_lowest_25 : decode cX11_lowest 25 = .ok (.if_icmp .gt 26, 3) := by decide +kernel
theorem dX11_lowest_28 : decode cX11_lowest 28 = .ok (.iload_n 0, 1) := by decide +kernel
theorem dX11_lowest_29 : decode cX11_lowest 29 = .ok (.iload 4, 2) := by decide +kernel
theorem dX11_lowest_31 : decode cX11_lowest 31 = .ok (.irem, 1) := by decide +kernel
theorem dX11_lowest_32 : decode cX11_lowest 32 = .ok (.ifCond .ne 13, 3) := by decide +kernel
theorem dX11_lowest_35 : decode cX11_lowest 35 = .ok (.iload_n 1, 1) := by decide +kernel
theorem dX11_lowest_36 : decode cX11_lowest 36 = .ok (.iload 4, 2) := by decide +kernel
theorem dX11_lowest_38 : decode cX11_lowest 38 = .ok (.irem, 1) := by decide +kernel
theorem dX11_lowest_39 : decode cX11_lowest 39 = .ok (.ifCond .ne 6, 3) := by decide +kernel
theorem dX11_lowest_42 : decode cX11_lowest 42 = .ok (.iload 4, 2) := by decide +kernel
theorem dX11_lowest_44 : decode cX11_lowest 44 = .ok (.istore_n 3, 1) := by decide +kernel
theorem dX11_lowest_45 : decode cX11_lowest 45 = .ok (.iinc 4 1, 3) := by decide +kernel
theorem dX11_lowest_48 : decode cX11_lowest 48 = .ok (.goto (-26), 3) := by decide +kernel
theorem dX11_lowest_51 : decode cX11_lowest 51 = .ok (.iload_n 2, 1) := by decide +kernel
theorem dX11_lowest_52 : decode cX11_lowest 52 = .ok (.ifCond .ne 7, 3) := by decide +kernel
theorem dX11_lowest_55 : decode cX11_lowest 55 = .ok (.iload_n 0, 1) := by decide +kernel
theorem dX11_lowest_56 : decode cX11_lowest 56 = .ok (.goto 4, 3) := by decide +kernel
theorem dX11_lowest_59 : decode cX11_lowest 59 = .ok (.iload_n 1, 1) := by decide +kernel
theorem dX11_lowest_60 : decode cX11_lowest 60 = .ok (.iload_n 3, 1) := by decide +kernel
theorem dX11_lowest_61 : decode cX11_lowest 61 = .ok (.idiv, 1) := by decide +kernel
theorem dX11_lowest_62 : decode cX11_lowest 62 = .ok (.i2l, 1) := by decide +kernel
theorem dX11_lowest_63 : decode cX11_lowest 63 = .ok (.lreturn, 1) := by decide +kernel
theorem dX11_offer_0 : decode cX11_offer 0 = .ok (.aload_n 0, 1) := by decide +kernel
theorem dX11_offer_1 : decode cX11_offer 1 = .ok (.getfield 52, 3) := by decide +kernel
theorem dX11_offer_4 : decode cX11_offer 4 = .ok (.iconst 0, 1) := by decide +kernel
theorem dX11_offer_5 : decode cX11_offer 5 = .ok (.iaload, 1) := by decide +kernel
theorem dX11_offer_6 : decode cX11_offer 6 = .ok (.bipush (-5), 2) := by decide +kernel
theorem dX11_offer_8 : decode cX11_offer 8 = .ok (.if_icmp .eq 13, 3) := by decide +kernel
theorem dX11_offer_11 : decode cX11_offer 11 = .ok (.iload_n 1, 1) := by decide +kernel
theorem dX11_offer_12 : decode cX11_offer 12 = .ok (.aload_n 0, 1) := by decide +kernel
theorem dX11_offer_13 : decode cX11_offer 13 = .ok (.getfield 52, 3) := by decide +kernel
theorem dX11_offer_16 : decode cX11_offer 16 = .ok (.iconst 0, 1) := by decide +kernel
theorem dX11_offer_17 : decode cX11_offer 17 = .ok (.iaload, 1) := by decide +kernel
theorem dX11_offer_18 : decode cX11_offer 18 = .ok (.if_icmp .ge 7, 3) := by decide +kernel
theorem dX11_offer_21 : decode cX11_offer 21 = .ok (.iconst 1, 1) := by decide +kernel
theorem dX11_offer_22 : decode cX11_offer 22 = .ok (.goto 4, 3) := by decide +kernel
theorem dX11_offer_25 : decode cX11_offer 25 = .ok (.iconst 0, 1) := by decide +kernel
theorem dX11_offer_26 : decode cX11_offer 26 = .ok (.istore 5, 2) := by decide +kernel
theorem dX11_offer_28 : decode cX11_offer 28 = .ok (.iload 5, 2) := by decide +kernel
theorem dX11_offer_30 : decode cX11_offer 30 = .ok (.ifCond .eq 42, 3) := by decide +kernel
theorem dX11_offer_33 : decode cX11_offer 33 = .ok (.aload_n 0, 1) := by decide +kernel
theorem dX11_offer_34 : decode cX11_offer 34 = .ok (.getfield 21, 3) := by decide +kernel
theorem dX11_offer_37 : decode cX11_offer 37 = .ok (.invokevirtual 218, 3) := by decide +kernel
theorem dX11_offer_40 : decode cX11_offer 40 = .ok (.ifCond .eq 32, 3) := by decide +kernel
theorem dX11_offer_43 : decode cX11_offer 43 = .ok (.aload_n 0, 1) := by decide +kernel
theorem dX11_offer_44 : decode cX11_offer 44 = .ok (.getfield 52, 3) := by decide +kernel
theorem dX11_offer_47 : decode cX11_offer 47 = .ok (.iconst 0, 1) := by decide +kernel
theorem dX11_offer_48 : decode cX11_offer 48 = .ok (.iload_n 1, 1) := by decide +kernel
theorem dX11_offer_49 : decode cX11_offer 49 = .ok (.iastore, 1) := by decide +kernel
theorem dX11_offer_50 : decode cX11_offer 50 = .ok (.aload_n 0, 1) := by decide +kernel
theorem dX11_offer_51 : decode cX11_offer 51 = .ok (.getfield 52, 3) := by decide +kernel
theorem dX11_offer_54 : decode cX11_offer 54 = .ok (.iconst 1, 1) := by decide +kernel
theorem dX11_offer_55 : decode cX11_offer 55 = .ok (.iload_n 2, 1) := by decide +kernel
theorem dX11_offer_56 : decode cX11_offer 56 = .ok (.iastore, 1) := by decide +kernel
theorem dX11_offer_57 : decode cX11_offer 57 = .ok (.aload_n 0, 1) := by decide +kernel
theorem dX11_offer_58 : decode cX11_offer 58 = .ok (.getfield 52, 3) := by decide +kernel
theorem dX11_offer_61 : decode cX11_offer 61 = .ok (.iconst 2, 1) := by decide +kernel
theorem dX11_offer_62 : decode cX11_offer 62 = .ok (.iload_n 3, 1) := by decide +kernel
theorem dX11_offer_63 : decode cX11_offer 63 = .ok (.iastore, 1) := by decide +kernel
theorem dX11_offer_64 : decode cX11_offer 64 = .ok (.aload_n 0, 1) := by decide +kernel
theorem dX11_offer_65 : decode cX11_offer 65 = .ok (.getfield 52, 3) := by decide +kernel
theorem dX11_offer_68 : decode cX11_offer 68 = .ok (.iconst 3, 1) := by decide +kernel
theorem dX11_offer_69 : decode cX11_offer 69 = .ok (.iload 4, 2) := by decide +kernel
theorem dX11_offer_71 : decode cX11_offer 71 = .ok (.iastore, 1) := by decide +kernel
theorem dX11_offer_72 : decode cX11_offer 72 = .ok (.return_, 1) := by decide +kernel
theorem dX12_init_0 : decode cX12_init 0 = .ok (.aload_n 0, 1) := by decide +kernel
theorem dX12_init_1 : decode cX12_init 1 = .ok (.invokespecial 1, 3) := by decide +kernel
theorem dX12_init_4 : decode cX12_init 4 = .ok (.aload_n 0, 1) := by decide +kernel
theorem dX12_init_5 : decode cX12_init 5 = .ok (.iconst 0, 1) := by decide +kernel
theorem dX12_init_6 : decode cX12_init 6 = .ok (.putfield 7, 3) := by decide +kernel
theorem dX12_init_9 : decode cX12_init 9 = .ok (.aload_n 0, 1) := by decide +kernel
theorem dX12_init_10 : decode cX12_init 10 = .ok (.iconst 0, 1) := by decide +kernel
theorem dX12_init_11 : decode cX12_init 11 = .ok (.putfield 13, 3) := by decide +kernel
theorem dX12_init_14 : decode cX12_init 14 = .ok (.aload_n 0, 1) := by decide +kernel
theorem dX12_init_15 : decode cX12_init 15 = .ok (.iconst (-1), 1) := by decide +kernel
theorem dX12_init_16 : decode cX12_init 16 = .ok (.putfield 16, 3) := by decide +kernel
theorem dX12_init_19 : decode cX12_init 19 = .ok (.aload_n 0, 1) := by decide +kernel
theorem dX12_init_20 : decode cX12_init 20 = .ok (.bipush 7, 2) := by decide +kernel
theorem dX12_init_22 : decode cX12_init 22 = .ok (.newarray .int, 2) := by decide +kernel
theorem dX12_init_24 : decode cX12_init 24 = .ok (.putfield 19, 3) := by decide +kernel
theorem dX12_init_27 : decode cX12_init 27 = .ok (.aload_n 0, 1) := by decide +kernel
theorem dX12_init_28 : decode cX12_init 28 = .ok (.bipush 7, 2) := by decide +kernel
theorem dX12_init_30 : decode cX12_init 30 = .ok (.newarray .int, 2) := by decide +kernel
theorem dX12_init_32 : decode cX12_init 32 = .ok (.putfield 23, 3) := by decide +kernel
theorem dX12_init_35 : decode cX12_init 35 = .ok (.aload_n 0, 1) := by decide +kernel
theorem dX12_init_36 : decode cX12_init 36 = .ok (.bipush 7, 2) := by decide +kernel
theorem dX12_init_38 : decode cX12_init 38 = .ok (.newarray .int, 2) := by decide +kernel
theorem dX12_init_40 : decode cX12_init 40 = .ok (.putfield 26, 3) := by decide +kernel
theorem dX12_init_43 : decode cX12_init 43 = .ok (.aload_n 0, 1) := by decide +kernel
theorem dX12_init_44 : decode cX12_init 44 = .ok (.bipush 28, 2) := by decide +kernel
theorem dX12_init_46 : decode cX12_init 46 = .ok (.newarray .int, 2) := by decide +kernel
theorem dX12_init_48 : decode cX12_init 48 = .ok (.putfield 29, 3) := by decide +kernel
theorem dX12_init_51 : decode cX12_init 51 = .ok (.aload_n 0, 1) := by decide +kernel
theorem dX12_init_52 : decode cX12_init 52 = .ok (.bipush 7, 2) := by decide +kernel
theorem dX12_init_54 : decode cX12_init 54 = .ok (.newarray .int, 2) := by decide +kernel
theorem dX12_init_56 : decode cX12_init 56 = .ok (.putfield 32, 3) := by decide +kernel
theorem dX12_init_59 : decode cX12_init 59 = .ok (.aload_n 0, 1) := by decide +kernel
theorem dX12_init_60 : decode cX12_init 60 = .ok (.iconst 0, 1) := by decide +kernel
theorem dX12_init_61 : decode cX12_init 61 = .ok (.putfield 35, 3) := by decide +kernel
theorem dX12_init_64 : decode cX12_init 64 = .ok (.aload_n 0, 1) := by decide +kernel
theorem dX12_init_65 : decode cX12_init 65 = .ok (.iconst (-1), 1) := by decide +kernel
theorem dX12_init_66 : decode cX12_init 66 = .ok (.putfield 38, 3) := by decide +kernel
theorem dX12_init_69 : decode cX12_init 69 = .ok (.aload_n 0, 1) := by decide +kernel
theorem dX12_init_70 : decode cX12_init 70 = .ok (.iconst 0, 1) := by decide +kernel
theorem dX12_init_71 : decode cX12_init 71 = .ok (.putfield 41, 3) := by decide +kernel
theorem dX12_init_74 : decode cX12_init 74 = .ok (.aload_n 0, 1) := by decide +kernel
theorem dX12_init_75 : decode cX12_init 75 = .ok (.iconst 0, 1) := by decide +kernel
theorem dX12_init_76 : decode cX12_init 76 = .ok (.putfield 44, 3) := by decide +kernel
theorem dX12_init_79 : decode cX12_init 79 = .ok (.aload_n 0, 1) := by decide +kernel
theorem dX12_init_80 : decode cX12_init 80 = .ok (.iconst 0, 1) := by decide +kernel
theorem dX12_init_81 : decode cX12_init 81 = .ok (.putfield 47, 3) := by decide +kernel
theorem dX12_init_84 : decode cX12_init 84 = .ok (.aload_n 0, 1) := by decide +kernel
theorem dX12_init_85 : decode cX12_init 85 = .ok (.bipush 100, 2) := by decide +kernel
theorem dX12_init_87 : decode cX12_init 87 = .ok (.newarray .int, 2) := by decide +kernel
theorem dX12_init_89 : decode cX12_init 89 = .ok (.putfield 50, 3) := by decide +kernel
theorem dX12_init_92 : decode cX12_init 92 = .ok (.aload_n 0, 1) := by decide +kernel
theorem dX12_init_93 : decode cX12_init 93 = .ok (.bipush 6, 2) := by decide +kernel
theorem dX12_init_95 : decode cX12_init 95 = .ok (.newarray .int, 2) := by decide +kernel
theorem dX12_init_97 : decode cX12_init 97 = .ok (.putfield 53, 3) := by decide +kernel
theorem dX12_init_100 : decode cX12_init 100 = .ok (.aload_n 0, 1) := by decide +kernel
theorem dX12_init_101 : decode cX12_init 101 = .ok (.bipush 60, 2) := by decide +kernel
theorem dX12_init_103 : decode cX12_init 103 = .ok (.newarray .int, 2) := by decide +kernel
theorem dX12_init_105 : decode cX12_init 105 = .ok (.putfield 56, 3) := by decide +kernel
theorem dX12_init_108 : decode cX12_init 108 = .ok (.aload_n 0, 1) := by decide +kernel
theorem dX12_init_109 : decode cX12_init 109 = .ok (.bipush 60, 2) := by decide +kernel
theorem dX12_init_111 : decode cX12_init 111 = .ok (.newarray .int, 2) := by decide +kernel
theorem dX12_init_113 : decode cX12_init 113 = .ok (.putfield 59, 3) := by decide +kernel
theorem dX12_init_116 : decode cX12_init 116 = .ok (.aload_n 0, 1) := by decide +kernel
theorem dX12_init_117 : decode cX12_init 117 = .ok (.bipush 60, 2) := by decide +kernel
theorem dX12_init_119 : decode cX12_init 119 = .ok (.newarray .int, 2) := by decide +kernel
theorem dX12_init_121 : decode cX12_init 121 = .ok (.putfield 62, 3) := by decide +kernel
theorem dX12_init_124 : decode cX12_init 124 = .ok (.aload_n 0, 1) := by decide +kernel
theorem dX12_init_125 : decode cX12_init 125 = .ok (.bipush 60, 2) := by decide +kernel
theorem dX12_init_127 : decode cX12_init 127 = .ok (.newarray .int, 2) := by decide +kernel
theorem dX12_init_129 : decode cX12_init 129 = .ok (.putfield 65, 3) := by decide +kernel
theorem dX12_init_132 : decode cX12_init 132 = .ok (.aload_n 0, 1) := by decide +kernel
theorem dX12_init_133 : decode cX12_init 133 = .ok (.sipush 600, 3) := by decide +kernel
theorem dX12_init_136 : decode cX12_init 136 = .ok (.newarray .int, 2) := by decide +kernel
theorem dX12_init_138 : decode cX12_init 138 = .ok (.putfield 68, 3) := by decide +kernel
theorem dX12_init_141 : decode cX12_init 141 = .ok (.aload_n 0, 1) := by decide +kernel
theorem dX12_init_142 : decode cX12_init 142 = .ok (.bipush 101, 2) := by decide +kernel
theorem dX12_init_144 : decode cX12_init 144 = .ok (.newarray .int, 2) := by decide +kernel
theorem dX12_init_146 : decode cX12_init 146 = .ok (.putfield 71, 3) := by decide +kernel
theorem dX12_init_149 : decode cX12_init 149 = .ok (.aload_n 0, 1) := by decide +kernel
theorem dX12_init_150 : decode cX12_init 150 = .ok (.iconst 0, 1) := by decide +kernel
theorem dX12_init_151 : decode cX12_init 151 = .ok (.putfield 74, 3) := by decide +kernel
theorem dX12_init_154 : decode cX12_init 154 = .ok (.aload_n 0, 1) := by decide +kernel
theorem dX12_init_155 : decode cX12_init 155 = .ok (.iconst 0, 1) := by decide +kernel
theorem dX12_init_156 : decode cX12_init 156 = .ok (.putfield 77, 3) := by decide +kernel
theorem dX12_init_159 : decode cX12_init 159 = .ok (.aload_n 0, 1) := by decide +kernel
theorem dX12_init_160 : decode cX12_init 160 = .ok (.iconst 0, 1) := by decide +kernel
theorem dX12_init_161 : decode cX12_init 161 = .ok (.putfield 80, 3) := by decide +kernel
theorem dX12_init_164 : decode cX12_init 164 = .ok (.aload_n 0, 1) := by decide +kernel
theorem dX12_init_165 : decode cX12_init 165 = .ok (.bipush 13, 2) := by decide +kernel
theorem dX12_init_167 : decode cX12_init 167 = .ok (.newarray .int, 2) := by decide +kernel
theorem dX12_init_169 : decode cX12_init 169 = .ok (.dup, 1) := by decide +kernel
theorem dX12_init_170 : decode cX12_init 170 = .ok (.iconst 0, 1) := by decide +kernel
theorem dX12_init_171 : decode cX12_init 171 = .ok (.bipush 119, 2) := by decide +kernel
theorem dX12_init_173 : decode cX12_init 173 = .ok (.iastore, 1) := by decide +kernel
theorem dX12_init_174 : decode cX12_init 174 = .ok (.dup, 1) := by decide +kernel
theorem dX12_init_175 : decode cX12_init 175 = .ok (.iconst 1, 1) := by decide +kernel
theorem dX12_init_176 : decode cX12_init 176 = .ok (.bipush 97, 2) := by decide +kernel
theorem dX12_init_178 : decode cX12_init 178 = .ok (.iastore, 1) := by decide +kernel
theorem dX12_init_179 : decode cX12_init 179 = .ok (.dup, 1) := by decide +kernel
theorem dX12_init_180 : decode cX12_init 180 = .ok (.iconst 2, 1) := by decide +kernel
theorem dX12_init_181 : decode cX12_init 181 = .ok (.bipush 110, 2) := by decide +kernel
theorem dX12_init_183 : decode cX12_init 183 = .ok (.iastore, 1) := by decide +kernel
theorem dX12_init_184 : decode cX12_init 184 = .ok (.dup, 1) := by decide +kernel
theorem dX12_init_185 : decode cX12_init 185 = .ok (.iconst 3, 1) := by decide +kernel
theorem dX12_init_186 : decode cX12_init 186 = .ok (.bipush 116, 2) := by decide +kernel
theorem dX12_init_188 : decode cX12_init 188 = .ok (.iastore, 1) := by decide +kernel
theorem dX12_init_189 : decode cX12_init 189 = .ok (.dup, 1) := by decide +kernel
theorem dX12_init_190 : decode cX12_init 190 = .ok (.iconst 4, 1) := by decide +kernel
theorem dX12_init_191 : decode cX12_init 191 = .ok (.bipush 109, 2) := by decide +kernel
theorem dX12_init_193 : decode cX12_init 193 = .ok (.iastore, 1) := by decide +kernel
theorem dX12_init_194 : decode cX12_init 194 = .ok (.dup, 1) := by decide +kernel
theorem dX12_init_195 : decode cX12_init 195 = .ok (.iconst 5, 1) := by decide +kernel
theorem dX12_init_196 : decode cX12_init 196 = .ok (.bipush 97, 2) := by decide +kernel
theorem dX12_init_198 : decode cX12_init 198 = .ok (.iastore, 1) := by decide +kernel
theorem dX12_init_199 : decode cX12_init 199 = .ok (.dup, 1) := by decide +kernel
theorem dX12_init_200 : decode cX12_init 200 = .ok (.bipush 6, 2) := by decide +kernel
theorem dX12_init_202 : decode cX12_init 202 = .ok (.bipush 107, 2) := by decide +kernel
theorem dX12_init_204 : decode cX12_init 204 = .ok (.iastore, 1) := by decide +kernel
theorem dX12_init_205 : decode cX12_init 205 = .ok (.dup, 1) := by decide +kernel
theorem dX12_init_206 : decode cX12_init 206 = .ok (.bipush 7, 2) := by decide +kernel
theorem dX12_init_208 : decode cX12_init 208 = .ok (.bipush 101, 2) := by decide +kernel
theorem dX12_init_210 : decode cX12_init 210 = .ok (.iastore, 1) := by decide +kernel
theorem dX12_init_211 : decode cX12_init 211 = .ok (.dup, 1) := by decide +kernel
theorem dX12_init_212 : decode cX12_init 212 = .ok (.bipush 8, 2) := by decide +kernel
theorem dX12_init_214 : decode cX12_init 214 = .ok (.bipush 98, 2) := by decide +kernel
theorem dX12_init_216 : decode cX12_init 216 = .ok (.iastore, 1) := by decide +kernel
theorem dX12_init_217 : decode cX12_init 217 = .ok (.dup, 1) := by decide +kernel
theorem dX12_init_218 : decode cX12_init 218 = .ok (.bipush 9, 2) := by decide +kernel
theorem dX12_init_220 : decode cX12_init 220 = .ok (.bipush 114, 2) := by decide +kernel
theorem dX12_init_222 : decode cX12_init 222 = .ok (.iastore, 1) := by decide +kernel
theorem dX12_init_223 : decode cX12_init 223 = .ok (.dup, 1) := by decide +kernel
theorem dX12_init_224 : decode cX12_init 224 = .ok (.bipush 10, 2) := by decide +kernel
theorem dX12_init_226 : decode cX12_init 226 = .ok (.bipush 101, 2) := by decide +kernel
theorem dX12_init_228 : decode cX12_init 228 = .ok (.iastore, 1) := by decide +kernel
theorem dX12_init_229 : decode cX12_init 229 = .ok (.dup, 1) := by decide +kernel
theorem dX12_init_230 : decode cX12_init 230 = .ok (.bipush 11, 2) := by decide +kernel
theorem dX12_init_232 : decode cX12_init 232 = .ok (.bipush 97, 2) := by decide +kernel
theorem dX12_init_234 : decode cX12_init 234 = .ok (.iastore, 1) := by decide +kernel
theorem dX12_init_235 : decode cX12_init 235 = .ok (.dup, 1) := by decide +kernel
theorem dX12_init_236 : decode cX12_init 236 = .ok (.bipush 12, 2) := by decide +kernel
theorem dX12_init_238 : decode cX12_init 238 = .ok (.bipush 107, 2) := by decide +kernel
theorem dX12_init_240 : decode cX12_init 240 = .ok (.iastore, 1) := by decide +kernel
theorem dX12_init_241 : decode cX12_init 241 = .ok (.putfield 83, 3) := by decide +kernel
theorem dX12_init_244 : decode cX12_init 244 = .ok (.aload_n 0, 1) := by decide +kernel
theorem dX12_init_245 : decode cX12_init 245 = .ok (.bipush 100, 2) := by decide +kernel
theorem dX12_init_247 : decode cX12_init 247 = .ok (.newarray .boolean, 2) := by decide +kernel
theorem dX12_init_249 : decode cX12_init 249 = .ok (.putfield 86, 3) := by decide +kernel
theorem dX12_init_252 : decode cX12_init 252 = .ok (.aload_n 0, 1) := by decide +kernel
theorem dX12_init_253 : decode cX12_init 253 = .ok (.iconst 0, 1) := by decide +kernel
theorem dX12_init_254 : decode cX12_init 254 = .ok (.putfield 90, 3) := by decide +kernel
theorem dX12_init_257 : decode cX12_init 257 = .ok (.aload_n 0, 1) := by decide +kernel
theorem dX12_init_258 : decode cX12_init 258 = .ok (.iconst 0, 1) := by decide +kernel
theorem dX12_init_259 : decode cX12_init 259 = .ok (.putfield 93, 3) := by decide +kernel
theorem dX12_init_262 : decode cX12_init 262 = .ok (.aload_n 0, 1) := by decide +kernel
theorem dX12_init_263 : decode cX12_init 263 = .ok (.bipush 7, 2) := by decide +kernel
theorem dX12_init_265 : decode cX12_init 265 = .ok (.newarray .int, 2) := by decide +kernel
theorem dX12_init_267 : decode cX12_init 267 = .ok (.putfield 96, 3) := by decide +kernel
theorem dX12_init_270 : decode cX12_init 270 = .ok (.aload_n 0, 1) := by decide +kernel
theorem dX12_init_271 : decode cX12_init 271 = .ok (.iconst 0, 1) := by decide +kernel
theorem dX12_init_272 : decode cX12_init 272 = .ok (.putfield 99, 3) := by decide +kernel
theorem dX12_init_275 : decode cX12_init 275 = .ok (.aload_n 0, 1) := by decide +kernel
theorem dX12_init_276 : decode cX12_init 276 = .ok (.iconst (-1), 1) := by decide +kernel
theorem dX12_init_277 : decode cX12_init 277 = .ok (.putfield 102, 3) := by decide +kernel
theorem dX12_init_280 : decode cX12_init 280 = .ok (.aload_n 0, 1) := by decide +kernel
theorem dX12_init_281 : decode cX12_init 281 = .ok (.iconst 0, 1) := by decide +kernel
theorem dX12_init_282 : decode cX12_init 282 = .ok (.putfield 105, 3) := by decide +kernel
theorem dX12_init_285 : decode cX12_init 285 = .ok (.aload_n 0, 1) := by decide +kernel
theorem dX12_init_286 : decode cX12_init 286 = .ok (.iconst 0, 1) := by decide +kernel
theorem dX12_init_287 : decode cX12_init 287 = .ok (.putfield 108, 3) := by decide +kernel
theorem dX12_init_290 : decode cX12_init 290 = .ok (.aload_n 0, 1) := by decide +kernel
theorem dX12_init_291 : decode cX12_init 291 = .ok (.iconst 5, 1) := by decide +kernel
theorem dX12_init_292 : decode cX12_init 292 = .ok (.newarray .int, 2) := by decide +kernel
theorem dX12_init_294 : decode cX12_init 294 = .ok (.putfield 111, 3) := by decide +kernel
theorem dX12_init_297 : decode cX12_init 297 = .ok (.aload_n 0, 1) := by decide +kernel
theorem dX12_init_298 : decode cX12_init 298 = .ok (.iconst 0, 1) := by decide +kernel
theorem dX12_init_299 : decode cX12_init 299 = .ok (.putfield 114, 3) := by decide +kernel
theorem dX12_init_302 : decode cX12_init 302 = .ok (.aload_n 0, 1) := by decide +kernel
theorem dX12_init_303 : decode cX12_init 303 = .ok (.iconst 0, 1) := by decide +kernel
theorem dX12_init_304 : decode cX12_init 304 = .ok (.putfield 117, 3) := by decide +kernel
theorem dX12_init_307 : decode cX12_init 307 = .ok (.aload_n 0, 1) := by decide +kernel
theorem dX12_init_308 : decode cX12_init 308 = .ok (.bipush 6, 2) := by decide +kernel
theorem dX12_init_310 : decode cX12_init 310 = .ok (.newarray .int, 2) := by decide +kernel
theorem dX12_init_312 : decode cX12_init 312 = .ok (.putfield 120, 3) := by decide +kernel
theorem dX12_init_315 : decode cX12_init 315 = .ok (.aload_n 0, 1) := by decide +kernel
theorem dX12_init_316 : decode cX12_init 316 = .ok (.bipush 12, 2) := by decide +kernel
theorem dX12_init_318 : decode cX12_init 318 = .ok (.newarray .int, 2) := by decide +kernel
theorem dX12_init_320 : decode cX12_init 320 = .ok (.putfield 123, 3) := by decide +kernel
theorem dX12_init_323 : decode cX12_init 323 = .ok (.aload_n 0, 1) := by decide +kernel
theorem dX12_init_324 : decode cX12_init 324 = .ok (.bipush 12, 2) := by decide +kernel
theorem dX12_init_326 : decode cX12_init 326 = .ok (.newarray .int, 2) := by decide +kernel
theorem dX12_init_328 : decode cX12_init 328 = .ok (.putfield 126, 3) := by decide +kernel
theorem dX12_init_331 : decode cX12_init 331 = .ok (.aload_n 0, 1) := by decide +kernel
theorem dX12_init_332 : decode cX12_init 332 = .ok (.bipush 6, 2) := by decide +kernel
theorem dX12_init_334 : decode cX12_init 334 = .ok (.newarray .boolean, 2) := by decide +kernel
theorem dX12_init_336 : decode cX12_init 336 = .ok (.putfield 129, 3) := by decide +kernel
theorem dX12_init_339 : decode cX12_init 339 = .ok (.aload_n 0, 1) := by decide +kernel
theorem dX12_init_340 : decode cX12_init 340 = .ok (.iconst 0, 1) := by decide +kernel
theorem dX12_init_341 : decode cX12_init 341 = .ok (.putfield 132, 3) := by decide +kernel
theorem dX12_init_344 : decode cX12_init 344 = .ok (.aload_n 0, 1) := by decide +kernel
theorem dX12_init_345 : decode cX12_init 345 = .ok (.iconst (-1), 1) := by decide +kernel
theorem dX12_init_346 : decode cX12_init 346 = .ok (.putfield 136, 3) := by decide +kernel
theorem dX12_init_349 : decode cX12_init 349 = .ok (.aload_n 0, 1) := by decide +kernel
theorem dX12_init_350 : decode cX12_init 350 = .ok (.iconst 0, 1) := by decide +kernel
theorem dX12_init_351 : decode cX12_init 351 = .ok (.putfield 139, 3) := by decide +kernel
theorem dX12_init_354 : decode cX12_init 354 = .ok (.aload_n 0, 1) := by decide +kernel
theorem dX12_init_355 : decode cX12_init 355 = .ok (.iconst 0, 1) := by decide +kernel
theorem dX12_init_356 : decode cX12_init 356 = .ok (.putfield 142, 3) := by decide +kernel
theorem dX12_init_359 : decode cX12_init 359 = .ok (.aload_n 0, 1) := by decide +kernel
theorem dX12_init_360 : decode cX12_init 360 = .ok (.iconst 0, 1) := by decide +kernel
theorem dX12_init_361 : decode cX12_init 361 = .ok (.putfield 145, 3) := by decide +kernel
theorem dX12_init_364 : decode cX12_init 364 = .ok (.aload_n 0, 1) := by decide +kernel
theorem dX12_init_365 : decode cX12_init 365 = .ok (.iconst 0, 1) := by decide +kernel
theorem dX12_init_366 : decode cX12_init 366 = .ok (.putfield 148, 3) := by decide +kernel
theorem dX12_init_369 : decode cX12_init 369 = .ok (.aload_n 0, 1) := by decide +kernel
theorem dX12_init_370 : decode cX12_init 370 = .ok (.bipush 7, 2) := by decide +kernel
theorem dX12_init_372 : decode cX12_init 372 = .ok (.newarray .int, 2) := by decide +kernel
theorem dX12_init_374 : decode cX12_init 374 = .ok (.putfield 151, 3) := by decide +kernel
theorem dX12_init_377 : decode cX12_init 377 = .ok (.aload_n 0, 1) := by decide +kernel
theorem dX12_init_378 : decode cX12_init 378 = .ok (.bipush 7, 2) := by decide +kernel
theorem dX12_init_380 : decode cX12_init 380 = .ok (.newarray .int, 2) := by decide +kernel
theorem dX12_init_382 : decode cX12_init 382 = .ok (.putfield 154, 3) := by decide +kernel
theorem dX12_init_385 : decode cX12_init 385 = .ok (.aload_n 0, 1) := by decide +kernel
theorem dX12_init_386 : decode cX12_init 386 = .ok (.bipush 7, 2) := by decide +kernel
theorem dX12_init_388 : decode cX12_init 388 = .ok (.newarray .int, 2) := by decide +kernel
theorem dX12_init_390 : decode cX12_init 390 = .ok (.putfield 157, 3) := by decide +kernel
theorem dX12_init_393 : decode cX12_init 393 = .ok (.aload_n 0, 1) := by decide +kernel
theorem dX12_init_394 : decode cX12_init 394 = .ok (.bipush 28, 2) := by decide +kernel
theorem dX12_init_396 : decode cX12_init 396 = .ok (.newarray .int, 2) := by decide +kernel
theorem dX12_init_398 : decode cX12_init 398 = .ok (.putfield 160, 3) := by decide +kernel
theorem dX12_init_401 : decode cX12_init 401 = .ok (.aload_n 0, 1) := by decide +kernel
theorem dX12_init_402 : decode cX12_init 402 = .ok (.bipush 7, 2) := by decide +kernel
theorem dX12_init_404 : decode cX12_init 404 = .ok (.newarray .int, 2) := by decide +kernel
theorem dX12_init_406 : decode cX12_init 406 = .ok (.putfield 163, 3) := by decide +kernel
theorem dX12_init_409 : decode cX12_init 409 = .ok (.aload_n 0, 1) := by decide +kernel
theorem dX12_init_410 : decode cX12_init 410 = .ok (.bipush 6, 2) := by decide +kernel
theorem dX12_init_412 : decode cX12_init 412 = .ok (.newarray .int, 2) := by decide +kernel
theorem dX12_init_414 : decode cX12_init 414 = .ok (.putfield 166, 3) := by decide +kernel
theorem dX12_init_417 : decode cX12_init 417 = .ok (.aload_n 0, 1) := by decide +kernel
theorem dX12_init_418 : decode cX12_init 418 = .ok (.bipush 12, 2) := by decide +kernel
theorem dX12_init_420 : decode cX12_init 420 = .ok (.newarray .int, 2) := by decide +kernel
theorem dX12_init_422 : decode cX12_init 422 = .ok (.putfield 169, 3) := by decide +kernel
theorem dX12_init_425 : decode cX12_init 425 = .ok (.aload_n 0, 1) := by decide +kernel
theorem dX12_init_426 : decode cX12_init 426 = .ok (.bipush 12, 2) := by decide +kernel
theorem dX12_init_428 : decode cX12_init 428 = .ok (.newarray .int, 2) := by decide +kernel
theorem dX12_init_430 : decode cX12_init 430 = .ok (.putfield 172, 3) := by decide +kernel
theorem dX12_init_433 : decode cX12_init 433 = .ok (.aload_n 0, 1) := by decide +kernel
theorem dX12_init_434 : decode cX12_init 434 = .ok (.bipush 6, 2) := by decide +kernel
theorem dX12_init_436 : decode cX12_init 436 = .ok (.newarray .boolean, 2) := by decide +kernel
theorem dX12_init_438 : decode cX12_init 438 = .ok (.putfield 175, 3) := by decide +kernel
theorem dX12_init_441 : decode cX12_init 441 = .ok (.aload_n 0, 1) := by decide +kernel
theorem dX12_init_442 : decode cX12_init 442 = .ok (.iconst 0, 1) := by decide +kernel
theorem dX12_init_443 : decode cX12_init 443 = .ok (.putfield 178, 3) := by decide +kernel
theorem dX12_init_446 : decode cX12_init 446 = .ok (.aload_n 0, 1) := by decide +kernel
theorem dX12_init_447 : decode cX12_init 447 = .ok (.bipush 20, 2) := by decide +kernel
theorem dX12_init_449 : decode cX12_init 449 = .ok (.newarray .int, 2) := by decide +kernel
theorem dX12_init_451 : decode cX12_init 451 = .ok (.putfield 181, 3) := by decide +kernel
theorem dX12_init_454 : decode cX12_init 454 = .ok (.aload_n 0, 1) := by decide +kernel
theorem dX12_init_455 : decode cX12_init 455 = .ok (.bipush 6, 2) := by decide +kernel
theorem dX12_init_457 : decode cX12_init 457 = .ok (.newarray .int, 2) := by decide +kernel
theorem dX12_init_459 : decode cX12_init 459 = .ok (.dup, 1) := by decide +kernel
theorem dX12_init_460 : decode cX12_init 460 = .ok (.iconst 0, 1) := by decide +kernel
theorem dX12_init_461 : decode cX12_init 461 = .ok (.iconst (-1), 1) := by decide +kernel
theorem dX12_init_462 : decode cX12_init 462 = .ok (.iastore, 1) := by decide +kernel
theorem dX12_init_463 : decode cX12_init 463 = .ok (.dup, 1) := by decide +kernel
theorem dX12_init_464 : decode cX12_init 464 = .ok (.iconst 1, 1) := by decide +kernel
theorem dX12_init_465 : decode cX12_init 465 = .ok (.iconst (-1), 1) := by decide +kernel
theorem dX12_init_466 : decode cX12_init 466 = .ok (.iastore, 1) := by decide +kernel
theorem dX12_init_467 : decode cX12_init 467 = .ok (.dup, 1) := by decide +kernel
theorem dX12_init_468 : decode cX12_init 468 = .ok (.iconst 2, 1) := by decide +kernel
theorem dX12_init_469 : decode cX12_init 469 = .ok (.iconst (-1), 1) := by decide +kernel
theorem dX12_init_470 : decode cX12_init 470 = .ok (.iastore, 1) := by decide +kernel
theorem dX12_init_471 : decode cX12_init 471 = .ok (.dup, 1) := by decide +kernel
theorem dX12_init_472 : decode cX12_init 472 = .ok (.iconst 3, 1) := by decide +kernel
theorem dX12_init_473 : decode cX12_init 473 = .ok (.iconst (-1), 1) := by decide +kernel
theorem dX12_init_474 : decode cX12_init 474 = .ok (.iastore, 1) := by decide +kernel
theorem dX12_init_475 : decode cX12_init 475 = .ok (.dup, 1) := by decide +kernel
theorem dX12_init_476 : decode cX12_init 476 = .ok (.iconst 4, 1) := by decide +kernel
theorem dX12_init_477 : decode cX12_init 477 = .ok (.iconst (-1), 1) := by decide +kernel
theorem dX12_init_478 : decode cX12_init 478 = .ok (.iastore, 1) := by decide +kernel
theorem dX12_init_479 : decode cX12_init 479 = .ok (.dup, 1) := by decide +kernel
theorem dX12_init_480 : decode cX12_init 480 = .ok (.iconst 5, 1) := by decide +kernel
theorem dX12_init_481 : decode cX12_init 481 = .ok (.iconst (-1), 1) := by decide +kernel
theorem dX12_init_482 : decode cX12_init 482 = .ok (.iastore, 1) := by decide +kernel
theorem dX12_init_483 : decode cX12_init 483 = .ok (.putfield 184, 3) := by decide +kernel
theorem dX12_init_486 : decode cX12_init 486 = .ok (.aload_n 0, 1) := by decide +kernel
theorem dX12_init_487 : decode cX12_init 487 = .ok (.bipush 6, 2) := by decide +kernel
theorem dX12_init_489 : decode cX12_init 489 = .ok (.newarray .int, 2) := by decide +kernel
theorem dX12_init_491 : decode cX12_init 491 = .ok (.putfield 187, 3) := by decide +kernel
theorem dX12_init_494 : decode cX12_init 494 = .ok (.aload_n 0, 1) := by decide +kernel
theorem dX12_init_495 : decode cX12_init 495 = .ok (.sipush 360, 3) := by decide +kernel
theorem dX12_init_498 : decode cX12_init 498 = .ok (.newarray .long, 2) := by decide +kernel
theorem dX12_init_500 : decode cX12_init 500 = .ok (.putfield 190, 3) := by decide +kernel
theorem dX12_init_503 : decode cX12_init 503 = .ok (.aload_n 0, 1) := by decide +kernel
theorem dX12_init_504 : decode cX12_init 504 = .ok (.bipush 60, 2) := by decide +kernel
theorem dX12_init_506 : decode cX12_init 506 = .ok (.newarray .long, 2) := by decide +kernel
theorem dX12_init_508 : decode cX12_init 508 = .ok (.putfield 194, 3) := by decide +kernel
theorem dX12_init_511 : decode cX12_init 511 = .ok (.return_, 1) := by decide +kernel
theorem dX12_in_0 : decode cX12_in 0 = .ok (.iload_n 1, 1) := by decide +kernel
theorem dX12_in_1 : decode cX12_in 1 = .ok (.iload_n 2, 1) := by decide +kernel
theorem dX12_in_2 : decode cX12_in 2 = .ok (.if_icmp .lt 12, 3) := by decide +kernel
theorem dX12_in_5 : decode cX12_in 5 = .ok (.iload_n 1, 1) := by decide +kernel
theorem dX12_in_6 : decode cX12_in 6 = .ok (.iload_n 3, 1) := by decide +kernel
theorem dX12_in_7 : decode cX12_in 7 = .ok (.if_icmp .gt 7, 3) := by decide +kernel
theorem dX12_in_10 : decode cX12_in 10 = .ok (.iconst 1, 1) := by decide +kernel
theorem dX12_in_11 : decode cX12_in 11 = .ok (.goto 4, 3) := by decide +kernel
theorem dX12_in_14 : decode cX12_in 14 = .ok (.iconst 0, 1) := by decide +kernel
theorem dX12_in_15 : decode cX12_in 15 = .ok (.ireturn, 1) := by decide +kernel
theorem dX12_has_0 : decode cX12_has 0 = .ok (.iload_n 1, 1) := by decide +kernel
theorem dX12_has_1 : decode cX12_has 1 = .ok (.iload_n 2, 1) := by decide +kernel
theorem dX12_has_2 : decode cX12_has 2 = .ok (.ishr, 1) := by decide +kernel
theorem dX12_has_3 : decode cX12_has 3 = .ok (.iconst 1, 1) := by decide +kernel
theorem dX12_has_4 : decode cX12_has 4 = .ok (.iand, 1) := by decide +kernel
theorem dX12_has_5 : decode cX12_has 5 = .ok (.iconst 1, 1) := by decide +kernel
theorem dX12_has_6 : decode cX12_has 6 = .ok (.if_icmp .ne 7, 3) := by decide +kernel
theorem dX12_has_9 : decode cX12_has 9 = .ok (.iconst 1, 1) := by decide +kernel
theorem dX12_has_10 : decode cX12_has 10 = .ok (.goto 4, 3) := by decide +kernel
theorem dX12_has_13 : decode cX12_has 13 = .ok (.iconst 0, 1) := by decide +kernel
theorem dX12_has_14 : decode cX12_has 14 = .ok (.ireturn, 1) := by decide +kernel
theorem dX12_ones_0 : decode cX12_ones 0 = .ok (.iconst 0, 1) := by decide +kernel
theorem dX12_ones_1 : decode cX12_ones 1 = .ok (.istore_n 2, 1) := by decide +kernel
theorem dX12_ones_2 : decode cX12_ones 2 = .ok (.iload_n 1, 1) := by decide +kernel
theorem dX12_ones_3 : decode cX12_ones 3 = .ok (.istore_n 3, 1) := by decide +kernel
theorem dX12_ones_4 : decode cX12_ones 4 = .ok (.iload_n 3, 1) := by decide +kernel
theorem dX12_ones_5 : decode cX12_ones 5 = .ok (.ifCond .eq 15, 3) := by decide +kernel
theorem dX12_ones_8 : decode cX12_ones 8 = .ok (.iinc 2 1, 3) := by decide +kernel
theorem dX12_ones_11 : decode cX12_ones 11 = .ok (.iload_n 3, 1) := by decide +kernel
theorem dX12_ones_12 : decode cX12_ones 12 = .ok (.iload_n 3, 1) := by decide +kernel
theorem dX12_ones_13 : decode cX12_ones 13 = .ok (.iconst 1, 1) := by decide +kernel
theorem dX12_ones_14 : decode cX12_ones 14 = .ok (.isub, 1) := by decide +kernel
theorem dX12_ones_15 : decode cX12_ones 15 = .ok (.iand, 1) := by decide +kernel
theorem dX12_ones_16 : decode cX12_ones 16 = .ok (.istore_n 3, 1) := by decide +kernel
theorem dX12_ones_17 : decode cX12_ones 17 = .ok (.goto (-13), 3) := by decide +kernel
theorem dX12_ones_20 : decode cX12_ones 20 = .ok (.iload_n 2, 1) := by decide +kernel
theorem dX12_ones_21 : decode cX12_ones 21 = .ok (.ireturn, 1) := by decide +kernel
theorem dX12_isPerson_0 : decode cX12_isPerson 0 = .ok (.aload_n 0, 1) := by decide +kernel
theorem dX12_isPerson_1 : decode cX12_isPerson 1 = .ok (.iload_n 1, 1) := by decide +kernel
theorem dX12_isPerson_2 : decode cX12_isPerson 2 = .ok (.iconst 0, 1) := by decide +kernel
theorem dX12_isPerson_3 : decode cX12_isPerson 3 = .ok (.aload_n 0, 1) := by decide +kernel
theorem dX12_isPerson_4 : decode cX12_isPerson 4 = .ok (.getfield 7, 3) := by decide +kernel
theorem dX12_isPerson_7 : decode cX12_isPerson 7 = .ok (.iconst 1, 1) := by decide +kernel
theorem dX12_isPerson_8 : decode cX12_isPerson 8 = .ok (.isub, 1) := by decide +kernel
theorem dX12_isPerson_9 : decode cX12_isPerson 9 = .ok (.invokevirtual 197, 3) := by decide +kernel
theorem dX12_isPerson_12 : decode cX12_isPerson 12 = .ok (.ireturn, 1) := by decide +kernel
theorem dX12_pairs_0 : decode cX12_pairs 0 = .ok (.aload_n 0, 1) := by decide +kernel
theorem dX12_pairs_1 : decode cX12_pairs 1 = .ok (.getfield 7, 3) := by decide +kernel
theorem dX12_pairs_4 : decode cX12_pairs 4 = .ok (.aload_n 0, 1) := by decide +kernel
theorem dX12_pairs_5 : decode cX12_pairs 5 = .ok (.getfield 7, 3) := by decide +kernel
theorem dX12_pairs_8 : decode cX12_pairs 8 = .ok (.iconst 1, 1) := by decide +kernel
theorem dX12_pairs_9 : decode cX12_pairs 9 = .ok (.isub, 1) := by decide +kernel
theorem dX12_pairs_10 : decode cX12_pairs 10 = .ok (.imul, 1) := by decide +kernel
theorem dX12_pairs_11 : decode cX12_pairs 11 = .ok (.iconst 2, 1) := by decide +kernel
theorem dX12_pairs_12 : decode cX12_pairs 12 = .ok (.idiv, 1) := by decide +kernel
theorem dX12_pairs_13 : decode cX12_pairs 13 = .ok (.ireturn, 1) := by decide +kernel
theorem dX12_isPair_0 : decode cX12_isPair 0 = .ok (.aload_n 0, 1) := by decide +kernel
theorem dX12_isPair_1 : decode cX12_isPair 1 = .ok (.iload_n 1, 1) := by decide +kernel
theorem dX12_isPair_2 : decode cX12_isPair 2 = .ok (.iconst 0, 1) := by decide +kernel
theorem dX12_isPair_3 : decode cX12_isPair 3 = .ok (.aload_n 0, 1) := by decide +kernel
theorem dX12_isPair_4 : decode cX12_isPair 4 = .ok (.invokevirtual 201, 3) := by decide +kernel
theorem dX12_isPair_7 : decode cX12_isPair 7 = .ok (.iconst 1, 1) := by decide +kernel
theorem dX12_isPair_8 : decode cX12_isPair 8 = .ok (.isub, 1) := by decide +kernel
theorem dX12_isPair_9 : decode cX12_isPair 9 = .ok (.invokevirtual 197, 3) := by decide +kernel
theorem dX12_isPair_12 : decode cX12_isPair 12 = .ok (.ireturn, 1) := by decide +kernel
theorem dX12_pairOf_0 : decode cX12_pairOf 0 = .ok (.iload_n 1, 1) := by decide +kernel
theorem dX12_pairOf_1 : decode cX12_pairOf 1 = .ok (.iload_n 2, 1) := by decide +kernel
theorem dX12_pairOf_2 : decode cX12_pairOf 2 = .ok (.if_icmp .ge 15, 3) := by decide +kernel
theorem dX12_pairOf_5 : decode cX12_pairOf 5 = .ok (.iload_n 2, 1) := by decide +kernel
theorem dX12_pairOf_6 : decode cX12_pairOf 6 = .ok (.iload_n 2, 1) := by decide +kernel
theorem dX12_pairOf_7 : decode cX12_pairOf 7 = .ok (.iconst 1, 1) := by decide +kernel
theorem dX12_pairOf_8 : decode cX12_pairOf 8 = .ok (.isub, 1) := by decide +kernel
theorem dX12_pairOf_9 : decode cX12_pairOf 9 = .ok (.imul, 1) := by decide +kernel
theorem dX12_pairOf_10 : decode cX12_pairOf 10 = .ok (.iconst 2, 1) := by decide +kernel
theorem dX12_pairOf_11 : decode cX12_pairOf 11 = .ok (.idiv, 1) := by decide +kernel
theorem dX12_pairOf_12 : decode cX12_pairOf 12 = .ok (.iload_n 1, 1) := by decide +kernel
theorem dX12_pairOf_13 : decode cX12_pairOf 13 = .ok (.iadd, 1) := by decide +kernel
theorem dX12_pairOf_14 : decode cX12_pairOf 14 = .ok (.goto 12, 3) := by decide +kernel
theorem dX12_pairOf_17 : decode cX12_pairOf 17 = .ok (.iload_n 1, 1) := by decide +kernel
theorem dX12_pairOf_18 : decode cX12_pairOf 18 = .ok (.iload_n 1, 1) := by decide +kernel
theorem dX12_pairOf_19 : decode cX12_pairOf 19 = .ok (.iconst 1, 1) := by decide +kernel
theorem dX12_pairOf_20 : decode cX12_pairOf 20 = .ok (.isub, 1) := by decide +kernel
theorem dX12_pairOf_21 : decode cX12_pairOf 21 = .ok (.imul, 1) := by decide +kernel
theorem dX12_pairOf_22 : decode cX12_pairOf 22 = .ok (.iconst 2, 1) := by decide +kernel
theorem dX12_pairOf_23 : decode cX12_pairOf 23 = .ok (.idiv, 1) := by decide +kernel
theorem dX12_pairOf_24 : decode cX12_pairOf 24 = .ok (.iload_n 2, 1) := by decide +kernel
theorem dX12_pairOf_25 : decode cX12_pairOf 25 = .ok (.iadd, 1) := by decide +kernel
theorem dX12_pairOf_26 : decode cX12_pairOf 26 = .ok (.ireturn, 1) := by decide +kernel
theorem dX12_greaterOf_0 : decode cX12_greaterOf 0 = .ok (.iconst 1, 1) := by decide +kernel
theorem dX12_greaterOf_1 : decode cX12_greaterOf 1 = .ok (.istore_n 2, 1) := by decide +kernel
theorem dX12_greaterOf_2 : decode cX12_greaterOf 2 = .ok (.iload_n 2, 1) := by decide +kernel
theorem dX12_greaterOf_3 : decode cX12_greaterOf 3 = .ok (.iload_n 2, 1) := by decide +kernel
theorem dX12_greaterOf_4 : decode cX12_greaterOf 4 = .ok (.iconst 1, 1) := by decide +kernel
theorem dX12_greaterOf_5 : decode cX12_greaterOf 5 = .ok (.iadd, 1) := by decide +kernel
theorem dX12_greaterOf_6 : decode cX12_greaterOf 6 = .ok (.imul, 1) := by decide +kernel
theorem dX12_greaterOf_7 : decode cX12_greaterOf 7 = .ok (.iconst 2, 1) := by decide +kernel
theorem dX12_greaterOf_8 : decode cX12_greaterOf 8 = .ok (.idiv, 1) := by decide +kernel
theorem dX12_greaterOf_9 : decode cX12_greaterOf 9 = .ok (.iload_n 1, 1) := by decide +kernel
theorem dX12_greaterOf_10 : decode cX12_greaterOf 10 = .ok (.if_icmp .gt 9, 3) := by decide +kernel
theorem dX12_greaterOf_13 : decode cX12_greaterOf 13 = .ok (.iinc 2 1, 3) := by decide +kernel
theorem dX12_greaterOf_16 : decode cX12_greaterOf 16 = .ok (.goto (-14), 3) := by decide +kernel
theorem dX12_greaterOf_19 : decode cX12_greaterOf 19 = .ok (.iload_n 2, 1) := by decide +kernel
theorem dX12_greaterOf_20 : decode cX12_greaterOf 20 = .ok (.ireturn, 1) := by decide +kernel
theorem dX12_lesserOf_0 : decode cX12_lesserOf 0 = .ok (.iload_n 1, 1) := by decide +kernel
theorem dX12_lesserOf_1 : decode cX12_lesserOf 1 = .ok (.aload_n 0, 1) := by decide +kernel
theorem dX12_lesserOf_2 : decode cX12_lesserOf 2 = .ok (.iload_n 1, 1) := by decide +kernel
theorem dX12_lesserOf_3 : decode cX12_lesserOf 3 = .ok (.invokevirtual 205, 3) := by decide +kernel
theorem dX12_lesserOf_6 : decode cX12_lesserOf 6 = .ok (.aload_n 0, 1) := by decide +kernel
theorem dX12_lesserOf_7 : decode cX12_lesserOf 7 = .ok (.iload_n 1, 1) := by decide +kernel
theorem dX12_lesserOf_8 : decode cX12_lesserOf 8 = .ok (.invokevirtual 205, 3) := by decide +kernel
theorem dX12_lesserOf_11 : decode cX12_lesserOf 11 = .ok (.iconst 1, 1) := by decide +kernel
theorem dX12_lesserOf_12 : decode cX12_lesserOf 12 = .ok (.isub, 1) := by decide +kernel
theorem dX12_lesserOf_13 : decode cX12_lesserOf 13 = .ok (.imul, 1) := by decide +kernel
theorem dX12_lesserOf_14 : decode cX12_lesserOf 14 = .ok (.iconst 2, 1) := by decide +kernel
theorem dX12_lesserOf_15 : decode cX12_lesserOf 15 = .ok (.idiv, 1) := by decide +kernel
theorem dX12_lesserOf_16 : decode cX12_lesserOf 16 = .ok (.isub, 1) := by decide +kernel
theorem dX12_lesserOf_17 : decode cX12_lesserOf 17 = .ok (.ireturn, 1) := by decide +kernel
theorem dX12_lay_0 : decode cX12_lay 0 = .ok (.aload_n 0, 1) := by decide +kernel
theorem dX12_lay_1 : decode cX12_lay 1 = .ok (.getfield 19, 3) := by decide +kernel
theorem dX12_lay_4 : decode cX12_lay 4 = .ok (.iload_n 1, 1) := by decide +kernel
theorem dX12_lay_5 : decode cX12_lay 5 = .ok (.iload_n 2, 1) := by decide +kernel
theorem dX12_lay_6 : decode cX12_lay 6 = .ok (.iastore, 1) := by decide +kernel
theorem dX12_lay_7 : decode cX12_lay 7 = .ok (.aload_n 0, 1) := by decide +kernel
theorem dX12_lay_8 : decode cX12_lay 8 = .ok (.getfield 23, 3) := by decide +kernel
theorem dX12_lay_11 : decode cX12_lay 11 = .ok (.iload_n 1, 1) := by decide +kernel
theorem dX12_lay_12 : decode cX12_lay 12 = .ok (.iload_n 3, 1) := by decide +kernel
theorem dX12_lay_13 : decode cX12_lay 13 = .ok (.iastore, 1) := by decide +kernel
theorem dX12_lay_14 : decode cX12_lay 14 = .ok (.aload_n 0, 1) := by decide +kernel
theorem dX12_lay_15 : decode cX12_lay 15 = .ok (.getfield 26, 3) := by decide +kernel
theorem dX12_lay_18 : decode cX12_lay 18 = .ok (.iload_n 1, 1) := by decide +kernel
theorem dX12_lay_19 : decode cX12_lay 19 = .ok (.iconst 0, 1) := by decide +kernel
theorem dX12_lay_20 : decode cX12_lay 20 = .ok (.iastore, 1) := by decide +kernel
theorem dX12_lay_21 : decode cX12_lay 21 = .ok (.aload_n 0, 1) := by decide +kernel
theorem dX12_lay_22 : decode cX12_lay 22 = .ok (.getfield 32, 3) := by decide +kernel
theorem dX12_lay_25 : decode cX12_lay 25 = .ok (.iload_n 1, 1) := by decide +kernel
theorem dX12_lay_26 : decode cX12_lay 26 = .ok (.iconst 0, 1) := by decide +kernel
theorem dX12_lay_27 : decode cX12_lay 27 = .ok (.iastore, 1) := by decide +kernel
theorem dX12_lay_28 : decode cX12_lay 28 = .ok (.iconst 0, 1) := by decide +kernel
theorem dX12_lay_29 : decode cX12_lay 29 = .ok (.istore 4, 2) := by decide +kernel
theorem dX12_lay_31 : decode cX12_lay 31 = .ok (.iload 4, 2) := by decide +kernel
theorem dX12_lay_33 : decode cX12_lay 33 = .ok (.bipush 7, 2) := by decide +kernel
theorem dX12_lay_35 : decode cX12_lay 35 = .ok (.if_icmp .ge 24, 3) := by decide +kernel
theorem dX12_lay_38 : decode cX12_lay 38 = .ok (.aload_n 0, 1) := by decide +kernel
theorem dX12_lay_39 : decode cX12_lay 39 = .ok (.getfield 26, 3) := by decide +kernel
theorem dX12_lay_42 : decode cX12_lay 42 = .ok (.iload 4, 2) := by decide +kernel
theorem dX12_lay_44 : decode cX12_lay 44 = .ok (.dup2, 1) := by decide +kernel
theorem dX12_lay_45 : decode cX12_lay 45 = .ok (.iaload, 1) := by decide +kernel
theorem dX12_lay_46 : decode cX12_lay 46 = .ok (.iconst 1, 1) := by decide +kernel
theorem dX12_lay_47 : decode cX12_lay 47 = .ok (.iload_n 1, 1) := by decide +kernel
theorem dX12_lay_48 : decode cX12_lay 48 = .ok (.ishl, 1) := by decide +kernel
theorem dX12_lay_49 : decode cX12_lay 49 = .ok (.iconst (-1), 1) := by decide +kernel
theorem dX12_lay_50 : decode cX12_lay 50 = .ok (.ixor, 1) := by decide +kernel
theorem dX12_lay_51 : decode cX12_lay 51 = .ok (.iand, 1) := by decide +kernel
theorem dX12_lay_52 : decode cX12_lay 52 = .ok (.iastore, 1) := by decide +kernel
theorem dX12_lay_53 : decode cX12_lay 53 = .ok (.iinc 4 1, 3) := by decide +kernel
theorem dX12_lay_56 : decode cX12_lay 56 = .ok (.goto (-25), 3) := by decide +kernel
theorem dX12_lay_59 : decode cX12_lay 59 = .ok (.iconst 0, 1) := by decide +kernel
theorem dX12_lay_60 : decode cX12_lay 60 = .ok (.istore 4, 2) := by decide +kernel
theorem dX12_lay_62 : decode cX12_lay 62 = .ok (.iload 4, 2) := by decide +kernel
theorem dX12_lay_64 : decode cX12_lay 64 = .ok (.iconst 4, 1) := by decide +kernel
theorem dX12_lay_65 : decode cX12_lay 65 = .ok (.if_icmp .ge 21, 3) := by decide +kernel
theorem dX12_lay_68 : decode cX12_lay 68 = .ok (.aload_n 0, 1) := by decide +kernel
theorem dX12_lay_69 : decode cX12_lay 69 = .ok (.getfield 29, 3) := by decide +kernel
theorem dX12_lay_72 : decode cX12_lay 72 = .ok (.iconst 4, 1) := by decide +kernel
theorem dX12_lay_73 : decode cX12_lay 73 = .ok (.iload_n 1, 1) := by decide +kernel
theorem dX12_lay_74 : decode cX12_lay 74 = .ok (.imul, 1) := by decide +kernel
theorem dX12_lay_75 : decode cX12_lay 75 = .ok (.iload 4, 2) := by decide +kernel
theorem dX12_lay_77 : decode cX12_lay 77 = .ok (.iadd, 1) := by decide +kernel
theorem dX12_lay_78 : decode cX12_lay 78 = .ok (.iconst 0, 1) := by decide +kernel
theorem dX12_lay_79 : decode cX12_lay 79 = .ok (.iastore, 1) := by decide +kernel
theorem dX12_lay_80 : decode cX12_lay 80 = .ok (.iinc 4 1, 3) := by decide +kernel
theorem dX12_lay_83 : decode cX12_lay 83 = .ok (.goto (-21), 3) := by decide +kernel
theorem dX12_lay_86 : decode cX12_lay 86 = .ok (.return_, 1) := by decide +kernel
theorem dX12_person_0 : decode cX12_person 0 = .ok (.aload_n 0, 1) := by decide +kernel
theorem dX12_person_1 : decode cX12_person 1 = .ok (.iload_n 1, 1) := by decide +kernel
theorem dX12_person_2 : decode cX12_person 2 = .ok (.iconst 0, 1) := by decide +kernel
theorem dX12_person_3 : decode cX12_person 3 = .ok (.bipush 6, 2) := by decide +kernel
theorem dX12_person_5 : decode cX12_person 5 = .ok (.invokevirtual 197, 3) := by decide +kernel
theorem dX12_person_8 : decode cX12_person 8 = .ok (.ifCond .ne 5, 3) := by decide +kernel
theorem dX12_person_11 : decode cX12_person 11 = .ok (.iconst (-1), 1) := by decide +kernel
theorem dX12_person_12 : decode cX12_person 12 = .ok (.ireturn, 1) := by decide +kernel
theorem dX12_person_13 : decode cX12_person 13 = .ok (.aload_n 0, 1) := by decide +kernel
theorem dX12_person_14 : decode cX12_person 14 = .ok (.iload_n 2, 1) := by decide +kernel
theorem dX12_person_15 : decode cX12_person 15 = .ok (.iconst 0, 1) := by decide +kernel
theorem dX12_person_16 : decode cX12_person 16 = .ok (.bipush 9, 2) := by decide +kernel
theorem dX12_person_18 : decode cX12_person 18 = .ok (.invokevirtual 197, 3) := by decide +kernel
theorem dX12_person_21 : decode cX12_person 21 = .ok (.ifCond .ne 6, 3) := by decide +kernel
theorem dX12_person_24 : decode cX12_person 24 = .ok (.bipush (-2), 2) := by decide +kernel
theorem dX12_person_26 : decode cX12_person 26 = .ok (.ireturn, 1) := by decide +kernel
theorem dX12_person_27 : decode cX12_person 27 = .ok (.aload_n 0, 1) := by decide +kernel
theorem dX12_person_28 : decode cX12_person 28 = .ok (.getfield 7, 3) := by decide +kernel
theorem dX12_person_31 : decode cX12_person 31 = .ok (.bipush 6, 2) := by decide +kernel
theorem dX12_person_33 : decode cX12_person 33 = .ok (.if_icmp .ne 6, 3) := by decide +kernel
theorem dX12_person_36 : decode cX12_person 36 = .ok (.bipush (-4), 2) := by decide +kernel
theorem dX12_person_38 : decode cX12_person 38 = .ok (.ireturn, 1) := by decide +kernel
theorem dX12_person_39 : decode cX12_person 39 = .ok (.aload_n 0, 1) := by decide +kernel
theorem dX12_person_40 : decode cX12_person 40 = .ok (.aload_n 0, 1) := by decide +kernel
theorem dX12_person_41 : decode cX12_person 41 = .ok (.getfield 7, 3) := by decide +kernel
theorem dX12_person_44 : decode cX12_person 44 = .ok (.iload_n 1, 1) := by decide +kernel
theorem dX12_person_45 : decode cX12_person 45 = .ok (.iload_n 2, 1) := by decide +kernel
theorem dX12_person_46 : decode cX12_person 46 = .ok (.invokevirtual 209, 3) := by decide +kernel
theorem dX12_person_49 : decode cX12_person 49 = .ok (.aload_n 0, 1) := by decide +kernel
theorem dX12_person_50 : decode cX12_person 50 = .ok (.dup, 1) := by decide +kernel
theorem dX12_person_51 : decode cX12_person 51 = .ok (.getfield 7, 3) := by decide +kernel
theorem dX12_person_54 : decode cX12_person 54 = .ok (.iconst 1, 1) := by decide +kernel
theorem dX12_person_55 : decode cX12_person 55 = .ok (.iadd, 1) := by decide +kernel
theorem dX12_person_56 : decode cX12_person 56 = .ok (.putfield 7, 3) := by decide +kernel
theorem dX12_person_59 : decode cX12_person 59 = .ok (.aload_n 0, 1) := by decide +kernel
theorem dX12_person_60 : decode cX12_person 60 = .ok (.getfield 7, 3) := by decide +kernel
theorem dX12_person_63 : decode cX12_person 63 = .ok (.iconst 1, 1) := by decide +kernel
theorem dX12_person_64 : decode cX12_person 64 = .ok (.isub, 1) := by decide +kernel
theorem dX12_person_65 : decode cX12_person 65 = .ok (.ireturn, 1) := by decide +kernel
theorem dX12_turns_0 : decode cX12_turns 0 = .ok (.aload_n 0, 1) := by decide +kernel
theorem dX12_turns_1 : decode cX12_turns 1 = .ok (.getfield 26, 3) := by decide +kernel
theorem dX12_turns_4 : decode cX12_turns 4 = .ok (.iload_n 1, 1) := by decide +kernel
theorem dX12_turns_5 : decode cX12_turns 5 = .ok (.dup2, 1) := by decide +kernel
theorem dX12_turns_6 : decode cX12_turns 6 = .ok (.iaload, 1) := by decide +kernel
theorem dX12_turns_7 : decode cX12_turns 7 = .ok (.iconst 1, 1) := by decide +kernel
theorem dX12_turns_8 : decode cX12_turns 8 = .ok (.iload_n 2, 1) := by decide +kernel
theorem dX12_turns_9 : decode cX12_turns 9 = .ok (.ishl, 1) := by decide +kernel
theorem dX12_turns_10 : decode cX12_turns 10 = .ok (.ixor, 1) := by decide +kernel
theorem dX12_turns_11 : decode cX12_turns 11 = .ok (.iastore, 1) := by decide +kernel
theorem dX12_turns_12 : decode cX12_turns 12 = .ok (.aload_n 0, 1) := by decide +kernel
theorem dX12_turns_13 : decode cX12_turns 13 = .ok (.getfield 26, 3) := by decide +kernel
theorem dX12_turns_16 : decode cX12_turns 16 = .ok (.iload_n 2, 1) := by decide +kernel
theorem dX12_turns_17 : decode cX12_turns 17 = .ok (.dup2, 1) := by decide +kernel
theorem dX12_turns_18 : decode cX12_turns 18 = .ok (.iaload, 1) := by decide +kernel
theorem dX12_turns_19 : decode cX12_turns 19 = .ok (.iconst 1, 1) := by decide +kernel
theorem dX12_turns_20 : decode cX12_turns 20 = .ok (.iload_n 1, 1) := by decide +kernel
theorem dX12_turns_21 : decode cX12_turns 21 = .ok (.ishl, 1) := by decide +kernel
theorem dX12_turns_22 : decode cX12_turns 22 = .ok (.ixor, 1) := by decide +kernel
theorem dX12_turns_23 : decode cX12_turns 23 = .ok (.iastore, 1) := by decide +kernel
theorem dX12_turns_24 : decode cX12_turns 24 = .ok (.return_, 1) := by decide +kernel
theorem dX12_friends_0 : decode cX12_friends 0 = .ok (.aload_n 0, 1) := by decide +kernel
theorem dX12_friends_1 : decode cX12_friends 1 = .ok (.iload_n 1, 1) := by decide +kernel
theorem dX12_friends_2 : decode cX12_friends 2 = .ok (.invokevirtual 213, 3) := by decide +kernel
theorem dX12_friends_5 : decode cX12_friends 5 = .ok (.ifCond .eq 11, 3) := by decide +kernel
theorem dX12_friends_8 : decode cX12_friends 8 = .ok (.aload_n 0, 1) := by decide +kernel
theorem dX12_friends_9 : decode cX12_friends 9 = .ok (.iload_n 2, 1) := by decide +kernel
theorem dX12_friends_10 : decode cX12_friends 10 = .ok (.invokevirtual 213, 3) := by decide +kernel
theorem dX12_friends_13 : decode cX12_friends 13 = .ok (.ifCond .ne 5, 3) := by decide +kernel
theorem dX12_friends_16 : decode cX12_friends 16 = .ok (.iconst (-1), 1) := by decide +kernel
theorem dX12_friends_17 : decode cX12_friends 17 = .ok (.ireturn, 1) := by decide +kernel
theorem dX12_friends_18 : decode cX12_friends 18 = .ok (.iload_n 1, 1) := by decide +kernel
theorem dX12_friends_19 : decode cX12_friends 19 = .ok (.iload_n 2, 1) := by decide +kernel
theorem dX12_friends_20 : decode cX12_friends 20 = .ok (.if_icmp .ne 6, 3) := by decide +kernel
theorem dX12_friends_23 : decode cX12_friends 23 = .ok (.bipush (-2), 2) := by decide +kernel
theorem dX12_friends_25 : decode cX12_friends 25 = .ok (.ireturn, 1) := by decide +kernel
theorem dX12_friends_26 : decode cX12_friends 26 = .ok (.aload_n 0, 1) := by decide +kernel
theorem dX12_friends_27 : decode cX12_friends 27 = .ok (.aload_n 0, 1) := by decide +kernel
theorem dX12_friends_28 : decode cX12_friends 28 = .ok (.getfield 26, 3) := by decide +kernel
theorem dX12_friends_31 : decode cX12_friends 31 = .ok (.iload_n 1, 1) := by decide +kernel
theorem dX12_friends_32 : decode cX12_friends 32 = .ok (.iaload, 1) := by decide +kernel
theorem dX12_friends_33 : decode cX12_friends 33 = .ok (.iload_n 2, 1) := by decide +kernel
theorem dX12_friends_34 : decode cX12_friends 34 = .ok (.invokevirtual 217, 3) := by decide +kernel
theorem dX12_friends_37 : decode cX12_friends 37 = .ok (.istore 4, 2) := by decide +kernel
theorem dX12_friends_39 : decode cX12_friends 39 = .ok (.iload 4, 2) := by decide +kernel
theorem dX12_friends_41 : decode cX12_friends 41 = .ok (.iload_n 3, 1) := by decide +kernel
theorem dX12_friends_42 : decode cX12_friends 42 = .ok (.if_icmp .eq 9, 3) := by decide +kernel
theorem dX12_friends_45 : decode cX12_friends 45 = .ok (.aload_n 0, 1) := by decide +kernel
theorem dX12_friends_46 : decode cX12_friends 46 = .ok (.iload_n 1, 1) := by decide +kernel
theorem dX12_friends_47 : decode cX12_friends 47 = .ok (.iload_n 2, 1) := by decide +kernel
theorem dX12_friends_48 : decode cX12_friends 48 = .ok (.invokevirtual 221, 3) := by decide +kernel
theorem dX12_friends_51 : decode cX12_friends 51 = .ok (.iload 4, 2) := by decide +kernel
theorem dX12_friends_53 : decode cX12_friends 53 = .ok (.ifCond .eq 7, 3) := by decide +kernel
theorem dX12_friends_56 : decode cX12_friends 56 = .ok (.iconst 1, 1) := by decide +kernel
theorem dX12_friends_57 : decode cX12_friends 57 = .ok (.goto 4, 3) := by decide +kernel
theorem dX12_friends_60 : decode cX12_friends 60 = .ok (.iconst 0, 1) := by decide +kernel
theorem dX12_friends_61 : decode cX12_friends 61 = .ok (.ireturn, 1) := by decide +kernel
theorem dX12_pair_0 : decode cX12_pair 0 = .ok (.aload_n 0, 1) := by decide +kernel
theorem dX12_pair_1 : decode cX12_pair 1 = .ok (.iload_n 1, 1) := by decide +kernel
theorem dX12_pair_2 : decode cX12_pair 2 = .ok (.invokevirtual 213, 3) := by decide +kernel
theorem dX12_pair_5 : decode cX12_pair 5 = .ok (.ifCond .eq 11, 3) := by decide +kernel
theorem dX12_pair_8 : decode cX12_pair 8 = .ok (.aload_n 0, 1) := by decide +kernel
theorem dX12_pair_9 : decode cX12_pair 9 = .ok (.iload_n 2, 1) := by decide +kernel
theorem dX12_pair_10 : decode cX12_pair 10 = .ok (.invokevirtual 213, 3) := by decide +kernel
theorem dX12_pair_13 : decode cX12_pair 13 = .ok (.ifCond .ne 5, 3) := by decide +kernel
theorem dX12_pair_16 : decode cX12_pair 16 = .ok (.iconst (-1), 1) := by decide +kernel
theorem dX12_pair_17 : decode cX12_pair 17 = .ok (.ireturn, 1) := by decide +kernel
theorem dX12_pair_18 : decode cX12_pair 18 = .ok (.iload_n 1, 1) := by decide +kernel
theorem dX12_pair_19 : decode cX12_pair 19 = .ok (.iload_n 2, 1) := by decide +kernel
theorem dX12_pair_20 : decode cX12_pair 20 = .ok (.if_icmp .ne 8, 3) := by decide +kernel
theorem dX12_pair_23 : decode cX12_pair 23 = .ok (.bipush (-2), 2) := by decide +kernel
theorem dX12_pair_25 : decode cX12_pair 25 = .ok (.goto 9, 3) := by decide +kernel
theorem dX12_pair_28 : decode cX12_pair 28 = .ok (.aload_n 0, 1) := by decide +kernel
theorem dX12_pair_29 : decode cX12_pair 29 = .ok (.iload_n 1, 1) := by decide +kernel
theorem dX12_pair_30 : decode cX12_pair 30 = .ok (.iload_n 2, 1) := by decide +kernel
theorem dX12_pair_31 : decode cX12_pair 31 = .ok (.invokevirtual 225, 3) := by decide +kernel
theorem dX12_pair_34 : decode cX12_pair 34 = .ok (.ireturn, 1) := by decide +kernel
theorem dX12_row_0 : decode cX12_row 0 = .ok (.aload_n 0, 1) := by decide +kernel
theorem dX12_row_1 : decode cX12_row 1 = .ok (.iload_n 1, 1) := by decide +kernel
theorem dX12_row_2 : decode cX12_row 2 = .ok (.invokevirtual 213, 3) := by decide +kernel
theorem dX12_row_5 : decode cX12_row 5 = .ok (.ifCond .eq 13, 3) := by decide +kernel
theorem dX12_row_8 : decode cX12_row 8 = .ok (.aload_n 0, 1) := by decide +kernel
theorem dX12_row_9 : decode cX12_row 9 = .ok (.iload_n 2, 1) := by decide +kernel
theorem dX12_row_10 : decode cX12_row 10 = .ok (.iconst 0, 1) := by decide +kernel
theorem dX12_row_11 : decode cX12_row 11 = .ok (.iconst 3, 1) := by decide +kernel
theorem dX12_row_12 : decode cX12_row 12 = .ok (.invokevirtual 197, 3) := by decide +kernel
theorem dX12_row_15 : decode cX12_row 15 = .ok (.ifCond .ne 5, 3) := by decide +kernel
theorem dX12_row_18 : decode cX12_row 18 = .ok (.iconst (-1), 1) := by decide +kernel
theorem dX12_row_19 : decode cX12_row 19 = .ok (.ireturn, 1) := by decide +kernel
theorem dX12_row_20 : decode cX12_row 20 = .ok (.aload_n 0, 1) := by decide +kernel
theorem dX12_row_21 : decode cX12_row 21 = .ok (.iload_n 3, 1) := by decide +kernel
theorem dX12_row_22 : decode cX12_row 22 = .ok (.iconst 0, 1) := by decide +kernel
theorem dX12_row_23 : decode cX12_row 23 = .ok (.iconst 3, 1) := by decide +kernel
theorem dX12_row_24 : decode cX12_row 24 = .ok (.invokevirtual 197, 3) := by decide +kernel
theorem dX12_row_27 : decode cX12_row 27 = .ok (.ifCond .ne 6, 3) := by decide +kernel
theorem dX12_row_30 : decode cX12_row 30 = .ok (.bipush (-2), 2) := by decide +kernel
theorem dX12_row_32 : decode cX12_row 32 = .ok (.ireturn, 1) := by decide +kernel
theorem dX12_row_33 : decode cX12_row 33 = .ok (.aload_n 0, 1) := by decide +kernel
theorem dX12_row_34 : decode cX12_row 34 = .ok (.getfield 19, 3) := by decide +kernel
theorem dX12_row_37 : decode cX12_row 37 = .ok (.iload_n 1, 1) := by decide +kernel
theorem dX12_row_38 : decode cX12_row 38 = .ok (.iaload, 1) := by decide +kernel
theorem dX12_row_39 : decode cX12_row 39 = .ok (.bipush 6, 2) := by decide +kernel
theorem dX12_row_41 : decode cX12_row 41 = .ok (.if_icmp .eq 6, 3) := by decide +kernel
theorem dX12_row_44 : decode cX12_row 44 = .ok (.bipush (-3), 2) := by decide +kernel
theorem dX12_row_46 : decode cX12_row 46 = .ok (.ireturn, 1) := by decide +kernel
theorem dX12_row_47 : decode cX12_row 47 = .ok (.aload_n 0, 1) := by decide +kernel
theorem dX12_row_48 : decode cX12_row 48 = .ok (.getfield 29, 3) := by decide +kernel
theorem dX12_row_51 : decode cX12_row 51 = .ok (.iconst 4, 1) := by decide +kernel
theorem dX12_row_52 : decode cX12_row 52 = .ok (.iload_n 1, 1) := by decide +kernel
theorem dX12_row_53 : decode cX12_row 53 = .ok (.imul, 1) := by decide +kernel
theorem dX12_row_54 : decode cX12_row 54 = .ok (.iload_n 2, 1) := by decide +kernel
theorem dX12_row_55 : decode cX12_row 55 = .ok (.iadd, 1) := by decide +kernel
theorem dX12_row_56 : decode cX12_row 56 = .ok (.iaload, 1) := by decide +kernel
theorem dX12_row_57 : decode cX12_row 57 = .ok (.istore 4, 2) := by decide +kernel
theorem dX12_row_59 : decode cX12_row 59 = .ok (.aload_n 0, 1) := by decide +kernel
theorem dX12_row_60 : decode cX12_row 60 = .ok (.getfield 29, 3) := by decide +kernel
theorem dX12_row_63 : decode cX12_row 63 = .ok (.iconst 4, 1) := by decide +kernel
theorem dX12_row_64 : decode cX12_row 64 = .ok (.iload_n 1, 1) := by decide +kernel
theorem dX12_row_65 : decode cX12_row 65 = .ok (.imul, 1) := by decide +kernel
theorem dX12_row_66 : decode cX12_row 66 = .ok (.iload_n 2, 1) := by decide +kernel
theorem dX12_row_67 : decode cX12_row 67 = .ok (.iadd, 1) := by decide +kernel
theorem dX12_row_68 : decode cX12_row 68 = .ok (.iload_n 3, 1) := by decide +kernel
theorem dX12_row_69 : decode cX12_row 69 = .ok (.iastore, 1) := by decide +kernel
theorem dX12_row_70 : decode cX12_row 70 = .ok (.iload 4, 2) := by decide +kernel
theorem dX12_row_72 : decode cX12_row 72 = .ok (.ireturn, 1) := by decide +kernel
theorem dX12_feed_0 : decode cX12_feed 0 = .ok (.aload_n 0, 1) := by decide +kernel
theorem dX12_feed_1 : decode cX12_feed 1 = .ok (.iload_n 1, 1) := by decide +kernel
theorem dX12_feed_2 : decode cX12_feed 2 = .ok (.iconst 0, 1) := by decide +kernel
theorem dX12_feed_3 : decode cX12_feed 3 = .ok (.bipush 127, 2) := by decide +kernel
theorem dX12_feed_5 : decode cX12_feed 5 = .ok (.invokevirtual 197, 3) := by decide +kernel
theorem dX12_feed_8 : decode cX12_feed 8 = .ok (.ifCond .ne 6, 3) := by decide +kernel
theorem dX12_feed_11 : decode cX12_feed 11 = .ok (.bipush (-2), 2) := by decide +kernel
theorem dX12_feed_13 : decode cX12_feed 13 = .ok (.ireturn, 1) := by decide +kernel
theorem dX12_feed_14 : decode cX12_feed 14 = .ok (.aload_n 0, 1) := by decide +kernel
theorem dX12_feed_15 : decode cX12_feed 15 = .ok (.getfield 41, 3) := by decide +kernel
theorem dX12_feed_18 : decode cX12_feed 18 = .ok (.bipush 100, 2) := by decide +kernel
theorem dX12_feed_20 : decode cX12_feed 20 = .ok (.if_icmp .ne 6, 3) := by decide +kernel
theorem dX12_feed_23 : decode cX12_feed 23 = .ok (.bipush (-4), 2) := by decide +kernel
theorem dX12_feed_25 : decode cX12_feed 25 = .ok (.ireturn, 1) := by decide +kernel
theorem dX12_feed_26 : decode cX12_feed 26 = .ok (.aload_n 0, 1) := by decide +kernel
theorem dX12_feed_27 : decode cX12_feed 27 = .ok (.getfield 50, 3) := by decide +kernel
theorem dX12_feed_30 : decode cX12_feed 30 = .ok (.aload_n 0, 1) := by decide +kernel
theorem dX12_feed_31 : decode cX12_feed 31 = .ok (.getfield 41, 3) := by decide +kernel
theorem dX12_feed_34 : decode cX12_feed 34 = .ok (.iload_n 1, 1) := by decide +kernel
theorem dX12_feed_35 : decode cX12_feed 35 = .ok (.iastore, 1) := by decide +kernel
theorem dX12_feed_36 : decode cX12_feed 36 = .ok (.aload_n 0, 1) := by decide +kernel
theorem dX12_feed_37 : decode cX12_feed 37 = .ok (.dup, 1) := by decide +kernel
theorem dX12_feed_38 : decode cX12_feed 38 = .ok (.getfield 41, 3) := by decide +kernel
theorem dX12_feed_41 : decode cX12_feed 41 = .ok (.iconst 1, 1) := by decide +kernel
theorem dX12_feed_42 : decode cX12_feed 42 = .ok (.iadd, 1) := by decide +kernel
theorem dX12_feed_43 : decode cX12_feed 43 = .ok (.putfield 41, 3) := by decide +kernel
theorem dX12_feed_46 : decode cX12_feed 46 = .ok (.aload_n 0, 1) := by decide +kernel
theorem dX12_feed_47 : decode cX12_feed 47 = .ok (.getfield 41, 3) := by decide +kernel
theorem dX12_feed_50 : decode cX12_feed 50 = .ok (.ireturn, 1) := by decide +kernel
theorem dX12_peek_0 : decode cX12_peek 0 = .ok (.aload_n 0, 1) := by decide +kernel
theorem dX12_peek_1 : decode cX12_peek 1 = .ok (.getfield 44, 3) := by decide +kernel
theorem dX12_peek_4 : decode cX12_peek 4 = .ok (.aload_n 0, 1) := by decide +kernel
theorem dX12_peek_5 : decode cX12_peek 5 = .ok (.getfield 41, 3) := by decide +kernel
theorem dX12_peek_8 : decode cX12_peek 8 = .ok (.if_icmp .ge 15, 3) := by decide +kernel
theorem dX12_peek_11 : decode cX12_peek 11 = .ok (.aload_n 0, 1) := by decide +kernel
theorem dX12_peek_12 : decode cX12_peek 12 = .ok (.getfield 50, 3) := by decide +kernel
theorem dX12_peek_15 : decode cX12_peek 15 = .ok (.aload_n 0, 1) := by decide +kernel
theorem dX12_peek_16 : decode cX12_peek 16 = .ok (.getfield 44, 3) := by decide +kernel
theorem dX12_peek_19 : decode cX12_peek 19 = .ok (.iaload, 1) := by decide +kernel
theorem dX12_peek_20 : decode cX12_peek 20 = .ok (.goto 4, 3) := by decide +kernel
theorem dX12_peek_23 : decode cX12_peek 23 = .ok (.iconst (-1), 1) := by decide +kernel
theorem dX12_peek_24 : decode cX12_peek 24 = .ok (.ireturn, 1) := by decide +kernel
theorem dX12_takes_0 : decode cX12_takes 0 = .ok (.aload_n 0, 1) := by decide +kernel
theorem dX12_takes_1 : decode cX12_takes 1 = .ok (.invokevirtual 229, 3) := by decide +kernel
theorem dX12_takes_4 : decode cX12_takes 4 = .ok (.iload_n 1, 1) := by decide +kernel
theorem dX12_takes_5 : decode cX12_takes 5 = .ok (.if_icmp .eq 5, 3) := by decide +kernel
theorem dX12_takes_8 : decode cX12_takes 8 = .ok (.iconst 0, 1) := by decide +kernel
theorem dX12_takes_9 : decode cX12_takes 9 = .ok (.ireturn, 1) := by decide +kernel
theorem dX12_takes_10 : decode cX12_takes 10 = .ok (.aload_n 0, 1) := by decide +kernel
theorem dX12_takes_11 : decode cX12_takes 11 = .ok (.dup, 1) := by decide +kernel
theorem dX12_takes_12 : decode cX12_takes 12 = .ok (.getfield 44, 3) := by decide +kernel
theorem dX12_takes_15 : decode cX12_takes 15 = .ok (.iconst 1, 1) := by decide +kernel
theorem dX12_takes_16 : decode cX12_takes 16 = .ok (.iadd, 1) := by decide +kernel
theorem dX12_takes_17 : decode cX12_takes 17 = .ok (.putfield 44, 3) := by decide +kernel
theorem dX12_takes_20 : decode cX12_takes 20 = .ok (.iconst 1, 1) := by decide +kernel
theorem dX12_takes_21 : decode cX12_takes 21 = .ok (.ireturn, 1) := by decide +kernel
theorem dX12_takesWord_0 : decode cX12_takesWord 0 = .ok (.iconst 0, 1) := by decide +kernel
theorem dX12_takesWord_1 : decode cX12_takesWord 1 = .ok (.istore_n 3, 1) := by decide +kernel
theorem dX12_takesWord_2 : decode cX12_takesWord 2 = .ok (.iload_n 3, 1) := by decide +kernel
theorem dX12_takesWord_3 : decode cX12_takesWord 3 = .ok (.iload_n 2, 1) := by decide +kernel
theorem dX12_takesWord_4 : decode cX12_takesWord 4 = .ok (.if_icmp .ge 26, 3) := by decide +kernel
theorem dX12_takesWord_7 : decode cX12_takesWord 7 = .ok (.aload_n 0, 1) := by decide +kernel
theorem dX12_takesWord_8 : decode cX12_takesWord 8 = .ok (.aload_n 0, 1) := by decide +kernel
theorem dX12_takesWord_9 : decode cX12_takesWord 9 = .ok (.getfield 83, 3) := by decide +kernel
theorem dX12_takesWord_12 : decode cX12_takesWord 12 = .ok (.iload_n 1, 1) := by decide +kernel
theorem dX12_takesWord_13 : decode cX12_takesWord 13 = .ok (.iload_n 3, 1) := by decide +kernel
theorem dX12_takesWord_14 : decode cX12_takesWord 14 = .ok (.iadd, 1) := by decide +kernel
theorem dX12_takesWord_15 : decode cX12_takesWord 15 = .ok (.iaload, 1) := by decide +kernel
theorem dX12_takesWord_16 : decode cX12_takesWord 16 = .ok (.invokevirtual 232, 3) := by decide +kernel
theorem dX12_takesWord_19 : decode cX12_takesWord 19 = .ok (.ifCond .ne 5, 3) := by decide +kernel
theorem dX12_takesWord_22 : decode cX12_takesWord 22 = .ok (.iconst 0, 1) := by decide +kernel
theorem dX12_takesWord_23 : decode cX12_takesWord 23 = .ok (.ireturn, 1) := by decide +kernel
theorem dX12_takesWord_24 : decode cX12_takesWord 24 = .ok (.iinc 3 1, 3) := by decide +kernel
theorem dX12_takesWord_27 : decode cX12_takesWord 27 = .ok (.goto (-25), 3) := by decide +kernel
theorem dX12_takesWord_30 : decode cX12_takesWord 30 = .ok (.aload_n 0, 1) := by decide +kernel
theorem dX12_takesWord_31 : decode cX12_takesWord 31 = .ok (.bipush 32, 2) := by decide +kernel
theorem dX12_takesWord_33 : decode cX12_takesWord 33 = .ok (.invokevirtual 232, 3) := by decide +kernel
theorem dX12_takesWord_36 : decode cX12_takesWord 36 = .ok (.ireturn, 1) := by decide +kernel
theorem dX12_isDigit_0 : decode cX12_isDigit 0 = .ok (.aload_n 0, 1) := by decide +kernel
theorem dX12_isDigit_1 : decode cX12_isDigit 1 = .ok (.aload_n 0, 1) := by decide +kernel
theorem dX12_isDigit_2 : decode cX12_isDigit 2 = .ok (.invokevirtual 229, 3) := by decide +kernel
theorem dX12_isDigit_5 : decode cX12_isDigit 5 = .ok (.bipush 48, 2) := by decide +kernel
theorem dX12_isDigit_7 : decode cX12_isDigit 7 = .ok (.bipush 57, 2) := by decide +kernel
theorem dX12_isDigit_9 : decode cX12_isDigit 9 = .ok (.invokevirtual 197, 3) := by decide +kernel
theorem dX12_isDigit_12 : decode cX12_isDigit 12 = .ok (.ireturn, 1) := by decide +kernel
theorem dX12_takesNumber_0 : decode cX12_takesNumber 0 = .ok (.aload_n 0, 1) := by decide +kernel
theorem dX12_takesNumber_1 : decode cX12_takesNumber 1 = .ok (.invokevirtual 235, 3) := by decide +kernel
theorem dX12_takesNumber_4 : decode cX12_takesNumber 4 = .ok (.ifCond .ne 5, 3) := by decide +kernel
theorem dX12_takesNumber_7 : decode cX12_takesNumber 7 = .ok (.iconst 0, 1) := by decide +kernel
theorem dX12_takesNumber_8 : decode cX12_takesNumber 8 = .ok (.ireturn, 1) := by decide +kernel
theorem dX12_takesNumber_9 : decode cX12_takesNumber 9 = .ok (.aload_n 0, 1) := by decide +kernel
theorem dX12_takesNumber_10 : decode cX12_takesNumber 10 = .ok (.iconst 0, 1) := by decide +kernel
theorem dX12_takesNumber_11 : decode cX12_takesNumber 11 = .ok (.putfield 47, 3) := by decide +kernel
theorem dX12_takesNumber_14 : decode cX12_takesNumber 14 = .ok (.iconst 0, 1) := by decide +kernel
theorem dX12_takesNumber_15 : decode cX12_takesNumber 15 = .ok (.istore_n 1, 1) := by decide +kernel
theorem dX12_takesNumber_16 : decode cX12_takesNumber 16 = .ok (.iload_n 1, 1) := by decide +kernel
theorem dX12_takesNumber_17 : decode cX12_takesNumber 17 = .ok (.iconst 2, 1) := by decide +kernel
theorem dX12_takesNumber_18 : decode cX12_takesNumber 18 = .ok (.if_icmp .ge 45, 3) := by decide +kernel
theorem dX12_takesNumber_21 : decode cX12_takesNumber 21 = .ok (.aload_n 0, 1) := by decide +kernel
theorem dX12_takesNumber_22 : decode cX12_takesNumber 22 = .ok (.invokevirtual 235, 3) := by decide +kernel
theorem dX12_takesNumber_25 : decode cX12_takesNumber 25 = .ok (.ifCond .eq 38, 3) := by decide +kernel
theorem dX12_takesNumber_28 : decode cX12_takesNumber 28 = .ok (.aload_n 0, 1) := by decide +kernel
theorem dX12_takesNumber_29 : decode cX12_takesNumber 29 = .ok (.bipush 10, 2) := by decide +kernel
theorem dX12_takesNumber_31 : decode cX12_takesNumber 31 = .ok (.aload_n 0, 1) := by decide +kernel
theorem dX12_takesNumber_32 : decode cX12_takesNumber 32 = .ok (.getfield 47, 3) := by decide +kernel
theorem dX12_takesNumber_35 : decode cX12_takesNumber 35 = .ok (.imul, 1) := by decide +kernel
theorem dX12_takesNumber_36 : decode cX12_takesNumber 36 = .ok (.aload_n 0, 1) := by decide +kernel
theorem dX12_takesNumber_37 : decode cX12_takesNumber 37 = .ok (.invokevirtual 229, 3) := by decide +kernel
theorem dX12_takesNumber_40 : decode cX12_takesNumber 40 = .ok (.iadd, 1) := by decide +kernel
theorem dX12_takesNumber_41 : decode cX12_takesNumber 41 = .ok (.bipush 48, 2) := by decide +kernel
theorem dX12_takesNumber_43 : decode cX12_takesNumber 43 = .ok (.isub, 1) := by decide +kernel
theorem dX12_takesNumber_44 : decode cX12_takesNumber 44 = .ok (.putfield 47, 3) := by decide +kernel
theorem dX12_takesNumber_47 : decode cX12_takesNumber 47 = .ok (.aload_n 0, 1) := by decide +kernel
theorem dX12_takesNumber_48 : decode cX12_takesNumber 48 = .ok (.dup, 1) := by decide +kernel
theorem dX12_takesNumber_49 : decode cX12_takesNumber 49 = .ok (.getfield 44, 3) := by decide +kernel
theorem dX12_takesNumber_52 : decode cX12_takesNumber 52 = .ok (.iconst 1, 1) := by decide +kernel
theorem dX12_takesNumber_53 : decode cX12_takesNumber 53 = .ok (.iadd, 1) := by decide +kernel
theorem dX12_takesNumber_54 : decode cX12_takesNumber 54 = .ok (.putfield 44, 3) := by decide +kernel
theorem dX12_takesNumber_57 : decode cX12_takesNumber 57 = .ok (.iinc 1 1, 3) := by decide +kernel
theorem dX12_takesNumber_60 : decode cX12_takesNumber 60 = .ok (.goto (-44), 3) := by decide +kernel
theorem dX12_takesNumber_63 : decode cX12_takesNumber 63 = .ok (.iconst 1, 1) := by decide +kernel
theorem dX12_takesNumber_64 : decode cX12_takesNumber 64 = .ok (.ireturn, 1) := by decide +kernel
theorem dX12_emits_0 : decode cX12_emits 0 = .ok (.aload_n 0, 1) := by decide +kernel
theorem dX12_emits_1 : decode cX12_emits 1 = .ok (.getfield 68, 3) := by decide +kernel
theorem dX12_emits_4 : decode cX12_emits 4 = .ok (.aload_n 0, 1) := by decide +kernel
theorem dX12_emits_5 : decode cX12_emits 5 = .ok (.getfield 74, 3) := by decide +kernel
theorem dX12_emits_8 : decode cX12_emits 8 = .ok (.iload_n 1, 1) := by decide +kernel
theorem dX12_emits_9 : decode cX12_emits 9 = .ok (.iastore, 1) := by decide +kernel
theorem dX12_emits_10 : decode cX12_emits 10 = .ok (.aload_n 0, 1) := by decide +kernel
theorem dX12_emits_11 : decode cX12_emits 11 = .ok (.dup, 1) := by decide +kernel
theorem dX12_emits_12 : decode cX12_emits 12 = .ok (.getfield 74, 3) := by decide +kernel
theorem dX12_emits_15 : decode cX12_emits 15 = .ok (.iconst 1, 1) := by decide +kernel
theorem dX12_emits_16 : decode cX12_emits 16 = .ok (.iadd, 1) := by decide +kernel
theorem dX12_emits_17 : decode cX12_emits 17 = .ok (.putfield 74, 3) := by decide +kernel
theorem dX12_emits_20 : decode cX12_emits 20 = .ok (.return_, 1) := by decide +kernel
theorem dX12_whole_0 : decode cX12_whole 0 = .ok (.aload_n 0, 1) := by decide +kernel
theorem dX12_whole_1 : decode cX12_whole 1 = .ok (.getfield 77, 3) := by decide +kernel
theorem dX12_whole_4 : decode cX12_whole 4 = .ok (.ifCond .le 48, 3) := by decide +kernel
theorem dX12_whole_7 : decode cX12_whole 7 = .ok (.aload_n 0, 1) := by decide +kernel
theorem dX12_whole_8 : decode cX12_whole 8 = .ok (.getfield 71, 3) := by decide +kernel
theorem dX12_whole_11 : decode cX12_whole 11 = .ok (.aload_n 0, 1) := by decide +kernel
theorem dX12_whole_12 : decode cX12_whole 12 = .ok (.getfield 77, 3) := by decide +kernel
theorem dX12_whole_15 : decode cX12_whole 15 = .ok (.iconst 1, 1) := by decide +kernel
theorem dX12_whole_16 : decode cX12_whole 16 = .ok (.isub, 1) := by decide +kernel
theorem dX12_whole_17 : decode cX12_whole 17 = .ok (.iaload, 1) := by decide +kernel
theorem dX12_whole_18 : decode cX12_whole 18 = .ok (.bipush 33, 2) := by decide +kernel
theorem dX12_whole_20 : decode cX12_whole 20 = .ok (.if_icmp .ne 32, 3) := by decide +kernel
theorem dX12_whole_23 : decode cX12_whole 23 = .ok (.aload_n 0, 1) := by decide +kernel
theorem dX12_whole_24 : decode cX12_whole 24 = .ok (.bipush (-33), 2) := by decide +kernel
theorem dX12_whole_26 : decode cX12_whole 26 = .ok (.invokevirtual 239, 3) := by decide +kernel
theorem dX12_whole_29 : decode cX12_whole 29 = .ok (.aload_n 0, 1) := by decide +kernel
theorem dX12_whole_30 : decode cX12_whole 30 = .ok (.dup, 1) := by decide +kernel
theorem dX12_whole_31 : decode cX12_whole 31 = .ok (.getfield 77, 3) := by decide +kernel
theorem dX12_whole_34 : decode cX12_whole 34 = .ok (.iconst 1, 1) := by decide +kernel
theorem dX12_whole_35 : decode cX12_whole 35 = .ok (.isub, 1) := by decide +kernel
theorem dX12_whole_36 : decode cX12_whole 36 = .ok (.putfield 77, 3) := by decide +kernel
theorem dX12_whole_39 : decode cX12_whole 39 = .ok (.aload_n 0, 1) := by decide +kernel
theorem dX12_whole_40 : decode cX12_whole 40 = .ok (.dup, 1) := by decide +kernel
theorem dX12_whole_41 : decode cX12_whole 41 = .ok (.getfield 80, 3) := by decide +kernel
theorem dX12_whole_44 : decode cX12_whole 44 = .ok (.iconst 1, 1) := by decide +kernel
theorem dX12_whole_45 : decode cX12_whole 45 = .ok (.isub, 1) := by decide +kernel
theorem dX12_whole_46 : decode cX12_whole 46 = .ok (.putfield 80, 3) := by decide +kernel
theorem dX12_whole_49 : decode cX12_whole 49 = .ok (.goto (-49), 3) := by decide +kernel
theorem dX12_whole_52 : decode cX12_whole 52 = .ok (.return_, 1) := by decide +kernel
theorem dX12_settle_0 : decode cX12_settle 0 = .ok (.aload_n 0, 1) := by decide +kernel
theorem dX12_settle_1 : decode cX12_settle 1 = .ok (.getfield 77, 3) := by decide +kernel
theorem dX12_settle_4 : decode cX12_settle 4 = .ok (.ifCond .le 68, 3) := by decide +kernel
theorem dX12_settle_7 : decode cX12_settle 7 = .ok (.aload_n 0, 1) := by decide +kernel
theorem dX12_settle_8 : decode cX12_settle 8 = .ok (.getfield 71, 3) := by decide +kernel
theorem dX12_settle_11 : decode cX12_settle 11 = .ok (.aload_n 0, 1) := by decide +kernel
theorem dX12_settle_12 : decode cX12_settle 12 = .ok (.getfield 77, 3) := by decide +kernel
theorem dX12_settle_15 : decode cX12_settle 15 = .ok (.iconst 1, 1) := by decide +kernel
theorem dX12_settle_16 : decode cX12_settle 16 = .ok (.isub, 1) := by decide +kernel
theorem dX12_settle_17 : decode cX12_settle 17 = .ok (.iaload, 1) := by decide +kernel
theorem dX12_settle_18 : decode cX12_settle 18 = .ok (.bipush 38, 2) := by decide +kernel
theorem dX12_settle_20 : decode cX12_settle 20 = .ok (.if_icmp .eq 25, 3) := by decide +kernel
theorem dX12_settle_23 : decode cX12_settle 23 = .ok (.aload_n 0, 1) := by decide +kernel
theorem dX12_settle_24 : decode cX12_settle 24 = .ok (.getfield 71, 3) := by decide +kernel
theorem dX12_settle_27 : decode cX12_settle 27 = .ok (.aload_n 0, 1) := by decide +kernel
theorem dX12_settle_28 : decode cX12_settle 28 = .ok (.getfield 77, 3) := by decide +kernel
theorem dX12_settle_31 : decode cX12_settle 31 = .ok (.iconst 1, 1) := by decide +kernel
theorem dX12_settle_32 : decode cX12_settle 32 = .ok (.isub, 1) := by decide +kernel
theorem dX12_settle_33 : decode cX12_settle 33 = .ok (.iaload, 1) := by decide +kernel
theorem dX12_settle_34 : decode cX12_settle 34 = .ok (.bipush 124, 2) := by decide +kernel
theorem dX12_settle_36 : decode cX12_settle 36 = .ok (.if_icmp .ne 36, 3) := by decide +kernel
theorem dX12_settle_39 : decode cX12_settle 39 = .ok (.iload_n 1, 1) := by decide +kernel
theorem dX12_settle_40 : decode cX12_settle 40 = .ok (.bipush 38, 2) := by decide +kernel
theorem dX12_settle_42 : decode cX12_settle 42 = .ok (.if_icmp .eq 30, 3) := by decide +kernel
theorem dX12_settle_45 : decode cX12_settle 45 = .ok (.aload_n 0, 1) := by decide +kernel
theorem dX12_settle_46 : decode cX12_settle 46 = .ok (.dup, 1) := by decide +kernel
theorem dX12_settle_47 : decode cX12_settle 47 = .ok (.getfield 77, 3) := by decide +kernel
theorem dX12_settle_50 : decode cX12_settle 50 = .ok (.iconst 1, 1) := by decide +kernel
theorem dX12_settle_51 : decode cX12_settle 51 = .ok (.isub, 1) := by decide +kernel
theorem dX12_settle_52 : decode cX12_settle 52 = .ok (.putfield 77, 3) := by decide +kernel
theorem dX12_settle_55 : decode cX12_settle 55 = .ok (.aload_n 0, 1) := by decide +kernel
theorem dX12_settle_56 : decode cX12_settle 56 = .ok (.aload_n 0, 1) := by decide +kernel
theorem dX12_settle_57 : decode cX12_settle 57 = .ok (.getfield 71, 3) := by decide +kernel
theorem dX12_settle_60 : decode cX12_settle 60 = .ok (.aload_n 0, 1) := by decide +kernel
theorem dX12_settle_61 : decode cX12_settle 61 = .ok (.getfield 77, 3) := by decide +kernel
theorem dX12_settle_64 : decode cX12_settle 64 = .ok (.iaload, 1) := by decide +kernel
theorem dX12_settle_65 : decode cX12_settle 65 = .ok (.ineg, 1) := by decide +kernel
theorem dX12_settle_66 : decode cX12_settle 66 = .ok (.invokevirtual 239, 3) := by decide +kernel
theorem dX12_settle_69 : decode cX12_settle 69 = .ok (.goto (-69), 3) := by decide +kernel
theorem dX12_settle_72 : decode cX12_settle 72 = .ok (.return_, 1) := by decide +kernel
theorem dX12_place_0 : decode cX12_place 0 = .ok (.iload_n 1, 1) := by decide +kernel
theorem dX12_place_1 : decode cX12_place 1 = .ok (.lookupswitch 71 #[(97, 59), (98, 61), (100, 65), (101, 67), (102, 63), (121, 69)], 59) := by decide +kernel
theorem dX12_place_60 : decode cX12_place 60 = .ok (.iconst 0, 1) := by decide +kernel
theorem dX12_place_61 : decode cX12_place 61 = .ok (.ireturn, 1) := by decide +kernel
theorem dX12_place_62 : decode cX12_place 62 = .ok (.iconst 1, 1) := by decide +kernel
theorem dX12_place_63 : decode cX12_place 63 = .ok (.ireturn, 1) := by decide +kernel
theorem dX12_place_64 : decode cX12_place 64 = .ok (.iconst 2, 1) := by decide +kernel
theorem dX12_place_65 : decode cX12_place 65 = .ok (.ireturn, 1) := by decide +kernel
theorem dX12_place_66 : decode cX12_place 66 = .ok (.iconst 3, 1) := by decide +kernel
theorem dX12_place_67 : decode cX12_place 67 = .ok (.ireturn, 1) := by decide +kernel
theorem dX12_place_68 : decode cX12_place 68 = .ok (.iconst 4, 1) := by decide +kernel
theorem dX12_place_69 : decode cX12_place 69 = .ok (.ireturn, 1) := by decide +kernel
theorem dX12_place_70 : decode cX12_place 70 = .ok (.iconst 5, 1) := by decide +kernel
theorem dX12_place_71 : decode cX12_place 71 = .ok (.ireturn, 1) := by decide +kernel
theorem dX12_place_72 : decode cX12_place 72 = .ok (.iconst (-1), 1) := by decide +kernel
theorem dX12_place_73 : decode cX12_place 73 = .ok (.ireturn, 1) := by decide +kernel
theorem dX12_takesTest_0 : decode cX12_takesTest 0 = .ok (.aload_n 0, 1) := by decide +kernel
theorem dX12_takesTest_1 : decode cX12_takesTest 1 = .ok (.aload_n 0, 1) := by decide +kernel
theorem dX12_takesTest_2 : decode cX12_takesTest 2 = .ok (.invokevirtual 229, 3) := by decide +kernel
theorem dX12_takesTest_5 : decode cX12_takesTest 5 = .ok (.invokevirtual 243, 3) := by decide +kernel
theorem dX12_takesTest_8 : decode cX12_takesTest 8 = .ok (.istore_n 1, 1) := by decide +kernel
theorem dX12_takesTest_9 : decode cX12_takesTest 9 = .ok (.iload_n 1, 1) := by decide +kernel
theorem dX12_takesTest_10 : decode cX12_takesTest 10 = .ok (.ifCond .ge 5, 3) := by decide +kernel
theorem dX12_takesTest_13 : decode cX12_takesTest 13 = .ok (.iconst 0, 1) := by decide +kernel
theorem dX12_takesTest_14 : decode cX12_takesTest 14 = .ok (.ireturn, 1) := by decide +kernel
theorem dX12_takesTest_15 : decode cX12_takesTest 15 = .ok (.aload_n 0, 1) := by decide +kernel
theorem dX12_takesTest_16 : decode cX12_takesTest 16 = .ok (.dup, 1) := by decide +kernel
theorem dX12_takesTest_17 : decode cX12_takesTest 17 = .ok (.getfield 44, 3) := by decide +kernel
theorem dX12_takesTest_20 : decode cX12_takesTest 20 = .ok (.iconst 1, 1) := by decide +kernel
theorem dX12_takesTest_21 : decode cX12_takesTest 21 = .ok (.iadd, 1) := by decide +kernel
theorem dX12_takesTest_22 : decode cX12_takesTest 22 = .ok (.putfield 44, 3) := by decide +kernel
theorem dX12_takesTest_25 : decode cX12_takesTest 25 = .ok (.aload_n 0, 1) := by decide +kernel
theorem dX12_takesTest_26 : decode cX12_takesTest 26 = .ok (.invokevirtual 229, 3) := by decide +kernel
theorem dX12_takesTest_29 : decode cX12_takesTest 29 = .ok (.istore_n 2, 1) := by decide +kernel
theorem dX12_takesTest_30 : decode cX12_takesTest 30 = .ok (.aload_n 0, 1) := by decide +kernel
theorem dX12_takesTest_31 : decode cX12_takesTest 31 = .ok (.iload_n 2, 1) := by decide +kernel
theorem dX12_takesTest_32 : decode cX12_takesTest 32 = .ok (.bipush 60, 2) := by decide +kernel
theorem dX12_takesTest_34 : decode cX12_takesTest 34 = .ok (.bipush 62, 2) := by decide +kernel
theorem dX12_takesTest_36 : decode cX12_takesTest 36 = .ok (.invokevirtual 197, 3) := by decide +kernel
theorem dX12_takesTest_39 : decode cX12_takesTest 39 = .ok (.ifCond .ne 5, 3) := by decide +kernel
theorem dX12_takesTest_42 : decode cX12_takesTest 42 = .ok (.iconst 0, 1) := by decide +kernel
theorem dX12_takesTest_43 : decode cX12_takesTest 43 = .ok (.ireturn, 1) := by decide +kernel
theorem dX12_takesTest_44 : decode cX12_takesTest 44 = .ok (.aload_n 0, 1) := by decide +kernel
theorem dX12_takesTest_45 : decode cX12_takesTest 45 = .ok (.dup, 1) := by decide +kernel
theorem dX12_takesTest_46 : decode cX12_takesTest 46 = .ok (.getfield 44, 3) := by decide +kernel
theorem dX12_takesTest_49 : decode cX12_takesTest 49 = .ok (.iconst 1, 1) := by decide +kernel
theorem dX12_takesTest_50 : decode cX12_takesTest 50 = .ok (.iadd, 1) := by decide +kernel
theorem dX12_takesTest_51 : decode cX12_takesTest 51 = .ok (.putfield 44, 3) := by decide +kernel
theorem dX12_takesTest_54 : decode cX12_takesTest 54 = .ok (.aload_n 0, 1) := by decide +kernel
theorem dX12_takesTest_55 : decode cX12_takesTest 55 = .ok (.invokevirtual 246, 3) := by decide +kernel
theorem dX12_takesTest_58 : decode cX12_takesTest 58 = .ok (.ifCond .ne 5, 3) := by decide +kernel
theorem dX12_takesTest_61 : decode cX12_takesTest 61 = .ok (.iconst 0, 1) := by decide +kernel
theorem dX12_takesTest_62 : decode cX12_takesTest 62 = .ok (.ireturn, 1) := by decide +kernel
theorem dX12_takesTest_63 : decode cX12_takesTest 63 = .ok (.aload_n 0, 1) := by decide +kernel
theorem dX12_takesTest_64 : decode cX12_takesTest 64 = .ok (.sipush 1000, 3) := by decide +kernel
theorem dX12_takesTest_67 : decode cX12_takesTest 67 = .ok (.iload_n 1, 1) := by decide +kernel
theorem dX12_takesTest_68 : decode cX12_takesTest 68 = .ok (.imul, 1) := by decide +kernel
theorem dX12_takesTest_69 : decode cX12_takesTest 69 = .ok (.bipush 100, 2) := by decide +kernel
theorem dX12_takesTest_71 : decode cX12_takesTest 71 = .ok (.iload_n 2, 1) := by decide +kernel
theorem dX12_takesTest_72 : decode cX12_takesTest 72 = .ok (.bipush 60, 2) := by decide +kernel
theorem dX12_takesTest_74 : decode cX12_takesTest 74 = .ok (.isub, 1) := by decide +kernel
theorem dX12_takesTest_75 : decode cX12_takesTest 75 = .ok (.imul, 1) := by decide +kernel
theorem dX12_takesTest_76 : decode cX12_takesTest 76 = .ok (.iadd, 1) := by decide +kernel
theorem dX12_takesTest_77 : decode cX12_takesTest 77 = .ok (.aload_n 0, 1) := by decide +kernel
theorem dX12_takesTest_78 : decode cX12_takesTest 78 = .ok (.getfield 47, 3) := by decide +kernel
theorem dX12_takesTest_81 : decode cX12_takesTest 81 = .ok (.iadd, 1) := by decide +kernel
theorem dX12_takesTest_82 : decode cX12_takesTest 82 = .ok (.invokevirtual 239, 3) := by decide +kernel
theorem dX12_takesTest_85 : decode cX12_takesTest 85 = .ok (.aload_n 0, 1) := by decide +kernel
theorem dX12_takesTest_86 : decode cX12_takesTest 86 = .ok (.invokevirtual 249, 3) := by decide +kernel
theorem dX12_takesTest_89 : decode cX12_takesTest 89 = .ok (.iconst 1, 1) := by decide +kernel
theorem dX12_takesTest_90 : decode cX12_takesTest 90 = .ok (.ireturn, 1) := by decide +kernel
theorem dX12_takesE_0 : decode cX12_takesE 0 = .ok (.aload_n 0, 1) := by decide +kernel
theorem dX12_takesE_1 : decode cX12_takesE 1 = .ok (.iconst 0, 1) := by decide +kernel
theorem dX12_takesE_2 : decode cX12_takesE 2 = .ok (.putfield 77, 3) := by decide +kernel
theorem dX12_takesE_5 : decode cX12_takesE 5 = .ok (.aload_n 0, 1) := by decide +kernel
theorem dX12_takesE_6 : decode cX12_takesE 6 = .ok (.iconst 0, 1) := by decide +kernel
theorem dX12_takesE_7 : decode cX12_takesE 7 = .ok (.putfield 80, 3) := by decide +kernel
theorem dX12_takesE_10 : decode cX12_takesE 10 = .ok (.aload_n 0, 1) := by decide +kernel
theorem dX12_takesE_11 : decode cX12_takesE 11 = .ok (.getfield 62, 3) := by decide +kernel
theorem dX12_takesE_14 : decode cX12_takesE 14 = .ok (.iload_n 1, 1) := by decide +kernel
theorem dX12_takesE_15 : decode cX12_takesE 15 = .ok (.aload_n 0, 1) := by decide +kernel
theorem dX12_takesE_16 : decode cX12_takesE 16 = .ok (.getfield 74, 3) := by decide +kernel
theorem dX12_takesE_19 : decode cX12_takesE 19 = .ok (.iastore, 1) := by decide +kernel
theorem dX12_takesE_20 : decode cX12_takesE 20 = .ok (.iconst 1, 1) := by decide +kernel
theorem dX12_takesE_21 : decode cX12_takesE 21 = .ok (.istore_n 2, 1) := by decide +kernel
theorem dX12_takesE_22 : decode cX12_takesE 22 = .ok (.aload_n 0, 1) := by decide +kernel
theorem dX12_takesE_23 : decode cX12_takesE 23 = .ok (.invokevirtual 229, 3) := by decide +kernel
theorem dX12_takesE_26 : decode cX12_takesE 26 = .ok (.istore_n 3, 1) := by decide +kernel
theorem dX12_takesE_27 : decode cX12_takesE 27 = .ok (.iload_n 2, 1) := by decide +kernel
theorem dX12_takesE_28 : decode cX12_takesE 28 = .ok (.ifCond .eq 82, 3) := by decide +kernel
theorem dX12_takesE_31 : decode cX12_takesE 31 = .ok (.iload_n 3, 1) := by decide +kernel
theorem dX12_takesE_32 : decode cX12_takesE 32 = .ok (.bipush 33, 2) := by decide +kernel
theorem dX12_takesE_34 : decode cX12_takesE 34 = .ok (.if_icmp .eq 9, 3) := by decide +kernel
theorem dX12_takesE_37 : decode cX12_takesE 37 = .ok (.iload_n 3, 1) := by decide +kernel
theorem dX12_takesE_38 : decode cX12_takesE 38 = .ok (.bipush 40, 2) := by decide +kernel
theorem dX12_takesE_40 : decode cX12_takesE 40 = .ok (.if_icmp .ne 56, 3) := by decide +kernel
theorem dX12_takesE_43 : decode cX12_takesE 43 = .ok (.aload_n 0, 1) := by decide +kernel
theorem dX12_takesE_44 : decode cX12_takesE 44 = .ok (.getfield 80, 3) := by decide +kernel
theorem dX12_takesE_47 : decode cX12_takesE 47 = .ok (.iconst 4, 1) := by decide +kernel
theorem dX12_takesE_48 : decode cX12_takesE 48 = .ok (.if_icmp .ne 5, 3) := by decide +kernel
theorem dX12_takesE_51 : decode cX12_takesE 51 = .ok (.iconst 0, 1) := by decide +kernel
theorem dX12_takesE_52 : decode cX12_takesE 52 = .ok (.ireturn, 1) := by decide +kernel
theorem dX12_takesE_53 : decode cX12_takesE 53 = .ok (.aload_n 0, 1) := by decide +kernel
theorem dX12_takesE_54 : decode cX12_takesE 54 = .ok (.dup, 1) := by decide +kernel
theorem dX12_takesE_55 : decode cX12_takesE 55 = .ok (.getfield 80, 3) := by decide +kernel
theorem dX12_takesE_58 : decode cX12_takesE 58 = .ok (.iconst 1, 1) := by decide +kernel
theorem dX12_takesE_59 : decode cX12_takesE 59 = .ok (.iadd, 1) := by decide +kernel
theorem dX12_takesE_60 : decode cX12_takesE 60 = .ok (.putfield 80, 3) := by decide +kernel
theorem dX12_takesE_63 : decode cX12_takesE 63 = .ok (.aload_n 0, 1) := by decide +kernel
theorem dX12_takesE_64 : decode cX12_takesE 64 = .ok (.getfield 71, 3) := by decide +kernel
theorem dX12_takesE_67 : decode cX12_takesE 67 = .ok (.aload_n 0, 1) := by decide +kernel
theorem dX12_takesE_68 : decode cX12_takesE 68 = .ok (.getfield 77, 3) := by decide +kernel
theorem dX12_takesE_71 : decode cX12_takesE 71 = .ok (.iload_n 3, 1) := by decide +kernel
theorem dX12_takesE_72 : decode cX12_takesE 72 = .ok (.iastore, 1) := by decide +kernel
theorem dX12_takesE_73 : decode cX12_takesE 73 = .ok (.aload_n 0, 1) := by decide +kernel
theorem dX12_takesE_74 : decode cX12_takesE 74 = .ok (.dup, 1) := by decide +kernel
theorem dX12_takesE_75 : decode cX12_takesE 75 = .ok (.getfield 77, 3) := by decide +kernel
theorem dX12_takesE_78 : decode cX12_takesE 78 = .ok (.iconst 1, 1) := by decide +kernel
theorem dX12_takesE_79 : decode cX12_takesE 79 = .ok (.iadd, 1) := by decide +kernel
theorem dX12_takesE_80 : decode cX12_takesE 80 = .ok (.putfield 77, 3) := by decide +kernel
theorem dX12_takesE_83 : decode cX12_takesE 83 = .ok (.aload_n 0, 1) := by decide +kernel
theorem dX12_takesE_84 : decode cX12_takesE 84 = .ok (.dup, 1) := by decide +kernel
theorem dX12_takesE_85 : decode cX12_takesE 85 = .ok (.getfield 44, 3) := by decide +kernel
theorem dX12_takesE_88 : decode cX12_takesE 88 = .ok (.iconst 1, 1) := by decide +kernel
theorem dX12_takesE_89 : decode cX12_takesE 89 = .ok (.iadd, 1) := by decide +kernel
theorem dX12_takesE_90 : decode cX12_takesE 90 = .ok (.putfield 44, 3) := by decide +kernel
theorem dX12_takesE_93 : decode cX12_takesE 93 = .ok (.goto (-71), 3) := by decide +kernel
theorem dX12_takesE_96 : decode cX12_takesE 96 = .ok (.aload_n 0, 1) := by decide +kernel
theorem dX12_takesE_97 : decode cX12_takesE 97 = .ok (.invokevirtual 252, 3) := by decide +kernel
theorem dX12_takesE_100 : decode cX12_takesE 100 = .ok (.ifCond .eq 8, 3) := by decide +kernel
theorem dX12_takesE_103 : decode cX12_takesE 103 = .ok (.iconst 0, 1) := by decide +kernel
theorem dX12_takesE_104 : decode cX12_takesE 104 = .ok (.istore_n 2, 1) := by decide +kernel
theorem dX12_takesE_105 : decode cX12_takesE 105 = .ok (.goto (-83), 3) := by decide +kernel
theorem dX12_takesE_108 : decode cX12_takesE 108 = .ok (.iconst 0, 1) := by decide +kernel
theorem dX12_takesE_109 : decode cX12_takesE 109 = .ok (.ireturn, 1) := by decide +kernel
theorem dX12_takesE_110 : decode cX12_takesE 110 = .ok (.iload_n 3, 1) := by decide +kernel
theorem dX12_takesE_111 : decode cX12_takesE 111 = .ok (.bipush 38, 2) := by decide +kernel
theorem dX12_takesE_113 : decode cX12_takesE 113 = .ok (.if_icmp .eq 9, 3) := by decide +kernel
theorem dX12_takesE_116 : decode cX12_takesE 116 = .ok (.iload_n 3, 1) := by decide +kernel
theorem dX12_takesE_117 : decode cX12_takesE 117 = .ok (.bipush 124, 2) := by decide +kernel
theorem dX12_takesE_119 : decode cX12_takesE 119 = .ok (.if_icmp .ne 43, 3) := by decide +kernel
theorem dX12_takesE_122 : decode cX12_takesE 122 = .ok (.aload_n 0, 1) := by decide +kernel
theorem dX12_takesE_123 : decode cX12_takesE 123 = .ok (.iload_n 3, 1) := by decide +kernel
theorem dX12_takesE_124 : decode cX12_takesE 124 = .ok (.invokevirtual 255, 3) := by decide +kernel
theorem dX12_takesE_127 : decode cX12_takesE 127 = .ok (.aload_n 0, 1) := by decide +kernel
theorem dX12_takesE_128 : decode cX12_takesE 128 = .ok (.getfield 71, 3) := by decide +kernel
theorem dX12_takesE_131 : decode cX12_takesE 131 = .ok (.aload_n 0, 1) := by decide +kernel
theorem dX12_takesE_132 : decode cX12_takesE 132 = .ok (.getfield 77, 3) := by decide +kernel
theorem dX12_takesE_135 : decode cX12_takesE 135 = .ok (.iload_n 3, 1) := by decide +kernel
theorem dX12_takesE_136 : decode cX12_takesE 136 = .ok (.iastore, 1) := by decide +kernel
theorem dX12_takesE_137 : decode cX12_takesE 137 = .ok (.aload_n 0, 1) := by decide +kernel
theorem dX12_takesE_138 : decode cX12_takesE 138 = .ok (.dup, 1) := by decide +kernel
theorem dX12_takesE_139 : decode cX12_takesE 139 = .ok (.getfield 77, 3) := by decide +kernel
theorem dX12_takesE_142 : decode cX12_takesE 142 = .ok (.iconst 1, 1) := by decide +kernel
theorem dX12_takesE_143 : decode cX12_takesE 143 = .ok (.iadd, 1) := by decide +kernel
theorem dX12_takesE_144 : decode cX12_takesE 144 = .ok (.putfield 77, 3) := by decide +kernel
theorem dX12_takesE_147 : decode cX12_takesE 147 = .ok (.iconst 1, 1) := by decide +kernel
theorem dX12_takesE_148 : decode cX12_takesE 148 = .ok (.istore_n 2, 1) := by decide +kernel
theorem dX12_takesE_149 : decode cX12_takesE 149 = .ok (.aload_n 0, 1) := by decide +kernel
theorem dX12_takesE_150 : decode cX12_takesE 150 = .ok (.dup, 1) := by decide +kernel
theorem dX12_takesE_151 : decode cX12_takesE 151 = .ok (.getfield 44, 3) := by decide +kernel
theorem dX12_takesE_154 : decode cX12_takesE 154 = .ok (.iconst 1, 1) := by decide +kernel
theorem dX12_takesE_155 : decode cX12_takesE 155 = .ok (.iadd, 1) := by decide +kernel
theorem dX12_takesE_156 : decode cX12_takesE 156 = .ok (.putfield 44, 3) := by decide +kernel
theorem dX12_takesE_159 : decode cX12_takesE 159 = .ok (.goto (-137), 3) := by decide +kernel
theorem dX12_takesE_162 : decode cX12_takesE 162 = .ok (.aload_n 0, 1) := by decide +kernel
theorem dX12_takesE_163 : decode cX12_takesE 163 = .ok (.bipush 124, 2) := by decide +kernel
theorem dX12_takesE_165 : decode cX12_takesE 165 = .ok (.invokevirtual 255, 3) := by decide +kernel
theorem dX12_takesE_168 : decode cX12_takesE 168 = .ok (.aload_n 0, 1) := by decide +kernel
theorem dX12_takesE_169 : decode cX12_takesE 169 = .ok (.getfield 65, 3) := by decide +kernel
theorem dX12_takesE_172 : decode cX12_takesE 172 = .ok (.iload_n 1, 1) := by decide +kernel
theorem dX12_takesE_173 : decode cX12_takesE 173 = .ok (.aload_n 0, 1) := by decide +kernel
theorem dX12_takesE_174 : decode cX12_takesE 174 = .ok (.getfield 74, 3) := by decide +kernel
theorem dX12_takesE_177 : decode cX12_takesE 177 = .ok (.iastore, 1) := by decide +kernel
theorem dX12_takesE_178 : decode cX12_takesE 178 = .ok (.aload_n 0, 1) := by decide +kernel
theorem dX12_takesE_179 : decode cX12_takesE 179 = .ok (.getfield 77, 3) := by decide +kernel
theorem dX12_takesE_182 : decode cX12_takesE 182 = .ok (.ifCond .ne 5, 3) := by decide +kernel
theorem dX12_takesE_185 : decode cX12_takesE 185 = .ok (.iconst 1, 1) := by decide +kernel
theorem dX12_takesE_186 : decode cX12_takesE 186 = .ok (.ireturn, 1) := by decide +kernel
theorem dX12_takesE_187 : decode cX12_takesE 187 = .ok (.iload_n 3, 1) := by decide +kernel
theorem dX12_takesE_188 : decode cX12_takesE 188 = .ok (.bipush 41, 2) := by decide +kernel
theorem dX12_takesE_190 : decode cX12_takesE 190 = .ok (.if_icmp .eq 5, 3) := by decide +kernel
theorem dX12_takesE_193 : decode cX12_takesE 193 = .ok (.iconst 0, 1) := by decide +kernel
theorem dX12_takesE_194 : decode cX12_takesE 194 = .ok (.ireturn, 1) := by decide +kernel
theorem dX12_takesE_195 : decode cX12_takesE 195 = .ok (.aload_n 0, 1) := by decide +kernel
theorem dX12_takesE_196 : decode cX12_takesE 196 = .ok (.dup, 1) := by decide +kernel
theorem dX12_takesE_197 : decode cX12_takesE 197 = .ok (.getfield 77, 3) := by decide +kernel
theorem dX12_takesE_200 : decode cX12_takesE 200 = .ok (.iconst 1, 1) := by decide +kernel
theorem dX12_takesE_201 : decode cX12_takesE 201 = .ok (.isub, 1) := by decide +kernel
theorem dX12_takesE_202 : decode cX12_takesE 202 = .ok (.putfield 77, 3) := by decide +kernel
theorem dX12_takesE_205 : decode cX12_takesE 205 = .ok (.aload_n 0, 1) := by decide +kernel
theorem dX12_takesE_206 : decode cX12_takesE 206 = .ok (.dup, 1) := by decide +kernel
theorem dX12_takesE_207 : decode cX12_takesE 207 = .ok (.getfield 80, 3) := by decide +kernel
theorem dX12_takesE_210 : decode cX12_takesE 210 = .ok (.iconst 1, 1) := by decide +kernel
theorem dX12_takesE_211 : decode cX12_takesE 211 = .ok (.isub, 1) := by decide +kernel
theorem dX12_takesE_212 : decode cX12_takesE 212 = .ok (.putfield 80, 3) := by decide +kernel
theorem dX12_takesE_215 : decode cX12_takesE 215 = .ok (.aload_n 0, 1) := by decide +kernel
theorem dX12_takesE_216 : decode cX12_takesE 216 = .ok (.dup, 1) := by decide +kernel
theorem dX12_takesE_217 : decode cX12_takesE 217 = .ok (.getfield 44, 3) := by decide +kernel
theorem dX12_takesE_220 : decode cX12_takesE 220 = .ok (.iconst 1, 1) := by decide +kernel
theorem dX12_takesE_221 : decode cX12_takesE 221 = .ok (.iadd, 1) := by decide +kernel
theorem dX12_takesE_222 : decode cX12_takesE 222 = .ok (.putfield 44, 3) := by decide +kernel
theorem dX12_takesE_225 : decode cX12_takesE 225 = .ok (.aload_n 0, 1) := by decide +kernel
theorem dX12_takesE_226 : decode cX12_takesE 226 = .ok (.invokevirtual 249, 3) := by decide +kernel
theorem dX12_takesE_229 : decode cX12_takesE 229 = .ok (.goto (-207), 3) := by decide +kernel
theorem dX12_takesHead_0 : decode cX12_takesHead 0 = .ok (.aload_n 0, 1) := by decide +kernel
theorem dX12_takesHead_1 : decode cX12_takesHead 1 = .ok (.invokevirtual 229, 3) := by decide +kernel
theorem dX12_takesHead_4 : decode cX12_takesHead 4 = .ok (.lookupswitch 56 #[(109, 42), (119, 28)], 28) := by decide +kernel
theorem dX12_takesHead_32 : decode cX12_takesHead 32 = .ok (.aload_n 0, 1) := by decide +kernel
theorem dX12_takesHead_33 : decode cX12_takesHead 33 = .ok (.getfield 56, 3) := by decide +kernel
theorem dX12_takesHead_36 : decode cX12_takesHead 36 = .ok (.iload_n 1, 1) := by decide +kernel
theorem dX12_takesHead_37 : decode cX12_takesHead 37 = .ok (.iconst 0, 1) := by decide +kernel
theorem dX12_takesHead_38 : decode cX12_takesHead 38 = .ok (.iastore, 1) := by decide +kernel
theorem dX12_takesHead_39 : decode cX12_takesHead 39 = .ok (.aload_n 0, 1) := by decide +kernel
theorem dX12_takesHead_40 : decode cX12_takesHead 40 = .ok (.iconst 0, 1) := by decide +kernel
theorem dX12_takesHead_41 : decode cX12_takesHead 41 = .ok (.iconst 4, 1) := by decide +kernel
theorem dX12_takesHead_42 : decode cX12_takesHead 42 = .ok (.invokevirtual 258, 3) := by decide +kernel
theorem dX12_takesHead_45 : decode cX12_takesHead 45 = .ok (.ireturn, 1) := by decide +kernel
theorem dX12_takesHead_46 : decode cX12_takesHead 46 = .ok (.aload_n 0, 1) := by decide +kernel
theorem dX12_takesHead_47 : decode cX12_takesHead 47 = .ok (.getfield 56, 3) := by decide +kernel
theorem dX12_takesHead_50 : decode cX12_takesHead 50 = .ok (.iload_n 1, 1) := by decide +kernel
theorem dX12_takesHead_51 : decode cX12_takesHead 51 = .ok (.iconst 1, 1) := by decide +kernel
theorem dX12_takesHead_52 : decode cX12_takesHead 52 = .ok (.iastore, 1) := by decide +kernel
theorem dX12_takesHead_53 : decode cX12_takesHead 53 = .ok (.aload_n 0, 1) := by decide +kernel
theorem dX12_takesHead_54 : decode cX12_takesHead 54 = .ok (.iconst 4, 1) := by decide +kernel
theorem dX12_takesHead_55 : decode cX12_takesHead 55 = .ok (.iconst 4, 1) := by decide +kernel
theorem dX12_takesHead_56 : decode cX12_takesHead 56 = .ok (.invokevirtual 258, 3) := by decide +kernel
theorem dX12_takesHead_59 : decode cX12_takesHead 59 = .ok (.ireturn, 1) := by decide +kernel
theorem dX12_takesHead_60 : decode cX12_takesHead 60 = .ok (.aload_n 0, 1) := by decide +kernel
theorem dX12_takesHead_61 : decode cX12_takesHead 61 = .ok (.getfield 56, 3) := by decide +kernel
theorem dX12_takesHead_64 : decode cX12_takesHead 64 = .ok (.iload_n 1, 1) := by decide +kernel
theorem dX12_takesHead_65 : decode cX12_takesHead 65 = .ok (.iconst 2, 1) := by decide +kernel
theorem dX12_takesHead_66 : decode cX12_takesHead 66 = .ok (.iastore, 1) := by decide +kernel
theorem dX12_takesHead_67 : decode cX12_takesHead 67 = .ok (.aload_n 0, 1) := by decide +kernel
theorem dX12_takesHead_68 : decode cX12_takesHead 68 = .ok (.bipush 8, 2) := by decide +kernel
theorem dX12_takesHead_70 : decode cX12_takesHead 70 = .ok (.iconst 5, 1) := by decide +kernel
theorem dX12_takesHead_71 : decode cX12_takesHead 71 = .ok (.invokevirtual 258, 3) := by decide +kernel
theorem dX12_takesHead_74 : decode cX12_takesHead 74 = .ok (.ireturn, 1) := by decide +kernel
theorem dX12_takesClause_0 : decode cX12_takesClause 0 = .ok (.aload_n 0, 1) := by decide +kernel
theorem dX12_takesClause_1 : decode cX12_takesClause 1 = .ok (.iload_n 1, 1) := by decide +kernel
theorem dX12_takesClause_2 : decode cX12_takesClause 2 = .ok (.invokevirtual 261, 3) := by decide +kernel
theorem dX12_takesClause_5 : decode cX12_takesClause 5 = .ok (.ifCond .eq 10, 3) := by decide +kernel
theorem dX12_takesClause_8 : decode cX12_takesClause 8 = .ok (.aload_n 0, 1) := by decide +kernel
theorem dX12_takesClause_9 : decode cX12_takesClause 9 = .ok (.invokevirtual 246, 3) := by decide +kernel
theorem dX12_takesClause_12 : decode cX12_takesClause 12 = .ok (.ifCond .ne 5, 3) := by decide +kernel
theorem dX12_takesClause_15 : decode cX12_takesClause 15 = .ok (.iconst 0, 1) := by decide +kernel
theorem dX12_takesClause_16 : decode cX12_takesClause 16 = .ok (.ireturn, 1) := by decide +kernel
theorem dX12_takesClause_17 : decode cX12_takesClause 17 = .ok (.aload_n 0, 1) := by decide +kernel
theorem dX12_takesClause_18 : decode cX12_takesClause 18 = .ok (.getfield 59, 3) := by decide +kernel
theorem dX12_takesClause_21 : decode cX12_takesClause 21 = .ok (.iload_n 1, 1) := by decide +kernel
theorem dX12_takesClause_22 : decode cX12_takesClause 22 = .ok (.aload_n 0, 1) := by decide +kernel
theorem dX12_takesClause_23 : decode cX12_takesClause 23 = .ok (.getfield 47, 3) := by decide +kernel
theorem dX12_takesClause_26 : decode cX12_takesClause 26 = .ok (.iastore, 1) := by decide +kernel
theorem dX12_takesClause_27 : decode cX12_takesClause 27 = .ok (.aload_n 0, 1) := by decide +kernel
theorem dX12_takesClause_28 : decode cX12_takesClause 28 = .ok (.bipush 32, 2) := by decide +kernel
theorem dX12_takesClause_30 : decode cX12_takesClause 30 = .ok (.invokevirtual 232, 3) := by decide +kernel
theorem dX12_takesClause_33 : decode cX12_takesClause 33 = .ok (.ifCond .eq 15, 3) := by decide +kernel
theorem dX12_takesClause_36 : decode cX12_takesClause 36 = .ok (.aload_n 0, 1) := by decide +kernel
theorem dX12_takesClause_37 : decode cX12_takesClause 37 = .ok (.iload_n 1, 1) := by decide +kernel
theorem dX12_takesClause_38 : decode cX12_takesClause 38 = .ok (.invokevirtual 264, 3) := by decide +kernel
theorem dX12_takesClause_41 : decode cX12_takesClause 41 = .ok (.ifCond .eq 7, 3) := by decide +kernel
theorem dX12_takesClause_44 : decode cX12_takesClause 44 = .ok (.iconst 1, 1) := by decide +kernel
theorem dX12_takesClause_45 : decode cX12_takesClause 45 = .ok (.goto 4, 3) := by decide +kernel
theorem dX12_takesClause_48 : decode cX12_takesClause 48 = .ok (.iconst 0, 1) := by decide +kernel
theorem dX12_takesClause_49 : decode cX12_takesClause 49 = .ok (.ireturn, 1) := by decide +kernel
theorem dX12_goesText_0 : decode cX12_goesText 0 = .ok (.aload_n 0, 1) := by decide +kernel
theorem dX12_goesText_1 : decode cX12_goesText 1 = .ok (.iconst 0, 1) := by decide +kernel
theorem dX12_goesText_2 : decode cX12_goesText 2 = .ok (.putfield 44, 3) := by decide +kernel
theorem dX12_goesText_5 : decode cX12_goesText 5 = .ok (.aload_n 0, 1) := by decide +kernel
theorem dX12_goesText_6 : decode cX12_goesText 6 = .ok (.bipush 100, 2) := by decide +kernel
theorem dX12_goesText_8 : decode cX12_goesText 8 = .ok (.iload_n 1, 1) := by decide +kernel
theorem dX12_goesText_9 : decode cX12_goesText 9 = .ok (.imul, 1) := by decide +kernel
theorem dX12_goesText_10 : decode cX12_goesText 10 = .ok (.putfield 74, 3) := by decide +kernel
theorem dX12_goesText_13 : decode cX12_goesText 13 = .ok (.iconst 0, 1) := by decide +kernel
theorem dX12_goesText_14 : decode cX12_goesText 14 = .ok (.istore_n 2, 1) := by decide +kernel
theorem dX12_goesText_15 : decode cX12_goesText 15 = .ok (.aload_n 0, 1) := by decide +kernel
theorem dX12_goesText_16 : decode cX12_goesText 16 = .ok (.bipush 10, 2) := by decide +kernel
theorem dX12_goesText_18 : decode cX12_goesText 18 = .ok (.iload_n 1, 1) := by decide +kernel
theorem dX12_goesText_19 : decode cX12_goesText 19 = .ok (.imul, 1) := by decide +kernel
theorem dX12_goesText_20 : decode cX12_goesText 20 = .ok (.iload_n 2, 1) := by decide +kernel
theorem dX12_goesText_21 : decode cX12_goesText 21 = .ok (.iadd, 1) := by decide +kernel
theorem dX12_goesText_22 : decode cX12_goesText 22 = .ok (.invokevirtual 267, 3) := by decide +kernel
theorem dX12_goesText_25 : decode cX12_goesText 25 = .ok (.ifCond .ne 5, 3) := by decide +kernel
theorem dX12_goesText_28 : decode cX12_goesText 28 = .ok (.iconst 0, 1) := by decide +kernel
theorem dX12_goesText_29 : decode cX12_goesText 29 = .ok (.ireturn, 1) := by decide +kernel
theorem dX12_goesText_30 : decode cX12_goesText 30 = .ok (.iinc 2 1, 3) := by decide +kernel
theorem dX12_goesText_33 : decode cX12_goesText 33 = .ok (.aload_n 0, 1) := by decide +kernel
theorem dX12_goesText_34 : decode cX12_goesText 34 = .ok (.getfield 53, 3) := by decide +kernel
theorem dX12_goesText_37 : decode cX12_goesText 37 = .ok (.iload_n 1, 1) := by decide +kernel
theorem dX12_goesText_38 : decode cX12_goesText 38 = .ok (.iload_n 2, 1) := by decide +kernel
theorem dX12_goesText_39 : decode cX12_goesText 39 = .ok (.iastore, 1) := by decide +kernel
theorem dX12_goesText_40 : decode cX12_goesText 40 = .ok (.aload_n 0, 1) := by decide +kernel
theorem dX12_goesText_41 : decode cX12_goesText 41 = .ok (.getfield 44, 3) := by decide +kernel
theorem dX12_goesText_44 : decode cX12_goesText 44 = .ok (.aload_n 0, 1) := by decide +kernel
theorem dX12_goesText_45 : decode cX12_goesText 45 = .ok (.getfield 41, 3) := by decide +kernel
theorem dX12_goesText_48 : decode cX12_goesText 48 = .ok (.if_icmp .ne 5, 3) := by decide +kernel
theorem dX12_goesText_51 : decode cX12_goesText 51 = .ok (.iconst 1, 1) := by decide +kernel
theorem dX12_goesText_52 : decode cX12_goesText 52 = .ok (.ireturn, 1) := by decide +kernel
theorem dX12_goesText_53 : decode cX12_goesText 53 = .ok (.iload_n 2, 1) := by decide +kernel
theorem dX12_goesText_54 : decode cX12_goesText 54 = .ok (.bipush 10, 2) := by decide +kernel
theorem dX12_goesText_56 : decode cX12_goesText 56 = .ok (.if_icmp .eq 12, 3) := by decide +kernel
theorem dX12_goesText_59 : decode cX12_goesText 59 = .ok (.aload_n 0, 1) := by decide +kernel
theorem dX12_goesText_60 : decode cX12_goesText 60 = .ok (.bipush 59, 2) := by decide +kernel
theorem dX12_goesText_62 : decode cX12_goesText 62 = .ok (.invokevirtual 232, 3) := by decide +kernel
theorem dX12_goesText_65 : decode cX12_goesText 65 = .ok (.ifCond .ne (-50), 3) := by decide +kernel
theorem dX12_goesText_68 : decode cX12_goesText 68 = .ok (.iconst 0, 1) := by decide +kernel
theorem dX12_goesText_69 : decode cX12_goesText 69 = .ok (.ireturn, 1) := by decide +kernel
theorem dX12_town_0 : decode cX12_town 0 = .ok (.aload_n 0, 1) := by decide +kernel
theorem dX12_town_1 : decode cX12_town 1 = .ok (.getfield 35, 3) := by decide +kernel
theorem dX12_town_4 : decode cX12_town 4 = .ok (.bipush 6, 2) := by decide +kernel
theorem dX12_town_6 : decode cX12_town 6 = .ok (.if_icmp .ne 6, 3) := by decide +kernel
theorem dX12_town_9 : decode cX12_town 9 = .ok (.bipush (-4), 2) := by decide +kernel
theorem dX12_town_11 : decode cX12_town 11 = .ok (.ireturn, 1) := by decide +kernel
theorem dX12_town_12 : decode cX12_town 12 = .ok (.aload_n 0, 1) := by decide +kernel
theorem dX12_town_13 : decode cX12_town 13 = .ok (.aload_n 0, 1) := by decide +kernel
theorem dX12_town_14 : decode cX12_town 14 = .ok (.getfield 35, 3) := by decide +kernel
theorem dX12_town_17 : decode cX12_town 17 = .ok (.invokevirtual 270, 3) := by decide +kernel
theorem dX12_town_20 : decode cX12_town 20 = .ok (.istore_n 1, 1) := by decide +kernel
theorem dX12_town_21 : decode cX12_town 21 = .ok (.aload_n 0, 1) := by decide +kernel
theorem dX12_town_22 : decode cX12_town 22 = .ok (.iconst 0, 1) := by decide +kernel
theorem dX12_town_23 : decode cX12_town 23 = .ok (.putfield 41, 3) := by decide +kernel
theorem dX12_town_26 : decode cX12_town 26 = .ok (.iload_n 1, 1) := by decide +kernel
theorem dX12_town_27 : decode cX12_town 27 = .ok (.ifCond .ne 11, 3) := by decide +kernel
theorem dX12_town_30 : decode cX12_town 30 = .ok (.bipush (-10), 2) := by decide +kernel
theorem dX12_town_32 : decode cX12_town 32 = .ok (.aload_n 0, 1) := by decide +kernel
theorem dX12_town_33 : decode cX12_town 33 = .ok (.getfield 44, 3) := by decide +kernel
theorem dX12_town_36 : decode cX12_town 36 = .ok (.isub, 1) := by decide +kernel
theorem dX12_town_37 : decode cX12_town 37 = .ok (.ireturn, 1) := by decide +kernel
theorem dX12_town_38 : decode cX12_town 38 = .ok (.aload_n 0, 1) := by decide +kernel
theorem dX12_town_39 : decode cX12_town 39 = .ok (.aload_n 0, 1) := by decide +kernel
theorem dX12_town_40 : decode cX12_town 40 = .ok (.getfield 35, 3) := by decide +kernel
theorem dX12_town_43 : decode cX12_town 43 = .ok (.putfield 38, 3) := by decide +kernel
theorem dX12_town_46 : decode cX12_town 46 = .ok (.aload_n 0, 1) := by decide +kernel
theorem dX12_town_47 : decode cX12_town 47 = .ok (.dup, 1) := by decide +kernel
theorem dX12_town_48 : decode cX12_town 48 = .ok (.getfield 35, 3) := by decide +kernel
theorem dX12_town_51 : decode cX12_town 51 = .ok (.iconst 1, 1) := by decide +kernel
theorem dX12_town_52 : decode cX12_town 52 = .ok (.iadd, 1) := by decide +kernel
theorem dX12_town_53 : decode cX12_town 53 = .ok (.putfield 35, 3) := by decide +kernel
theorem dX12_town_56 : decode cX12_town 56 = .ok (.aload_n 0, 1) := by decide +kernel
theorem dX12_town_57 : decode cX12_town 57 = .ok (.getfield 38, 3) := by decide +kernel
theorem dX12_town_60 : decode cX12_town 60 = .ok (.ireturn, 1) := by decide +kernel
theorem dX12_begin_0 : decode cX12_begin 0 = .ok (.aload_n 0, 1) := by decide +kernel
theorem dX12_begin_1 : decode cX12_begin 1 = .ok (.getfield 38, 3) := by decide +kernel
theorem dX12_begin_4 : decode cX12_begin 4 = .ok (.ifCond .ge 7, 3) := by decide +kernel
theorem dX12_begin_7 : decode cX12_begin 7 = .ok (.iconst 0, 1) := by decide +kernel
theorem dX12_begin_8 : decode cX12_begin 8 = .ok (.goto 10, 3) := by decide +kernel
theorem dX12_begin_11 : decode cX12_begin 11 = .ok (.bipush 10, 2) := by decide +kernel
theorem dX12_begin_13 : decode cX12_begin 13 = .ok (.aload_n 0, 1) := by decide +kernel
theorem dX12_begin_14 : decode cX12_begin 14 = .ok (.getfield 38, 3) := by decide +kernel
theorem dX12_begin_17 : decode cX12_begin 17 = .ok (.imul, 1) := by decide +kernel
theorem dX12_begin_18 : decode cX12_begin 18 = .ok (.ireturn, 1) := by decide +kernel
theorem dX12_behind_0 : decode cX12_behind 0 = .ok (.aload_n 0, 1) := by decide +kernel
theorem dX12_behind_1 : decode cX12_behind 1 = .ok (.getfield 38, 3) := by decide +kernel
theorem dX12_behind_4 : decode cX12_behind 4 = .ok (.ifCond .ge 7, 3) := by decide +kernel
theorem dX12_behind_7 : decode cX12_behind 7 = .ok (.iconst 0, 1) := by decide +kernel
theorem dX12_behind_8 : decode cX12_behind 8 = .ok (.goto 20, 3) := by decide +kernel
theorem dX12_behind_11 : decode cX12_behind 11 = .ok (.bipush 10, 2) := by decide +kernel
theorem dX12_behind_13 : decode cX12_behind 13 = .ok (.aload_n 0, 1) := by decide +kernel
theorem dX12_behind_14 : decode cX12_behind 14 = .ok (.getfield 38, 3) := by decide +kernel
theorem dX12_behind_17 : decode cX12_behind 17 = .ok (.imul, 1) := by decide +kernel
theorem dX12_behind_18 : decode cX12_behind 18 = .ok (.aload_n 0, 1) := by decide +kernel
theorem dX12_behind_19 : decode cX12_behind 19 = .ok (.getfield 53, 3) := by decide +kernel
theorem dX12_behind_22 : decode cX12_behind 22 = .ok (.aload_n 0, 1) := by decide +kernel
theorem dX12_behind_23 : decode cX12_behind 23 = .ok (.getfield 38, 3) := by decide +kernel
theorem dX12_behind_26 : decode cX12_behind 26 = .ok (.iaload, 1) := by decide +kernel
theorem dX12_behind_27 : decode cX12_behind 27 = .ok (.iadd, 1) := by decide +kernel
theorem dX12_behind_28 : decode cX12_behind 28 = .ok (.ireturn, 1) := by decide +kernel
theorem dX12_manyOf_0 : decode cX12_manyOf 0 = .ok (.aload_n 0, 1) := by decide +kernel
theorem dX12_manyOf_1 : decode cX12_manyOf 1 = .ok (.aload_n 0, 1) := by decide +kernel
theorem dX12_manyOf_2 : decode cX12_manyOf 2 = .ok (.getfield 16, 3) := by decide +kernel
theorem dX12_manyOf_5 : decode cX12_manyOf 5 = .ok (.ifCond .ge 12, 3) := by decide +kernel
theorem dX12_manyOf_8 : decode cX12_manyOf 8 = .ok (.aload_n 0, 1) := by decide +kernel
theorem dX12_manyOf_9 : decode cX12_manyOf 9 = .ok (.getfield 26, 3) := by decide +kernel
theorem dX12_manyOf_12 : decode cX12_manyOf 12 = .ok (.iload_n 1, 1) := by decide +kernel
theorem dX12_manyOf_13 : decode cX12_manyOf 13 = .ok (.iaload, 1) := by decide +kernel
theorem dX12_manyOf_14 : decode cX12_manyOf 14 = .ok (.goto 18, 3) := by decide +kernel
theorem dX12_manyOf_17 : decode cX12_manyOf 17 = .ok (.aload_n 0, 1) := by decide +kernel
theorem dX12_manyOf_18 : decode cX12_manyOf 18 = .ok (.getfield 26, 3) := by decide +kernel
theorem dX12_manyOf_21 : decode cX12_manyOf 21 = .ok (.iload_n 1, 1) := by decide +kernel
theorem dX12_manyOf_22 : decode cX12_manyOf 22 = .ok (.iaload, 1) := by decide +kernel
theorem dX12_manyOf_23 : decode cX12_manyOf 23 = .ok (.iconst 1, 1) := by decide +kernel
theorem dX12_manyOf_24 : decode cX12_manyOf 24 = .ok (.aload_n 0, 1) := by decide +kernel
theorem dX12_manyOf_25 : decode cX12_manyOf 25 = .ok (.getfield 16, 3) := by decide +kernel
theorem dX12_manyOf_28 : decode cX12_manyOf 28 = .ok (.ishl, 1) := by decide +kernel
theorem dX12_manyOf_29 : decode cX12_manyOf 29 = .ok (.iconst (-1), 1) := by decide +kernel
theorem dX12_manyOf_30 : decode cX12_manyOf 30 = .ok (.ixor, 1) := by decide +kernel
theorem dX12_manyOf_31 : decode cX12_manyOf 31 = .ok (.iand, 1) := by decide +kernel
theorem dX12_manyOf_32 : decode cX12_manyOf 32 = .ok (.invokevirtual 273, 3) := by decide +kernel
theorem dX12_manyOf_35 : decode cX12_manyOf 35 = .ok (.ireturn, 1) := by decide +kernel
theorem dX12_factOf_0 : decode cX12_factOf 0 = .ok (.iload_n 1, 1) := by decide +kernel
theorem dX12_factOf_1 : decode cX12_factOf 1 = .ok (.tableswitch 62 0 4 #[35, 37, 39, 50, 56], 35) := by decide +kernel
theorem dX12_factOf_36 : decode cX12_factOf 36 = .ok (.iload_n 2, 1) := by decide +kernel
theorem dX12_factOf_37 : decode cX12_factOf 37 = .ok (.ireturn, 1) := by decide +kernel
theorem dX12_factOf_38 : decode cX12_factOf 38 = .ok (.iload_n 3, 1) := by decide +kernel
theorem dX12_factOf_39 : decode cX12_factOf 39 = .ok (.ireturn, 1) := by decide +kernel
theorem dX12_factOf_40 : decode cX12_factOf 40 = .ok (.aload_n 0, 1) := by decide +kernel
theorem dX12_factOf_41 : decode cX12_factOf 41 = .ok (.getfield 26, 3) := by decide +kernel
theorem dX12_factOf_44 : decode cX12_factOf 44 = .ok (.iload_n 2, 1) := by decide +kernel
theorem dX12_factOf_45 : decode cX12_factOf 45 = .ok (.iaload, 1) := by decide +kernel
theorem dX12_factOf_46 : decode cX12_factOf 46 = .ok (.iload_n 3, 1) := by decide +kernel
theorem dX12_factOf_47 : decode cX12_factOf 47 = .ok (.ishr, 1) := by decide +kernel
theorem dX12_factOf_48 : decode cX12_factOf 48 = .ok (.iconst 1, 1) := by decide +kernel
theorem dX12_factOf_49 : decode cX12_factOf 49 = .ok (.iand, 1) := by decide +kernel
theorem dX12_factOf_50 : decode cX12_factOf 50 = .ok (.ireturn, 1) := by decide +kernel
theorem dX12_factOf_51 : decode cX12_factOf 51 = .ok (.aload_n 0, 1) := by decide +kernel
theorem dX12_factOf_52 : decode cX12_factOf 52 = .ok (.iload_n 2, 1) := by decide +kernel
theorem dX12_factOf_53 : decode cX12_factOf 53 = .ok (.invokevirtual 276, 3) := by decide +kernel
theorem dX12_factOf_56 : decode cX12_factOf 56 = .ok (.ireturn, 1) := by decide +kernel
theorem dX12_factOf_57 : decode cX12_factOf 57 = .ok (.aload_n 0, 1) := by decide +kernel
theorem dX12_factOf_58 : decode cX12_factOf 58 = .ok (.iload_n 3, 1) := by decide +kernel
theorem dX12_factOf_59 : decode cX12_factOf 59 = .ok (.invokevirtual 276, 3) := by decide +kernel
theorem dX12_factOf_62 : decode cX12_factOf 62 = .ok (.ireturn, 1) := by decide +kernel
theorem dX12_factOf_63 : decode cX12_factOf 63 = .ok (.aload_n 0, 1) := by decide +kernel
theorem dX12_factOf_64 : decode cX12_factOf 64 = .ok (.getfield 13, 3) := by decide +kernel
theorem dX12_factOf_67 : decode cX12_factOf 67 = .ok (.bipush 10, 2) := by decide +kernel
theorem dX12_factOf_69 : decode cX12_factOf 69 = .ok (.irem, 1) := by decide +kernel
theorem dX12_factOf_70 : decode cX12_factOf 70 = .ok (.ireturn, 1) := by decide +kernel
theorem dX12_holds_0 : decode cX12_holds 0 = .ok (.iconst 0, 1) := by decide +kernel
theorem dX12_holds_1 : decode cX12_holds 1 = .ok (.istore 4, 2) := by decide +kernel
theorem dX12_holds_3 : decode cX12_holds 3 = .ok (.aload_n 0, 1) := by decide +kernel
theorem dX12_holds_4 : decode cX12_holds 4 = .ok (.getfield 62, 3) := by decide +kernel
theorem dX12_holds_7 : decode cX12_holds 7 = .ok (.iload_n 1, 1) := by decide +kernel
theorem dX12_holds_8 : decode cX12_holds 8 = .ok (.iaload, 1) := by decide +kernel
theorem dX12_holds_9 : decode cX12_holds 9 = .ok (.istore 5, 2) := by decide +kernel
theorem dX12_holds_11 : decode cX12_holds 11 = .ok (.iload 5, 2) := by decide +kernel
theorem dX12_holds_13 : decode cX12_holds 13 = .ok (.aload_n 0, 1) := by decide +kernel
theorem dX12_holds_14 : decode cX12_holds 14 = .ok (.getfield 65, 3) := by decide +kernel
theorem dX12_holds_17 : decode cX12_holds 17 = .ok (.iload_n 1, 1) := by decide +kernel
theorem dX12_holds_18 : decode cX12_holds 18 = .ok (.iaload, 1) := by decide +kernel
theorem dX12_holds_19 : decode cX12_holds 19 = .ok (.if_icmp .ge 234, 3) := by decide +kernel
theorem dX12_holds_22 : decode cX12_holds 22 = .ok (.aload_n 0, 1) := by decide +kernel
theorem dX12_holds_23 : decode cX12_holds 23 = .ok (.getfield 68, 3) := by decide +kernel
theorem dX12_holds_26 : decode cX12_holds 26 = .ok (.iload 5, 2) := by decide +kernel
theorem dX12_holds_28 : decode cX12_holds 28 = .ok (.iaload, 1) := by decide +kernel
theorem dX12_holds_29 : decode cX12_holds 29 = .ok (.istore 6, 2) := by decide +kernel
theorem dX12_holds_31 : decode cX12_holds 31 = .ok (.iload 6, 2) := by decide +kernel
theorem dX12_holds_33 : decode cX12_holds 33 = .ok (.bipush (-33), 2) := by decide +kernel
theorem dX12_holds_35 : decode cX12_holds 35 = .ok (.if_icmp .ne 32, 3) := by decide +kernel
theorem dX12_holds_38 : decode cX12_holds 38 = .ok (.aload_n 0, 1) := by decide +kernel
theorem dX12_holds_39 : decode cX12_holds 39 = .ok (.getfield 86, 3) := by decide +kernel
theorem dX12_holds_42 : decode cX12_holds 42 = .ok (.iload 4, 2) := by decide +kernel
theorem dX12_holds_44 : decode cX12_holds 44 = .ok (.iconst 1, 1) := by decide +kernel
theorem dX12_holds_45 : decode cX12_holds 45 = .ok (.isub, 1) := by decide +kernel
theorem dX12_holds_46 : decode cX12_holds 46 = .ok (.aload_n 0, 1) := by decide +kernel
theorem dX12_holds_47 : decode cX12_holds 47 = .ok (.getfield 86, 3) := by decide +kernel
theorem dX12_holds_50 : decode cX12_holds 50 = .ok (.iload 4, 2) := by decide +kernel
theorem dX12_holds_52 : decode cX12_holds 52 = .ok (.iconst 1, 1) := by decide +kernel
theorem dX12_holds_53 : decode cX12_holds 53 = .ok (.isub, 1) := by decide +kernel
theorem dX12_holds_54 : decode cX12_holds 54 = .ok (.baload, 1) := by decide +kernel
theorem dX12_holds_55 : decode cX12_holds 55 = .ok (.ifCond .ne 7, 3) := by decide +kernel
theorem dX12_holds_58 : decode cX12_holds 58 = .ok (.iconst 1, 1) := by decide +kernel
theorem dX12_holds_59 : decode cX12_holds 59 = .ok (.goto 4, 3) := by decide +kernel
theorem dX12_holds_62 : decode cX12_holds 62 = .ok (.iconst 0, 1) := by decide +kernel
theorem dX12_holds_63 : decode cX12_holds 63 = .ok (.bastore, 1) := by decide +kernel
theorem dX12_holds_64 : decode cX12_holds 64 = .ok (.goto 183, 3) := by decide +kernel
theorem dX12_holds_67 : decode cX12_holds 67 = .ok (.iload 6, 2) := by decide +kernel
theorem dX12_holds_69 : decode cX12_holds 69 = .ok (.ifCond .ge 82, 3) := by decide +kernel
theorem dX12_holds_72 : decode cX12_holds 72 = .ok (.iinc 4 (-1), 3) := by decide +kernel
theorem dX12_holds_75 : decode cX12_holds 75 = .ok (.aload_n 0, 1) := by decide +kernel
theorem dX12_holds_76 : decode cX12_holds 76 = .ok (.getfield 86, 3) := by decide +kernel
theorem dX12_holds_79 : decode cX12_holds 79 = .ok (.iload 4, 2) := by decide +kernel
theorem dX12_holds_81 : decode cX12_holds 81 = .ok (.iconst 1, 1) := by decide +kernel
theorem dX12_holds_82 : decode cX12_holds 82 = .ok (.isub, 1) := by decide +kernel
theorem dX12_holds_83 : decode cX12_holds 83 = .ok (.iload 6, 2) := by decide +kernel
theorem dX12_holds_85 : decode cX12_holds 85 = .ok (.bipush (-38), 2) := by decide +kernel
theorem dX12_holds_87 : decode cX12_holds 87 = .ok (.if_icmp .ne 33, 3) := by decide +kernel
theorem dX12_holds_90 : decode cX12_holds 90 = .ok (.aload_n 0, 1) := by decide +kernel
theorem dX12_holds_91 : decode cX12_holds 91 = .ok (.getfield 86, 3) := by decide +kernel
theorem dX12_holds_94 : decode cX12_holds 94 = .ok (.iload 4, 2) := by decide +kernel
theorem dX12_holds_96 : decode cX12_holds 96 = .ok (.iconst 1, 1) := by decide +kernel
theorem dX12_holds_97 : decode cX12_holds 97 = .ok (.isub, 1) := by decide +kernel
theorem dX12_holds_98 : decode cX12_holds 98 = .ok (.baload, 1) := by decide +kernel
theorem dX12_holds_99 : decode cX12_holds 99 = .ok (.ifCond .eq 17, 3) := by decide +kernel
theorem dX12_holds_102 : decode cX12_holds 102 = .ok (.aload_n 0, 1) := by decide +kernel
theorem dX12_holds_103 : decode cX12_holds 103 = .ok (.getfield 86, 3) := by decide +kernel
theorem dX12_holds_106 : decode cX12_holds 106 = .ok (.iload 4, 2) := by decide +kernel
theorem dX12_holds_108 : decode cX12_holds 108 = .ok (.baload, 1) := by decide +kernel
theorem dX12_holds_109 : decode cX12_holds 109 = .ok (.ifCond .eq 7, 3) := by decide +kernel
theorem dX12_holds_112 : decode cX12_holds 112 = .ok (.iconst 1, 1) := by decide +kernel
theorem dX12_holds_113 : decode cX12_holds 113 = .ok (.goto 34, 3) := by decide +kernel
theorem dX12_holds_116 : decode cX12_holds 116 = .ok (.iconst 0, 1) := by decide +kernel
theorem dX12_holds_117 : decode cX12_holds 117 = .ok (.goto 30, 3) := by decide +kernel
theorem dX12_holds_120 : decode cX12_holds 120 = .ok (.aload_n 0, 1) := by decide +kernel
theorem dX12_holds_121 : decode cX12_holds 121 = .ok (.getfield 86, 3) := by decide +kernel
theorem dX12_holds_124 : decode cX12_holds 124 = .ok (.iload 4, 2) := by decide +kernel
theorem dX12_holds_126 : decode cX12_holds 126 = .ok (.iconst 1, 1) := by decide +kernel
theorem dX12_holds_127 : decode cX12_holds 127 = .ok (.isub, 1) := by decide +kernel
theorem dX12_holds_128 : decode cX12_holds 128 = .ok (.baload, 1) := by decide +kernel
theorem dX12_holds_129 : decode cX12_holds 129 = .ok (.ifCond .ne 13, 3) := by decide +kernel
theorem dX12_holds_132 : decode cX12_holds 132 = .ok (.aload_n 0, 1) := by decide +kernel
theorem dX12_holds_133 : decode cX12_holds 133 = .ok (.getfield 86, 3) := by decide +kernel
theorem dX12_holds_136 : decode cX12_holds 136 = .ok (.iload 4, 2) := by decide +kernel
theorem dX12_holds_138 : decode cX12_holds 138 = .ok (.baload, 1) := by decide +kernel
theorem dX12_holds_139 : decode cX12_holds 139 = .ok (.ifCond .eq 7, 3) := by decide +kernel
theorem dX12_holds_142 : decode cX12_holds 142 = .ok (.iconst 1, 1) := by decide +kernel
theorem dX12_holds_143 : decode cX12_holds 143 = .ok (.goto 4, 3) := by decide +kernel
theorem dX12_holds_146 : decode cX12_holds 146 = .ok (.iconst 0, 1) := by decide +kernel
theorem dX12_holds_147 : decode cX12_holds 147 = .ok (.bastore, 1) := by decide +kernel
theorem dX12_holds_148 : decode cX12_holds 148 = .ok (.goto 99, 3) := by decide +kernel
theorem dX12_holds_151 : decode cX12_holds 151 = .ok (.aload_n 0, 1) := by decide +kernel
theorem dX12_holds_152 : decode cX12_holds 152 = .ok (.iload 6, 2) := by decide +kernel
theorem dX12_holds_154 : decode cX12_holds 154 = .ok (.sipush 1000, 3) := by decide +kernel
theorem dX12_holds_157 : decode cX12_holds 157 = .ok (.idiv, 1) := by decide +kernel
theorem dX12_holds_158 : decode cX12_holds 158 = .ok (.iload_n 2, 1) := by decide +kernel
theorem dX12_holds_159 : decode cX12_holds 159 = .ok (.iload_n 3, 1) := by decide +kernel
theorem dX12_holds_160 : decode cX12_holds 160 = .ok (.invokevirtual 279, 3) := by decide +kernel
theorem dX12_holds_163 : decode cX12_holds 163 = .ok (.istore 7, 2) := by decide +kernel
theorem dX12_holds_165 : decode cX12_holds 165 = .ok (.iload 6, 2) := by decide +kernel
theorem dX12_holds_167 : decode cX12_holds 167 = .ok (.bipush 100, 2) := by decide +kernel
theorem dX12_holds_169 : decode cX12_holds 169 = .ok (.idiv, 1) := by decide +kernel
theorem dX12_holds_170 : decode cX12_holds 170 = .ok (.bipush 10, 2) := by decide +kernel
theorem dX12_holds_172 : decode cX12_holds 172 = .ok (.irem, 1) := by decide +kernel
theorem dX12_holds_173 : decode cX12_holds 173 = .ok (.istore 8, 2) := by decide +kernel
theorem dX12_holds_175 : decode cX12_holds 175 = .ok (.aload_n 0, 1) := by decide +kernel
theorem dX12_holds_176 : decode cX12_holds 176 = .ok (.getfield 86, 3) := by decide +kernel
theorem dX12_holds_179 : decode cX12_holds 179 = .ok (.iload 4, 2) := by decide +kernel
theorem dX12_holds_181 : decode cX12_holds 181 = .ok (.iload 8, 2) := by decide +kernel
theorem dX12_holds_183 : decode cX12_holds 183 = .ok (.ifCond .ne 21, 3) := by decide +kernel
theorem dX12_holds_186 : decode cX12_holds 186 = .ok (.iload 7, 2) := by decide +kernel
theorem dX12_holds_188 : decode cX12_holds 188 = .ok (.iload 6, 2) := by decide +kernel
theorem dX12_holds_190 : decode cX12_holds 190 = .ok (.bipush 100, 2) := by decide +kernel
theorem dX12_holds_192 : decode cX12_holds 192 = .ok (.irem, 1) := by decide +kernel
theorem dX12_holds_193 : decode cX12_holds 193 = .ok (.if_icmp .ge 7, 3) := by decide +kernel
theorem dX12_holds_196 : decode cX12_holds 196 = .ok (.iconst 1, 1) := by decide +kernel
theorem dX12_holds_197 : decode cX12_holds 197 = .ok (.goto 46, 3) := by decide +kernel
theorem dX12_holds_200 : decode cX12_holds 200 = .ok (.iconst 0, 1) := by decide +kernel
theorem dX12_holds_201 : decode cX12_holds 201 = .ok (.goto 42, 3) := by decide +kernel
theorem dX12_holds_204 : decode cX12_holds 204 = .ok (.iload 8, 2) := by decide +kernel
theorem dX12_holds_206 : decode cX12_holds 206 = .ok (.iconst 1, 1) := by decide +kernel
theorem dX12_holds_207 : decode cX12_holds 207 = .ok (.if_icmp .ne 21, 3) := by decide +kernel
theorem dX12_holds_210 : decode cX12_holds 210 = .ok (.iload 7, 2) := by decide +kernel
theorem dX12_holds_212 : decode cX12_holds 212 = .ok (.iload 6, 2) := by decide +kernel
theorem dX12_holds_214 : decode cX12_holds 214 = .ok (.bipush 100, 2) := by decide +kernel
theorem dX12_holds_216 : decode cX12_holds 216 = .ok (.irem, 1) := by decide +kernel
theorem dX12_holds_217 : decode cX12_holds 217 = .ok (.if_icmp .ne 7, 3) := by decide +kernel
theorem dX12_holds_220 : decode cX12_holds 220 = .ok (.iconst 1, 1) := by decide +kernel
theorem dX12_holds_221 : decode cX12_holds 221 = .ok (.goto 22, 3) := by decide +kernel
theorem dX12_holds_224 : decode cX12_holds 224 = .ok (.iconst 0, 1) := by decide +kernel
theorem dX12_holds_225 : decode cX12_holds 225 = .ok (.goto 18, 3) := by decide +kernel
theorem dX12_holds_228 : decode cX12_holds 228 = .ok (.iload 7, 2) := by decide +kernel
theorem dX12_holds_230 : decode cX12_holds 230 = .ok (.iload 6, 2) := by decide +kernel
theorem dX12_holds_232 : decode cX12_holds 232 = .ok (.bipush 100, 2) := by decide +kernel
theorem dX12_holds_234 : decode cX12_holds 234 = .ok (.irem, 1) := by decide +kernel
theorem dX12_holds_235 : decode cX12_holds 235 = .ok (.if_icmp .le 7, 3) := by decide +kernel
theorem dX12_holds_238 : decode cX12_holds 238 = .ok (.iconst 1, 1) := by decide +kernel
theorem dX12_holds_239 : decode cX12_holds 239 = .ok (.goto 4, 3) := by decide +kernel
theorem dX12_holds_242 : decode cX12_holds 242 = .ok (.iconst 0, 1) := by decide +kernel
theorem dX12_holds_243 : decode cX12_holds 243 = .ok (.bastore, 1) := by decide +kernel
theorem dX12_holds_244 : decode cX12_holds 244 = .ok (.iinc 4 1, 3) := by decide +kernel
theorem dX12_holds_247 : decode cX12_holds 247 = .ok (.iinc 5 1, 3) := by decide +kernel
theorem dX12_holds_250 : decode cX12_holds 250 = .ok (.goto (-239), 3) := by decide +kernel
theorem dX12_holds_253 : decode cX12_holds 253 = .ok (.aload_n 0, 1) := by decide +kernel
theorem dX12_holds_254 : decode cX12_holds 254 = .ok (.getfield 86, 3) := by decide +kernel
theorem dX12_holds_257 : decode cX12_holds 257 = .ok (.iconst 0, 1) := by decide +kernel
theorem dX12_holds_258 : decode cX12_holds 258 = .ok (.baload, 1) := by decide +kernel
theorem dX12_holds_259 : decode cX12_holds 259 = .ok (.ireturn, 1) := by decide +kernel
theorem dX12_sumOf_0 : decode cX12_sumOf 0 = .ok (.iconst 0, 1) := by decide +kernel
theorem dX12_sumOf_1 : decode cX12_sumOf 1 = .ok (.istore 4, 2) := by decide +kernel
theorem dX12_sumOf_3 : decode cX12_sumOf 3 = .ok (.iconst 0, 1) := by decide +kernel
theorem dX12_sumOf_4 : decode cX12_sumOf 4 = .ok (.istore 5, 2) := by decide +kernel
theorem dX12_sumOf_6 : decode cX12_sumOf 6 = .ok (.aload_n 0, 1) := by decide +kernel
theorem dX12_sumOf_7 : decode cX12_sumOf 7 = .ok (.invokevirtual 283, 3) := by decide +kernel
theorem dX12_sumOf_10 : decode cX12_sumOf 10 = .ok (.istore 6, 2) := by decide +kernel
theorem dX12_sumOf_12 : decode cX12_sumOf 12 = .ok (.iload 6, 2) := by decide +kernel
theorem dX12_sumOf_14 : decode cX12_sumOf 14 = .ok (.aload_n 0, 1) := by decide +kernel
theorem dX12_sumOf_15 : decode cX12_sumOf 15 = .ok (.invokevirtual 286, 3) := by decide +kernel
theorem dX12_sumOf_18 : decode cX12_sumOf 18 = .ok (.if_icmp .ge 53, 3) := by decide +kernel
theorem dX12_sumOf_21 : decode cX12_sumOf 21 = .ok (.aload_n 0, 1) := by decide +kernel
theorem dX12_sumOf_22 : decode cX12_sumOf 22 = .ok (.getfield 56, 3) := by decide +kernel
theorem dX12_sumOf_25 : decode cX12_sumOf 25 = .ok (.iload 6, 2) := by decide +kernel
theorem dX12_sumOf_27 : decode cX12_sumOf 27 = .ok (.iaload, 1) := by decide +kernel
theorem dX12_sumOf_28 : decode cX12_sumOf 28 = .ok (.iload_n 1, 1) := by decide +kernel
theorem dX12_sumOf_29 : decode cX12_sumOf 29 = .ok (.if_icmp .eq 6, 3) := by decide +kernel
theorem dX12_sumOf_32 : decode cX12_sumOf 32 = .ok (.goto 33, 3) := by decide +kernel
theorem dX12_sumOf_35 : decode cX12_sumOf 35 = .ok (.iconst 1, 1) := by decide +kernel
theorem dX12_sumOf_36 : decode cX12_sumOf 36 = .ok (.istore 5, 2) := by decide +kernel
theorem dX12_sumOf_38 : decode cX12_sumOf 38 = .ok (.iload 4, 2) := by decide +kernel
theorem dX12_sumOf_40 : decode cX12_sumOf 40 = .ok (.aload_n 0, 1) := by decide +kernel
theorem dX12_sumOf_41 : decode cX12_sumOf 41 = .ok (.iload 6, 2) := by decide +kernel
theorem dX12_sumOf_43 : decode cX12_sumOf 43 = .ok (.iload_n 2, 1) := by decide +kernel
theorem dX12_sumOf_44 : decode cX12_sumOf 44 = .ok (.iload_n 3, 1) := by decide +kernel
theorem dX12_sumOf_45 : decode cX12_sumOf 45 = .ok (.invokevirtual 289, 3) := by decide +kernel
theorem dX12_sumOf_48 : decode cX12_sumOf 48 = .ok (.ifCond .eq 13, 3) := by decide +kernel
theorem dX12_sumOf_51 : decode cX12_sumOf 51 = .ok (.aload_n 0, 1) := by decide +kernel
theorem dX12_sumOf_52 : decode cX12_sumOf 52 = .ok (.getfield 59, 3) := by decide +kernel
theorem dX12_sumOf_55 : decode cX12_sumOf 55 = .ok (.iload 6, 2) := by decide +kernel
theorem dX12_sumOf_57 : decode cX12_sumOf 57 = .ok (.iaload, 1) := by decide +kernel
theorem dX12_sumOf_58 : decode cX12_sumOf 58 = .ok (.goto 4, 3) := by decide +kernel
theorem dX12_sumOf_61 : decode cX12_sumOf 61 = .ok (.iconst 0, 1) := by decide +kernel
theorem dX12_sumOf_62 : decode cX12_sumOf 62 = .ok (.iadd, 1) := by decide +kernel
theorem dX12_sumOf_63 : decode cX12_sumOf 63 = .ok (.istore 4, 2) := by decide +kernel
theorem dX12_sumOf_65 : decode cX12_sumOf 65 = .ok (.iinc 6 1, 3) := by decide +kernel
theorem dX12_sumOf_68 : decode cX12_sumOf 68 = .ok (.goto (-56), 3) := by decide +kernel
theorem dX12_sumOf_71 : decode cX12_sumOf 71 = .ok (.iload 5, 2) := by decide +kernel
theorem dX12_sumOf_73 : decode cX12_sumOf 73 = .ok (.ifCond .eq 8, 3) := by decide +kernel
theorem dX12_sumOf_76 : decode cX12_sumOf 76 = .ok (.iload 4, 2) := by decide +kernel
theorem dX12_sumOf_78 : decode cX12_sumOf 78 = .ok (.goto 4, 3) := by decide +kernel
theorem dX12_sumOf_81 : decode cX12_sumOf 81 = .ok (.iconst 1, 1) := by decide +kernel
theorem dX12_sumOf_82 : decode cX12_sumOf 82 = .ok (.ireturn, 1) := by decide +kernel
theorem dX12_priceOf_0 : decode cX12_priceOf 0 = .ok (.aload_n 0, 1) := by decide +kernel
theorem dX12_priceOf_1 : decode cX12_priceOf 1 = .ok (.aload_n 0, 1) := by decide +kernel
theorem dX12_priceOf_2 : decode cX12_priceOf 2 = .ok (.aload_n 0, 1) := by decide +kernel
theorem dX12_priceOf_3 : decode cX12_priceOf 3 = .ok (.getfield 26, 3) := by decide +kernel
theorem dX12_priceOf_6 : decode cX12_priceOf 6 = .ok (.iload_n 1, 1) := by decide +kernel
theorem dX12_priceOf_7 : decode cX12_priceOf 7 = .ok (.iaload, 1) := by decide +kernel
theorem dX12_priceOf_8 : decode cX12_priceOf 8 = .ok (.iload_n 2, 1) := by decide +kernel
theorem dX12_priceOf_9 : decode cX12_priceOf 9 = .ok (.invokevirtual 217, 3) := by decide +kernel
theorem dX12_priceOf_12 : decode cX12_priceOf 12 = .ok (.ifCond .eq 7, 3) := by decide +kernel
theorem dX12_priceOf_15 : decode cX12_priceOf 15 = .ok (.iconst 2, 1) := by decide +kernel
theorem dX12_priceOf_16 : decode cX12_priceOf 16 = .ok (.goto 4, 3) := by decide +kernel
theorem dX12_priceOf_19 : decode cX12_priceOf 19 = .ok (.iconst 1, 1) := by decide +kernel
theorem dX12_priceOf_20 : decode cX12_priceOf 20 = .ok (.iload_n 1, 1) := by decide +kernel
theorem dX12_priceOf_21 : decode cX12_priceOf 21 = .ok (.iload_n 2, 1) := by decide +kernel
theorem dX12_priceOf_22 : decode cX12_priceOf 22 = .ok (.invokevirtual 292, 3) := by decide +kernel
theorem dX12_priceOf_25 : decode cX12_priceOf 25 = .ok (.ireturn, 1) := by decide +kernel
theorem dX12_isAlls_0 : decode cX12_isAlls 0 = .ok (.iconst 0, 1) := by decide +kernel
theorem dX12_isAlls_1 : decode cX12_isAlls 1 = .ok (.istore_n 2, 1) := by decide +kernel
theorem dX12_isAlls_2 : decode cX12_isAlls 2 = .ok (.iload_n 2, 1) := by decide +kernel
theorem dX12_isAlls_3 : decode cX12_isAlls 3 = .ok (.aload_n 0, 1) := by decide +kernel
theorem dX12_isAlls_4 : decode cX12_isAlls 4 = .ok (.getfield 7, 3) := by decide +kernel
theorem dX12_isAlls_7 : decode cX12_isAlls 7 = .ok (.if_icmp .ge 38, 3) := by decide +kernel
theorem dX12_isAlls_10 : decode cX12_isAlls 10 = .ok (.iload_n 2, 1) := by decide +kernel
theorem dX12_isAlls_11 : decode cX12_isAlls 11 = .ok (.iload_n 1, 1) := by decide +kernel
theorem dX12_isAlls_12 : decode cX12_isAlls 12 = .ok (.if_icmp .eq 27, 3) := by decide +kernel
theorem dX12_isAlls_15 : decode cX12_isAlls 15 = .ok (.iload_n 2, 1) := by decide +kernel
theorem dX12_isAlls_16 : decode cX12_isAlls 16 = .ok (.aload_n 0, 1) := by decide +kernel
theorem dX12_isAlls_17 : decode cX12_isAlls 17 = .ok (.getfield 16, 3) := by decide +kernel
theorem dX12_isAlls_20 : decode cX12_isAlls 20 = .ok (.if_icmp .eq 19, 3) := by decide +kernel
theorem dX12_isAlls_23 : decode cX12_isAlls 23 = .ok (.aload_n 0, 1) := by decide +kernel
theorem dX12_isAlls_24 : decode cX12_isAlls 24 = .ok (.aload_n 0, 1) := by decide +kernel
theorem dX12_isAlls_25 : decode cX12_isAlls 25 = .ok (.getfield 26, 3) := by decide +kernel
theorem dX12_isAlls_28 : decode cX12_isAlls 28 = .ok (.iload_n 1, 1) := by decide +kernel
theorem dX12_isAlls_29 : decode cX12_isAlls 29 = .ok (.iaload, 1) := by decide +kernel
theorem dX12_isAlls_30 : decode cX12_isAlls 30 = .ok (.iload_n 2, 1) := by decide +kernel
theorem dX12_isAlls_31 : decode cX12_isAlls 31 = .ok (.invokevirtual 217, 3) := by decide +kernel
theorem dX12_isAlls_34 : decode cX12_isAlls 34 = .ok (.ifCond .ne 5, 3) := by decide +kernel
theorem dX12_isAlls_37 : decode cX12_isAlls 37 = .ok (.iconst 0, 1) := by decide +kernel
theorem dX12_isAlls_38 : decode cX12_isAlls 38 = .ok (.ireturn, 1) := by decide +kernel
theorem dX12_isAlls_39 : decode cX12_isAlls 39 = .ok (.iinc 2 1, 3) := by decide +kernel
theorem dX12_isAlls_42 : decode cX12_isAlls 42 = .ok (.goto (-40), 3) := by decide +kernel
theorem dX12_isAlls_45 : decode cX12_isAlls 45 = .ok (.iconst 1, 1) := by decide +kernel
theorem dX12_isAlls_46 : decode cX12_isAlls 46 = .ok (.ireturn, 1) := by decide +kernel
theorem dX12_counts_0 : decode cX12_counts 0 = .ok (.aload_n 0, 1) := by decide +kernel
theorem dX12_counts_1 : decode cX12_counts 1 = .ok (.aload_n 0, 1) := by decide +kernel
theorem dX12_counts_2 : decode cX12_counts 2 = .ok (.getfield 26, 3) := by decide +kernel
theorem dX12_counts_5 : decode cX12_counts 5 = .ok (.iload_n 2, 1) := by decide +kernel
theorem dX12_counts_6 : decode cX12_counts 6 = .ok (.iaload, 1) := by decide +kernel
theorem dX12_counts_7 : decode cX12_counts 7 = .ok (.iload_n 3, 1) := by decide +kernel
theorem dX12_counts_8 : decode cX12_counts 8 = .ok (.invokevirtual 217, 3) := by decide +kernel
theorem dX12_counts_11 : decode cX12_counts 11 = .ok (.ifCond .eq 7, 3) := by decide +kernel
theorem dX12_counts_14 : decode cX12_counts 14 = .ok (.iconst 0, 1) := by decide +kernel
theorem dX12_counts_15 : decode cX12_counts 15 = .ok (.goto 4, 3) := by decide +kernel
theorem dX12_counts_18 : decode cX12_counts 18 = .ok (.iconst 1, 1) := by decide +kernel
theorem dX12_counts_19 : decode cX12_counts 19 = .ok (.istore 4, 2) := by decide +kernel
theorem dX12_counts_21 : decode cX12_counts 21 = .ok (.aload_n 0, 1) := by decide +kernel
theorem dX12_counts_22 : decode cX12_counts 22 = .ok (.getfield 19, 3) := by decide +kernel
theorem dX12_counts_25 : decode cX12_counts 25 = .ok (.iload_n 1, 1) := by decide +kernel
theorem dX12_counts_26 : decode cX12_counts 26 = .ok (.iaload, 1) := by decide +kernel
theorem dX12_counts_27 : decode cX12_counts 27 = .ok (.tableswitch 128 1 6 #[37, 48, 51, 73, 96, 112], 37) := by decide +kernel
theorem dX12_counts_64 : decode cX12_counts 64 = .ok (.iconst 1, 1) := by decide +kernel
theorem dX12_counts_65 : decode cX12_counts 65 = .ok (.aload_n 0, 1) := by decide +kernel
theorem dX12_counts_66 : decode cX12_counts 66 = .ok (.getfield 23, 3) := by decide +kernel
theorem dX12_counts_69 : decode cX12_counts 69 = .ok (.iload_n 1, 1) := by decide +kernel
theorem dX12_counts_70 : decode cX12_counts 70 = .ok (.iaload, 1) := by decide +kernel
theorem dX12_counts_71 : decode cX12_counts 71 = .ok (.iconst 2, 1) := by decide +kernel
theorem dX12_counts_72 : decode cX12_counts 72 = .ok (.irem, 1) := by decide +kernel
theorem dX12_counts_73 : decode cX12_counts 73 = .ok (.iadd, 1) := by decide +kernel
theorem dX12_counts_74 : decode cX12_counts 74 = .ok (.ireturn, 1) := by decide +kernel
theorem dX12_counts_75 : decode cX12_counts 75 = .ok (.iload 4, 2) := by decide +kernel
theorem dX12_counts_77 : decode cX12_counts 77 = .ok (.ireturn, 1) := by decide +kernel
theorem dX12_counts_78 : decode cX12_counts 78 = .ok (.aload_n 0, 1) := by decide +kernel
theorem dX12_counts_79 : decode cX12_counts 79 = .ok (.getfield 13, 3) := by decide +kernel
theorem dX12_counts_82 : decode cX12_counts 82 = .ok (.aload_n 0, 1) := by decide +kernel
theorem dX12_counts_83 : decode cX12_counts 83 = .ok (.getfield 23, 3) := by decide +kernel
theorem dX12_counts_86 : decode cX12_counts 86 = .ok (.iload_n 1, 1) := by decide +kernel
theorem dX12_counts_87 : decode cX12_counts 87 = .ok (.iaload, 1) := by decide +kernel
theorem dX12_counts_88 : decode cX12_counts 88 = .ok (.iconst 2, 1) := by decide +kernel
theorem dX12_counts_89 : decode cX12_counts 89 = .ok (.iadd, 1) := by decide +kernel
theorem dX12_counts_90 : decode cX12_counts 90 = .ok (.irem, 1) := by decide +kernel
theorem dX12_counts_91 : decode cX12_counts 91 = .ok (.ifCond .ne 7, 3) := by decide +kernel
theorem dX12_counts_94 : decode cX12_counts 94 = .ok (.iconst 0, 1) := by decide +kernel
theorem dX12_counts_95 : decode cX12_counts 95 = .ok (.goto 4, 3) := by decide +kernel
theorem dX12_counts_98 : decode cX12_counts 98 = .ok (.iconst 1, 1) := by decide +kernel
theorem dX12_counts_99 : decode cX12_counts 99 = .ok (.ireturn, 1) := by decide +kernel
theorem dX12_counts_100 : decode cX12_counts 100 = .ok (.aload_n 0, 1) := by decide +kernel
theorem dX12_counts_101 : decode cX12_counts 101 = .ok (.iload_n 1, 1) := by decide +kernel
theorem dX12_counts_102 : decode cX12_counts 102 = .ok (.invokevirtual 295, 3) := by decide +kernel
theorem dX12_counts_105 : decode cX12_counts 105 = .ok (.ifCond .eq 16, 3) := by decide +kernel
theorem dX12_counts_108 : decode cX12_counts 108 = .ok (.iconst 1, 1) := by decide +kernel
theorem dX12_counts_109 : decode cX12_counts 109 = .ok (.aload_n 0, 1) := by decide +kernel
theorem dX12_counts_110 : decode cX12_counts 110 = .ok (.getfield 23, 3) := by decide +kernel
theorem dX12_counts_113 : decode cX12_counts 113 = .ok (.iload_n 1, 1) := by decide +kernel
theorem dX12_counts_114 : decode cX12_counts 114 = .ok (.iaload, 1) := by decide +kernel
theorem dX12_counts_115 : decode cX12_counts 115 = .ok (.iconst 2, 1) := by decide +kernel
theorem dX12_counts_116 : decode cX12_counts 116 = .ok (.irem, 1) := by decide +kernel
theorem dX12_counts_117 : decode cX12_counts 117 = .ok (.iadd, 1) := by decide +kernel
theorem dX12_counts_118 : decode cX12_counts 118 = .ok (.goto 4, 3) := by decide +kernel
theorem dX12_counts_121 : decode cX12_counts 121 = .ok (.iconst 0, 1) := by decide +kernel
theorem dX12_counts_122 : decode cX12_counts 122 = .ok (.ireturn, 1) := by decide +kernel
theorem dX12_counts_123 : decode cX12_counts 123 = .ok (.aload_n 0, 1) := by decide +kernel
theorem dX12_counts_124 : decode cX12_counts 124 = .ok (.iload_n 1, 1) := by decide +kernel
theorem dX12_counts_125 : decode cX12_counts 125 = .ok (.invokevirtual 276, 3) := by decide +kernel
theorem dX12_counts_128 : decode cX12_counts 128 = .ok (.iconst 3, 1) := by decide +kernel
theorem dX12_counts_129 : decode cX12_counts 129 = .ok (.if_icmp .le 7, 3) := by decide +kernel
theorem dX12_counts_132 : decode cX12_counts 132 = .ok (.iconst 0, 1) := by decide +kernel
theorem dX12_counts_133 : decode cX12_counts 133 = .ok (.goto 5, 3) := by decide +kernel
theorem dX12_counts_136 : decode cX12_counts 136 = .ok (.iload 4, 2) := by decide +kernel
theorem dX12_counts_138 : decode cX12_counts 138 = .ok (.ireturn, 1) := by decide +kernel
theorem dX12_counts_139 : decode cX12_counts 139 = .ok (.aload_n 0, 1) := by decide +kernel
theorem dX12_counts_140 : decode cX12_counts 140 = .ok (.getfield 29, 3) := by decide +kernel
theorem dX12_counts_143 : decode cX12_counts 143 = .ok (.iconst 4, 1) := by decide +kernel
theorem dX12_counts_144 : decode cX12_counts 144 = .ok (.iload_n 1, 1) := by decide +kernel
theorem dX12_counts_145 : decode cX12_counts 145 = .ok (.imul, 1) := by decide +kernel
theorem dX12_counts_146 : decode cX12_counts 146 = .ok (.aload_n 0, 1) := by decide +kernel
theorem dX12_counts_147 : decode cX12_counts 147 = .ok (.getfield 13, 3) := by decide +kernel
theorem dX12_counts_150 : decode cX12_counts 150 = .ok (.iconst 4, 1) := by decide +kernel
theorem dX12_counts_151 : decode cX12_counts 151 = .ok (.irem, 1) := by decide +kernel
theorem dX12_counts_152 : decode cX12_counts 152 = .ok (.iadd, 1) := by decide +kernel
theorem dX12_counts_153 : decode cX12_counts 153 = .ok (.iaload, 1) := by decide +kernel
theorem dX12_counts_154 : decode cX12_counts 154 = .ok (.ireturn, 1) := by decide +kernel
theorem dX12_counts_155 : decode cX12_counts 155 = .ok (.iconst 1, 1) := by decide +kernel
theorem dX12_counts_156 : decode cX12_counts 156 = .ok (.ireturn, 1) := by decide +kernel
theorem dX12_commonOf_0 : decode cX12_commonOf 0 = .ok (.iconst 0, 1) := by decide +kernel
theorem dX12_commonOf_1 : decode cX12_commonOf 1 = .ok (.istore_n 3, 1) := by decide +kernel
theorem dX12_commonOf_2 : decode cX12_commonOf 2 = .ok (.iconst 0, 1) := by decide +kernel
theorem dX12_commonOf_3 : decode cX12_commonOf 3 = .ok (.istore 4, 2) := by decide +kernel
theorem dX12_commonOf_5 : decode cX12_commonOf 5 = .ok (.iload 4, 2) := by decide +kernel
theorem dX12_commonOf_7 : decode cX12_commonOf 7 = .ok (.aload_n 0, 1) := by decide +kernel
theorem dX12_commonOf_8 : decode cX12_commonOf 8 = .ok (.getfield 7, 3) := by decide +kernel
theorem dX12_commonOf_11 : decode cX12_commonOf 11 = .ok (.if_icmp .ge 63, 3) := by decide +kernel
theorem dX12_commonOf_14 : decode cX12_commonOf 14 = .ok (.iload_n 3, 1) := by decide +kernel
theorem dX12_commonOf_15 : decode cX12_commonOf 15 = .ok (.iload 4, 2) := by decide +kernel
theorem dX12_commonOf_17 : decode cX12_commonOf 17 = .ok (.aload_n 0, 1) := by decide +kernel
theorem dX12_commonOf_18 : decode cX12_commonOf 18 = .ok (.getfield 16, 3) := by decide +kernel
theorem dX12_commonOf_21 : decode cX12_commonOf 21 = .ok (.if_icmp .eq 44, 3) := by decide +kernel
theorem dX12_commonOf_24 : decode cX12_commonOf 24 = .ok (.aload_n 0, 1) := by decide +kernel
theorem dX12_commonOf_25 : decode cX12_commonOf 25 = .ok (.aload_n 0, 1) := by decide +kernel
theorem dX12_commonOf_26 : decode cX12_commonOf 26 = .ok (.getfield 26, 3) := by decide +kernel
theorem dX12_commonOf_29 : decode cX12_commonOf 29 = .ok (.iload 4, 2) := by decide +kernel
theorem dX12_commonOf_31 : decode cX12_commonOf 31 = .ok (.iaload, 1) := by decide +kernel
theorem dX12_commonOf_32 : decode cX12_commonOf 32 = .ok (.iload_n 1, 1) := by decide +kernel
theorem dX12_commonOf_33 : decode cX12_commonOf 33 = .ok (.invokevirtual 217, 3) := by decide +kernel
theorem dX12_commonOf_36 : decode cX12_commonOf 36 = .ok (.ifCond .eq 29, 3) := by decide +kernel
theorem dX12_commonOf_39 : decode cX12_commonOf 39 = .ok (.aload_n 0, 1) := by decide +kernel
theorem dX12_commonOf_40 : decode cX12_commonOf 40 = .ok (.aload_n 0, 1) := by decide +kernel
theorem dX12_commonOf_41 : decode cX12_commonOf 41 = .ok (.getfield 26, 3) := by decide +kernel
theorem dX12_commonOf_44 : decode cX12_commonOf 44 = .ok (.iload 4, 2) := by decide +kernel
theorem dX12_commonOf_46 : decode cX12_commonOf 46 = .ok (.iaload, 1) := by decide +kernel
theorem dX12_commonOf_47 : decode cX12_commonOf 47 = .ok (.iload_n 2, 1) := by decide +kernel
theorem dX12_commonOf_48 : decode cX12_commonOf 48 = .ok (.invokevirtual 217, 3) := by decide +kernel
theorem dX12_commonOf_51 : decode cX12_commonOf 51 = .ok (.ifCond .eq 14, 3) := by decide +kernel
theorem dX12_commonOf_54 : decode cX12_commonOf 54 = .ok (.aload_n 0, 1) := by decide +kernel
theorem dX12_commonOf_55 : decode cX12_commonOf 55 = .ok (.iload 4, 2) := by decide +kernel
theorem dX12_commonOf_57 : decode cX12_commonOf 57 = .ok (.iload_n 1, 1) := by decide +kernel
theorem dX12_commonOf_58 : decode cX12_commonOf 58 = .ok (.iload_n 2, 1) := by decide +kernel
theorem dX12_commonOf_59 : decode cX12_commonOf 59 = .ok (.invokevirtual 298, 3) := by decide +kernel
theorem dX12_commonOf_62 : decode cX12_commonOf 62 = .ok (.goto 4, 3) := by decide +kernel
theorem dX12_commonOf_65 : decode cX12_commonOf 65 = .ok (.iconst 0, 1) := by decide +kernel
theorem dX12_commonOf_66 : decode cX12_commonOf 66 = .ok (.iadd, 1) := by decide +kernel
theorem dX12_commonOf_67 : decode cX12_commonOf 67 = .ok (.istore_n 3, 1) := by decide +kernel
theorem dX12_commonOf_68 : decode cX12_commonOf 68 = .ok (.iinc 4 1, 3) := by decide +kernel
theorem dX12_commonOf_71 : decode cX12_commonOf 71 = .ok (.goto (-66), 3) := by decide +kernel
theorem dX12_commonOf_74 : decode cX12_commonOf 74 = .ok (.iload_n 3, 1) := by decide +kernel
theorem dX12_commonOf_75 : decode cX12_commonOf 75 = .ok (.ireturn, 1) := by decide +kernel
theorem dX12_offOf_0 : decode cX12_offOf 0 = .ok (.aload_n 0, 1) := by decide +kernel
theorem dX12_offOf_1 : decode cX12_offOf 1 = .ok (.iload_n 1, 1) := by decide +kernel
theorem dX12_offOf_2 : decode cX12_offOf 2 = .ok (.iload_n 2, 1) := by decide +kernel
theorem dX12_offOf_3 : decode cX12_offOf 3 = .ok (.invokevirtual 301, 3) := by decide +kernel
theorem dX12_offOf_6 : decode cX12_offOf 6 = .ok (.aload_n 0, 1) := by decide +kernel
theorem dX12_offOf_7 : decode cX12_offOf 7 = .ok (.iconst 0, 1) := by decide +kernel
theorem dX12_offOf_8 : decode cX12_offOf 8 = .ok (.iload_n 1, 1) := by decide +kernel
theorem dX12_offOf_9 : decode cX12_offOf 9 = .ok (.iload_n 2, 1) := by decide +kernel
theorem dX12_offOf_10 : decode cX12_offOf 10 = .ok (.invokevirtual 292, 3) := by decide +kernel
theorem dX12_offOf_13 : decode cX12_offOf 13 = .ok (.isub, 1) := by decide +kernel
theorem dX12_offOf_14 : decode cX12_offOf 14 = .ok (.istore_n 3, 1) := by decide +kernel
theorem dX12_offOf_15 : decode cX12_offOf 15 = .ok (.iload_n 3, 1) := by decide +kernel
theorem dX12_offOf_16 : decode cX12_offOf 16 = .ok (.ifCond .ge 8, 3) := by decide +kernel
theorem dX12_offOf_19 : decode cX12_offOf 19 = .ok (.iload_n 3, 1) := by decide +kernel
theorem dX12_offOf_20 : decode cX12_offOf 20 = .ok (.ineg, 1) := by decide +kernel
theorem dX12_offOf_21 : decode cX12_offOf 21 = .ok (.goto 4, 3) := by decide +kernel
theorem dX12_offOf_24 : decode cX12_offOf 24 = .ok (.iload_n 3, 1) := by decide +kernel
theorem dX12_offOf_25 : decode cX12_offOf 25 = .ok (.ireturn, 1) := by decide +kernel
theorem dX12_layAmiss_0 : decode cX12_layAmiss 0 = .ok (.aload_n 0, 1) := by decide +kernel
theorem dX12_layAmiss_1 : decode cX12_layAmiss 1 = .ok (.iconst 0, 1) := by decide +kernel
theorem dX12_layAmiss_2 : decode cX12_layAmiss 2 = .ok (.putfield 90, 3) := by decide +kernel
theorem dX12_layAmiss_5 : decode cX12_layAmiss 5 = .ok (.aload_n 0, 1) := by decide +kernel
theorem dX12_layAmiss_6 : decode cX12_layAmiss 6 = .ok (.iconst 0, 1) := by decide +kernel
theorem dX12_layAmiss_7 : decode cX12_layAmiss 7 = .ok (.putfield 93, 3) := by decide +kernel
theorem dX12_layAmiss_10 : decode cX12_layAmiss 10 = .ok (.iconst 0, 1) := by decide +kernel
theorem dX12_layAmiss_11 : decode cX12_layAmiss 11 = .ok (.istore_n 1, 1) := by decide +kernel
theorem dX12_layAmiss_12 : decode cX12_layAmiss 12 = .ok (.iconst 0, 1) := by decide +kernel
theorem dX12_layAmiss_13 : decode cX12_layAmiss 13 = .ok (.istore_n 2, 1) := by decide +kernel
theorem dX12_layAmiss_14 : decode cX12_layAmiss 14 = .ok (.iload_n 2, 1) := by decide +kernel
theorem dX12_layAmiss_15 : decode cX12_layAmiss 15 = .ok (.bipush 7, 2) := by decide +kernel
theorem dX12_layAmiss_17 : decode cX12_layAmiss 17 = .ok (.if_icmp .ge 16, 3) := by decide +kernel
theorem dX12_layAmiss_20 : decode cX12_layAmiss 20 = .ok (.aload_n 0, 1) := by decide +kernel
theorem dX12_layAmiss_21 : decode cX12_layAmiss 21 = .ok (.getfield 96, 3) := by decide +kernel
theorem dX12_layAmiss_24 : decode cX12_layAmiss 24 = .ok (.iload_n 2, 1) := by decide +kernel
theorem dX12_layAmiss_25 : decode cX12_layAmiss 25 = .ok (.iconst 0, 1) := by decide +kernel
theorem dX12_layAmiss_26 : decode cX12_layAmiss 26 = .ok (.iastore, 1) := by decide +kernel
theorem dX12_layAmiss_27 : decode cX12_layAmiss 27 = .ok (.iinc 2 1, 3) := by decide +kernel
theorem dX12_layAmiss_30 : decode cX12_layAmiss 30 = .ok (.goto (-16), 3) := by decide +kernel
theorem dX12_layAmiss_33 : decode cX12_layAmiss 33 = .ok (.iconst 1, 1) := by decide +kernel
theorem dX12_layAmiss_34 : decode cX12_layAmiss 34 = .ok (.istore_n 2, 1) := by decide +kernel
theorem dX12_layAmiss_35 : decode cX12_layAmiss 35 = .ok (.iload_n 2, 1) := by decide +kernel
theorem dX12_layAmiss_36 : decode cX12_layAmiss 36 = .ok (.aload_n 0, 1) := by decide +kernel
theorem dX12_layAmiss_37 : decode cX12_layAmiss 37 = .ok (.getfield 7, 3) := by decide +kernel
theorem dX12_layAmiss_40 : decode cX12_layAmiss 40 = .ok (.if_icmp .ge 108, 3) := by decide +kernel
theorem dX12_layAmiss_43 : decode cX12_layAmiss 43 = .ok (.iconst 0, 1) := by decide +kernel
theorem dX12_layAmiss_44 : decode cX12_layAmiss 44 = .ok (.istore_n 3, 1) := by decide +kernel
theorem dX12_layAmiss_45 : decode cX12_layAmiss 45 = .ok (.iload_n 3, 1) := by decide +kernel
theorem dX12_layAmiss_46 : decode cX12_layAmiss 46 = .ok (.iload_n 2, 1) := by decide +kernel
theorem dX12_layAmiss_47 : decode cX12_layAmiss 47 = .ok (.if_icmp .ge 95, 3) := by decide +kernel
theorem dX12_layAmiss_50 : decode cX12_layAmiss 50 = .ok (.iload_n 3, 1) := by decide +kernel
theorem dX12_layAmiss_51 : decode cX12_layAmiss 51 = .ok (.aload_n 0, 1) := by decide +kernel
theorem dX12_layAmiss_52 : decode cX12_layAmiss 52 = .ok (.getfield 16, 3) := by decide +kernel
theorem dX12_layAmiss_55 : decode cX12_layAmiss 55 = .ok (.if_icmp .eq 81, 3) := by decide +kernel
theorem dX12_layAmiss_58 : decode cX12_layAmiss 58 = .ok (.iload_n 2, 1) := by decide +kernel
theorem dX12_layAmiss_59 : decode cX12_layAmiss 59 = .ok (.aload_n 0, 1) := by decide +kernel
theorem dX12_layAmiss_60 : decode cX12_layAmiss 60 = .ok (.getfield 16, 3) := by decide +kernel
theorem dX12_layAmiss_63 : decode cX12_layAmiss 63 = .ok (.if_icmp .ne 6, 3) := by decide +kernel
theorem dX12_layAmiss_66 : decode cX12_layAmiss 66 = .ok (.goto 70, 3) := by decide +kernel
theorem dX12_layAmiss_69 : decode cX12_layAmiss 69 = .ok (.aload_n 0, 1) := by decide +kernel
theorem dX12_layAmiss_70 : decode cX12_layAmiss 70 = .ok (.iload_n 3, 1) := by decide +kernel
theorem dX12_layAmiss_71 : decode cX12_layAmiss 71 = .ok (.iload_n 2, 1) := by decide +kernel
theorem dX12_layAmiss_72 : decode cX12_layAmiss 72 = .ok (.invokevirtual 304, 3) := by decide +kernel
theorem dX12_layAmiss_75 : decode cX12_layAmiss 75 = .ok (.istore 4, 2) := by decide +kernel
theorem dX12_layAmiss_77 : decode cX12_layAmiss 77 = .ok (.iload 4, 2) := by decide +kernel
theorem dX12_layAmiss_79 : decode cX12_layAmiss 79 = .ok (.ifCond .ne 6, 3) := by decide +kernel
theorem dX12_layAmiss_82 : decode cX12_layAmiss 82 = .ok (.goto 54, 3) := by decide +kernel
theorem dX12_layAmiss_85 : decode cX12_layAmiss 85 = .ok (.aload_n 0, 1) := by decide +kernel
theorem dX12_layAmiss_86 : decode cX12_layAmiss 86 = .ok (.dup, 1) := by decide +kernel
theorem dX12_layAmiss_87 : decode cX12_layAmiss 87 = .ok (.getfield 90, 3) := by decide +kernel
theorem dX12_layAmiss_90 : decode cX12_layAmiss 90 = .ok (.iconst 1, 1) := by decide +kernel
theorem dX12_layAmiss_91 : decode cX12_layAmiss 91 = .ok (.aload_n 0, 1) := by decide +kernel
theorem dX12_layAmiss_92 : decode cX12_layAmiss 92 = .ok (.iload_n 3, 1) := by decide +kernel
theorem dX12_layAmiss_93 : decode cX12_layAmiss 93 = .ok (.iload_n 2, 1) := by decide +kernel
theorem dX12_layAmiss_94 : decode cX12_layAmiss 94 = .ok (.invokevirtual 225, 3) := by decide +kernel
theorem dX12_layAmiss_97 : decode cX12_layAmiss 97 = .ok (.ishl, 1) := by decide +kernel
theorem dX12_layAmiss_98 : decode cX12_layAmiss 98 = .ok (.ior, 1) := by decide +kernel
theorem dX12_layAmiss_99 : decode cX12_layAmiss 99 = .ok (.putfield 90, 3) := by decide +kernel
theorem dX12_layAmiss_102 : decode cX12_layAmiss 102 = .ok (.aload_n 0, 1) := by decide +kernel
theorem dX12_layAmiss_103 : decode cX12_layAmiss 103 = .ok (.dup, 1) := by decide +kernel
theorem dX12_layAmiss_104 : decode cX12_layAmiss 104 = .ok (.getfield 93, 3) := by decide +kernel
theorem dX12_layAmiss_107 : decode cX12_layAmiss 107 = .ok (.iload 4, 2) := by decide +kernel
theorem dX12_layAmiss_109 : decode cX12_layAmiss 109 = .ok (.iadd, 1) := by decide +kernel
theorem dX12_layAmiss_110 : decode cX12_layAmiss 110 = .ok (.putfield 93, 3) := by decide +kernel
theorem dX12_layAmiss_113 : decode cX12_layAmiss 113 = .ok (.aload_n 0, 1) := by decide +kernel
theorem dX12_layAmiss_114 : decode cX12_layAmiss 114 = .ok (.getfield 96, 3) := by decide +kernel
theorem dX12_layAmiss_117 : decode cX12_layAmiss 117 = .ok (.iload_n 3, 1) := by decide +kernel
theorem dX12_layAmiss_118 : decode cX12_layAmiss 118 = .ok (.dup2, 1) := by decide +kernel
theorem dX12_layAmiss_119 : decode cX12_layAmiss 119 = .ok (.iaload, 1) := by decide +kernel
theorem dX12_layAmiss_120 : decode cX12_layAmiss 120 = .ok (.iconst 1, 1) := by decide +kernel
theorem dX12_layAmiss_121 : decode cX12_layAmiss 121 = .ok (.iadd, 1) := by decide +kernel
theorem dX12_layAmiss_122 : decode cX12_layAmiss 122 = .ok (.iastore, 1) := by decide +kernel
theorem dX12_layAmiss_123 : decode cX12_layAmiss 123 = .ok (.aload_n 0, 1) := by decide +kernel
theorem dX12_layAmiss_124 : decode cX12_layAmiss 124 = .ok (.getfield 96, 3) := by decide +kernel
theorem dX12_layAmiss_127 : decode cX12_layAmiss 127 = .ok (.iload_n 2, 1) := by decide +kernel
theorem dX12_layAmiss_128 : decode cX12_layAmiss 128 = .ok (.dup2, 1) := by decide +kernel
theorem dX12_layAmiss_129 : decode cX12_layAmiss 129 = .ok (.iaload, 1) := by decide +kernel
theorem dX12_layAmiss_130 : decode cX12_layAmiss 130 = .ok (.iconst 1, 1) := by decide +kernel
theorem dX12_layAmiss_131 : decode cX12_layAmiss 131 = .ok (.iadd, 1) := by decide +kernel
theorem dX12_layAmiss_132 : decode cX12_layAmiss 132 = .ok (.iastore, 1) := by decide +kernel
theorem dX12_layAmiss_133 : decode cX12_layAmiss 133 = .ok (.iinc 1 1, 3) := by decide +kernel
theorem dX12_layAmiss_136 : decode cX12_layAmiss 136 = .ok (.iinc 3 1, 3) := by decide +kernel
theorem dX12_layAmiss_139 : decode cX12_layAmiss 139 = .ok (.goto (-94), 3) := by decide +kernel
theorem dX12_layAmiss_142 : decode cX12_layAmiss 142 = .ok (.iinc 2 1, 3) := by decide +kernel
theorem dX12_layAmiss_145 : decode cX12_layAmiss 145 = .ok (.goto (-110), 3) := by decide +kernel
theorem dX12_layAmiss_148 : decode cX12_layAmiss 148 = .ok (.iload_n 1, 1) := by decide +kernel
theorem dX12_layAmiss_149 : decode cX12_layAmiss 149 = .ok (.ireturn, 1) := by decide +kernel
theorem dX12_of_0 : decode cX12_of 0 = .ok (.aload_n 0, 1) := by decide +kernel
theorem dX12_of_1 : decode cX12_of 1 = .ok (.iload_n 1, 1) := by decide +kernel
theorem dX12_of_2 : decode cX12_of 2 = .ok (.invokevirtual 213, 3) := by decide +kernel
theorem dX12_of_5 : decode cX12_of 5 = .ok (.ifCond .ne 5, 3) := by decide +kernel
theorem dX12_of_8 : decode cX12_of 8 = .ok (.iconst (-1), 1) := by decide +kernel
theorem dX12_of_9 : decode cX12_of 9 = .ok (.ireturn, 1) := by decide +kernel
theorem dX12_of_10 : decode cX12_of 10 = .ok (.aload_n 0, 1) := by decide +kernel
theorem dX12_of_11 : decode cX12_of 11 = .ok (.invokevirtual 307, 3) := by decide +kernel
theorem dX12_of_14 : decode cX12_of 14 = .ok (.istore_n 3, 1) := by decide +kernel
theorem dX12_of_15 : decode cX12_of 15 = .ok (.iload_n 2, 1) := by decide +kernel
theorem dX12_of_16 : decode cX12_of 16 = .ok (.tableswitch 71 0 4 #[36, 43, 50, 57, 64], 36) := by decide +kernel
theorem dX12_of_52 : decode cX12_of 52 = .ok (.aload_n 0, 1) := by decide +kernel
theorem dX12_of_53 : decode cX12_of 53 = .ok (.getfield 19, 3) := by decide +kernel
theorem dX12_of_56 : decode cX12_of 56 = .ok (.iload_n 1, 1) := by decide +kernel
theorem dX12_of_57 : decode cX12_of 57 = .ok (.iaload, 1) := by decide +kernel
theorem dX12_of_58 : decode cX12_of 58 = .ok (.ireturn, 1) := by decide +kernel
theorem dX12_of_59 : decode cX12_of 59 = .ok (.aload_n 0, 1) := by decide +kernel
theorem dX12_of_60 : decode cX12_of 60 = .ok (.getfield 23, 3) := by decide +kernel
theorem dX12_of_63 : decode cX12_of 63 = .ok (.iload_n 1, 1) := by decide +kernel
theorem dX12_of_64 : decode cX12_of 64 = .ok (.iaload, 1) := by decide +kernel
theorem dX12_of_65 : decode cX12_of 65 = .ok (.ireturn, 1) := by decide +kernel
theorem dX12_of_66 : decode cX12_of 66 = .ok (.aload_n 0, 1) := by decide +kernel
theorem dX12_of_67 : decode cX12_of 67 = .ok (.getfield 26, 3) := by decide +kernel
theorem dX12_of_70 : decode cX12_of 70 = .ok (.iload_n 1, 1) := by decide +kernel
theorem dX12_of_71 : decode cX12_of 71 = .ok (.iaload, 1) := by decide +kernel
theorem dX12_of_72 : decode cX12_of 72 = .ok (.ireturn, 1) := by decide +kernel
theorem dX12_of_73 : decode cX12_of 73 = .ok (.aload_n 0, 1) := by decide +kernel
theorem dX12_of_74 : decode cX12_of 74 = .ok (.getfield 96, 3) := by decide +kernel
theorem dX12_of_77 : decode cX12_of 77 = .ok (.iload_n 1, 1) := by decide +kernel
theorem dX12_of_78 : decode cX12_of 78 = .ok (.iaload, 1) := by decide +kernel
theorem dX12_of_79 : decode cX12_of 79 = .ok (.ireturn, 1) := by decide +kernel
theorem dX12_of_80 : decode cX12_of 80 = .ok (.aload_n 0, 1) := by decide +kernel
theorem dX12_of_81 : decode cX12_of 81 = .ok (.getfield 32, 3) := by decide +kernel
theorem dX12_of_84 : decode cX12_of 84 = .ok (.iload_n 1, 1) := by decide +kernel
theorem dX12_of_85 : decode cX12_of 85 = .ok (.iaload, 1) := by decide +kernel
theorem dX12_of_86 : decode cX12_of 86 = .ok (.ireturn, 1) := by decide +kernel
theorem dX12_of_87 : decode cX12_of 87 = .ok (.iconst (-1), 1) := by decide +kernel
theorem dX12_of_88 : decode cX12_of 88 = .ok (.ireturn, 1) := by decide +kernel
theorem dX12_at_0 : decode cX12_at 0 = .ok (.aload_n 0, 1) := by decide +kernel
theorem dX12_at_1 : decode cX12_at 1 = .ok (.iload_n 1, 1) := by decide +kernel
theorem dX12_at_2 : decode cX12_at 2 = .ok (.invokevirtual 310, 3) := by decide +kernel
theorem dX12_at_5 : decode cX12_at 5 = .ok (.ifCond .ne 5, 3) := by decide +kernel
theorem dX12_at_8 : decode cX12_at 8 = .ok (.iconst (-1), 1) := by decide +kernel
theorem dX12_at_9 : decode cX12_at 9 = .ok (.ireturn, 1) := by decide +kernel
theorem dX12_at_10 : decode cX12_at 10 = .ok (.aload_n 0, 1) := by decide +kernel
theorem dX12_at_11 : decode cX12_at 11 = .ok (.iload_n 1, 1) := by decide +kernel
theorem dX12_at_12 : decode cX12_at 12 = .ok (.invokevirtual 313, 3) := by decide +kernel
theorem dX12_at_15 : decode cX12_at 15 = .ok (.istore_n 3, 1) := by decide +kernel
theorem dX12_at_16 : decode cX12_at 16 = .ok (.aload_n 0, 1) := by decide +kernel
theorem dX12_at_17 : decode cX12_at 17 = .ok (.iload_n 1, 1) := by decide +kernel
theorem dX12_at_18 : decode cX12_at 18 = .ok (.invokevirtual 205, 3) := by decide +kernel
theorem dX12_at_21 : decode cX12_at 21 = .ok (.istore 4, 2) := by decide +kernel
theorem dX12_at_23 : decode cX12_at 23 = .ok (.iload_n 2, 1) := by decide +kernel
theorem dX12_at_24 : decode cX12_at 24 = .ok (.tableswitch 82 0 5 #[40, 52, 60, 69, 77, 79], 40) := by decide +kernel
theorem dX12_at_64 : decode cX12_at 64 = .ok (.aload_n 0, 1) := by decide +kernel
theorem dX12_at_65 : decode cX12_at 65 = .ok (.getfield 26, 3) := by decide +kernel
theorem dX12_at_68 : decode cX12_at 68 = .ok (.iload_n 3, 1) := by decide +kernel
theorem dX12_at_69 : decode cX12_at 69 = .ok (.iaload, 1) := by decide +kernel
theorem dX12_at_70 : decode cX12_at 70 = .ok (.iload 4, 2) := by decide +kernel
theorem dX12_at_72 : decode cX12_at 72 = .ok (.ishr, 1) := by decide +kernel
theorem dX12_at_73 : decode cX12_at 73 = .ok (.iconst 1, 1) := by decide +kernel
theorem dX12_at_74 : decode cX12_at 74 = .ok (.iand, 1) := by decide +kernel
theorem dX12_at_75 : decode cX12_at 75 = .ok (.ireturn, 1) := by decide +kernel
theorem dX12_at_76 : decode cX12_at 76 = .ok (.aload_n 0, 1) := by decide +kernel
theorem dX12_at_77 : decode cX12_at 77 = .ok (.iload_n 3, 1) := by decide +kernel
theorem dX12_at_78 : decode cX12_at 78 = .ok (.iload 4, 2) := by decide +kernel
theorem dX12_at_80 : decode cX12_at 80 = .ok (.invokevirtual 301, 3) := by decide +kernel
theorem dX12_at_83 : decode cX12_at 83 = .ok (.ireturn, 1) := by decide +kernel
theorem dX12_at_84 : decode cX12_at 84 = .ok (.aload_n 0, 1) := by decide +kernel
theorem dX12_at_85 : decode cX12_at 85 = .ok (.iconst 0, 1) := by decide +kernel
theorem dX12_at_86 : decode cX12_at 86 = .ok (.iload_n 3, 1) := by decide +kernel
theorem dX12_at_87 : decode cX12_at 87 = .ok (.iload 4, 2) := by decide +kernel
theorem dX12_at_89 : decode cX12_at 89 = .ok (.invokevirtual 292, 3) := by decide +kernel
theorem dX12_at_92 : decode cX12_at 92 = .ok (.ireturn, 1) := by decide +kernel
theorem dX12_at_93 : decode cX12_at 93 = .ok (.aload_n 0, 1) := by decide +kernel
theorem dX12_at_94 : decode cX12_at 94 = .ok (.iload_n 3, 1) := by decide +kernel
theorem dX12_at_95 : decode cX12_at 95 = .ok (.iload 4, 2) := by decide +kernel
theorem dX12_at_97 : decode cX12_at 97 = .ok (.invokevirtual 316, 3) := by decide +kernel
theorem dX12_at_100 : decode cX12_at 100 = .ok (.ireturn, 1) := by decide +kernel
theorem dX12_at_101 : decode cX12_at 101 = .ok (.iload_n 3, 1) := by decide +kernel
theorem dX12_at_102 : decode cX12_at 102 = .ok (.ireturn, 1) := by decide +kernel
theorem dX12_at_103 : decode cX12_at 103 = .ok (.iload 4, 2) := by decide +kernel
theorem dX12_at_105 : decode cX12_at 105 = .ok (.ireturn, 1) := by decide +kernel
theorem dX12_at_106 : decode cX12_at 106 = .ok (.iconst (-1), 1) := by decide +kernel
theorem dX12_at_107 : decode cX12_at 107 = .ok (.ireturn, 1) := by decide +kernel
theorem dX12_friendships_0 : decode cX12_friendships 0 = .ok (.iconst 0, 1) := by decide +kernel
theorem dX12_friendships_1 : decode cX12_friendships 1 = .ok (.istore_n 1, 1) := by decide +kernel
theorem dX12_friendships_2 : decode cX12_friendships 2 = .ok (.iconst 0, 1) := by decide +kernel
theorem dX12_friendships_3 : decode cX12_friendships 3 = .ok (.istore_n 2, 1) := by decide +kernel
theorem dX12_friendships_4 : decode cX12_friendships 4 = .ok (.iload_n 2, 1) := by decide +kernel
theorem dX12_friendships_5 : decode cX12_friendships 5 = .ok (.aload_n 0, 1) := by decide +kernel
theorem dX12_friendships_6 : decode cX12_friendships 6 = .ok (.getfield 7, 3) := by decide +kernel
theorem dX12_friendships_9 : decode cX12_friendships 9 = .ok (.if_icmp .ge 22, 3) := by decide +kernel
theorem dX12_friendships_12 : decode cX12_friendships 12 = .ok (.iload_n 1, 1) := by decide +kernel
theorem dX12_friendships_13 : decode cX12_friendships 13 = .ok (.aload_n 0, 1) := by decide +kernel
theorem dX12_friendships_14 : decode cX12_friendships 14 = .ok (.aload_n 0, 1) := by decide +kernel
theorem dX12_friendships_15 : decode cX12_friendships 15 = .ok (.getfield 26, 3) := by decide +kernel
theorem dX12_friendships_18 : decode cX12_friendships 18 = .ok (.iload_n 2, 1) := by decide +kernel
theorem dX12_friendships_19 : decode cX12_friendships 19 = .ok (.iaload, 1) := by decide +kernel
theorem dX12_friendships_20 : decode cX12_friendships 20 = .ok (.invokevirtual 273, 3) := by decide +kernel
theorem dX12_friendships_23 : decode cX12_friendships 23 = .ok (.iadd, 1) := by decide +kernel
theorem dX12_friendships_24 : decode cX12_friendships 24 = .ok (.istore_n 1, 1) := by decide +kernel
theorem dX12_friendships_25 : decode cX12_friendships 25 = .ok (.iinc 2 1, 3) := by decide +kernel
theorem dX12_friendships_28 : decode cX12_friendships 28 = .ok (.goto (-24), 3) := by decide +kernel
theorem dX12_friendships_31 : decode cX12_friendships 31 = .ok (.iload_n 1, 1) := by decide +kernel
theorem dX12_friendships_32 : decode cX12_friendships 32 = .ok (.iconst 2, 1) := by decide +kernel
theorem dX12_friendships_33 : decode cX12_friendships 33 = .ok (.idiv, 1) := by decide +kernel
theorem dX12_friendships_34 : decode cX12_friendships 34 = .ok (.ireturn, 1) := by decide +kernel
theorem dX12_year_0 : decode cX12_year 0 = .ok (.aload_n 0, 1) := by decide +kernel
theorem dX12_year_1 : decode cX12_year 1 = .ok (.getfield 13, 3) := by decide +kernel
theorem dX12_year_4 : decode cX12_year 4 = .ok (.sipush 999, 3) := by decide +kernel
theorem dX12_year_7 : decode cX12_year 7 = .ok (.if_icmp .ne 6, 3) := by decide +kernel
theorem dX12_year_10 : decode cX12_year 10 = .ok (.bipush (-3), 2) := by decide +kernel
theorem dX12_year_12 : decode cX12_year 12 = .ok (.ireturn, 1) := by decide +kernel
theorem dX12_year_13 : decode cX12_year 13 = .ok (.aload_n 0, 1) := by decide +kernel
theorem dX12_year_14 : decode cX12_year 14 = .ok (.dup, 1) := by decide +kernel
theorem dX12_year_15 : decode cX12_year 15 = .ok (.getfield 13, 3) := by decide +kernel
theorem dX12_year_18 : decode cX12_year 18 = .ok (.iconst 1, 1) := by decide +kernel
theorem dX12_year_19 : decode cX12_year 19 = .ok (.iadd, 1) := by decide +kernel
theorem dX12_year_20 : decode cX12_year 20 = .ok (.putfield 13, 3) := by decide +kernel
theorem dX12_year_23 : decode cX12_year 23 = .ok (.aload_n 0, 1) := by decide +kernel
theorem dX12_year_24 : decode cX12_year 24 = .ok (.getfield 13, 3) := by decide +kernel
theorem dX12_year_27 : decode cX12_year 27 = .ok (.ireturn, 1) := by decide +kernel
theorem dX12_told_0 : decode cX12_told 0 = .ok (.iload_n 1, 1) := by decide +kernel
theorem dX12_told_1 : decode cX12_told 1 = .ok (.ifCond .ne 10, 3) := by decide +kernel
theorem dX12_told_4 : decode cX12_told 4 = .ok (.aload_n 0, 1) := by decide +kernel
theorem dX12_told_5 : decode cX12_told 5 = .ok (.getfield 13, 3) := by decide +kernel
theorem dX12_told_8 : decode cX12_told 8 = .ok (.goto 28, 3) := by decide +kernel
theorem dX12_told_11 : decode cX12_told 11 = .ok (.iload_n 1, 1) := by decide +kernel
theorem dX12_told_12 : decode cX12_told 12 = .ok (.iconst 1, 1) := by decide +kernel
theorem dX12_told_13 : decode cX12_told 13 = .ok (.if_icmp .ne 10, 3) := by decide +kernel
theorem dX12_told_16 : decode cX12_told 16 = .ok (.aload_n 0, 1) := by decide +kernel
theorem dX12_told_17 : decode cX12_told 17 = .ok (.invokevirtual 201, 3) := by decide +kernel
theorem dX12_told_20 : decode cX12_told 20 = .ok (.goto 16, 3) := by decide +kernel
theorem dX12_told_23 : decode cX12_told 23 = .ok (.iload_n 1, 1) := by decide +kernel
theorem dX12_told_24 : decode cX12_told 24 = .ok (.iconst 2, 1) := by decide +kernel
theorem dX12_told_25 : decode cX12_told 25 = .ok (.if_icmp .ne 10, 3) := by decide +kernel
theorem dX12_told_28 : decode cX12_told 28 = .ok (.aload_n 0, 1) := by decide +kernel
theorem dX12_told_29 : decode cX12_told 29 = .ok (.invokevirtual 319, 3) := by decide +kernel
theorem dX12_told_32 : decode cX12_told 32 = .ok (.goto 4, 3) := by decide +kernel
theorem dX12_told_35 : decode cX12_told 35 = .ok (.iconst (-1), 1) := by decide +kernel
theorem dX12_told_36 : decode cX12_told 36 = .ok (.ireturn, 1) := by decide +kernel
theorem dX12_amiss_0 : decode cX12_amiss 0 = .ok (.aload_n 0, 1) := by decide +kernel
theorem dX12_amiss_1 : decode cX12_amiss 1 = .ok (.invokevirtual 307, 3) := by decide +kernel
theorem dX12_amiss_4 : decode cX12_amiss 4 = .ok (.istore_n 2, 1) := by decide +kernel
theorem dX12_amiss_5 : decode cX12_amiss 5 = .ok (.iload_n 1, 1) := by decide +kernel
theorem dX12_amiss_6 : decode cX12_amiss 6 = .ok (.ifCond .ne 10, 3) := by decide +kernel
theorem dX12_amiss_9 : decode cX12_amiss 9 = .ok (.aload_n 0, 1) := by decide +kernel
theorem dX12_amiss_10 : decode cX12_amiss 10 = .ok (.getfield 90, 3) := by decide +kernel
theorem dX12_amiss_13 : decode cX12_amiss 13 = .ok (.goto 25, 3) := by decide +kernel
theorem dX12_amiss_16 : decode cX12_amiss 16 = .ok (.iload_n 1, 1) := by decide +kernel
theorem dX12_amiss_17 : decode cX12_amiss 17 = .ok (.iconst 1, 1) := by decide +kernel
theorem dX12_amiss_18 : decode cX12_amiss 18 = .ok (.if_icmp .ne 7, 3) := by decide +kernel
theorem dX12_amiss_21 : decode cX12_amiss 21 = .ok (.iload_n 2, 1) := by decide +kernel
theorem dX12_amiss_22 : decode cX12_amiss 22 = .ok (.goto 16, 3) := by decide +kernel
theorem dX12_amiss_25 : decode cX12_amiss 25 = .ok (.iload_n 1, 1) := by decide +kernel
theorem dX12_amiss_26 : decode cX12_amiss 26 = .ok (.iconst 2, 1) := by decide +kernel
theorem dX12_amiss_27 : decode cX12_amiss 27 = .ok (.if_icmp .ne 10, 3) := by decide +kernel
theorem dX12_amiss_30 : decode cX12_amiss 30 = .ok (.aload_n 0, 1) := by decide +kernel
theorem dX12_amiss_31 : decode cX12_amiss 31 = .ok (.getfield 93, 3) := by decide +kernel
theorem dX12_amiss_34 : decode cX12_amiss 34 = .ok (.goto 4, 3) := by decide +kernel
theorem dX12_amiss_37 : decode cX12_amiss 37 = .ok (.iconst (-1), 1) := by decide +kernel
theorem dX12_amiss_38 : decode cX12_amiss 38 = .ok (.ireturn, 1) := by decide +kernel
theorem dX12_alls_0 : decode cX12_alls 0 = .ok (.iconst 0, 1) := by decide +kernel
theorem dX12_alls_1 : decode cX12_alls 1 = .ok (.istore_n 1, 1) := by decide +kernel
theorem dX12_alls_2 : decode cX12_alls 2 = .ok (.iconst 0, 1) := by decide +kernel
theorem dX12_alls_3 : decode cX12_alls 3 = .ok (.istore_n 2, 1) := by decide +kernel
theorem dX12_alls_4 : decode cX12_alls 4 = .ok (.iload_n 2, 1) := by decide +kernel
theorem dX12_alls_5 : decode cX12_alls 5 = .ok (.aload_n 0, 1) := by decide +kernel
theorem dX12_alls_6 : decode cX12_alls 6 = .ok (.getfield 7, 3) := by decide +kernel
theorem dX12_alls_9 : decode cX12_alls 9 = .ok (.if_icmp .ge 27, 3) := by decide +kernel
theorem dX12_alls_12 : decode cX12_alls 12 = .ok (.iload_n 1, 1) := by decide +kernel
theorem dX12_alls_13 : decode cX12_alls 13 = .ok (.aload_n 0, 1) := by decide +kernel
theorem dX12_alls_14 : decode cX12_alls 14 = .ok (.iload_n 2, 1) := by decide +kernel
theorem dX12_alls_15 : decode cX12_alls 15 = .ok (.invokevirtual 295, 3) := by decide +kernel
theorem dX12_alls_18 : decode cX12_alls 18 = .ok (.ifCond .eq 9, 3) := by decide +kernel
theorem dX12_alls_21 : decode cX12_alls 21 = .ok (.iconst 1, 1) := by decide +kernel
theorem dX12_alls_22 : decode cX12_alls 22 = .ok (.iload_n 2, 1) := by decide +kernel
theorem dX12_alls_23 : decode cX12_alls 23 = .ok (.ishl, 1) := by decide +kernel
theorem dX12_alls_24 : decode cX12_alls 24 = .ok (.goto 4, 3) := by decide +kernel
theorem dX12_alls_27 : decode cX12_alls 27 = .ok (.iconst 0, 1) := by decide +kernel
theorem dX12_alls_28 : decode cX12_alls 28 = .ok (.ior, 1) := by decide +kernel
theorem dX12_alls_29 : decode cX12_alls 29 = .ok (.istore_n 1, 1) := by decide +kernel
theorem dX12_alls_30 : decode cX12_alls 30 = .ok (.iinc 2 1, 3) := by decide +kernel
theorem dX12_alls_33 : decode cX12_alls 33 = .ok (.goto (-29), 3) := by decide +kernel
theorem dX12_alls_36 : decode cX12_alls 36 = .ok (.iload_n 1, 1) := by decide +kernel
theorem dX12_alls_37 : decode cX12_alls 37 = .ok (.ireturn, 1) := by decide +kernel
theorem dX12_turn_0 : decode cX12_turn 0 = .ok (.aload_n 0, 1) := by decide +kernel
theorem dX12_turn_1 : decode cX12_turn 1 = .ok (.aload_n 0, 1) := by decide +kernel
theorem dX12_turn_2 : decode cX12_turn 2 = .ok (.iload_n 1, 1) := by decide +kernel
theorem dX12_turn_3 : decode cX12_turn 3 = .ok (.invokevirtual 313, 3) := by decide +kernel
theorem dX12_turn_6 : decode cX12_turn 6 = .ok (.aload_n 0, 1) := by decide +kernel
theorem dX12_turn_7 : decode cX12_turn 7 = .ok (.iload_n 1, 1) := by decide +kernel
theorem dX12_turn_8 : decode cX12_turn 8 = .ok (.invokevirtual 205, 3) := by decide +kernel
theorem dX12_turn_11 : decode cX12_turn 11 = .ok (.invokevirtual 221, 3) := by decide +kernel
theorem dX12_turn_14 : decode cX12_turn 14 = .ok (.return_, 1) := by decide +kernel
theorem dX12_amissBy_0 : decode cX12_amissBy 0 = .ok (.aload_n 0, 1) := by decide +kernel
theorem dX12_amissBy_1 : decode cX12_amissBy 1 = .ok (.iload_n 1, 1) := by decide +kernel
theorem dX12_amissBy_2 : decode cX12_amissBy 2 = .ok (.invokevirtual 322, 3) := by decide +kernel
theorem dX12_amissBy_5 : decode cX12_amissBy 5 = .ok (.aload_n 0, 1) := by decide +kernel
theorem dX12_amissBy_6 : decode cX12_amissBy 6 = .ok (.invokevirtual 307, 3) := by decide +kernel
theorem dX12_amissBy_9 : decode cX12_amissBy 9 = .ok (.istore_n 2, 1) := by decide +kernel
theorem dX12_amissBy_10 : decode cX12_amissBy 10 = .ok (.aload_n 0, 1) := by decide +kernel
theorem dX12_amissBy_11 : decode cX12_amissBy 11 = .ok (.iload_n 1, 1) := by decide +kernel
theorem dX12_amissBy_12 : decode cX12_amissBy 12 = .ok (.invokevirtual 322, 3) := by decide +kernel
theorem dX12_amissBy_15 : decode cX12_amissBy 15 = .ok (.iload_n 2, 1) := by decide +kernel
theorem dX12_amissBy_16 : decode cX12_amissBy 16 = .ok (.ireturn, 1) := by decide +kernel
theorem dX12_first_0 : decode cX12_first 0 = .ok (.aload_n 0, 1) := by decide +kernel
theorem dX12_first_1 : decode cX12_first 1 = .ok (.iload_n 1, 1) := by decide +kernel
theorem dX12_first_2 : decode cX12_first 2 = .ok (.iconst 0, 1) := by decide +kernel
theorem dX12_first_3 : decode cX12_first 3 = .ok (.iconst 1, 1) := by decide +kernel
theorem dX12_first_4 : decode cX12_first 4 = .ok (.invokevirtual 197, 3) := by decide +kernel
theorem dX12_first_7 : decode cX12_first 7 = .ok (.ifCond .ne 5, 3) := by decide +kernel
theorem dX12_first_10 : decode cX12_first 10 = .ok (.iconst (-1), 1) := by decide +kernel
theorem dX12_first_11 : decode cX12_first 11 = .ok (.ireturn, 1) := by decide +kernel
theorem dX12_first_12 : decode cX12_first 12 = .ok (.bipush (-5), 2) := by decide +kernel
theorem dX12_first_14 : decode cX12_first 14 = .ok (.istore_n 2, 1) := by decide +kernel
theorem dX12_first_15 : decode cX12_first 15 = .ok (.aload_n 0, 1) := by decide +kernel
theorem dX12_first_16 : decode cX12_first 16 = .ok (.invokevirtual 307, 3) := by decide +kernel
theorem dX12_first_19 : decode cX12_first 19 = .ok (.istore_n 3, 1) := by decide +kernel
theorem dX12_first_20 : decode cX12_first 20 = .ok (.iconst 0, 1) := by decide +kernel
theorem dX12_first_21 : decode cX12_first 21 = .ok (.istore 4, 2) := by decide +kernel
theorem dX12_first_23 : decode cX12_first 23 = .ok (.iload 4, 2) := by decide +kernel
theorem dX12_first_25 : decode cX12_first 25 = .ok (.aload_n 0, 1) := by decide +kernel
theorem dX12_first_26 : decode cX12_first 26 = .ok (.invokevirtual 201, 3) := by decide +kernel
theorem dX12_first_29 : decode cX12_first 29 = .ok (.if_icmp .ge 32, 3) := by decide +kernel
theorem dX12_first_32 : decode cX12_first 32 = .ok (.aload_n 0, 1) := by decide +kernel
theorem dX12_first_33 : decode cX12_first 33 = .ok (.iload 4, 2) := by decide +kernel
theorem dX12_first_35 : decode cX12_first 35 = .ok (.invokevirtual 325, 3) := by decide +kernel
theorem dX12_first_38 : decode cX12_first 38 = .ok (.istore 5, 2) := by decide +kernel
theorem dX12_first_40 : decode cX12_first 40 = .ok (.iload 5, 2) := by decide +kernel
theorem dX12_first_42 : decode cX12_first 42 = .ok (.iload_n 3, 1) := by decide +kernel
theorem dX12_first_43 : decode cX12_first 43 = .ok (.if_icmp .lt 6, 3) := by decide +kernel
theorem dX12_first_46 : decode cX12_first 46 = .ok (.goto 9, 3) := by decide +kernel
theorem dX12_first_49 : decode cX12_first 49 = .ok (.iload 4, 2) := by decide +kernel
theorem dX12_first_51 : decode cX12_first 51 = .ok (.istore_n 2, 1) := by decide +kernel
theorem dX12_first_52 : decode cX12_first 52 = .ok (.iload 5, 2) := by decide +kernel
theorem dX12_first_54 : decode cX12_first 54 = .ok (.istore_n 3, 1) := by decide +kernel
theorem dX12_first_55 : decode cX12_first 55 = .ok (.iinc 4 1, 3) := by decide +kernel
theorem dX12_first_58 : decode cX12_first 58 = .ok (.goto (-35), 3) := by decide +kernel
theorem dX12_first_61 : decode cX12_first 61 = .ok (.iload_n 2, 1) := by decide +kernel
theorem dX12_first_62 : decode cX12_first 62 = .ok (.ifCond .lt 7, 3) := by decide +kernel
theorem dX12_first_65 : decode cX12_first 65 = .ok (.iload_n 1, 1) := by decide +kernel
theorem dX12_first_66 : decode cX12_first 66 = .ok (.ifCond .ne 7, 3) := by decide +kernel
theorem dX12_first_69 : decode cX12_first 69 = .ok (.iload_n 2, 1) := by decide +kernel
theorem dX12_first_70 : decode cX12_first 70 = .ok (.goto 4, 3) := by decide +kernel
theorem dX12_first_73 : decode cX12_first 73 = .ok (.iload_n 3, 1) := by decide +kernel
theorem dX12_first_74 : decode cX12_first 74 = .ok (.ireturn, 1) := by decide +kernel
theorem dX12_pricePair_0 : decode cX12_pricePair 0 = .ok (.aload_n 0, 1) := by decide +kernel
theorem dX12_pricePair_1 : decode cX12_pricePair 1 = .ok (.aload_n 0, 1) := by decide +kernel
theorem dX12_pricePair_2 : decode cX12_pricePair 2 = .ok (.iload_n 1, 1) := by decide +kernel
theorem dX12_pricePair_3 : decode cX12_pricePair 3 = .ok (.invokevirtual 313, 3) := by decide +kernel
theorem dX12_pricePair_6 : decode cX12_pricePair 6 = .ok (.aload_n 0, 1) := by decide +kernel
theorem dX12_pricePair_7 : decode cX12_pricePair 7 = .ok (.iload_n 1, 1) := by decide +kernel
theorem dX12_pricePair_8 : decode cX12_pricePair 8 = .ok (.invokevirtual 205, 3) := by decide +kernel
theorem dX12_pricePair_11 : decode cX12_pricePair 11 = .ok (.invokevirtual 316, 3) := by decide +kernel
theorem dX12_pricePair_14 : decode cX12_pricePair 14 = .ok (.ireturn, 1) := by decide +kernel
theorem dX12_take_0 : decode cX12_take 0 = .ok (.aload_n 0, 1) := by decide +kernel
theorem dX12_take_1 : decode cX12_take 1 = .ok (.getfield 102, 3) := by decide +kernel
theorem dX12_take_4 : decode cX12_take 4 = .ok (.ifCond .lt 28, 3) := by decide +kernel
theorem dX12_take_7 : decode cX12_take 7 = .ok (.iload_n 1, 1) := by decide +kernel
theorem dX12_take_8 : decode cX12_take 8 = .ok (.aload_n 0, 1) := by decide +kernel
theorem dX12_take_9 : decode cX12_take 9 = .ok (.getfield 99, 3) := by decide +kernel
theorem dX12_take_12 : decode cX12_take 12 = .ok (.if_icmp .gt 19, 3) := by decide +kernel
theorem dX12_take_15 : decode cX12_take 15 = .ok (.iload_n 1, 1) := by decide +kernel
theorem dX12_take_16 : decode cX12_take 16 = .ok (.aload_n 0, 1) := by decide +kernel
theorem dX12_take_17 : decode cX12_take 17 = .ok (.getfield 99, 3) := by decide +kernel
theorem dX12_take_20 : decode cX12_take 20 = .ok (.if_icmp .ne 12, 3) := by decide +kernel
theorem dX12_take_23 : decode cX12_take 23 = .ok (.iload_n 2, 1) := by decide +kernel
theorem dX12_take_24 : decode cX12_take 24 = .ok (.aload_n 0, 1) := by decide +kernel
theorem dX12_take_25 : decode cX12_take 25 = .ok (.getfield 102, 3) := by decide +kernel
theorem dX12_take_28 : decode cX12_take 28 = .ok (.if_icmp .lt 4, 3) := by decide +kernel
theorem dX12_take_31 : decode cX12_take 31 = .ok (.return_, 1) := by decide +kernel
theorem dX12_take_32 : decode cX12_take 32 = .ok (.aload_n 0, 1) := by decide +kernel
theorem dX12_take_33 : decode cX12_take 33 = .ok (.iload_n 1, 1) := by decide +kernel
theorem dX12_take_34 : decode cX12_take 34 = .ok (.putfield 99, 3) := by decide +kernel
theorem dX12_take_37 : decode cX12_take 37 = .ok (.aload_n 0, 1) := by decide +kernel
theorem dX12_take_38 : decode cX12_take 38 = .ok (.iload_n 2, 1) := by decide +kernel
theorem dX12_take_39 : decode cX12_take 39 = .ok (.putfield 102, 3) := by decide +kernel
theorem dX12_take_42 : decode cX12_take 42 = .ok (.aload_n 0, 1) := by decide +kernel
theorem dX12_take_43 : decode cX12_take 43 = .ok (.iload_n 3, 1) := by decide +kernel
theorem dX12_take_44 : decode cX12_take 44 = .ok (.putfield 105, 3) := by decide +kernel
theorem dX12_take_47 : decode cX12_take 47 = .ok (.aload_n 0, 1) := by decide +kernel
theorem dX12_take_48 : decode cX12_take 48 = .ok (.iload 4, 2) := by decide +kernel
theorem dX12_take_50 : decode cX12_take 50 = .ok (.putfield 108, 3) := by decide +kernel
theorem dX12_take_53 : decode cX12_take 53 = .ok (.return_, 1) := by decide +kernel
theorem dX12_layCheapest_0 : decode cX12_layCheapest 0 = .ok (.aload_n 0, 1) := by decide +kernel
theorem dX12_layCheapest_1 : decode cX12_layCheapest 1 = .ok (.iconst (-1), 1) := by decide +kernel
theorem dX12_layCheapest_2 : decode cX12_layCheapest 2 = .ok (.putfield 102, 3) := by decide +kernel
theorem dX12_layCheapest_5 : decode cX12_layCheapest 5 = .ok (.aload_n 0, 1) := by decide +kernel
theorem dX12_layCheapest_6 : decode cX12_layCheapest 6 = .ok (.invokevirtual 307, 3) := by decide +kernel
theorem dX12_layCheapest_9 : decode cX12_layCheapest 9 = .ok (.ifCond .ne 13, 3) := by decide +kernel
theorem dX12_layCheapest_12 : decode cX12_layCheapest 12 = .ok (.aload_n 0, 1) := by decide +kernel
theorem dX12_layCheapest_13 : decode cX12_layCheapest 13 = .ok (.iconst 0, 1) := by decide +kernel
theorem dX12_layCheapest_14 : decode cX12_layCheapest 14 = .ok (.iconst 0, 1) := by decide +kernel
theorem dX12_layCheapest_15 : decode cX12_layCheapest 15 = .ok (.bipush (-5), 2) := by decide +kernel
theorem dX12_layCheapest_17 : decode cX12_layCheapest 17 = .ok (.bipush (-5), 2) := by decide +kernel
theorem dX12_layCheapest_19 : decode cX12_layCheapest 19 = .ok (.invokevirtual 328, 3) := by decide +kernel
theorem dX12_layCheapest_22 : decode cX12_layCheapest 22 = .ok (.iconst 0, 1) := by decide +kernel
theorem dX12_layCheapest_23 : decode cX12_layCheapest 23 = .ok (.istore_n 1, 1) := by decide +kernel
theorem dX12_layCheapest_24 : decode cX12_layCheapest 24 = .ok (.iload_n 1, 1) := by decide +kernel
theorem dX12_layCheapest_25 : decode cX12_layCheapest 25 = .ok (.aload_n 0, 1) := by decide +kernel
theorem dX12_layCheapest_26 : decode cX12_layCheapest 26 = .ok (.invokevirtual 201, 3) := by decide +kernel
theorem dX12_layCheapest_29 : decode cX12_layCheapest 29 = .ok (.if_icmp .ge 32, 3) := by decide +kernel
theorem dX12_layCheapest_32 : decode cX12_layCheapest 32 = .ok (.aload_n 0, 1) := by decide +kernel
theorem dX12_layCheapest_33 : decode cX12_layCheapest 33 = .ok (.iload_n 1, 1) := by decide +kernel
theorem dX12_layCheapest_34 : decode cX12_layCheapest 34 = .ok (.invokevirtual 332, 3) := by decide +kernel
theorem dX12_layCheapest_37 : decode cX12_layCheapest 37 = .ok (.istore_n 2, 1) := by decide +kernel
theorem dX12_layCheapest_38 : decode cX12_layCheapest 38 = .ok (.aload_n 0, 1) := by decide +kernel
theorem dX12_layCheapest_39 : decode cX12_layCheapest 39 = .ok (.iload_n 1, 1) := by decide +kernel
theorem dX12_layCheapest_40 : decode cX12_layCheapest 40 = .ok (.invokevirtual 325, 3) := by decide +kernel
theorem dX12_layCheapest_43 : decode cX12_layCheapest 43 = .ok (.ifCond .ne 12, 3) := by decide +kernel
theorem dX12_layCheapest_46 : decode cX12_layCheapest 46 = .ok (.aload_n 0, 1) := by decide +kernel
theorem dX12_layCheapest_47 : decode cX12_layCheapest 47 = .ok (.iload_n 2, 1) := by decide +kernel
theorem dX12_layCheapest_48 : decode cX12_layCheapest 48 = .ok (.iconst 1, 1) := by decide +kernel
theorem dX12_layCheapest_49 : decode cX12_layCheapest 49 = .ok (.iload_n 1, 1) := by decide +kernel
theorem dX12_layCheapest_50 : decode cX12_layCheapest 50 = .ok (.bipush (-5), 2) := by decide +kernel
theorem dX12_layCheapest_52 : decode cX12_layCheapest 52 = .ok (.invokevirtual 328, 3) := by decide +kernel
theorem dX12_layCheapest_55 : decode cX12_layCheapest 55 = .ok (.iinc 1 1, 3) := by decide +kernel
theorem dX12_layCheapest_58 : decode cX12_layCheapest 58 = .ok (.goto (-34), 3) := by decide +kernel
theorem dX12_layCheapest_61 : decode cX12_layCheapest 61 = .ok (.iconst 0, 1) := by decide +kernel
theorem dX12_layCheapest_62 : decode cX12_layCheapest 62 = .ok (.istore_n 1, 1) := by decide +kernel
theorem dX12_layCheapest_63 : decode cX12_layCheapest 63 = .ok (.iload_n 1, 1) := by decide +kernel
theorem dX12_layCheapest_64 : decode cX12_layCheapest 64 = .ok (.aload_n 0, 1) := by decide +kernel
theorem dX12_layCheapest_65 : decode cX12_layCheapest 65 = .ok (.invokevirtual 201, 3) := by decide +kernel
theorem dX12_layCheapest_68 : decode cX12_layCheapest 68 = .ok (.if_icmp .ge 65, 3) := by decide +kernel
theorem dX12_layCheapest_71 : decode cX12_layCheapest 71 = .ok (.iload_n 1, 1) := by decide +kernel
theorem dX12_layCheapest_72 : decode cX12_layCheapest 72 = .ok (.iconst 1, 1) := by decide +kernel
theorem dX12_layCheapest_73 : decode cX12_layCheapest 73 = .ok (.iadd, 1) := by decide +kernel
theorem dX12_layCheapest_74 : decode cX12_layCheapest 74 = .ok (.istore_n 2, 1) := by decide +kernel
theorem dX12_layCheapest_75 : decode cX12_layCheapest 75 = .ok (.iload_n 2, 1) := by decide +kernel
theorem dX12_layCheapest_76 : decode cX12_layCheapest 76 = .ok (.aload_n 0, 1) := by decide +kernel
theorem dX12_layCheapest_77 : decode cX12_layCheapest 77 = .ok (.invokevirtual 201, 3) := by decide +kernel
theorem dX12_layCheapest_80 : decode cX12_layCheapest 80 = .ok (.if_icmp .ge 47, 3) := by decide +kernel
theorem dX12_layCheapest_83 : decode cX12_layCheapest 83 = .ok (.aload_n 0, 1) := by decide +kernel
theorem dX12_layCheapest_84 : decode cX12_layCheapest 84 = .ok (.iload_n 1, 1) := by decide +kernel
theorem dX12_layCheapest_85 : decode cX12_layCheapest 85 = .ok (.invokevirtual 332, 3) := by decide +kernel
theorem dX12_layCheapest_88 : decode cX12_layCheapest 88 = .ok (.aload_n 0, 1) := by decide +kernel
theorem dX12_layCheapest_89 : decode cX12_layCheapest 89 = .ok (.iload_n 2, 1) := by decide +kernel
theorem dX12_layCheapest_90 : decode cX12_layCheapest 90 = .ok (.invokevirtual 332, 3) := by decide +kernel
theorem dX12_layCheapest_93 : decode cX12_layCheapest 93 = .ok (.iadd, 1) := by decide +kernel
theorem dX12_layCheapest_94 : decode cX12_layCheapest 94 = .ok (.istore_n 3, 1) := by decide +kernel
theorem dX12_layCheapest_95 : decode cX12_layCheapest 95 = .ok (.aload_n 0, 1) := by decide +kernel
theorem dX12_layCheapest_96 : decode cX12_layCheapest 96 = .ok (.iload_n 1, 1) := by decide +kernel
theorem dX12_layCheapest_97 : decode cX12_layCheapest 97 = .ok (.invokevirtual 322, 3) := by decide +kernel
theorem dX12_layCheapest_100 : decode cX12_layCheapest 100 = .ok (.aload_n 0, 1) := by decide +kernel
theorem dX12_layCheapest_101 : decode cX12_layCheapest 101 = .ok (.iload_n 2, 1) := by decide +kernel
theorem dX12_layCheapest_102 : decode cX12_layCheapest 102 = .ok (.invokevirtual 325, 3) := by decide +kernel
theorem dX12_layCheapest_105 : decode cX12_layCheapest 105 = .ok (.ifCond .ne 11, 3) := by decide +kernel
theorem dX12_layCheapest_108 : decode cX12_layCheapest 108 = .ok (.aload_n 0, 1) := by decide +kernel
theorem dX12_layCheapest_109 : decode cX12_layCheapest 109 = .ok (.iload_n 3, 1) := by decide +kernel
theorem dX12_layCheapest_110 : decode cX12_layCheapest 110 = .ok (.iconst 2, 1) := by decide +kernel
theorem dX12_layCheapest_111 : decode cX12_layCheapest 111 = .ok (.iload_n 1, 1) := by decide +kernel
theorem dX12_layCheapest_112 : decode cX12_layCheapest 112 = .ok (.iload_n 2, 1) := by decide +kernel
theorem dX12_layCheapest_113 : decode cX12_layCheapest 113 = .ok (.invokevirtual 328, 3) := by decide +kernel
theorem dX12_layCheapest_116 : decode cX12_layCheapest 116 = .ok (.aload_n 0, 1) := by decide +kernel
theorem dX12_layCheapest_117 : decode cX12_layCheapest 117 = .ok (.iload_n 1, 1) := by decide +kernel
theorem dX12_layCheapest_118 : decode cX12_layCheapest 118 = .ok (.invokevirtual 322, 3) := by decide +kernel
theorem dX12_layCheapest_121 : decode cX12_layCheapest 121 = .ok (.iinc 2 1, 3) := by decide +kernel
theorem dX12_layCheapest_124 : decode cX12_layCheapest 124 = .ok (.goto (-49), 3) := by decide +kernel
theorem dX12_layCheapest_127 : decode cX12_layCheapest 127 = .ok (.iinc 1 1, 3) := by decide +kernel
theorem dX12_layCheapest_130 : decode cX12_layCheapest 130 = .ok (.goto (-67), 3) := by decide +kernel
theorem dX12_layCheapest_133 : decode cX12_layCheapest 133 = .ok (.return_, 1) := by decide +kernel
theorem dX12_cheapest_0 : decode cX12_cheapest 0 = .ok (.aload_n 0, 1) := by decide +kernel
theorem dX12_cheapest_1 : decode cX12_cheapest 1 = .ok (.iload_n 1, 1) := by decide +kernel
theorem dX12_cheapest_2 : decode cX12_cheapest 2 = .ok (.iconst 0, 1) := by decide +kernel
theorem dX12_cheapest_3 : decode cX12_cheapest 3 = .ok (.iconst 3, 1) := by decide +kernel
theorem dX12_cheapest_4 : decode cX12_cheapest 4 = .ok (.invokevirtual 197, 3) := by decide +kernel
theorem dX12_cheapest_7 : decode cX12_cheapest 7 = .ok (.ifCond .ne 5, 3) := by decide +kernel
theorem dX12_cheapest_10 : decode cX12_cheapest 10 = .ok (.iconst (-1), 1) := by decide +kernel
theorem dX12_cheapest_11 : decode cX12_cheapest 11 = .ok (.ireturn, 1) := by decide +kernel
theorem dX12_cheapest_12 : decode cX12_cheapest 12 = .ok (.aload_n 0, 1) := by decide +kernel
theorem dX12_cheapest_13 : decode cX12_cheapest 13 = .ok (.invokevirtual 335, 3) := by decide +kernel
theorem dX12_cheapest_16 : decode cX12_cheapest 16 = .ok (.aload_n 0, 1) := by decide +kernel
theorem dX12_cheapest_17 : decode cX12_cheapest 17 = .ok (.getfield 102, 3) := by decide +kernel
theorem dX12_cheapest_20 : decode cX12_cheapest 20 = .ok (.ifCond .ge 6, 3) := by decide +kernel
theorem dX12_cheapest_23 : decode cX12_cheapest 23 = .ok (.bipush (-5), 2) := by decide +kernel
theorem dX12_cheapest_25 : decode cX12_cheapest 25 = .ok (.ireturn, 1) := by decide +kernel
theorem dX12_cheapest_26 : decode cX12_cheapest 26 = .ok (.iload_n 1, 1) := by decide +kernel
theorem dX12_cheapest_27 : decode cX12_cheapest 27 = .ok (.ifCond .ne 10, 3) := by decide +kernel
theorem dX12_cheapest_30 : decode cX12_cheapest 30 = .ok (.aload_n 0, 1) := by decide +kernel
theorem dX12_cheapest_31 : decode cX12_cheapest 31 = .ok (.getfield 99, 3) := by decide +kernel
theorem dX12_cheapest_34 : decode cX12_cheapest 34 = .ok (.goto 31, 3) := by decide +kernel
theorem dX12_cheapest_37 : decode cX12_cheapest 37 = .ok (.iload_n 1, 1) := by decide +kernel
theorem dX12_cheapest_38 : decode cX12_cheapest 38 = .ok (.iconst 1, 1) := by decide +kernel
theorem dX12_cheapest_39 : decode cX12_cheapest 39 = .ok (.if_icmp .ne 10, 3) := by decide +kernel
theorem dX12_cheapest_42 : decode cX12_cheapest 42 = .ok (.aload_n 0, 1) := by decide +kernel
theorem dX12_cheapest_43 : decode cX12_cheapest 43 = .ok (.getfield 102, 3) := by decide +kernel
theorem dX12_cheapest_46 : decode cX12_cheapest 46 = .ok (.goto 19, 3) := by decide +kernel
theorem dX12_cheapest_49 : decode cX12_cheapest 49 = .ok (.iload_n 1, 1) := by decide +kernel
theorem dX12_cheapest_50 : decode cX12_cheapest 50 = .ok (.iconst 2, 1) := by decide +kernel
theorem dX12_cheapest_51 : decode cX12_cheapest 51 = .ok (.if_icmp .ne 10, 3) := by decide +kernel
theorem dX12_cheapest_54 : decode cX12_cheapest 54 = .ok (.aload_n 0, 1) := by decide +kernel
theorem dX12_cheapest_55 : decode cX12_cheapest 55 = .ok (.getfield 105, 3) := by decide +kernel
theorem dX12_cheapest_58 : decode cX12_cheapest 58 = .ok (.goto 7, 3) := by decide +kernel
theorem dX12_cheapest_61 : decode cX12_cheapest 61 = .ok (.aload_n 0, 1) := by decide +kernel
theorem dX12_cheapest_62 : decode cX12_cheapest 62 = .ok (.getfield 108, 3) := by decide +kernel
theorem dX12_cheapest_65 : decode cX12_cheapest 65 = .ok (.ireturn, 1) := by decide +kernel
theorem dX12_goes_0 : decode cX12_goes 0 = .ok (.aload_n 0, 1) := by decide +kernel
theorem dX12_goes_1 : decode cX12_goes 1 = .ok (.iload_n 1, 1) := by decide +kernel
theorem dX12_goes_2 : decode cX12_goes 2 = .ok (.iconst 0, 1) := by decide +kernel
theorem dX12_goes_3 : decode cX12_goes 3 = .ok (.iconst 1, 1) := by decide +kernel
theorem dX12_goes_4 : decode cX12_goes 4 = .ok (.invokevirtual 197, 3) := by decide +kernel
theorem dX12_goes_7 : decode cX12_goes 7 = .ok (.ifCond .ne 5, 3) := by decide +kernel
theorem dX12_goes_10 : decode cX12_goes 10 = .ok (.iconst (-1), 1) := by decide +kernel
theorem dX12_goes_11 : decode cX12_goes 11 = .ok (.ireturn, 1) := by decide +kernel
theorem dX12_goes_12 : decode cX12_goes 12 = .ok (.bipush (-5), 2) := by decide +kernel
theorem dX12_goes_14 : decode cX12_goes 14 = .ok (.istore_n 2, 1) := by decide +kernel
theorem dX12_goes_15 : decode cX12_goes 15 = .ok (.iconst 0, 1) := by decide +kernel
theorem dX12_goes_16 : decode cX12_goes 16 = .ok (.istore_n 3, 1) := by decide +kernel
theorem dX12_goes_17 : decode cX12_goes 17 = .ok (.iconst 0, 1) := by decide +kernel
theorem dX12_goes_18 : decode cX12_goes 18 = .ok (.istore 4, 2) := by decide +kernel
theorem dX12_goes_20 : decode cX12_goes 20 = .ok (.iload 4, 2) := by decide +kernel
theorem dX12_goes_22 : decode cX12_goes 22 = .ok (.aload_n 0, 1) := by decide +kernel
theorem dX12_goes_23 : decode cX12_goes 23 = .ok (.getfield 7, 3) := by decide +kernel
theorem dX12_goes_26 : decode cX12_goes 26 = .ok (.if_icmp .ge 40, 3) := by decide +kernel
theorem dX12_goes_29 : decode cX12_goes 29 = .ok (.aload_n 0, 1) := by decide +kernel
theorem dX12_goes_30 : decode cX12_goes 30 = .ok (.iload 4, 2) := by decide +kernel
theorem dX12_goes_32 : decode cX12_goes 32 = .ok (.putfield 16, 3) := by decide +kernel
theorem dX12_goes_35 : decode cX12_goes 35 = .ok (.aload_n 0, 1) := by decide +kernel
theorem dX12_goes_36 : decode cX12_goes 36 = .ok (.invokevirtual 307, 3) := by decide +kernel
theorem dX12_goes_39 : decode cX12_goes 39 = .ok (.istore 5, 2) := by decide +kernel
theorem dX12_goes_41 : decode cX12_goes 41 = .ok (.iload_n 2, 1) := by decide +kernel
theorem dX12_goes_42 : decode cX12_goes 42 = .ok (.ifCond .lt 12, 3) := by decide +kernel
theorem dX12_goes_45 : decode cX12_goes 45 = .ok (.iload 5, 2) := by decide +kernel
theorem dX12_goes_47 : decode cX12_goes 47 = .ok (.iload_n 3, 1) := by decide +kernel
theorem dX12_goes_48 : decode cX12_goes 48 = .ok (.if_icmp .lt 6, 3) := by decide +kernel
theorem dX12_goes_51 : decode cX12_goes 51 = .ok (.goto 9, 3) := by decide +kernel
theorem dX12_goes_54 : decode cX12_goes 54 = .ok (.iload 4, 2) := by decide +kernel
theorem dX12_goes_56 : decode cX12_goes 56 = .ok (.istore_n 2, 1) := by decide +kernel
theorem dX12_goes_57 : decode cX12_goes 57 = .ok (.iload 5, 2) := by decide +kernel
theorem dX12_goes_59 : decode cX12_goes 59 = .ok (.istore_n 3, 1) := by decide +kernel
theorem dX12_goes_60 : decode cX12_goes 60 = .ok (.iinc 4 1, 3) := by decide +kernel
theorem dX12_goes_63 : decode cX12_goes 63 = .ok (.goto (-43), 3) := by decide +kernel
theorem dX12_goes_66 : decode cX12_goes 66 = .ok (.aload_n 0, 1) := by decide +kernel
theorem dX12_goes_67 : decode cX12_goes 67 = .ok (.iconst (-1), 1) := by decide +kernel
theorem dX12_goes_68 : decode cX12_goes 68 = .ok (.putfield 16, 3) := by decide +kernel
theorem dX12_goes_71 : decode cX12_goes 71 = .ok (.iload_n 2, 1) := by decide +kernel
theorem dX12_goes_72 : decode cX12_goes 72 = .ok (.ifCond .lt 7, 3) := by decide +kernel
theorem dX12_goes_75 : decode cX12_goes 75 = .ok (.iload_n 1, 1) := by decide +kernel
theorem dX12_goes_76 : decode cX12_goes 76 = .ok (.ifCond .ne 7, 3) := by decide +kernel
theorem dX12_goes_79 : decode cX12_goes 79 = .ok (.iload_n 2, 1) := by decide +kernel
theorem dX12_goes_80 : decode cX12_goes 80 = .ok (.goto 4, 3) := by decide +kernel
theorem dX12_goes_83 : decode cX12_goes 83 = .ok (.iload_n 3, 1) := by decide +kernel
theorem dX12_goes_84 : decode cX12_goes 84 = .ok (.ireturn, 1) := by decide +kernel
theorem dX12_befriends_0 : decode cX12_befriends 0 = .ok (.aload_n 0, 1) := by decide +kernel
theorem dX12_befriends_1 : decode cX12_befriends 1 = .ok (.iload_n 1, 1) := by decide +kernel
theorem dX12_befriends_2 : decode cX12_befriends 2 = .ok (.iconst 0, 1) := by decide +kernel
theorem dX12_befriends_3 : decode cX12_befriends 3 = .ok (.bipush 6, 2) := by decide +kernel
theorem dX12_befriends_5 : decode cX12_befriends 5 = .ok (.invokevirtual 197, 3) := by decide +kernel
theorem dX12_befriends_8 : decode cX12_befriends 8 = .ok (.ifCond .eq 13, 3) := by decide +kernel
theorem dX12_befriends_11 : decode cX12_befriends 11 = .ok (.aload_n 0, 1) := by decide +kernel
theorem dX12_befriends_12 : decode cX12_befriends 12 = .ok (.iload_n 3, 1) := by decide +kernel
theorem dX12_befriends_13 : decode cX12_befriends 13 = .ok (.iconst 0, 1) := by decide +kernel
theorem dX12_befriends_14 : decode cX12_befriends 14 = .ok (.iconst 1, 1) := by decide +kernel
theorem dX12_befriends_15 : decode cX12_befriends 15 = .ok (.invokevirtual 197, 3) := by decide +kernel
theorem dX12_befriends_18 : decode cX12_befriends 18 = .ok (.ifCond .ne 5, 3) := by decide +kernel
theorem dX12_befriends_21 : decode cX12_befriends 21 = .ok (.iconst (-1), 1) := by decide +kernel
theorem dX12_befriends_22 : decode cX12_befriends 22 = .ok (.ireturn, 1) := by decide +kernel
theorem dX12_befriends_23 : decode cX12_befriends 23 = .ok (.aload_n 0, 1) := by decide +kernel
theorem dX12_befriends_24 : decode cX12_befriends 24 = .ok (.iload_n 2, 1) := by decide +kernel
theorem dX12_befriends_25 : decode cX12_befriends 25 = .ok (.iconst 0, 1) := by decide +kernel
theorem dX12_befriends_26 : decode cX12_befriends 26 = .ok (.bipush 9, 2) := by decide +kernel
theorem dX12_befriends_28 : decode cX12_befriends 28 = .ok (.invokevirtual 197, 3) := by decide +kernel
theorem dX12_befriends_31 : decode cX12_befriends 31 = .ok (.ifCond .ne 6, 3) := by decide +kernel
theorem dX12_befriends_34 : decode cX12_befriends 34 = .ok (.bipush (-2), 2) := by decide +kernel
theorem dX12_befriends_36 : decode cX12_befriends 36 = .ok (.ireturn, 1) := by decide +kernel
theorem dX12_befriends_37 : decode cX12_befriends 37 = .ok (.aload_n 0, 1) := by decide +kernel
theorem dX12_befriends_38 : decode cX12_befriends 38 = .ok (.getfield 7, 3) := by decide +kernel
theorem dX12_befriends_41 : decode cX12_befriends 41 = .ok (.bipush 6, 2) := by decide +kernel
theorem dX12_befriends_43 : decode cX12_befriends 43 = .ok (.if_icmp .ne 6, 3) := by decide +kernel
theorem dX12_befriends_46 : decode cX12_befriends 46 = .ok (.bipush (-9), 2) := by decide +kernel
theorem dX12_befriends_48 : decode cX12_befriends 48 = .ok (.ireturn, 1) := by decide +kernel
theorem dX12_befriends_49 : decode cX12_befriends 49 = .ok (.aload_n 0, 1) := by decide +kernel
theorem dX12_befriends_50 : decode cX12_befriends 50 = .ok (.getfield 7, 3) := by decide +kernel
theorem dX12_befriends_53 : decode cX12_befriends 53 = .ok (.istore 4, 2) := by decide +kernel
theorem dX12_befriends_55 : decode cX12_befriends 55 = .ok (.aload_n 0, 1) := by decide +kernel
theorem dX12_befriends_56 : decode cX12_befriends 56 = .ok (.iload 4, 2) := by decide +kernel
theorem dX12_befriends_58 : decode cX12_befriends 58 = .ok (.iload_n 1, 1) := by decide +kernel
theorem dX12_befriends_59 : decode cX12_befriends 59 = .ok (.iload_n 2, 1) := by decide +kernel
theorem dX12_befriends_60 : decode cX12_befriends 60 = .ok (.invokevirtual 209, 3) := by decide +kernel
theorem dX12_befriends_63 : decode cX12_befriends 63 = .ok (.aload_n 0, 1) := by decide +kernel
theorem dX12_befriends_64 : decode cX12_befriends 64 = .ok (.dup, 1) := by decide +kernel
theorem dX12_befriends_65 : decode cX12_befriends 65 = .ok (.getfield 7, 3) := by decide +kernel
theorem dX12_befriends_68 : decode cX12_befriends 68 = .ok (.iconst 1, 1) := by decide +kernel
theorem dX12_befriends_69 : decode cX12_befriends 69 = .ok (.iadd, 1) := by decide +kernel
theorem dX12_befriends_70 : decode cX12_befriends 70 = .ok (.putfield 7, 3) := by decide +kernel
theorem dX12_befriends_73 : decode cX12_befriends 73 = .ok (.iconst 0, 1) := by decide +kernel
theorem dX12_befriends_74 : decode cX12_befriends 74 = .ok (.istore 5, 2) := by decide +kernel
theorem dX12_befriends_76 : decode cX12_befriends 76 = .ok (.bipush 99, 2) := by decide +kernel
theorem dX12_befriends_78 : decode cX12_befriends 78 = .ok (.istore 6, 2) := by decide +kernel
theorem dX12_befriends_80 : decode cX12_befriends 80 = .ok (.iconst 0, 1) := by decide +kernel
theorem dX12_befriends_81 : decode cX12_befriends 81 = .ok (.istore 7, 2) := by decide +kernel
theorem dX12_befriends_83 : decode cX12_befriends 83 = .ok (.iload 7, 2) := by decide +kernel
theorem dX12_befriends_85 : decode cX12_befriends 85 = .ok (.iconst 1, 1) := by decide +kernel
