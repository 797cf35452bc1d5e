/-! the instructions, each read off its bytes -/
theorem dX0_init_0 : decode cX0_init 0 = .ok (.aload_n 0, 1) := by decide +kernel
theorem dX0_init_1 : decode cX0_init 1 = .ok (.iload_n 1, 1) := by decide +kernel
theorem dX0_init_2 : decode cX0_init 2 = .ok (.iload_n 2, 1) := by decide +kernel
theorem dX0_init_3 : decode cX0_init 3 = .ok (.iload_n 3, 1) := by decide +kernel
theorem dX0_init_4 : decode cX0_init 4 = .ok (.invokespecial 1, 3) := by decide +kernel
theorem dX0_init_7 : decode cX0_init 7 = .ok (.return_, 1) := by decide +kernel
theorem dX0_worth_0 : decode cX0_worth 0 = .ok (.aload_n 1, 1) := by decide +kernel
theorem dX0_worth_1 : decode cX0_worth 1 = .ok (.aload_n 0, 1) := by decide +kernel
theorem dX0_worth_2 : decode cX0_worth 2 = .ok (.getfield 7, 3) := by decide +kernel
theorem dX0_worth_5 : decode cX0_worth 5 = .ok (.invokevirtual 13, 3) := by decide +kernel
theorem dX0_worth_8 : decode cX0_worth 8 = .ok (.ifCond .eq 12, 3) := by decide +kernel
theorem dX0_worth_11 : decode cX0_worth 11 = .ok (.aload_n 0, 1) := by decide +kernel
theorem dX0_worth_12 : decode cX0_worth 12 = .ok (.aload_n 1, 1) := by decide +kernel
theorem dX0_worth_13 : decode cX0_worth 13 = .ok (.iload_n 2, 1) := by decide +kernel
theorem dX0_worth_14 : decode cX0_worth 14 = .ok (.invokespecial 19, 3) := by decide +kernel
theorem dX0_worth_17 : decode cX0_worth 17 = .ok (.goto 4, 3) := by decide +kernel
theorem dX0_worth_20 : decode cX0_worth 20 = .ok (.iconst 0, 1) := by decide +kernel
theorem dX0_worth_21 : decode cX0_worth 21 = .ok (.ireturn, 1) := by decide +kernel
theorem dX0_meets_0 : decode cX0_meets 0 = .ok (.aload_n 2, 1) := by decide +kernel
theorem dX0_meets_1 : decode cX0_meets 1 = .ok (.bipush 50, 2) := by decide +kernel
theorem dX0_meets_3 : decode cX0_meets 3 = .ok (.invokevirtual 23, 3) := by decide +kernel
theorem dX0_meets_6 : decode cX0_meets 6 = .ok (.aload_n 0, 1) := by decide +kernel
theorem dX0_meets_7 : decode cX0_meets 7 = .ok (.iload_n 1, 1) := by decide +kernel
theorem dX0_meets_8 : decode cX0_meets 8 = .ok (.aload_n 2, 1) := by decide +kernel
theorem dX0_meets_9 : decode cX0_meets 9 = .ok (.invokespecial 29, 3) := by decide +kernel
theorem dX0_meets_12 : decode cX0_meets 12 = .ok (.ineg, 1) := by decide +kernel
theorem dX0_meets_13 : decode cX0_meets 13 = .ok (.ireturn, 1) := by decide +kernel
theorem dX0_counts_0 : decode cX0_counts 0 = .ok (.aload_n 2, 1) := by decide +kernel
theorem dX0_counts_1 : decode cX0_counts 1 = .ok (.bipush 51, 2) := by decide +kernel
theorem dX0_counts_3 : decode cX0_counts 3 = .ok (.invokevirtual 23, 3) := by decide +kernel
theorem dX0_counts_6 : decode cX0_counts 6 = .ok (.aload_n 0, 1) := by decide +kernel
theorem dX0_counts_7 : decode cX0_counts 7 = .ok (.iload_n 1, 1) := by decide +kernel
theorem dX0_counts_8 : decode cX0_counts 8 = .ok (.iconst 1, 1) := by decide +kernel
theorem dX0_counts_9 : decode cX0_counts 9 = .ok (.iadd, 1) := by decide +kernel
theorem dX0_counts_10 : decode cX0_counts 10 = .ok (.aload_n 2, 1) := by decide +kernel
theorem dX0_counts_11 : decode cX0_counts 11 = .ok (.invokespecial 33, 3) := by decide +kernel
theorem dX0_counts_14 : decode cX0_counts 14 = .ok (.ireturn, 1) := by decide +kernel
theorem dX1_init_0 : decode cX1_init 0 = .ok (.aload_n 0, 1) := by decide +kernel
theorem dX1_init_1 : decode cX1_init 1 = .ok (.iload_n 1, 1) := by decide +kernel
theorem dX1_init_2 : decode cX1_init 2 = .ok (.iload_n 2, 1) := by decide +kernel
theorem dX1_init_3 : decode cX1_init 3 = .ok (.iload_n 3, 1) := by decide +kernel
theorem dX1_init_4 : decode cX1_init 4 = .ok (.invokespecial 1, 3) := by decide +kernel
theorem dX1_init_7 : decode cX1_init 7 = .ok (.return_, 1) := by decide +kernel
theorem dX1_worth_0 : decode cX1_worth 0 = .ok (.aload_n 0, 1) := by decide +kernel
theorem dX1_worth_1 : decode cX1_worth 1 = .ok (.getfield 7, 3) := by decide +kernel
theorem dX1_worth_4 : decode cX1_worth 4 = .ok (.iconst 2, 1) := by decide +kernel
theorem dX1_worth_5 : decode cX1_worth 5 = .ok (.iadd, 1) := by decide +kernel
theorem dX1_worth_6 : decode cX1_worth 6 = .ok (.istore_n 3, 1) := by decide +kernel
theorem dX1_worth_7 : decode cX1_worth 7 = .ok (.iload_n 3, 1) := by decide +kernel
theorem dX1_worth_8 : decode cX1_worth 8 = .ok (.ifCond .le 16, 3) := by decide +kernel
theorem dX1_worth_11 : decode cX1_worth 11 = .ok (.aload_n 1, 1) := by decide +kernel
theorem dX1_worth_12 : decode cX1_worth 12 = .ok (.getfield 13, 3) := by decide +kernel
theorem dX1_worth_15 : decode cX1_worth 15 = .ok (.iload_n 3, 1) := by decide +kernel
theorem dX1_worth_16 : decode cX1_worth 16 = .ok (.irem, 1) := by decide +kernel
theorem dX1_worth_17 : decode cX1_worth 17 = .ok (.ifCond .ne 7, 3) := by decide +kernel
theorem dX1_worth_20 : decode cX1_worth 20 = .ok (.iconst 0, 1) := by decide +kernel
theorem dX1_worth_21 : decode cX1_worth 21 = .ok (.goto 4, 3) := by decide +kernel
theorem dX1_worth_24 : decode cX1_worth 24 = .ok (.iconst 1, 1) := by decide +kernel
theorem dX1_worth_25 : decode cX1_worth 25 = .ok (.ireturn, 1) := by decide +kernel
theorem dX1_tells_0 : decode cX1_tells 0 = .ok (.aload_n 2, 1) := by decide +kernel
theorem dX1_tells_1 : decode cX1_tells 1 = .ok (.bipush 40, 2) := by decide +kernel
theorem dX1_tells_3 : decode cX1_tells 3 = .ok (.invokevirtual 18, 3) := by decide +kernel
theorem dX1_tells_6 : decode cX1_tells 6 = .ok (.aload_n 0, 1) := by decide +kernel
theorem dX1_tells_7 : decode cX1_tells 7 = .ok (.iload_n 1, 1) := by decide +kernel
theorem dX1_tells_8 : decode cX1_tells 8 = .ok (.aload_n 2, 1) := by decide +kernel
theorem dX1_tells_9 : decode cX1_tells 9 = .ok (.invokespecial 24, 3) := by decide +kernel
theorem dX1_tells_12 : decode cX1_tells 12 = .ok (.aload_n 0, 1) := by decide +kernel
theorem dX1_tells_13 : decode cX1_tells 13 = .ok (.iconst 1, 1) := by decide +kernel
theorem dX1_tells_14 : decode cX1_tells 14 = .ok (.aload_n 2, 1) := by decide +kernel
theorem dX1_tells_15 : decode cX1_tells 15 = .ok (.invokevirtual 28, 3) := by decide +kernel
theorem dX1_tells_18 : decode cX1_tells 18 = .ok (.iadd, 1) := by decide +kernel
theorem dX1_tells_19 : decode cX1_tells 19 = .ok (.ireturn, 1) := by decide +kernel
theorem dX2_init_0 : decode cX2_init 0 = .ok (.aload_n 0, 1) := by decide +kernel
theorem dX2_init_1 : decode cX2_init 1 = .ok (.invokespecial 1, 3) := by decide +kernel
theorem dX2_init_4 : decode cX2_init 4 = .ok (.aload_n 0, 1) := by decide +kernel
theorem dX2_init_5 : decode cX2_init 5 = .ok (.iload_n 1, 1) := by decide +kernel
theorem dX2_init_6 : decode cX2_init 6 = .ok (.putfield 7, 3) := by decide +kernel
theorem dX2_init_9 : decode cX2_init 9 = .ok (.aload_n 0, 1) := by decide +kernel
theorem dX2_init_10 : decode cX2_init 10 = .ok (.iload_n 2, 1) := by decide +kernel
theorem dX2_init_11 : decode cX2_init 11 = .ok (.putfield 13, 3) := by decide +kernel
theorem dX2_init_14 : decode cX2_init 14 = .ok (.aload_n 0, 1) := by decide +kernel
theorem dX2_init_15 : decode cX2_init 15 = .ok (.iload_n 3, 1) := by decide +kernel
theorem dX2_init_16 : decode cX2_init 16 = .ok (.putfield 16, 3) := by decide +kernel
theorem dX2_init_19 : decode cX2_init 19 = .ok (.return_, 1) := by decide +kernel
theorem dX2_worth_0 : decode cX2_worth 0 = .ok (.iconst 1, 1) := by decide +kernel
theorem dX2_worth_1 : decode cX2_worth 1 = .ok (.ireturn, 1) := by decide +kernel
theorem dX2_meets_0 : decode cX2_meets 0 = .ok (.aload_n 2, 1) := by decide +kernel
theorem dX2_meets_1 : decode cX2_meets 1 = .ok (.bipush 10, 2) := by decide +kernel
theorem dX2_meets_3 : decode cX2_meets 3 = .ok (.invokevirtual 19, 3) := by decide +kernel
theorem dX2_meets_6 : decode cX2_meets 6 = .ok (.iload_n 1, 1) := by decide +kernel
theorem dX2_meets_7 : decode cX2_meets 7 = .ok (.aload_n 0, 1) := by decide +kernel
theorem dX2_meets_8 : decode cX2_meets 8 = .ok (.getfield 13, 3) := by decide +kernel
theorem dX2_meets_11 : decode cX2_meets 11 = .ok (.iadd, 1) := by decide +kernel
theorem dX2_meets_12 : decode cX2_meets 12 = .ok (.ireturn, 1) := by decide +kernel
theorem dX2_counts_0 : decode cX2_counts 0 = .ok (.aload_n 2, 1) := by decide +kernel
theorem dX2_counts_1 : decode cX2_counts 1 = .ok (.bipush 11, 2) := by decide +kernel
theorem dX2_counts_3 : decode cX2_counts 3 = .ok (.invokevirtual 19, 3) := by decide +kernel
theorem dX2_counts_6 : decode cX2_counts 6 = .ok (.aload_n 0, 1) := by decide +kernel
theorem dX2_counts_7 : decode cX2_counts 7 = .ok (.iload_n 1, 1) := by decide +kernel
theorem dX2_counts_8 : decode cX2_counts 8 = .ok (.aload_n 2, 1) := by decide +kernel
theorem dX2_counts_9 : decode cX2_counts 9 = .ok (.invokevirtual 25, 3) := by decide +kernel
theorem dX2_counts_12 : decode cX2_counts 12 = .ok (.aload_n 0, 1) := by decide +kernel
theorem dX2_counts_13 : decode cX2_counts 13 = .ok (.getfield 16, 3) := by decide +kernel
theorem dX2_counts_16 : decode cX2_counts 16 = .ok (.isub, 1) := by decide +kernel
theorem dX2_counts_17 : decode cX2_counts 17 = .ok (.ireturn, 1) := by decide +kernel
theorem dX2_tells_0 : decode cX2_tells 0 = .ok (.aload_n 2, 1) := by decide +kernel
theorem dX2_tells_1 : decode cX2_tells 1 = .ok (.bipush 12, 2) := by decide +kernel
theorem dX2_tells_3 : decode cX2_tells 3 = .ok (.invokevirtual 19, 3) := by decide +kernel
theorem dX2_tells_6 : decode cX2_tells 6 = .ok (.aload_n 0, 1) := by decide +kernel
theorem dX2_tells_7 : decode cX2_tells 7 = .ok (.iload_n 1, 1) := by decide +kernel
theorem dX2_tells_8 : decode cX2_tells 8 = .ok (.aload_n 2, 1) := by decide +kernel
theorem dX2_tells_9 : decode cX2_tells 9 = .ok (.invokevirtual 29, 3) := by decide +kernel
theorem dX2_tells_12 : decode cX2_tells 12 = .ok (.iconst 2, 1) := by decide +kernel
theorem dX2_tells_13 : decode cX2_tells 13 = .ok (.imul, 1) := by decide +kernel
theorem dX2_tells_14 : decode cX2_tells 14 = .ok (.ireturn, 1) := by decide +kernel
theorem dX3_init_0 : decode cX3_init 0 = .ok (.aload_n 0, 1) := by decide +kernel
theorem dX3_init_1 : decode cX3_init 1 = .ok (.iload_n 1, 1) := by decide +kernel
theorem dX3_init_2 : decode cX3_init 2 = .ok (.iload_n 2, 1) := by decide +kernel
theorem dX3_init_3 : decode cX3_init 3 = .ok (.iload_n 3, 1) := by decide +kernel
theorem dX3_init_4 : decode cX3_init 4 = .ok (.invokespecial 1, 3) := by decide +kernel
theorem dX3_init_7 : decode cX3_init 7 = .ok (.return_, 1) := by decide +kernel
theorem dX3_worth_0 : decode cX3_worth 0 = .ok (.iload_n 2, 1) := by decide +kernel
theorem dX3_worth_1 : decode cX3_worth 1 = .ok (.ifCond .eq 7, 3) := by decide +kernel
theorem dX3_worth_4 : decode cX3_worth 4 = .ok (.iconst 0, 1) := by decide +kernel
theorem dX3_worth_5 : decode cX3_worth 5 = .ok (.goto 4, 3) := by decide +kernel
theorem dX3_worth_8 : decode cX3_worth 8 = .ok (.iconst 1, 1) := by decide +kernel
theorem dX3_worth_9 : decode cX3_worth 9 = .ok (.ireturn, 1) := by decide +kernel
theorem dX3_meets_0 : decode cX3_meets 0 = .ok (.aload_n 2, 1) := by decide +kernel
theorem dX3_meets_1 : decode cX3_meets 1 = .ok (.bipush 30, 2) := by decide +kernel
theorem dX3_meets_3 : decode cX3_meets 3 = .ok (.invokevirtual 7, 3) := by decide +kernel
theorem dX3_meets_6 : decode cX3_meets 6 = .ok (.aload_n 0, 1) := by decide +kernel
theorem dX3_meets_7 : decode cX3_meets 7 = .ok (.iload_n 1, 1) := by decide +kernel
theorem dX3_meets_8 : decode cX3_meets 8 = .ok (.iconst 3, 1) := by decide +kernel
theorem dX3_meets_9 : decode cX3_meets 9 = .ok (.imul, 1) := by decide +kernel
theorem dX3_meets_10 : decode cX3_meets 10 = .ok (.aload_n 2, 1) := by decide +kernel
theorem dX3_meets_11 : decode cX3_meets 11 = .ok (.invokespecial 13, 3) := by decide +kernel
theorem dX3_meets_14 : decode cX3_meets 14 = .ok (.ireturn, 1) := by decide +kernel
theorem dX4_init_0 : decode cX4_init 0 = .ok (.aload_n 0, 1) := by decide +kernel
theorem dX4_init_1 : decode cX4_init 1 = .ok (.iload_n 1, 1) := by decide +kernel
theorem dX4_init_2 : decode cX4_init 2 = .ok (.iload_n 2, 1) := by decide +kernel
theorem dX4_init_3 : decode cX4_init 3 = .ok (.iload_n 3, 1) := by decide +kernel
theorem dX4_init_4 : decode cX4_init 4 = .ok (.invokespecial 1, 3) := by decide +kernel
theorem dX4_init_7 : decode cX4_init 7 = .ok (.return_, 1) := by decide +kernel
theorem dX4_worth_0 : decode cX4_worth 0 = .ok (.aload_n 1, 1) := by decide +kernel
theorem dX4_worth_1 : decode cX4_worth 1 = .ok (.aload_n 0, 1) := by decide +kernel
theorem dX4_worth_2 : decode cX4_worth 2 = .ok (.getfield 7, 3) := by decide +kernel
theorem dX4_worth_5 : decode cX4_worth 5 = .ok (.invokevirtual 13, 3) := by decide +kernel
theorem dX4_worth_8 : decode cX4_worth 8 = .ok (.iconst 3, 1) := by decide +kernel
theorem dX4_worth_9 : decode cX4_worth 9 = .ok (.if_icmp .le 7, 3) := by decide +kernel
theorem dX4_worth_12 : decode cX4_worth 12 = .ok (.iconst 0, 1) := by decide +kernel
theorem dX4_worth_13 : decode cX4_worth 13 = .ok (.goto 9, 3) := by decide +kernel
theorem dX4_worth_16 : decode cX4_worth 16 = .ok (.aload_n 0, 1) := by decide +kernel
theorem dX4_worth_17 : decode cX4_worth 17 = .ok (.aload_n 1, 1) := by decide +kernel
theorem dX4_worth_18 : decode cX4_worth 18 = .ok (.iload_n 2, 1) := by decide +kernel
theorem dX4_worth_19 : decode cX4_worth 19 = .ok (.invokespecial 19, 3) := by decide +kernel
theorem dX4_worth_22 : decode cX4_worth 22 = .ok (.ireturn, 1) := by decide +kernel
theorem dX4_tells_0 : decode cX4_tells 0 = .ok (.aload_n 2, 1) := by decide +kernel
theorem dX4_tells_1 : decode cX4_tells 1 = .ok (.bipush 60, 2) := by decide +kernel
theorem dX4_tells_3 : decode cX4_tells 3 = .ok (.invokevirtual 23, 3) := by decide +kernel
theorem dX4_tells_6 : decode cX4_tells 6 = .ok (.aload_n 0, 1) := by decide +kernel
theorem dX4_tells_7 : decode cX4_tells 7 = .ok (.iload_n 1, 1) := by decide +kernel
theorem dX4_tells_8 : decode cX4_tells 8 = .ok (.aload_n 0, 1) := by decide +kernel
theorem dX4_tells_9 : decode cX4_tells 9 = .ok (.getfield 7, 3) := by decide +kernel
theorem dX4_tells_12 : decode cX4_tells 12 = .ok (.isub, 1) := by decide +kernel
theorem dX4_tells_13 : decode cX4_tells 13 = .ok (.aload_n 2, 1) := by decide +kernel
theorem dX4_tells_14 : decode cX4_tells 14 = .ok (.invokespecial 29, 3) := by decide +kernel
theorem dX4_tells_17 : decode cX4_tells 17 = .ok (.ireturn, 1) := by decide +kernel
theorem dX5_init_0 : decode cX5_init 0 = .ok (.aload_n 0, 1) := by decide +kernel
theorem dX5_init_1 : decode cX5_init 1 = .ok (.invokespecial 3, 3) := by decide +kernel
theorem dX5_init_4 : decode cX5_init 4 = .ok (.aload_n 0, 1) := by decide +kernel
theorem dX5_init_5 : decode cX5_init 5 = .ok (.iconst (-1), 1) := by decide +kernel
theorem dX5_init_6 : decode cX5_init 6 = .ok (.putfield 11, 3) := by decide +kernel
theorem dX5_init_9 : decode cX5_init 9 = .ok (.aload_n 0, 1) := by decide +kernel
theorem dX5_init_10 : decode cX5_init 10 = .ok (.bipush 60, 2) := by decide +kernel
theorem dX5_init_12 : decode cX5_init 12 = .ok (.newarray .long, 2) := by decide +kernel
theorem dX5_init_14 : decode cX5_init 14 = .ok (.putfield 15, 3) := by decide +kernel
theorem dX5_init_17 : decode cX5_init 17 = .ok (.return_, 1) := by decide +kernel
theorem dX5_hold_0 : decode cX5_hold 0 = .ok (.aload_n 0, 1) := by decide +kernel
theorem dX5_hold_1 : decode cX5_hold 1 = .ok (.iload_n 1, 1) := by decide +kernel
theorem dX5_hold_2 : decode cX5_hold 2 = .ok (.putfield 11, 3) := by decide +kernel
theorem dX5_hold_5 : decode cX5_hold 5 = .ok (.aload_n 0, 1) := by decide +kernel
theorem dX5_hold_6 : decode cX5_hold 6 = .ok (.iload_n 2, 1) := by decide +kernel
theorem dX5_hold_7 : decode cX5_hold 7 = .ok (.putfield 19, 3) := by decide +kernel
theorem dX5_hold_10 : decode cX5_hold 10 = .ok (.aload_n 0, 1) := by decide +kernel
theorem dX5_hold_11 : decode cX5_hold 11 = .ok (.getfield 15, 3) := by decide +kernel
theorem dX5_hold_14 : decode cX5_hold 14 = .ok (.lconst 0, 1) := by decide +kernel
theorem dX5_hold_15 : decode cX5_hold 15 = .ok (.invokestatic 22, 3) := by decide +kernel
theorem dX5_hold_18 : decode cX5_hold 18 = .ok (.return_, 1) := by decide +kernel
theorem dX5_isThere_0 : decode cX5_isThere 0 = .ok (.aload_n 0, 1) := by decide +kernel
theorem dX5_isThere_1 : decode cX5_isThere 1 = .ok (.getfield 11, 3) := by decide +kernel
theorem dX5_isThere_4 : decode cX5_isThere 4 = .ok (.iconst (-1), 1) := by decide +kernel
theorem dX5_isThere_5 : decode cX5_isThere 5 = .ok (.if_icmp .eq 7, 3) := by decide +kernel
theorem dX5_isThere_8 : decode cX5_isThere 8 = .ok (.iconst 1, 1) := by decide +kernel
theorem dX5_isThere_9 : decode cX5_isThere 9 = .ok (.goto 4, 3) := by decide +kernel
theorem dX5_isThere_12 : decode cX5_isThere 12 = .ok (.iconst 0, 1) := by decide +kernel
theorem dX5_isThere_13 : decode cX5_isThere 13 = .ok (.ireturn, 1) := by decide +kernel
theorem dX5_hasPlace_0 : decode cX5_hasPlace 0 = .ok (.iload_n 1, 1) := by decide +kernel
theorem dX5_hasPlace_1 : decode cX5_hasPlace 1 = .ok (.ifCond .lt 15, 3) := by decide +kernel
theorem dX5_hasPlace_4 : decode cX5_hasPlace 4 = .ok (.iload_n 1, 1) := by decide +kernel
theorem dX5_hasPlace_5 : decode cX5_hasPlace 5 = .ok (.aload_n 0, 1) := by decide +kernel
theorem dX5_hasPlace_6 : decode cX5_hasPlace 6 = .ok (.getfield 19, 3) := by decide +kernel
theorem dX5_hasPlace_9 : decode cX5_hasPlace 9 = .ok (.if_icmp .ge 7, 3) := by decide +kernel
theorem dX5_hasPlace_12 : decode cX5_hasPlace 12 = .ok (.iconst 1, 1) := by decide +kernel
theorem dX5_hasPlace_13 : decode cX5_hasPlace 13 = .ok (.goto 4, 3) := by decide +kernel
theorem dX5_hasPlace_16 : decode cX5_hasPlace 16 = .ok (.iconst 0, 1) := by decide +kernel
theorem dX5_hasPlace_17 : decode cX5_hasPlace 17 = .ok (.ireturn, 1) := by decide +kernel
theorem dX5_hasStretch_0 : decode cX5_hasStretch 0 = .ok (.iload_n 2, 1) := by decide +kernel
theorem dX5_hasStretch_1 : decode cX5_hasStretch 1 = .ok (.ifCond .lt 29, 3) := by decide +kernel
theorem dX5_hasStretch_4 : decode cX5_hasStretch 4 = .ok (.iload_n 1, 1) := by decide +kernel
theorem dX5_hasStretch_5 : decode cX5_hasStretch 5 = .ok (.ifCond .lt 25, 3) := by decide +kernel
theorem dX5_hasStretch_8 : decode cX5_hasStretch 8 = .ok (.iload_n 2, 1) := by decide +kernel
theorem dX5_hasStretch_9 : decode cX5_hasStretch 9 = .ok (.aload_n 0, 1) := by decide +kernel
theorem dX5_hasStretch_10 : decode cX5_hasStretch 10 = .ok (.getfield 19, 3) := by decide +kernel
theorem dX5_hasStretch_13 : decode cX5_hasStretch 13 = .ok (.if_icmp .gt 17, 3) := by decide +kernel
theorem dX5_hasStretch_16 : decode cX5_hasStretch 16 = .ok (.iload_n 1, 1) := by decide +kernel
theorem dX5_hasStretch_17 : decode cX5_hasStretch 17 = .ok (.aload_n 0, 1) := by decide +kernel
theorem dX5_hasStretch_18 : decode cX5_hasStretch 18 = .ok (.getfield 19, 3) := by decide +kernel
theorem dX5_hasStretch_21 : decode cX5_hasStretch 21 = .ok (.iload_n 2, 1) := by decide +kernel
theorem dX5_hasStretch_22 : decode cX5_hasStretch 22 = .ok (.isub, 1) := by decide +kernel
theorem dX5_hasStretch_23 : decode cX5_hasStretch 23 = .ok (.if_icmp .gt 7, 3) := by decide +kernel
theorem dX5_hasStretch_26 : decode cX5_hasStretch 26 = .ok (.iconst 1, 1) := by decide +kernel
theorem dX5_hasStretch_27 : decode cX5_hasStretch 27 = .ok (.goto 4, 3) := by decide +kernel
theorem dX5_hasStretch_30 : decode cX5_hasStretch 30 = .ok (.iconst 0, 1) := by decide +kernel
theorem dX5_hasStretch_31 : decode cX5_hasStretch 31 = .ok (.ireturn, 1) := by decide +kernel
theorem dX5_asItem_0 : decode cX5_asItem 0 = .ok (.aload_n 0, 1) := by decide +kernel
theorem dX5_asItem_1 : decode cX5_asItem 1 = .ok (.getfield 11, 3) := by decide +kernel
theorem dX5_asItem_4 : decode cX5_asItem 4 = .ok (.tableswitch 62 0 4 #[36, 41, 46, 62, 50], 36) := by decide +kernel
theorem dX5_asItem_40 : decode cX5_asItem 40 = .ok (.lload_n 1, 1) := by decide +kernel
theorem dX5_asItem_41 : decode cX5_asItem 41 = .ok (.l2i, 1) := by decide +kernel
theorem dX5_asItem_42 : decode cX5_asItem 42 = .ok (.i2b, 1) := by decide +kernel
theorem dX5_asItem_43 : decode cX5_asItem 43 = .ok (.i2l, 1) := by decide +kernel
theorem dX5_asItem_44 : decode cX5_asItem 44 = .ok (.lreturn, 1) := by decide +kernel
theorem dX5_asItem_45 : decode cX5_asItem 45 = .ok (.lload_n 1, 1) := by decide +kernel
theorem dX5_asItem_46 : decode cX5_asItem 46 = .ok (.l2i, 1) := by decide +kernel
theorem dX5_asItem_47 : decode cX5_asItem 47 = .ok (.i2s, 1) := by decide +kernel
theorem dX5_asItem_48 : decode cX5_asItem 48 = .ok (.i2l, 1) := by decide +kernel
theorem dX5_asItem_49 : decode cX5_asItem 49 = .ok (.lreturn, 1) := by decide +kernel
theorem dX5_asItem_50 : decode cX5_asItem 50 = .ok (.lload_n 1, 1) := by decide +kernel
theorem dX5_asItem_51 : decode cX5_asItem 51 = .ok (.l2i, 1) := by decide +kernel
theorem dX5_asItem_52 : decode cX5_asItem 52 = .ok (.i2l, 1) := by decide +kernel
theorem dX5_asItem_53 : decode cX5_asItem 53 = .ok (.lreturn, 1) := by decide +kernel
theorem dX5_asItem_54 : decode cX5_asItem 54 = .ok (.lload_n 1, 1) := by decide +kernel
theorem dX5_asItem_55 : decode cX5_asItem 55 = .ok (.lconst 0, 1) := by decide +kernel
theorem dX5_asItem_56 : decode cX5_asItem 56 = .ok (.lcmp, 1) := by decide +kernel
theorem dX5_asItem_57 : decode cX5_asItem 57 = .ok (.ifCond .eq 7, 3) := by decide +kernel
theorem dX5_asItem_60 : decode cX5_asItem 60 = .ok (.lconst 1, 1) := by decide +kernel
theorem dX5_asItem_61 : decode cX5_asItem 61 = .ok (.goto 4, 3) := by decide +kernel
theorem dX5_asItem_64 : decode cX5_asItem 64 = .ok (.lconst 0, 1) := by decide +kernel
theorem dX5_asItem_65 : decode cX5_asItem 65 = .ok (.lreturn, 1) := by decide +kernel
theorem dX5_asItem_66 : decode cX5_asItem 66 = .ok (.lload_n 1, 1) := by decide +kernel
theorem dX5_asItem_67 : decode cX5_asItem 67 = .ok (.lreturn, 1) := by decide +kernel
theorem dX6_init_0 : decode cX6_init 0 = .ok (.aload_n 0, 1) := by decide +kernel
theorem dX6_init_1 : decode cX6_init 1 = .ok (.iload_n 1, 1) := by decide +kernel
theorem dX6_init_2 : decode cX6_init 2 = .ok (.iload_n 2, 1) := by decide +kernel
theorem dX6_init_3 : decode cX6_init 3 = .ok (.iload_n 3, 1) := by decide +kernel
theorem dX6_init_4 : decode cX6_init 4 = .ok (.invokespecial 1, 3) := by decide +kernel
theorem dX6_init_7 : decode cX6_init 7 = .ok (.return_, 1) := by decide +kernel
theorem dX6_worth_0 : decode cX6_worth 0 = .ok (.aload_n 1, 1) := by decide +kernel
theorem dX6_worth_1 : decode cX6_worth 1 = .ok (.aload_n 0, 1) := by decide +kernel
theorem dX6_worth_2 : decode cX6_worth 2 = .ok (.getfield 7, 3) := by decide +kernel
theorem dX6_worth_5 : decode cX6_worth 5 = .ok (.invokevirtual 13, 3) := by decide +kernel
theorem dX6_worth_8 : decode cX6_worth 8 = .ok (.ireturn, 1) := by decide +kernel
theorem dX6_counts_0 : decode cX6_counts 0 = .ok (.aload_n 2, 1) := by decide +kernel
theorem dX6_counts_1 : decode cX6_counts 1 = .ok (.bipush 70, 2) := by decide +kernel
theorem dX6_counts_3 : decode cX6_counts 3 = .ok (.invokevirtual 19, 3) := by decide +kernel
theorem dX6_counts_6 : decode cX6_counts 6 = .ok (.aload_n 0, 1) := by decide +kernel
theorem dX6_counts_7 : decode cX6_counts 7 = .ok (.iload_n 1, 1) := by decide +kernel
theorem dX6_counts_8 : decode cX6_counts 8 = .ok (.aload_n 2, 1) := by decide +kernel
theorem dX6_counts_9 : decode cX6_counts 9 = .ok (.invokespecial 25, 3) := by decide +kernel
theorem dX6_counts_12 : decode cX6_counts 12 = .ok (.aload_n 0, 1) := by decide +kernel
theorem dX6_counts_13 : decode cX6_counts 13 = .ok (.iconst 2, 1) := by decide +kernel
theorem dX6_counts_14 : decode cX6_counts 14 = .ok (.aload_n 2, 1) := by decide +kernel
theorem dX6_counts_15 : decode cX6_counts 15 = .ok (.invokespecial 29, 3) := by decide +kernel
theorem dX6_counts_18 : decode cX6_counts 18 = .ok (.iadd, 1) := by decide +kernel
theorem dX6_counts_19 : decode cX6_counts 19 = .ok (.ireturn, 1) := by decide +kernel
theorem dX6_meets_0 : decode cX6_meets 0 = .ok (.aload_n 2, 1) := by decide +kernel
theorem dX6_meets_1 : decode cX6_meets 1 = .ok (.bipush 71, 2) := by decide +kernel
theorem dX6_meets_3 : decode cX6_meets 3 = .ok (.invokevirtual 19, 3) := by decide +kernel
theorem dX6_meets_6 : decode cX6_meets 6 = .ok (.aload_n 0, 1) := by decide +kernel
theorem dX6_meets_7 : decode cX6_meets 7 = .ok (.iload_n 1, 1) := by decide +kernel
theorem dX6_meets_8 : decode cX6_meets 8 = .ok (.aload_n 2, 1) := by decide +kernel
theorem dX6_meets_9 : decode cX6_meets 9 = .ok (.invokespecial 29, 3) := by decide +kernel
theorem dX6_meets_12 : decode cX6_meets 12 = .ok (.aload_n 0, 1) := by decide +kernel
theorem dX6_meets_13 : decode cX6_meets 13 = .ok (.getfield 32, 3) := by decide +kernel
theorem dX6_meets_16 : decode cX6_meets 16 = .ok (.ixor, 1) := by decide +kernel
theorem dX6_meets_17 : decode cX6_meets 17 = .ok (.ireturn, 1) := by decide +kernel
theorem dX7_init_0 : decode cX7_init 0 = .ok (.aload_n 0, 1) := by decide +kernel
theorem dX7_init_1 : decode cX7_init 1 = .ok (.invokespecial 3, 3) := by decide +kernel
theorem dX7_init_4 : decode cX7_init 4 = .ok (.aload_n 0, 1) := by decide +kernel
theorem dX7_init_5 : decode cX7_init 5 = .ok (.bipush 100, 2) := by decide +kernel
theorem dX7_init_7 : decode cX7_init 7 = .ok (.newarray .byte, 2) := by decide +kernel
theorem dX7_init_9 : decode cX7_init 9 = .ok (.putfield 9, 3) := by decide +kernel
theorem dX7_init_12 : decode cX7_init 12 = .ok (.aload_n 0, 1) := by decide +kernel
theorem dX7_init_13 : decode cX7_init 13 = .ok (.bipush 10, 2) := by decide +kernel
theorem dX7_init_15 : decode cX7_init 15 = .ok (.newarray .int, 2) := by decide +kernel
theorem dX7_init_17 : decode cX7_init 17 = .ok (.putfield 15, 3) := by decide +kernel
theorem dX7_init_20 : decode cX7_init 20 = .ok (.aload_n 0, 1) := by decide +kernel
theorem dX7_init_21 : decode cX7_init 21 = .ok (.bipush 10, 2) := by decide +kernel
theorem dX7_init_23 : decode cX7_init 23 = .ok (.newarray .int, 2) := by decide +kernel
theorem dX7_init_25 : decode cX7_init 25 = .ok (.putfield 19, 3) := by decide +kernel
theorem dX7_init_28 : decode cX7_init 28 = .ok (.aload_n 0, 1) := by decide +kernel
theorem dX7_init_29 : decode cX7_init 29 = .ok (.bipush 10, 2) := by decide +kernel
theorem dX7_init_31 : decode cX7_init 31 = .ok (.newarray .int, 2) := by decide +kernel
theorem dX7_init_33 : decode cX7_init 33 = .ok (.putfield 22, 3) := by decide +kernel
theorem dX7_init_36 : decode cX7_init 36 = .ok (.aload_n 0, 1) := by decide +kernel
theorem dX7_init_37 : decode cX7_init 37 = .ok (.bipush 100, 2) := by decide +kernel
theorem dX7_init_39 : decode cX7_init 39 = .ok (.newarray .int, 2) := by decide +kernel
theorem dX7_init_41 : decode cX7_init 41 = .ok (.putfield 25, 3) := by decide +kernel
theorem dX7_init_44 : decode cX7_init 44 = .ok (.return_, 1) := by decide +kernel
theorem dX7_understands_0 : decode cX7_understands 0 = .ok (.aload_n 1, 1) := by decide +kernel
theorem dX7_understands_1 : decode cX7_understands 1 = .ok (.iconst 0, 1) := by decide +kernel
theorem dX7_understands_2 : decode cX7_understands 2 = .ok (.aload_n 0, 1) := by decide +kernel
theorem dX7_understands_3 : decode cX7_understands 3 = .ok (.getfield 9, 3) := by decide +kernel
theorem dX7_understands_6 : decode cX7_understands 6 = .ok (.iconst 0, 1) := by decide +kernel
theorem dX7_understands_7 : decode cX7_understands 7 = .ok (.bipush 100, 2) := by decide +kernel
theorem dX7_understands_9 : decode cX7_understands 9 = .ok (.invokestatic 28, 3) := by decide +kernel
theorem dX7_understands_12 : decode cX7_understands 12 = .ok (.aload_n 0, 1) := by decide +kernel
theorem dX7_understands_13 : decode cX7_understands 13 = .ok (.iload_n 2, 1) := by decide +kernel
theorem dX7_understands_14 : decode cX7_understands 14 = .ok (.putfield 34, 3) := by decide +kernel
theorem dX7_understands_17 : decode cX7_understands 17 = .ok (.aload_n 0, 1) := by decide +kernel
theorem dX7_understands_18 : decode cX7_understands 18 = .ok (.iconst 0, 1) := by decide +kernel
theorem dX7_understands_19 : decode cX7_understands 19 = .ok (.putfield 38, 3) := by decide +kernel
theorem dX7_understands_22 : decode cX7_understands 22 = .ok (.aload_n 0, 1) := by decide +kernel
theorem dX7_understands_23 : decode cX7_understands 23 = .ok (.iconst 0, 1) := by decide +kernel
theorem dX7_understands_24 : decode cX7_understands 24 = .ok (.putfield 41, 3) := by decide +kernel
theorem dX7_understands_27 : decode cX7_understands 27 = .ok (.aload_n 0, 1) := by decide +kernel
theorem dX7_understands_28 : decode cX7_understands 28 = .ok (.iconst 0, 1) := by decide +kernel
theorem dX7_understands_29 : decode cX7_understands 29 = .ok (.putfield 44, 3) := by decide +kernel
theorem dX7_understands_32 : decode cX7_understands 32 = .ok (.iconst 0, 1) := by decide +kernel
theorem dX7_understands_33 : decode cX7_understands 33 = .ok (.istore_n 3, 1) := by decide +kernel
theorem dX7_understands_34 : decode cX7_understands 34 = .ok (.iload_n 3, 1) := by decide +kernel
theorem dX7_understands_35 : decode cX7_understands 35 = .ok (.bipush 10, 2) := by decide +kernel
theorem dX7_understands_37 : decode cX7_understands 37 = .ok (.if_icmp .ge 54, 3) := by decide +kernel
theorem dX7_understands_40 : decode cX7_understands 40 = .ok (.iload_n 3, 1) := by decide +kernel
theorem dX7_understands_41 : decode cX7_understands 41 = .ok (.ifCond .le 14, 3) := by decide +kernel
theorem dX7_understands_44 : decode cX7_understands 44 = .ok (.aload_n 0, 1) := by decide +kernel
theorem dX7_understands_45 : decode cX7_understands 45 = .ok (.bipush 59, 2) := by decide +kernel
theorem dX7_understands_47 : decode cX7_understands 47 = .ok (.invokevirtual 47, 3) := by decide +kernel
theorem dX7_understands_50 : decode cX7_understands 50 = .ok (.ifCond .ne 5, 3) := by decide +kernel
theorem dX7_understands_53 : decode cX7_understands 53 = .ok (.iconst 0, 1) := by decide +kernel
theorem dX7_understands_54 : decode cX7_understands 54 = .ok (.ireturn, 1) := by decide +kernel
theorem dX7_understands_55 : decode cX7_understands 55 = .ok (.aload_n 0, 1) := by decide +kernel
theorem dX7_understands_56 : decode cX7_understands 56 = .ok (.iload_n 3, 1) := by decide +kernel
theorem dX7_understands_57 : decode cX7_understands 57 = .ok (.invokevirtual 51, 3) := by decide +kernel
theorem dX7_understands_60 : decode cX7_understands 60 = .ok (.ifCond .ne 5, 3) := by decide +kernel
theorem dX7_understands_63 : decode cX7_understands 63 = .ok (.iconst 0, 1) := by decide +kernel
theorem dX7_understands_64 : decode cX7_understands 64 = .ok (.ireturn, 1) := by decide +kernel
theorem dX7_understands_65 : decode cX7_understands 65 = .ok (.aload_n 0, 1) := by decide +kernel
theorem dX7_understands_66 : decode cX7_understands 66 = .ok (.iload_n 3, 1) := by decide +kernel
theorem dX7_understands_67 : decode cX7_understands 67 = .ok (.iconst 1, 1) := by decide +kernel
theorem dX7_understands_68 : decode cX7_understands 68 = .ok (.iadd, 1) := by decide +kernel
theorem dX7_understands_69 : decode cX7_understands 69 = .ok (.putfield 41, 3) := by decide +kernel
theorem dX7_understands_72 : decode cX7_understands 72 = .ok (.aload_n 0, 1) := by decide +kernel
theorem dX7_understands_73 : decode cX7_understands 73 = .ok (.getfield 38, 3) := by decide +kernel
theorem dX7_understands_76 : decode cX7_understands 76 = .ok (.aload_n 0, 1) := by decide +kernel
theorem dX7_understands_77 : decode cX7_understands 77 = .ok (.getfield 34, 3) := by decide +kernel
theorem dX7_understands_80 : decode cX7_understands 80 = .ok (.if_icmp .ne 5, 3) := by decide +kernel
theorem dX7_understands_83 : decode cX7_understands 83 = .ok (.iconst 1, 1) := by decide +kernel
theorem dX7_understands_84 : decode cX7_understands 84 = .ok (.ireturn, 1) := by decide +kernel
theorem dX7_understands_85 : decode cX7_understands 85 = .ok (.iinc 3 1, 3) := by decide +kernel
theorem dX7_understands_88 : decode cX7_understands 88 = .ok (.goto (-54), 3) := by decide +kernel
theorem dX7_understands_91 : decode cX7_understands 91 = .ok (.iconst 0, 1) := by decide +kernel
theorem dX7_understands_92 : decode cX7_understands 92 = .ok (.ireturn, 1) := by decide +kernel
theorem dX7_takes_0 : decode cX7_takes 0 = .ok (.aload_n 0, 1) := by decide +kernel
theorem dX7_takes_1 : decode cX7_takes 1 = .ok (.getfield 38, 3) := by decide +kernel
theorem dX7_takes_4 : decode cX7_takes 4 = .ok (.aload_n 0, 1) := by decide +kernel
theorem dX7_takes_5 : decode cX7_takes 5 = .ok (.getfield 34, 3) := by decide +kernel
theorem dX7_takes_8 : decode cX7_takes 8 = .ok (.if_icmp .ge 16, 3) := by decide +kernel
theorem dX7_takes_11 : decode cX7_takes 11 = .ok (.aload_n 0, 1) := by decide +kernel
theorem dX7_takes_12 : decode cX7_takes 12 = .ok (.getfield 9, 3) := by decide +kernel
theorem dX7_takes_15 : decode cX7_takes 15 = .ok (.aload_n 0, 1) := by decide +kernel
theorem dX7_takes_16 : decode cX7_takes 16 = .ok (.getfield 38, 3) := by decide +kernel
theorem dX7_takes_19 : decode cX7_takes 19 = .ok (.baload, 1) := by decide +kernel
theorem dX7_takes_20 : decode cX7_takes 20 = .ok (.iload_n 1, 1) := by decide +kernel
theorem dX7_takes_21 : decode cX7_takes 21 = .ok (.if_icmp .eq 5, 3) := by decide +kernel
theorem dX7_takes_24 : decode cX7_takes 24 = .ok (.iconst 0, 1) := by decide +kernel
theorem dX7_takes_25 : decode cX7_takes 25 = .ok (.ireturn, 1) := by decide +kernel
theorem dX7_takes_26 : decode cX7_takes 26 = .ok (.aload_n 0, 1) := by decide +kernel
theorem dX7_takes_27 : decode cX7_takes 27 = .ok (.dup, 1) := by decide +kernel
theorem dX7_takes_28 : decode cX7_takes 28 = .ok (.getfield 38, 3) := by decide +kernel
theorem dX7_takes_31 : decode cX7_takes 31 = .ok (.iconst 1, 1) := by decide +kernel
theorem dX7_takes_32 : decode cX7_takes 32 = .ok (.iadd, 1) := by decide +kernel
theorem dX7_takes_33 : decode cX7_takes 33 = .ok (.putfield 38, 3) := by decide +kernel
theorem dX7_takes_36 : decode cX7_takes 36 = .ok (.iconst 1, 1) := by decide +kernel
theorem dX7_takes_37 : decode cX7_takes 37 = .ok (.ireturn, 1) := by decide +kernel
theorem dX7_takesClause_0 : decode cX7_takesClause 0 = .ok (.aload_n 0, 1) := by decide +kernel
theorem dX7_takesClause_1 : decode cX7_takesClause 1 = .ok (.getfield 15, 3) := by decide +kernel
theorem dX7_takesClause_4 : decode cX7_takesClause 4 = .ok (.iload_n 1, 1) := by decide +kernel
theorem dX7_takesClause_5 : decode cX7_takesClause 5 = .ok (.aload_n 0, 1) := by decide +kernel
theorem dX7_takesClause_6 : decode cX7_takesClause 6 = .ok (.invokevirtual 55, 3) := by decide +kernel
theorem dX7_takesClause_9 : decode cX7_takesClause 9 = .ok (.iastore, 1) := by decide +kernel
theorem dX7_takesClause_10 : decode cX7_takesClause 10 = .ok (.aload_n 0, 1) := by decide +kernel
theorem dX7_takesClause_11 : decode cX7_takesClause 11 = .ok (.getfield 15, 3) := by decide +kernel
theorem dX7_takesClause_14 : decode cX7_takesClause 14 = .ok (.iload_n 1, 1) := by decide +kernel
theorem dX7_takesClause_15 : decode cX7_takesClause 15 = .ok (.iaload, 1) := by decide +kernel
theorem dX7_takesClause_16 : decode cX7_takesClause 16 = .ok (.ifCond .lt 12, 3) := by decide +kernel
theorem dX7_takesClause_19 : decode cX7_takesClause 19 = .ok (.aload_n 0, 1) := by decide +kernel
theorem dX7_takesClause_20 : decode cX7_takesClause 20 = .ok (.bipush 32, 2) := by decide +kernel
theorem dX7_takesClause_22 : decode cX7_takesClause 22 = .ok (.invokevirtual 47, 3) := by decide +kernel
theorem dX7_takesClause_25 : decode cX7_takesClause 25 = .ok (.ifCond .ne 5, 3) := by decide +kernel
theorem dX7_takesClause_28 : decode cX7_takesClause 28 = .ok (.iconst 0, 1) := by decide +kernel
theorem dX7_takesClause_29 : decode cX7_takesClause 29 = .ok (.ireturn, 1) := by decide +kernel
theorem dX7_takesClause_30 : decode cX7_takesClause 30 = .ok (.aload_n 0, 1) := by decide +kernel
theorem dX7_takesClause_31 : decode cX7_takesClause 31 = .ok (.getfield 19, 3) := by decide +kernel
theorem dX7_takesClause_34 : decode cX7_takesClause 34 = .ok (.iload_n 1, 1) := by decide +kernel
theorem dX7_takesClause_35 : decode cX7_takesClause 35 = .ok (.aload_n 0, 1) := by decide +kernel
theorem dX7_takesClause_36 : decode cX7_takesClause 36 = .ok (.invokevirtual 59, 3) := by decide +kernel
theorem dX7_takesClause_39 : decode cX7_takesClause 39 = .ok (.iastore, 1) := by decide +kernel
theorem dX7_takesClause_40 : decode cX7_takesClause 40 = .ok (.aload_n 0, 1) := by decide +kernel
theorem dX7_takesClause_41 : decode cX7_takesClause 41 = .ok (.getfield 19, 3) := by decide +kernel
theorem dX7_takesClause_44 : decode cX7_takesClause 44 = .ok (.iload_n 1, 1) := by decide +kernel
theorem dX7_takesClause_45 : decode cX7_takesClause 45 = .ok (.iaload, 1) := by decide +kernel
theorem dX7_takesClause_46 : decode cX7_takesClause 46 = .ok (.ifCond .lt 20, 3) := by decide +kernel
theorem dX7_takesClause_49 : decode cX7_takesClause 49 = .ok (.aload_n 0, 1) := by decide +kernel
theorem dX7_takesClause_50 : decode cX7_takesClause 50 = .ok (.bipush 32, 2) := by decide +kernel
theorem dX7_takesClause_52 : decode cX7_takesClause 52 = .ok (.invokevirtual 47, 3) := by decide +kernel
theorem dX7_takesClause_55 : decode cX7_takesClause 55 = .ok (.ifCond .eq 11, 3) := by decide +kernel
theorem dX7_takesClause_58 : decode cX7_takesClause 58 = .ok (.aload_n 0, 1) := by decide +kernel
theorem dX7_takesClause_59 : decode cX7_takesClause 59 = .ok (.iconst 0, 1) := by decide +kernel
theorem dX7_takesClause_60 : decode cX7_takesClause 60 = .ok (.invokevirtual 62, 3) := by decide +kernel
theorem dX7_takesClause_63 : decode cX7_takesClause 63 = .ok (.ifCond .ne 5, 3) := by decide +kernel
theorem dX7_takesClause_66 : decode cX7_takesClause 66 = .ok (.iconst 0, 1) := by decide +kernel
theorem dX7_takesClause_67 : decode cX7_takesClause 67 = .ok (.ireturn, 1) := by decide +kernel
theorem dX7_takesClause_68 : decode cX7_takesClause 68 = .ok (.aload_n 0, 1) := by decide +kernel
theorem dX7_takesClause_69 : decode cX7_takesClause 69 = .ok (.getfield 22, 3) := by decide +kernel
theorem dX7_takesClause_72 : decode cX7_takesClause 72 = .ok (.iload_n 1, 1) := by decide +kernel
theorem dX7_takesClause_73 : decode cX7_takesClause 73 = .ok (.aload_n 0, 1) := by decide +kernel
theorem dX7_takesClause_74 : decode cX7_takesClause 74 = .ok (.getfield 44, 3) := by decide +kernel
theorem dX7_takesClause_77 : decode cX7_takesClause 77 = .ok (.iastore, 1) := by decide +kernel
theorem dX7_takesClause_78 : decode cX7_takesClause 78 = .ok (.iconst 1, 1) := by decide +kernel
theorem dX7_takesClause_79 : decode cX7_takesClause 79 = .ok (.ireturn, 1) := by decide +kernel
theorem dX7_takenWord_0 : decode cX7_takenWord 0 = .ok (.aload_n 0, 1) := by decide +kernel
theorem dX7_takenWord_1 : decode cX7_takenWord 1 = .ok (.ldc 65, 2) := by decide +kernel
theorem dX7_takenWord_3 : decode cX7_takenWord 3 = .ok (.invokevirtual 67, 3) := by decide +kernel
theorem dX7_takenWord_6 : decode cX7_takenWord 6 = .ok (.istore_n 1, 1) := by decide +kernel
theorem dX7_takenWord_7 : decode cX7_takenWord 7 = .ok (.iload_n 1, 1) := by decide +kernel
theorem dX7_takenWord_8 : decode cX7_takenWord 8 = .ok (.tableswitch 73 0 2 #[28, 43, 58], 28) := by decide +kernel
theorem dX7_takenWord_36 : decode cX7_takenWord 36 = .ok (.aload_n 0, 1) := by decide +kernel
theorem dX7_takenWord_37 : decode cX7_takenWord 37 = .ok (.ldc 71, 2) := by decide +kernel
theorem dX7_takenWord_39 : decode cX7_takenWord 39 = .ok (.invokevirtual 73, 3) := by decide +kernel
theorem dX7_takenWord_42 : decode cX7_takenWord 42 = .ok (.ifCond .eq 7, 3) := by decide +kernel
theorem dX7_takenWord_45 : decode cX7_takenWord 45 = .ok (.iload_n 1, 1) := by decide +kernel
theorem dX7_takenWord_46 : decode cX7_takenWord 46 = .ok (.goto 4, 3) := by decide +kernel
theorem dX7_takenWord_49 : decode cX7_takenWord 49 = .ok (.iconst (-1), 1) := by decide +kernel
theorem dX7_takenWord_50 : decode cX7_takenWord 50 = .ok (.ireturn, 1) := by decide +kernel
theorem dX7_takenWord_51 : decode cX7_takenWord 51 = .ok (.aload_n 0, 1) := by decide +kernel
theorem dX7_takenWord_52 : decode cX7_takenWord 52 = .ok (.ldc 77, 2) := by decide +kernel
theorem dX7_takenWord_54 : decode cX7_takenWord 54 = .ok (.invokevirtual 73, 3) := by decide +kernel
theorem dX7_takenWord_57 : decode cX7_takenWord 57 = .ok (.ifCond .eq 7, 3) := by decide +kernel
theorem dX7_takenWord_60 : decode cX7_takenWord 60 = .ok (.iload_n 1, 1) := by decide +kernel
theorem dX7_takenWord_61 : decode cX7_takenWord 61 = .ok (.goto 4, 3) := by decide +kernel
theorem dX7_takenWord_64 : decode cX7_takenWord 64 = .ok (.iconst (-1), 1) := by decide +kernel
theorem dX7_takenWord_65 : decode cX7_takenWord 65 = .ok (.ireturn, 1) := by decide +kernel
theorem dX7_takenWord_66 : decode cX7_takenWord 66 = .ok (.aload_n 0, 1) := by decide +kernel
theorem dX7_takenWord_67 : decode cX7_takenWord 67 = .ok (.ldc 79, 2) := by decide +kernel
theorem dX7_takenWord_69 : decode cX7_takenWord 69 = .ok (.invokevirtual 73, 3) := by decide +kernel
theorem dX7_takenWord_72 : decode cX7_takenWord 72 = .ok (.ifCond .eq 7, 3) := by decide +kernel
theorem dX7_takenWord_75 : decode cX7_takenWord 75 = .ok (.iload_n 1, 1) := by decide +kernel
theorem dX7_takenWord_76 : decode cX7_takenWord 76 = .ok (.goto 4, 3) := by decide +kernel
theorem dX7_takenWord_79 : decode cX7_takenWord 79 = .ok (.iconst (-1), 1) := by decide +kernel
theorem dX7_takenWord_80 : decode cX7_takenWord 80 = .ok (.ireturn, 1) := by decide +kernel
theorem dX7_takenWord_81 : decode cX7_takenWord 81 = .ok (.iconst (-1), 1) := by decide +kernel
theorem dX7_takenWord_82 : decode cX7_takenWord 82 = .ok (.ireturn, 1) := by decide +kernel
theorem dX7_takesAll_0 : decode cX7_takesAll 0 = .ok (.iconst 0, 1) := by decide +kernel
theorem dX7_takesAll_1 : decode cX7_takesAll 1 = .ok (.istore_n 2, 1) := by decide +kernel
theorem dX7_takesAll_2 : decode cX7_takesAll 2 = .ok (.iload_n 2, 1) := by decide +kernel
theorem dX7_takesAll_3 : decode cX7_takesAll 3 = .ok (.aload_n 1, 1) := by decide +kernel
theorem dX7_takesAll_4 : decode cX7_takesAll 4 = .ok (.invokevirtual 81, 3) := by decide +kernel
theorem dX7_takesAll_7 : decode cX7_takesAll 7 = .ok (.if_icmp .ge 23, 3) := by decide +kernel
theorem dX7_takesAll_10 : decode cX7_takesAll 10 = .ok (.aload_n 0, 1) := by decide +kernel
theorem dX7_takesAll_11 : decode cX7_takesAll 11 = .ok (.aload_n 1, 1) := by decide +kernel
theorem dX7_takesAll_12 : decode cX7_takesAll 12 = .ok (.iload_n 2, 1) := by decide +kernel
theorem dX7_takesAll_13 : decode cX7_takesAll 13 = .ok (.invokevirtual 85, 3) := by decide +kernel
theorem dX7_takesAll_16 : decode cX7_takesAll 16 = .ok (.invokevirtual 47, 3) := by decide +kernel
theorem dX7_takesAll_19 : decode cX7_takesAll 19 = .ok (.ifCond .ne 5, 3) := by decide +kernel
theorem dX7_takesAll_22 : decode cX7_takesAll 22 = .ok (.iconst 0, 1) := by decide +kernel
theorem dX7_takesAll_23 : decode cX7_takesAll 23 = .ok (.ireturn, 1) := by decide +kernel
theorem dX7_takesAll_24 : decode cX7_takesAll 24 = .ok (.iinc 2 1, 3) := by decide +kernel
theorem dX7_takesAll_27 : decode cX7_takesAll 27 = .ok (.goto (-25), 3) := by decide +kernel
theorem dX7_takesAll_30 : decode cX7_takesAll 30 = .ok (.iconst 1, 1) := by decide +kernel
theorem dX7_takesAll_31 : decode cX7_takesAll 31 = .ok (.ireturn, 1) := by decide +kernel
theorem dX7_takenNumber_0 : decode cX7_takenNumber 0 = .ok (.aload_n 0, 1) := by decide +kernel
theorem dX7_takenNumber_1 : decode cX7_takenNumber 1 = .ok (.ldc 89, 2) := by decide +kernel
theorem dX7_takenNumber_3 : decode cX7_takenNumber 3 = .ok (.invokevirtual 67, 3) := by decide +kernel
theorem dX7_takenNumber_6 : decode cX7_takenNumber 6 = .ok (.istore_n 1, 1) := by decide +kernel
theorem dX7_takenNumber_7 : decode cX7_takenNumber 7 = .ok (.iload_n 1, 1) := by decide +kernel
theorem dX7_takenNumber_8 : decode cX7_takenNumber 8 = .ok (.ifCond .ge 5, 3) := by decide +kernel
theorem dX7_takenNumber_11 : decode cX7_takenNumber 11 = .ok (.iconst (-1), 1) := by decide +kernel
theorem dX7_takenNumber_12 : decode cX7_takenNumber 12 = .ok (.ireturn, 1) := by decide +kernel
theorem dX7_takenNumber_13 : decode cX7_takenNumber 13 = .ok (.aload_n 0, 1) := by decide +kernel
theorem dX7_takenNumber_14 : decode cX7_takenNumber 14 = .ok (.ldc 89, 2) := by decide +kernel
theorem dX7_takenNumber_16 : decode cX7_takenNumber 16 = .ok (.invokevirtual 67, 3) := by decide +kernel
theorem dX7_takenNumber_19 : decode cX7_takenNumber 19 = .ok (.istore_n 2, 1) := by decide +kernel
theorem dX7_takenNumber_20 : decode cX7_takenNumber 20 = .ok (.iload_n 2, 1) := by decide +kernel
theorem dX7_takenNumber_21 : decode cX7_takenNumber 21 = .ok (.ifCond .ge 7, 3) := by decide +kernel
theorem dX7_takenNumber_24 : decode cX7_takenNumber 24 = .ok (.iload_n 1, 1) := by decide +kernel
theorem dX7_takenNumber_25 : decode cX7_takenNumber 25 = .ok (.goto 9, 3) := by decide +kernel
theorem dX7_takenNumber_28 : decode cX7_takenNumber 28 = .ok (.iload_n 1, 1) := by decide +kernel
theorem dX7_takenNumber_29 : decode cX7_takenNumber 29 = .ok (.bipush 10, 2) := by decide +kernel
theorem dX7_takenNumber_31 : decode cX7_takenNumber 31 = .ok (.imul, 1) := by decide +kernel
theorem dX7_takenNumber_32 : decode cX7_takenNumber 32 = .ok (.iload_n 2, 1) := by decide +kernel
theorem dX7_takenNumber_33 : decode cX7_takenNumber 33 = .ok (.iadd, 1) := by decide +kernel
theorem dX7_takenNumber_34 : decode cX7_takenNumber 34 = .ok (.ireturn, 1) := by decide +kernel
theorem dX7_takesEither_0 : decode cX7_takesEither 0 = .ok (.aload_n 0, 1) := by decide +kernel
theorem dX7_takesEither_1 : decode cX7_takesEither 1 = .ok (.iload_n 1, 1) := by decide +kernel
theorem dX7_takesEither_2 : decode cX7_takesEither 2 = .ok (.invokevirtual 91, 3) := by decide +kernel
theorem dX7_takesEither_5 : decode cX7_takesEither 5 = .ok (.ifCond .ne 5, 3) := by decide +kernel
theorem dX7_takesEither_8 : decode cX7_takesEither 8 = .ok (.iconst 0, 1) := by decide +kernel
theorem dX7_takesEither_9 : decode cX7_takesEither 9 = .ok (.ireturn, 1) := by decide +kernel
theorem dX7_takesEither_10 : decode cX7_takesEither 10 = .ok (.iconst 0, 1) := by decide +kernel
theorem dX7_takesEither_11 : decode cX7_takesEither 11 = .ok (.istore_n 2, 1) := by decide +kernel
theorem dX7_takesEither_12 : decode cX7_takesEither 12 = .ok (.iload_n 2, 1) := by decide +kernel
theorem dX7_takesEither_13 : decode cX7_takesEither 13 = .ok (.bipush 100, 2) := by decide +kernel
theorem dX7_takesEither_15 : decode cX7_takesEither 15 = .ok (.if_icmp .ge 34, 3) := by decide +kernel
theorem dX7_takesEither_18 : decode cX7_takesEither 18 = .ok (.aload_n 0, 1) := by decide +kernel
theorem dX7_takesEither_19 : decode cX7_takesEither 19 = .ok (.bipush 124, 2) := by decide +kernel
theorem dX7_takesEither_21 : decode cX7_takesEither 21 = .ok (.invokevirtual 47, 3) := by decide +kernel
theorem dX7_takesEither_24 : decode cX7_takesEither 24 = .ok (.ifCond .eq 25, 3) := by decide +kernel
theorem dX7_takesEither_27 : decode cX7_takesEither 27 = .ok (.aload_n 0, 1) := by decide +kernel
theorem dX7_takesEither_28 : decode cX7_takesEither 28 = .ok (.iload_n 1, 1) := by decide +kernel
theorem dX7_takesEither_29 : decode cX7_takesEither 29 = .ok (.invokevirtual 91, 3) := by decide +kernel
theorem dX7_takesEither_32 : decode cX7_takesEither 32 = .ok (.ifCond .ne 5, 3) := by decide +kernel
theorem dX7_takesEither_35 : decode cX7_takesEither 35 = .ok (.iconst 0, 1) := by decide +kernel
theorem dX7_takesEither_36 : decode cX7_takesEither 36 = .ok (.ireturn, 1) := by decide +kernel
theorem dX7_takesEither_37 : decode cX7_takesEither 37 = .ok (.aload_n 0, 1) := by decide +kernel
theorem dX7_takesEither_38 : decode cX7_takesEither 38 = .ok (.bipush (-3), 2) := by decide +kernel
theorem dX7_takesEither_40 : decode cX7_takesEither 40 = .ok (.invokevirtual 94, 3) := by decide +kernel
theorem dX7_takesEither_43 : decode cX7_takesEither 43 = .ok (.iinc 2 1, 3) := by decide +kernel
theorem dX7_takesEither_46 : decode cX7_takesEither 46 = .ok (.goto (-34), 3) := by decide +kernel
theorem dX7_takesEither_49 : decode cX7_takesEither 49 = .ok (.iconst 1, 1) := by decide +kernel
theorem dX7_takesEither_50 : decode cX7_takesEither 50 = .ok (.ireturn, 1) := by decide +kernel
theorem dX7_takesBoth_0 : decode cX7_takesBoth 0 = .ok (.aload_n 0, 1) := by decide +kernel
theorem dX7_takesBoth_1 : decode cX7_takesBoth 1 = .ok (.iload_n 1, 1) := by decide +kernel
theorem dX7_takesBoth_2 : decode cX7_takesBoth 2 = .ok (.invokevirtual 98, 3) := by decide +kernel
theorem dX7_takesBoth_5 : decode cX7_takesBoth 5 = .ok (.ifCond .ne 5, 3) := by decide +kernel
theorem dX7_takesBoth_8 : decode cX7_takesBoth 8 = .ok (.iconst 0, 1) := by decide +kernel
theorem dX7_takesBoth_9 : decode cX7_takesBoth 9 = .ok (.ireturn, 1) := by decide +kernel
theorem dX7_takesBoth_10 : decode cX7_takesBoth 10 = .ok (.iconst 0, 1) := by decide +kernel
theorem dX7_takesBoth_11 : decode cX7_takesBoth 11 = .ok (.istore_n 2, 1) := by decide +kernel
theorem dX7_takesBoth_12 : decode cX7_takesBoth 12 = .ok (.iload_n 2, 1) := by decide +kernel
theorem dX7_takesBoth_13 : decode cX7_takesBoth 13 = .ok (.bipush 100, 2) := by decide +kernel
theorem dX7_takesBoth_15 : decode cX7_takesBoth 15 = .ok (.if_icmp .ge 34, 3) := by decide +kernel
theorem dX7_takesBoth_18 : decode cX7_takesBoth 18 = .ok (.aload_n 0, 1) := by decide +kernel
theorem dX7_takesBoth_19 : decode cX7_takesBoth 19 = .ok (.bipush 38, 2) := by decide +kernel
theorem dX7_takesBoth_21 : decode cX7_takesBoth 21 = .ok (.invokevirtual 47, 3) := by decide +kernel
theorem dX7_takesBoth_24 : decode cX7_takesBoth 24 = .ok (.ifCond .eq 25, 3) := by decide +kernel
theorem dX7_takesBoth_27 : decode cX7_takesBoth 27 = .ok (.aload_n 0, 1) := by decide +kernel
theorem dX7_takesBoth_28 : decode cX7_takesBoth 28 = .ok (.iload_n 1, 1) := by decide +kernel
theorem dX7_takesBoth_29 : decode cX7_takesBoth 29 = .ok (.invokevirtual 98, 3) := by decide +kernel
theorem dX7_takesBoth_32 : decode cX7_takesBoth 32 = .ok (.ifCond .ne 5, 3) := by decide +kernel
theorem dX7_takesBoth_35 : decode cX7_takesBoth 35 = .ok (.iconst 0, 1) := by decide +kernel
theorem dX7_takesBoth_36 : decode cX7_takesBoth 36 = .ok (.ireturn, 1) := by decide +kernel
theorem dX7_takesBoth_37 : decode cX7_takesBoth 37 = .ok (.aload_n 0, 1) := by decide +kernel
theorem dX7_takesBoth_38 : decode cX7_takesBoth 38 = .ok (.bipush (-2), 2) := by decide +kernel
theorem dX7_takesBoth_40 : decode cX7_takesBoth 40 = .ok (.invokevirtual 94, 3) := by decide +kernel
theorem dX7_takesBoth_43 : decode cX7_takesBoth 43 = .ok (.iinc 2 1, 3) := by decide +kernel
theorem dX7_takesBoth_46 : decode cX7_takesBoth 46 = .ok (.goto (-34), 3) := by decide +kernel
theorem dX7_takesBoth_49 : decode cX7_takesBoth 49 = .ok (.iconst 1, 1) := by decide +kernel
theorem dX7_takesBoth_50 : decode cX7_takesBoth 50 = .ok (.ireturn, 1) := by decide +kernel
theorem dX7_takesFactor_0 : decode cX7_takesFactor 0 = .ok (.iload_n 1, 1) := by decide +kernel
theorem dX7_takesFactor_1 : decode cX7_takesFactor 1 = .ok (.iconst 4, 1) := by decide +kernel
theorem dX7_takesFactor_2 : decode cX7_takesFactor 2 = .ok (.if_icmp .ge 31, 3) := by decide +kernel
theorem dX7_takesFactor_5 : decode cX7_takesFactor 5 = .ok (.aload_n 0, 1) := by decide +kernel
theorem dX7_takesFactor_6 : decode cX7_takesFactor 6 = .ok (.bipush 33, 2) := by decide +kernel
theorem dX7_takesFactor_8 : decode cX7_takesFactor 8 = .ok (.invokevirtual 47, 3) := by decide +kernel
theorem dX7_takesFactor_11 : decode cX7_takesFactor 11 = .ok (.ifCond .eq 22, 3) := by decide +kernel
theorem dX7_takesFactor_14 : decode cX7_takesFactor 14 = .ok (.aload_n 0, 1) := by decide +kernel
theorem dX7_takesFactor_15 : decode cX7_takesFactor 15 = .ok (.iload_n 1, 1) := by decide +kernel
theorem dX7_takesFactor_16 : decode cX7_takesFactor 16 = .ok (.iconst 1, 1) := by decide +kernel
theorem dX7_takesFactor_17 : decode cX7_takesFactor 17 = .ok (.iadd, 1) := by decide +kernel
theorem dX7_takesFactor_18 : decode cX7_takesFactor 18 = .ok (.invokevirtual 98, 3) := by decide +kernel
theorem dX7_takesFactor_21 : decode cX7_takesFactor 21 = .ok (.ifCond .ne 5, 3) := by decide +kernel
theorem dX7_takesFactor_24 : decode cX7_takesFactor 24 = .ok (.iconst 0, 1) := by decide +kernel
theorem dX7_takesFactor_25 : decode cX7_takesFactor 25 = .ok (.ireturn, 1) := by decide +kernel
theorem dX7_takesFactor_26 : decode cX7_takesFactor 26 = .ok (.aload_n 0, 1) := by decide +kernel
theorem dX7_takesFactor_27 : decode cX7_takesFactor 27 = .ok (.iconst (-1), 1) := by decide +kernel
theorem dX7_takesFactor_28 : decode cX7_takesFactor 28 = .ok (.invokevirtual 94, 3) := by decide +kernel
theorem dX7_takesFactor_31 : decode cX7_takesFactor 31 = .ok (.iconst 1, 1) := by decide +kernel
theorem dX7_takesFactor_32 : decode cX7_takesFactor 32 = .ok (.ireturn, 1) := by decide +kernel
theorem dX7_takesFactor_33 : decode cX7_takesFactor 33 = .ok (.iload_n 1, 1) := by decide +kernel
theorem dX7_takesFactor_34 : decode cX7_takesFactor 34 = .ok (.iconst 4, 1) := by decide +kernel
theorem dX7_takesFactor_35 : decode cX7_takesFactor 35 = .ok (.if_icmp .ge 37, 3) := by decide +kernel
theorem dX7_takesFactor_38 : decode cX7_takesFactor 38 = .ok (.aload_n 0, 1) := by decide +kernel
theorem dX7_takesFactor_39 : decode cX7_takesFactor 39 = .ok (.bipush 40, 2) := by decide +kernel
theorem dX7_takesFactor_41 : decode cX7_takesFactor 41 = .ok (.invokevirtual 47, 3) := by decide +kernel
theorem dX7_takesFactor_44 : decode cX7_takesFactor 44 = .ok (.ifCond .eq 28, 3) := by decide +kernel
theorem dX7_takesFactor_47 : decode cX7_takesFactor 47 = .ok (.aload_n 0, 1) := by decide +kernel
theorem dX7_takesFactor_48 : decode cX7_takesFactor 48 = .ok (.iload_n 1, 1) := by decide +kernel
theorem dX7_takesFactor_49 : decode cX7_takesFactor 49 = .ok (.iconst 1, 1) := by decide +kernel
theorem dX7_takesFactor_50 : decode cX7_takesFactor 50 = .ok (.iadd, 1) := by decide +kernel
theorem dX7_takesFactor_51 : decode cX7_takesFactor 51 = .ok (.invokevirtual 62, 3) := by decide +kernel
theorem dX7_takesFactor_54 : decode cX7_takesFactor 54 = .ok (.ifCond .eq 16, 3) := by decide +kernel
theorem dX7_takesFactor_57 : decode cX7_takesFactor 57 = .ok (.aload_n 0, 1) := by decide +kernel
theorem dX7_takesFactor_58 : decode cX7_takesFactor 58 = .ok (.bipush 41, 2) := by decide +kernel
theorem dX7_takesFactor_60 : decode cX7_takesFactor 60 = .ok (.invokevirtual 47, 3) := by decide +kernel
theorem dX7_takesFactor_63 : decode cX7_takesFactor 63 = .ok (.ifCond .eq 7, 3) := by decide +kernel
theorem dX7_takesFactor_66 : decode cX7_takesFactor 66 = .ok (.iconst 1, 1) := by decide +kernel
theorem dX7_takesFactor_67 : decode cX7_takesFactor 67 = .ok (.goto 4, 3) := by decide +kernel
theorem dX7_takesFactor_70 : decode cX7_takesFactor 70 = .ok (.iconst 0, 1) := by decide +kernel
theorem dX7_takesFactor_71 : decode cX7_takesFactor 71 = .ok (.ireturn, 1) := by decide +kernel
theorem dX7_takesFactor_72 : decode cX7_takesFactor 72 = .ok (.aload_n 0, 1) := by decide +kernel
theorem dX7_takesFactor_73 : decode cX7_takesFactor 73 = .ok (.ldc 101, 2) := by decide +kernel
theorem dX7_takesFactor_75 : decode cX7_takesFactor 75 = .ok (.invokevirtual 67, 3) := by decide +kernel
theorem dX7_takesFactor_78 : decode cX7_takesFactor 78 = .ok (.istore_n 2, 1) := by decide +kernel
theorem dX7_takesFactor_79 : decode cX7_takesFactor 79 = .ok (.iload_n 2, 1) := by decide +kernel
theorem dX7_takesFactor_80 : decode cX7_takesFactor 80 = .ok (.ifCond .ge 7, 3) := by decide +kernel
theorem dX7_takesFactor_83 : decode cX7_takesFactor 83 = .ok (.iconst (-1), 1) := by decide +kernel
theorem dX7_takesFactor_84 : decode cX7_takesFactor 84 = .ok (.goto 9, 3) := by decide +kernel
theorem dX7_takesFactor_87 : decode cX7_takesFactor 87 = .ok (.aload_n 0, 1) := by decide +kernel
theorem dX7_takesFactor_88 : decode cX7_takesFactor 88 = .ok (.ldc 103, 2) := by decide +kernel
theorem dX7_takesFactor_90 : decode cX7_takesFactor 90 = .ok (.invokevirtual 67, 3) := by decide +kernel
theorem dX7_takesFactor_93 : decode cX7_takesFactor 93 = .ok (.istore_n 3, 1) := by decide +kernel
theorem dX7_takesFactor_94 : decode cX7_takesFactor 94 = .ok (.iload_n 3, 1) := by decide +kernel
theorem dX7_takesFactor_95 : decode cX7_takesFactor 95 = .ok (.ifCond .ge 7, 3) := by decide +kernel
theorem dX7_takesFactor_98 : decode cX7_takesFactor 98 = .ok (.iconst (-1), 1) := by decide +kernel
theorem dX7_takesFactor_99 : decode cX7_takesFactor 99 = .ok (.goto 7, 3) := by decide +kernel
theorem dX7_takesFactor_102 : decode cX7_takesFactor 102 = .ok (.aload_n 0, 1) := by decide +kernel
theorem dX7_takesFactor_103 : decode cX7_takesFactor 103 = .ok (.invokevirtual 59, 3) := by decide +kernel
theorem dX7_takesFactor_106 : decode cX7_takesFactor 106 = .ok (.istore 4, 2) := by decide +kernel
theorem dX7_takesFactor_108 : decode cX7_takesFactor 108 = .ok (.iload 4, 2) := by decide +kernel
theorem dX7_takesFactor_110 : decode cX7_takesFactor 110 = .ok (.ifCond .ge 5, 3) := by decide +kernel
theorem dX7_takesFactor_113 : decode cX7_takesFactor 113 = .ok (.iconst 0, 1) := by decide +kernel
theorem dX7_takesFactor_114 : decode cX7_takesFactor 114 = .ok (.ireturn, 1) := by decide +kernel
theorem dX7_takesFactor_115 : decode cX7_takesFactor 115 = .ok (.aload_n 0, 1) := by decide +kernel
theorem dX7_takesFactor_116 : decode cX7_takesFactor 116 = .ok (.iload_n 2, 1) := by decide +kernel
theorem dX7_takesFactor_117 : decode cX7_takesFactor 117 = .ok (.iconst 3, 1) := by decide +kernel
theorem dX7_takesFactor_118 : decode cX7_takesFactor 118 = .ok (.imul, 1) := by decide +kernel
theorem dX7_takesFactor_119 : decode cX7_takesFactor 119 = .ok (.iload_n 3, 1) := by decide +kernel
theorem dX7_takesFactor_120 : decode cX7_takesFactor 120 = .ok (.iadd, 1) := by decide +kernel
theorem dX7_takesFactor_121 : decode cX7_takesFactor 121 = .ok (.bipush 100, 2) := by decide +kernel
theorem dX7_takesFactor_123 : decode cX7_takesFactor 123 = .ok (.imul, 1) := by decide +kernel
theorem dX7_takesFactor_124 : decode cX7_takesFactor 124 = .ok (.iload 4, 2) := by decide +kernel
theorem dX7_takesFactor_126 : decode cX7_takesFactor 126 = .ok (.iadd, 1) := by decide +kernel
theorem dX7_takesFactor_127 : decode cX7_takesFactor 127 = .ok (.invokevirtual 94, 3) := by decide +kernel
theorem dX7_takesFactor_130 : decode cX7_takesFactor 130 = .ok (.iconst 1, 1) := by decide +kernel
theorem dX7_takesFactor_131 : decode cX7_takesFactor 131 = .ok (.ireturn, 1) := by decide +kernel
theorem dX7_takenOneOf_0 : decode cX7_takenOneOf 0 = .ok (.aload_n 0, 1) := by decide +kernel
theorem dX7_takenOneOf_1 : decode cX7_takenOneOf 1 = .ok (.getfield 38, 3) := by decide +kernel
theorem dX7_takenOneOf_4 : decode cX7_takenOneOf 4 = .ok (.aload_n 0, 1) := by decide +kernel
theorem dX7_takenOneOf_5 : decode cX7_takenOneOf 5 = .ok (.getfield 34, 3) := by decide +kernel
theorem dX7_takenOneOf_8 : decode cX7_takenOneOf 8 = .ok (.if_icmp .ge 20, 3) := by decide +kernel
theorem dX7_takenOneOf_11 : decode cX7_takenOneOf 11 = .ok (.aload_n 1, 1) := by decide +kernel
theorem dX7_takenOneOf_12 : decode cX7_takenOneOf 12 = .ok (.aload_n 0, 1) := by decide +kernel
theorem dX7_takenOneOf_13 : decode cX7_takenOneOf 13 = .ok (.getfield 9, 3) := by decide +kernel
theorem dX7_takenOneOf_16 : decode cX7_takenOneOf 16 = .ok (.aload_n 0, 1) := by decide +kernel
theorem dX7_takenOneOf_17 : decode cX7_takenOneOf 17 = .ok (.getfield 38, 3) := by decide +kernel
theorem dX7_takenOneOf_20 : decode cX7_takenOneOf 20 = .ok (.baload, 1) := by decide +kernel
theorem dX7_takenOneOf_21 : decode cX7_takenOneOf 21 = .ok (.i2c, 1) := by decide +kernel
theorem dX7_takenOneOf_22 : decode cX7_takenOneOf 22 = .ok (.invokevirtual 105, 3) := by decide +kernel
theorem dX7_takenOneOf_25 : decode cX7_takenOneOf 25 = .ok (.goto 4, 3) := by decide +kernel
theorem dX7_takenOneOf_28 : decode cX7_takenOneOf 28 = .ok (.iconst (-1), 1) := by decide +kernel
theorem dX7_takenOneOf_29 : decode cX7_takenOneOf 29 = .ok (.istore_n 2, 1) := by decide +kernel
theorem dX7_takenOneOf_30 : decode cX7_takenOneOf 30 = .ok (.iload_n 2, 1) := by decide +kernel
theorem dX7_takenOneOf_31 : decode cX7_takenOneOf 31 = .ok (.ifCond .lt 13, 3) := by decide +kernel
theorem dX7_takenOneOf_34 : decode cX7_takenOneOf 34 = .ok (.aload_n 0, 1) := by decide +kernel
theorem dX7_takenOneOf_35 : decode cX7_takenOneOf 35 = .ok (.dup, 1) := by decide +kernel
theorem dX7_takenOneOf_36 : decode cX7_takenOneOf 36 = .ok (.getfield 38, 3) := by decide +kernel
theorem dX7_takenOneOf_39 : decode cX7_takenOneOf 39 = .ok (.iconst 1, 1) := by decide +kernel
theorem dX7_takenOneOf_40 : decode cX7_takenOneOf 40 = .ok (.iadd, 1) := by decide +kernel
theorem dX7_takenOneOf_41 : decode cX7_takenOneOf 41 = .ok (.putfield 38, 3) := by decide +kernel
theorem dX7_takenOneOf_44 : decode cX7_takenOneOf 44 = .ok (.iload_n 2, 1) := by decide +kernel
theorem dX7_takenOneOf_45 : decode cX7_takenOneOf 45 = .ok (.ireturn, 1) := by decide +kernel
theorem dX7_keep_0 : decode cX7_keep 0 = .ok (.aload_n 0, 1) := by decide +kernel
theorem dX7_keep_1 : decode cX7_keep 1 = .ok (.getfield 44, 3) := by decide +kernel
theorem dX7_keep_4 : decode cX7_keep 4 = .ok (.bipush 100, 2) := by decide +kernel
theorem dX7_keep_6 : decode cX7_keep 6 = .ok (.if_icmp .ge 23, 3) := by decide +kernel
theorem dX7_keep_9 : decode cX7_keep 9 = .ok (.aload_n 0, 1) := by decide +kernel
theorem dX7_keep_10 : decode cX7_keep 10 = .ok (.getfield 25, 3) := by decide +kernel
theorem dX7_keep_13 : decode cX7_keep 13 = .ok (.aload_n 0, 1) := by decide +kernel
theorem dX7_keep_14 : decode cX7_keep 14 = .ok (.getfield 44, 3) := by decide +kernel
theorem dX7_keep_17 : decode cX7_keep 17 = .ok (.iload_n 1, 1) := by decide +kernel
theorem dX7_keep_18 : decode cX7_keep 18 = .ok (.iastore, 1) := by decide +kernel
theorem dX7_keep_19 : decode cX7_keep 19 = .ok (.aload_n 0, 1) := by decide +kernel
theorem dX7_keep_20 : decode cX7_keep 20 = .ok (.dup, 1) := by decide +kernel
theorem dX7_keep_21 : decode cX7_keep 21 = .ok (.getfield 44, 3) := by decide +kernel
theorem dX7_keep_24 : decode cX7_keep 24 = .ok (.iconst 1, 1) := by decide +kernel
theorem dX7_keep_25 : decode cX7_keep 25 = .ok (.iadd, 1) := by decide +kernel
theorem dX7_keep_26 : decode cX7_keep 26 = .ok (.putfield 44, 3) := by decide +kernel
theorem dX7_keep_29 : decode cX7_keep 29 = .ok (.return_, 1) := by decide +kernel
theorem dX7_together_0 : decode cX7_together 0 = .ok (.iconst 0, 1) := by decide +kernel
theorem dX7_together_1 : decode cX7_together 1 = .ok (.istore_n 3, 1) := by decide +kernel
theorem dX7_together_2 : decode cX7_together 2 = .ok (.iconst 0, 1) := by decide +kernel
theorem dX7_together_3 : decode cX7_together 3 = .ok (.istore 4, 2) := by decide +kernel
theorem dX7_together_5 : decode cX7_together 5 = .ok (.iconst 0, 1) := by decide +kernel
theorem dX7_together_6 : decode cX7_together 6 = .ok (.istore 5, 2) := by decide +kernel
theorem dX7_together_8 : decode cX7_together 8 = .ok (.iload 5, 2) := by decide +kernel
theorem dX7_together_10 : decode cX7_together 10 = .ok (.aload_n 0, 1) := by decide +kernel
theorem dX7_together_11 : decode cX7_together 11 = .ok (.getfield 41, 3) := by decide +kernel
theorem dX7_together_14 : decode cX7_together 14 = .ok (.if_icmp .ge 48, 3) := by decide +kernel
theorem dX7_together_17 : decode cX7_together 17 = .ok (.aload_n 0, 1) := by decide +kernel
theorem dX7_together_18 : decode cX7_together 18 = .ok (.getfield 15, 3) := by decide +kernel
theorem dX7_together_21 : decode cX7_together 21 = .ok (.iload 5, 2) := by decide +kernel
theorem dX7_together_23 : decode cX7_together 23 = .ok (.iaload, 1) := by decide +kernel
theorem dX7_together_24 : decode cX7_together 24 = .ok (.iload_n 1, 1) := by decide +kernel
theorem dX7_together_25 : decode cX7_together 25 = .ok (.if_icmp .ne 31, 3) := by decide +kernel
theorem dX7_together_28 : decode cX7_together 28 = .ok (.iconst 1, 1) := by decide +kernel
theorem dX7_together_29 : decode cX7_together 29 = .ok (.istore_n 3, 1) := by decide +kernel
theorem dX7_together_30 : decode cX7_together 30 = .ok (.iload 4, 2) := by decide +kernel
theorem dX7_together_32 : decode cX7_together 32 = .ok (.aload_n 0, 1) := by decide +kernel
theorem dX7_together_33 : decode cX7_together 33 = .ok (.iload 5, 2) := by decide +kernel
theorem dX7_together_35 : decode cX7_together 35 = .ok (.aload_n 2, 1) := by decide +kernel
theorem dX7_together_36 : decode cX7_together 36 = .ok (.invokevirtual 109, 3) := by decide +kernel
theorem dX7_together_39 : decode cX7_together 39 = .ok (.ifCond .eq 13, 3) := by decide +kernel
theorem dX7_together_42 : decode cX7_together 42 = .ok (.aload_n 0, 1) := by decide +kernel
theorem dX7_together_43 : decode cX7_together 43 = .ok (.getfield 19, 3) := by decide +kernel
theorem dX7_together_46 : decode cX7_together 46 = .ok (.iload 5, 2) := by decide +kernel
theorem dX7_together_48 : decode cX7_together 48 = .ok (.iaload, 1) := by decide +kernel
theorem dX7_together_49 : decode cX7_together 49 = .ok (.goto 4, 3) := by decide +kernel
theorem dX7_together_52 : decode cX7_together 52 = .ok (.iconst 0, 1) := by decide +kernel
theorem dX7_together_53 : decode cX7_together 53 = .ok (.iadd, 1) := by decide +kernel
theorem dX7_together_54 : decode cX7_together 54 = .ok (.istore 4, 2) := by decide +kernel
theorem dX7_together_56 : decode cX7_together 56 = .ok (.iinc 5 1, 3) := by decide +kernel
theorem dX7_together_59 : decode cX7_together 59 = .ok (.goto (-51), 3) := by decide +kernel
theorem dX7_together_62 : decode cX7_together 62 = .ok (.iload_n 3, 1) := by decide +kernel
theorem dX7_together_63 : decode cX7_together 63 = .ok (.ifCond .eq 8, 3) := by decide +kernel
theorem dX7_together_66 : decode cX7_together 66 = .ok (.iload 4, 2) := by decide +kernel
theorem dX7_together_68 : decode cX7_together 68 = .ok (.goto 4, 3) := by decide +kernel
theorem dX7_together_71 : decode cX7_together 71 = .ok (.iconst 1, 1) := by decide +kernel
theorem dX7_together_72 : decode cX7_together 72 = .ok (.ireturn, 1) := by decide +kernel
theorem dX7_holds_0 : decode cX7_holds 0 = .ok (.lconst 0, 1) := by decide +kernel
theorem dX7_holds_1 : decode cX7_holds 1 = .ok (.lstore_n 3, 1) := by decide +kernel
theorem dX7_holds_2 : decode cX7_holds 2 = .ok (.iload_n 1, 1) := by decide +kernel
theorem dX7_holds_3 : decode cX7_holds 3 = .ok (.ifCond .ne 7, 3) := by decide +kernel
theorem dX7_holds_6 : decode cX7_holds 6 = .ok (.iconst 0, 1) := by decide +kernel
theorem dX7_holds_7 : decode cX7_holds 7 = .ok (.goto 11, 3) := by decide +kernel
theorem dX7_holds_10 : decode cX7_holds 10 = .ok (.aload_n 0, 1) := by decide +kernel
theorem dX7_holds_11 : decode cX7_holds 11 = .ok (.getfield 22, 3) := by decide +kernel
theorem dX7_holds_14 : decode cX7_holds 14 = .ok (.iload_n 1, 1) := by decide +kernel
theorem dX7_holds_15 : decode cX7_holds 15 = .ok (.iconst 1, 1) := by decide +kernel
theorem dX7_holds_16 : decode cX7_holds 16 = .ok (.isub, 1) := by decide +kernel
theorem dX7_holds_17 : decode cX7_holds 17 = .ok (.iaload, 1) := by decide +kernel
theorem dX7_holds_18 : decode cX7_holds 18 = .ok (.istore 5, 2) := by decide +kernel
theorem dX7_holds_20 : decode cX7_holds 20 = .ok (.iload 5, 2) := by decide +kernel
theorem dX7_holds_22 : decode cX7_holds 22 = .ok (.aload_n 0, 1) := by decide +kernel
theorem dX7_holds_23 : decode cX7_holds 23 = .ok (.getfield 22, 3) := by decide +kernel
theorem dX7_holds_26 : decode cX7_holds 26 = .ok (.iload_n 1, 1) := by decide +kernel
theorem dX7_holds_27 : decode cX7_holds 27 = .ok (.iaload, 1) := by decide +kernel
theorem dX7_holds_28 : decode cX7_holds 28 = .ok (.if_icmp .ge 97, 3) := by decide +kernel
theorem dX7_holds_31 : decode cX7_holds 31 = .ok (.lload_n 3, 1) := by decide +kernel
theorem dX7_holds_32 : decode cX7_holds 32 = .ok (.lconst 1, 1) := by decide +kernel
theorem dX7_holds_33 : decode cX7_holds 33 = .ok (.land, 1) := by decide +kernel
theorem dX7_holds_34 : decode cX7_holds 34 = .ok (.lstore 6, 2) := by decide +kernel
theorem dX7_holds_36 : decode cX7_holds 36 = .ok (.aload_n 0, 1) := by decide +kernel
theorem dX7_holds_37 : decode cX7_holds 37 = .ok (.getfield 25, 3) := by decide +kernel
theorem dX7_holds_40 : decode cX7_holds 40 = .ok (.iload 5, 2) := by decide +kernel
theorem dX7_holds_42 : decode cX7_holds 42 = .ok (.iaload, 1) := by decide +kernel
theorem dX7_holds_43 : decode cX7_holds 43 = .ok (.tableswitch 56 (-3) (-1) #[46, 32, 25], 25) := by decide +kernel
theorem dX7_holds_68 : decode cX7_holds 68 = .ok (.lload_n 3, 1) := by decide +kernel
theorem dX7_holds_69 : decode cX7_holds 69 = .ok (.lconst 1, 1) := by decide +kernel
theorem dX7_holds_70 : decode cX7_holds 70 = .ok (.lxor, 1) := by decide +kernel
theorem dX7_holds_71 : decode cX7_holds 71 = .ok (.lstore_n 3, 1) := by decide +kernel
theorem dX7_holds_72 : decode cX7_holds 72 = .ok (.goto 47, 3) := by decide +kernel
theorem dX7_holds_75 : decode cX7_holds 75 = .ok (.lload_n 3, 1) := by decide +kernel
theorem dX7_holds_76 : decode cX7_holds 76 = .ok (.iconst 1, 1) := by decide +kernel
theorem dX7_holds_77 : decode cX7_holds 77 = .ok (.lshr, 1) := by decide +kernel
theorem dX7_holds_78 : decode cX7_holds 78 = .ok (.lload 6, 2) := by decide +kernel
theorem dX7_holds_80 : decode cX7_holds 80 = .ok (.ldc2_w 113, 3) := by decide +kernel
theorem dX7_holds_83 : decode cX7_holds 83 = .ok (.lor, 1) := by decide +kernel
theorem dX7_holds_84 : decode cX7_holds 84 = .ok (.land, 1) := by decide +kernel
theorem dX7_holds_85 : decode cX7_holds 85 = .ok (.lstore_n 3, 1) := by decide +kernel
theorem dX7_holds_86 : decode cX7_holds 86 = .ok (.goto 33, 3) := by decide +kernel
theorem dX7_holds_89 : decode cX7_holds 89 = .ok (.lload_n 3, 1) := by decide +kernel
theorem dX7_holds_90 : decode cX7_holds 90 = .ok (.iconst 1, 1) := by decide +kernel
theorem dX7_holds_91 : decode cX7_holds 91 = .ok (.lshr, 1) := by decide +kernel
theorem dX7_holds_92 : decode cX7_holds 92 = .ok (.lload 6, 2) := by decide +kernel
theorem dX7_holds_94 : decode cX7_holds 94 = .ok (.lor, 1) := by decide +kernel
theorem dX7_holds_95 : decode cX7_holds 95 = .ok (.lstore_n 3, 1) := by decide +kernel
theorem dX7_holds_96 : decode cX7_holds 96 = .ok (.goto 23, 3) := by decide +kernel
theorem dX7_holds_99 : decode cX7_holds 99 = .ok (.lload_n 3, 1) := by decide +kernel
theorem dX7_holds_100 : decode cX7_holds 100 = .ok (.iconst 1, 1) := by decide +kernel
theorem dX7_holds_101 : decode cX7_holds 101 = .ok (.lshl, 1) := by decide +kernel
theorem dX7_holds_102 : decode cX7_holds 102 = .ok (.aload_n 0, 1) := by decide +kernel
theorem dX7_holds_103 : decode cX7_holds 103 = .ok (.getfield 25, 3) := by decide +kernel
theorem dX7_holds_106 : decode cX7_holds 106 = .ok (.iload 5, 2) := by decide +kernel
theorem dX7_holds_108 : decode cX7_holds 108 = .ok (.iaload, 1) := by decide +kernel
theorem dX7_holds_109 : decode cX7_holds 109 = .ok (.aload_n 2, 1) := by decide +kernel
theorem dX7_holds_110 : decode cX7_holds 110 = .ok (.invokestatic 115, 3) := by decide +kernel
theorem dX7_holds_113 : decode cX7_holds 113 = .ok (.invokestatic 118, 3) := by decide +kernel
theorem dX7_holds_116 : decode cX7_holds 116 = .ok (.i2l, 1) := by decide +kernel
theorem dX7_holds_117 : decode cX7_holds 117 = .ok (.lor, 1) := by decide +kernel
theorem dX7_holds_118 : decode cX7_holds 118 = .ok (.lstore_n 3, 1) := by decide +kernel
theorem dX7_holds_119 : decode cX7_holds 119 = .ok (.iinc 5 1, 3) := by decide +kernel
theorem dX7_holds_122 : decode cX7_holds 122 = .ok (.goto (-102), 3) := by decide +kernel
theorem dX7_holds_125 : decode cX7_holds 125 = .ok (.lload_n 3, 1) := by decide +kernel
theorem dX7_holds_126 : decode cX7_holds 126 = .ok (.lconst 1, 1) := by decide +kernel
theorem dX7_holds_127 : decode cX7_holds 127 = .ok (.land, 1) := by decide +kernel
theorem dX7_holds_128 : decode cX7_holds 128 = .ok (.lconst 1, 1) := by decide +kernel
theorem dX7_holds_129 : decode cX7_holds 129 = .ok (.lcmp, 1) := by decide +kernel
theorem dX7_holds_130 : decode cX7_holds 130 = .ok (.ifCond .ne 7, 3) := by decide +kernel
theorem dX7_holds_133 : decode cX7_holds 133 = .ok (.iconst 1, 1) := by decide +kernel
theorem dX7_holds_134 : decode cX7_holds 134 = .ok (.goto 4, 3) := by decide +kernel
theorem dX7_holds_137 : decode cX7_holds 137 = .ok (.iconst 0, 1) := by decide +kernel
theorem dX7_holds_138 : decode cX7_holds 138 = .ok (.ireturn, 1) := by decide +kernel
theorem dX7_testHolds_0 : decode cX7_testHolds 0 = .ok (.iload_n 0, 1) := by decide +kernel
theorem dX7_testHolds_1 : decode cX7_testHolds 1 = .ok (.bipush 100, 2) := by decide +kernel
theorem dX7_testHolds_3 : decode cX7_testHolds 3 = .ok (.irem, 1) := by decide +kernel
theorem dX7_testHolds_4 : decode cX7_testHolds 4 = .ok (.istore_n 2, 1) := by decide +kernel
theorem dX7_testHolds_5 : decode cX7_testHolds 5 = .ok (.iload_n 0, 1) := by decide +kernel
theorem dX7_testHolds_6 : decode cX7_testHolds 6 = .ok (.bipush 100, 2) := by decide +kernel
theorem dX7_testHolds_8 : decode cX7_testHolds 8 = .ok (.idiv, 1) := by decide +kernel
theorem dX7_testHolds_9 : decode cX7_testHolds 9 = .ok (.iconst 3, 1) := by decide +kernel
theorem dX7_testHolds_10 : decode cX7_testHolds 10 = .ok (.irem, 1) := by decide +kernel
theorem dX7_testHolds_11 : decode cX7_testHolds 11 = .ok (.istore_n 3, 1) := by decide +kernel
theorem dX7_testHolds_12 : decode cX7_testHolds 12 = .ok (.iload_n 0, 1) := by decide +kernel
theorem dX7_testHolds_13 : decode cX7_testHolds 13 = .ok (.bipush 100, 2) := by decide +kernel
theorem dX7_testHolds_15 : decode cX7_testHolds 15 = .ok (.idiv, 1) := by decide +kernel
theorem dX7_testHolds_16 : decode cX7_testHolds 16 = .ok (.iconst 3, 1) := by decide +kernel
theorem dX7_testHolds_17 : decode cX7_testHolds 17 = .ok (.idiv, 1) := by decide +kernel
theorem dX7_testHolds_18 : decode cX7_testHolds 18 = .ok (.istore 4, 2) := by decide +kernel
theorem dX7_testHolds_20 : decode cX7_testHolds 20 = .ok (.iload 4, 2) := by decide +kernel
theorem dX7_testHolds_22 : decode cX7_testHolds 22 = .ok (.ifCond .lt 10, 3) := by decide +kernel
theorem dX7_testHolds_25 : decode cX7_testHolds 25 = .ok (.iload 4, 2) := by decide +kernel
theorem dX7_testHolds_27 : decode cX7_testHolds 27 = .ok (.aload_n 1, 1) := by decide +kernel
theorem dX7_testHolds_28 : decode cX7_testHolds 28 = .ok (.arraylength, 1) := by decide +kernel
theorem dX7_testHolds_29 : decode cX7_testHolds 29 = .ok (.if_icmp .lt 5, 3) := by decide +kernel
theorem dX7_testHolds_32 : decode cX7_testHolds 32 = .ok (.iconst 0, 1) := by decide +kernel
theorem dX7_testHolds_33 : decode cX7_testHolds 33 = .ok (.ireturn, 1) := by decide +kernel
theorem dX7_testHolds_34 : decode cX7_testHolds 34 = .ok (.aload_n 1, 1) := by decide +kernel
theorem dX7_testHolds_35 : decode cX7_testHolds 35 = .ok (.iload 4, 2) := by decide +kernel
theorem dX7_testHolds_37 : decode cX7_testHolds 37 = .ok (.iaload, 1) := by decide +kernel
theorem dX7_testHolds_38 : decode cX7_testHolds 38 = .ok (.istore 5, 2) := by decide +kernel
theorem dX7_testHolds_40 : decode cX7_testHolds 40 = .ok (.iload_n 3, 1) := by decide +kernel
theorem dX7_testHolds_41 : decode cX7_testHolds 41 = .ok (.ifCond .ne 15, 3) := by decide +kernel
theorem dX7_testHolds_44 : decode cX7_testHolds 44 = .ok (.iload 5, 2) := by decide +kernel
theorem dX7_testHolds_46 : decode cX7_testHolds 46 = .ok (.iload_n 2, 1) := by decide +kernel
theorem dX7_testHolds_47 : decode cX7_testHolds 47 = .ok (.if_icmp .ge 7, 3) := by decide +kernel
theorem dX7_testHolds_50 : decode cX7_testHolds 50 = .ok (.iconst 1, 1) := by decide +kernel
theorem dX7_testHolds_51 : decode cX7_testHolds 51 = .ok (.goto 4, 3) := by decide +kernel
theorem dX7_testHolds_54 : decode cX7_testHolds 54 = .ok (.iconst 0, 1) := by decide +kernel
theorem dX7_testHolds_55 : decode cX7_testHolds 55 = .ok (.ireturn, 1) := by decide +kernel
theorem dX7_testHolds_56 : decode cX7_testHolds 56 = .ok (.iload_n 3, 1) := by decide +kernel
theorem dX7_testHolds_57 : decode cX7_testHolds 57 = .ok (.iconst 1, 1) := by decide +kernel
theorem dX7_testHolds_58 : decode cX7_testHolds 58 = .ok (.if_icmp .ne 17, 3) := by decide +kernel
theorem dX7_testHolds_61 : decode cX7_testHolds 61 = .ok (.iload 5, 2) := by decide +kernel
theorem dX7_testHolds_63 : decode cX7_testHolds 63 = .ok (.iload_n 2, 1) := by decide +kernel
theorem dX7_testHolds_64 : decode cX7_testHolds 64 = .ok (.if_icmp .ne 7, 3) := by decide +kernel
theorem dX7_testHolds_67 : decode cX7_testHolds 67 = .ok (.iconst 1, 1) := by decide +kernel
theorem dX7_testHolds_68 : decode cX7_testHolds 68 = .ok (.goto 18, 3) := by decide +kernel
theorem dX7_testHolds_71 : decode cX7_testHolds 71 = .ok (.iconst 0, 1) := by decide +kernel
theorem dX7_testHolds_72 : decode cX7_testHolds 72 = .ok (.goto 14, 3) := by decide +kernel
theorem dX7_testHolds_75 : decode cX7_testHolds 75 = .ok (.iload 5, 2) := by decide +kernel
theorem dX7_testHolds_77 : decode cX7_testHolds 77 = .ok (.iload_n 2, 1) := by decide +kernel
theorem dX7_testHolds_78 : decode cX7_testHolds 78 = .ok (.if_icmp .le 7, 3) := by decide +kernel
theorem dX7_testHolds_81 : decode cX7_testHolds 81 = .ok (.iconst 1, 1) := by decide +kernel
theorem dX7_testHolds_82 : decode cX7_testHolds 82 = .ok (.goto 4, 3) := by decide +kernel
theorem dX7_testHolds_85 : decode cX7_testHolds 85 = .ok (.iconst 0, 1) := by decide +kernel
theorem dX7_testHolds_86 : decode cX7_testHolds 86 = .ok (.ireturn, 1) := by decide +kernel
theorem dX8_init_0 : decode cX8_init 0 = .ok (.aload_n 0, 1) := by decide +kernel
theorem dX8_init_1 : decode cX8_init 1 = .ok (.invokespecial 3, 3) := by decide +kernel
theorem dX8_init_4 : decode cX8_init 4 = .ok (.aload_n 0, 1) := by decide +kernel
theorem dX8_init_5 : decode cX8_init 5 = .ok (.bipush 20, 2) := by decide +kernel
theorem dX8_init_7 : decode cX8_init 7 = .ok (.newarray .int, 2) := by decide +kernel
theorem dX8_init_9 : decode cX8_init 9 = .ok (.putfield 9, 3) := by decide +kernel
theorem dX8_init_12 : decode cX8_init 12 = .ok (.return_, 1) := by decide +kernel
theorem dX8_begin_0 : decode cX8_begin 0 = .ok (.aload_n 0, 1) := by decide +kernel
theorem dX8_begin_1 : decode cX8_begin 1 = .ok (.getfield 15, 3) := by decide +kernel
theorem dX8_begin_4 : decode cX8_begin 4 = .ok (.ifCond .lt 22, 3) := by decide +kernel
theorem dX8_begin_7 : decode cX8_begin 7 = .ok (.aload_n 0, 1) := by decide +kernel
theorem dX8_begin_8 : decode cX8_begin 8 = .ok (.getfield 15, 3) := by decide +kernel
theorem dX8_begin_11 : decode cX8_begin 11 = .ok (.bipush 20, 2) := by decide +kernel
theorem dX8_begin_13 : decode cX8_begin 13 = .ok (.if_icmp .ge 13, 3) := by decide +kernel
theorem dX8_begin_16 : decode cX8_begin 16 = .ok (.aload_n 0, 1) := by decide +kernel
theorem dX8_begin_17 : decode cX8_begin 17 = .ok (.getfield 9, 3) := by decide +kernel
theorem dX8_begin_20 : decode cX8_begin 20 = .ok (.aload_n 0, 1) := by decide +kernel
theorem dX8_begin_21 : decode cX8_begin 21 = .ok (.getfield 15, 3) := by decide +kernel
theorem dX8_begin_24 : decode cX8_begin 24 = .ok (.iload_n 1, 1) := by decide +kernel
theorem dX8_begin_25 : decode cX8_begin 25 = .ok (.iastore, 1) := by decide +kernel
theorem dX8_begin_26 : decode cX8_begin 26 = .ok (.aload_n 0, 1) := by decide +kernel
theorem dX8_begin_27 : decode cX8_begin 27 = .ok (.dup, 1) := by decide +kernel
theorem dX8_begin_28 : decode cX8_begin 28 = .ok (.getfield 15, 3) := by decide +kernel
theorem dX8_begin_31 : decode cX8_begin 31 = .ok (.iconst 1, 1) := by decide +kernel
theorem dX8_begin_32 : decode cX8_begin 32 = .ok (.iadd, 1) := by decide +kernel
theorem dX8_begin_33 : decode cX8_begin 33 = .ok (.putfield 15, 3) := by decide +kernel
theorem dX8_begin_36 : decode cX8_begin 36 = .ok (.return_, 1) := by decide +kernel
theorem dX9_init_0 : decode cX9_init 0 = .ok (.aload_n 0, 1) := by decide +kernel
theorem dX9_init_1 : decode cX9_init 1 = .ok (.invokespecial 3, 3) := by decide +kernel
theorem dX9_init_4 : decode cX9_init 4 = .ok (.aload_n 0, 1) := by decide +kernel
theorem dX9_init_5 : decode cX9_init 5 = .ok (.bipush 6, 2) := by decide +kernel
theorem dX9_init_7 : decode cX9_init 7 = .ok (.anewarray 9, 3) := by decide +kernel
theorem dX9_init_10 : decode cX9_init 10 = .ok (.putfield 11, 3) := by decide +kernel
theorem dX9_init_13 : decode cX9_init 13 = .ok (.aload_n 0, 1) := by decide +kernel
theorem dX9_init_14 : decode cX9_init 14 = .ok (.bipush 6, 2) := by decide +kernel
theorem dX9_init_16 : decode cX9_init 16 = .ok (.newarray .int, 2) := by decide +kernel
theorem dX9_init_18 : decode cX9_init 18 = .ok (.putfield 17, 3) := by decide +kernel
theorem dX9_init_21 : decode cX9_init 21 = .ok (.aload_n 0, 1) := by decide +kernel
theorem dX9_init_22 : decode cX9_init 22 = .ok (.bipush 24, 2) := by decide +kernel
theorem dX9_init_24 : decode cX9_init 24 = .ok (.newarray .int, 2) := by decide +kernel
theorem dX9_init_26 : decode cX9_init 26 = .ok (.putfield 21, 3) := by decide +kernel
theorem dX9_init_29 : decode cX9_init 29 = .ok (.aload_n 0, 1) := by decide +kernel
theorem dX9_init_30 : decode cX9_init 30 = .ok (.bipush 6, 2) := by decide +kernel
theorem dX9_init_32 : decode cX9_init 32 = .ok (.newarray .int, 2) := by decide +kernel
theorem dX9_init_34 : decode cX9_init 34 = .ok (.putfield 24, 3) := by decide +kernel
theorem dX9_init_37 : decode cX9_init 37 = .ok (.aload_n 0, 1) := by decide +kernel
theorem dX9_init_38 : decode cX9_init 38 = .ok (.bipush 6, 2) := by decide +kernel
theorem dX9_init_40 : decode cX9_init 40 = .ok (.newarray .int, 2) := by decide +kernel
theorem dX9_init_42 : decode cX9_init 42 = .ok (.putfield 27, 3) := by decide +kernel
theorem dX9_init_45 : decode cX9_init 45 = .ok (.aload_n 0, 1) := by decide +kernel
theorem dX9_init_46 : decode cX9_init 46 = .ok (.bipush 6, 2) := by decide +kernel
theorem dX9_init_48 : decode cX9_init 48 = .ok (.newarray .int, 2) := by decide +kernel
theorem dX9_init_50 : decode cX9_init 50 = .ok (.putfield 30, 3) := by decide +kernel
theorem dX9_init_53 : decode cX9_init 53 = .ok (.aload_n 0, 1) := by decide +kernel
theorem dX9_init_54 : decode cX9_init 54 = .ok (.bipush 12, 2) := by decide +kernel
theorem dX9_init_56 : decode cX9_init 56 = .ok (.newarray .int, 2) := by decide +kernel
theorem dX9_init_58 : decode cX9_init 58 = .ok (.putfield 33, 3) := by decide +kernel
theorem dX9_init_61 : decode cX9_init 61 = .ok (.aload_n 0, 1) := by decide +kernel
theorem dX9_init_62 : decode cX9_init 62 = .ok (.bipush 12, 2) := by decide +kernel
theorem dX9_init_64 : decode cX9_init 64 = .ok (.newarray .int, 2) := by decide +kernel
theorem dX9_init_66 : decode cX9_init 66 = .ok (.putfield 36, 3) := by decide +kernel
theorem dX9_init_69 : decode cX9_init 69 = .ok (.aload_n 0, 1) := by decide +kernel
theorem dX9_init_70 : decode cX9_init 70 = .ok (.ldc 41, 2) := by decide +kernel
theorem dX9_init_72 : decode cX9_init 72 = .ok (.invokevirtual 43, 3) := by decide +kernel
theorem dX9_init_75 : decode cX9_init 75 = .ok (.newarray .int, 2) := by decide +kernel
theorem dX9_init_77 : decode cX9_init 77 = .ok (.putfield 49, 3) := by decide +kernel
theorem dX9_init_80 : decode cX9_init 80 = .ok (.return_, 1) := by decide +kernel
theorem dX9_become_0 : decode cX9_become 0 = .ok (.aload_n 0, 1) := by decide +kernel
theorem dX9_become_1 : decode cX9_become 1 = .ok (.aload_n 1, 1) := by decide +kernel
theorem dX9_become_2 : decode cX9_become 2 = .ok (.getfield 52, 3) := by decide +kernel
theorem dX9_become_5 : decode cX9_become 5 = .ok (.putfield 52, 3) := by decide +kernel
theorem dX9_become_8 : decode cX9_become 8 = .ok (.aload_n 0, 1) := by decide +kernel
theorem dX9_become_9 : decode cX9_become 9 = .ok (.aload_n 1, 1) := by decide +kernel
theorem dX9_become_10 : decode cX9_become 10 = .ok (.getfield 56, 3) := by decide +kernel
theorem dX9_become_13 : decode cX9_become 13 = .ok (.putfield 56, 3) := by decide +kernel
theorem dX9_become_16 : decode cX9_become 16 = .ok (.aload_n 0, 1) := by decide +kernel
theorem dX9_become_17 : decode cX9_become 17 = .ok (.aload_n 1, 1) := by decide +kernel
theorem dX9_become_18 : decode cX9_become 18 = .ok (.getfield 59, 3) := by decide +kernel
theorem dX9_become_21 : decode cX9_become 21 = .ok (.putfield 59, 3) := by decide +kernel
theorem dX9_become_24 : decode cX9_become 24 = .ok (.aload_n 0, 1) := by decide +kernel
theorem dX9_become_25 : decode cX9_become 25 = .ok (.aload_n 1, 1) := by decide +kernel
theorem dX9_become_26 : decode cX9_become 26 = .ok (.getfield 62, 3) := by decide +kernel
theorem dX9_become_29 : decode cX9_become 29 = .ok (.putfield 62, 3) := by decide +kernel
theorem dX9_become_32 : decode cX9_become 32 = .ok (.aload_n 0, 1) := by decide +kernel
theorem dX9_become_33 : decode cX9_become 33 = .ok (.aload_n 1, 1) := by decide +kernel
theorem dX9_become_34 : decode cX9_become 34 = .ok (.getfield 66, 3) := by decide +kernel
theorem dX9_become_37 : decode cX9_become 37 = .ok (.putfield 66, 3) := by decide +kernel
theorem dX9_become_40 : decode cX9_become 40 = .ok (.aload_n 0, 1) := by decide +kernel
theorem dX9_become_41 : decode cX9_become 41 = .ok (.aload_n 1, 1) := by decide +kernel
theorem dX9_become_42 : decode cX9_become 42 = .ok (.getfield 69, 3) := by decide +kernel
theorem dX9_become_45 : decode cX9_become 45 = .ok (.putfield 69, 3) := by decide +kernel
theorem dX9_become_48 : decode cX9_become 48 = .ok (.aload_n 1, 1) := by decide +kernel
theorem dX9_become_49 : decode cX9_become 49 = .ok (.getfield 11, 3) := by decide +kernel
theorem dX9_become_52 : decode cX9_become 52 = .ok (.iconst 0, 1) := by decide +kernel
theorem dX9_become_53 : decode cX9_become 53 = .ok (.aload_n 0, 1) := by decide +kernel
theorem dX9_become_54 : decode cX9_become 54 = .ok (.getfield 11, 3) := by decide +kernel
theorem dX9_become_57 : decode cX9_become 57 = .ok (.iconst 0, 1) := by decide +kernel
theorem dX9_become_58 : decode cX9_become 58 = .ok (.bipush 6, 2) := by decide +kernel
theorem dX9_become_60 : decode cX9_become 60 = .ok (.invokestatic 72, 3) := by decide +kernel
theorem dX9_become_63 : decode cX9_become 63 = .ok (.aload_n 1, 1) := by decide +kernel
theorem dX9_become_64 : decode cX9_become 64 = .ok (.getfield 17, 3) := by decide +kernel
theorem dX9_become_67 : decode cX9_become 67 = .ok (.iconst 0, 1) := by decide +kernel
theorem dX9_become_68 : decode cX9_become 68 = .ok (.aload_n 0, 1) := by decide +kernel
theorem dX9_become_69 : decode cX9_become 69 = .ok (.getfield 17, 3) := by decide +kernel
theorem dX9_become_72 : decode cX9_become 72 = .ok (.iconst 0, 1) := by decide +kernel
theorem dX9_become_73 : decode cX9_become 73 = .ok (.bipush 6, 2) := by decide +kernel
theorem dX9_become_75 : decode cX9_become 75 = .ok (.invokestatic 72, 3) := by decide +kernel
theorem dX9_become_78 : decode cX9_become 78 = .ok (.aload_n 1, 1) := by decide +kernel
theorem dX9_become_79 : decode cX9_become 79 = .ok (.getfield 21, 3) := by decide +kernel
theorem dX9_become_82 : decode cX9_become 82 = .ok (.iconst 0, 1) := by decide +kernel
theorem dX9_become_83 : decode cX9_become 83 = .ok (.aload_n 0, 1) := by decide +kernel
theorem dX9_become_84 : decode cX9_become 84 = .ok (.getfield 21, 3) := by decide +kernel
theorem dX9_become_87 : decode cX9_become 87 = .ok (.iconst 0, 1) := by decide +kernel
theorem dX9_become_88 : decode cX9_become 88 = .ok (.bipush 24, 2) := by decide +kernel
theorem dX9_become_90 : decode cX9_become 90 = .ok (.invokestatic 72, 3) := by decide +kernel
theorem dX9_become_93 : decode cX9_become 93 = .ok (.aload_n 1, 1) := by decide +kernel
theorem dX9_become_94 : decode cX9_become 94 = .ok (.getfield 24, 3) := by decide +kernel
theorem dX9_become_97 : decode cX9_become 97 = .ok (.iconst 0, 1) := by decide +kernel
theorem dX9_become_98 : decode cX9_become 98 = .ok (.aload_n 0, 1) := by decide +kernel
theorem dX9_become_99 : decode cX9_become 99 = .ok (.getfield 24, 3) := by decide +kernel
theorem dX9_become_102 : decode cX9_become 102 = .ok (.iconst 0, 1) := by decide +kernel
theorem dX9_become_103 : decode cX9_become 103 = .ok (.bipush 6, 2) := by decide +kernel
theorem dX9_become_105 : decode cX9_become 105 = .ok (.invokestatic 72, 3) := by decide +kernel
theorem dX9_become_108 : decode cX9_become 108 = .ok (.aload_n 1, 1) := by decide +kernel
theorem dX9_become_109 : decode cX9_become 109 = .ok (.getfield 27, 3) := by decide +kernel
theorem dX9_become_112 : decode cX9_become 112 = .ok (.iconst 0, 1) := by decide +kernel
theorem dX9_become_113 : decode cX9_become 113 = .ok (.aload_n 0, 1) := by decide +kernel
theorem dX9_become_114 : decode cX9_become 114 = .ok (.getfield 27, 3) := by decide +kernel
theorem dX9_become_117 : decode cX9_become 117 = .ok (.iconst 0, 1) := by decide +kernel
theorem dX9_become_118 : decode cX9_become 118 = .ok (.bipush 6, 2) := by decide +kernel
theorem dX9_become_120 : decode cX9_become 120 = .ok (.invokestatic 72, 3) := by decide +kernel
theorem dX9_become_123 : decode cX9_become 123 = .ok (.aload_n 1, 1) := by decide +kernel
theorem dX9_become_124 : decode cX9_become 124 = .ok (.getfield 30, 3) := by decide +kernel
theorem dX9_become_127 : decode cX9_become 127 = .ok (.iconst 0, 1) := by decide +kernel
theorem dX9_become_128 : decode cX9_become 128 = .ok (.aload_n 0, 1) := by decide +kernel
theorem dX9_become_129 : decode cX9_become 129 = .ok (.getfield 30, 3) := by decide +kernel
theorem dX9_become_132 : decode cX9_become 132 = .ok (.iconst 0, 1) := by decide +kernel
theorem dX9_become_133 : decode cX9_become 133 = .ok (.bipush 6, 2) := by decide +kernel
theorem dX9_become_135 : decode cX9_become 135 = .ok (.invokestatic 72, 3) := by decide +kernel
theorem dX9_become_138 : decode cX9_become 138 = .ok (.aload_n 1, 1) := by decide +kernel
theorem dX9_become_139 : decode cX9_become 139 = .ok (.getfield 33, 3) := by decide +kernel
theorem dX9_become_142 : decode cX9_become 142 = .ok (.iconst 0, 1) := by decide +kernel
theorem dX9_become_143 : decode cX9_become 143 = .ok (.aload_n 0, 1) := by decide +kernel
theorem dX9_become_144 : decode cX9_become 144 = .ok (.getfield 33, 3) := by decide +kernel
theorem dX9_become_147 : decode cX9_become 147 = .ok (.iconst 0, 1) := by decide +kernel
theorem dX9_become_148 : decode cX9_become 148 = .ok (.bipush 12, 2) := by decide +kernel
theorem dX9_become_150 : decode cX9_become 150 = .ok (.invokestatic 72, 3) := by decide +kernel
theorem dX9_become_153 : decode cX9_become 153 = .ok (.aload_n 1, 1) := by decide +kernel
theorem dX9_become_154 : decode cX9_become 154 = .ok (.getfield 36, 3) := by decide +kernel
theorem dX9_become_157 : decode cX9_become 157 = .ok (.iconst 0, 1) := by decide +kernel
theorem dX9_become_158 : decode cX9_become 158 = .ok (.aload_n 0, 1) := by decide +kernel
theorem dX9_become_159 : decode cX9_become 159 = .ok (.getfield 36, 3) := by decide +kernel
theorem dX9_become_162 : decode cX9_become 162 = .ok (.iconst 0, 1) := by decide +kernel
theorem dX9_become_163 : decode cX9_become 163 = .ok (.bipush 12, 2) := by decide +kernel
theorem dX9_become_165 : decode cX9_become 165 = .ok (.invokestatic 72, 3) := by decide +kernel
theorem dX9_become_168 : decode cX9_become 168 = .ok (.return_, 1) := by decide +kernel
theorem dX9_hasPerson_0 : decode cX9_hasPerson 0 = .ok (.iload_n 1, 1) := by decide +kernel
theorem dX9_hasPerson_1 : decode cX9_hasPerson 1 = .ok (.ifCond .lt 15, 3) := by decide +kernel
theorem dX9_hasPerson_4 : decode cX9_hasPerson 4 = .ok (.iload_n 1, 1) := by decide +kernel
theorem dX9_hasPerson_5 : decode cX9_hasPerson 5 = .ok (.aload_n 0, 1) := by decide +kernel
theorem dX9_hasPerson_6 : decode cX9_hasPerson 6 = .ok (.getfield 52, 3) := by decide +kernel
theorem dX9_hasPerson_9 : decode cX9_hasPerson 9 = .ok (.if_icmp .ge 7, 3) := by decide +kernel
theorem dX9_hasPerson_12 : decode cX9_hasPerson 12 = .ok (.iconst 1, 1) := by decide +kernel
theorem dX9_hasPerson_13 : decode cX9_hasPerson 13 = .ok (.goto 4, 3) := by decide +kernel
theorem dX9_hasPerson_16 : decode cX9_hasPerson 16 = .ok (.iconst 0, 1) := by decide +kernel
theorem dX9_hasPerson_17 : decode cX9_hasPerson 17 = .ok (.ireturn, 1) := by decide +kernel
theorem dX9_personAt_0 : decode cX9_personAt 0 = .ok (.aload_n 0, 1) := by decide +kernel
theorem dX9_personAt_1 : decode cX9_personAt 1 = .ok (.iload_n 1, 1) := by decide +kernel
theorem dX9_personAt_2 : decode cX9_personAt 2 = .ok (.invokevirtual 78, 3) := by decide +kernel
theorem dX9_personAt_5 : decode cX9_personAt 5 = .ok (.ifCond .eq 12, 3) := by decide +kernel
theorem dX9_personAt_8 : decode cX9_personAt 8 = .ok (.aload_n 0, 1) := by decide +kernel
theorem dX9_personAt_9 : decode cX9_personAt 9 = .ok (.getfield 11, 3) := by decide +kernel
theorem dX9_personAt_12 : decode cX9_personAt 12 = .ok (.iload_n 1, 1) := by decide +kernel
theorem dX9_personAt_13 : decode cX9_personAt 13 = .ok (.aaload, 1) := by decide +kernel
theorem dX9_personAt_14 : decode cX9_personAt 14 = .ok (.goto 4, 3) := by decide +kernel
theorem dX9_personAt_17 : decode cX9_personAt 17 = .ok (.aconst_null, 1) := by decide +kernel
theorem dX9_personAt_18 : decode cX9_personAt 18 = .ok (.areturn, 1) := by decide +kernel
theorem dX9_join_0 : decode cX9_join 0 = .ok (.aload_n 0, 1) := by decide +kernel
theorem dX9_join_1 : decode cX9_join 1 = .ok (.getfield 52, 3) := by decide +kernel
theorem dX9_join_4 : decode cX9_join 4 = .ok (.bipush 6, 2) := by decide +kernel
theorem dX9_join_6 : decode cX9_join 6 = .ok (.if_icmp .lt 4, 3) := by decide +kernel
theorem dX9_join_9 : decode cX9_join 9 = .ok (.return_, 1) := by decide +kernel
theorem dX9_join_10 : decode cX9_join 10 = .ok (.aload_n 0, 1) := by decide +kernel
theorem dX9_join_11 : decode cX9_join 11 = .ok (.getfield 11, 3) := by decide +kernel
theorem dX9_join_14 : decode cX9_join 14 = .ok (.aload_n 0, 1) := by decide +kernel
theorem dX9_join_15 : decode cX9_join 15 = .ok (.getfield 52, 3) := by decide +kernel
theorem dX9_join_18 : decode cX9_join 18 = .ok (.aload_n 1, 1) := by decide +kernel
theorem dX9_join_19 : decode cX9_join 19 = .ok (.aastore, 1) := by decide +kernel
theorem dX9_join_20 : decode cX9_join 20 = .ok (.aload_n 0, 1) := by decide +kernel
theorem dX9_join_21 : decode cX9_join 21 = .ok (.getfield 17, 3) := by decide +kernel
theorem dX9_join_24 : decode cX9_join 24 = .ok (.aload_n 0, 1) := by decide +kernel
theorem dX9_join_25 : decode cX9_join 25 = .ok (.getfield 52, 3) := by decide +kernel
theorem dX9_join_28 : decode cX9_join 28 = .ok (.iconst 0, 1) := by decide +kernel
theorem dX9_join_29 : decode cX9_join 29 = .ok (.iastore, 1) := by decide +kernel
theorem dX9_join_30 : decode cX9_join 30 = .ok (.aload_n 0, 1) := by decide +kernel
theorem dX9_join_31 : decode cX9_join 31 = .ok (.getfield 24, 3) := by decide +kernel
theorem dX9_join_34 : decode cX9_join 34 = .ok (.aload_n 0, 1) := by decide +kernel
theorem dX9_join_35 : decode cX9_join 35 = .ok (.getfield 52, 3) := by decide +kernel
theorem dX9_join_38 : decode cX9_join 38 = .ok (.iconst 0, 1) := by decide +kernel
theorem dX9_join_39 : decode cX9_join 39 = .ok (.iastore, 1) := by decide +kernel
theorem dX9_join_40 : decode cX9_join 40 = .ok (.iconst 0, 1) := by decide +kernel
theorem dX9_join_41 : decode cX9_join 41 = .ok (.istore_n 2, 1) := by decide +kernel
theorem dX9_join_42 : decode cX9_join 42 = .ok (.iload_n 2, 1) := by decide +kernel
theorem dX9_join_43 : decode cX9_join 43 = .ok (.iconst 4, 1) := by decide +kernel
theorem dX9_join_44 : decode cX9_join 44 = .ok (.if_icmp .ge 23, 3) := by decide +kernel
theorem dX9_join_47 : decode cX9_join 47 = .ok (.aload_n 0, 1) := by decide +kernel
theorem dX9_join_48 : decode cX9_join 48 = .ok (.getfield 21, 3) := by decide +kernel
theorem dX9_join_51 : decode cX9_join 51 = .ok (.aload_n 0, 1) := by decide +kernel
theorem dX9_join_52 : decode cX9_join 52 = .ok (.getfield 52, 3) := by decide +kernel
theorem dX9_join_55 : decode cX9_join 55 = .ok (.iconst 4, 1) := by decide +kernel
theorem dX9_join_56 : decode cX9_join 56 = .ok (.imul, 1) := by decide +kernel
theorem dX9_join_57 : decode cX9_join 57 = .ok (.iload_n 2, 1) := by decide +kernel
theorem dX9_join_58 : decode cX9_join 58 = .ok (.iadd, 1) := by decide +kernel
theorem dX9_join_59 : decode cX9_join 59 = .ok (.iconst 0, 1) := by decide +kernel
theorem dX9_join_60 : decode cX9_join 60 = .ok (.iastore, 1) := by decide +kernel
theorem dX9_join_61 : decode cX9_join 61 = .ok (.iinc 2 1, 3) := by decide +kernel
theorem dX9_join_64 : decode cX9_join 64 = .ok (.goto (-22), 3) := by decide +kernel
theorem dX9_join_67 : decode cX9_join 67 = .ok (.aload_n 0, 1) := by decide +kernel
theorem dX9_join_68 : decode cX9_join 68 = .ok (.dup, 1) := by decide +kernel
theorem dX9_join_69 : decode cX9_join 69 = .ok (.getfield 56, 3) := by decide +kernel
theorem dX9_join_72 : decode cX9_join 72 = .ok (.iconst 1, 1) := by decide +kernel
theorem dX9_join_73 : decode cX9_join 73 = .ok (.aload_n 0, 1) := by decide +kernel
theorem dX9_join_74 : decode cX9_join 74 = .ok (.getfield 52, 3) := by decide +kernel
theorem dX9_join_77 : decode cX9_join 77 = .ok (.ishl, 1) := by decide +kernel
theorem dX9_join_78 : decode cX9_join 78 = .ok (.ior, 1) := by decide +kernel
theorem dX9_join_79 : decode cX9_join 79 = .ok (.putfield 56, 3) := by decide +kernel
theorem dX9_join_82 : decode cX9_join 82 = .ok (.aload_n 0, 1) := by decide +kernel
theorem dX9_join_83 : decode cX9_join 83 = .ok (.dup, 1) := by decide +kernel
theorem dX9_join_84 : decode cX9_join 84 = .ok (.getfield 52, 3) := by decide +kernel
theorem dX9_join_87 : decode cX9_join 87 = .ok (.iconst 1, 1) := by decide +kernel
theorem dX9_join_88 : decode cX9_join 88 = .ok (.iadd, 1) := by decide +kernel
theorem dX9_join_89 : decode cX9_join 89 = .ok (.putfield 52, 3) := by decide +kernel
theorem dX9_join_92 : decode cX9_join 92 = .ok (.return_, 1) := by decide +kernel
theorem dX9_leave_0 : decode cX9_leave 0 = .ok (.aload_n 0, 1) := by decide +kernel
theorem dX9_leave_1 : decode cX9_leave 1 = .ok (.dup, 1) := by decide +kernel
theorem dX9_leave_2 : decode cX9_leave 2 = .ok (.getfield 56, 3) := by decide +kernel
theorem dX9_leave_5 : decode cX9_leave 5 = .ok (.iconst 1, 1) := by decide +kernel
theorem dX9_leave_6 : decode cX9_leave 6 = .ok (.iload_n 1, 1) := by decide +kernel
theorem dX9_leave_7 : decode cX9_leave 7 = .ok (.ishl, 1) := by decide +kernel
theorem dX9_leave_8 : decode cX9_leave 8 = .ok (.iconst (-1), 1) := by decide +kernel
theorem dX9_leave_9 : decode cX9_leave 9 = .ok (.ixor, 1) := by decide +kernel
theorem dX9_leave_10 : decode cX9_leave 10 = .ok (.iand, 1) := by decide +kernel
theorem dX9_leave_11 : decode cX9_leave 11 = .ok (.putfield 56, 3) := by decide +kernel
theorem dX9_leave_14 : decode cX9_leave 14 = .ok (.iconst 0, 1) := by decide +kernel
theorem dX9_leave_15 : decode cX9_leave 15 = .ok (.istore_n 2, 1) := by decide +kernel
theorem dX9_leave_16 : decode cX9_leave 16 = .ok (.iload_n 2, 1) := by decide +kernel
theorem dX9_leave_17 : decode cX9_leave 17 = .ok (.aload_n 0, 1) := by decide +kernel
theorem dX9_leave_18 : decode cX9_leave 18 = .ok (.getfield 52, 3) := by decide +kernel
theorem dX9_leave_21 : decode cX9_leave 21 = .ok (.if_icmp .ge 35, 3) := by decide +kernel
theorem dX9_leave_24 : decode cX9_leave 24 = .ok (.aload_n 0, 1) := by decide +kernel
theorem dX9_leave_25 : decode cX9_leave 25 = .ok (.getfield 17, 3) := by decide +kernel
theorem dX9_leave_28 : decode cX9_leave 28 = .ok (.iload_n 2, 1) := by decide +kernel
theorem dX9_leave_29 : decode cX9_leave 29 = .ok (.iload_n 2, 1) := by decide +kernel
theorem dX9_leave_30 : decode cX9_leave 30 = .ok (.iload_n 1, 1) := by decide +kernel
theorem dX9_leave_31 : decode cX9_leave 31 = .ok (.if_icmp .ne 7, 3) := by decide +kernel
theorem dX9_leave_34 : decode cX9_leave 34 = .ok (.iconst 0, 1) := by decide +kernel
theorem dX9_leave_35 : decode cX9_leave 35 = .ok (.goto 14, 3) := by decide +kernel
theorem dX9_leave_38 : decode cX9_leave 38 = .ok (.aload_n 0, 1) := by decide +kernel
theorem dX9_leave_39 : decode cX9_leave 39 = .ok (.getfield 17, 3) := by decide +kernel
theorem dX9_leave_42 : decode cX9_leave 42 = .ok (.iload_n 2, 1) := by decide +kernel
theorem dX9_leave_43 : decode cX9_leave 43 = .ok (.iaload, 1) := by decide +kernel
theorem dX9_leave_44 : decode cX9_leave 44 = .ok (.aload_n 0, 1) := by decide +kernel
theorem dX9_leave_45 : decode cX9_leave 45 = .ok (.getfield 56, 3) := by decide +kernel
theorem dX9_leave_48 : decode cX9_leave 48 = .ok (.iand, 1) := by decide +kernel
theorem dX9_leave_49 : decode cX9_leave 49 = .ok (.iastore, 1) := by decide +kernel
theorem dX9_leave_50 : decode cX9_leave 50 = .ok (.iinc 2 1, 3) := by decide +kernel
theorem dX9_leave_53 : decode cX9_leave 53 = .ok (.goto (-37), 3) := by decide +kernel
theorem dX9_leave_56 : decode cX9_leave 56 = .ok (.return_, 1) := by decide +kernel
theorem dX9_areTied_0 : decode cX9_areTied 0 = .ok (.aload_n 0, 1) := by decide +kernel
theorem dX9_areTied_1 : decode cX9_areTied 1 = .ok (.getfield 17, 3) := by decide +kernel
theorem dX9_areTied_4 : decode cX9_areTied 4 = .ok (.iload_n 1, 1) := by decide +kernel
theorem dX9_areTied_5 : decode cX9_areTied 5 = .ok (.iaload, 1) := by decide +kernel
theorem dX9_areTied_6 : decode cX9_areTied 6 = .ok (.iload_n 2, 1) := by decide +kernel
theorem dX9_areTied_7 : decode cX9_areTied 7 = .ok (.invokestatic 82, 3) := by decide +kernel
theorem dX9_areTied_10 : decode cX9_areTied 10 = .ok (.ireturn, 1) := by decide +kernel
theorem dX9_tie_0 : decode cX9_tie 0 = .ok (.iload_n 3, 1) := by decide +kernel
theorem dX9_tie_1 : decode cX9_tie 1 = .ok (.ifCond .eq 30, 3) := by decide +kernel
theorem dX9_tie_4 : decode cX9_tie 4 = .ok (.aload_n 0, 1) := by decide +kernel
theorem dX9_tie_5 : decode cX9_tie 5 = .ok (.getfield 17, 3) := by decide +kernel
theorem dX9_tie_8 : decode cX9_tie 8 = .ok (.iload_n 1, 1) := by decide +kernel
theorem dX9_tie_9 : decode cX9_tie 9 = .ok (.dup2, 1) := by decide +kernel
theorem dX9_tie_10 : decode cX9_tie 10 = .ok (.iaload, 1) := by decide +kernel
theorem dX9_tie_11 : decode cX9_tie 11 = .ok (.iconst 1, 1) := by decide +kernel
theorem dX9_tie_12 : decode cX9_tie 12 = .ok (.iload_n 2, 1) := by decide +kernel
theorem dX9_tie_13 : decode cX9_tie 13 = .ok (.ishl, 1) := by decide +kernel
theorem dX9_tie_14 : decode cX9_tie 14 = .ok (.ior, 1) := by decide +kernel
theorem dX9_tie_15 : decode cX9_tie 15 = .ok (.iastore, 1) := by decide +kernel
theorem dX9_tie_16 : decode cX9_tie 16 = .ok (.aload_n 0, 1) := by decide +kernel
theorem dX9_tie_17 : decode cX9_tie 17 = .ok (.getfield 17, 3) := by decide +kernel
theorem dX9_tie_20 : decode cX9_tie 20 = .ok (.iload_n 2, 1) := by decide +kernel
theorem dX9_tie_21 : decode cX9_tie 21 = .ok (.dup2, 1) := by decide +kernel
theorem dX9_tie_22 : decode cX9_tie 22 = .ok (.iaload, 1) := by decide +kernel
theorem dX9_tie_23 : decode cX9_tie 23 = .ok (.iconst 1, 1) := by decide +kernel
theorem dX9_tie_24 : decode cX9_tie 24 = .ok (.iload_n 1, 1) := by decide +kernel
theorem dX9_tie_25 : decode cX9_tie 25 = .ok (.ishl, 1) := by decide +kernel
theorem dX9_tie_26 : decode cX9_tie 26 = .ok (.ior, 1) := by decide +kernel
theorem dX9_tie_27 : decode cX9_tie 27 = .ok (.iastore, 1) := by decide +kernel
theorem dX9_tie_28 : decode cX9_tie 28 = .ok (.goto 31, 3) := by decide +kernel
theorem dX9_tie_31 : decode cX9_tie 31 = .ok (.aload_n 0, 1) := by decide +kernel
theorem dX9_tie_32 : decode cX9_tie 32 = .ok (.getfield 17, 3) := by decide +kernel
theorem dX9_tie_35 : decode cX9_tie 35 = .ok (.iload_n 1, 1) := by decide +kernel
theorem dX9_tie_36 : decode cX9_tie 36 = .ok (.dup2, 1) := by decide +kernel
theorem dX9_tie_37 : decode cX9_tie 37 = .ok (.iaload, 1) := by decide +kernel
theorem dX9_tie_38 : decode cX9_tie 38 = .ok (.iconst 1, 1) := by decide +kernel
theorem dX9_tie_39 : decode cX9_tie 39 = .ok (.iload_n 2, 1) := by decide +kernel
theorem dX9_tie_40 : decode cX9_tie 40 = .ok (.ishl, 1) := by decide +kernel
theorem dX9_tie_41 : decode cX9_tie 41 = .ok (.iconst (-1), 1) := by decide +kernel
theorem dX9_tie_42 : decode cX9_tie 42 = .ok (.ixor, 1) := by decide +kernel
theorem dX9_tie_43 : decode cX9_tie 43 = .ok (.iand, 1) := by decide +kernel
theorem dX9_tie_44 : decode cX9_tie 44 = .ok (.iastore, 1) := by decide +kernel
theorem dX9_tie_45 : decode cX9_tie 45 = .ok (.aload_n 0, 1) := by decide +kernel
theorem dX9_tie_46 : decode cX9_tie 46 = .ok (.getfield 17, 3) := by decide +kernel
theorem dX9_tie_49 : decode cX9_tie 49 = .ok (.iload_n 2, 1) := by decide +kernel
theorem dX9_tie_50 : decode cX9_tie 50 = .ok (.dup2, 1) := by decide +kernel
theorem dX9_tie_51 : decode cX9_tie 51 = .ok (.iaload, 1) := by decide +kernel
theorem dX9_tie_52 : decode cX9_tie 52 = .ok (.iconst 1, 1) := by decide +kernel
theorem dX9_tie_53 : decode cX9_tie 53 = .ok (.iload_n 1, 1) := by decide +kernel
theorem dX9_tie_54 : decode cX9_tie 54 = .ok (.ishl, 1) := by decide +kernel
theorem dX9_tie_55 : decode cX9_tie 55 = .ok (.iconst (-1), 1) := by decide +kernel
theorem dX9_tie_56 : decode cX9_tie 56 = .ok (.ixor, 1) := by decide +kernel
theorem dX9_tie_57 : decode cX9_tie 57 = .ok (.iand, 1) := by decide +kernel
theorem dX9_tie_58 : decode cX9_tie 58 = .ok (.iastore, 1) := by decide +kernel
theorem dX9_tie_59 : decode cX9_tie 59 = .ok (.return_, 1) := by decide +kernel
theorem dX9_friendsOf_0 : decode cX9_friendsOf 0 = .ok (.aload_n 0, 1) := by decide +kernel
theorem dX9_friendsOf_1 : decode cX9_friendsOf 1 = .ok (.getfield 17, 3) := by decide +kernel
theorem dX9_friendsOf_4 : decode cX9_friendsOf 4 = .ok (.iload_n 1, 1) := by decide +kernel
theorem dX9_friendsOf_5 : decode cX9_friendsOf 5 = .ok (.iaload, 1) := by decide +kernel
theorem dX9_friendsOf_6 : decode cX9_friendsOf 6 = .ok (.invokestatic 86, 3) := by decide +kernel
theorem dX9_friendsOf_9 : decode cX9_friendsOf 9 = .ok (.ireturn, 1) := by decide +kernel
theorem dX9_isEverybodys_0 : decode cX9_isEverybodys 0 = .ok (.aload_n 0, 1) := by decide +kernel
theorem dX9_isEverybodys_1 : decode cX9_isEverybodys 1 = .ok (.getfield 56, 3) := by decide +kernel
theorem dX9_isEverybodys_4 : decode cX9_isEverybodys 4 = .ok (.iconst 1, 1) := by decide +kernel
theorem dX9_isEverybodys_5 : decode cX9_isEverybodys 5 = .ok (.iload_n 1, 1) := by decide +kernel
theorem dX9_isEverybodys_6 : decode cX9_isEverybodys 6 = .ok (.ishl, 1) := by decide +kernel
theorem dX9_isEverybodys_7 : decode cX9_isEverybodys 7 = .ok (.iconst (-1), 1) := by decide +kernel
theorem dX9_isEverybodys_8 : decode cX9_isEverybodys 8 = .ok (.ixor, 1) := by decide +kernel
theorem dX9_isEverybodys_9 : decode cX9_isEverybodys 9 = .ok (.iand, 1) := by decide +kernel
theorem dX9_isEverybodys_10 : decode cX9_isEverybodys 10 = .ok (.istore_n 2, 1) := by decide +kernel
theorem dX9_isEverybodys_11 : decode cX9_isEverybodys 11 = .ok (.iload_n 2, 1) := by decide +kernel
theorem dX9_isEverybodys_12 : decode cX9_isEverybodys 12 = .ok (.aload_n 0, 1) := by decide +kernel
theorem dX9_isEverybodys_13 : decode cX9_isEverybodys 13 = .ok (.getfield 17, 3) := by decide +kernel
theorem dX9_isEverybodys_16 : decode cX9_isEverybodys 16 = .ok (.iload_n 1, 1) := by decide +kernel
theorem dX9_isEverybodys_17 : decode cX9_isEverybodys 17 = .ok (.iaload, 1) := by decide +kernel
theorem dX9_isEverybodys_18 : decode cX9_isEverybodys 18 = .ok (.iand, 1) := by decide +kernel
theorem dX9_isEverybodys_19 : decode cX9_isEverybodys 19 = .ok (.iload_n 2, 1) := by decide +kernel
theorem dX9_isEverybodys_20 : decode cX9_isEverybodys 20 = .ok (.if_icmp .ne 7, 3) := by decide +kernel
theorem dX9_isEverybodys_23 : decode cX9_isEverybodys 23 = .ok (.iconst 1, 1) := by decide +kernel
theorem dX9_isEverybodys_24 : decode cX9_isEverybodys 24 = .ok (.goto 4, 3) := by decide +kernel
theorem dX9_isEverybodys_27 : decode cX9_isEverybodys 27 = .ok (.iconst 0, 1) := by decide +kernel
theorem dX9_isEverybodys_28 : decode cX9_isEverybodys 28 = .ok (.ireturn, 1) := by decide +kernel
theorem dX9_toldOf_0 : decode cX9_toldOf 0 = .ok (.aload_n 0, 1) := by decide +kernel
theorem dX9_toldOf_1 : decode cX9_toldOf 1 = .ok (.getfield 21, 3) := by decide +kernel
theorem dX9_toldOf_4 : decode cX9_toldOf 4 = .ok (.iload_n 1, 1) := by decide +kernel
theorem dX9_toldOf_5 : decode cX9_toldOf 5 = .ok (.iconst 4, 1) := by decide +kernel
theorem dX9_toldOf_6 : decode cX9_toldOf 6 = .ok (.imul, 1) := by decide +kernel
theorem dX9_toldOf_7 : decode cX9_toldOf 7 = .ok (.aload_n 0, 1) := by decide +kernel
theorem dX9_toldOf_8 : decode cX9_toldOf 8 = .ok (.getfield 59, 3) := by decide +kernel
theorem dX9_toldOf_11 : decode cX9_toldOf 11 = .ok (.iconst 4, 1) := by decide +kernel
theorem dX9_toldOf_12 : decode cX9_toldOf 12 = .ok (.irem, 1) := by decide +kernel
theorem dX9_toldOf_13 : decode cX9_toldOf 13 = .ok (.iadd, 1) := by decide +kernel
theorem dX9_toldOf_14 : decode cX9_toldOf 14 = .ok (.iaload, 1) := by decide +kernel
theorem dX9_toldOf_15 : decode cX9_toldOf 15 = .ok (.ireturn, 1) := by decide +kernel
theorem dX9_withFriends_0 : decode cX9_withFriends 0 = .ok (.iload_n 1, 1) := by decide +kernel
theorem dX9_withFriends_1 : decode cX9_withFriends 1 = .ok (.istore_n 2, 1) := by decide +kernel
theorem dX9_withFriends_2 : decode cX9_withFriends 2 = .ok (.iconst 0, 1) := by decide +kernel
theorem dX9_withFriends_3 : decode cX9_withFriends 3 = .ok (.istore_n 3, 1) := by decide +kernel
theorem dX9_withFriends_4 : decode cX9_withFriends 4 = .ok (.iload_n 3, 1) := by decide +kernel
theorem dX9_withFriends_5 : decode cX9_withFriends 5 = .ok (.aload_n 0, 1) := by decide +kernel
theorem dX9_withFriends_6 : decode cX9_withFriends 6 = .ok (.getfield 52, 3) := by decide +kernel
theorem dX9_withFriends_9 : decode cX9_withFriends 9 = .ok (.if_icmp .ge 26, 3) := by decide +kernel
theorem dX9_withFriends_12 : decode cX9_withFriends 12 = .ok (.iload_n 1, 1) := by decide +kernel
theorem dX9_withFriends_13 : decode cX9_withFriends 13 = .ok (.iload_n 3, 1) := by decide +kernel
theorem dX9_withFriends_14 : decode cX9_withFriends 14 = .ok (.invokestatic 82, 3) := by decide +kernel
theorem dX9_withFriends_17 : decode cX9_withFriends 17 = .ok (.ifCond .eq 12, 3) := by decide +kernel
theorem dX9_withFriends_20 : decode cX9_withFriends 20 = .ok (.iload_n 2, 1) := by decide +kernel
theorem dX9_withFriends_21 : decode cX9_withFriends 21 = .ok (.aload_n 0, 1) := by decide +kernel
theorem dX9_withFriends_22 : decode cX9_withFriends 22 = .ok (.getfield 17, 3) := by decide +kernel
theorem dX9_withFriends_25 : decode cX9_withFriends 25 = .ok (.iload_n 3, 1) := by decide +kernel
theorem dX9_withFriends_26 : decode cX9_withFriends 26 = .ok (.iaload, 1) := by decide +kernel
theorem dX9_withFriends_27 : decode cX9_withFriends 27 = .ok (.ior, 1) := by decide +kernel
theorem dX9_withFriends_28 : decode cX9_withFriends 28 = .ok (.istore_n 2, 1) := by decide +kernel
theorem dX9_withFriends_29 : decode cX9_withFriends 29 = .ok (.iinc 3 1, 3) := by decide +kernel
theorem dX9_withFriends_32 : decode cX9_withFriends 32 = .ok (.goto (-28), 3) := by decide +kernel
theorem dX9_withFriends_35 : decode cX9_withFriends 35 = .ok (.iload_n 2, 1) := by decide +kernel
theorem dX9_withFriends_36 : decode cX9_withFriends 36 = .ok (.ireturn, 1) := by decide +kernel
theorem dX9_pairCount_0 : decode cX9_pairCount 0 = .ok (.aload_n 0, 1) := by decide +kernel
theorem dX9_pairCount_1 : decode cX9_pairCount 1 = .ok (.getfield 52, 3) := by decide +kernel
theorem dX9_pairCount_4 : decode cX9_pairCount 4 = .ok (.aload_n 0, 1) := by decide +kernel
theorem dX9_pairCount_5 : decode cX9_pairCount 5 = .ok (.getfield 52, 3) := by decide +kernel
theorem dX9_pairCount_8 : decode cX9_pairCount 8 = .ok (.iconst 1, 1) := by decide +kernel
theorem dX9_pairCount_9 : decode cX9_pairCount 9 = .ok (.isub, 1) := by decide +kernel
theorem dX9_pairCount_10 : decode cX9_pairCount 10 = .ok (.imul, 1) := by decide +kernel
theorem dX9_pairCount_11 : decode cX9_pairCount 11 = .ok (.iconst 2, 1) := by decide +kernel
theorem dX9_pairCount_12 : decode cX9_pairCount 12 = .ok (.idiv, 1) := by decide +kernel
theorem dX9_pairCount_13 : decode cX9_pairCount 13 = .ok (.ireturn, 1) := by decide +kernel
theorem dX9_hasPair_0 : decode cX9_hasPair 0 = .ok (.iload_n 1, 1) := by decide +kernel
theorem dX9_hasPair_1 : decode cX9_hasPair 1 = .ok (.ifCond .lt 15, 3) := by decide +kernel
theorem dX9_hasPair_4 : decode cX9_hasPair 4 = .ok (.iload_n 1, 1) := by decide +kernel
theorem dX9_hasPair_5 : decode cX9_hasPair 5 = .ok (.aload_n 0, 1) := by decide +kernel
theorem dX9_hasPair_6 : decode cX9_hasPair 6 = .ok (.invokevirtual 92, 3) := by decide +kernel
theorem dX9_hasPair_9 : decode cX9_hasPair 9 = .ok (.if_icmp .ge 7, 3) := by decide +kernel
theorem dX9_hasPair_12 : decode cX9_hasPair 12 = .ok (.iconst 1, 1) := by decide +kernel
theorem dX9_hasPair_13 : decode cX9_hasPair 13 = .ok (.goto 4, 3) := by decide +kernel
theorem dX9_hasPair_16 : decode cX9_hasPair 16 = .ok (.iconst 0, 1) := by decide +kernel
theorem dX9_hasPair_17 : decode cX9_hasPair 17 = .ok (.ireturn, 1) := by decide +kernel
theorem dX9_areFriends_0 : decode cX9_areFriends 0 = .ok (.aload_n 0, 1) := by decide +kernel
theorem dX9_areFriends_1 : decode cX9_areFriends 1 = .ok (.getstatic 95, 3) := by decide +kernel
theorem dX9_areFriends_4 : decode cX9_areFriends 4 = .ok (.iload_n 1, 1) := by decide +kernel
theorem dX9_areFriends_5 : decode cX9_areFriends 5 = .ok (.iaload, 1) := by decide +kernel
theorem dX9_areFriends_6 : decode cX9_areFriends 6 = .ok (.getstatic 98, 3) := by decide +kernel
theorem dX9_areFriends_9 : decode cX9_areFriends 9 = .ok (.iload_n 1, 1) := by decide +kernel
theorem dX9_areFriends_10 : decode cX9_areFriends 10 = .ok (.iaload, 1) := by decide +kernel
theorem dX9_areFriends_11 : decode cX9_areFriends 11 = .ok (.invokevirtual 101, 3) := by decide +kernel
theorem dX9_areFriends_14 : decode cX9_areFriends 14 = .ok (.ireturn, 1) := by decide +kernel
theorem dX9_change_0 : decode cX9_change 0 = .ok (.aload_n 0, 1) := by decide +kernel
theorem dX9_change_1 : decode cX9_change 1 = .ok (.getstatic 95, 3) := by decide +kernel
theorem dX9_change_4 : decode cX9_change 4 = .ok (.iload_n 1, 1) := by decide +kernel
theorem dX9_change_5 : decode cX9_change 5 = .ok (.iaload, 1) := by decide +kernel
theorem dX9_change_6 : decode cX9_change 6 = .ok (.getstatic 98, 3) := by decide +kernel
theorem dX9_change_9 : decode cX9_change 9 = .ok (.iload_n 1, 1) := by decide +kernel
theorem dX9_change_10 : decode cX9_change 10 = .ok (.iaload, 1) := by decide +kernel
theorem dX9_change_11 : decode cX9_change 11 = .ok (.aload_n 0, 1) := by decide +kernel
theorem dX9_change_12 : decode cX9_change 12 = .ok (.iload_n 1, 1) := by decide +kernel
theorem dX9_change_13 : decode cX9_change 13 = .ok (.invokevirtual 104, 3) := by decide +kernel
theorem dX9_change_16 : decode cX9_change 16 = .ok (.ifCond .ne 7, 3) := by decide +kernel
theorem dX9_change_19 : decode cX9_change 19 = .ok (.iconst 1, 1) := by decide +kernel
theorem dX9_change_20 : decode cX9_change 20 = .ok (.goto 4, 3) := by decide +kernel
theorem dX9_change_23 : decode cX9_change 23 = .ok (.iconst 0, 1) := by decide +kernel
theorem dX9_change_24 : decode cX9_change 24 = .ok (.invokevirtual 107, 3) := by decide +kernel
theorem dX9_change_27 : decode cX9_change 27 = .ok (.return_, 1) := by decide +kernel
theorem dX9_friendships_0 : decode cX9_friendships 0 = .ok (.iconst 0, 1) := by decide +kernel
theorem dX9_friendships_1 : decode cX9_friendships 1 = .ok (.istore_n 1, 1) := by decide +kernel
theorem dX9_friendships_2 : decode cX9_friendships 2 = .ok (.iconst 0, 1) := by decide +kernel
theorem dX9_friendships_3 : decode cX9_friendships 3 = .ok (.istore_n 2, 1) := by decide +kernel
theorem dX9_friendships_4 : decode cX9_friendships 4 = .ok (.iload_n 2, 1) := by decide +kernel
theorem dX9_friendships_5 : decode cX9_friendships 5 = .ok (.aload_n 0, 1) := by decide +kernel
theorem dX9_friendships_6 : decode cX9_friendships 6 = .ok (.invokevirtual 92, 3) := by decide +kernel
theorem dX9_friendships_9 : decode cX9_friendships 9 = .ok (.if_icmp .ge 20, 3) := by decide +kernel
theorem dX9_friendships_12 : decode cX9_friendships 12 = .ok (.aload_n 0, 1) := by decide +kernel
theorem dX9_friendships_13 : decode cX9_friendships 13 = .ok (.iload_n 2, 1) := by decide +kernel
theorem dX9_friendships_14 : decode cX9_friendships 14 = .ok (.invokevirtual 104, 3) := by decide +kernel
theorem dX9_friendships_17 : decode cX9_friendships 17 = .ok (.ifCond .eq 6, 3) := by decide +kernel
theorem dX9_friendships_20 : decode cX9_friendships 20 = .ok (.iinc 1 1, 3) := by decide +kernel
theorem dX9_friendships_23 : decode cX9_friendships 23 = .ok (.iinc 2 1, 3) := by decide +kernel
theorem dX9_friendships_26 : decode cX9_friendships 26 = .ok (.goto (-22), 3) := by decide +kernel
theorem dX9_friendships_29 : decode cX9_friendships 29 = .ok (.iload_n 1, 1) := by decide +kernel
theorem dX9_friendships_30 : decode cX9_friendships 30 = .ok (.ireturn, 1) := by decide +kernel
theorem dX9_commonOf_0 : decode cX9_commonOf 0 = .ok (.aload_n 0, 1) := by decide +kernel
theorem dX9_commonOf_1 : decode cX9_commonOf 1 = .ok (.getfield 17, 3) := by decide +kernel
theorem dX9_commonOf_4 : decode cX9_commonOf 4 = .ok (.getstatic 95, 3) := by decide +kernel
theorem dX9_commonOf_7 : decode cX9_commonOf 7 = .ok (.iload_n 1, 1) := by decide +kernel
theorem dX9_commonOf_8 : decode cX9_commonOf 8 = .ok (.iaload, 1) := by decide +kernel
theorem dX9_commonOf_9 : decode cX9_commonOf 9 = .ok (.iaload, 1) := by decide +kernel
theorem dX9_commonOf_10 : decode cX9_commonOf 10 = .ok (.aload_n 0, 1) := by decide +kernel
theorem dX9_commonOf_11 : decode cX9_commonOf 11 = .ok (.getfield 17, 3) := by decide +kernel
theorem dX9_commonOf_14 : decode cX9_commonOf 14 = .ok (.getstatic 98, 3) := by decide +kernel
theorem dX9_commonOf_17 : decode cX9_commonOf 17 = .ok (.iload_n 1, 1) := by decide +kernel
theorem dX9_commonOf_18 : decode cX9_commonOf 18 = .ok (.iaload, 1) := by decide +kernel
theorem dX9_commonOf_19 : decode cX9_commonOf 19 = .ok (.iaload, 1) := by decide +kernel
theorem dX9_commonOf_20 : decode cX9_commonOf 20 = .ok (.iand, 1) := by decide +kernel
theorem dX9_commonOf_21 : decode cX9_commonOf 21 = .ok (.istore_n 2, 1) := by decide +kernel
theorem dX9_commonOf_22 : decode cX9_commonOf 22 = .ok (.aload_n 0, 1) := by decide +kernel
theorem dX9_commonOf_23 : decode cX9_commonOf 23 = .ok (.iload_n 1, 1) := by decide +kernel
theorem dX9_commonOf_24 : decode cX9_commonOf 24 = .ok (.invokevirtual 104, 3) := by decide +kernel
theorem dX9_commonOf_27 : decode cX9_commonOf 27 = .ok (.istore_n 3, 1) := by decide +kernel
theorem dX9_commonOf_28 : decode cX9_commonOf 28 = .ok (.iconst 0, 1) := by decide +kernel
theorem dX9_commonOf_29 : decode cX9_commonOf 29 = .ok (.istore 4, 2) := by decide +kernel
theorem dX9_commonOf_31 : decode cX9_commonOf 31 = .ok (.iconst 0, 1) := by decide +kernel
theorem dX9_commonOf_32 : decode cX9_commonOf 32 = .ok (.istore 5, 2) := by decide +kernel
theorem dX9_commonOf_34 : decode cX9_commonOf 34 = .ok (.iload 5, 2) := by decide +kernel
theorem dX9_commonOf_36 : decode cX9_commonOf 36 = .ok (.aload_n 0, 1) := by decide +kernel
theorem dX9_commonOf_37 : decode cX9_commonOf 37 = .ok (.getfield 52, 3) := by decide +kernel
theorem dX9_commonOf_40 : decode cX9_commonOf 40 = .ok (.if_icmp .ge 44, 3) := by decide +kernel
theorem dX9_commonOf_43 : decode cX9_commonOf 43 = .ok (.aload_n 0, 1) := by decide +kernel
theorem dX9_commonOf_44 : decode cX9_commonOf 44 = .ok (.getfield 11, 3) := by decide +kernel
theorem dX9_commonOf_47 : decode cX9_commonOf 47 = .ok (.iload 5, 2) := by decide +kernel
theorem dX9_commonOf_49 : decode cX9_commonOf 49 = .ok (.aaload, 1) := by decide +kernel
theorem dX9_commonOf_50 : decode cX9_commonOf 50 = .ok (.astore 6, 2) := by decide +kernel
theorem dX9_commonOf_52 : decode cX9_commonOf 52 = .ok (.iload_n 2, 1) := by decide +kernel
theorem dX9_commonOf_53 : decode cX9_commonOf 53 = .ok (.iload 5, 2) := by decide +kernel
theorem dX9_commonOf_55 : decode cX9_commonOf 55 = .ok (.invokestatic 82, 3) := by decide +kernel
theorem dX9_commonOf_58 : decode cX9_commonOf 58 = .ok (.ifCond .eq 20, 3) := by decide +kernel
theorem dX9_commonOf_61 : decode cX9_commonOf 61 = .ok (.aload 6, 2) := by decide +kernel
theorem dX9_commonOf_63 : decode cX9_commonOf 63 = .ok (.ifnull 15, 3) := by decide +kernel
theorem dX9_commonOf_66 : decode cX9_commonOf 66 = .ok (.iload 4, 2) := by decide +kernel
theorem dX9_commonOf_68 : decode cX9_commonOf 68 = .ok (.aload 6, 2) := by decide +kernel
theorem dX9_commonOf_70 : decode cX9_commonOf 70 = .ok (.aload_n 0, 1) := by decide +kernel
theorem dX9_commonOf_71 : decode cX9_commonOf 71 = .ok (.iload_n 3, 1) := by decide +kernel
theorem dX9_commonOf_72 : decode cX9_commonOf 72 = .ok (.invokevirtual 111, 3) := by decide +kernel
theorem dX9_commonOf_75 : decode cX9_commonOf 75 = .ok (.iadd, 1) := by decide +kernel
theorem dX9_commonOf_76 : decode cX9_commonOf 76 = .ok (.istore 4, 2) := by decide +kernel
theorem dX9_commonOf_78 : decode cX9_commonOf 78 = .ok (.iinc 5 1, 3) := by decide +kernel
theorem dX9_commonOf_81 : decode cX9_commonOf 81 = .ok (.goto (-47), 3) := by decide +kernel
theorem dX9_commonOf_84 : decode cX9_commonOf 84 = .ok (.iload 4, 2) := by decide +kernel
theorem dX9_commonOf_86 : decode cX9_commonOf 86 = .ok (.ireturn, 1) := by decide +kernel
theorem dX9_wantedOf_0 : decode cX9_wantedOf 0 = .ok (.aload_n 0, 1) := by decide +kernel
theorem dX9_wantedOf_1 : decode cX9_wantedOf 1 = .ok (.iconst 0, 1) := by decide +kernel
theorem dX9_wantedOf_2 : decode cX9_wantedOf 2 = .ok (.iload_n 1, 1) := by decide +kernel
theorem dX9_wantedOf_3 : decode cX9_wantedOf 3 = .ok (.invokevirtual 115, 3) := by decide +kernel
theorem dX9_wantedOf_6 : decode cX9_wantedOf 6 = .ok (.ireturn, 1) := by decide +kernel
theorem dX9_priceOf_0 : decode cX9_priceOf 0 = .ok (.aload_n 0, 1) := by decide +kernel
theorem dX9_priceOf_1 : decode cX9_priceOf 1 = .ok (.aload_n 0, 1) := by decide +kernel
theorem dX9_priceOf_2 : decode cX9_priceOf 2 = .ok (.iload_n 1, 1) := by decide +kernel
theorem dX9_priceOf_3 : decode cX9_priceOf 3 = .ok (.invokevirtual 104, 3) := by decide +kernel
theorem dX9_priceOf_6 : decode cX9_priceOf 6 = .ok (.ifCond .eq 7, 3) := by decide +kernel
theorem dX9_priceOf_9 : decode cX9_priceOf 9 = .ok (.iconst 2, 1) := by decide +kernel
theorem dX9_priceOf_10 : decode cX9_priceOf 10 = .ok (.goto 4, 3) := by decide +kernel
theorem dX9_priceOf_13 : decode cX9_priceOf 13 = .ok (.iconst 1, 1) := by decide +kernel
theorem dX9_priceOf_14 : decode cX9_priceOf 14 = .ok (.iload_n 1, 1) := by decide +kernel
theorem dX9_priceOf_15 : decode cX9_priceOf 15 = .ok (.invokevirtual 115, 3) := by decide +kernel
theorem dX9_priceOf_18 : decode cX9_priceOf 18 = .ok (.ireturn, 1) := by decide +kernel
theorem dX9_asTownSays_0 : decode cX9_asTownSays 0 = .ok (.aload_n 0, 1) := by decide +kernel
theorem dX9_asTownSays_1 : decode cX9_asTownSays 1 = .ok (.getfield 62, 3) := by decide +kernel
theorem dX9_asTownSays_4 : decode cX9_asTownSays 4 = .ok (.ifnonnull 5, 3) := by decide +kernel
theorem dX9_asTownSays_7 : decode cX9_asTownSays 7 = .ok (.iconst 1, 1) := by decide +kernel
theorem dX9_asTownSays_8 : decode cX9_asTownSays 8 = .ok (.ireturn, 1) := by decide +kernel
theorem dX9_asTownSays_9 : decode cX9_asTownSays 9 = .ok (.aload_n 0, 1) := by decide +kernel
theorem dX9_asTownSays_10 : decode cX9_asTownSays 10 = .ok (.getfield 49, 3) := by decide +kernel
theorem dX9_asTownSays_13 : decode cX9_asTownSays 13 = .ok (.iconst 0, 1) := by decide +kernel
theorem dX9_asTownSays_14 : decode cX9_asTownSays 14 = .ok (.getstatic 95, 3) := by decide +kernel
theorem dX9_asTownSays_17 : decode cX9_asTownSays 17 = .ok (.iload_n 2, 1) := by decide +kernel
theorem dX9_asTownSays_18 : decode cX9_asTownSays 18 = .ok (.iaload, 1) := by decide +kernel
theorem dX9_asTownSays_19 : decode cX9_asTownSays 19 = .ok (.iastore, 1) := by decide +kernel
theorem dX9_asTownSays_20 : decode cX9_asTownSays 20 = .ok (.aload_n 0, 1) := by decide +kernel
theorem dX9_asTownSays_21 : decode cX9_asTownSays 21 = .ok (.getfield 49, 3) := by decide +kernel
theorem dX9_asTownSays_24 : decode cX9_asTownSays 24 = .ok (.iconst 1, 1) := by decide +kernel
theorem dX9_asTownSays_25 : decode cX9_asTownSays 25 = .ok (.getstatic 98, 3) := by decide +kernel
theorem dX9_asTownSays_28 : decode cX9_asTownSays 28 = .ok (.iload_n 2, 1) := by decide +kernel
theorem dX9_asTownSays_29 : decode cX9_asTownSays 29 = .ok (.iaload, 1) := by decide +kernel
theorem dX9_asTownSays_30 : decode cX9_asTownSays 30 = .ok (.iastore, 1) := by decide +kernel
theorem dX9_asTownSays_31 : decode cX9_asTownSays 31 = .ok (.aload_n 0, 1) := by decide +kernel
theorem dX9_asTownSays_32 : decode cX9_asTownSays 32 = .ok (.getfield 49, 3) := by decide +kernel
theorem dX9_asTownSays_35 : decode cX9_asTownSays 35 = .ok (.iconst 2, 1) := by decide +kernel
theorem dX9_asTownSays_36 : decode cX9_asTownSays 36 = .ok (.aload_n 0, 1) := by decide +kernel
theorem dX9_asTownSays_37 : decode cX9_asTownSays 37 = .ok (.iload_n 2, 1) := by decide +kernel
theorem dX9_asTownSays_38 : decode cX9_asTownSays 38 = .ok (.invokevirtual 104, 3) := by decide +kernel
theorem dX9_asTownSays_41 : decode cX9_asTownSays 41 = .ok (.invokestatic 119, 3) := by decide +kernel
theorem dX9_asTownSays_44 : decode cX9_asTownSays 44 = .ok (.iastore, 1) := by decide +kernel
theorem dX9_asTownSays_45 : decode cX9_asTownSays 45 = .ok (.aload_n 0, 1) := by decide +kernel
theorem dX9_asTownSays_46 : decode cX9_asTownSays 46 = .ok (.getfield 49, 3) := by decide +kernel
theorem dX9_asTownSays_49 : decode cX9_asTownSays 49 = .ok (.iconst 3, 1) := by decide +kernel
theorem dX9_asTownSays_50 : decode cX9_asTownSays 50 = .ok (.aload_n 0, 1) := by decide +kernel
theorem dX9_asTownSays_51 : decode cX9_asTownSays 51 = .ok (.getstatic 95, 3) := by decide +kernel
theorem dX9_asTownSays_54 : decode cX9_asTownSays 54 = .ok (.iload_n 2, 1) := by decide +kernel
theorem dX9_asTownSays_55 : decode cX9_asTownSays 55 = .ok (.iaload, 1) := by decide +kernel
theorem dX9_asTownSays_56 : decode cX9_asTownSays 56 = .ok (.invokevirtual 123, 3) := by decide +kernel
theorem dX9_asTownSays_59 : decode cX9_asTownSays 59 = .ok (.iastore, 1) := by decide +kernel
theorem dX9_asTownSays_60 : decode cX9_asTownSays 60 = .ok (.aload_n 0, 1) := by decide +kernel
theorem dX9_asTownSays_61 : decode cX9_asTownSays 61 = .ok (.getfield 49, 3) := by decide +kernel
theorem dX9_asTownSays_64 : decode cX9_asTownSays 64 = .ok (.iconst 4, 1) := by decide +kernel
theorem dX9_asTownSays_65 : decode cX9_asTownSays 65 = .ok (.aload_n 0, 1) := by decide +kernel
theorem dX9_asTownSays_66 : decode cX9_asTownSays 66 = .ok (.getstatic 98, 3) := by decide +kernel
theorem dX9_asTownSays_69 : decode cX9_asTownSays 69 = .ok (.iload_n 2, 1) := by decide +kernel
theorem dX9_asTownSays_70 : decode cX9_asTownSays 70 = .ok (.iaload, 1) := by decide +kernel
theorem dX9_asTownSays_71 : decode cX9_asTownSays 71 = .ok (.invokevirtual 123, 3) := by decide +kernel
theorem dX9_asTownSays_74 : decode cX9_asTownSays 74 = .ok (.iastore, 1) := by decide +kernel
theorem dX9_asTownSays_75 : decode cX9_asTownSays 75 = .ok (.aload_n 0, 1) := by decide +kernel
theorem dX9_asTownSays_76 : decode cX9_asTownSays 76 = .ok (.getfield 49, 3) := by decide +kernel
theorem dX9_asTownSays_79 : decode cX9_asTownSays 79 = .ok (.iconst 5, 1) := by decide +kernel
theorem dX9_asTownSays_80 : decode cX9_asTownSays 80 = .ok (.aload_n 0, 1) := by decide +kernel
theorem dX9_asTownSays_81 : decode cX9_asTownSays 81 = .ok (.getfield 59, 3) := by decide +kernel
theorem dX9_asTownSays_84 : decode cX9_asTownSays 84 = .ok (.bipush 10, 2) := by decide +kernel
theorem dX9_asTownSays_86 : decode cX9_asTownSays 86 = .ok (.irem, 1) := by decide +kernel
theorem dX9_asTownSays_87 : decode cX9_asTownSays 87 = .ok (.iastore, 1) := by decide +kernel
theorem dX9_asTownSays_88 : decode cX9_asTownSays 88 = .ok (.aload_n 0, 1) := by decide +kernel
theorem dX9_asTownSays_89 : decode cX9_asTownSays 89 = .ok (.getfield 62, 3) := by decide +kernel
theorem dX9_asTownSays_92 : decode cX9_asTownSays 92 = .ok (.iload_n 1, 1) := by decide +kernel
theorem dX9_asTownSays_93 : decode cX9_asTownSays 93 = .ok (.aload_n 0, 1) := by decide +kernel
theorem dX9_asTownSays_94 : decode cX9_asTownSays 94 = .ok (.getfield 49, 3) := by decide +kernel
theorem dX9_asTownSays_97 : decode cX9_asTownSays 97 = .ok (.invokevirtual 126, 3) := by decide +kernel
theorem dX9_asTownSays_100 : decode cX9_asTownSays 100 = .ok (.ireturn, 1) := by decide +kernel
theorem dX9_amissBy_0 : decode cX9_amissBy 0 = .ok (.aload_n 0, 1) := by decide +kernel
theorem dX9_amissBy_1 : decode cX9_amissBy 1 = .ok (.getfield 56, 3) := by decide +kernel
theorem dX9_amissBy_4 : decode cX9_amissBy 4 = .ok (.getstatic 95, 3) := by decide +kernel
theorem dX9_amissBy_7 : decode cX9_amissBy 7 = .ok (.iload_n 1, 1) := by decide +kernel
theorem dX9_amissBy_8 : decode cX9_amissBy 8 = .ok (.iaload, 1) := by decide +kernel
theorem dX9_amissBy_9 : decode cX9_amissBy 9 = .ok (.invokestatic 82, 3) := by decide +kernel
theorem dX9_amissBy_12 : decode cX9_amissBy 12 = .ok (.ifCond .eq 18, 3) := by decide +kernel
theorem dX9_amissBy_15 : decode cX9_amissBy 15 = .ok (.aload_n 0, 1) := by decide +kernel
theorem dX9_amissBy_16 : decode cX9_amissBy 16 = .ok (.getfield 56, 3) := by decide +kernel
theorem dX9_amissBy_19 : decode cX9_amissBy 19 = .ok (.getstatic 98, 3) := by decide +kernel
theorem dX9_amissBy_22 : decode cX9_amissBy 22 = .ok (.iload_n 1, 1) := by decide +kernel
theorem dX9_amissBy_23 : decode cX9_amissBy 23 = .ok (.iaload, 1) := by decide +kernel
theorem dX9_amissBy_24 : decode cX9_amissBy 24 = .ok (.invokestatic 82, 3) := by decide +kernel
theorem dX9_amissBy_27 : decode cX9_amissBy 27 = .ok (.ifCond .ne 5, 3) := by decide +kernel
theorem dX9_amissBy_30 : decode cX9_amissBy 30 = .ok (.iconst 0, 1) := by decide +kernel
theorem dX9_amissBy_31 : decode cX9_amissBy 31 = .ok (.ireturn, 1) := by decide +kernel
theorem dX9_amissBy_32 : decode cX9_amissBy 32 = .ok (.aload_n 0, 1) := by decide +kernel
theorem dX9_amissBy_33 : decode cX9_amissBy 33 = .ok (.iload_n 1, 1) := by decide +kernel
theorem dX9_amissBy_34 : decode cX9_amissBy 34 = .ok (.invokevirtual 130, 3) := by decide +kernel
theorem dX9_amissBy_37 : decode cX9_amissBy 37 = .ok (.aload_n 0, 1) := by decide +kernel
theorem dX9_amissBy_38 : decode cX9_amissBy 38 = .ok (.iconst 0, 1) := by decide +kernel
theorem dX9_amissBy_39 : decode cX9_amissBy 39 = .ok (.iload_n 1, 1) := by decide +kernel
theorem dX9_amissBy_40 : decode cX9_amissBy 40 = .ok (.invokevirtual 115, 3) := by decide +kernel
theorem dX9_amissBy_43 : decode cX9_amissBy 43 = .ok (.isub, 1) := by decide +kernel
theorem dX9_amissBy_44 : decode cX9_amissBy 44 = .ok (.invokestatic 133, 3) := by decide +kernel
theorem dX9_amissBy_47 : decode cX9_amissBy 47 = .ok (.ireturn, 1) := by decide +kernel
theorem dX9_amissBits_0 : decode cX9_amissBits 0 = .ok (.iconst 0, 1) := by decide +kernel
theorem dX9_amissBits_1 : decode cX9_amissBits 1 = .ok (.istore_n 1, 1) := by decide +kernel
theorem dX9_amissBits_2 : decode cX9_amissBits 2 = .ok (.iconst 0, 1) := by decide +kernel
theorem dX9_amissBits_3 : decode cX9_amissBits 3 = .ok (.istore_n 2, 1) := by decide +kernel
theorem dX9_amissBits_4 : decode cX9_amissBits 4 = .ok (.iload_n 2, 1) := by decide +kernel
theorem dX9_amissBits_5 : decode cX9_amissBits 5 = .ok (.aload_n 0, 1) := by decide +kernel
theorem dX9_amissBits_6 : decode cX9_amissBits 6 = .ok (.invokevirtual 92, 3) := by decide +kernel
theorem dX9_amissBits_9 : decode cX9_amissBits 9 = .ok (.if_icmp .ge 23, 3) := by decide +kernel
theorem dX9_amissBits_12 : decode cX9_amissBits 12 = .ok (.aload_n 0, 1) := by decide +kernel
theorem dX9_amissBits_13 : decode cX9_amissBits 13 = .ok (.iload_n 2, 1) := by decide +kernel
theorem dX9_amissBits_14 : decode cX9_amissBits 14 = .ok (.invokevirtual 138, 3) := by decide +kernel
theorem dX9_amissBits_17 : decode cX9_amissBits 17 = .ok (.ifCond .eq 9, 3) := by decide +kernel
theorem dX9_amissBits_20 : decode cX9_amissBits 20 = .ok (.iload_n 1, 1) := by decide +kernel
theorem dX9_amissBits_21 : decode cX9_amissBits 21 = .ok (.iconst 1, 1) := by decide +kernel
theorem dX9_amissBits_22 : decode cX9_amissBits 22 = .ok (.iload_n 2, 1) := by decide +kernel
theorem dX9_amissBits_23 : decode cX9_amissBits 23 = .ok (.ishl, 1) := by decide +kernel
theorem dX9_amissBits_24 : decode cX9_amissBits 24 = .ok (.ior, 1) := by decide +kernel
theorem dX9_amissBits_25 : decode cX9_amissBits 25 = .ok (.istore_n 1, 1) := by decide +kernel
theorem dX9_amissBits_26 : decode cX9_amissBits 26 = .ok (.iinc 2 1, 3) := by decide +kernel
theorem dX9_amissBits_29 : decode cX9_amissBits 29 = .ok (.goto (-25), 3) := by decide +kernel
theorem dX9_amissBits_32 : decode cX9_amissBits 32 = .ok (.iload_n 1, 1) := by decide +kernel
theorem dX9_amissBits_33 : decode cX9_amissBits 33 = .ok (.ireturn, 1) := by decide +kernel
theorem dX9_howManyAmiss_0 : decode cX9_howManyAmiss 0 = .ok (.aload_n 0, 1) := by decide +kernel
theorem dX9_howManyAmiss_1 : decode cX9_howManyAmiss 1 = .ok (.invokevirtual 141, 3) := by decide +kernel
theorem dX9_howManyAmiss_4 : decode cX9_howManyAmiss 4 = .ok (.invokestatic 86, 3) := by decide +kernel
theorem dX9_howManyAmiss_7 : decode cX9_howManyAmiss 7 = .ok (.ireturn, 1) := by decide +kernel
theorem dX9_amissTogether_0 : decode cX9_amissTogether 0 = .ok (.iconst 0, 1) := by decide +kernel
theorem dX9_amissTogether_1 : decode cX9_amissTogether 1 = .ok (.istore_n 1, 1) := by decide +kernel
theorem dX9_amissTogether_2 : decode cX9_amissTogether 2 = .ok (.iconst 0, 1) := by decide +kernel
theorem dX9_amissTogether_3 : decode cX9_amissTogether 3 = .ok (.istore_n 2, 1) := by decide +kernel
theorem dX9_amissTogether_4 : decode cX9_amissTogether 4 = .ok (.iload_n 2, 1) := by decide +kernel
theorem dX9_amissTogether_5 : decode cX9_amissTogether 5 = .ok (.aload_n 0, 1) := by decide +kernel
theorem dX9_amissTogether_6 : decode cX9_amissTogether 6 = .ok (.invokevirtual 92, 3) := by decide +kernel
theorem dX9_amissTogether_9 : decode cX9_amissTogether 9 = .ok (.if_icmp .ge 17, 3) := by decide +kernel
theorem dX9_amissTogether_12 : decode cX9_amissTogether 12 = .ok (.iload_n 1, 1) := by decide +kernel
theorem dX9_amissTogether_13 : decode cX9_amissTogether 13 = .ok (.aload_n 0, 1) := by decide +kernel
theorem dX9_amissTogether_14 : decode cX9_amissTogether 14 = .ok (.iload_n 2, 1) := by decide +kernel
theorem dX9_amissTogether_15 : decode cX9_amissTogether 15 = .ok (.invokevirtual 138, 3) := by decide +kernel
theorem dX9_amissTogether_18 : decode cX9_amissTogether 18 = .ok (.iadd, 1) := by decide +kernel
theorem dX9_amissTogether_19 : decode cX9_amissTogether 19 = .ok (.istore_n 1, 1) := by decide +kernel
theorem dX9_amissTogether_20 : decode cX9_amissTogether 20 = .ok (.iinc 2 1, 3) := by decide +kernel
theorem dX9_amissTogether_23 : decode cX9_amissTogether 23 = .ok (.goto (-19), 3) := by decide +kernel
theorem dX9_amissTogether_26 : decode cX9_amissTogether 26 = .ok (.iload_n 1, 1) := by decide +kernel
theorem dX9_amissTogether_27 : decode cX9_amissTogether 27 = .ok (.ireturn, 1) := by decide +kernel
theorem dX9_isAllRight_0 : decode cX9_isAllRight 0 = .ok (.iconst 0, 1) := by decide +kernel
theorem dX9_isAllRight_1 : decode cX9_isAllRight 1 = .ok (.istore_n 1, 1) := by decide +kernel
theorem dX9_isAllRight_2 : decode cX9_isAllRight 2 = .ok (.iload_n 1, 1) := by decide +kernel
theorem dX9_isAllRight_3 : decode cX9_isAllRight 3 = .ok (.aload_n 0, 1) := by decide +kernel
theorem dX9_isAllRight_4 : decode cX9_isAllRight 4 = .ok (.invokevirtual 92, 3) := by decide +kernel
theorem dX9_isAllRight_7 : decode cX9_isAllRight 7 = .ok (.if_icmp .ge 19, 3) := by decide +kernel
theorem dX9_isAllRight_10 : decode cX9_isAllRight 10 = .ok (.aload_n 0, 1) := by decide +kernel
theorem dX9_isAllRight_11 : decode cX9_isAllRight 11 = .ok (.iload_n 1, 1) := by decide +kernel
theorem dX9_isAllRight_12 : decode cX9_isAllRight 12 = .ok (.invokevirtual 138, 3) := by decide +kernel
theorem dX9_isAllRight_15 : decode cX9_isAllRight 15 = .ok (.ifCond .eq 5, 3) := by decide +kernel
theorem dX9_isAllRight_18 : decode cX9_isAllRight 18 = .ok (.iconst 0, 1) := by decide +kernel
theorem dX9_isAllRight_19 : decode cX9_isAllRight 19 = .ok (.ireturn, 1) := by decide +kernel
theorem dX9_isAllRight_20 : decode cX9_isAllRight 20 = .ok (.iinc 1 1, 3) := by decide +kernel
theorem dX9_isAllRight_23 : decode cX9_isAllRight 23 = .ok (.goto (-21), 3) := by decide +kernel
theorem dX9_isAllRight_26 : decode cX9_isAllRight 26 = .ok (.iconst 1, 1) := by decide +kernel
theorem dX9_isAllRight_27 : decode cX9_isAllRight 27 = .ok (.ireturn, 1) := by decide +kernel
theorem dX9_isAsComplained_0 : decode cX9_isAsComplained 0 = .ok (.aload_n 0, 1) := by decide +kernel
theorem dX9_isAsComplained_1 : decode cX9_isAsComplained 1 = .ok (.invokevirtual 141, 3) := by decide +kernel
theorem dX9_isAsComplained_4 : decode cX9_isAsComplained 4 = .ok (.istore_n 1, 1) := by decide +kernel
theorem dX9_isAsComplained_5 : decode cX9_isAsComplained 5 = .ok (.iconst 0, 1) := by decide +kernel
theorem dX9_isAsComplained_6 : decode cX9_isAsComplained 6 = .ok (.istore_n 2, 1) := by decide +kernel
theorem dX9_isAsComplained_7 : decode cX9_isAsComplained 7 = .ok (.iload_n 2, 1) := by decide +kernel
theorem dX9_isAsComplained_8 : decode cX9_isAsComplained 8 = .ok (.aload_n 0, 1) := by decide +kernel
theorem dX9_isAsComplained_9 : decode cX9_isAsComplained 9 = .ok (.getfield 52, 3) := by decide +kernel
theorem dX9_isAsComplained_12 : decode cX9_isAsComplained 12 = .ok (.if_icmp .ge 25, 3) := by decide +kernel
theorem dX9_isAsComplained_15 : decode cX9_isAsComplained 15 = .ok (.iload_n 1, 1) := by decide +kernel
theorem dX9_isAsComplained_16 : decode cX9_isAsComplained 16 = .ok (.iload_n 2, 1) := by decide +kernel
theorem dX9_isAsComplained_17 : decode cX9_isAsComplained 17 = .ok (.invokestatic 144, 3) := by decide +kernel
theorem dX9_isAsComplained_20 : decode cX9_isAsComplained 20 = .ok (.aload_n 0, 1) := by decide +kernel
theorem dX9_isAsComplained_21 : decode cX9_isAsComplained 21 = .ok (.getfield 24, 3) := by decide +kernel
theorem dX9_isAsComplained_24 : decode cX9_isAsComplained 24 = .ok (.iload_n 2, 1) := by decide +kernel
theorem dX9_isAsComplained_25 : decode cX9_isAsComplained 25 = .ok (.iaload, 1) := by decide +kernel
theorem dX9_isAsComplained_26 : decode cX9_isAsComplained 26 = .ok (.if_icmp .eq 5, 3) := by decide +kernel
theorem dX9_isAsComplained_29 : decode cX9_isAsComplained 29 = .ok (.iconst 0, 1) := by decide +kernel
theorem dX9_isAsComplained_30 : decode cX9_isAsComplained 30 = .ok (.ireturn, 1) := by decide +kernel
theorem dX9_isAsComplained_31 : decode cX9_isAsComplained 31 = .ok (.iinc 2 1, 3) := by decide +kernel
theorem dX9_isAsComplained_34 : decode cX9_isAsComplained 34 = .ok (.goto (-27), 3) := by decide +kernel
theorem dX9_isAsComplained_37 : decode cX9_isAsComplained 37 = .ok (.iconst 1, 1) := by decide +kernel
theorem dX9_isAsComplained_38 : decode cX9_isAsComplained 38 = .ok (.ireturn, 1) := by decide +kernel
theorem dX9_befriendAs_0 : decode cX9_befriendAs 0 = .ok (.aload_n 0, 1) := by decide +kernel
theorem dX9_befriendAs_1 : decode cX9_befriendAs 1 = .ok (.getfield 17, 3) := by decide +kernel
theorem dX9_befriendAs_4 : decode cX9_befriendAs 4 = .ok (.iconst 0, 1) := by decide +kernel
theorem dX9_befriendAs_5 : decode cX9_befriendAs 5 = .ok (.invokestatic 147, 3) := by decide +kernel
theorem dX9_befriendAs_8 : decode cX9_befriendAs 8 = .ok (.iconst 0, 1) := by decide +kernel
theorem dX9_befriendAs_9 : decode cX9_befriendAs 9 = .ok (.istore_n 3, 1) := by decide +kernel
theorem dX9_befriendAs_10 : decode cX9_befriendAs 10 = .ok (.iload_n 3, 1) := by decide +kernel
theorem dX9_befriendAs_11 : decode cX9_befriendAs 11 = .ok (.iload_n 2, 1) := by decide +kernel
theorem dX9_befriendAs_12 : decode cX9_befriendAs 12 = .ok (.if_icmp .ge 32, 3) := by decide +kernel
theorem dX9_befriendAs_15 : decode cX9_befriendAs 15 = .ok (.iload_n 1, 1) := by decide +kernel
theorem dX9_befriendAs_16 : decode cX9_befriendAs 16 = .ok (.iload_n 3, 1) := by decide +kernel
theorem dX9_befriendAs_17 : decode cX9_befriendAs 17 = .ok (.invokestatic 82, 3) := by decide +kernel
theorem dX9_befriendAs_20 : decode cX9_befriendAs 20 = .ok (.ifCond .eq 18, 3) := by decide +kernel
theorem dX9_befriendAs_23 : decode cX9_befriendAs 23 = .ok (.aload_n 0, 1) := by decide +kernel
theorem dX9_befriendAs_24 : decode cX9_befriendAs 24 = .ok (.getstatic 95, 3) := by decide +kernel
theorem dX9_befriendAs_27 : decode cX9_befriendAs 27 = .ok (.iload_n 3, 1) := by decide +kernel
theorem dX9_befriendAs_28 : decode cX9_befriendAs 28 = .ok (.iaload, 1) := by decide +kernel
theorem dX9_befriendAs_29 : decode cX9_befriendAs 29 = .ok (.getstatic 98, 3) := by decide +kernel
theorem dX9_befriendAs_32 : decode cX9_befriendAs 32 = .ok (.iload_n 3, 1) := by decide +kernel
theorem dX9_befriendAs_33 : decode cX9_befriendAs 33 = .ok (.iaload, 1) := by decide +kernel
theorem dX9_befriendAs_34 : decode cX9_befriendAs 34 = .ok (.iconst 1, 1) := by decide +kernel
theorem dX9_befriendAs_35 : decode cX9_befriendAs 35 = .ok (.invokevirtual 107, 3) := by decide +kernel
theorem dX9_befriendAs_38 : decode cX9_befriendAs 38 = .ok (.iinc 3 1, 3) := by decide +kernel
theorem dX9_befriendAs_41 : decode cX9_befriendAs 41 = .ok (.goto (-31), 3) := by decide +kernel
theorem dX9_befriendAs_44 : decode cX9_befriendAs 44 = .ok (.return_, 1) := by decide +kernel
theorem dX9_eachShares_0 : decode cX9_eachShares 0 = .ok (.iconst 0, 1) := by decide +kernel
theorem dX9_eachShares_1 : decode cX9_eachShares 1 = .ok (.istore_n 3, 1) := by decide +kernel
theorem dX9_eachShares_2 : decode cX9_eachShares 2 = .ok (.iload_n 3, 1) := by decide +kernel
theorem dX9_eachShares_3 : decode cX9_eachShares 3 = .ok (.iload_n 2, 1) := by decide +kernel
theorem dX9_eachShares_4 : decode cX9_eachShares 4 = .ok (.if_icmp .ge 39, 3) := by decide +kernel
theorem dX9_eachShares_7 : decode cX9_eachShares 7 = .ok (.aload_n 0, 1) := by decide +kernel
theorem dX9_eachShares_8 : decode cX9_eachShares 8 = .ok (.getfield 17, 3) := by decide +kernel
theorem dX9_eachShares_11 : decode cX9_eachShares 11 = .ok (.getstatic 95, 3) := by decide +kernel
theorem dX9_eachShares_14 : decode cX9_eachShares 14 = .ok (.iload_n 3, 1) := by decide +kernel
theorem dX9_eachShares_15 : decode cX9_eachShares 15 = .ok (.iaload, 1) := by decide +kernel
theorem dX9_eachShares_16 : decode cX9_eachShares 16 = .ok (.iaload, 1) := by decide +kernel
theorem dX9_eachShares_17 : decode cX9_eachShares 17 = .ok (.aload_n 0, 1) := by decide +kernel
theorem dX9_eachShares_18 : decode cX9_eachShares 18 = .ok (.getfield 17, 3) := by decide +kernel
theorem dX9_eachShares_21 : decode cX9_eachShares 21 = .ok (.getstatic 98, 3) := by decide +kernel
theorem dX9_eachShares_24 : decode cX9_eachShares 24 = .ok (.iload_n 3, 1) := by decide +kernel
theorem dX9_eachShares_25 : decode cX9_eachShares 25 = .ok (.iaload, 1) := by decide +kernel
theorem dX9_eachShares_26 : decode cX9_eachShares 26 = .ok (.iaload, 1) := by decide +kernel
theorem dX9_eachShares_27 : decode cX9_eachShares 27 = .ok (.iand, 1) := by decide +kernel
theorem dX9_eachShares_28 : decode cX9_eachShares 28 = .ok (.invokestatic 86, 3) := by decide +kernel
theorem dX9_eachShares_31 : decode cX9_eachShares 31 = .ok (.iload_n 1, 1) := by decide +kernel
theorem dX9_eachShares_32 : decode cX9_eachShares 32 = .ok (.if_icmp .eq 5, 3) := by decide +kernel
theorem dX9_eachShares_35 : decode cX9_eachShares 35 = .ok (.iconst 0, 1) := by decide +kernel
theorem dX9_eachShares_36 : decode cX9_eachShares 36 = .ok (.ireturn, 1) := by decide +kernel
theorem dX9_eachShares_37 : decode cX9_eachShares 37 = .ok (.iinc 3 1, 3) := by decide +kernel
theorem dX9_eachShares_40 : decode cX9_eachShares 40 = .ok (.goto (-38), 3) := by decide +kernel
theorem dX9_eachShares_43 : decode cX9_eachShares 43 = .ok (.iconst 1, 1) := by decide +kernel
theorem dX9_eachShares_44 : decode cX9_eachShares 44 = .ok (.ireturn, 1) := by decide +kernel
theorem dX10_init_0 : decode cX10_init 0 = .ok (.aload_n 0, 1) := by decide +kernel
theorem dX10_init_1 : decode cX10_init 1 = .ok (.iload_n 1, 1) := by decide +kernel
theorem dX10_init_2 : decode cX10_init 2 = .ok (.iload_n 2, 1) := by decide +kernel
theorem dX10_init_3 : decode cX10_init 3 = .ok (.iload_n 3, 1) := by decide +kernel
theorem dX10_init_4 : decode cX10_init 4 = .ok (.invokespecial 1, 3) := by decide +kernel
theorem dX10_init_7 : decode cX10_init 7 = .ok (.return_, 1) := by decide +kernel
theorem dX10_worth_0 : decode cX10_worth 0 = .ok (.aload_n 0, 1) := by decide +kernel
theorem dX10_worth_1 : decode cX10_worth 1 = .ok (.getfield 7, 3) := by decide +kernel
theorem dX10_worth_4 : decode cX10_worth 4 = .ok (.iconst 2, 1) := by decide +kernel
theorem dX10_worth_5 : decode cX10_worth 5 = .ok (.irem, 1) := by decide +kernel
theorem dX10_worth_6 : decode cX10_worth 6 = .ok (.iconst 1, 1) := by decide +kernel
theorem dX10_worth_7 : decode cX10_worth 7 = .ok (.if_icmp .ne 7, 3) := by decide +kernel
theorem dX10_worth_10 : decode cX10_worth 10 = .ok (.iconst 2, 1) := by decide +kernel
theorem dX10_worth_11 : decode cX10_worth 11 = .ok (.goto 4, 3) := by decide +kernel
theorem dX10_worth_14 : decode cX10_worth 14 = .ok (.iconst 1, 1) := by decide +kernel
theorem dX10_worth_15 : decode cX10_worth 15 = .ok (.ireturn, 1) := by decide +kernel
theorem dX10_counts_0 : decode cX10_counts 0 = .ok (.aload_n 2, 1) := by decide +kernel
theorem dX10_counts_1 : decode cX10_counts 1 = .ok (.bipush 20, 2) := by decide +kernel
theorem dX10_counts_3 : decode cX10_counts 3 = .ok (.invokevirtual 13, 3) := by decide +kernel
theorem dX10_counts_6 : decode cX10_counts 6 = .ok (.aload_n 0, 1) := by decide +kernel
theorem dX10_counts_7 : decode cX10_counts 7 = .ok (.iload_n 1, 1) := by decide +kernel
theorem dX10_counts_8 : decode cX10_counts 8 = .ok (.aload_n 2, 1) := by decide +kernel
theorem dX10_counts_9 : decode cX10_counts 9 = .ok (.invokespecial 19, 3) := by decide +kernel
theorem dX10_counts_12 : decode cX10_counts 12 = .ok (.bipush 6, 2) := by decide +kernel
theorem dX10_counts_14 : decode cX10_counts 14 = .ok (.ixor, 1) := by decide +kernel
theorem dX10_counts_15 : decode cX10_counts 15 = .ok (.ireturn, 1) := by decide +kernel
theorem dX11_init_0 : decode cX11_init 0 = .ok (.aload_n 0, 1) := by decide +kernel
theorem dX11_init_1 : decode cX11_init 1 = .ok (.invokespecial 3, 3) := by decide +kernel
theorem dX11_init_4 : decode cX11_init 4 = .ok (.aload_n 0, 1) := by decide +kernel
theorem dX11_init_5 : decode cX11_init 5 = .ok (.new 9, 3) := by decide +kernel
theorem dX11_init_8 : decode cX11_init 8 = .ok (.dup, 1) := by decide +kernel
theorem dX11_init_9 : decode cX11_init 9 = .ok (.invokespecial 11, 3) := by decide +kernel
theorem dX11_init_12 : decode cX11_init 12 = .ok (.putfield 12, 3) := by decide +kernel
theorem dX11_init_15 : decode cX11_init 15 = .ok (.aload_n 0, 1) := by decide +kernel
theorem dX11_init_16 : decode cX11_init 16 = .ok (.new 9, 3) := by decide +kernel
theorem dX11_init_19 : decode cX11_init 19 = .ok (.dup, 1) := by decide +kernel
theorem dX11_init_20 : decode cX11_init 20 = .ok (.invokespecial 11, 3) := by decide +kernel
theorem dX11_init_23 : decode cX11_init 23 = .ok (.putfield 18, 3) := by decide +kernel
theorem dX11_init_26 : decode cX11_init 26 = .ok (.aload_n 0, 1) := by decide +kernel
theorem dX11_init_27 : decode cX11_init 27 = .ok (.new 9, 3) := by decide +kernel
theorem dX11_init_30 : decode cX11_init 30 = .ok (.dup, 1) := by decide +kernel
theorem dX11_init_31 : decode cX11_init 31 = .ok (.invokespecial 11, 3) := by decide +kernel
theorem dX11_init_34 : decode cX11_init 34 = .ok (.putfield 21, 3) := by decide +kernel
theorem dX11_init_37 : decode cX11_init 37 = .ok (.aload_n 0, 1) := by decide +kernel
theorem dX11_init_38 : decode cX11_init 38 = .ok (.new 24, 3) := by decide +kernel
theorem dX11_init_41 : decode cX11_init 41 = .ok (.dup, 1) := by decide +kernel
theorem dX11_init_42 : decode cX11_init 42 = .ok (.invokespecial 26, 3) := by decide +kernel
theorem dX11_init_45 : decode cX11_init 45 = .ok (.putfield 27, 3) := by decide +kernel
theorem dX11_init_48 : decode cX11_init 48 = .ok (.aload_n 0, 1) := by decide +kernel
theorem dX11_init_49 : decode cX11_init 49 = .ok (.bipush 100, 2) := by decide +kernel
theorem dX11_init_51 : decode cX11_init 51 = .ok (.newarray .byte, 2) := by decide +kernel
theorem dX11_init_53 : decode cX11_init 53 = .ok (.putfield 31, 3) := by decide +kernel
theorem dX11_init_56 : decode cX11_init 56 = .ok (.aload_n 0, 1) := by decide +kernel
theorem dX11_init_57 : decode cX11_init 57 = .ok (.bipush 6, 2) := by decide +kernel
theorem dX11_init_59 : decode cX11_init 59 = .ok (.anewarray 35, 3) := by decide +kernel
theorem dX11_init_62 : decode cX11_init 62 = .ok (.putfield 37, 3) := by decide +kernel
theorem dX11_init_65 : decode cX11_init 65 = .ok (.aload_n 0, 1) := by decide +kernel
theorem dX11_init_66 : decode cX11_init 66 = .ok (.new 41, 3) := by decide +kernel
theorem dX11_init_69 : decode cX11_init 69 = .ok (.dup, 1) := by decide +kernel
theorem dX11_init_70 : decode cX11_init 70 = .ok (.invokespecial 43, 3) := by decide +kernel
theorem dX11_init_73 : decode cX11_init 73 = .ok (.putfield 44, 3) := by decide +kernel
theorem dX11_init_76 : decode cX11_init 76 = .ok (.aload_n 0, 1) := by decide +kernel
theorem dX11_init_77 : decode cX11_init 77 = .ok (.bipush 15, 2) := by decide +kernel
theorem dX11_init_79 : decode cX11_init 79 = .ok (.newarray .int, 2) := by decide +kernel
theorem dX11_init_81 : decode cX11_init 81 = .ok (.putfield 48, 3) := by decide +kernel
theorem dX11_init_84 : decode cX11_init 84 = .ok (.aload_n 0, 1) := by decide +kernel
theorem dX11_init_85 : decode cX11_init 85 = .ok (.iconst 4, 1) := by decide +kernel
theorem dX11_init_86 : decode cX11_init 86 = .ok (.newarray .int, 2) := by decide +kernel
theorem dX11_init_88 : decode cX11_init 88 = .ok (.putfield 52, 3) := by decide +kernel
theorem dX11_init_91 : decode cX11_init 91 = .ok (.iconst 0, 1) := by decide +kernel
theorem dX11_init_92 : decode cX11_init 92 = .ok (.istore_n 1, 1) := by decide +kernel
theorem dX11_init_93 : decode cX11_init 93 = .ok (.iload_n 1, 1) := by decide +kernel
theorem dX11_init_94 : decode cX11_init 94 = .ok (.bipush 6, 2) := by decide +kernel
theorem dX11_init_96 : decode cX11_init 96 = .ok (.if_icmp .ge 22, 3) := by decide +kernel
theorem dX11_init_99 : decode cX11_init 99 = .ok (.aload_n 0, 1) := by decide +kernel
theorem dX11_init_100 : decode cX11_init 100 = .ok (.getfield 37, 3) := by decide +kernel
theorem dX11_init_103 : decode cX11_init 103 = .ok (.iload_n 1, 1) := by decide +kernel
theorem dX11_init_104 : decode cX11_init 104 = .ok (.new 35, 3) := by decide +kernel
theorem dX11_init_107 : decode cX11_init 107 = .ok (.dup, 1) := by decide +kernel
theorem dX11_init_108 : decode cX11_init 108 = .ok (.invokespecial 55, 3) := by decide +kernel
theorem dX11_init_111 : decode cX11_init 111 = .ok (.aastore, 1) := by decide +kernel
theorem dX11_init_112 : decode cX11_init 112 = .ok (.iinc 1 1, 3) := by decide +kernel
theorem dX11_init_115 : decode cX11_init 115 = .ok (.goto (-22), 3) := by decide +kernel
theorem dX11_init_118 : decode cX11_init 118 = .ok (.return_, 1) := by decide +kernel
theorem dX11_person_0 : decode cX11_person 0 = .ok (.iload_n 1, 1) := by decide +kernel
theorem dX11_person_1 : decode cX11_person 1 = .ok (.ifCond .lt 9, 3) := by decide +kernel
theorem dX11_person_4 : decode cX11_person 4 = .ok (.iload_n 1, 1) := by decide +kernel
theorem dX11_person_5 : decode cX11_person 5 = .ok (.bipush 6, 2) := by decide +kernel
theorem dX11_person_7 : decode cX11_person 7 = .ok (.if_icmp .le 5, 3) := by decide +kernel
theorem dX11_person_10 : decode cX11_person 10 = .ok (.iconst (-1), 1) := by decide +kernel
theorem dX11_person_11 : decode cX11_person 11 = .ok (.ireturn, 1) := by decide +kernel
theorem dX11_person_12 : decode cX11_person 12 = .ok (.iload_n 2, 1) := by decide +kernel
theorem dX11_person_13 : decode cX11_person 13 = .ok (.ifCond .lt 9, 3) := by decide +kernel
theorem dX11_person_16 : decode cX11_person 16 = .ok (.iload_n 2, 1) := by decide +kernel
theorem dX11_person_17 : decode cX11_person 17 = .ok (.bipush 9, 2) := by decide +kernel
theorem dX11_person_19 : decode cX11_person 19 = .ok (.if_icmp .le 6, 3) := by decide +kernel
theorem dX11_person_22 : decode cX11_person 22 = .ok (.bipush (-2), 2) := by decide +kernel
theorem dX11_person_24 : decode cX11_person 24 = .ok (.ireturn, 1) := by decide +kernel
theorem dX11_person_25 : decode cX11_person 25 = .ok (.aload_n 0, 1) := by decide +kernel
theorem dX11_person_26 : decode cX11_person 26 = .ok (.getfield 12, 3) := by decide +kernel
theorem dX11_person_29 : decode cX11_person 29 = .ok (.getfield 56, 3) := by decide +kernel
theorem dX11_person_32 : decode cX11_person 32 = .ok (.bipush 6, 2) := by decide +kernel
theorem dX11_person_34 : decode cX11_person 34 = .ok (.if_icmp .lt 6, 3) := by decide +kernel
theorem dX11_person_37 : decode cX11_person 37 = .ok (.bipush (-4), 2) := by decide +kernel
theorem dX11_person_39 : decode cX11_person 39 = .ok (.ireturn, 1) := by decide +kernel
theorem dX11_person_40 : decode cX11_person 40 = .ok (.aload_n 0, 1) := by decide +kernel
theorem dX11_person_41 : decode cX11_person 41 = .ok (.getfield 12, 3) := by decide +kernel
theorem dX11_person_44 : decode cX11_person 44 = .ok (.iload_n 1, 1) := by decide +kernel
theorem dX11_person_45 : decode cX11_person 45 = .ok (.aload_n 0, 1) := by decide +kernel
theorem dX11_person_46 : decode cX11_person 46 = .ok (.getfield 12, 3) := by decide +kernel
theorem dX11_person_49 : decode cX11_person 49 = .ok (.getfield 56, 3) := by decide +kernel
theorem dX11_person_52 : decode cX11_person 52 = .ok (.iload_n 2, 1) := by decide +kernel
theorem dX11_person_53 : decode cX11_person 53 = .ok (.invokestatic 60, 3) := by decide +kernel
theorem dX11_person_56 : decode cX11_person 56 = .ok (.invokevirtual 64, 3) := by decide +kernel
theorem dX11_person_59 : decode cX11_person 59 = .ok (.aload_n 0, 1) := by decide +kernel
theorem dX11_person_60 : decode cX11_person 60 = .ok (.getfield 12, 3) := by decide +kernel
theorem dX11_person_63 : decode cX11_person 63 = .ok (.getfield 56, 3) := by decide +kernel
theorem dX11_person_66 : decode cX11_person 66 = .ok (.iconst 1, 1) := by decide +kernel
theorem dX11_person_67 : decode cX11_person 67 = .ok (.isub, 1) := by decide +kernel
theorem dX11_person_68 : decode cX11_person 68 = .ok (.ireturn, 1) := by decide +kernel
theorem dX11_of_0 : decode cX11_of 0 = .ok (.aload_n 0, 1) := by decide +kernel
theorem dX11_of_1 : decode cX11_of 1 = .ok (.getfield 12, 3) := by decide +kernel
theorem dX11_of_4 : decode cX11_of 4 = .ok (.iload_n 1, 1) := by decide +kernel
theorem dX11_of_5 : decode cX11_of 5 = .ok (.invokevirtual 68, 3) := by decide +kernel
theorem dX11_of_8 : decode cX11_of 8 = .ok (.astore_n 3, 1) := by decide +kernel
theorem dX11_of_9 : decode cX11_of 9 = .ok (.aload_n 3, 1) := by decide +kernel
theorem dX11_of_10 : decode cX11_of 10 = .ok (.ifnonnull 5, 3) := by decide +kernel
theorem dX11_of_13 : decode cX11_of 13 = .ok (.iconst (-1), 1) := by decide +kernel
theorem dX11_of_14 : decode cX11_of 14 = .ok (.ireturn, 1) := by decide +kernel
theorem dX11_of_15 : decode cX11_of 15 = .ok (.iload_n 2, 1) := by decide +kernel
theorem dX11_of_16 : decode cX11_of 16 = .ok (.tableswitch 78 0 4 #[36, 41, 46, 56, 68], 36) := by decide +kernel
theorem dX11_of_52 : decode cX11_of 52 = .ok (.aload_n 3, 1) := by decide +kernel
theorem dX11_of_53 : decode cX11_of 53 = .ok (.getfield 72, 3) := by decide +kernel
theorem dX11_of_56 : decode cX11_of 56 = .ok (.ireturn, 1) := by decide +kernel
theorem dX11_of_57 : decode cX11_of 57 = .ok (.aload_n 3, 1) := by decide +kernel
theorem dX11_of_58 : decode cX11_of 58 = .ok (.getfield 77, 3) := by decide +kernel
theorem dX11_of_61 : decode cX11_of 61 = .ok (.ireturn, 1) := by decide +kernel
theorem dX11_of_62 : decode cX11_of 62 = .ok (.aload_n 0, 1) := by decide +kernel
theorem dX11_of_63 : decode cX11_of 63 = .ok (.getfield 12, 3) := by decide +kernel
theorem dX11_of_66 : decode cX11_of 66 = .ok (.getfield 80, 3) := by decide +kernel
theorem dX11_of_69 : decode cX11_of 69 = .ok (.iload_n 1, 1) := by decide +kernel
theorem dX11_of_70 : decode cX11_of 70 = .ok (.iaload, 1) := by decide +kernel
theorem dX11_of_71 : decode cX11_of 71 = .ok (.ireturn, 1) := by decide +kernel
theorem dX11_of_72 : decode cX11_of 72 = .ok (.aload_n 0, 1) := by decide +kernel
theorem dX11_of_73 : decode cX11_of 73 = .ok (.getfield 12, 3) := by decide +kernel
theorem dX11_of_76 : decode cX11_of 76 = .ok (.invokevirtual 83, 3) := by decide +kernel
theorem dX11_of_79 : decode cX11_of 79 = .ok (.iload_n 1, 1) := by decide +kernel
theorem dX11_of_80 : decode cX11_of 80 = .ok (.invokestatic 87, 3) := by decide +kernel
theorem dX11_of_83 : decode cX11_of 83 = .ok (.ireturn, 1) := by decide +kernel
theorem dX11_of_84 : decode cX11_of 84 = .ok (.aload_n 0, 1) := by decide +kernel
theorem dX11_of_85 : decode cX11_of 85 = .ok (.getfield 12, 3) := by decide +kernel
theorem dX11_of_88 : decode cX11_of 88 = .ok (.getfield 91, 3) := by decide +kernel
theorem dX11_of_91 : decode cX11_of 91 = .ok (.iload_n 1, 1) := by decide +kernel
theorem dX11_of_92 : decode cX11_of 92 = .ok (.iaload, 1) := by decide +kernel
theorem dX11_of_93 : decode cX11_of 93 = .ok (.ireturn, 1) := by decide +kernel
theorem dX11_of_94 : decode cX11_of 94 = .ok (.iconst (-1), 1) := by decide +kernel
theorem dX11_of_95 : decode cX11_of 95 = .ok (.ireturn, 1) := by decide +kernel
theorem dX11_friends_0 : decode cX11_friends 0 = .ok (.aload_n 0, 1) := by decide +kernel
theorem dX11_friends_1 : decode cX11_friends 1 = .ok (.iload_n 1, 1) := by decide +kernel
theorem dX11_friends_2 : decode cX11_friends 2 = .ok (.iload_n 2, 1) := by decide +kernel
theorem dX11_friends_3 : decode cX11_friends 3 = .ok (.invokevirtual 94, 3) := by decide +kernel
theorem dX11_friends_6 : decode cX11_friends 6 = .ok (.istore 4, 2) := by decide +kernel
theorem dX11_friends_8 : decode cX11_friends 8 = .ok (.iload 4, 2) := by decide +kernel
theorem dX11_friends_10 : decode cX11_friends 10 = .ok (.ifCond .eq 6, 3) := by decide +kernel
theorem dX11_friends_13 : decode cX11_friends 13 = .ok (.iload 4, 2) := by decide +kernel
theorem dX11_friends_15 : decode cX11_friends 15 = .ok (.ireturn, 1) := by decide +kernel
theorem dX11_friends_16 : decode cX11_friends 16 = .ok (.aload_n 0, 1) := by decide +kernel
theorem dX11_friends_17 : decode cX11_friends 17 = .ok (.getfield 12, 3) := by decide +kernel
theorem dX11_friends_20 : decode cX11_friends 20 = .ok (.iload_n 1, 1) := by decide +kernel
theorem dX11_friends_21 : decode cX11_friends 21 = .ok (.iload_n 2, 1) := by decide +kernel
theorem dX11_friends_22 : decode cX11_friends 22 = .ok (.invokevirtual 97, 3) := by decide +kernel
theorem dX11_friends_25 : decode cX11_friends 25 = .ok (.invokestatic 101, 3) := by decide +kernel
theorem dX11_friends_28 : decode cX11_friends 28 = .ok (.istore 5, 2) := by decide +kernel
theorem dX11_friends_30 : decode cX11_friends 30 = .ok (.aload_n 0, 1) := by decide +kernel
theorem dX11_friends_31 : decode cX11_friends 31 = .ok (.getfield 12, 3) := by decide +kernel
theorem dX11_friends_34 : decode cX11_friends 34 = .ok (.iload_n 1, 1) := by decide +kernel
theorem dX11_friends_35 : decode cX11_friends 35 = .ok (.iload_n 2, 1) := by decide +kernel
theorem dX11_friends_36 : decode cX11_friends 36 = .ok (.iload_n 3, 1) := by decide +kernel
theorem dX11_friends_37 : decode cX11_friends 37 = .ok (.invokevirtual 105, 3) := by decide +kernel
theorem dX11_friends_40 : decode cX11_friends 40 = .ok (.iload 5, 2) := by decide +kernel
theorem dX11_friends_42 : decode cX11_friends 42 = .ok (.ireturn, 1) := by decide +kernel
theorem dX11_pair_0 : decode cX11_pair 0 = .ok (.aload_n 0, 1) := by decide +kernel
theorem dX11_pair_1 : decode cX11_pair 1 = .ok (.iload_n 1, 1) := by decide +kernel
theorem dX11_pair_2 : decode cX11_pair 2 = .ok (.iload_n 2, 1) := by decide +kernel
theorem dX11_pair_3 : decode cX11_pair 3 = .ok (.invokevirtual 94, 3) := by decide +kernel
theorem dX11_pair_6 : decode cX11_pair 6 = .ok (.istore_n 3, 1) := by decide +kernel
theorem dX11_pair_7 : decode cX11_pair 7 = .ok (.iload_n 3, 1) := by decide +kernel
theorem dX11_pair_8 : decode cX11_pair 8 = .ok (.ifCond .eq 5, 3) := by decide +kernel
theorem dX11_pair_11 : decode cX11_pair 11 = .ok (.iload_n 3, 1) := by decide +kernel
theorem dX11_pair_12 : decode cX11_pair 12 = .ok (.ireturn, 1) := by decide +kernel
theorem dX11_pair_13 : decode cX11_pair 13 = .ok (.iload_n 1, 1) := by decide +kernel
theorem dX11_pair_14 : decode cX11_pair 14 = .ok (.iload_n 2, 1) := by decide +kernel
theorem dX11_pair_15 : decode cX11_pair 15 = .ok (.invokestatic 109, 3) := by decide +kernel
theorem dX11_pair_18 : decode cX11_pair 18 = .ok (.istore 4, 2) := by decide +kernel
theorem dX11_pair_20 : decode cX11_pair 20 = .ok (.iload 4, 2) := by decide +kernel
theorem dX11_pair_22 : decode cX11_pair 22 = .ok (.iload 4, 2) := by decide +kernel
theorem dX11_pair_24 : decode cX11_pair 24 = .ok (.iconst 1, 1) := by decide +kernel
theorem dX11_pair_25 : decode cX11_pair 25 = .ok (.isub, 1) := by decide +kernel
theorem dX11_pair_26 : decode cX11_pair 26 = .ok (.imul, 1) := by decide +kernel
theorem dX11_pair_27 : decode cX11_pair 27 = .ok (.iconst 2, 1) := by decide +kernel
theorem dX11_pair_28 : decode cX11_pair 28 = .ok (.idiv, 1) := by decide +kernel
theorem dX11_pair_29 : decode cX11_pair 29 = .ok (.iload_n 1, 1) := by decide +kernel
theorem dX11_pair_30 : decode cX11_pair 30 = .ok (.iload_n 2, 1) := by decide +kernel
theorem dX11_pair_31 : decode cX11_pair 31 = .ok (.invokestatic 114, 3) := by decide +kernel
theorem dX11_pair_34 : decode cX11_pair 34 = .ok (.iadd, 1) := by decide +kernel
theorem dX11_pair_35 : decode cX11_pair 35 = .ok (.ireturn, 1) := by decide +kernel
theorem dX11_at_0 : decode cX11_at 0 = .ok (.aload_n 0, 1) := by decide +kernel
theorem dX11_at_1 : decode cX11_at 1 = .ok (.getfield 12, 3) := by decide +kernel
theorem dX11_at_4 : decode cX11_at 4 = .ok (.iload_n 1, 1) := by decide +kernel
theorem dX11_at_5 : decode cX11_at 5 = .ok (.invokevirtual 117, 3) := by decide +kernel
theorem dX11_at_8 : decode cX11_at 8 = .ok (.ifCond .ne 5, 3) := by decide +kernel
theorem dX11_at_11 : decode cX11_at 11 = .ok (.iconst (-1), 1) := by decide +kernel
theorem dX11_at_12 : decode cX11_at 12 = .ok (.ireturn, 1) := by decide +kernel
theorem dX11_at_13 : decode cX11_at 13 = .ok (.iload_n 2, 1) := by decide +kernel
theorem dX11_at_14 : decode cX11_at 14 = .ok (.tableswitch 89 0 5 #[38, 50, 59, 68, 77, 83], 38) := by decide +kernel
theorem dX11_at_52 : decode cX11_at 52 = .ok (.aload_n 0, 1) := by decide +kernel
theorem dX11_at_53 : decode cX11_at 53 = .ok (.getfield 12, 3) := by decide +kernel
theorem dX11_at_56 : decode cX11_at 56 = .ok (.iload_n 1, 1) := by decide +kernel
theorem dX11_at_57 : decode cX11_at 57 = .ok (.invokevirtual 121, 3) := by decide +kernel
theorem dX11_at_60 : decode cX11_at 60 = .ok (.invokestatic 101, 3) := by decide +kernel
theorem dX11_at_63 : decode cX11_at 63 = .ok (.ireturn, 1) := by decide +kernel
theorem dX11_at_64 : decode cX11_at 64 = .ok (.aload_n 0, 1) := by decide +kernel
theorem dX11_at_65 : decode cX11_at 65 = .ok (.getfield 12, 3) := by decide +kernel
theorem dX11_at_68 : decode cX11_at 68 = .ok (.iload_n 1, 1) := by decide +kernel
theorem dX11_at_69 : decode cX11_at 69 = .ok (.invokevirtual 124, 3) := by decide +kernel
theorem dX11_at_72 : decode cX11_at 72 = .ok (.ireturn, 1) := by decide +kernel
theorem dX11_at_73 : decode cX11_at 73 = .ok (.aload_n 0, 1) := by decide +kernel
theorem dX11_at_74 : decode cX11_at 74 = .ok (.getfield 12, 3) := by decide +kernel
theorem dX11_at_77 : decode cX11_at 77 = .ok (.iload_n 1, 1) := by decide +kernel
theorem dX11_at_78 : decode cX11_at 78 = .ok (.invokevirtual 128, 3) := by decide +kernel
theorem dX11_at_81 : decode cX11_at 81 = .ok (.ireturn, 1) := by decide +kernel
theorem dX11_at_82 : decode cX11_at 82 = .ok (.aload_n 0, 1) := by decide +kernel
theorem dX11_at_83 : decode cX11_at 83 = .ok (.getfield 12, 3) := by decide +kernel
theorem dX11_at_86 : decode cX11_at 86 = .ok (.iload_n 1, 1) := by decide +kernel
theorem dX11_at_87 : decode cX11_at 87 = .ok (.invokevirtual 131, 3) := by decide +kernel
theorem dX11_at_90 : decode cX11_at 90 = .ok (.ireturn, 1) := by decide +kernel
theorem dX11_at_91 : decode cX11_at 91 = .ok (.getstatic 134, 3) := by decide +kernel
theorem dX11_at_94 : decode cX11_at 94 = .ok (.iload_n 1, 1) := by decide +kernel
theorem dX11_at_95 : decode cX11_at 95 = .ok (.iaload, 1) := by decide +kernel
theorem dX11_at_96 : decode cX11_at 96 = .ok (.ireturn, 1) := by decide +kernel
theorem dX11_at_97 : decode cX11_at 97 = .ok (.getstatic 137, 3) := by decide +kernel
theorem dX11_at_100 : decode cX11_at 100 = .ok (.iload_n 1, 1) := by decide +kernel
theorem dX11_at_101 : decode cX11_at 101 = .ok (.iaload, 1) := by decide +kernel
theorem dX11_at_102 : decode cX11_at 102 = .ok (.ireturn, 1) := by decide +kernel
theorem dX11_at_103 : decode cX11_at 103 = .ok (.iconst (-1), 1) := by decide +kernel
theorem dX11_at_104 : decode cX11_at 104 = .ok (.ireturn, 1) := by decide +kernel
theorem dX11_row_0 : decode cX11_row 0 = .ok (.aload_n 0, 1) := by decide +kernel
theorem dX11_row_1 : decode cX11_row 1 = .ok (.getfield 12, 3) := by decide +kernel
theorem dX11_row_4 : decode cX11_row 4 = .ok (.iload_n 1, 1) := by decide +kernel
theorem dX11_row_5 : decode cX11_row 5 = .ok (.invokevirtual 68, 3) := by decide +kernel
theorem dX11_row_8 : decode cX11_row 8 = .ok (.astore 4, 2) := by decide +kernel
theorem dX11_row_10 : decode cX11_row 10 = .ok (.aload 4, 2) := by decide +kernel
theorem dX11_row_12 : decode cX11_row 12 = .ok (.ifnull 12, 3) := by decide +kernel
theorem dX11_row_15 : decode cX11_row 15 = .ok (.iload_n 2, 1) := by decide +kernel
theorem dX11_row_16 : decode cX11_row 16 = .ok (.ifCond .lt 8, 3) := by decide +kernel
theorem dX11_row_19 : decode cX11_row 19 = .ok (.iload_n 2, 1) := by decide +kernel
theorem dX11_row_20 : decode cX11_row 20 = .ok (.iconst 4, 1) := by decide +kernel
theorem dX11_row_21 : decode cX11_row 21 = .ok (.if_icmp .lt 5, 3) := by decide +kernel
theorem dX11_row_24 : decode cX11_row 24 = .ok (.iconst (-1), 1) := by decide +kernel
theorem dX11_row_25 : decode cX11_row 25 = .ok (.ireturn, 1) := by decide +kernel
theorem dX11_row_26 : decode cX11_row 26 = .ok (.iload_n 3, 1) := by decide +kernel
theorem dX11_row_27 : decode cX11_row 27 = .ok (.ifCond .lt 8, 3) := by decide +kernel
theorem dX11_row_30 : decode cX11_row 30 = .ok (.iload_n 3, 1) := by decide +kernel
theorem dX11_row_31 : decode cX11_row 31 = .ok (.iconst 3, 1) := by decide +kernel
theorem dX11_row_32 : decode cX11_row 32 = .ok (.if_icmp .le 6, 3) := by decide +kernel
theorem dX11_row_35 : decode cX11_row 35 = .ok (.bipush (-2), 2) := by decide +kernel
theorem dX11_row_37 : decode cX11_row 37 = .ok (.ireturn, 1) := by decide +kernel
theorem dX11_row_38 : decode cX11_row 38 = .ok (.aload 4, 2) := by decide +kernel
theorem dX11_row_40 : decode cX11_row 40 = .ok (.getfield 72, 3) := by decide +kernel
theorem dX11_row_43 : decode cX11_row 43 = .ok (.bipush 6, 2) := by decide +kernel
theorem dX11_row_45 : decode cX11_row 45 = .ok (.if_icmp .eq 6, 3) := by decide +kernel
theorem dX11_row_48 : decode cX11_row 48 = .ok (.bipush (-3), 2) := by decide +kernel
theorem dX11_row_50 : decode cX11_row 50 = .ok (.ireturn, 1) := by decide +kernel
theorem dX11_row_51 : decode cX11_row 51 = .ok (.iload_n 1, 1) := by decide +kernel
theorem dX11_row_52 : decode cX11_row 52 = .ok (.iconst 4, 1) := by decide +kernel
theorem dX11_row_53 : decode cX11_row 53 = .ok (.imul, 1) := by decide +kernel
theorem dX11_row_54 : decode cX11_row 54 = .ok (.iload_n 2, 1) := by decide +kernel
theorem dX11_row_55 : decode cX11_row 55 = .ok (.iadd, 1) := by decide +kernel
theorem dX11_row_56 : decode cX11_row 56 = .ok (.istore 5, 2) := by decide +kernel
theorem dX11_row_58 : decode cX11_row 58 = .ok (.aload_n 0, 1) := by decide +kernel
theorem dX11_row_59 : decode cX11_row 59 = .ok (.getfield 12, 3) := by decide +kernel
theorem dX11_row_62 : decode cX11_row 62 = .ok (.getfield 140, 3) := by decide +kernel
theorem dX11_row_65 : decode cX11_row 65 = .ok (.iload 5, 2) := by decide +kernel
theorem dX11_row_67 : decode cX11_row 67 = .ok (.iaload, 1) := by decide +kernel
theorem dX11_row_68 : decode cX11_row 68 = .ok (.istore 6, 2) := by decide +kernel
theorem dX11_row_70 : decode cX11_row 70 = .ok (.aload_n 0, 1) := by decide +kernel
theorem dX11_row_71 : decode cX11_row 71 = .ok (.getfield 12, 3) := by decide +kernel
theorem dX11_row_74 : decode cX11_row 74 = .ok (.getfield 140, 3) := by decide +kernel
theorem dX11_row_77 : decode cX11_row 77 = .ok (.iload 5, 2) := by decide +kernel
theorem dX11_row_79 : decode cX11_row 79 = .ok (.iload_n 3, 1) := by decide +kernel
theorem dX11_row_80 : decode cX11_row 80 = .ok (.iastore, 1) := by decide +kernel
theorem dX11_row_81 : decode cX11_row 81 = .ok (.iload 6, 2) := by decide +kernel
theorem dX11_row_83 : decode cX11_row 83 = .ok (.ireturn, 1) := by decide +kernel
theorem dX11_feed_0 : decode cX11_feed 0 = .ok (.iload_n 1, 1) := by decide +kernel
theorem dX11_feed_1 : decode cX11_feed 1 = .ok (.ifCond .lt 9, 3) := by decide +kernel
theorem dX11_feed_4 : decode cX11_feed 4 = .ok (.iload_n 1, 1) := by decide +kernel
theorem dX11_feed_5 : decode cX11_feed 5 = .ok (.bipush 127, 2) := by decide +kernel
theorem dX11_feed_7 : decode cX11_feed 7 = .ok (.if_icmp .le 6, 3) := by decide +kernel
theorem dX11_feed_10 : decode cX11_feed 10 = .ok (.bipush (-2), 2) := by decide +kernel
theorem dX11_feed_12 : decode cX11_feed 12 = .ok (.ireturn, 1) := by decide +kernel
theorem dX11_feed_13 : decode cX11_feed 13 = .ok (.aload_n 0, 1) := by decide +kernel
theorem dX11_feed_14 : decode cX11_feed 14 = .ok (.getfield 143, 3) := by decide +kernel
theorem dX11_feed_17 : decode cX11_feed 17 = .ok (.bipush 100, 2) := by decide +kernel
theorem dX11_feed_19 : decode cX11_feed 19 = .ok (.if_icmp .lt 6, 3) := by decide +kernel
theorem dX11_feed_22 : decode cX11_feed 22 = .ok (.bipush (-4), 2) := by decide +kernel
theorem dX11_feed_24 : decode cX11_feed 24 = .ok (.ireturn, 1) := by decide +kernel
theorem dX11_feed_25 : decode cX11_feed 25 = .ok (.aload_n 0, 1) := by decide +kernel
theorem dX11_feed_26 : decode cX11_feed 26 = .ok (.getfield 31, 3) := by decide +kernel
theorem dX11_feed_29 : decode cX11_feed 29 = .ok (.aload_n 0, 1) := by decide +kernel
theorem dX11_feed_30 : decode cX11_feed 30 = .ok (.getfield 143, 3) := by decide +kernel
theorem dX11_feed_33 : decode cX11_feed 33 = .ok (.iload_n 1, 1) := by decide +kernel
theorem dX11_feed_34 : decode cX11_feed 34 = .ok (.i2b, 1) := by decide +kernel
theorem dX11_feed_35 : decode cX11_feed 35 = .ok (.bastore, 1) := by decide +kernel
theorem dX11_feed_36 : decode cX11_feed 36 = .ok (.aload_n 0, 1) := by decide +kernel
theorem dX11_feed_37 : decode cX11_feed 37 = .ok (.dup, 1) := by decide +kernel
theorem dX11_feed_38 : decode cX11_feed 38 = .ok (.getfield 143, 3) := by decide +kernel
theorem dX11_feed_41 : decode cX11_feed 41 = .ok (.iconst 1, 1) := by decide +kernel
theorem dX11_feed_42 : decode cX11_feed 42 = .ok (.iadd, 1) := by decide +kernel
theorem dX11_feed_43 : decode cX11_feed 43 = .ok (.putfield 143, 3) := by decide +kernel
theorem dX11_feed_46 : decode cX11_feed 46 = .ok (.aload_n 0, 1) := by decide +kernel
theorem dX11_feed_47 : decode cX11_feed 47 = .ok (.getfield 143, 3) := by decide +kernel
theorem dX11_feed_50 : decode cX11_feed 50 = .ok (.ireturn, 1) := by decide +kernel
theorem dX11_town_0 : decode cX11_town 0 = .ok (.aload_n 0, 1) := by decide +kernel
theorem dX11_town_1 : decode cX11_town 1 = .ok (.getfield 146, 3) := by decide +kernel
theorem dX11_town_4 : decode cX11_town 4 = .ok (.bipush 6, 2) := by decide +kernel
theorem dX11_town_6 : decode cX11_town 6 = .ok (.if_icmp .lt 6, 3) := by decide +kernel
theorem dX11_town_9 : decode cX11_town 9 = .ok (.bipush (-4), 2) := by decide +kernel
theorem dX11_town_11 : decode cX11_town 11 = .ok (.ireturn, 1) := by decide +kernel
theorem dX11_town_12 : decode cX11_town 12 = .ok (.aload_n 0, 1) := by decide +kernel
theorem dX11_town_13 : decode cX11_town 13 = .ok (.getfield 27, 3) := by decide +kernel
theorem dX11_town_16 : decode cX11_town 16 = .ok (.aload_n 0, 1) := by decide +kernel
theorem dX11_town_17 : decode cX11_town 17 = .ok (.getfield 31, 3) := by decide +kernel
theorem dX11_town_20 : decode cX11_town 20 = .ok (.aload_n 0, 1) := by decide +kernel
theorem dX11_town_21 : decode cX11_town 21 = .ok (.getfield 143, 3) := by decide +kernel
theorem dX11_town_24 : decode cX11_town 24 = .ok (.invokevirtual 149, 3) := by decide +kernel
theorem dX11_town_27 : decode cX11_town 27 = .ok (.istore_n 1, 1) := by decide +kernel
theorem dX11_town_28 : decode cX11_town 28 = .ok (.aload_n 0, 1) := by decide +kernel
theorem dX11_town_29 : decode cX11_town 29 = .ok (.iconst 0, 1) := by decide +kernel
theorem dX11_town_30 : decode cX11_town 30 = .ok (.putfield 143, 3) := by decide +kernel
theorem dX11_town_33 : decode cX11_town 33 = .ok (.iload_n 1, 1) := by decide +kernel
theorem dX11_town_34 : decode cX11_town 34 = .ok (.ifCond .ne 14, 3) := by decide +kernel
theorem dX11_town_37 : decode cX11_town 37 = .ok (.bipush (-10), 2) := by decide +kernel
theorem dX11_town_39 : decode cX11_town 39 = .ok (.aload_n 0, 1) := by decide +kernel
theorem dX11_town_40 : decode cX11_town 40 = .ok (.getfield 27, 3) := by decide +kernel
theorem dX11_town_43 : decode cX11_town 43 = .ok (.getfield 153, 3) := by decide +kernel
theorem dX11_town_46 : decode cX11_town 46 = .ok (.isub, 1) := by decide +kernel
theorem dX11_town_47 : decode cX11_town 47 = .ok (.ireturn, 1) := by decide +kernel
theorem dX11_town_48 : decode cX11_town 48 = .ok (.aload_n 0, 1) := by decide +kernel
theorem dX11_town_49 : decode cX11_town 49 = .ok (.getfield 12, 3) := by decide +kernel
theorem dX11_town_52 : decode cX11_town 52 = .ok (.aload_n 0, 1) := by decide +kernel
theorem dX11_town_53 : decode cX11_town 53 = .ok (.getfield 27, 3) := by decide +kernel
theorem dX11_town_56 : decode cX11_town 56 = .ok (.putfield 156, 3) := by decide +kernel
theorem dX11_town_59 : decode cX11_town 59 = .ok (.aload_n 0, 1) := by decide +kernel
theorem dX11_town_60 : decode cX11_town 60 = .ok (.new 24, 3) := by decide +kernel
theorem dX11_town_63 : decode cX11_town 63 = .ok (.dup, 1) := by decide +kernel
theorem dX11_town_64 : decode cX11_town 64 = .ok (.invokespecial 26, 3) := by decide +kernel
theorem dX11_town_67 : decode cX11_town 67 = .ok (.putfield 27, 3) := by decide +kernel
theorem dX11_town_70 : decode cX11_town 70 = .ok (.aload_n 0, 1) := by decide +kernel
theorem dX11_town_71 : decode cX11_town 71 = .ok (.dup, 1) := by decide +kernel
theorem dX11_town_72 : decode cX11_town 72 = .ok (.getfield 146, 3) := by decide +kernel
theorem dX11_town_75 : decode cX11_town 75 = .ok (.iconst 1, 1) := by decide +kernel
theorem dX11_town_76 : decode cX11_town 76 = .ok (.iadd, 1) := by decide +kernel
theorem dX11_town_77 : decode cX11_town 77 = .ok (.putfield 146, 3) := by decide +kernel
theorem dX11_town_80 : decode cX11_town 80 = .ok (.aload_n 0, 1) := by decide +kernel
theorem dX11_town_81 : decode cX11_town 81 = .ok (.getfield 146, 3) := by decide +kernel
theorem dX11_town_84 : decode cX11_town 84 = .ok (.iconst 1, 1) := by decide +kernel
theorem dX11_town_85 : decode cX11_town 85 = .ok (.isub, 1) := by decide +kernel
theorem dX11_town_86 : decode cX11_town 86 = .ok (.ireturn, 1) := by decide +kernel
theorem dX11_year_0 : decode cX11_year 0 = .ok (.aload_n 0, 1) := by decide +kernel
theorem dX11_year_1 : decode cX11_year 1 = .ok (.getfield 12, 3) := by decide +kernel
theorem dX11_year_4 : decode cX11_year 4 = .ok (.getfield 159, 3) := by decide +kernel
theorem dX11_year_7 : decode cX11_year 7 = .ok (.sipush 999, 3) := by decide +kernel
theorem dX11_year_10 : decode cX11_year 10 = .ok (.if_icmp .lt 6, 3) := by decide +kernel
theorem dX11_year_13 : decode cX11_year 13 = .ok (.bipush (-3), 2) := by decide +kernel
theorem dX11_year_15 : decode cX11_year 15 = .ok (.ireturn, 1) := by decide +kernel
theorem dX11_year_16 : decode cX11_year 16 = .ok (.aload_n 0, 1) := by decide +kernel
theorem dX11_year_17 : decode cX11_year 17 = .ok (.getfield 12, 3) := by decide +kernel
theorem dX11_year_20 : decode cX11_year 20 = .ok (.dup, 1) := by decide +kernel
theorem dX11_year_21 : decode cX11_year 21 = .ok (.getfield 159, 3) := by decide +kernel
theorem dX11_year_24 : decode cX11_year 24 = .ok (.iconst 1, 1) := by decide +kernel
theorem dX11_year_25 : decode cX11_year 25 = .ok (.iadd, 1) := by decide +kernel
theorem dX11_year_26 : decode cX11_year 26 = .ok (.putfield 159, 3) := by decide +kernel
theorem dX11_year_29 : decode cX11_year 29 = .ok (.aload_n 0, 1) := by decide +kernel
theorem dX11_year_30 : decode cX11_year 30 = .ok (.getfield 12, 3) := by decide +kernel
theorem dX11_year_33 : decode cX11_year 33 = .ok (.getfield 159, 3) := by decide +kernel
theorem dX11_year_36 : decode cX11_year 36 = .ok (.ireturn, 1) := by decide +kernel
theorem dX11_told_0 : decode cX11_told 0 = .ok (.iload_n 1, 1) := by decide +kernel
theorem dX11_told_1 : decode cX11_told 1 = .ok (.tableswitch 51 0 2 #[27, 35, 43], 27) := by decide +kernel
theorem dX11_told_28 : decode cX11_told 28 = .ok (.aload_n 0, 1) := by decide +kernel
theorem dX11_told_29 : decode cX11_told 29 = .ok (.getfield 12, 3) := by decide +kernel
theorem dX11_told_32 : decode cX11_told 32 = .ok (.getfield 159, 3) := by decide +kernel
theorem dX11_told_35 : decode cX11_told 35 = .ok (.ireturn, 1) := by decide +kernel
theorem dX11_told_36 : decode cX11_told 36 = .ok (.aload_n 0, 1) := by decide +kernel
theorem dX11_told_37 : decode cX11_told 37 = .ok (.getfield 12, 3) := by decide +kernel
theorem dX11_told_40 : decode cX11_told 40 = .ok (.invokevirtual 162, 3) := by decide +kernel
theorem dX11_told_43 : decode cX11_told 43 = .ok (.ireturn, 1) := by decide +kernel
theorem dX11_told_44 : decode cX11_told 44 = .ok (.aload_n 0, 1) := by decide +kernel
theorem dX11_told_45 : decode cX11_told 45 = .ok (.getfield 12, 3) := by decide +kernel
theorem dX11_told_48 : decode cX11_told 48 = .ok (.invokevirtual 165, 3) := by decide +kernel
theorem dX11_told_51 : decode cX11_told 51 = .ok (.ireturn, 1) := by decide +kernel
theorem dX11_told_52 : decode cX11_told 52 = .ok (.iconst (-1), 1) := by decide +kernel
theorem dX11_told_53 : decode cX11_told 53 = .ok (.ireturn, 1) := by decide +kernel
theorem dX11_amiss_0 : decode cX11_amiss 0 = .ok (.iload_n 1, 1) := by decide +kernel
theorem dX11_amiss_1 : decode cX11_amiss 1 = .ok (.tableswitch 51 0 2 #[27, 35, 43], 27) := by decide +kernel
theorem dX11_amiss_28 : decode cX11_amiss 28 = .ok (.aload_n 0, 1) := by decide +kernel
theorem dX11_amiss_29 : decode cX11_amiss 29 = .ok (.getfield 12, 3) := by decide +kernel
theorem dX11_amiss_32 : decode cX11_amiss 32 = .ok (.invokevirtual 83, 3) := by decide +kernel
theorem dX11_amiss_35 : decode cX11_amiss 35 = .ok (.ireturn, 1) := by decide +kernel
theorem dX11_amiss_36 : decode cX11_amiss 36 = .ok (.aload_n 0, 1) := by decide +kernel
theorem dX11_amiss_37 : decode cX11_amiss 37 = .ok (.getfield 12, 3) := by decide +kernel
theorem dX11_amiss_40 : decode cX11_amiss 40 = .ok (.invokevirtual 168, 3) := by decide +kernel
theorem dX11_amiss_43 : decode cX11_amiss 43 = .ok (.ireturn, 1) := by decide +kernel
theorem dX11_amiss_44 : decode cX11_amiss 44 = .ok (.aload_n 0, 1) := by decide +kernel
theorem dX11_amiss_45 : decode cX11_amiss 45 = .ok (.getfield 12, 3) := by decide +kernel
theorem dX11_amiss_48 : decode cX11_amiss 48 = .ok (.invokevirtual 171, 3) := by decide +kernel
theorem dX11_amiss_51 : decode cX11_amiss 51 = .ok (.ireturn, 1) := by decide +kernel
theorem dX11_amiss_52 : decode cX11_amiss 52 = .ok (.iconst (-1), 1) := by decide +kernel
theorem dX11_amiss_53 : decode cX11_amiss 53 = .ok (.ireturn, 1) := by decide +kernel
theorem dX11_alls_0 : decode cX11_alls 0 = .ok (.iconst 0, 1) := by decide +kernel
theorem dX11_alls_1 : decode cX11_alls 1 = .ok (.istore_n 1, 1) := by decide +kernel
theorem dX11_alls_2 : decode cX11_alls 2 = .ok (.iconst 0, 1) := by decide +kernel
theorem dX11_alls_3 : decode cX11_alls 3 = .ok (.istore_n 2, 1) := by decide +kernel
theorem dX11_alls_4 : decode cX11_alls 4 = .ok (.iload_n 2, 1) := by decide +kernel
theorem dX11_alls_5 : decode cX11_alls 5 = .ok (.aload_n 0, 1) := by decide +kernel
theorem dX11_alls_6 : decode cX11_alls 6 = .ok (.getfield 12, 3) := by decide +kernel
theorem dX11_alls_9 : decode cX11_alls 9 = .ok (.getfield 56, 3) := by decide +kernel
theorem dX11_alls_12 : decode cX11_alls 12 = .ok (.if_icmp .ge 26, 3) := by decide +kernel
theorem dX11_alls_15 : decode cX11_alls 15 = .ok (.aload_n 0, 1) := by decide +kernel
theorem dX11_alls_16 : decode cX11_alls 16 = .ok (.getfield 12, 3) := by decide +kernel
theorem dX11_alls_19 : decode cX11_alls 19 = .ok (.iload_n 2, 1) := by decide +kernel
theorem dX11_alls_20 : decode cX11_alls 20 = .ok (.invokevirtual 174, 3) := by decide +kernel
theorem dX11_alls_23 : decode cX11_alls 23 = .ok (.ifCond .eq 9, 3) := by decide +kernel
theorem dX11_alls_26 : decode cX11_alls 26 = .ok (.iload_n 1, 1) := by decide +kernel
theorem dX11_alls_27 : decode cX11_alls 27 = .ok (.iconst 1, 1) := by decide +kernel
theorem dX11_alls_28 : decode cX11_alls 28 = .ok (.iload_n 2, 1) := by decide +kernel
theorem dX11_alls_29 : decode cX11_alls 29 = .ok (.ishl, 1) := by decide +kernel
theorem dX11_alls_30 : decode cX11_alls 30 = .ok (.ior, 1) := by decide +kernel
theorem dX11_alls_31 : decode cX11_alls 31 = .ok (.istore_n 1, 1) := by decide +kernel
theorem dX11_alls_32 : decode cX11_alls 32 = .ok (.iinc 2 1, 3) := by decide +kernel
theorem dX11_alls_35 : decode cX11_alls 35 = .ok (.goto (-31), 3) := by decide +kernel
theorem dX11_alls_38 : decode cX11_alls 38 = .ok (.iload_n 1, 1) := by decide +kernel
theorem dX11_alls_39 : decode cX11_alls 39 = .ok (.ireturn, 1) := by decide +kernel
theorem dX11_first_0 : decode cX11_first 0 = .ok (.iload_n 1, 1) := by decide +kernel
theorem dX11_first_1 : decode cX11_first 1 = .ok (.ifCond .lt 8, 3) := by decide +kernel
theorem dX11_first_4 : decode cX11_first 4 = .ok (.iload_n 1, 1) := by decide +kernel
theorem dX11_first_5 : decode cX11_first 5 = .ok (.iconst 1, 1) := by decide +kernel
theorem dX11_first_6 : decode cX11_first 6 = .ok (.if_icmp .le 5, 3) := by decide +kernel
theorem dX11_first_9 : decode cX11_first 9 = .ok (.iconst (-1), 1) := by decide +kernel
theorem dX11_first_10 : decode cX11_first 10 = .ok (.ireturn, 1) := by decide +kernel
theorem dX11_first_11 : decode cX11_first 11 = .ok (.aload_n 0, 1) := by decide +kernel
theorem dX11_first_12 : decode cX11_first 12 = .ok (.getfield 21, 3) := by decide +kernel
theorem dX11_first_15 : decode cX11_first 15 = .ok (.aload_n 0, 1) := by decide +kernel
theorem dX11_first_16 : decode cX11_first 16 = .ok (.getfield 12, 3) := by decide +kernel
theorem dX11_first_19 : decode cX11_first 19 = .ok (.invokevirtual 177, 3) := by decide +kernel
theorem dX11_first_22 : decode cX11_first 22 = .ok (.bipush (-5), 2) := by decide +kernel
theorem dX11_first_24 : decode cX11_first 24 = .ok (.istore_n 2, 1) := by decide +kernel
theorem dX11_first_25 : decode cX11_first 25 = .ok (.aload_n 0, 1) := by decide +kernel
theorem dX11_first_26 : decode cX11_first 26 = .ok (.getfield 21, 3) := by decide +kernel
theorem dX11_first_29 : decode cX11_first 29 = .ok (.invokevirtual 168, 3) := by decide +kernel
theorem dX11_first_32 : decode cX11_first 32 = .ok (.istore_n 3, 1) := by decide +kernel
theorem dX11_first_33 : decode cX11_first 33 = .ok (.iconst 0, 1) := by decide +kernel
theorem dX11_first_34 : decode cX11_first 34 = .ok (.istore 4, 2) := by decide +kernel
theorem dX11_first_36 : decode cX11_first 36 = .ok (.iload 4, 2) := by decide +kernel
theorem dX11_first_38 : decode cX11_first 38 = .ok (.aload_n 0, 1) := by decide +kernel
theorem dX11_first_39 : decode cX11_first 39 = .ok (.getfield 21, 3) := by decide +kernel
theorem dX11_first_42 : decode cX11_first 42 = .ok (.invokevirtual 162, 3) := by decide +kernel
theorem dX11_first_45 : decode cX11_first 45 = .ok (.if_icmp .ge 48, 3) := by decide +kernel
theorem dX11_first_48 : decode cX11_first 48 = .ok (.aload_n 0, 1) := by decide +kernel
theorem dX11_first_49 : decode cX11_first 49 = .ok (.getfield 21, 3) := by decide +kernel
theorem dX11_first_52 : decode cX11_first 52 = .ok (.iload 4, 2) := by decide +kernel
theorem dX11_first_54 : decode cX11_first 54 = .ok (.invokevirtual 181, 3) := by decide +kernel
theorem dX11_first_57 : decode cX11_first 57 = .ok (.aload_n 0, 1) := by decide +kernel
theorem dX11_first_58 : decode cX11_first 58 = .ok (.getfield 21, 3) := by decide +kernel
theorem dX11_first_61 : decode cX11_first 61 = .ok (.invokevirtual 168, 3) := by decide +kernel
theorem dX11_first_64 : decode cX11_first 64 = .ok (.istore 5, 2) := by decide +kernel
theorem dX11_first_66 : decode cX11_first 66 = .ok (.aload_n 0, 1) := by decide +kernel
theorem dX11_first_67 : decode cX11_first 67 = .ok (.getfield 21, 3) := by decide +kernel
theorem dX11_first_70 : decode cX11_first 70 = .ok (.iload 4, 2) := by decide +kernel
theorem dX11_first_72 : decode cX11_first 72 = .ok (.invokevirtual 181, 3) := by decide +kernel
theorem dX11_first_75 : decode cX11_first 75 = .ok (.iload 5, 2) := by decide +kernel
theorem dX11_first_77 : decode cX11_first 77 = .ok (.iload_n 3, 1) := by decide +kernel
theorem dX11_first_78 : decode cX11_first 78 = .ok (.if_icmp .ge 9, 3) := by decide +kernel
theorem dX11_first_81 : decode cX11_first 81 = .ok (.iload 4, 2) := by decide +kernel
theorem dX11_first_83 : decode cX11_first 83 = .ok (.istore_n 2, 1) := by decide +kernel
theorem dX11_first_84 : decode cX11_first 84 = .ok (.iload 5, 2) := by decide +kernel
theorem dX11_first_86 : decode cX11_first 86 = .ok (.istore_n 3, 1) := by decide +kernel
theorem dX11_first_87 : decode cX11_first 87 = .ok (.iinc 4 1, 3) := by decide +kernel
theorem dX11_first_90 : decode cX11_first 90 = .ok (.goto (-54), 3) := by decide +kernel
theorem dX11_first_93 : decode cX11_first 93 = .ok (.iload_n 2, 1) := by decide +kernel
theorem dX11_first_94 : decode cX11_first 94 = .ok (.bipush (-5), 2) := by decide +kernel
theorem dX11_first_96 : decode cX11_first 96 = .ok (.if_icmp .ne 6, 3) := by decide +kernel
theorem dX11_first_99 : decode cX11_first 99 = .ok (.bipush (-5), 2) := by decide +kernel
theorem dX11_first_101 : decode cX11_first 101 = .ok (.ireturn, 1) := by decide +kernel
theorem dX11_first_102 : decode cX11_first 102 = .ok (.iload_n 1, 1) := by decide +kernel
theorem dX11_first_103 : decode cX11_first 103 = .ok (.ifCond .ne 7, 3) := by decide +kernel
theorem dX11_first_106 : decode cX11_first 106 = .ok (.iload_n 2, 1) := by decide +kernel
theorem dX11_first_107 : decode cX11_first 107 = .ok (.goto 4, 3) := by decide +kernel
theorem dX11_first_110 : decode cX11_first 110 = .ok (.iload_n 3, 1) := by decide +kernel
theorem dX11_first_111 : decode cX11_first 111 = .ok (.ireturn, 1) := by decide +kernel
theorem dX11_cheapest_0 : decode cX11_cheapest 0 = .ok (.iload_n 1, 1) := by decide +kernel
theorem dX11_cheapest_1 : decode cX11_cheapest 1 = .ok (.ifCond .lt 12, 3) := by decide +kernel
theorem dX11_cheapest_4 : decode cX11_cheapest 4 = .ok (.iload_n 1, 1) := by decide +kernel
theorem dX11_cheapest_5 : decode cX11_cheapest 5 = .ok (.aload_n 0, 1) := by decide +kernel
theorem dX11_cheapest_6 : decode cX11_cheapest 6 = .ok (.getfield 52, 3) := by decide +kernel
theorem dX11_cheapest_9 : decode cX11_cheapest 9 = .ok (.arraylength, 1) := by decide +kernel
theorem dX11_cheapest_10 : decode cX11_cheapest 10 = .ok (.if_icmp .lt 5, 3) := by decide +kernel
theorem dX11_cheapest_13 : decode cX11_cheapest 13 = .ok (.iconst (-1), 1) := by decide +kernel
theorem dX11_cheapest_14 : decode cX11_cheapest 14 = .ok (.ireturn, 1) := by decide +kernel
theorem dX11_cheapest_15 : decode cX11_cheapest 15 = .ok (.aload_n 0, 1) := by decide +kernel
theorem dX11_cheapest_16 : decode cX11_cheapest 16 = .ok (.getfield 21, 3) := by decide +kernel
theorem dX11_cheapest_19 : decode cX11_cheapest 19 = .ok (.aload_n 0, 1) := by decide +kernel
theorem dX11_cheapest_20 : decode cX11_cheapest 20 = .ok (.getfield 12, 3) := by decide +kernel
theorem dX11_cheapest_23 : decode cX11_cheapest 23 = .ok (.invokevirtual 177, 3) := by decide +kernel
theorem dX11_cheapest_26 : decode cX11_cheapest 26 = .ok (.aload_n 0, 1) := by decide +kernel
theorem dX11_cheapest_27 : decode cX11_cheapest 27 = .ok (.getfield 52, 3) := by decide +kernel
theorem dX11_cheapest_30 : decode cX11_cheapest 30 = .ok (.bipush (-5), 2) := by decide +kernel
theorem dX11_cheapest_32 : decode cX11_cheapest 32 = .ok (.invokestatic 185, 3) := by decide +kernel
theorem dX11_cheapest_35 : decode cX11_cheapest 35 = .ok (.aload_n 0, 1) := by decide +kernel
theorem dX11_cheapest_36 : decode cX11_cheapest 36 = .ok (.iconst 0, 1) := by decide +kernel
theorem dX11_cheapest_37 : decode cX11_cheapest 37 = .ok (.iconst 0, 1) := by decide +kernel
theorem dX11_cheapest_38 : decode cX11_cheapest 38 = .ok (.bipush (-5), 2) := by decide +kernel
theorem dX11_cheapest_40 : decode cX11_cheapest 40 = .ok (.bipush (-5), 2) := by decide +kernel
theorem dX11_cheapest_42 : decode cX11_cheapest 42 = .ok (.invokevirtual 191, 3) := by decide +kernel
theorem dX11_cheapest_45 : decode cX11_cheapest 45 = .ok (.aload_n 0, 1) := by decide +kernel
theorem dX11_cheapest_46 : decode cX11_cheapest 46 = .ok (.getfield 12, 3) := by decide +kernel
theorem dX11_cheapest_49 : decode cX11_cheapest 49 = .ok (.invokevirtual 162, 3) := by decide +kernel
theorem dX11_cheapest_52 : decode cX11_cheapest 52 = .ok (.istore_n 2, 1) := by decide +kernel
theorem dX11_cheapest_53 : decode cX11_cheapest 53 = .ok (.iconst 0, 1) := by decide +kernel
theorem dX11_cheapest_54 : decode cX11_cheapest 54 = .ok (.istore_n 3, 1) := by decide +kernel
theorem dX11_cheapest_55 : decode cX11_cheapest 55 = .ok (.iload_n 3, 1) := by decide +kernel
theorem dX11_cheapest_56 : decode cX11_cheapest 56 = .ok (.iload_n 2, 1) := by decide +kernel
theorem dX11_cheapest_57 : decode cX11_cheapest 57 = .ok (.if_icmp .ge 53, 3) := by decide +kernel
theorem dX11_cheapest_60 : decode cX11_cheapest 60 = .ok (.aload_n 0, 1) := by decide +kernel
theorem dX11_cheapest_61 : decode cX11_cheapest 61 = .ok (.getfield 48, 3) := by decide +kernel
theorem dX11_cheapest_64 : decode cX11_cheapest 64 = .ok (.iload_n 3, 1) := by decide +kernel
theorem dX11_cheapest_65 : decode cX11_cheapest 65 = .ok (.aload_n 0, 1) := by decide +kernel
theorem dX11_cheapest_66 : decode cX11_cheapest 66 = .ok (.getfield 12, 3) := by decide +kernel
theorem dX11_cheapest_69 : decode cX11_cheapest 69 = .ok (.iload_n 3, 1) := by decide +kernel
theorem dX11_cheapest_70 : decode cX11_cheapest 70 = .ok (.invokevirtual 131, 3) := by decide +kernel
theorem dX11_cheapest_73 : decode cX11_cheapest 73 = .ok (.iastore, 1) := by decide +kernel
theorem dX11_cheapest_74 : decode cX11_cheapest 74 = .ok (.aload_n 0, 1) := by decide +kernel
theorem dX11_cheapest_75 : decode cX11_cheapest 75 = .ok (.getfield 21, 3) := by decide +kernel
theorem dX11_cheapest_78 : decode cX11_cheapest 78 = .ok (.iload_n 3, 1) := by decide +kernel
theorem dX11_cheapest_79 : decode cX11_cheapest 79 = .ok (.invokevirtual 181, 3) := by decide +kernel
theorem dX11_cheapest_82 : decode cX11_cheapest 82 = .ok (.aload_n 0, 1) := by decide +kernel
theorem dX11_cheapest_83 : decode cX11_cheapest 83 = .ok (.aload_n 0, 1) := by decide +kernel
theorem dX11_cheapest_84 : decode cX11_cheapest 84 = .ok (.getfield 48, 3) := by decide +kernel
theorem dX11_cheapest_87 : decode cX11_cheapest 87 = .ok (.iload_n 3, 1) := by decide +kernel
theorem dX11_cheapest_88 : decode cX11_cheapest 88 = .ok (.iaload, 1) := by decide +kernel
theorem dX11_cheapest_89 : decode cX11_cheapest 89 = .ok (.iconst 1, 1) := by decide +kernel
theorem dX11_cheapest_90 : decode cX11_cheapest 90 = .ok (.iload_n 3, 1) := by decide +kernel
theorem dX11_cheapest_91 : decode cX11_cheapest 91 = .ok (.bipush (-5), 2) := by decide +kernel
theorem dX11_cheapest_93 : decode cX11_cheapest 93 = .ok (.invokevirtual 191, 3) := by decide +kernel
theorem dX11_cheapest_96 : decode cX11_cheapest 96 = .ok (.aload_n 0, 1) := by decide +kernel
theorem dX11_cheapest_97 : decode cX11_cheapest 97 = .ok (.getfield 21, 3) := by decide +kernel
theorem dX11_cheapest_100 : decode cX11_cheapest 100 = .ok (.iload_n 3, 1) := by decide +kernel
theorem dX11_cheapest_101 : decode cX11_cheapest 101 = .ok (.invokevirtual 181, 3) := by decide +kernel
theorem dX11_cheapest_104 : decode cX11_cheapest 104 = .ok (.iinc 3 1, 3) := by decide +kernel
theorem dX11_cheapest_107 : decode cX11_cheapest 107 = .ok (.goto (-52), 3) := by decide +kernel
theorem dX11_cheapest_110 : decode cX11_cheapest 110 = .ok (.iconst 0, 1) := by decide +kernel
theorem dX11_cheapest_111 : decode cX11_cheapest 111 = .ok (.istore_n 3, 1) := by decide +kernel
theorem dX11_cheapest_112 : decode cX11_cheapest 112 = .ok (.iload_n 3, 1) := by decide +kernel
theorem dX11_cheapest_113 : decode cX11_cheapest 113 = .ok (.iload_n 2, 1) := by decide +kernel
theorem dX11_cheapest_114 : decode cX11_cheapest 114 = .ok (.if_icmp .ge 82, 3) := by decide +kernel
theorem dX11_cheapest_117 : decode cX11_cheapest 117 = .ok (.aload_n 0, 1) := by decide +kernel
theorem dX11_cheapest_118 : decode cX11_cheapest 118 = .ok (.getfield 21, 3) := by decide +kernel
theorem dX11_cheapest_121 : decode cX11_cheapest 121 = .ok (.iload_n 3, 1) := by decide +kernel
theorem dX11_cheapest_122 : decode cX11_cheapest 122 = .ok (.invokevirtual 181, 3) := by decide +kernel
theorem dX11_cheapest_125 : decode cX11_cheapest 125 = .ok (.iload_n 3, 1) := by decide +kernel
theorem dX11_cheapest_126 : decode cX11_cheapest 126 = .ok (.iconst 1, 1) := by decide +kernel
theorem dX11_cheapest_127 : decode cX11_cheapest 127 = .ok (.iadd, 1) := by decide +kernel
theorem dX11_cheapest_128 : decode cX11_cheapest 128 = .ok (.istore 4, 2) := by decide +kernel
theorem dX11_cheapest_130 : decode cX11_cheapest 130 = .ok (.iload 4, 2) := by decide +kernel
theorem dX11_cheapest_132 : decode cX11_cheapest 132 = .ok (.iload_n 2, 1) := by decide +kernel
theorem dX11_cheapest_133 : decode cX11_cheapest 133 = .ok (.if_icmp .ge 49, 3) := by decide +kernel
theorem dX11_cheapest_136 : decode cX11_cheapest 136 = .ok (.aload_n 0, 1) := by decide +kernel
theorem dX11_cheapest_137 : decode cX11_cheapest 137 = .ok (.getfield 21, 3) := by decide +kernel
theorem dX11_cheapest_140 : decode cX11_cheapest 140 = .ok (.iload 4, 2) := by decide +kernel
theorem dX11_cheapest_142 : decode cX11_cheapest 142 = .ok (.invokevirtual 181, 3) := by decide +kernel
theorem dX11_cheapest_145 : decode cX11_cheapest 145 = .ok (.aload_n 0, 1) := by decide +kernel
theorem dX11_cheapest_146 : decode cX11_cheapest 146 = .ok (.aload_n 0, 1) := by decide +kernel
theorem dX11_cheapest_147 : decode cX11_cheapest 147 = .ok (.getfield 48, 3) := by decide +kernel
theorem dX11_cheapest_150 : decode cX11_cheapest 150 = .ok (.iload_n 3, 1) := by decide +kernel
theorem dX11_cheapest_151 : decode cX11_cheapest 151 = .ok (.iaload, 1) := by decide +kernel
theorem dX11_cheapest_152 : decode cX11_cheapest 152 = .ok (.aload_n 0, 1) := by decide +kernel
theorem dX11_cheapest_153 : decode cX11_cheapest 153 = .ok (.getfield 48, 3) := by decide +kernel
theorem dX11_cheapest_156 : decode cX11_cheapest 156 = .ok (.iload 4, 2) := by decide +kernel
theorem dX11_cheapest_158 : decode cX11_cheapest 158 = .ok (.iaload, 1) := by decide +kernel
theorem dX11_cheapest_159 : decode cX11_cheapest 159 = .ok (.iadd, 1) := by decide +kernel
theorem dX11_cheapest_160 : decode cX11_cheapest 160 = .ok (.iconst 2, 1) := by decide +kernel
theorem dX11_cheapest_161 : decode cX11_cheapest 161 = .ok (.iload_n 3, 1) := by decide +kernel
theorem dX11_cheapest_162 : decode cX11_cheapest 162 = .ok (.iload 4, 2) := by decide +kernel
theorem dX11_cheapest_164 : decode cX11_cheapest 164 = .ok (.invokevirtual 191, 3) := by decide +kernel
theorem dX11_cheapest_167 : decode cX11_cheapest 167 = .ok (.aload_n 0, 1) := by decide +kernel
theorem dX11_cheapest_168 : decode cX11_cheapest 168 = .ok (.getfield 21, 3) := by decide +kernel
theorem dX11_cheapest_171 : decode cX11_cheapest 171 = .ok (.iload 4, 2) := by decide +kernel
theorem dX11_cheapest_173 : decode cX11_cheapest 173 = .ok (.invokevirtual 181, 3) := by decide +kernel
theorem dX11_cheapest_176 : decode cX11_cheapest 176 = .ok (.iinc 4 1, 3) := by decide +kernel
theorem dX11_cheapest_179 : decode cX11_cheapest 179 = .ok (.goto (-49), 3) := by decide +kernel
theorem dX11_cheapest_182 : decode cX11_cheapest 182 = .ok (.aload_n 0, 1) := by decide +kernel
theorem dX11_cheapest_183 : decode cX11_cheapest 183 = .ok (.getfield 21, 3) := by decide +kernel
theorem dX11_cheapest_186 : decode cX11_cheapest 186 = .ok (.iload_n 3, 1) := by decide +kernel
theorem dX11_cheapest_187 : decode cX11_cheapest 187 = .ok (.invokevirtual 181, 3) := by decide +kernel
theorem dX11_cheapest_190 : decode cX11_cheapest 190 = .ok (.iinc 3 1, 3) := by decide +kernel
theorem dX11_cheapest_193 : decode cX11_cheapest 193 = .ok (.goto (-81), 3) := by decide +kernel
theorem dX11_cheapest_196 : decode cX11_cheapest 196 = .ok (.aload_n 0, 1) := by decide +kernel
theorem dX11_cheapest_197 : decode cX11_cheapest 197 = .ok (.getfield 52, 3) := by decide +kernel
theorem dX11_cheapest_200 : decode cX11_cheapest 200 = .ok (.iload_n 1, 1) := by decide +kernel
theorem dX11_cheapest_201 : decode cX11_cheapest 201 = .ok (.iaload, 1) := by decide +kernel
theorem dX11_cheapest_202 : decode cX11_cheapest 202 = .ok (.ireturn, 1) := by decide +kernel
theorem dX11_goes_0 : decode cX11_goes 0 = .ok (.iload_n 1, 1) := by decide +kernel
theorem dX11_goes_1 : decode cX11_goes 1 = .ok (.ifCond .lt 8, 3) := by decide +kernel
theorem dX11_goes_4 : decode cX11_goes 4 = .ok (.iload_n 1, 1) := by decide +kernel
theorem dX11_goes_5 : decode cX11_goes 5 = .ok (.iconst 1, 1) := by decide +kernel
theorem dX11_goes_6 : decode cX11_goes 6 = .ok (.if_icmp .le 5, 3) := by decide +kernel
theorem dX11_goes_9 : decode cX11_goes 9 = .ok (.iconst (-1), 1) := by decide +kernel
theorem dX11_goes_10 : decode cX11_goes 10 = .ok (.ireturn, 1) := by decide +kernel
theorem dX11_goes_11 : decode cX11_goes 11 = .ok (.bipush (-5), 2) := by decide +kernel
theorem dX11_goes_13 : decode cX11_goes 13 = .ok (.istore_n 2, 1) := by decide +kernel
theorem dX11_goes_14 : decode cX11_goes 14 = .ok (.bipush (-5), 2) := by decide +kernel
theorem dX11_goes_16 : decode cX11_goes 16 = .ok (.istore_n 3, 1) := by decide +kernel
theorem dX11_goes_17 : decode cX11_goes 17 = .ok (.iconst 0, 1) := by decide +kernel
theorem dX11_goes_18 : decode cX11_goes 18 = .ok (.istore 4, 2) := by decide +kernel
theorem dX11_goes_20 : decode cX11_goes 20 = .ok (.iload 4, 2) := by decide +kernel
theorem dX11_goes_22 : decode cX11_goes 22 = .ok (.aload_n 0, 1) := by decide +kernel
theorem dX11_goes_23 : decode cX11_goes 23 = .ok (.getfield 12, 3) := by decide +kernel
theorem dX11_goes_26 : decode cX11_goes 26 = .ok (.getfield 56, 3) := by decide +kernel
theorem dX11_goes_29 : decode cX11_goes 29 = .ok (.if_icmp .ge 56, 3) := by decide +kernel
theorem dX11_goes_32 : decode cX11_goes 32 = .ok (.aload_n 0, 1) := by decide +kernel
theorem dX11_goes_33 : decode cX11_goes 33 = .ok (.getfield 21, 3) := by decide +kernel
theorem dX11_goes_36 : decode cX11_goes 36 = .ok (.aload_n 0, 1) := by decide +kernel
theorem dX11_goes_37 : decode cX11_goes 37 = .ok (.getfield 12, 3) := by decide +kernel
theorem dX11_goes_40 : decode cX11_goes 40 = .ok (.invokevirtual 177, 3) := by decide +kernel
theorem dX11_goes_43 : decode cX11_goes 43 = .ok (.aload_n 0, 1) := by decide +kernel
theorem dX11_goes_44 : decode cX11_goes 44 = .ok (.getfield 21, 3) := by decide +kernel
theorem dX11_goes_47 : decode cX11_goes 47 = .ok (.iload 4, 2) := by decide +kernel
theorem dX11_goes_49 : decode cX11_goes 49 = .ok (.invokevirtual 195, 3) := by decide +kernel
theorem dX11_goes_52 : decode cX11_goes 52 = .ok (.aload_n 0, 1) := by decide +kernel
theorem dX11_goes_53 : decode cX11_goes 53 = .ok (.getfield 21, 3) := by decide +kernel
theorem dX11_goes_56 : decode cX11_goes 56 = .ok (.invokevirtual 168, 3) := by decide +kernel
theorem dX11_goes_59 : decode cX11_goes 59 = .ok (.istore 5, 2) := by decide +kernel
theorem dX11_goes_61 : decode cX11_goes 61 = .ok (.iload_n 2, 1) := by decide +kernel
theorem dX11_goes_62 : decode cX11_goes 62 = .ok (.bipush (-5), 2) := by decide +kernel
theorem dX11_goes_64 : decode cX11_goes 64 = .ok (.if_icmp .eq 9, 3) := by decide +kernel
theorem dX11_goes_67 : decode cX11_goes 67 = .ok (.iload 5, 2) := by decide +kernel
theorem dX11_goes_69 : decode cX11_goes 69 = .ok (.iload_n 3, 1) := by decide +kernel
theorem dX11_goes_70 : decode cX11_goes 70 = .ok (.if_icmp .ge 9, 3) := by decide +kernel
theorem dX11_goes_73 : decode cX11_goes 73 = .ok (.iload 4, 2) := by decide +kernel
theorem dX11_goes_75 : decode cX11_goes 75 = .ok (.istore_n 2, 1) := by decide +kernel
theorem dX11_goes_76 : decode cX11_goes 76 = .ok (.iload 5, 2) := by decide +kernel
theorem dX11_goes_78 : decode cX11_goes 78 = .ok (.istore_n 3, 1) := by decide +kernel
theorem dX11_goes_79 : decode cX11_goes 79 = .ok (.iinc 4 1, 3) := by decide +kernel
theorem dX11_goes_82 : decode cX11_goes 82 = .ok (.goto (-62), 3) := by decide +kernel
theorem dX11_goes_85 : decode cX11_goes 85 = .ok (.iload_n 1, 1) := by decide +kernel
theorem dX11_goes_86 : decode cX11_goes 86 = .ok (.ifCond .ne 7, 3) := by decide +kernel
theorem dX11_goes_89 : decode cX11_goes 89 = .ok (.iload_n 2, 1) := by decide +kernel
theorem dX11_goes_90 : decode cX11_goes 90 = .ok (.goto 4, 3) := by decide +kernel
theorem dX11_goes_93 : decode cX11_goes 93 = .ok (.iload_n 3, 1) := by decide +kernel
theorem dX11_goes_94 : decode cX11_goes 94 = .ok (.ireturn, 1) := by decide +kernel
theorem dX11_befriends_0 : decode cX11_befriends 0 = .ok (.iload_n 1, 1) := by decide +kernel
theorem dX11_befriends_1 : decode cX11_befriends 1 = .ok (.ifCond .lt 18, 3) := by decide +kernel
theorem dX11_befriends_4 : decode cX11_befriends 4 = .ok (.iload_n 1, 1) := by decide +kernel
theorem dX11_befriends_5 : decode cX11_befriends 5 = .ok (.bipush 6, 2) := by decide +kernel
theorem dX11_befriends_7 : decode cX11_befriends 7 = .ok (.if_icmp .gt 12, 3) := by decide +kernel
theorem dX11_befriends_10 : decode cX11_befriends 10 = .ok (.iload_n 3, 1) := by decide +kernel
theorem dX11_befriends_11 : decode cX11_befriends 11 = .ok (.ifCond .lt 8, 3) := by decide +kernel
theorem dX11_befriends_14 : decode cX11_befriends 14 = .ok (.iload_n 3, 1) := by decide +kernel
theorem dX11_befriends_15 : decode cX11_befriends 15 = .ok (.iconst 1, 1) := by decide +kernel
theorem dX11_befriends_16 : decode cX11_befriends 16 = .ok (.if_icmp .le 5, 3) := by decide +kernel
theorem dX11_befriends_19 : decode cX11_befriends 19 = .ok (.iconst (-1), 1) := by decide +kernel
theorem dX11_befriends_20 : decode cX11_befriends 20 = .ok (.ireturn, 1) := by decide +kernel
theorem dX11_befriends_21 : decode cX11_befriends 21 = .ok (.iload_n 2, 1) := by decide +kernel
theorem dX11_befriends_22 : decode cX11_befriends 22 = .ok (.ifCond .lt 9, 3) := by decide +kernel
theorem dX11_befriends_25 : decode cX11_befriends 25 = .ok (.iload_n 2, 1) := by decide +kernel
theorem dX11_befriends_26 : decode cX11_befriends 26 = .ok (.bipush 9, 2) := by decide +kernel
theorem dX11_befriends_28 : decode cX11_befriends 28 = .ok (.if_icmp .le 6, 3) := by decide +kernel
theorem dX11_befriends_31 : decode cX11_befriends 31 = .ok (.bipush (-2), 2) := by decide +kernel
theorem dX11_befriends_33 : decode cX11_befriends 33 = .ok (.ireturn, 1) := by decide +kernel
theorem dX11_befriends_34 : decode cX11_befriends 34 = .ok (.aload_n 0, 1) := by decide +kernel
theorem dX11_befriends_35 : decode cX11_befriends 35 = .ok (.getfield 12, 3) := by decide +kernel
theorem dX11_befriends_38 : decode cX11_befriends 38 = .ok (.getfield 56, 3) := by decide +kernel
theorem dX11_befriends_41 : decode cX11_befriends 41 = .ok (.istore 4, 2) := by decide +kernel
theorem dX11_befriends_43 : decode cX11_befriends 43 = .ok (.iload 4, 2) := by decide +kernel
theorem dX11_befriends_45 : decode cX11_befriends 45 = .ok (.bipush 6, 2) := by decide +kernel
theorem dX11_befriends_47 : decode cX11_befriends 47 = .ok (.if_icmp .lt 6, 3) := by decide +kernel
theorem dX11_befriends_50 : decode cX11_befriends 50 = .ok (.bipush (-9), 2) := by decide +kernel
theorem dX11_befriends_52 : decode cX11_befriends 52 = .ok (.ireturn, 1) := by decide +kernel
theorem dX11_befriends_53 : decode cX11_befriends 53 = .ok (.aload_n 0, 1) := by decide +kernel
theorem dX11_befriends_54 : decode cX11_befriends 54 = .ok (.getfield 21, 3) := by decide +kernel
theorem dX11_befriends_57 : decode cX11_befriends 57 = .ok (.aload_n 0, 1) := by decide +kernel
theorem dX11_befriends_58 : decode cX11_befriends 58 = .ok (.getfield 12, 3) := by decide +kernel
theorem dX11_befriends_61 : decode cX11_befriends 61 = .ok (.invokevirtual 177, 3) := by decide +kernel
theorem dX11_befriends_64 : decode cX11_befriends 64 = .ok (.aload_n 0, 1) := by decide +kernel
theorem dX11_befriends_65 : decode cX11_befriends 65 = .ok (.getfield 21, 3) := by decide +kernel
theorem dX11_befriends_68 : decode cX11_befriends 68 = .ok (.iload_n 1, 1) := by decide +kernel
theorem dX11_befriends_69 : decode cX11_befriends 69 = .ok (.iload 4, 2) := by decide +kernel
theorem dX11_befriends_71 : decode cX11_befriends 71 = .ok (.iload_n 2, 1) := by decide +kernel
theorem dX11_befriends_72 : decode cX11_befriends 72 = .ok (.invokestatic 60, 3) := by decide +kernel
theorem dX11_befriends_75 : decode cX11_befriends 75 = .ok (.invokevirtual 64, 3) := by decide +kernel
theorem dX11_befriends_78 : decode cX11_befriends 78 = .ok (.iconst 0, 1) := by decide +kernel
theorem dX11_befriends_79 : decode cX11_befriends 79 = .ok (.istore 5, 2) := by decide +kernel
theorem dX11_befriends_81 : decode cX11_befriends 81 = .ok (.aload_n 0, 1) := by decide +kernel
theorem dX11_befriends_82 : decode cX11_befriends 82 = .ok (.getfield 21, 3) := by decide +kernel
theorem dX11_befriends_85 : decode cX11_befriends 85 = .ok (.invokevirtual 168, 3) := by decide +kernel
theorem dX11_befriends_88 : decode cX11_befriends 88 = .ok (.istore 6, 2) := by decide +kernel
theorem dX11_befriends_90 : decode cX11_befriends 90 = .ok (.iconst 1, 1) := by decide +kernel
theorem dX11_befriends_91 : decode cX11_befriends 91 = .ok (.istore 7, 2) := by decide +kernel
theorem dX11_befriends_93 : decode cX11_befriends 93 = .ok (.iload 7, 2) := by decide +kernel
theorem dX11_befriends_95 : decode cX11_befriends 95 = .ok (.iconst 1, 1) := by decide +kernel
theorem dX11_befriends_96 : decode cX11_befriends 96 = .ok (.iload 4, 2) := by decide +kernel
theorem dX11_befriends_98 : decode cX11_befriends 98 = .ok (.ishl, 1) := by decide +kernel
theorem dX11_befriends_99 : decode cX11_befriends 99 = .ok (.if_icmp .ge 67, 3) := by decide +kernel
theorem dX11_befriends_102 : decode cX11_befriends 102 = .ok (.iconst 0, 1) := by decide +kernel
theorem dX11_befriends_103 : decode cX11_befriends 103 = .ok (.istore 8, 2) := by decide +kernel
theorem dX11_befriends_105 : decode cX11_befriends 105 = .ok (.iload 8, 2) := by decide +kernel
theorem dX11_befriends_107 : decode cX11_befriends 107 = .ok (.iload 4, 2) := by decide +kernel
theorem dX11_befriends_109 : decode cX11_befriends 109 = .ok (.if_icmp .ge 27, 3) := by decide +kernel
theorem dX11_befriends_112 : decode cX11_befriends 112 = .ok (.aload_n 0, 1) := by decide +kernel
theorem dX11_befriends_113 : decode cX11_befriends 113 = .ok (.getfield 21, 3) := by decide +kernel
theorem dX11_befriends_116 : decode cX11_befriends 116 = .ok (.iload 8, 2) := by decide +kernel
theorem dX11_befriends_118 : decode cX11_befriends 118 = .ok (.iload 4, 2) := by decide +kernel
theorem dX11_befriends_120 : decode cX11_befriends 120 = .ok (.iload 7, 2) := by decide +kernel
theorem dX11_befriends_122 : decode cX11_befriends 122 = .ok (.iload 8, 2) := by decide +kernel
theorem dX11_befriends_124 : decode cX11_befriends 124 = .ok (.invokestatic 198, 3) := by decide +kernel
theorem dX11_befriends_127 : decode cX11_befriends 127 = .ok (.invokevirtual 105, 3) := by decide +kernel
theorem dX11_befriends_130 : decode cX11_befriends 130 = .ok (.iinc 8 1, 3) := by decide +kernel
theorem dX11_befriends_133 : decode cX11_befriends 133 = .ok (.goto (-28), 3) := by decide +kernel
theorem dX11_befriends_136 : decode cX11_befriends 136 = .ok (.aload_n 0, 1) := by decide +kernel
theorem dX11_befriends_137 : decode cX11_befriends 137 = .ok (.getfield 21, 3) := by decide +kernel
theorem dX11_befriends_140 : decode cX11_befriends 140 = .ok (.invokevirtual 168, 3) := by decide +kernel
theorem dX11_befriends_143 : decode cX11_befriends 143 = .ok (.istore 8, 2) := by decide +kernel
theorem dX11_befriends_145 : decode cX11_befriends 145 = .ok (.iload 8, 2) := by decide +kernel
theorem dX11_befriends_147 : decode cX11_befriends 147 = .ok (.iload 6, 2) := by decide +kernel
theorem dX11_befriends_149 : decode cX11_befriends 149 = .ok (.if_icmp .ge 11, 3) := by decide +kernel
theorem dX11_befriends_152 : decode cX11_befriends 152 = .ok (.iload 7, 2) := by decide +kernel
theorem dX11_befriends_154 : decode cX11_befriends 154 = .ok (.istore 5, 2) := by decide +kernel
theorem dX11_befriends_156 : decode cX11_befriends 156 = .ok (.iload 8, 2) := by decide +kernel
theorem dX11_befriends_158 : decode cX11_befriends 158 = .ok (.istore 6, 2) := by decide +kernel
theorem dX11_befriends_160 : decode cX11_befriends 160 = .ok (.iinc 7 1, 3) := by decide +kernel
theorem dX11_befriends_163 : decode cX11_befriends 163 = .ok (.goto (-70), 3) := by decide +kernel
theorem dX11_befriends_166 : decode cX11_befriends 166 = .ok (.iload_n 3, 1) := by decide +kernel
theorem dX11_befriends_167 : decode cX11_befriends 167 = .ok (.ifCond .ne 8, 3) := by decide +kernel
theorem dX11_befriends_170 : decode cX11_befriends 170 = .ok (.iload 5, 2) := by decide +kernel
theorem dX11_befriends_172 : decode cX11_befriends 172 = .ok (.goto 5, 3) := by decide +kernel
theorem dX11_befriends_175 : decode cX11_befriends 175 = .ok (.iload 6, 2) := by decide +kernel
theorem dX11_befriends_177 : decode cX11_befriends 177 = .ok (.ireturn, 1) := by decide +kernel
theorem dX11_complain_0 : decode cX11_complain 0 = .ok (.aload_n 0, 1) := by decide +kernel
theorem dX11_complain_1 : decode cX11_complain 1 = .ok (.getfield 12, 3) := by decide +kernel
theorem dX11_complain_4 : decode cX11_complain 4 = .ok (.iload_n 1, 1) := by decide +kernel
theorem dX11_complain_5 : decode cX11_complain 5 = .ok (.invokevirtual 201, 3) := by decide +kernel
theorem dX11_complain_8 : decode cX11_complain 8 = .ok (.ifCond .ne 5, 3) := by decide +kernel
theorem dX11_complain_11 : decode cX11_complain 11 = .ok (.iconst (-1), 1) := by decide +kernel
theorem dX11_complain_12 : decode cX11_complain 12 = .ok (.ireturn, 1) := by decide +kernel
theorem dX11_complain_13 : decode cX11_complain 13 = .ok (.iload_n 2, 1) := by decide +kernel
theorem dX11_complain_14 : decode cX11_complain 14 = .ok (.ifCond .lt 8, 3) := by decide +kernel
theorem dX11_complain_17 : decode cX11_complain 17 = .ok (.iload_n 2, 1) := by decide +kernel
theorem dX11_complain_18 : decode cX11_complain 18 = .ok (.iconst 5, 1) := by decide +kernel
theorem dX11_complain_19 : decode cX11_complain 19 = .ok (.if_icmp .le 6, 3) := by decide +kernel
theorem dX11_complain_22 : decode cX11_complain 22 = .ok (.bipush (-2), 2) := by decide +kernel
theorem dX11_complain_24 : decode cX11_complain 24 = .ok (.ireturn, 1) := by decide +kernel
theorem dX11_complain_25 : decode cX11_complain 25 = .ok (.aload_n 0, 1) := by decide +kernel
theorem dX11_complain_26 : decode cX11_complain 26 = .ok (.getfield 12, 3) := by decide +kernel
theorem dX11_complain_29 : decode cX11_complain 29 = .ok (.getfield 91, 3) := by decide +kernel
theorem dX11_complain_32 : decode cX11_complain 32 = .ok (.iload_n 1, 1) := by decide +kernel
theorem dX11_complain_33 : decode cX11_complain 33 = .ok (.iaload, 1) := by decide +kernel
theorem dX11_complain_34 : decode cX11_complain 34 = .ok (.istore_n 3, 1) := by decide +kernel
theorem dX11_complain_35 : decode cX11_complain 35 = .ok (.aload_n 0, 1) := by decide +kernel
theorem dX11_complain_36 : decode cX11_complain 36 = .ok (.getfield 12, 3) := by decide +kernel
theorem dX11_complain_39 : decode cX11_complain 39 = .ok (.getfield 91, 3) := by decide +kernel
theorem dX11_complain_42 : decode cX11_complain 42 = .ok (.iload_n 1, 1) := by decide +kernel
theorem dX11_complain_43 : decode cX11_complain 43 = .ok (.iload_n 2, 1) := by decide +kernel
theorem dX11_complain_44 : decode cX11_complain 44 = .ok (.iastore, 1) := by decide +kernel
theorem dX11_complain_45 : decode cX11_complain 45 = .ok (.iload_n 3, 1) := by decide +kernel
theorem dX11_complain_46 : decode cX11_complain 46 = .ok (.ireturn, 1) := by decide +kernel
theorem dX11_made_0 : decode cX11_made 0 = .ok (.aload_n 0, 1) := by decide +kernel
theorem dX11_made_1 : decode cX11_made 1 = .ok (.getfield 12, 3) := by decide +kernel
theorem dX11_made_4 : decode cX11_made 4 = .ok (.invokevirtual 204, 3) := by decide +kernel
theorem dX11_made_7 : decode cX11_made 7 = .ok (.ifCond .eq 6, 3) := by decide +kernel
theorem dX11_made_10 : decode cX11_made 10 = .ok (.bipush 100, 2) := by decide +kernel
theorem dX11_made_12 : decode cX11_made 12 = .ok (.ireturn, 1) := by decide +kernel
theorem dX11_made_13 : decode cX11_made 13 = .ok (.aload_n 0, 1) := by decide +kernel
theorem dX11_made_14 : decode cX11_made 14 = .ok (.getfield 21, 3) := by decide +kernel
theorem dX11_made_17 : decode cX11_made 17 = .ok (.aload_n 0, 1) := by decide +kernel
theorem dX11_made_18 : decode cX11_made 18 = .ok (.getfield 12, 3) := by decide +kernel
theorem dX11_made_21 : decode cX11_made 21 = .ok (.invokevirtual 177, 3) := by decide +kernel
theorem dX11_made_24 : decode cX11_made 24 = .ok (.iconst 0, 1) := by decide +kernel
theorem dX11_made_25 : decode cX11_made 25 = .ok (.istore_n 1, 1) := by decide +kernel
theorem dX11_made_26 : decode cX11_made 26 = .ok (.iload_n 1, 1) := by decide +kernel
theorem dX11_made_27 : decode cX11_made 27 = .ok (.aload_n 0, 1) := by decide +kernel
theorem dX11_made_28 : decode cX11_made 28 = .ok (.getfield 21, 3) := by decide +kernel
theorem dX11_made_31 : decode cX11_made 31 = .ok (.invokevirtual 162, 3) := by decide +kernel
theorem dX11_made_34 : decode cX11_made 34 = .ok (.if_icmp .ge 37, 3) := by decide +kernel
theorem dX11_made_37 : decode cX11_made 37 = .ok (.aload_n 0, 1) := by decide +kernel
theorem dX11_made_38 : decode cX11_made 38 = .ok (.getfield 21, 3) := by decide +kernel
theorem dX11_made_41 : decode cX11_made 41 = .ok (.iload_n 1, 1) := by decide +kernel
theorem dX11_made_42 : decode cX11_made 42 = .ok (.invokevirtual 181, 3) := by decide +kernel
theorem dX11_made_45 : decode cX11_made 45 = .ok (.aload_n 0, 1) := by decide +kernel
theorem dX11_made_46 : decode cX11_made 46 = .ok (.getfield 21, 3) := by decide +kernel
theorem dX11_made_49 : decode cX11_made 49 = .ok (.invokevirtual 204, 3) := by decide +kernel
theorem dX11_made_52 : decode cX11_made 52 = .ok (.ifCond .eq 5, 3) := by decide +kernel
theorem dX11_made_55 : decode cX11_made 55 = .ok (.iload_n 1, 1) := by decide +kernel
theorem dX11_made_56 : decode cX11_made 56 = .ok (.ireturn, 1) := by decide +kernel
theorem dX11_made_57 : decode cX11_made 57 = .ok (.aload_n 0, 1) := by decide +kernel
theorem dX11_made_58 : decode cX11_made 58 = .ok (.getfield 21, 3) := by decide +kernel
theorem dX11_made_61 : decode cX11_made 61 = .ok (.iload_n 1, 1) := by decide +kernel
theorem dX11_made_62 : decode cX11_made 62 = .ok (.invokevirtual 181, 3) := by decide +kernel
theorem dX11_made_65 : decode cX11_made 65 = .ok (.iinc 1 1, 3) := by decide +kernel
theorem dX11_made_68 : decode cX11_made 68 = .ok (.goto (-42), 3) := by decide +kernel
theorem dX11_made_71 : decode cX11_made 71 = .ok (.bipush (-5), 2) := by decide +kernel
theorem dX11_made_73 : decode cX11_made 73 = .ok (.ireturn, 1) := by decide +kernel
theorem dX11_far_0 : decode cX11_far 0 = .ok (.aload_n 0, 1) := by decide +kernel
theorem dX11_far_1 : decode cX11_far 1 = .ok (.getfield 12, 3) := by decide +kernel
theorem dX11_far_4 : decode cX11_far 4 = .ok (.iload_n 1, 1) := by decide +kernel
theorem dX11_far_5 : decode cX11_far 5 = .ok (.invokevirtual 201, 3) := by decide +kernel
theorem dX11_far_8 : decode cX11_far 8 = .ok (.ifCond .eq 14, 3) := by decide +kernel
theorem dX11_far_11 : decode cX11_far 11 = .ok (.aload_n 0, 1) := by decide +kernel
theorem dX11_far_12 : decode cX11_far 12 = .ok (.getfield 12, 3) := by decide +kernel
theorem dX11_far_15 : decode cX11_far 15 = .ok (.iload_n 2, 1) := by decide +kernel
theorem dX11_far_16 : decode cX11_far 16 = .ok (.invokevirtual 201, 3) := by decide +kernel
theorem dX11_far_19 : decode cX11_far 19 = .ok (.ifCond .ne 5, 3) := by decide +kernel
theorem dX11_far_22 : decode cX11_far 22 = .ok (.iconst (-1), 1) := by decide +kernel
theorem dX11_far_23 : decode cX11_far 23 = .ok (.ireturn, 1) := by decide +kernel
theorem dX11_far_24 : decode cX11_far 24 = .ok (.iconst 1, 1) := by decide +kernel
theorem dX11_far_25 : decode cX11_far 25 = .ok (.iload_n 1, 1) := by decide +kernel
theorem dX11_far_26 : decode cX11_far 26 = .ok (.ishl, 1) := by decide +kernel
theorem dX11_far_27 : decode cX11_far 27 = .ok (.istore_n 3, 1) := by decide +kernel
theorem dX11_far_28 : decode cX11_far 28 = .ok (.iconst 0, 1) := by decide +kernel
theorem dX11_far_29 : decode cX11_far 29 = .ok (.istore 4, 2) := by decide +kernel
theorem dX11_far_31 : decode cX11_far 31 = .ok (.iload 4, 2) := by decide +kernel
theorem dX11_far_33 : decode cX11_far 33 = .ok (.bipush 6, 2) := by decide +kernel
theorem dX11_far_35 : decode cX11_far 35 = .ok (.if_icmp .ge 29, 3) := by decide +kernel
theorem dX11_far_38 : decode cX11_far 38 = .ok (.iload_n 3, 1) := by decide +kernel
theorem dX11_far_39 : decode cX11_far 39 = .ok (.iload_n 2, 1) := by decide +kernel
theorem dX11_far_40 : decode cX11_far 40 = .ok (.invokestatic 198, 3) := by decide +kernel
theorem dX11_far_43 : decode cX11_far 43 = .ok (.ifCond .eq 6, 3) := by decide +kernel
theorem dX11_far_46 : decode cX11_far 46 = .ok (.iload 4, 2) := by decide +kernel
theorem dX11_far_48 : decode cX11_far 48 = .ok (.ireturn, 1) := by decide +kernel
theorem dX11_far_49 : decode cX11_far 49 = .ok (.aload_n 0, 1) := by decide +kernel
theorem dX11_far_50 : decode cX11_far 50 = .ok (.getfield 12, 3) := by decide +kernel
theorem dX11_far_53 : decode cX11_far 53 = .ok (.iload_n 3, 1) := by decide +kernel
theorem dX11_far_54 : decode cX11_far 54 = .ok (.invokevirtual 208, 3) := by decide +kernel
theorem dX11_far_57 : decode cX11_far 57 = .ok (.istore_n 3, 1) := by decide +kernel
theorem dX11_far_58 : decode cX11_far 58 = .ok (.iinc 4 1, 3) := by decide +kernel
theorem dX11_far_61 : decode cX11_far 61 = .ok (.goto (-30), 3) := by decide +kernel
theorem dX11_far_64 : decode cX11_far 64 = .ok (.bipush (-5), 2) := by decide +kernel
theorem dX11_far_66 : decode cX11_far 66 = .ok (.ireturn, 1) := by decide +kernel
theorem dX11_towns_0 : decode cX11_towns 0 = .ok (.iload_n 1, 1) := by decide +kernel
theorem dX11_towns_1 : decode cX11_towns 1 = .ok (.iconst 2, 1) := by decide +kernel
theorem dX11_towns_2 : decode cX11_towns 2 = .ok (.if_icmp .lt 17, 3) := by decide +kernel
theorem dX11_towns_5 : decode cX11_towns 5 = .ok (.iload_n 1, 1) := by decide +kernel
theorem dX11_towns_6 : decode cX11_towns 6 = .ok (.iconst 5, 1) := by decide +kernel
theorem dX11_towns_7 : decode cX11_towns 7 = .ok (.if_icmp .gt 12, 3) := by decide +kernel
theorem dX11_towns_10 : decode cX11_towns 10 = .ok (.iload_n 2, 1) := by decide +kernel
theorem dX11_towns_11 : decode cX11_towns 11 = .ok (.ifCond .lt 8, 3) := by decide +kernel
theorem dX11_towns_14 : decode cX11_towns 14 = .ok (.iload_n 2, 1) := by decide +kernel
theorem dX11_towns_15 : decode cX11_towns 15 = .ok (.iconst 3, 1) := by decide +kernel
theorem dX11_towns_16 : decode cX11_towns 16 = .ok (.if_icmp .le 6, 3) := by decide +kernel
theorem dX11_towns_19 : decode cX11_towns 19 = .ok (.bipush (-2), 2) := by decide +kernel
theorem dX11_towns_21 : decode cX11_towns 21 = .ok (.ireturn, 1) := by decide +kernel
theorem dX11_towns_22 : decode cX11_towns 22 = .ok (.iload_n 1, 1) := by decide +kernel
theorem dX11_towns_23 : decode cX11_towns 23 = .ok (.iload_n 1, 1) := by decide +kernel
theorem dX11_towns_24 : decode cX11_towns 24 = .ok (.iconst 1, 1) := by decide +kernel
theorem dX11_towns_25 : decode cX11_towns 25 = .ok (.isub, 1) := by decide +kernel
theorem dX11_towns_26 : decode cX11_towns 26 = .ok (.imul, 1) := by decide +kernel
theorem dX11_towns_27 : decode cX11_towns 27 = .ok (.iconst 2, 1) := by decide +kernel
theorem dX11_towns_28 : decode cX11_towns 28 = .ok (.idiv, 1) := by decide +kernel
theorem dX11_towns_29 : decode cX11_towns 29 = .ok (.istore_n 3, 1) := by decide +kernel
theorem dX11_towns_30 : decode cX11_towns 30 = .ok (.iconst 0, 1) := by decide +kernel
theorem dX11_towns_31 : decode cX11_towns 31 = .ok (.istore 4, 2) := by decide +kernel
theorem dX11_towns_33 : decode cX11_towns 33 = .ok (.iconst 0, 1) := by decide +kernel
theorem dX11_towns_34 : decode cX11_towns 34 = .ok (.istore 5, 2) := by decide +kernel
theorem dX11_towns_36 : decode cX11_towns 36 = .ok (.iload 5, 2) := by decide +kernel
theorem dX11_towns_38 : decode cX11_towns 38 = .ok (.iconst 1, 1) := by decide +kernel
theorem dX11_towns_39 : decode cX11_towns 39 = .ok (.iload_n 3, 1) := by decide +kernel
theorem dX11_towns_40 : decode cX11_towns 40 = .ok (.ishl, 1) := by decide +kernel
theorem dX11_towns_41 : decode cX11_towns 41 = .ok (.if_icmp .ge 34, 3) := by decide +kernel
theorem dX11_towns_44 : decode cX11_towns 44 = .ok (.aload_n 0, 1) := by decide +kernel
theorem dX11_towns_45 : decode cX11_towns 45 = .ok (.getfield 21, 3) := by decide +kernel
theorem dX11_towns_48 : decode cX11_towns 48 = .ok (.iload 5, 2) := by decide +kernel
theorem dX11_towns_50 : decode cX11_towns 50 = .ok (.iload_n 3, 1) := by decide +kernel
theorem dX11_towns_51 : decode cX11_towns 51 = .ok (.invokevirtual 211, 3) := by decide +kernel
theorem dX11_towns_54 : decode cX11_towns 54 = .ok (.aload_n 0, 1) := by decide +kernel
theorem dX11_towns_55 : decode cX11_towns 55 = .ok (.getfield 21, 3) := by decide +kernel
theorem dX11_towns_58 : decode cX11_towns 58 = .ok (.iload_n 2, 1) := by decide +kernel
theorem dX11_towns_59 : decode cX11_towns 59 = .ok (.iload_n 3, 1) := by decide +kernel
theorem dX11_towns_60 : decode cX11_towns 60 = .ok (.invokevirtual 215, 3) := by decide +kernel
theorem dX11_towns_63 : decode cX11_towns 63 = .ok (.ifCond .eq 6, 3) := by decide +kernel
theorem dX11_towns_66 : decode cX11_towns 66 = .ok (.iinc 4 1, 3) := by decide +kernel
theorem dX11_towns_69 : decode cX11_towns 69 = .ok (.iinc 5 1, 3) := by decide +kernel
theorem dX11_towns_72 : decode cX11_towns 72 = .ok (.goto (-36), 3) := by decide +kernel
theorem dX11_towns_75 : decode cX11_towns 75 = .ok (.iload 4, 2) := by decide +kernel
theorem dX11_towns_77 : decode cX11_towns 77 = .ok (.ireturn, 1) := by decide +kernel
theorem dX11_next_0 : decode cX11_next 0 = .ok (.iload_n 2, 1) := by decide +kernel
theorem dX11_next_1 : decode cX11_next 1 = .ok (.ifCond .lt 8, 3) := by decide +kernel
theorem dX11_next_4 : decode cX11_next 4 = .ok (.iload_n 2, 1) := by decide +kernel
theorem dX11_next_5 : decode cX11_next 5 = .ok (.iconst 1, 1) := by decide +kernel
theorem dX11_next_6 : decode cX11_next 6 = .ok (.if_icmp .le 5, 3) := by decide +kernel
theorem dX11_next_9 : decode cX11_next 9 = .ok (.iconst (-1), 1) := by decide +kernel
theorem dX11_next_10 : decode cX11_next 10 = .ok (.ireturn, 1) := by decide +kernel
theorem dX11_next_11 : decode cX11_next 11 = .ok (.iload_n 1, 1) := by decide +kernel
theorem dX11_next_12 : decode cX11_next 12 = .ok (.ifCond .lt 9, 3) := by decide +kernel
theorem dX11_next_15 : decode cX11_next 15 = .ok (.iload_n 1, 1) := by decide +kernel
theorem dX11_next_16 : decode cX11_next 16 = .ok (.bipush 60, 2) := by decide +kernel
theorem dX11_next_18 : decode cX11_next 18 = .ok (.if_icmp .le 6, 3) := by decide +kernel
theorem dX11_next_21 : decode cX11_next 21 = .ok (.bipush (-2), 2) := by decide +kernel
theorem dX11_next_23 : decode cX11_next 23 = .ok (.ireturn, 1) := by decide +kernel
theorem dX11_next_24 : decode cX11_next 24 = .ok (.aload_n 0, 1) := by decide +kernel
theorem dX11_next_25 : decode cX11_next 25 = .ok (.getfield 21, 3) := by decide +kernel
theorem dX11_next_28 : decode cX11_next 28 = .ok (.aload_n 0, 1) := by decide +kernel
theorem dX11_next_29 : decode cX11_next 29 = .ok (.getfield 12, 3) := by decide +kernel
theorem dX11_next_32 : decode cX11_next 32 = .ok (.invokevirtual 177, 3) := by decide +kernel
theorem dX11_next_35 : decode cX11_next 35 = .ok (.iconst 0, 1) := by decide +kernel
theorem dX11_next_36 : decode cX11_next 36 = .ok (.istore_n 3, 1) := by decide +kernel
theorem dX11_next_37 : decode cX11_next 37 = .ok (.aload_n 0, 1) := by decide +kernel
theorem dX11_next_38 : decode cX11_next 38 = .ok (.getfield 21, 3) := by decide +kernel
theorem dX11_next_41 : decode cX11_next 41 = .ok (.invokevirtual 168, 3) := by decide +kernel
theorem dX11_next_44 : decode cX11_next 44 = .ok (.istore 4, 2) := by decide +kernel
theorem dX11_next_46 : decode cX11_next 46 = .ok (.iconst 1, 1) := by decide +kernel
theorem dX11_next_47 : decode cX11_next 47 = .ok (.istore 5, 2) := by decide +kernel
theorem dX11_next_49 : decode cX11_next 49 = .ok (.iload 5, 2) := by decide +kernel
theorem dX11_next_51 : decode cX11_next 51 = .ok (.iload_n 1, 1) := by decide +kernel
theorem dX11_next_52 : decode cX11_next 52 = .ok (.if_icmp .gt 49, 3) := by decide +kernel
theorem dX11_next_55 : decode cX11_next 55 = .ok (.aload_n 0, 1) := by decide +kernel
theorem dX11_next_56 : decode cX11_next 56 = .ok (.getfield 21, 3) := by decide +kernel
theorem dX11_next_59 : decode cX11_next 59 = .ok (.aload_n 0, 1) := by decide +kernel
theorem dX11_next_60 : decode cX11_next 60 = .ok (.getfield 12, 3) := by decide +kernel
theorem dX11_next_63 : decode cX11_next 63 = .ok (.getfield 159, 3) := by decide +kernel
theorem dX11_next_66 : decode cX11_next 66 = .ok (.iload 5, 2) := by decide +kernel
theorem dX11_next_68 : decode cX11_next 68 = .ok (.iadd, 1) := by decide +kernel
theorem dX11_next_69 : decode cX11_next 69 = .ok (.putfield 159, 3) := by decide +kernel
theorem dX11_next_72 : decode cX11_next 72 = .ok (.aload_n 0, 1) := by decide +kernel
theorem dX11_next_73 : decode cX11_next 73 = .ok (.getfield 21, 3) := by decide +kernel
theorem dX11_next_76 : decode cX11_next 76 = .ok (.invokevirtual 168, 3) := by decide +kernel
theorem dX11_next_79 : decode cX11_next 79 = .ok (.istore 6, 2) := by decide +kernel
theorem dX11_next_81 : decode cX11_next 81 = .ok (.iload 6, 2) := by decide +kernel
theorem dX11_next_83 : decode cX11_next 83 = .ok (.iload 4, 2) := by decide +kernel
theorem dX11_next_85 : decode cX11_next 85 = .ok (.if_icmp .ge 10, 3) := by decide +kernel
theorem dX11_next_88 : decode cX11_next 88 = .ok (.iload 5, 2) := by decide +kernel
theorem dX11_next_90 : decode cX11_next 90 = .ok (.istore_n 3, 1) := by decide +kernel
theorem dX11_next_91 : decode cX11_next 91 = .ok (.iload 6, 2) := by decide +kernel
theorem dX11_next_93 : decode cX11_next 93 = .ok (.istore 4, 2) := by decide +kernel
theorem dX11_next_95 : decode cX11_next 95 = .ok (.iinc 5 1, 3) := by decide +kernel
theorem dX11_next_98 : decode cX11_next 98 = .ok (.goto (-49), 3) := by decide +kernel
theorem dX11_next_101 : decode cX11_next 101 = .ok (.iload_n 2, 1) := by decide +kernel
theorem dX11_next_102 : decode cX11_next 102 = .ok (.ifCond .ne 7, 3) := by decide +kernel
theorem dX11_next_105 : decode cX11_next 105 = .ok (.iload_n 3, 1) := by decide +kernel
theorem dX11_next_106 : decode cX11_next 106 = .ok (.goto 5, 3) := by decide +kernel
theorem dX11_next_109 : decode cX11_next 109 = .ok (.iload 4, 2) := by decide +kernel
theorem dX11_next_111 : decode cX11_next 111 = .ok (.ireturn, 1) := by decide +kernel
theorem dX11_odds_0 : decode cX11_odds 0 = .ok (.iconst 0, 1) := by decide +kernel
theorem dX11_odds_1 : decode cX11_odds 1 = .ok (.istore_n 2, 1) := by decide +kernel
theorem dX11_odds_2 : decode cX11_odds 2 = .ok (.aload_n 0, 1) := by decide +kernel
theorem dX11_odds_3 : decode cX11_odds 3 = .ok (.getfield 21, 3) := by decide +kernel
theorem dX11_odds_6 : decode cX11_odds 6 = .ok (.aload_n 0, 1) := by decide +kernel
theorem dX11_odds_7 : decode cX11_odds 7 = .ok (.getfield 12, 3) := by decide +kernel
theorem dX11_odds_10 : decode cX11_odds 10 = .ok (.invokevirtual 177, 3) := by decide +kernel
theorem dX11_odds_13 : decode cX11_odds 13 = .ok (.iconst 0, 1) := by decide +kernel
theorem dX11_odds_14 : decode cX11_odds 14 = .ok (.istore_n 3, 1) := by decide +kernel
theorem dX11_odds_15 : decode cX11_odds 15 = .ok (.iload_n 3, 1) := by decide +kernel
theorem dX11_odds_16 : decode cX11_odds 16 = .ok (.aload_n 0, 1) := by decide +kernel
theorem dX11_odds_17 : decode cX11_odds 17 = .ok (.getfield 21, 3) := by decide +kernel
theorem dX11_odds_20 : decode cX11_odds 20 = .ok (.invokevirtual 162, 3) := by decide +kernel
theorem dX11_odds_23 : decode cX11_odds 23 = .ok (.if_icmp .ge 49, 3) := by decide +kernel
theorem dX11_odds_26 : decode cX11_odds 26 = .ok (.aload_n 0, 1) := by decide +kernel
theorem dX11_odds_27 : decode cX11_odds 27 = .ok (.getfield 21, 3) := by decide +kernel
theorem dX11_odds_30 : decode cX11_odds 30 = .ok (.iload_n 3, 1) := by decide +kernel
theorem dX11_odds_31 : decode cX11_odds 31 = .ok (.invokevirtual 121, 3) := by decide +kernel
theorem dX11_odds_34 : decode cX11_odds 34 = .ok (.ifCond .eq 32, 3) := by decide +kernel
theorem dX11_odds_37 : decode cX11_odds 37 = .ok (.aload_n 0, 1) := by decide +kernel
theorem dX11_odds_38 : decode cX11_odds 38 = .ok (.getfield 21, 3) := by decide +kernel
theorem dX11_odds_41 : decode cX11_odds 41 = .ok (.iload_n 3, 1) := by decide +kernel
theorem dX11_odds_42 : decode cX11_odds 42 = .ok (.invokevirtual 181, 3) := by decide +kernel
theorem dX11_odds_45 : decode cX11_odds 45 = .ok (.aload_n 0, 1) := by decide +kernel
theorem dX11_odds_46 : decode cX11_odds 46 = .ok (.getfield 21, 3) := by decide +kernel
theorem dX11_odds_49 : decode cX11_odds 49 = .ok (.invokevirtual 218, 3) := by decide +kernel
theorem dX11_odds_52 : decode cX11_odds 52 = .ok (.ifCond .eq 6, 3) := by decide +kernel
theorem dX11_odds_55 : decode cX11_odds 55 = .ok (.iinc 2 1, 3) := by decide +kernel
theorem dX11_odds_58 : decode cX11_odds 58 = .ok (.aload_n 0, 1) := by decide +kernel
theorem dX11_odds_59 : decode cX11_odds 59 = .ok (.getfield 21, 3) := by decide +kernel
theorem dX11_odds_62 : decode cX11_odds 62 = .ok (.iload_n 3, 1) := by decide +kernel
theorem dX11_odds_63 : decode cX11_odds 63 = .ok (.invokevirtual 181, 3) := by decide +kernel
theorem dX11_odds_66 : decode cX11_odds 66 = .ok (.iinc 3 1, 3) := by decide +kernel
theorem dX11_odds_69 : decode cX11_odds 69 = .ok (.goto (-54), 3) := by decide +kernel
theorem dX11_odds_72 : decode cX11_odds 72 = .ok (.iload_n 2, 1) := by decide +kernel
theorem dX11_odds_73 : decode cX11_odds 73 = .ok (.aload_n 0, 1) := by decide +kernel
theorem dX11_odds_74 : decode cX11_odds 74 = .ok (.getfield 12, 3) := by decide +kernel
theorem dX11_odds_77 : decode cX11_odds 77 = .ok (.invokevirtual 165, 3) := by decide +kernel
theorem dX11_odds_80 : decode cX11_odds 80 = .ok (.iload_n 1, 1) := by decide +kernel
theorem dX11_odds_81 : decode cX11_odds 81 = .ok (.invokestatic 221, 3) := by decide +kernel
theorem dX11_odds_84 : decode cX11_odds 84 = .ok (.lreturn, 1) := by decide +kernel
theorem dX11_mean_0 : decode cX11_mean 0 = .ok (.iconst 0, 1) := by decide +kernel
theorem dX11_mean_1 : decode cX11_mean 1 = .ok (.istore_n 2, 1) := by decide +kernel
theorem dX11_mean_2 : decode cX11_mean 2 = .ok (.iconst 0, 1) := by decide +kernel
theorem dX11_mean_3 : decode cX11_mean 3 = .ok (.istore_n 3, 1) := by decide +kernel
theorem dX11_mean_4 : decode cX11_mean 4 = .ok (.iload_n 3, 1) := by decide +kernel
theorem dX11_mean_5 : decode cX11_mean 5 = .ok (.aload_n 0, 1) := by decide +kernel
theorem dX11_mean_6 : decode cX11_mean 6 = .ok (.getfield 12, 3) := by decide +kernel
theorem dX11_mean_9 : decode cX11_mean 9 = .ok (.invokevirtual 162, 3) := by decide +kernel
theorem dX11_mean_12 : decode cX11_mean 12 = .ok (.if_icmp .ge 20, 3) := by decide +kernel
theorem dX11_mean_15 : decode cX11_mean 15 = .ok (.iload_n 2, 1) := by decide +kernel
theorem dX11_mean_16 : decode cX11_mean 16 = .ok (.aload_n 0, 1) := by decide +kernel
theorem dX11_mean_17 : decode cX11_mean 17 = .ok (.getfield 12, 3) := by decide +kernel
theorem dX11_mean_20 : decode cX11_mean 20 = .ok (.iload_n 3, 1) := by decide +kernel
theorem dX11_mean_21 : decode cX11_mean 21 = .ok (.invokevirtual 124, 3) := by decide +kernel
theorem dX11_mean_24 : decode cX11_mean 24 = .ok (.iadd, 1) := by decide +kernel
theorem dX11_mean_25 : decode cX11_mean 25 = .ok (.istore_n 2, 1) := by decide +kernel
theorem dX11_mean_26 : decode cX11_mean 26 = .ok (.iinc 3 1, 3) := by decide +kernel
theorem dX11_mean_29 : decode cX11_mean 29 = .ok (.goto (-25), 3) := by decide +kernel
theorem dX11_mean_32 : decode cX11_mean 32 = .ok (.iload_n 2, 1) := by decide +kernel
theorem dX11_mean_33 : decode cX11_mean 33 = .ok (.aload_n 0, 1) := by decide +kernel
theorem dX11_mean_34 : decode cX11_mean 34 = .ok (.getfield 12, 3) := by decide +kernel
theorem dX11_mean_37 : decode cX11_mean 37 = .ok (.invokevirtual 162, 3) := by decide +kernel
theorem dX11_mean_40 : decode cX11_mean 40 = .ok (.iload_n 1, 1) := by decide +kernel
theorem dX11_mean_41 : decode cX11_mean 41 = .ok (.invokestatic 221, 3) := by decide +kernel
theorem dX11_mean_44 : decode cX11_mean 44 = .ok (.lreturn, 1) := by decide +kernel
theorem dX11_wish_0 : decode cX11_wish 0 = .ok (.iload_n 1, 1) := by decide +kernel
theorem dX11_wish_1 : decode cX11_wish 1 = .ok (.iconst (-1), 1) := by decide +kernel
theorem dX11_wish_2 : decode cX11_wish 2 = .ok (.if_icmp .ne 13, 3) := by decide +kernel
theorem dX11_wish_5 : decode cX11_wish 5 = .ok (.aload_n 0, 1) := by decide +kernel
theorem dX11_wish_6 : decode cX11_wish 6 = .ok (.getfield 12, 3) := by decide +kernel
theorem dX11_wish_9 : decode cX11_wish 9 = .ok (.iconst 0, 1) := by decide +kernel
theorem dX11_wish_10 : decode cX11_wish 10 = .ok (.putfield 225, 3) := by decide +kernel
theorem dX11_wish_13 : decode cX11_wish 13 = .ok (.iconst 0, 1) := by decide +kernel
theorem dX11_wish_14 : decode cX11_wish 14 = .ok (.ireturn, 1) := by decide +kernel
theorem dX11_wish_15 : decode cX11_wish 15 = .ok (.aload_n 0, 1) := by decide +kernel
theorem dX11_wish_16 : decode cX11_wish 16 = .ok (.getfield 12, 3) := by decide +kernel
theorem dX11_wish_19 : decode cX11_wish 19 = .ok (.iload_n 1, 1) := by decide +kernel
theorem dX11_wish_20 : decode cX11_wish 20 = .ok (.invokevirtual 117, 3) := by decide +kernel
theorem dX11_wish_23 : decode cX11_wish 23 = .ok (.ifCond .ne 5, 3) := by decide +kernel
theorem dX11_wish_26 : decode cX11_wish 26 = .ok (.iconst (-1), 1) := by decide +kernel
theorem dX11_wish_27 : decode cX11_wish 27 = .ok (.ireturn, 1) := by decide +kernel
theorem dX11_wish_28 : decode cX11_wish 28 = .ok (.aload_n 0, 1) := by decide +kernel
theorem dX11_wish_29 : decode cX11_wish 29 = .ok (.getfield 12, 3) := by decide +kernel
theorem dX11_wish_32 : decode cX11_wish 32 = .ok (.getfield 225, 3) := by decide +kernel
theorem dX11_wish_35 : decode cX11_wish 35 = .ok (.bipush 6, 2) := by decide +kernel
theorem dX11_wish_37 : decode cX11_wish 37 = .ok (.if_icmp .lt 6, 3) := by decide +kernel
theorem dX11_wish_40 : decode cX11_wish 40 = .ok (.bipush (-4), 2) := by decide +kernel
theorem dX11_wish_42 : decode cX11_wish 42 = .ok (.ireturn, 1) := by decide +kernel
theorem dX11_wish_43 : decode cX11_wish 43 = .ok (.aload_n 0, 1) := by decide +kernel
theorem dX11_wish_44 : decode cX11_wish 44 = .ok (.getfield 12, 3) := by decide +kernel
theorem dX11_wish_47 : decode cX11_wish 47 = .ok (.getfield 228, 3) := by decide +kernel
theorem dX11_wish_50 : decode cX11_wish 50 = .ok (.aload_n 0, 1) := by decide +kernel
theorem dX11_wish_51 : decode cX11_wish 51 = .ok (.getfield 12, 3) := by decide +kernel
theorem dX11_wish_54 : decode cX11_wish 54 = .ok (.getfield 225, 3) := by decide +kernel
theorem dX11_wish_57 : decode cX11_wish 57 = .ok (.iload_n 1, 1) := by decide +kernel
theorem dX11_wish_58 : decode cX11_wish 58 = .ok (.iastore, 1) := by decide +kernel
theorem dX11_wish_59 : decode cX11_wish 59 = .ok (.aload_n 0, 1) := by decide +kernel
theorem dX11_wish_60 : decode cX11_wish 60 = .ok (.getfield 12, 3) := by decide +kernel
theorem dX11_wish_63 : decode cX11_wish 63 = .ok (.getfield 231, 3) := by decide +kernel
theorem dX11_wish_66 : decode cX11_wish 66 = .ok (.aload_n 0, 1) := by decide +kernel
theorem dX11_wish_67 : decode cX11_wish 67 = .ok (.getfield 12, 3) := by decide +kernel
theorem dX11_wish_70 : decode cX11_wish 70 = .ok (.getfield 225, 3) := by decide +kernel
theorem dX11_wish_73 : decode cX11_wish 73 = .ok (.iload_n 2, 1) := by decide +kernel
theorem dX11_wish_74 : decode cX11_wish 74 = .ok (.invokestatic 101, 3) := by decide +kernel
theorem dX11_wish_77 : decode cX11_wish 77 = .ok (.iastore, 1) := by decide +kernel
theorem dX11_wish_78 : decode cX11_wish 78 = .ok (.aload_n 0, 1) := by decide +kernel
theorem dX11_wish_79 : decode cX11_wish 79 = .ok (.getfield 12, 3) := by decide +kernel
theorem dX11_wish_82 : decode cX11_wish 82 = .ok (.dup, 1) := by decide +kernel
theorem dX11_wish_83 : decode cX11_wish 83 = .ok (.getfield 225, 3) := by decide +kernel
theorem dX11_wish_86 : decode cX11_wish 86 = .ok (.iconst 1, 1) := by decide +kernel
theorem dX11_wish_87 : decode cX11_wish 87 = .ok (.iadd, 1) := by decide +kernel
theorem dX11_wish_88 : decode cX11_wish 88 = .ok (.putfield 225, 3) := by decide +kernel
theorem dX11_wish_91 : decode cX11_wish 91 = .ok (.aload_n 0, 1) := by decide +kernel
theorem dX11_wish_92 : decode cX11_wish 92 = .ok (.getfield 12, 3) := by decide +kernel
theorem dX11_wish_95 : decode cX11_wish 95 = .ok (.getfield 225, 3) := by decide +kernel
theorem dX11_wish_98 : decode cX11_wish 98 = .ok (.ireturn, 1) := by decide +kernel
theorem dX11_kept_0 : decode cX11_kept 0 = .ok (.iload_n 1, 1) := by decide +kernel
theorem dX11_kept_1 : decode cX11_kept 1 = .ok (.ifCond .lt 8, 3) := by decide +kernel
theorem dX11_kept_4 : decode cX11_kept 4 = .ok (.iload_n 1, 1) := by decide +kernel
theorem dX11_kept_5 : decode cX11_kept 5 = .ok (.iconst 1, 1) := by decide +kernel
theorem dX11_kept_6 : decode cX11_kept 6 = .ok (.if_icmp .le 5, 3) := by decide +kernel
theorem dX11_kept_9 : decode cX11_kept 9 = .ok (.iconst (-1), 1) := by decide +kernel
theorem dX11_kept_10 : decode cX11_kept 10 = .ok (.ireturn, 1) := by decide +kernel
theorem dX11_kept_11 : decode cX11_kept 11 = .ok (.iconst 0, 1) := by decide +kernel
theorem dX11_kept_12 : decode cX11_kept 12 = .ok (.istore_n 2, 1) := by decide +kernel
theorem dX11_kept_13 : decode cX11_kept 13 = .ok (.iconst 0, 1) := by decide +kernel
theorem dX11_kept_14 : decode cX11_kept 14 = .ok (.istore_n 3, 1) := by decide +kernel
theorem dX11_kept_15 : decode cX11_kept 15 = .ok (.iconst 0, 1) := by decide +kernel
theorem dX11_kept_16 : decode cX11_kept 16 = .ok (.istore 4, 2) := by decide +kernel
theorem dX11_kept_18 : decode cX11_kept 18 = .ok (.iload 4, 2) := by decide +kernel
theorem dX11_kept_20 : decode cX11_kept 20 = .ok (.aload_n 0, 1) := by decide +kernel
theorem dX11_kept_21 : decode cX11_kept 21 = .ok (.getfield 12, 3) := by decide +kernel
theorem dX11_kept_24 : decode cX11_kept 24 = .ok (.getfield 225, 3) := by decide +kernel
theorem dX11_kept_27 : decode cX11_kept 27 = .ok (.if_icmp .ge 64, 3) := by decide +kernel
theorem dX11_kept_30 : decode cX11_kept 30 = .ok (.aload_n 0, 1) := by decide +kernel
theorem dX11_kept_31 : decode cX11_kept 31 = .ok (.getfield 12, 3) := by decide +kernel
theorem dX11_kept_34 : decode cX11_kept 34 = .ok (.getfield 228, 3) := by decide +kernel
theorem dX11_kept_37 : decode cX11_kept 37 = .ok (.iload 4, 2) := by decide +kernel
theorem dX11_kept_39 : decode cX11_kept 39 = .ok (.iaload, 1) := by decide +kernel
theorem dX11_kept_40 : decode cX11_kept 40 = .ok (.istore 5, 2) := by decide +kernel
theorem dX11_kept_42 : decode cX11_kept 42 = .ok (.aload_n 0, 1) := by decide +kernel
theorem dX11_kept_43 : decode cX11_kept 43 = .ok (.getfield 12, 3) := by decide +kernel
theorem dX11_kept_46 : decode cX11_kept 46 = .ok (.iload 5, 2) := by decide +kernel
theorem dX11_kept_48 : decode cX11_kept 48 = .ok (.invokevirtual 121, 3) := by decide +kernel
theorem dX11_kept_51 : decode cX11_kept 51 = .ok (.invokestatic 101, 3) := by decide +kernel
theorem dX11_kept_54 : decode cX11_kept 54 = .ok (.aload_n 0, 1) := by decide +kernel
theorem dX11_kept_55 : decode cX11_kept 55 = .ok (.getfield 12, 3) := by decide +kernel
theorem dX11_kept_58 : decode cX11_kept 58 = .ok (.getfield 231, 3) := by decide +kernel
theorem dX11_kept_61 : decode cX11_kept 61 = .ok (.iload 4, 2) := by decide +kernel
theorem dX11_kept_63 : decode cX11_kept 63 = .ok (.iaload, 1) := by decide +kernel
theorem dX11_kept_64 : decode cX11_kept 64 = .ok (.if_icmp .ne 9, 3) := by decide +kernel
theorem dX11_kept_67 : decode cX11_kept 67 = .ok (.iinc 2 1, 3) := by decide +kernel
theorem dX11_kept_70 : decode cX11_kept 70 = .ok (.goto 15, 3) := by decide +kernel
theorem dX11_kept_73 : decode cX11_kept 73 = .ok (.iload_n 3, 1) := by decide +kernel
theorem dX11_kept_74 : decode cX11_kept 74 = .ok (.aload_n 0, 1) := by decide +kernel
theorem dX11_kept_75 : decode cX11_kept 75 = .ok (.getfield 12, 3) := by decide +kernel
theorem dX11_kept_78 : decode cX11_kept 78 = .ok (.iload 5, 2) := by decide +kernel
theorem dX11_kept_80 : decode cX11_kept 80 = .ok (.invokevirtual 131, 3) := by decide +kernel
theorem dX11_kept_83 : decode cX11_kept 83 = .ok (.iadd, 1) := by decide +kernel
theorem dX11_kept_84 : decode cX11_kept 84 = .ok (.istore_n 3, 1) := by decide +kernel
theorem dX11_kept_85 : decode cX11_kept 85 = .ok (.iinc 4 1, 3) := by decide +kernel
theorem dX11_kept_88 : decode cX11_kept 88 = .ok (.goto (-70), 3) := by decide +kernel
theorem dX11_kept_91 : decode cX11_kept 91 = .ok (.iload_n 1, 1) := by decide +kernel
theorem dX11_kept_92 : decode cX11_kept 92 = .ok (.ifCond .ne 7, 3) := by decide +kernel
theorem dX11_kept_95 : decode cX11_kept 95 = .ok (.iload_n 2, 1) := by decide +kernel
theorem dX11_kept_96 : decode cX11_kept 96 = .ok (.goto 4, 3) := by decide +kernel
theorem dX11_kept_99 : decode cX11_kept 99 = .ok (.iload_n 3, 1) := by decide +kernel
theorem dX11_kept_100 : decode cX11_kept 100 = .ok (.ireturn, 1) := by decide +kernel
theorem dX11_book_0 : decode cX11_book 0 = .ok (.iload_n 1, 1) := by decide +kernel
theorem dX11_book_1 : decode cX11_book 1 = .ok (.iconst (-1), 1) := by decide +kernel
theorem dX11_book_2 : decode cX11_book 2 = .ok (.if_icmp .ne 13, 3) := by decide +kernel
theorem dX11_book_5 : decode cX11_book 5 = .ok (.aload_n 0, 1) := by decide +kernel
theorem dX11_book_6 : decode cX11_book 6 = .ok (.getfield 12, 3) := by decide +kernel
theorem dX11_book_9 : decode cX11_book 9 = .ok (.iconst 0, 1) := by decide +kernel
theorem dX11_book_10 : decode cX11_book 10 = .ok (.putfield 234, 3) := by decide +kernel
theorem dX11_book_13 : decode cX11_book 13 = .ok (.iconst 0, 1) := by decide +kernel
theorem dX11_book_14 : decode cX11_book 14 = .ok (.ireturn, 1) := by decide +kernel
theorem dX11_book_15 : decode cX11_book 15 = .ok (.aload_n 0, 1) := by decide +kernel
theorem dX11_book_16 : decode cX11_book 16 = .ok (.getfield 12, 3) := by decide +kernel
theorem dX11_book_19 : decode cX11_book 19 = .ok (.iload_n 1, 1) := by decide +kernel
theorem dX11_book_20 : decode cX11_book 20 = .ok (.invokevirtual 117, 3) := by decide +kernel
theorem dX11_book_23 : decode cX11_book 23 = .ok (.ifCond .ne 5, 3) := by decide +kernel
theorem dX11_book_26 : decode cX11_book 26 = .ok (.iconst (-1), 1) := by decide +kernel
theorem dX11_book_27 : decode cX11_book 27 = .ok (.ireturn, 1) := by decide +kernel
theorem dX11_book_28 : decode cX11_book 28 = .ok (.iload_n 2, 1) := by decide +kernel
theorem dX11_book_29 : decode cX11_book 29 = .ok (.ifCond .lt 9, 3) := by decide +kernel
theorem dX11_book_32 : decode cX11_book 32 = .ok (.iload_n 2, 1) := by decide +kernel
theorem dX11_book_33 : decode cX11_book 33 = .ok (.bipush 99, 2) := by decide +kernel
theorem dX11_book_35 : decode cX11_book 35 = .ok (.if_icmp .le 6, 3) := by decide +kernel
theorem dX11_book_38 : decode cX11_book 38 = .ok (.bipush (-2), 2) := by decide +kernel
theorem dX11_book_40 : decode cX11_book 40 = .ok (.ireturn, 1) := by decide +kernel
theorem dX11_book_41 : decode cX11_book 41 = .ok (.aload_n 0, 1) := by decide +kernel
theorem dX11_book_42 : decode cX11_book 42 = .ok (.getfield 12, 3) := by decide +kernel
theorem dX11_book_45 : decode cX11_book 45 = .ok (.getfield 234, 3) := by decide +kernel
theorem dX11_book_48 : decode cX11_book 48 = .ok (.bipush 12, 2) := by decide +kernel
theorem dX11_book_50 : decode cX11_book 50 = .ok (.if_icmp .lt 6, 3) := by decide +kernel
theorem dX11_book_53 : decode cX11_book 53 = .ok (.bipush (-4), 2) := by decide +kernel
theorem dX11_book_55 : decode cX11_book 55 = .ok (.ireturn, 1) := by decide +kernel
theorem dX11_book_56 : decode cX11_book 56 = .ok (.aload_n 0, 1) := by decide +kernel
theorem dX11_book_57 : decode cX11_book 57 = .ok (.getfield 12, 3) := by decide +kernel
theorem dX11_book_60 : decode cX11_book 60 = .ok (.getfield 237, 3) := by decide +kernel
theorem dX11_book_63 : decode cX11_book 63 = .ok (.aload_n 0, 1) := by decide +kernel
theorem dX11_book_64 : decode cX11_book 64 = .ok (.getfield 12, 3) := by decide +kernel
theorem dX11_book_67 : decode cX11_book 67 = .ok (.getfield 234, 3) := by decide +kernel
theorem dX11_book_70 : decode cX11_book 70 = .ok (.iload_n 1, 1) := by decide +kernel
theorem dX11_book_71 : decode cX11_book 71 = .ok (.iastore, 1) := by decide +kernel
theorem dX11_book_72 : decode cX11_book 72 = .ok (.aload_n 0, 1) := by decide +kernel
theorem dX11_book_73 : decode cX11_book 73 = .ok (.getfield 12, 3) := by decide +kernel
theorem dX11_book_76 : decode cX11_book 76 = .ok (.getfield 240, 3) := by decide +kernel
theorem dX11_book_79 : decode cX11_book 79 = .ok (.aload_n 0, 1) := by decide +kernel
theorem dX11_book_80 : decode cX11_book 80 = .ok (.getfield 12, 3) := by decide +kernel
theorem dX11_book_83 : decode cX11_book 83 = .ok (.getfield 234, 3) := by decide +kernel
theorem dX11_book_86 : decode cX11_book 86 = .ok (.iload_n 2, 1) := by decide +kernel
theorem dX11_book_87 : decode cX11_book 87 = .ok (.iastore, 1) := by decide +kernel
theorem dX11_book_88 : decode cX11_book 88 = .ok (.aload_n 0, 1) := by decide +kernel
theorem dX11_book_89 : decode cX11_book 89 = .ok (.getfield 12, 3) := by decide +kernel
theorem dX11_book_92 : decode cX11_book 92 = .ok (.dup, 1) := by decide +kernel
theorem dX11_book_93 : decode cX11_book 93 = .ok (.getfield 234, 3) := by decide +kernel
theorem dX11_book_96 : decode cX11_book 96 = .ok (.iconst 1, 1) := by decide +kernel
theorem dX11_book_97 : decode cX11_book 97 = .ok (.iadd, 1) := by decide +kernel
theorem dX11_book_98 : decode cX11_book 98 = .ok (.putfield 234, 3) := by decide +kernel
theorem dX11_book_101 : decode cX11_book 101 = .ok (.aload_n 0, 1) := by decide +kernel
theorem dX11_book_102 : decode cX11_book 102 = .ok (.getfield 12, 3) := by decide +kernel
theorem dX11_book_105 : decode cX11_book 105 = .ok (.getfield 234, 3) := by decide +kernel
theorem dX11_book_108 : decode cX11_book 108 = .ok (.ireturn, 1) := by decide +kernel
theorem dX11_looked_0 : decode cX11_looked 0 = .ok (.iconst 0, 1) := by decide +kernel
theorem dX11_looked_1 : decode cX11_looked 1 = .ok (.istore_n 1, 1) := by decide +kernel
theorem dX11_looked_2 : decode cX11_looked 2 = .ok (.iload_n 1, 1) := by decide +kernel
theorem dX11_looked_3 : decode cX11_looked 3 = .ok (.aload_n 0, 1) := by decide +kernel
theorem dX11_looked_4 : decode cX11_looked 4 = .ok (.getfield 12, 3) := by decide +kernel
theorem dX11_looked_7 : decode cX11_looked 7 = .ok (.getfield 234, 3) := by decide +kernel
theorem dX11_looked_10 : decode cX11_looked 10 = .ok (.if_icmp .ge 39, 3) := by decide +kernel
theorem dX11_looked_13 : decode cX11_looked 13 = .ok (.aload_n 0, 1) := by decide +kernel
theorem dX11_looked_14 : decode cX11_looked 14 = .ok (.getfield 12, 3) := by decide +kernel
theorem dX11_looked_17 : decode cX11_looked 17 = .ok (.aload_n 0, 1) := by decide +kernel
theorem dX11_looked_18 : decode cX11_looked 18 = .ok (.getfield 12, 3) := by decide +kernel
theorem dX11_looked_21 : decode cX11_looked 21 = .ok (.getfield 237, 3) := by decide +kernel
theorem dX11_looked_24 : decode cX11_looked 24 = .ok (.iload_n 1, 1) := by decide +kernel
theorem dX11_looked_25 : decode cX11_looked 25 = .ok (.iaload, 1) := by decide +kernel
theorem dX11_looked_26 : decode cX11_looked 26 = .ok (.invokevirtual 124, 3) := by decide +kernel
theorem dX11_looked_29 : decode cX11_looked 29 = .ok (.aload_n 0, 1) := by decide +kernel
theorem dX11_looked_30 : decode cX11_looked 30 = .ok (.getfield 12, 3) := by decide +kernel
theorem dX11_looked_33 : decode cX11_looked 33 = .ok (.getfield 240, 3) := by decide +kernel
