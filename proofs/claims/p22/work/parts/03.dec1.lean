theorem dX0_init_0 : decode cX0_init 0 = .ok (.aload_n 0, 1) := by decide +kernel
theorem dX0_init_1 : decode cX0_init 1 = .ok (.invokespecial 1, 3) := by decide +kernel
theorem dX0_init_4 : decode cX0_init 4 = .ok (.aload_n 0, 1) := by decide +kernel
theorem dX0_init_5 : decode cX0_init 5 = .ok (.iload_n 1, 1) := by decide +kernel
theorem dX0_init_6 : decode cX0_init 6 = .ok (.putfield 7, 3) := by decide +kernel
theorem dX0_init_9 : decode cX0_init 9 = .ok (.aload_n 0, 1) := by decide +kernel
theorem dX0_init_10 : decode cX0_init 10 = .ok (.iload_n 2, 1) := by decide +kernel
theorem dX0_init_11 : decode cX0_init 11 = .ok (.putfield 13, 3) := by decide +kernel
theorem dX0_init_14 : decode cX0_init 14 = .ok (.aload_n 0, 1) := by decide +kernel
theorem dX0_init_15 : decode cX0_init 15 = .ok (.aload_n 3, 1) := by decide +kernel
theorem dX0_init_16 : decode cX0_init 16 = .ok (.putfield 16, 3) := by decide +kernel
theorem dX0_init_19 : decode cX0_init 19 = .ok (.aload_n 0, 1) := by decide +kernel
theorem dX0_init_20 : decode cX0_init 20 = .ok (.iload 4, 2) := by decide +kernel
theorem dX0_init_22 : decode cX0_init 22 = .ok (.putfield 20, 3) := by decide +kernel
theorem dX0_init_25 : decode cX0_init 25 = .ok (.aload_n 0, 1) := by decide +kernel
theorem dX0_init_26 : decode cX0_init 26 = .ok (.iload 5, 2) := by decide +kernel
theorem dX0_init_28 : decode cX0_init 28 = .ok (.putfield 23, 3) := by decide +kernel
theorem dX0_init_31 : decode cX0_init 31 = .ok (.return_, 1) := by decide +kernel
theorem dX1_init_0 : decode cX1_init 0 = .ok (.aload_n 0, 1) := by decide +kernel
theorem dX1_init_1 : decode cX1_init 1 = .ok (.invokespecial 3, 3) := by decide +kernel
theorem dX1_init_4 : decode cX1_init 4 = .ok (.aload_n 0, 1) := by decide +kernel
theorem dX1_init_5 : decode cX1_init 5 = .ok (.sipush 400, 3) := by decide +kernel
theorem dX1_init_8 : decode cX1_init 8 = .ok (.newarray .int, 2) := by decide +kernel
theorem dX1_init_10 : decode cX1_init 10 = .ok (.putfield 9, 3) := by decide +kernel
theorem dX1_init_13 : decode cX1_init 13 = .ok (.return_, 1) := by decide +kernel
theorem dX1_depth_0 : decode cX1_depth 0 = .ok (.iload_n 1, 1) := by decide +kernel
theorem dX1_depth_1 : decode cX1_depth 1 = .ok (.ifCond .lt 21, 3) := by decide +kernel
theorem dX1_depth_4 : decode cX1_depth 4 = .ok (.iload_n 1, 1) := by decide +kernel
theorem dX1_depth_5 : decode cX1_depth 5 = .ok (.aload_n 0, 1) := by decide +kernel
theorem dX1_depth_6 : decode cX1_depth 6 = .ok (.getfield 9, 3) := by decide +kernel
theorem dX1_depth_9 : decode cX1_depth 9 = .ok (.arraylength, 1) := by decide +kernel
theorem dX1_depth_10 : decode cX1_depth 10 = .ok (.if_icmp .ge 12, 3) := by decide +kernel
theorem dX1_depth_13 : decode cX1_depth 13 = .ok (.aload_n 0, 1) := by decide +kernel
theorem dX1_depth_14 : decode cX1_depth 14 = .ok (.getfield 9, 3) := by decide +kernel
theorem dX1_depth_17 : decode cX1_depth 17 = .ok (.iload_n 1, 1) := by decide +kernel
theorem dX1_depth_18 : decode cX1_depth 18 = .ok (.iaload, 1) := by decide +kernel
theorem dX1_depth_19 : decode cX1_depth 19 = .ok (.goto 4, 3) := by decide +kernel
theorem dX1_depth_22 : decode cX1_depth 22 = .ok (.iconst 0, 1) := by decide +kernel
theorem dX1_depth_23 : decode cX1_depth 23 = .ok (.ireturn, 1) := by decide +kernel
theorem dX1_put_0 : decode cX1_put 0 = .ok (.iload_n 1, 1) := by decide +kernel
theorem dX1_put_1 : decode cX1_put 1 = .ok (.ifCond .lt 19, 3) := by decide +kernel
theorem dX1_put_4 : decode cX1_put 4 = .ok (.iload_n 1, 1) := by decide +kernel
theorem dX1_put_5 : decode cX1_put 5 = .ok (.aload_n 0, 1) := by decide +kernel
theorem dX1_put_6 : decode cX1_put 6 = .ok (.getfield 9, 3) := by decide +kernel
theorem dX1_put_9 : decode cX1_put 9 = .ok (.arraylength, 1) := by decide +kernel
theorem dX1_put_10 : decode cX1_put 10 = .ok (.if_icmp .ge 10, 3) := by decide +kernel
theorem dX1_put_13 : decode cX1_put 13 = .ok (.aload_n 0, 1) := by decide +kernel
theorem dX1_put_14 : decode cX1_put 14 = .ok (.getfield 9, 3) := by decide +kernel
theorem dX1_put_17 : decode cX1_put 17 = .ok (.iload_n 1, 1) := by decide +kernel
theorem dX1_put_18 : decode cX1_put 18 = .ok (.iload_n 2, 1) := by decide +kernel
theorem dX1_put_19 : decode cX1_put 19 = .ok (.iastore, 1) := by decide +kernel
theorem dX1_put_20 : decode cX1_put 20 = .ok (.return_, 1) := by decide +kernel
theorem dX1_becomeLike_0 : decode cX1_becomeLike 0 = .ok (.iconst 0, 1) := by decide +kernel
theorem dX1_becomeLike_1 : decode cX1_becomeLike 1 = .ok (.istore_n 2, 1) := by decide +kernel
theorem dX1_becomeLike_2 : decode cX1_becomeLike 2 = .ok (.iload_n 2, 1) := by decide +kernel
theorem dX1_becomeLike_3 : decode cX1_becomeLike 3 = .ok (.sipush 400, 3) := by decide +kernel
theorem dX1_becomeLike_6 : decode cX1_becomeLike 6 = .ok (.if_icmp .ge 19, 3) := by decide +kernel
theorem dX1_becomeLike_9 : decode cX1_becomeLike 9 = .ok (.aload_n 0, 1) := by decide +kernel
theorem dX1_becomeLike_10 : decode cX1_becomeLike 10 = .ok (.iload_n 2, 1) := by decide +kernel
theorem dX1_becomeLike_11 : decode cX1_becomeLike 11 = .ok (.aload_n 1, 1) := by decide +kernel
theorem dX1_becomeLike_12 : decode cX1_becomeLike 12 = .ok (.iload_n 2, 1) := by decide +kernel
theorem dX1_becomeLike_13 : decode cX1_becomeLike 13 = .ok (.invokevirtual 15, 3) := by decide +kernel
theorem dX1_becomeLike_16 : decode cX1_becomeLike 16 = .ok (.invokevirtual 19, 3) := by decide +kernel
theorem dX1_becomeLike_19 : decode cX1_becomeLike 19 = .ok (.iinc 2 1, 3) := by decide +kernel
theorem dX1_becomeLike_22 : decode cX1_becomeLike 22 = .ok (.goto (-20), 3) := by decide +kernel
theorem dX1_becomeLike_25 : decode cX1_becomeLike 25 = .ok (.return_, 1) := by decide +kernel
theorem dX1_clear_0 : decode cX1_clear 0 = .ok (.iconst 0, 1) := by decide +kernel
theorem dX1_clear_1 : decode cX1_clear 1 = .ok (.istore_n 2, 1) := by decide +kernel
theorem dX1_clear_2 : decode cX1_clear 2 = .ok (.iload_n 2, 1) := by decide +kernel
theorem dX1_clear_3 : decode cX1_clear 3 = .ok (.aload_n 1, 1) := by decide +kernel
theorem dX1_clear_4 : decode cX1_clear 4 = .ok (.getfield 23, 3) := by decide +kernel
theorem dX1_clear_7 : decode cX1_clear 7 = .ok (.if_icmp .ge 19, 3) := by decide +kernel
theorem dX1_clear_10 : decode cX1_clear 10 = .ok (.aload_n 0, 1) := by decide +kernel
theorem dX1_clear_11 : decode cX1_clear 11 = .ok (.aload_n 1, 1) := by decide +kernel
theorem dX1_clear_12 : decode cX1_clear 12 = .ok (.iload_n 2, 1) := by decide +kernel
theorem dX1_clear_13 : decode cX1_clear 13 = .ok (.invokevirtual 29, 3) := by decide +kernel
theorem dX1_clear_16 : decode cX1_clear 16 = .ok (.iconst 0, 1) := by decide +kernel
theorem dX1_clear_17 : decode cX1_clear 17 = .ok (.invokevirtual 19, 3) := by decide +kernel
theorem dX1_clear_20 : decode cX1_clear 20 = .ok (.iinc 2 1, 3) := by decide +kernel
theorem dX1_clear_23 : decode cX1_clear 23 = .ok (.goto (-21), 3) := by decide +kernel
theorem dX1_clear_26 : decode cX1_clear 26 = .ok (.return_, 1) := by decide +kernel
theorem dX1_sum_0 : decode cX1_sum 0 = .ok (.iconst 0, 1) := by decide +kernel
theorem dX1_sum_1 : decode cX1_sum 1 = .ok (.istore_n 2, 1) := by decide +kernel
theorem dX1_sum_2 : decode cX1_sum 2 = .ok (.iconst 0, 1) := by decide +kernel
theorem dX1_sum_3 : decode cX1_sum 3 = .ok (.istore_n 3, 1) := by decide +kernel
theorem dX1_sum_4 : decode cX1_sum 4 = .ok (.iload_n 3, 1) := by decide +kernel
theorem dX1_sum_5 : decode cX1_sum 5 = .ok (.aload_n 1, 1) := by decide +kernel
theorem dX1_sum_6 : decode cX1_sum 6 = .ok (.getfield 23, 3) := by decide +kernel
theorem dX1_sum_9 : decode cX1_sum 9 = .ok (.if_icmp .ge 21, 3) := by decide +kernel
theorem dX1_sum_12 : decode cX1_sum 12 = .ok (.iload_n 2, 1) := by decide +kernel
theorem dX1_sum_13 : decode cX1_sum 13 = .ok (.aload_n 0, 1) := by decide +kernel
theorem dX1_sum_14 : decode cX1_sum 14 = .ok (.aload_n 1, 1) := by decide +kernel
theorem dX1_sum_15 : decode cX1_sum 15 = .ok (.iload_n 3, 1) := by decide +kernel
theorem dX1_sum_16 : decode cX1_sum 16 = .ok (.invokevirtual 29, 3) := by decide +kernel
theorem dX1_sum_19 : decode cX1_sum 19 = .ok (.invokevirtual 15, 3) := by decide +kernel
theorem dX1_sum_22 : decode cX1_sum 22 = .ok (.iadd, 1) := by decide +kernel
theorem dX1_sum_23 : decode cX1_sum 23 = .ok (.istore_n 2, 1) := by decide +kernel
theorem dX1_sum_24 : decode cX1_sum 24 = .ok (.iinc 3 1, 3) := by decide +kernel
theorem dX1_sum_27 : decode cX1_sum 27 = .ok (.goto (-23), 3) := by decide +kernel
theorem dX1_sum_30 : decode cX1_sum 30 = .ok (.iload_n 2, 1) := by decide +kernel
theorem dX1_sum_31 : decode cX1_sum 31 = .ok (.ireturn, 1) := by decide +kernel
theorem dX1_most_0 : decode cX1_most 0 = .ok (.iconst 0, 1) := by decide +kernel
theorem dX1_most_1 : decode cX1_most 1 = .ok (.istore_n 2, 1) := by decide +kernel
theorem dX1_most_2 : decode cX1_most 2 = .ok (.iconst 0, 1) := by decide +kernel
theorem dX1_most_3 : decode cX1_most 3 = .ok (.istore_n 3, 1) := by decide +kernel
theorem dX1_most_4 : decode cX1_most 4 = .ok (.iload_n 3, 1) := by decide +kernel
theorem dX1_most_5 : decode cX1_most 5 = .ok (.aload_n 1, 1) := by decide +kernel
theorem dX1_most_6 : decode cX1_most 6 = .ok (.getfield 23, 3) := by decide +kernel
theorem dX1_most_9 : decode cX1_most 9 = .ok (.if_icmp .ge 23, 3) := by decide +kernel
theorem dX1_most_12 : decode cX1_most 12 = .ok (.iload_n 2, 1) := by decide +kernel
theorem dX1_most_13 : decode cX1_most 13 = .ok (.aload_n 0, 1) := by decide +kernel
theorem dX1_most_14 : decode cX1_most 14 = .ok (.aload_n 1, 1) := by decide +kernel
theorem dX1_most_15 : decode cX1_most 15 = .ok (.iload_n 3, 1) := by decide +kernel
theorem dX1_most_16 : decode cX1_most 16 = .ok (.invokevirtual 29, 3) := by decide +kernel
theorem dX1_most_19 : decode cX1_most 19 = .ok (.invokevirtual 15, 3) := by decide +kernel
theorem dX1_most_22 : decode cX1_most 22 = .ok (.invokestatic 32, 3) := by decide +kernel
theorem dX1_most_25 : decode cX1_most 25 = .ok (.istore_n 2, 1) := by decide +kernel
theorem dX1_most_26 : decode cX1_most 26 = .ok (.iinc 3 1, 3) := by decide +kernel
theorem dX1_most_29 : decode cX1_most 29 = .ok (.goto (-25), 3) := by decide +kernel
theorem dX1_most_32 : decode cX1_most 32 = .ok (.iload_n 2, 1) := by decide +kernel
theorem dX1_most_33 : decode cX1_most 33 = .ok (.ireturn, 1) := by decide +kernel
theorem dX1_blocked_0 : decode cX1_blocked 0 = .ok (.iconst 0, 1) := by decide +kernel
theorem dX1_blocked_1 : decode cX1_blocked 1 = .ok (.istore_n 3, 1) := by decide +kernel
theorem dX1_blocked_2 : decode cX1_blocked 2 = .ok (.iconst 0, 1) := by decide +kernel
theorem dX1_blocked_3 : decode cX1_blocked 3 = .ok (.istore 4, 2) := by decide +kernel
theorem dX1_blocked_5 : decode cX1_blocked 5 = .ok (.iload 4, 2) := by decide +kernel
theorem dX1_blocked_7 : decode cX1_blocked 7 = .ok (.aload_n 1, 1) := by decide +kernel
theorem dX1_blocked_8 : decode cX1_blocked 8 = .ok (.getfield 23, 3) := by decide +kernel
theorem dX1_blocked_11 : decode cX1_blocked 11 = .ok (.if_icmp .ge 26, 3) := by decide +kernel
theorem dX1_blocked_14 : decode cX1_blocked 14 = .ok (.aload_n 0, 1) := by decide +kernel
theorem dX1_blocked_15 : decode cX1_blocked 15 = .ok (.aload_n 1, 1) := by decide +kernel
theorem dX1_blocked_16 : decode cX1_blocked 16 = .ok (.iload 4, 2) := by decide +kernel
theorem dX1_blocked_18 : decode cX1_blocked 18 = .ok (.invokevirtual 29, 3) := by decide +kernel
theorem dX1_blocked_21 : decode cX1_blocked 21 = .ok (.invokevirtual 15, 3) := by decide +kernel
theorem dX1_blocked_24 : decode cX1_blocked 24 = .ok (.iload_n 2, 1) := by decide +kernel
theorem dX1_blocked_25 : decode cX1_blocked 25 = .ok (.if_icmp .lt 6, 3) := by decide +kernel
theorem dX1_blocked_28 : decode cX1_blocked 28 = .ok (.iinc 3 1, 3) := by decide +kernel
theorem dX1_blocked_31 : decode cX1_blocked 31 = .ok (.iinc 4 1, 3) := by decide +kernel
theorem dX1_blocked_34 : decode cX1_blocked 34 = .ok (.goto (-29), 3) := by decide +kernel
theorem dX1_blocked_37 : decode cX1_blocked 37 = .ok (.iload_n 3, 1) := by decide +kernel
theorem dX1_blocked_38 : decode cX1_blocked 38 = .ok (.ireturn, 1) := by decide +kernel
theorem dX2_init_0 : decode cX2_init 0 = .ok (.aload_n 0, 1) := by decide +kernel
theorem dX2_init_1 : decode cX2_init 1 = .ok (.invokespecial 1, 3) := by decide +kernel
theorem dX2_init_4 : decode cX2_init 4 = .ok (.aload_n 0, 1) := by decide +kernel
theorem dX2_init_5 : decode cX2_init 5 = .ok (.iload_n 1, 1) := by decide +kernel
theorem dX2_init_6 : decode cX2_init 6 = .ok (.putfield 7, 3) := by decide +kernel
theorem dX2_init_9 : decode cX2_init 9 = .ok (.aload_n 0, 1) := by decide +kernel
theorem dX2_init_10 : decode cX2_init 10 = .ok (.aload_n 2, 1) := by decide +kernel
theorem dX2_init_11 : decode cX2_init 11 = .ok (.putfield 13, 3) := by decide +kernel
theorem dX2_init_14 : decode cX2_init 14 = .ok (.return_, 1) := by decide +kernel
theorem dX3_init_0 : decode cX3_init 0 = .ok (.aload_n 0, 1) := by decide +kernel
theorem dX3_init_1 : decode cX3_init 1 = .ok (.invokespecial 3, 3) := by decide +kernel
theorem dX3_init_4 : decode cX3_init 4 = .ok (.aload_n 0, 1) := by decide +kernel
theorem dX3_init_5 : decode cX3_init 5 = .ok (.sipush 400, 3) := by decide +kernel
theorem dX3_init_8 : decode cX3_init 8 = .ok (.newarray .int, 2) := by decide +kernel
theorem dX3_init_10 : decode cX3_init 10 = .ok (.putfield 9, 3) := by decide +kernel
theorem dX3_init_13 : decode cX3_init 13 = .ok (.aload_n 0, 1) := by decide +kernel
theorem dX3_init_14 : decode cX3_init 14 = .ok (.sipush 400, 3) := by decide +kernel
theorem dX3_init_17 : decode cX3_init 17 = .ok (.newarray .int, 2) := by decide +kernel
theorem dX3_init_19 : decode cX3_init 19 = .ok (.putfield 15, 3) := by decide +kernel
theorem dX3_init_22 : decode cX3_init 22 = .ok (.return_, 1) := by decide +kernel
theorem dX3_height_0 : decode cX3_height 0 = .ok (.iload_n 1, 1) := by decide +kernel
theorem dX3_height_1 : decode cX3_height 1 = .ok (.ifCond .lt 21, 3) := by decide +kernel
theorem dX3_height_4 : decode cX3_height 4 = .ok (.iload_n 1, 1) := by decide +kernel
theorem dX3_height_5 : decode cX3_height 5 = .ok (.aload_n 0, 1) := by decide +kernel
theorem dX3_height_6 : decode cX3_height 6 = .ok (.getfield 9, 3) := by decide +kernel
theorem dX3_height_9 : decode cX3_height 9 = .ok (.arraylength, 1) := by decide +kernel
theorem dX3_height_10 : decode cX3_height 10 = .ok (.if_icmp .ge 12, 3) := by decide +kernel
theorem dX3_height_13 : decode cX3_height 13 = .ok (.aload_n 0, 1) := by decide +kernel
theorem dX3_height_14 : decode cX3_height 14 = .ok (.getfield 9, 3) := by decide +kernel
theorem dX3_height_17 : decode cX3_height 17 = .ok (.iload_n 1, 1) := by decide +kernel
theorem dX3_height_18 : decode cX3_height 18 = .ok (.iaload, 1) := by decide +kernel
theorem dX3_height_19 : decode cX3_height 19 = .ok (.goto 4, 3) := by decide +kernel
theorem dX3_height_22 : decode cX3_height 22 = .ok (.iconst 0, 1) := by decide +kernel
theorem dX3_height_23 : decode cX3_height 23 = .ok (.ireturn, 1) := by decide +kernel
theorem dX3_gap_0 : decode cX3_gap 0 = .ok (.iload_n 1, 1) := by decide +kernel
theorem dX3_gap_1 : decode cX3_gap 1 = .ok (.ifCond .lt 21, 3) := by decide +kernel
theorem dX3_gap_4 : decode cX3_gap 4 = .ok (.iload_n 1, 1) := by decide +kernel
theorem dX3_gap_5 : decode cX3_gap 5 = .ok (.aload_n 0, 1) := by decide +kernel
theorem dX3_gap_6 : decode cX3_gap 6 = .ok (.getfield 15, 3) := by decide +kernel
theorem dX3_gap_9 : decode cX3_gap 9 = .ok (.arraylength, 1) := by decide +kernel
theorem dX3_gap_10 : decode cX3_gap 10 = .ok (.if_icmp .ge 12, 3) := by decide +kernel
theorem dX3_gap_13 : decode cX3_gap 13 = .ok (.aload_n 0, 1) := by decide +kernel
theorem dX3_gap_14 : decode cX3_gap 14 = .ok (.getfield 15, 3) := by decide +kernel
theorem dX3_gap_17 : decode cX3_gap 17 = .ok (.iload_n 1, 1) := by decide +kernel
theorem dX3_gap_18 : decode cX3_gap 18 = .ok (.iaload, 1) := by decide +kernel
theorem dX3_gap_19 : decode cX3_gap 19 = .ok (.goto 4, 3) := by decide +kernel
theorem dX3_gap_22 : decode cX3_gap 22 = .ok (.iconst 0, 1) := by decide +kernel
theorem dX3_gap_23 : decode cX3_gap 23 = .ok (.ireturn, 1) := by decide +kernel
theorem dX3_clear_0 : decode cX3_clear 0 = .ok (.iconst 0, 1) := by decide +kernel
theorem dX3_clear_1 : decode cX3_clear 1 = .ok (.istore_n 1, 1) := by decide +kernel
theorem dX3_clear_2 : decode cX3_clear 2 = .ok (.iload_n 1, 1) := by decide +kernel
theorem dX3_clear_3 : decode cX3_clear 3 = .ok (.sipush 400, 3) := by decide +kernel
theorem dX3_clear_6 : decode cX3_clear 6 = .ok (.if_icmp .ge 16, 3) := by decide +kernel
theorem dX3_clear_9 : decode cX3_clear 9 = .ok (.aload_n 0, 1) := by decide +kernel
theorem dX3_clear_10 : decode cX3_clear 10 = .ok (.iload_n 1, 1) := by decide +kernel
theorem dX3_clear_11 : decode cX3_clear 11 = .ok (.iconst 0, 1) := by decide +kernel
theorem dX3_clear_12 : decode cX3_clear 12 = .ok (.iconst 0, 1) := by decide +kernel
theorem dX3_clear_13 : decode cX3_clear 13 = .ok (.invokevirtual 18, 3) := by decide +kernel
theorem dX3_clear_16 : decode cX3_clear 16 = .ok (.iinc 1 1, 3) := by decide +kernel
theorem dX3_clear_19 : decode cX3_clear 19 = .ok (.goto (-17), 3) := by decide +kernel
theorem dX3_clear_22 : decode cX3_clear 22 = .ok (.return_, 1) := by decide +kernel
theorem dX3_add_0 : decode cX3_add 0 = .ok (.iconst 0, 1) := by decide +kernel
theorem dX3_add_1 : decode cX3_add 1 = .ok (.istore 4, 2) := by decide +kernel
theorem dX3_add_3 : decode cX3_add 3 = .ok (.iload 4, 2) := by decide +kernel
theorem dX3_add_5 : decode cX3_add 5 = .ok (.aload_n 1, 1) := by decide +kernel
theorem dX3_add_6 : decode cX3_add 6 = .ok (.getfield 22, 3) := by decide +kernel
theorem dX3_add_9 : decode cX3_add 9 = .ok (.if_icmp .ge 35, 3) := by decide +kernel
theorem dX3_add_12 : decode cX3_add 12 = .ok (.aload_n 1, 1) := by decide +kernel
theorem dX3_add_13 : decode cX3_add 13 = .ok (.iload 4, 2) := by decide +kernel
theorem dX3_add_15 : decode cX3_add 15 = .ok (.invokevirtual 28, 3) := by decide +kernel
theorem dX3_add_18 : decode cX3_add 18 = .ok (.istore 5, 2) := by decide +kernel
theorem dX3_add_20 : decode cX3_add 20 = .ok (.iload_n 2, 1) := by decide +kernel
theorem dX3_add_21 : decode cX3_add 21 = .ok (.aload_n 0, 1) := by decide +kernel
theorem dX3_add_22 : decode cX3_add 22 = .ok (.iload 5, 2) := by decide +kernel
theorem dX3_add_24 : decode cX3_add 24 = .ok (.invokevirtual 32, 3) := by decide +kernel
theorem dX3_add_27 : decode cX3_add 27 = .ok (.if_icmp .le 11, 3) := by decide +kernel
theorem dX3_add_30 : decode cX3_add 30 = .ok (.aload_n 0, 1) := by decide +kernel
theorem dX3_add_31 : decode cX3_add 31 = .ok (.iload 5, 2) := by decide +kernel
theorem dX3_add_33 : decode cX3_add 33 = .ok (.iload_n 2, 1) := by decide +kernel
theorem dX3_add_34 : decode cX3_add 34 = .ok (.iload_n 3, 1) := by decide +kernel
theorem dX3_add_35 : decode cX3_add 35 = .ok (.invokevirtual 18, 3) := by decide +kernel
theorem dX3_add_38 : decode cX3_add 38 = .ok (.iinc 4 1, 3) := by decide +kernel
theorem dX3_add_41 : decode cX3_add 41 = .ok (.goto (-38), 3) := by decide +kernel
theorem dX3_add_44 : decode cX3_add 44 = .ok (.return_, 1) := by decide +kernel
theorem dX3_stand_0 : decode cX3_stand 0 = .ok (.iload_n 1, 1) := by decide +kernel
theorem dX3_stand_1 : decode cX3_stand 1 = .ok (.ifCond .lt 35, 3) := by decide +kernel
theorem dX3_stand_4 : decode cX3_stand 4 = .ok (.iload_n 1, 1) := by decide +kernel
theorem dX3_stand_5 : decode cX3_stand 5 = .ok (.aload_n 0, 1) := by decide +kernel
theorem dX3_stand_6 : decode cX3_stand 6 = .ok (.getfield 9, 3) := by decide +kernel
theorem dX3_stand_9 : decode cX3_stand 9 = .ok (.arraylength, 1) := by decide +kernel
theorem dX3_stand_10 : decode cX3_stand 10 = .ok (.if_icmp .ge 26, 3) := by decide +kernel
theorem dX3_stand_13 : decode cX3_stand 13 = .ok (.iload_n 1, 1) := by decide +kernel
theorem dX3_stand_14 : decode cX3_stand 14 = .ok (.aload_n 0, 1) := by decide +kernel
theorem dX3_stand_15 : decode cX3_stand 15 = .ok (.getfield 15, 3) := by decide +kernel
theorem dX3_stand_18 : decode cX3_stand 18 = .ok (.arraylength, 1) := by decide +kernel
theorem dX3_stand_19 : decode cX3_stand 19 = .ok (.if_icmp .ge 17, 3) := by decide +kernel
theorem dX3_stand_22 : decode cX3_stand 22 = .ok (.aload_n 0, 1) := by decide +kernel
theorem dX3_stand_23 : decode cX3_stand 23 = .ok (.getfield 9, 3) := by decide +kernel
theorem dX3_stand_26 : decode cX3_stand 26 = .ok (.iload_n 1, 1) := by decide +kernel
theorem dX3_stand_27 : decode cX3_stand 27 = .ok (.iload_n 2, 1) := by decide +kernel
theorem dX3_stand_28 : decode cX3_stand 28 = .ok (.iastore, 1) := by decide +kernel
theorem dX3_stand_29 : decode cX3_stand 29 = .ok (.aload_n 0, 1) := by decide +kernel
theorem dX3_stand_30 : decode cX3_stand 30 = .ok (.getfield 15, 3) := by decide +kernel
theorem dX3_stand_33 : decode cX3_stand 33 = .ok (.iload_n 1, 1) := by decide +kernel
theorem dX3_stand_34 : decode cX3_stand 34 = .ok (.iload_n 3, 1) := by decide +kernel
theorem dX3_stand_35 : decode cX3_stand 35 = .ok (.iastore, 1) := by decide +kernel
theorem dX3_stand_36 : decode cX3_stand 36 = .ok (.return_, 1) := by decide +kernel
theorem dX4_init_0 : decode cX4_init 0 = .ok (.aload_n 0, 1) := by decide +kernel
theorem dX4_init_1 : decode cX4_init 1 = .ok (.invokespecial 3, 3) := by decide +kernel
theorem dX4_init_4 : decode cX4_init 4 = .ok (.aload_n 0, 1) := by decide +kernel
theorem dX4_init_5 : decode cX4_init 5 = .ok (.iload_n 2, 1) := by decide +kernel
theorem dX4_init_6 : decode cX4_init 6 = .ok (.bipush 20, 2) := by decide +kernel
theorem dX4_init_8 : decode cX4_init 8 = .ok (.imul, 1) := by decide +kernel
theorem dX4_init_9 : decode cX4_init 9 = .ok (.iload_n 1, 1) := by decide +kernel
theorem dX4_init_10 : decode cX4_init 10 = .ok (.iadd, 1) := by decide +kernel
theorem dX4_init_11 : decode cX4_init 11 = .ok (.putfield 9, 3) := by decide +kernel
theorem dX4_init_14 : decode cX4_init 14 = .ok (.aload_n 0, 1) := by decide +kernel
theorem dX4_init_15 : decode cX4_init 15 = .ok (.iload_n 3, 1) := by decide +kernel
theorem dX4_init_16 : decode cX4_init 16 = .ok (.putfield 15, 3) := by decide +kernel
theorem dX4_init_19 : decode cX4_init 19 = .ok (.aload_n 0, 1) := by decide +kernel
theorem dX4_init_20 : decode cX4_init 20 = .ok (.iload 4, 2) := by decide +kernel
theorem dX4_init_22 : decode cX4_init 22 = .ok (.putfield 18, 3) := by decide +kernel
theorem dX4_init_25 : decode cX4_init 25 = .ok (.return_, 1) := by decide +kernel
theorem dX4_cell_0 : decode cX4_cell 0 = .ok (.aload_n 0, 1) := by decide +kernel
theorem dX4_cell_1 : decode cX4_cell 1 = .ok (.getfield 9, 3) := by decide +kernel
theorem dX4_cell_4 : decode cX4_cell 4 = .ok (.iload_n 1, 1) := by decide +kernel
theorem dX4_cell_5 : decode cX4_cell 5 = .ok (.aload_n 0, 1) := by decide +kernel
theorem dX4_cell_6 : decode cX4_cell 6 = .ok (.getfield 18, 3) := by decide +kernel
theorem dX4_cell_9 : decode cX4_cell 9 = .ok (.ifCond .eq 8, 3) := by decide +kernel
theorem dX4_cell_12 : decode cX4_cell 12 = .ok (.bipush 20, 2) := by decide +kernel
theorem dX4_cell_14 : decode cX4_cell 14 = .ok (.goto 4, 3) := by decide +kernel
theorem dX4_cell_17 : decode cX4_cell 17 = .ok (.iconst 1, 1) := by decide +kernel
theorem dX4_cell_18 : decode cX4_cell 18 = .ok (.imul, 1) := by decide +kernel
theorem dX4_cell_19 : decode cX4_cell 19 = .ok (.iadd, 1) := by decide +kernel
theorem dX4_cell_20 : decode cX4_cell 20 = .ok (.ireturn, 1) := by decide +kernel
theorem dX5_init_0 : decode cX5_init 0 = .ok (.aload_n 0, 1) := by decide +kernel
theorem dX5_init_1 : decode cX5_init 1 = .ok (.invokespecial 3, 3) := by decide +kernel
theorem dX5_init_4 : decode cX5_init 4 = .ok (.aload_n 0, 1) := by decide +kernel
theorem dX5_init_5 : decode cX5_init 5 = .ok (.iload_n 2, 1) := by decide +kernel
theorem dX5_init_6 : decode cX5_init 6 = .ok (.putfield 9, 3) := by decide +kernel
theorem dX5_init_9 : decode cX5_init 9 = .ok (.aload_n 0, 1) := by decide +kernel
theorem dX5_init_10 : decode cX5_init 10 = .ok (.iload_n 3, 1) := by decide +kernel
theorem dX5_init_11 : decode cX5_init 11 = .ok (.putfield 15, 3) := by decide +kernel
theorem dX5_init_14 : decode cX5_init 14 = .ok (.aload_n 0, 1) := by decide +kernel
theorem dX5_init_15 : decode cX5_init 15 = .ok (.iload_n 1, 1) := by decide +kernel
theorem dX5_init_16 : decode cX5_init 16 = .ok (.iconst 1, 1) := by decide +kernel
theorem dX5_init_17 : decode cX5_init 17 = .ok (.if_icmp .eq 8, 3) := by decide +kernel
theorem dX5_init_20 : decode cX5_init 20 = .ok (.iload_n 1, 1) := by decide +kernel
theorem dX5_init_21 : decode cX5_init 21 = .ok (.iconst 3, 1) := by decide +kernel
theorem dX5_init_22 : decode cX5_init 22 = .ok (.if_icmp .ne 7, 3) := by decide +kernel
theorem dX5_init_25 : decode cX5_init 25 = .ok (.iconst 1, 1) := by decide +kernel
theorem dX5_init_26 : decode cX5_init 26 = .ok (.goto 4, 3) := by decide +kernel
theorem dX5_init_29 : decode cX5_init 29 = .ok (.iconst 0, 1) := by decide +kernel
theorem dX5_init_30 : decode cX5_init 30 = .ok (.putfield 18, 3) := by decide +kernel
theorem dX5_init_33 : decode cX5_init 33 = .ok (.iload_n 1, 1) := by decide +kernel
theorem dX5_init_34 : decode cX5_init 34 = .ok (.iconst 2, 1) := by decide +kernel
theorem dX5_init_35 : decode cX5_init 35 = .ok (.if_icmp .eq 8, 3) := by decide +kernel
theorem dX5_init_38 : decode cX5_init 38 = .ok (.iload_n 1, 1) := by decide +kernel
theorem dX5_init_39 : decode cX5_init 39 = .ok (.iconst 3, 1) := by decide +kernel
theorem dX5_init_40 : decode cX5_init 40 = .ok (.if_icmp .ne 7, 3) := by decide +kernel
theorem dX5_init_43 : decode cX5_init 43 = .ok (.iconst 1, 1) := by decide +kernel
theorem dX5_init_44 : decode cX5_init 44 = .ok (.goto 4, 3) := by decide +kernel
theorem dX5_init_47 : decode cX5_init 47 = .ok (.iconst 0, 1) := by decide +kernel
theorem dX5_init_48 : decode cX5_init 48 = .ok (.istore 4, 2) := by decide +kernel
theorem dX5_init_50 : decode cX5_init 50 = .ok (.aload_n 0, 1) := by decide +kernel
theorem dX5_init_51 : decode cX5_init 51 = .ok (.getfield 18, 3) := by decide +kernel
theorem dX5_init_54 : decode cX5_init 54 = .ok (.ifCond .eq 8, 3) := by decide +kernel
theorem dX5_init_57 : decode cX5_init 57 = .ok (.bipush 20, 2) := by decide +kernel
theorem dX5_init_59 : decode cX5_init 59 = .ok (.goto 4, 3) := by decide +kernel
theorem dX5_init_62 : decode cX5_init 62 = .ok (.iconst 1, 1) := by decide +kernel
theorem dX5_init_63 : decode cX5_init 63 = .ok (.istore 5, 2) := by decide +kernel
theorem dX5_init_65 : decode cX5_init 65 = .ok (.aload_n 0, 1) := by decide +kernel
theorem dX5_init_66 : decode cX5_init 66 = .ok (.iload 4, 2) := by decide +kernel
theorem dX5_init_68 : decode cX5_init 68 = .ok (.ifCond .eq 11, 3) := by decide +kernel
theorem dX5_init_71 : decode cX5_init 71 = .ok (.iload 5, 2) := by decide +kernel
theorem dX5_init_73 : decode cX5_init 73 = .ok (.bipush 19, 2) := by decide +kernel
theorem dX5_init_75 : decode cX5_init 75 = .ok (.imul, 1) := by decide +kernel
theorem dX5_init_76 : decode cX5_init 76 = .ok (.goto 4, 3) := by decide +kernel
theorem dX5_init_79 : decode cX5_init 79 = .ok (.iconst 0, 1) := by decide +kernel
theorem dX5_init_80 : decode cX5_init 80 = .ok (.putfield 22, 3) := by decide +kernel
theorem dX5_init_83 : decode cX5_init 83 = .ok (.aload_n 0, 1) := by decide +kernel
theorem dX5_init_84 : decode cX5_init 84 = .ok (.iload 4, 2) := by decide +kernel
theorem dX5_init_86 : decode cX5_init 86 = .ok (.ifCond .eq 9, 3) := by decide +kernel
theorem dX5_init_89 : decode cX5_init 89 = .ok (.iload 5, 2) := by decide +kernel
theorem dX5_init_91 : decode cX5_init 91 = .ok (.ineg, 1) := by decide +kernel
theorem dX5_init_92 : decode cX5_init 92 = .ok (.goto 5, 3) := by decide +kernel
theorem dX5_init_95 : decode cX5_init 95 = .ok (.iload 5, 2) := by decide +kernel
theorem dX5_init_97 : decode cX5_init 97 = .ok (.putfield 25, 3) := by decide +kernel
theorem dX5_init_100 : decode cX5_init 100 = .ok (.aload_n 0, 1) := by decide +kernel
theorem dX5_init_101 : decode cX5_init 101 = .ok (.aload_n 0, 1) := by decide +kernel
theorem dX5_init_102 : decode cX5_init 102 = .ok (.getfield 18, 3) := by decide +kernel
theorem dX5_init_105 : decode cX5_init 105 = .ok (.ifCond .eq 7, 3) := by decide +kernel
theorem dX5_init_108 : decode cX5_init 108 = .ok (.iconst 1, 1) := by decide +kernel
theorem dX5_init_109 : decode cX5_init 109 = .ok (.goto 5, 3) := by decide +kernel
theorem dX5_init_112 : decode cX5_init 112 = .ok (.bipush 20, 2) := by decide +kernel
theorem dX5_init_114 : decode cX5_init 114 = .ok (.putfield 28, 3) := by decide +kernel
theorem dX5_init_117 : decode cX5_init 117 = .ok (.return_, 1) := by decide +kernel
theorem dX5_crossField_0 : decode cX5_crossField 0 = .ok (.iconst 0, 1) := by decide +kernel
theorem dX5_crossField_1 : decode cX5_crossField 1 = .ok (.istore_n 3, 1) := by decide +kernel
theorem dX5_crossField_2 : decode cX5_crossField 2 = .ok (.iconst 0, 1) := by decide +kernel
theorem dX5_crossField_3 : decode cX5_crossField 3 = .ok (.istore 4, 2) := by decide +kernel
theorem dX5_crossField_5 : decode cX5_crossField 5 = .ok (.iload 4, 2) := by decide +kernel
theorem dX5_crossField_7 : decode cX5_crossField 7 = .ok (.bipush 20, 2) := by decide +kernel
theorem dX5_crossField_9 : decode cX5_crossField 9 = .ok (.if_icmp .ge 30, 3) := by decide +kernel
theorem dX5_crossField_12 : decode cX5_crossField 12 = .ok (.iload_n 3, 1) := by decide +kernel
theorem dX5_crossField_13 : decode cX5_crossField 13 = .ok (.aload_n 0, 1) := by decide +kernel
theorem dX5_crossField_14 : decode cX5_crossField 14 = .ok (.aload_n 1, 1) := by decide +kernel
theorem dX5_crossField_15 : decode cX5_crossField 15 = .ok (.aload_n 2, 1) := by decide +kernel
theorem dX5_crossField_16 : decode cX5_crossField 16 = .ok (.aload_n 0, 1) := by decide +kernel
theorem dX5_crossField_17 : decode cX5_crossField 17 = .ok (.getfield 22, 3) := by decide +kernel
theorem dX5_crossField_20 : decode cX5_crossField 20 = .ok (.iload 4, 2) := by decide +kernel
theorem dX5_crossField_22 : decode cX5_crossField 22 = .ok (.aload_n 0, 1) := by decide +kernel
theorem dX5_crossField_23 : decode cX5_crossField 23 = .ok (.getfield 28, 3) := by decide +kernel
theorem dX5_crossField_26 : decode cX5_crossField 26 = .ok (.imul, 1) := by decide +kernel
theorem dX5_crossField_27 : decode cX5_crossField 27 = .ok (.iadd, 1) := by decide +kernel
theorem dX5_crossField_28 : decode cX5_crossField 28 = .ok (.invokevirtual 31, 3) := by decide +kernel
theorem dX5_crossField_31 : decode cX5_crossField 31 = .ok (.iadd, 1) := by decide +kernel
theorem dX5_crossField_32 : decode cX5_crossField 32 = .ok (.istore_n 3, 1) := by decide +kernel
theorem dX5_crossField_33 : decode cX5_crossField 33 = .ok (.iinc 4 1, 3) := by decide +kernel
theorem dX5_crossField_36 : decode cX5_crossField 36 = .ok (.goto (-31), 3) := by decide +kernel
theorem dX5_crossField_39 : decode cX5_crossField 39 = .ok (.iload_n 3, 1) := by decide +kernel
theorem dX5_crossField_40 : decode cX5_crossField 40 = .ok (.ireturn, 1) := by decide +kernel
theorem dX5_passLine_0 : decode cX5_passLine 0 = .ok (.aload_n 0, 1) := by decide +kernel
theorem dX5_passLine_1 : decode cX5_passLine 1 = .ok (.aload_n 0, 1) := by decide +kernel
theorem dX5_passLine_2 : decode cX5_passLine 2 = .ok (.getfield 15, 3) := by decide +kernel
theorem dX5_passLine_5 : decode cX5_passLine 5 = .ok (.putfield 35, 3) := by decide +kernel
theorem dX5_passLine_8 : decode cX5_passLine 8 = .ok (.aload_n 0, 1) := by decide +kernel
theorem dX5_passLine_9 : decode cX5_passLine 9 = .ok (.iconst 0, 1) := by decide +kernel
theorem dX5_passLine_10 : decode cX5_passLine 10 = .ok (.putfield 38, 3) := by decide +kernel
theorem dX5_passLine_13 : decode cX5_passLine 13 = .ok (.aload_n 0, 1) := by decide +kernel
theorem dX5_passLine_14 : decode cX5_passLine 14 = .ok (.iconst 0, 1) := by decide +kernel
theorem dX5_passLine_15 : decode cX5_passLine 15 = .ok (.putfield 41, 3) := by decide +kernel
theorem dX5_passLine_18 : decode cX5_passLine 18 = .ok (.iconst 0, 1) := by decide +kernel
theorem dX5_passLine_19 : decode cX5_passLine 19 = .ok (.istore 4, 2) := by decide +kernel
theorem dX5_passLine_21 : decode cX5_passLine 21 = .ok (.iload 4, 2) := by decide +kernel
theorem dX5_passLine_23 : decode cX5_passLine 23 = .ok (.bipush 20, 2) := by decide +kernel
theorem dX5_passLine_25 : decode cX5_passLine 25 = .ok (.if_icmp .ge 24, 3) := by decide +kernel
theorem dX5_passLine_28 : decode cX5_passLine 28 = .ok (.aload_n 0, 1) := by decide +kernel
theorem dX5_passLine_29 : decode cX5_passLine 29 = .ok (.aload_n 1, 1) := by decide +kernel
theorem dX5_passLine_30 : decode cX5_passLine 30 = .ok (.aload_n 2, 1) := by decide +kernel
theorem dX5_passLine_31 : decode cX5_passLine 31 = .ok (.iload_n 3, 1) := by decide +kernel
theorem dX5_passLine_32 : decode cX5_passLine 32 = .ok (.iload 4, 2) := by decide +kernel
theorem dX5_passLine_34 : decode cX5_passLine 34 = .ok (.aload_n 0, 1) := by decide +kernel
theorem dX5_passLine_35 : decode cX5_passLine 35 = .ok (.getfield 25, 3) := by decide +kernel
theorem dX5_passLine_38 : decode cX5_passLine 38 = .ok (.imul, 1) := by decide +kernel
theorem dX5_passLine_39 : decode cX5_passLine 39 = .ok (.iadd, 1) := by decide +kernel
theorem dX5_passLine_40 : decode cX5_passLine 40 = .ok (.invokevirtual 44, 3) := by decide +kernel
theorem dX5_passLine_43 : decode cX5_passLine 43 = .ok (.iinc 4 1, 3) := by decide +kernel
theorem dX5_passLine_46 : decode cX5_passLine 46 = .ok (.goto (-25), 3) := by decide +kernel
theorem dX5_passLine_49 : decode cX5_passLine 49 = .ok (.aload_n 0, 1) := by decide +kernel
theorem dX5_passLine_50 : decode cX5_passLine 50 = .ok (.getfield 35, 3) := by decide +kernel
theorem dX5_passLine_53 : decode cX5_passLine 53 = .ok (.ireturn, 1) := by decide +kernel
theorem dX5_passCell_0 : decode cX5_passCell 0 = .ok (.aload_n 2, 1) := by decide +kernel
theorem dX5_passCell_1 : decode cX5_passCell 1 = .ok (.iload_n 3, 1) := by decide +kernel
theorem dX5_passCell_2 : decode cX5_passCell 2 = .ok (.invokevirtual 48, 3) := by decide +kernel
theorem dX5_passCell_5 : decode cX5_passCell 5 = .ok (.istore 4, 2) := by decide +kernel
theorem dX5_passCell_7 : decode cX5_passCell 7 = .ok (.iload 4, 2) := by decide +kernel
theorem dX5_passCell_9 : decode cX5_passCell 9 = .ok (.ifCond .le 41, 3) := by decide +kernel
theorem dX5_passCell_12 : decode cX5_passCell 12 = .ok (.iconst 2, 1) := by decide +kernel
theorem dX5_passCell_13 : decode cX5_passCell 13 = .ok (.iload 4, 2) := by decide +kernel
theorem dX5_passCell_15 : decode cX5_passCell 15 = .ok (.imul, 1) := by decide +kernel
theorem dX5_passCell_16 : decode cX5_passCell 16 = .ok (.aload_n 0, 1) := by decide +kernel
theorem dX5_passCell_17 : decode cX5_passCell 17 = .ok (.getfield 38, 3) := by decide +kernel
theorem dX5_passCell_20 : decode cX5_passCell 20 = .ok (.if_icmp .lt 30, 3) := by decide +kernel
theorem dX5_passCell_23 : decode cX5_passCell 23 = .ok (.aload_n 0, 1) := by decide +kernel
theorem dX5_passCell_24 : decode cX5_passCell 24 = .ok (.iconst 2, 1) := by decide +kernel
theorem dX5_passCell_25 : decode cX5_passCell 25 = .ok (.iload 4, 2) := by decide +kernel
theorem dX5_passCell_27 : decode cX5_passCell 27 = .ok (.imul, 1) := by decide +kernel
theorem dX5_passCell_28 : decode cX5_passCell 28 = .ok (.putfield 38, 3) := by decide +kernel
theorem dX5_passCell_31 : decode cX5_passCell 31 = .ok (.aload_n 0, 1) := by decide +kernel
theorem dX5_passCell_32 : decode cX5_passCell 32 = .ok (.aload_n 2, 1) := by decide +kernel
theorem dX5_passCell_33 : decode cX5_passCell 33 = .ok (.iload_n 3, 1) := by decide +kernel
theorem dX5_passCell_34 : decode cX5_passCell 34 = .ok (.invokevirtual 54, 3) := by decide +kernel
theorem dX5_passCell_37 : decode cX5_passCell 37 = .ok (.putfield 41, 3) := by decide +kernel
theorem dX5_passCell_40 : decode cX5_passCell 40 = .ok (.aload_n 0, 1) := by decide +kernel
theorem dX5_passCell_41 : decode cX5_passCell 41 = .ok (.bipush 10, 2) := by decide +kernel
theorem dX5_passCell_43 : decode cX5_passCell 43 = .ok (.iload 4, 2) := by decide +kernel
theorem dX5_passCell_45 : decode cX5_passCell 45 = .ok (.imul, 1) := by decide +kernel
theorem dX5_passCell_46 : decode cX5_passCell 46 = .ok (.putfield 57, 3) := by decide +kernel
theorem dX5_passCell_49 : decode cX5_passCell 49 = .ok (.return_, 1) := by decide +kernel
theorem dX5_passCell_50 : decode cX5_passCell 50 = .ok (.aload_n 1, 1) := by decide +kernel
theorem dX5_passCell_51 : decode cX5_passCell 51 = .ok (.iload_n 3, 1) := by decide +kernel
theorem dX5_passCell_52 : decode cX5_passCell 52 = .ok (.invokevirtual 60, 3) := by decide +kernel
theorem dX5_passCell_55 : decode cX5_passCell 55 = .ok (.istore 5, 2) := by decide +kernel
theorem dX5_passCell_57 : decode cX5_passCell 57 = .ok (.aload_n 0, 1) := by decide +kernel
theorem dX5_passCell_58 : decode cX5_passCell 58 = .ok (.getfield 38, 3) := by decide +kernel
theorem dX5_passCell_61 : decode cX5_passCell 61 = .ok (.ifCond .le 20, 3) := by decide +kernel
theorem dX5_passCell_64 : decode cX5_passCell 64 = .ok (.aload_n 0, 1) := by decide +kernel
theorem dX5_passCell_65 : decode cX5_passCell 65 = .ok (.getfield 41, 3) := by decide +kernel
theorem dX5_passCell_68 : decode cX5_passCell 68 = .ok (.ifCond .ne 13, 3) := by decide +kernel
theorem dX5_passCell_71 : decode cX5_passCell 71 = .ok (.aload_n 0, 1) := by decide +kernel
theorem dX5_passCell_72 : decode cX5_passCell 72 = .ok (.iload 5, 2) := by decide +kernel
theorem dX5_passCell_74 : decode cX5_passCell 74 = .ok (.invokevirtual 65, 3) := by decide +kernel
theorem dX5_passCell_77 : decode cX5_passCell 77 = .ok (.ineg, 1) := by decide +kernel
theorem dX5_passCell_78 : decode cX5_passCell 78 = .ok (.goto 9, 3) := by decide +kernel
theorem dX5_passCell_81 : decode cX5_passCell 81 = .ok (.aload_n 0, 1) := by decide +kernel
theorem dX5_passCell_82 : decode cX5_passCell 82 = .ok (.iload 5, 2) := by decide +kernel
theorem dX5_passCell_84 : decode cX5_passCell 84 = .ok (.invokevirtual 68, 3) := by decide +kernel
theorem dX5_passCell_87 : decode cX5_passCell 87 = .ok (.istore 6, 2) := by decide +kernel
theorem dX5_passCell_89 : decode cX5_passCell 89 = .ok (.aload_n 1, 1) := by decide +kernel
theorem dX5_passCell_90 : decode cX5_passCell 90 = .ok (.iload_n 3, 1) := by decide +kernel
theorem dX5_passCell_91 : decode cX5_passCell 91 = .ok (.iload 5, 2) := by decide +kernel
theorem dX5_passCell_93 : decode cX5_passCell 93 = .ok (.iload 6, 2) := by decide +kernel
theorem dX5_passCell_95 : decode cX5_passCell 95 = .ok (.isub, 1) := by decide +kernel
theorem dX5_passCell_96 : decode cX5_passCell 96 = .ok (.invokevirtual 71, 3) := by decide +kernel
theorem dX5_passCell_99 : decode cX5_passCell 99 = .ok (.aload_n 0, 1) := by decide +kernel
theorem dX5_passCell_100 : decode cX5_passCell 100 = .ok (.dup, 1) := by decide +kernel
theorem dX5_passCell_101 : decode cX5_passCell 101 = .ok (.getfield 35, 3) := by decide +kernel
theorem dX5_passCell_104 : decode cX5_passCell 104 = .ok (.iload 6, 2) := by decide +kernel
theorem dX5_passCell_106 : decode cX5_passCell 106 = .ok (.iadd, 1) := by decide +kernel
theorem dX5_passCell_107 : decode cX5_passCell 107 = .ok (.putfield 35, 3) := by decide +kernel
theorem dX5_passCell_110 : decode cX5_passCell 110 = .ok (.aload_n 0, 1) := by decide +kernel
theorem dX5_passCell_111 : decode cX5_passCell 111 = .ok (.aload_n 0, 1) := by decide +kernel
theorem dX5_passCell_112 : decode cX5_passCell 112 = .ok (.getfield 38, 3) := by decide +kernel
theorem dX5_passCell_115 : decode cX5_passCell 115 = .ok (.iconst 1, 1) := by decide +kernel
theorem dX5_passCell_116 : decode cX5_passCell 116 = .ok (.isub, 1) := by decide +kernel
theorem dX5_passCell_117 : decode cX5_passCell 117 = .ok (.iconst 0, 1) := by decide +kernel
theorem dX5_passCell_118 : decode cX5_passCell 118 = .ok (.invokestatic 75, 3) := by decide +kernel
theorem dX5_passCell_121 : decode cX5_passCell 121 = .ok (.putfield 38, 3) := by decide +kernel
theorem dX5_passCell_124 : decode cX5_passCell 124 = .ok (.aload_n 0, 1) := by decide +kernel
theorem dX5_passCell_125 : decode cX5_passCell 125 = .ok (.aload_n 0, 1) := by decide +kernel
theorem dX5_passCell_126 : decode cX5_passCell 126 = .ok (.getfield 41, 3) := by decide +kernel
theorem dX5_passCell_129 : decode cX5_passCell 129 = .ok (.iconst 1, 1) := by decide +kernel
theorem dX5_passCell_130 : decode cX5_passCell 130 = .ok (.isub, 1) := by decide +kernel
theorem dX5_passCell_131 : decode cX5_passCell 131 = .ok (.iconst 0, 1) := by decide +kernel
theorem dX5_passCell_132 : decode cX5_passCell 132 = .ok (.invokestatic 75, 3) := by decide +kernel
theorem dX5_passCell_135 : decode cX5_passCell 135 = .ok (.putfield 41, 3) := by decide +kernel
theorem dX5_passCell_138 : decode cX5_passCell 138 = .ok (.return_, 1) := by decide +kernel
theorem dX5_dropped_0 : decode cX5_dropped 0 = .ok (.aload_n 0, 1) := by decide +kernel
theorem dX5_dropped_1 : decode cX5_dropped 1 = .ok (.getfield 35, 3) := by decide +kernel
theorem dX5_dropped_4 : decode cX5_dropped 4 = .ok (.iconst 4, 1) := by decide +kernel
theorem dX5_dropped_5 : decode cX5_dropped 5 = .ok (.invokestatic 81, 3) := by decide +kernel
theorem dX5_dropped_8 : decode cX5_dropped 8 = .ok (.aload_n 0, 1) := by decide +kernel
theorem dX5_dropped_9 : decode cX5_dropped 9 = .ok (.getfield 57, 3) := by decide +kernel
theorem dX5_dropped_12 : decode cX5_dropped 12 = .ok (.iload_n 1, 1) := by decide +kernel
theorem dX5_dropped_13 : decode cX5_dropped 13 = .ok (.isub, 1) := by decide +kernel
theorem dX5_dropped_14 : decode cX5_dropped 14 = .ok (.invokestatic 81, 3) := by decide +kernel
theorem dX5_dropped_17 : decode cX5_dropped 17 = .ok (.iconst 0, 1) := by decide +kernel
theorem dX5_dropped_18 : decode cX5_dropped 18 = .ok (.invokestatic 75, 3) := by decide +kernel
theorem dX5_dropped_21 : decode cX5_dropped 21 = .ok (.ireturn, 1) := by decide +kernel
theorem dX5_pickedUp_0 : decode cX5_pickedUp 0 = .ok (.iload_n 1, 1) := by decide +kernel
theorem dX5_pickedUp_1 : decode cX5_pickedUp 1 = .ok (.aload_n 0, 1) := by decide +kernel
theorem dX5_pickedUp_2 : decode cX5_pickedUp 2 = .ok (.getfield 9, 3) := by decide +kernel
theorem dX5_pickedUp_5 : decode cX5_pickedUp 5 = .ok (.invokestatic 81, 3) := by decide +kernel
theorem dX5_pickedUp_8 : decode cX5_pickedUp 8 = .ok (.bipush 10, 2) := by decide +kernel
theorem dX5_pickedUp_10 : decode cX5_pickedUp 10 = .ok (.aload_n 0, 1) := by decide +kernel
theorem dX5_pickedUp_11 : decode cX5_pickedUp 11 = .ok (.getfield 9, 3) := by decide +kernel
theorem dX5_pickedUp_14 : decode cX5_pickedUp 14 = .ok (.imul, 1) := by decide +kernel
theorem dX5_pickedUp_15 : decode cX5_pickedUp 15 = .ok (.aload_n 0, 1) := by decide +kernel
theorem dX5_pickedUp_16 : decode cX5_pickedUp 16 = .ok (.getfield 35, 3) := by decide +kernel
theorem dX5_pickedUp_19 : decode cX5_pickedUp 19 = .ok (.isub, 1) := by decide +kernel
theorem dX5_pickedUp_20 : decode cX5_pickedUp 20 = .ok (.invokestatic 81, 3) := by decide +kernel
theorem dX5_pickedUp_23 : decode cX5_pickedUp 23 = .ok (.iconst 0, 1) := by decide +kernel
theorem dX5_pickedUp_24 : decode cX5_pickedUp 24 = .ok (.invokestatic 75, 3) := by decide +kernel
theorem dX5_pickedUp_27 : decode cX5_pickedUp 27 = .ok (.ireturn, 1) := by decide +kernel
theorem dX6_init_0 : decode cX6_init 0 = .ok (.aload_n 0, 1) := by decide +kernel
theorem dX6_init_1 : decode cX6_init 1 = .ok (.invokespecial 1, 3) := by decide +kernel
theorem dX6_init_4 : decode cX6_init 4 = .ok (.aload_n 0, 1) := by decide +kernel
theorem dX6_init_5 : decode cX6_init 5 = .ok (.new 7, 3) := by decide +kernel
theorem dX6_init_8 : decode cX6_init 8 = .ok (.dup, 1) := by decide +kernel
theorem dX6_init_9 : decode cX6_init 9 = .ok (.invokespecial 9, 3) := by decide +kernel
theorem dX6_init_12 : decode cX6_init 12 = .ok (.putfield 10, 3) := by decide +kernel
theorem dX6_init_15 : decode cX6_init 15 = .ok (.aload_n 0, 1) := by decide +kernel
theorem dX6_init_16 : decode cX6_init 16 = .ok (.new 7, 3) := by decide +kernel
theorem dX6_init_19 : decode cX6_init 19 = .ok (.dup, 1) := by decide +kernel
theorem dX6_init_20 : decode cX6_init 20 = .ok (.invokespecial 9, 3) := by decide +kernel
theorem dX6_init_23 : decode cX6_init 23 = .ok (.putfield 16, 3) := by decide +kernel
theorem dX6_init_26 : decode cX6_init 26 = .ok (.aload_n 0, 1) := by decide +kernel
theorem dX6_init_27 : decode cX6_init 27 = .ok (.new 19, 3) := by decide +kernel
theorem dX6_init_30 : decode cX6_init 30 = .ok (.dup, 1) := by decide +kernel
theorem dX6_init_31 : decode cX6_init 31 = .ok (.iconst 0, 1) := by decide +kernel
theorem dX6_init_32 : decode cX6_init 32 = .ok (.iconst 0, 1) := by decide +kernel
theorem dX6_init_33 : decode cX6_init 33 = .ok (.sipush 400, 3) := by decide +kernel
theorem dX6_init_36 : decode cX6_init 36 = .ok (.iconst 0, 1) := by decide +kernel
theorem dX6_init_37 : decode cX6_init 37 = .ok (.invokespecial 21, 3) := by decide +kernel
theorem dX6_init_40 : decode cX6_init 40 = .ok (.putfield 24, 3) := by decide +kernel
theorem dX6_init_43 : decode cX6_init 43 = .ok (.aload_n 0, 1) := by decide +kernel
theorem dX6_init_44 : decode cX6_init 44 = .ok (.new 28, 3) := by decide +kernel
theorem dX6_init_47 : decode cX6_init 47 = .ok (.dup, 1) := by decide +kernel
theorem dX6_init_48 : decode cX6_init 48 = .ok (.invokespecial 30, 3) := by decide +kernel
theorem dX6_init_51 : decode cX6_init 51 = .ok (.putfield 31, 3) := by decide +kernel
theorem dX6_init_54 : decode cX6_init 54 = .ok (.aload_n 0, 1) := by decide +kernel
theorem dX6_init_55 : decode cX6_init 55 = .ok (.new 28, 3) := by decide +kernel
theorem dX6_init_58 : decode cX6_init 58 = .ok (.dup, 1) := by decide +kernel
theorem dX6_init_59 : decode cX6_init 59 = .ok (.invokespecial 30, 3) := by decide +kernel
theorem dX6_init_62 : decode cX6_init 62 = .ok (.putfield 35, 3) := by decide +kernel
theorem dX6_init_65 : decode cX6_init 65 = .ok (.aload_n 0, 1) := by decide +kernel
theorem dX6_init_66 : decode cX6_init 66 = .ok (.new 38, 3) := by decide +kernel
theorem dX6_init_69 : decode cX6_init 69 = .ok (.dup, 1) := by decide +kernel
theorem dX6_init_70 : decode cX6_init 70 = .ok (.invokespecial 40, 3) := by decide +kernel
theorem dX6_init_73 : decode cX6_init 73 = .ok (.putfield 41, 3) := by decide +kernel
theorem dX6_init_76 : decode cX6_init 76 = .ok (.aload_n 0, 1) := by decide +kernel
theorem dX6_init_77 : decode cX6_init 77 = .ok (.bipush 15, 2) := by decide +kernel
theorem dX6_init_79 : decode cX6_init 79 = .ok (.putfield 45, 3) := by decide +kernel
theorem dX6_init_82 : decode cX6_init 82 = .ok (.return_, 1) := by decide +kernel
theorem dX6_fence_0 : decode cX6_fence 0 = .ok (.iload_n 3, 1) := by decide +kernel
theorem dX6_fence_1 : decode cX6_fence 1 = .ok (.iconst 1, 1) := by decide +kernel
theorem dX6_fence_2 : decode cX6_fence 2 = .ok (.if_icmp .lt 9, 3) := by decide +kernel
theorem dX6_fence_5 : decode cX6_fence 5 = .ok (.iload_n 3, 1) := by decide +kernel
theorem dX6_fence_6 : decode cX6_fence 6 = .ok (.bipush 20, 2) := by decide +kernel
theorem dX6_fence_8 : decode cX6_fence 8 = .ok (.if_icmp .le 13, 3) := by decide +kernel
theorem dX6_fence_11 : decode cX6_fence 11 = .ok (.new 49, 3) := by decide +kernel
theorem dX6_fence_14 : decode cX6_fence 14 = .ok (.dup, 1) := by decide +kernel
theorem dX6_fence_15 : decode cX6_fence 15 = .ok (.ldc 51, 2) := by decide +kernel
theorem dX6_fence_17 : decode cX6_fence 17 = .ok (.invokespecial 53, 3) := by decide +kernel
theorem dX6_fence_20 : decode cX6_fence 20 = .ok (.athrow, 1) := by decide +kernel
theorem dX6_fence_21 : decode cX6_fence 21 = .ok (.iload 5, 2) := by decide +kernel
theorem dX6_fence_23 : decode cX6_fence 23 = .ok (.invokestatic 56, 3) := by decide +kernel
theorem dX6_fence_26 : decode cX6_fence 26 = .ok (.iload 6, 2) := by decide +kernel
theorem dX6_fence_28 : decode cX6_fence 28 = .ok (.invokestatic 60, 3) := by decide +kernel
theorem dX6_fence_31 : decode cX6_fence 31 = .ok (.iload_n 1, 1) := by decide +kernel
theorem dX6_fence_32 : decode cX6_fence 32 = .ok (.bipush 20, 2) := by decide +kernel
theorem dX6_fence_34 : decode cX6_fence 34 = .ok (.invokestatic 63, 3) := by decide +kernel
theorem dX6_fence_37 : decode cX6_fence 37 = .ok (.iload_n 2, 1) := by decide +kernel
theorem dX6_fence_38 : decode cX6_fence 38 = .ok (.bipush 20, 2) := by decide +kernel
theorem dX6_fence_40 : decode cX6_fence 40 = .ok (.invokestatic 63, 3) := by decide +kernel
theorem dX6_fence_43 : decode cX6_fence 43 = .ok (.iload 4, 2) := by decide +kernel
theorem dX6_fence_45 : decode cX6_fence 45 = .ok (.ifCond .eq 7, 3) := by decide +kernel
theorem dX6_fence_48 : decode cX6_fence 48 = .ok (.iload_n 2, 1) := by decide +kernel
theorem dX6_fence_49 : decode cX6_fence 49 = .ok (.goto 4, 3) := by decide +kernel
theorem dX6_fence_52 : decode cX6_fence 52 = .ok (.iload_n 1, 1) := by decide +kernel
theorem dX6_fence_53 : decode cX6_fence 53 = .ok (.iload_n 3, 1) := by decide +kernel
theorem dX6_fence_54 : decode cX6_fence 54 = .ok (.iadd, 1) := by decide +kernel
theorem dX6_fence_55 : decode cX6_fence 55 = .ok (.iconst 1, 1) := by decide +kernel
theorem dX6_fence_56 : decode cX6_fence 56 = .ok (.isub, 1) := by decide +kernel
theorem dX6_fence_57 : decode cX6_fence 57 = .ok (.bipush 20, 2) := by decide +kernel
theorem dX6_fence_59 : decode cX6_fence 59 = .ok (.invokestatic 63, 3) := by decide +kernel
theorem dX6_fence_62 : decode cX6_fence 62 = .ok (.aload_n 0, 1) := by decide +kernel
theorem dX6_fence_63 : decode cX6_fence 63 = .ok (.getfield 10, 3) := by decide +kernel
theorem dX6_fence_66 : decode cX6_fence 66 = .ok (.invokevirtual 67, 3) := by decide +kernel
theorem dX6_fence_69 : decode cX6_fence 69 = .ok (.bipush 10, 2) := by decide +kernel
theorem dX6_fence_71 : decode cX6_fence 71 = .ok (.if_icmp .lt 13, 3) := by decide +kernel
theorem dX6_fence_74 : decode cX6_fence 74 = .ok (.new 71, 3) := by decide +kernel
theorem dX6_fence_77 : decode cX6_fence 77 = .ok (.dup, 1) := by decide +kernel
theorem dX6_fence_78 : decode cX6_fence 78 = .ok (.ldc 73, 2) := by decide +kernel
theorem dX6_fence_80 : decode cX6_fence 80 = .ok (.invokespecial 75, 3) := by decide +kernel
theorem dX6_fence_83 : decode cX6_fence 83 = .ok (.athrow, 1) := by decide +kernel
theorem dX6_fence_84 : decode cX6_fence 84 = .ok (.aload_n 0, 1) := by decide +kernel
theorem dX6_fence_85 : decode cX6_fence 85 = .ok (.getfield 10, 3) := by decide +kernel
theorem dX6_fence_88 : decode cX6_fence 88 = .ok (.new 76, 3) := by decide +kernel
theorem dX6_fence_91 : decode cX6_fence 91 = .ok (.dup, 1) := by decide +kernel
theorem dX6_fence_92 : decode cX6_fence 92 = .ok (.iload_n 1, 1) := by decide +kernel
theorem dX6_fence_93 : decode cX6_fence 93 = .ok (.iload_n 2, 1) := by decide +kernel
theorem dX6_fence_94 : decode cX6_fence 94 = .ok (.new 19, 3) := by decide +kernel
theorem dX6_fence_97 : decode cX6_fence 97 = .ok (.dup, 1) := by decide +kernel
theorem dX6_fence_98 : decode cX6_fence 98 = .ok (.iload_n 1, 1) := by decide +kernel
theorem dX6_fence_99 : decode cX6_fence 99 = .ok (.iload_n 2, 1) := by decide +kernel
theorem dX6_fence_100 : decode cX6_fence 100 = .ok (.iload_n 3, 1) := by decide +kernel
theorem dX6_fence_101 : decode cX6_fence 101 = .ok (.iload 4, 2) := by decide +kernel
theorem dX6_fence_103 : decode cX6_fence 103 = .ok (.invokespecial 21, 3) := by decide +kernel
theorem dX6_fence_106 : decode cX6_fence 106 = .ok (.iload 5, 2) := by decide +kernel
theorem dX6_fence_108 : decode cX6_fence 108 = .ok (.iload 6, 2) := by decide +kernel
theorem dX6_fence_110 : decode cX6_fence 110 = .ok (.invokespecial 78, 3) := by decide +kernel
theorem dX6_fence_113 : decode cX6_fence 113 = .ok (.invokevirtual 81, 3) := by decide +kernel
theorem dX6_fence_116 : decode cX6_fence 116 = .ok (.pop, 1) := by decide +kernel
theorem dX6_fence_117 : decode cX6_fence 117 = .ok (.aload_n 0, 1) := by decide +kernel
theorem dX6_fence_118 : decode cX6_fence 118 = .ok (.getfield 10, 3) := by decide +kernel
theorem dX6_fence_121 : decode cX6_fence 121 = .ok (.invokevirtual 67, 3) := by decide +kernel
theorem dX6_fence_124 : decode cX6_fence 124 = .ok (.iconst 1, 1) := by decide +kernel
theorem dX6_fence_125 : decode cX6_fence 125 = .ok (.isub, 1) := by decide +kernel
theorem dX6_fence_126 : decode cX6_fence 126 = .ok (.ireturn, 1) := by decide +kernel
theorem dX6_change_0 : decode cX6_change 0 = .ok (.iload_n 1, 1) := by decide +kernel
theorem dX6_change_1 : decode cX6_change 1 = .ok (.aload_n 0, 1) := by decide +kernel
theorem dX6_change_2 : decode cX6_change 2 = .ok (.getfield 10, 3) := by decide +kernel
theorem dX6_change_5 : decode cX6_change 5 = .ok (.invokevirtual 67, 3) := by decide +kernel
theorem dX6_change_8 : decode cX6_change 8 = .ok (.invokestatic 63, 3) := by decide +kernel
theorem dX6_change_11 : decode cX6_change 11 = .ok (.iload_n 2, 1) := by decide +kernel
theorem dX6_change_12 : decode cX6_change 12 = .ok (.invokestatic 56, 3) := by decide +kernel
theorem dX6_change_15 : decode cX6_change 15 = .ok (.iload_n 3, 1) := by decide +kernel
theorem dX6_change_16 : decode cX6_change 16 = .ok (.invokestatic 60, 3) := by decide +kernel
theorem dX6_change_19 : decode cX6_change 19 = .ok (.aload_n 0, 1) := by decide +kernel
theorem dX6_change_20 : decode cX6_change 20 = .ok (.getfield 10, 3) := by decide +kernel
theorem dX6_change_23 : decode cX6_change 23 = .ok (.iload_n 1, 1) := by decide +kernel
theorem dX6_change_24 : decode cX6_change 24 = .ok (.invokevirtual 85, 3) := by decide +kernel
theorem dX6_change_27 : decode cX6_change 27 = .ok (.checkcast 76, 3) := by decide +kernel
theorem dX6_change_30 : decode cX6_change 30 = .ok (.astore 4, 2) := by decide +kernel
theorem dX6_change_32 : decode cX6_change 32 = .ok (.bipush 10, 2) := by decide +kernel
theorem dX6_change_34 : decode cX6_change 34 = .ok (.aload 4, 2) := by decide +kernel
theorem dX6_change_36 : decode cX6_change 36 = .ok (.getfield 89, 3) := by decide +kernel
theorem dX6_change_39 : decode cX6_change 39 = .ok (.imul, 1) := by decide +kernel
theorem dX6_change_40 : decode cX6_change 40 = .ok (.aload 4, 2) := by decide +kernel
theorem dX6_change_42 : decode cX6_change 42 = .ok (.getfield 92, 3) := by decide +kernel
theorem dX6_change_45 : decode cX6_change 45 = .ok (.iadd, 1) := by decide +kernel
theorem dX6_change_46 : decode cX6_change 46 = .ok (.istore 5, 2) := by decide +kernel
theorem dX6_change_48 : decode cX6_change 48 = .ok (.aload 4, 2) := by decide +kernel
theorem dX6_change_50 : decode cX6_change 50 = .ok (.iload_n 2, 1) := by decide +kernel
theorem dX6_change_51 : decode cX6_change 51 = .ok (.putfield 89, 3) := by decide +kernel
theorem dX6_change_54 : decode cX6_change 54 = .ok (.aload 4, 2) := by decide +kernel
theorem dX6_change_56 : decode cX6_change 56 = .ok (.iload_n 3, 1) := by decide +kernel
theorem dX6_change_57 : decode cX6_change 57 = .ok (.putfield 92, 3) := by decide +kernel
theorem dX6_change_60 : decode cX6_change 60 = .ok (.iload 5, 2) := by decide +kernel
theorem dX6_change_62 : decode cX6_change 62 = .ok (.ireturn, 1) := by decide +kernel
theorem dX6_take_0 : decode cX6_take 0 = .ok (.iload_n 1, 1) := by decide +kernel
theorem dX6_take_1 : decode cX6_take 1 = .ok (.aload_n 0, 1) := by decide +kernel
theorem dX6_take_2 : decode cX6_take 2 = .ok (.getfield 10, 3) := by decide +kernel
theorem dX6_take_5 : decode cX6_take 5 = .ok (.invokevirtual 67, 3) := by decide +kernel
theorem dX6_take_8 : decode cX6_take 8 = .ok (.invokestatic 63, 3) := by decide +kernel
theorem dX6_take_11 : decode cX6_take 11 = .ok (.aload_n 0, 1) := by decide +kernel
theorem dX6_take_12 : decode cX6_take 12 = .ok (.getfield 10, 3) := by decide +kernel
theorem dX6_take_15 : decode cX6_take 15 = .ok (.iload_n 1, 1) := by decide +kernel
theorem dX6_take_16 : decode cX6_take 16 = .ok (.invokevirtual 95, 3) := by decide +kernel
theorem dX6_take_19 : decode cX6_take 19 = .ok (.pop, 1) := by decide +kernel
theorem dX6_take_20 : decode cX6_take 20 = .ok (.aload_n 0, 1) := by decide +kernel
theorem dX6_take_21 : decode cX6_take 21 = .ok (.getfield 10, 3) := by decide +kernel
theorem dX6_take_24 : decode cX6_take 24 = .ok (.invokevirtual 67, 3) := by decide +kernel
theorem dX6_take_27 : decode cX6_take 27 = .ok (.ireturn, 1) := by decide +kernel
theorem dX6_road_0 : decode cX6_road 0 = .ok (.iload_n 2, 1) := by decide +kernel
theorem dX6_road_1 : decode cX6_road 1 = .ok (.bipush 20, 2) := by decide +kernel
theorem dX6_road_3 : decode cX6_road 3 = .ok (.invokestatic 63, 3) := by decide +kernel
theorem dX6_road_6 : decode cX6_road 6 = .ok (.aload_n 0, 1) := by decide +kernel
theorem dX6_road_7 : decode cX6_road 7 = .ok (.getfield 16, 3) := by decide +kernel
theorem dX6_road_10 : decode cX6_road 10 = .ok (.invokevirtual 67, 3) := by decide +kernel
theorem dX6_road_13 : decode cX6_road 13 = .ok (.iconst 4, 1) := by decide +kernel
theorem dX6_road_14 : decode cX6_road 14 = .ok (.if_icmp .lt 13, 3) := by decide +kernel
theorem dX6_road_17 : decode cX6_road 17 = .ok (.new 71, 3) := by decide +kernel
theorem dX6_road_20 : decode cX6_road 20 = .ok (.dup, 1) := by decide +kernel
theorem dX6_road_21 : decode cX6_road 21 = .ok (.ldc 98, 2) := by decide +kernel
theorem dX6_road_23 : decode cX6_road 23 = .ok (.invokespecial 75, 3) := by decide +kernel
theorem dX6_road_26 : decode cX6_road 26 = .ok (.athrow, 1) := by decide +kernel
theorem dX6_road_27 : decode cX6_road 27 = .ok (.aload_n 0, 1) := by decide +kernel
theorem dX6_road_28 : decode cX6_road 28 = .ok (.getfield 16, 3) := by decide +kernel
theorem dX6_road_31 : decode cX6_road 31 = .ok (.new 100, 3) := by decide +kernel
theorem dX6_road_34 : decode cX6_road 34 = .ok (.dup, 1) := by decide +kernel
theorem dX6_road_35 : decode cX6_road 35 = .ok (.iload_n 2, 1) := by decide +kernel
theorem dX6_road_36 : decode cX6_road 36 = .ok (.iload_n 1, 1) := by decide +kernel
theorem dX6_road_37 : decode cX6_road 37 = .ok (.iload_n 2, 1) := by decide +kernel
theorem dX6_road_38 : decode cX6_road 38 = .ok (.invokestatic 102, 3) := by decide +kernel
theorem dX6_road_41 : decode cX6_road 41 = .ok (.invokespecial 106, 3) := by decide +kernel
theorem dX6_road_44 : decode cX6_road 44 = .ok (.invokevirtual 81, 3) := by decide +kernel
theorem dX6_road_47 : decode cX6_road 47 = .ok (.pop, 1) := by decide +kernel
theorem dX6_road_48 : decode cX6_road 48 = .ok (.aload_n 0, 1) := by decide +kernel
theorem dX6_road_49 : decode cX6_road 49 = .ok (.getfield 16, 3) := by decide +kernel
theorem dX6_road_52 : decode cX6_road 52 = .ok (.invokevirtual 67, 3) := by decide +kernel
theorem dX6_road_55 : decode cX6_road 55 = .ok (.iconst 1, 1) := by decide +kernel
theorem dX6_road_56 : decode cX6_road 56 = .ok (.isub, 1) := by decide +kernel
theorem dX6_road_57 : decode cX6_road 57 = .ok (.ireturn, 1) := by decide +kernel
theorem dX6_setLimit_0 : decode cX6_setLimit 0 = .ok (.iload_n 1, 1) := by decide +kernel
theorem dX6_setLimit_1 : decode cX6_setLimit 1 = .ok (.iconst 1, 1) := by decide +kernel
theorem dX6_setLimit_2 : decode cX6_setLimit 2 = .ok (.if_icmp .lt 9, 3) := by decide +kernel
theorem dX6_setLimit_5 : decode cX6_setLimit 5 = .ok (.iload_n 1, 1) := by decide +kernel
theorem dX6_setLimit_6 : decode cX6_setLimit 6 = .ok (.bipush 60, 2) := by decide +kernel
theorem dX6_setLimit_8 : decode cX6_setLimit 8 = .ok (.if_icmp .le 13, 3) := by decide +kernel
theorem dX6_setLimit_11 : decode cX6_setLimit 11 = .ok (.new 49, 3) := by decide +kernel
theorem dX6_setLimit_14 : decode cX6_setLimit 14 = .ok (.dup, 1) := by decide +kernel
theorem dX6_setLimit_15 : decode cX6_setLimit 15 = .ok (.ldc 109, 2) := by decide +kernel
theorem dX6_setLimit_17 : decode cX6_setLimit 17 = .ok (.invokespecial 53, 3) := by decide +kernel
theorem dX6_setLimit_20 : decode cX6_setLimit 20 = .ok (.athrow, 1) := by decide +kernel
theorem dX6_setLimit_21 : decode cX6_setLimit 21 = .ok (.aload_n 0, 1) := by decide +kernel
theorem dX6_setLimit_22 : decode cX6_setLimit 22 = .ok (.getfield 45, 3) := by decide +kernel
theorem dX6_setLimit_25 : decode cX6_setLimit 25 = .ok (.istore_n 2, 1) := by decide +kernel
theorem dX6_setLimit_26 : decode cX6_setLimit 26 = .ok (.aload_n 0, 1) := by decide +kernel
theorem dX6_setLimit_27 : decode cX6_setLimit 27 = .ok (.iload_n 1, 1) := by decide +kernel
theorem dX6_setLimit_28 : decode cX6_setLimit 28 = .ok (.putfield 45, 3) := by decide +kernel
theorem dX6_setLimit_31 : decode cX6_setLimit 31 = .ok (.iload_n 2, 1) := by decide +kernel
theorem dX6_setLimit_32 : decode cX6_setLimit 32 = .ok (.ireturn, 1) := by decide +kernel
theorem dX6_setSupply_0 : decode cX6_setSupply 0 = .ok (.iload_n 1, 1) := by decide +kernel
theorem dX6_setSupply_1 : decode cX6_setSupply 1 = .ok (.ifCond .lt 9, 3) := by decide +kernel
theorem dX6_setSupply_4 : decode cX6_setSupply 4 = .ok (.iload_n 1, 1) := by decide +kernel
theorem dX6_setSupply_5 : decode cX6_setSupply 5 = .ok (.bipush 40, 2) := by decide +kernel
theorem dX6_setSupply_7 : decode cX6_setSupply 7 = .ok (.if_icmp .le 13, 3) := by decide +kernel
theorem dX6_setSupply_10 : decode cX6_setSupply 10 = .ok (.new 49, 3) := by decide +kernel
theorem dX6_setSupply_13 : decode cX6_setSupply 13 = .ok (.dup, 1) := by decide +kernel
theorem dX6_setSupply_14 : decode cX6_setSupply 14 = .ok (.ldc 111, 2) := by decide +kernel
theorem dX6_setSupply_16 : decode cX6_setSupply 16 = .ok (.invokespecial 53, 3) := by decide +kernel
theorem dX6_setSupply_19 : decode cX6_setSupply 19 = .ok (.athrow, 1) := by decide +kernel
theorem dX6_setSupply_20 : decode cX6_setSupply 20 = .ok (.aload_n 0, 1) := by decide +kernel
theorem dX6_setSupply_21 : decode cX6_setSupply 21 = .ok (.getfield 113, 3) := by decide +kernel
theorem dX6_setSupply_24 : decode cX6_setSupply 24 = .ok (.istore_n 2, 1) := by decide +kernel
theorem dX6_setSupply_25 : decode cX6_setSupply 25 = .ok (.aload_n 0, 1) := by decide +kernel
theorem dX6_setSupply_26 : decode cX6_setSupply 26 = .ok (.iload_n 1, 1) := by decide +kernel
theorem dX6_setSupply_27 : decode cX6_setSupply 27 = .ok (.putfield 113, 3) := by decide +kernel
theorem dX6_setSupply_30 : decode cX6_setSupply 30 = .ok (.iload_n 2, 1) := by decide +kernel
theorem dX6_setSupply_31 : decode cX6_setSupply 31 = .ok (.ireturn, 1) := by decide +kernel
theorem dX6_fall_0 : decode cX6_fall 0 = .ok (.iload_n 1, 1) := by decide +kernel
theorem dX6_fall_1 : decode cX6_fall 1 = .ok (.iconst 1, 1) := by decide +kernel
theorem dX6_fall_2 : decode cX6_fall 2 = .ok (.if_icmp .lt 9, 3) := by decide +kernel
theorem dX6_fall_5 : decode cX6_fall 5 = .ok (.iload_n 1, 1) := by decide +kernel
theorem dX6_fall_6 : decode cX6_fall 6 = .ok (.bipush 30, 2) := by decide +kernel
theorem dX6_fall_8 : decode cX6_fall 8 = .ok (.if_icmp .le 13, 3) := by decide +kernel
theorem dX6_fall_11 : decode cX6_fall 11 = .ok (.new 49, 3) := by decide +kernel
theorem dX6_fall_14 : decode cX6_fall 14 = .ok (.dup, 1) := by decide +kernel
theorem dX6_fall_15 : decode cX6_fall 15 = .ok (.ldc 116, 2) := by decide +kernel
theorem dX6_fall_17 : decode cX6_fall 17 = .ok (.invokespecial 53, 3) := by decide +kernel
theorem dX6_fall_20 : decode cX6_fall 20 = .ok (.athrow, 1) := by decide +kernel
theorem dX6_fall_21 : decode cX6_fall 21 = .ok (.aload_n 0, 1) := by decide +kernel
theorem dX6_fall_22 : decode cX6_fall 22 = .ok (.getfield 31, 3) := by decide +kernel
theorem dX6_fall_25 : decode cX6_fall 25 = .ok (.aload_n 0, 1) := by decide +kernel
theorem dX6_fall_26 : decode cX6_fall 26 = .ok (.getfield 24, 3) := by decide +kernel
theorem dX6_fall_29 : decode cX6_fall 29 = .ok (.invokevirtual 118, 3) := by decide +kernel
theorem dX6_fall_32 : decode cX6_fall 32 = .ok (.istore_n 2, 1) := by decide +kernel
theorem dX6_fall_33 : decode cX6_fall 33 = .ok (.iconst 0, 1) := by decide +kernel
theorem dX6_fall_34 : decode cX6_fall 34 = .ok (.istore_n 3, 1) := by decide +kernel
theorem dX6_fall_35 : decode cX6_fall 35 = .ok (.iload_n 3, 1) := by decide +kernel
theorem dX6_fall_36 : decode cX6_fall 36 = .ok (.sipush 400, 3) := by decide +kernel
theorem dX6_fall_39 : decode cX6_fall 39 = .ok (.if_icmp .ge 33, 3) := by decide +kernel
theorem dX6_fall_42 : decode cX6_fall 42 = .ok (.aload_n 0, 1) := by decide +kernel
theorem dX6_fall_43 : decode cX6_fall 43 = .ok (.getfield 31, 3) := by decide +kernel
theorem dX6_fall_46 : decode cX6_fall 46 = .ok (.iload_n 3, 1) := by decide +kernel
theorem dX6_fall_47 : decode cX6_fall 47 = .ok (.aload_n 0, 1) := by decide +kernel
theorem dX6_fall_48 : decode cX6_fall 48 = .ok (.getfield 31, 3) := by decide +kernel
theorem dX6_fall_51 : decode cX6_fall 51 = .ok (.iload_n 3, 1) := by decide +kernel
theorem dX6_fall_52 : decode cX6_fall 52 = .ok (.invokevirtual 122, 3) := by decide +kernel
theorem dX6_fall_55 : decode cX6_fall 55 = .ok (.iload_n 1, 1) := by decide +kernel
theorem dX6_fall_56 : decode cX6_fall 56 = .ok (.iadd, 1) := by decide +kernel
theorem dX6_fall_57 : decode cX6_fall 57 = .ok (.sipush 200, 3) := by decide +kernel
theorem dX6_fall_60 : decode cX6_fall 60 = .ok (.invokestatic 126, 3) := by decide +kernel
theorem dX6_fall_63 : decode cX6_fall 63 = .ok (.invokevirtual 132, 3) := by decide +kernel
theorem dX6_fall_66 : decode cX6_fall 66 = .ok (.iinc 3 1, 3) := by decide +kernel
theorem dX6_fall_69 : decode cX6_fall 69 = .ok (.goto (-34), 3) := by decide +kernel
theorem dX6_fall_72 : decode cX6_fall 72 = .ok (.aload_n 0, 1) := by decide +kernel
theorem dX6_fall_73 : decode cX6_fall 73 = .ok (.getfield 31, 3) := by decide +kernel
theorem dX6_fall_76 : decode cX6_fall 76 = .ok (.aload_n 0, 1) := by decide +kernel
theorem dX6_fall_77 : decode cX6_fall 77 = .ok (.getfield 24, 3) := by decide +kernel
theorem dX6_fall_80 : decode cX6_fall 80 = .ok (.invokevirtual 118, 3) := by decide +kernel
theorem dX6_fall_83 : decode cX6_fall 83 = .ok (.iload_n 2, 1) := by decide +kernel
theorem dX6_fall_84 : decode cX6_fall 84 = .ok (.isub, 1) := by decide +kernel
theorem dX6_fall_85 : decode cX6_fall 85 = .ok (.ireturn, 1) := by decide +kernel
theorem dX6_blow_0 : decode cX6_blow 0 = .ok (.iload_n 1, 1) := by decide +kernel
theorem dX6_blow_1 : decode cX6_blow 1 = .ok (.invokestatic 135, 3) := by decide +kernel
theorem dX6_blow_4 : decode cX6_blow 4 = .ok (.iload_n 2, 1) := by decide +kernel
theorem dX6_blow_5 : decode cX6_blow 5 = .ok (.invokestatic 138, 3) := by decide +kernel
theorem dX6_blow_8 : decode cX6_blow 8 = .ok (.iload_n 3, 1) := by decide +kernel
theorem dX6_blow_9 : decode cX6_blow 9 = .ok (.invokestatic 141, 3) := by decide +kernel
theorem dX6_blow_12 : decode cX6_blow 12 = .ok (.aload_n 0, 1) := by decide +kernel
theorem dX6_blow_13 : decode cX6_blow 13 = .ok (.iconst (-1), 1) := by decide +kernel
theorem dX6_blow_14 : decode cX6_blow 14 = .ok (.invokevirtual 144, 3) := by decide +kernel
theorem dX6_blow_17 : decode cX6_blow 17 = .ok (.aload_n 0, 1) := by decide +kernel
theorem dX6_blow_18 : decode cX6_blow 18 = .ok (.aload_n 0, 1) := by decide +kernel
theorem dX6_blow_19 : decode cX6_blow 19 = .ok (.getfield 31, 3) := by decide +kernel
theorem dX6_blow_22 : decode cX6_blow 22 = .ok (.new 147, 3) := by decide +kernel
theorem dX6_blow_25 : decode cX6_blow 25 = .ok (.dup, 1) := by decide +kernel
theorem dX6_blow_26 : decode cX6_blow 26 = .ok (.iload_n 1, 1) := by decide +kernel
theorem dX6_blow_27 : decode cX6_blow 27 = .ok (.iload_n 2, 1) := by decide +kernel
theorem dX6_blow_28 : decode cX6_blow 28 = .ok (.aload_n 0, 1) := by decide +kernel
theorem dX6_blow_29 : decode cX6_blow 29 = .ok (.getfield 113, 3) := by decide +kernel
theorem dX6_blow_32 : decode cX6_blow 32 = .ok (.invokespecial 149, 3) := by decide +kernel
theorem dX6_blow_35 : decode cX6_blow 35 = .ok (.iload_n 3, 1) := by decide +kernel
theorem dX6_blow_36 : decode cX6_blow 36 = .ok (.invokevirtual 152, 3) := by decide +kernel
theorem dX6_blow_39 : decode cX6_blow 39 = .ok (.istore 4, 2) := by decide +kernel
theorem dX6_blow_41 : decode cX6_blow 41 = .ok (.aload_n 0, 1) := by decide +kernel
theorem dX6_blow_42 : decode cX6_blow 42 = .ok (.dup, 1) := by decide +kernel
theorem dX6_blow_43 : decode cX6_blow 43 = .ok (.getfield 156, 3) := by decide +kernel
theorem dX6_blow_46 : decode cX6_blow 46 = .ok (.iload 4, 2) := by decide +kernel
theorem dX6_blow_48 : decode cX6_blow 48 = .ok (.iadd, 1) := by decide +kernel
theorem dX6_blow_49 : decode cX6_blow 49 = .ok (.putfield 156, 3) := by decide +kernel
theorem dX6_blow_52 : decode cX6_blow 52 = .ok (.aload_n 0, 1) := by decide +kernel
theorem dX6_blow_53 : decode cX6_blow 53 = .ok (.dup, 1) := by decide +kernel
theorem dX6_blow_54 : decode cX6_blow 54 = .ok (.getfield 159, 3) := by decide +kernel
theorem dX6_blow_57 : decode cX6_blow 57 = .ok (.iload_n 3, 1) := by decide +kernel
theorem dX6_blow_58 : decode cX6_blow 58 = .ok (.iadd, 1) := by decide +kernel
theorem dX6_blow_59 : decode cX6_blow 59 = .ok (.putfield 159, 3) := by decide +kernel
theorem dX6_blow_62 : decode cX6_blow 62 = .ok (.iload 4, 2) := by decide +kernel
theorem dX6_blow_64 : decode cX6_blow 64 = .ok (.ireturn, 1) := by decide +kernel
theorem dX6_plough_0 : decode cX6_plough 0 = .ok (.iload_n 1, 1) := by decide +kernel
theorem dX6_plough_1 : decode cX6_plough 1 = .ok (.aload_n 0, 1) := by decide +kernel
theorem dX6_plough_2 : decode cX6_plough 2 = .ok (.getfield 16, 3) := by decide +kernel
theorem dX6_plough_5 : decode cX6_plough 5 = .ok (.invokevirtual 67, 3) := by decide +kernel
theorem dX6_plough_8 : decode cX6_plough 8 = .ok (.invokestatic 63, 3) := by decide +kernel
theorem dX6_plough_11 : decode cX6_plough 11 = .ok (.aload_n 0, 1) := by decide +kernel
theorem dX6_plough_12 : decode cX6_plough 12 = .ok (.getfield 16, 3) := by decide +kernel
theorem dX6_plough_15 : decode cX6_plough 15 = .ok (.iload_n 1, 1) := by decide +kernel
theorem dX6_plough_16 : decode cX6_plough 16 = .ok (.invokevirtual 85, 3) := by decide +kernel
theorem dX6_plough_19 : decode cX6_plough 19 = .ok (.checkcast 100, 3) := by decide +kernel
theorem dX6_plough_22 : decode cX6_plough 22 = .ok (.getfield 162, 3) := by decide +kernel
theorem dX6_plough_25 : decode cX6_plough 25 = .ok (.astore_n 2, 1) := by decide +kernel
theorem dX6_plough_26 : decode cX6_plough 26 = .ok (.aload_n 0, 1) := by decide +kernel
theorem dX6_plough_27 : decode cX6_plough 27 = .ok (.getfield 31, 3) := by decide +kernel
theorem dX6_plough_30 : decode cX6_plough 30 = .ok (.aload_n 2, 1) := by decide +kernel
theorem dX6_plough_31 : decode cX6_plough 31 = .ok (.invokevirtual 118, 3) := by decide +kernel
theorem dX6_plough_34 : decode cX6_plough 34 = .ok (.istore_n 3, 1) := by decide +kernel
theorem dX6_plough_35 : decode cX6_plough 35 = .ok (.aload_n 0, 1) := by decide +kernel
theorem dX6_plough_36 : decode cX6_plough 36 = .ok (.getfield 31, 3) := by decide +kernel
theorem dX6_plough_39 : decode cX6_plough 39 = .ok (.aload_n 2, 1) := by decide +kernel
theorem dX6_plough_40 : decode cX6_plough 40 = .ok (.invokevirtual 165, 3) := by decide +kernel
theorem dX6_plough_43 : decode cX6_plough 43 = .ok (.aload_n 0, 1) := by decide +kernel
theorem dX6_plough_44 : decode cX6_plough 44 = .ok (.dup, 1) := by decide +kernel
theorem dX6_plough_45 : decode cX6_plough 45 = .ok (.getfield 169, 3) := by decide +kernel
theorem dX6_plough_48 : decode cX6_plough 48 = .ok (.iload_n 3, 1) := by decide +kernel
theorem dX6_plough_49 : decode cX6_plough 49 = .ok (.iadd, 1) := by decide +kernel
theorem dX6_plough_50 : decode cX6_plough 50 = .ok (.putfield 169, 3) := by decide +kernel
theorem dX6_plough_53 : decode cX6_plough 53 = .ok (.iload_n 3, 1) := by decide +kernel
theorem dX6_plough_54 : decode cX6_plough 54 = .ok (.ireturn, 1) := by decide +kernel
theorem dX6_snow_0 : decode cX6_snow 0 = .ok (.iload_n 1, 1) := by decide +kernel
theorem dX6_snow_1 : decode cX6_snow 1 = .ok (.bipush 20, 2) := by decide +kernel
theorem dX6_snow_3 : decode cX6_snow 3 = .ok (.invokestatic 63, 3) := by decide +kernel
theorem dX6_snow_6 : decode cX6_snow 6 = .ok (.iload_n 2, 1) := by decide +kernel
theorem dX6_snow_7 : decode cX6_snow 7 = .ok (.bipush 20, 2) := by decide +kernel
theorem dX6_snow_9 : decode cX6_snow 9 = .ok (.invokestatic 63, 3) := by decide +kernel
theorem dX6_snow_12 : decode cX6_snow 12 = .ok (.aload_n 0, 1) := by decide +kernel
theorem dX6_snow_13 : decode cX6_snow 13 = .ok (.getfield 31, 3) := by decide +kernel
theorem dX6_snow_16 : decode cX6_snow 16 = .ok (.iload_n 2, 1) := by decide +kernel
theorem dX6_snow_17 : decode cX6_snow 17 = .ok (.bipush 20, 2) := by decide +kernel
theorem dX6_snow_19 : decode cX6_snow 19 = .ok (.imul, 1) := by decide +kernel
theorem dX6_snow_20 : decode cX6_snow 20 = .ok (.iload_n 1, 1) := by decide +kernel
theorem dX6_snow_21 : decode cX6_snow 21 = .ok (.iadd, 1) := by decide +kernel
theorem dX6_snow_22 : decode cX6_snow 22 = .ok (.invokevirtual 122, 3) := by decide +kernel
theorem dX6_snow_25 : decode cX6_snow 25 = .ok (.ireturn, 1) := by decide +kernel
theorem dX6_about_0 : decode cX6_about 0 = .ok (.iload_n 1, 1) := by decide +kernel
theorem dX6_about_1 : decode cX6_about 1 = .ok (.aload_n 0, 1) := by decide +kernel
theorem dX6_about_2 : decode cX6_about 2 = .ok (.getfield 10, 3) := by decide +kernel
theorem dX6_about_5 : decode cX6_about 5 = .ok (.invokevirtual 67, 3) := by decide +kernel
theorem dX6_about_8 : decode cX6_about 8 = .ok (.invokestatic 63, 3) := by decide +kernel
theorem dX6_about_11 : decode cX6_about 11 = .ok (.iload_n 2, 1) := by decide +kernel
theorem dX6_about_12 : decode cX6_about 12 = .ok (.bipush 7, 2) := by decide +kernel
theorem dX6_about_14 : decode cX6_about 14 = .ok (.invokestatic 63, 3) := by decide +kernel
theorem dX6_about_17 : decode cX6_about 17 = .ok (.aload_n 0, 1) := by decide +kernel
theorem dX6_about_18 : decode cX6_about 18 = .ok (.getfield 10, 3) := by decide +kernel
theorem dX6_about_21 : decode cX6_about 21 = .ok (.iload_n 1, 1) := by decide +kernel
theorem dX6_about_22 : decode cX6_about 22 = .ok (.invokevirtual 85, 3) := by decide +kernel
theorem dX6_about_25 : decode cX6_about 25 = .ok (.checkcast 76, 3) := by decide +kernel
theorem dX6_about_28 : decode cX6_about 28 = .ok (.astore_n 3, 1) := by decide +kernel
theorem dX6_about_29 : decode cX6_about 29 = .ok (.iload_n 2, 1) := by decide +kernel
theorem dX6_about_30 : decode cX6_about 30 = .ok (.tableswitch 82 0 5 #[38, 43, 48, 56, 72, 77], 38) := by decide +kernel
theorem dX6_about_68 : decode cX6_about 68 = .ok (.aload_n 3, 1) := by decide +kernel
theorem dX6_about_69 : decode cX6_about 69 = .ok (.getfield 172, 3) := by decide +kernel
theorem dX6_about_72 : decode cX6_about 72 = .ok (.ireturn, 1) := by decide +kernel
theorem dX6_about_73 : decode cX6_about 73 = .ok (.aload_n 3, 1) := by decide +kernel
theorem dX6_about_74 : decode cX6_about 74 = .ok (.getfield 175, 3) := by decide +kernel
theorem dX6_about_77 : decode cX6_about 77 = .ok (.ireturn, 1) := by decide +kernel
theorem dX6_about_78 : decode cX6_about 78 = .ok (.aload_n 3, 1) := by decide +kernel
theorem dX6_about_79 : decode cX6_about 79 = .ok (.getfield 178, 3) := by decide +kernel
theorem dX6_about_82 : decode cX6_about 82 = .ok (.getfield 179, 3) := by decide +kernel
theorem dX6_about_85 : decode cX6_about 85 = .ok (.ireturn, 1) := by decide +kernel
theorem dX6_about_86 : decode cX6_about 86 = .ok (.aload_n 3, 1) := by decide +kernel
theorem dX6_about_87 : decode cX6_about 87 = .ok (.getfield 178, 3) := by decide +kernel
theorem dX6_about_90 : decode cX6_about 90 = .ok (.getfield 182, 3) := by decide +kernel
theorem dX6_about_93 : decode cX6_about 93 = .ok (.ifCond .eq 7, 3) := by decide +kernel
theorem dX6_about_96 : decode cX6_about 96 = .ok (.iconst 1, 1) := by decide +kernel
theorem dX6_about_97 : decode cX6_about 97 = .ok (.goto 4, 3) := by decide +kernel
theorem dX6_about_100 : decode cX6_about 100 = .ok (.iconst 0, 1) := by decide +kernel
theorem dX6_about_101 : decode cX6_about 101 = .ok (.ireturn, 1) := by decide +kernel
theorem dX6_about_102 : decode cX6_about 102 = .ok (.aload_n 3, 1) := by decide +kernel
theorem dX6_about_103 : decode cX6_about 103 = .ok (.getfield 89, 3) := by decide +kernel
theorem dX6_about_106 : decode cX6_about 106 = .ok (.ireturn, 1) := by decide +kernel
theorem dX6_about_107 : decode cX6_about 107 = .ok (.aload_n 3, 1) := by decide +kernel
theorem dX6_about_108 : decode cX6_about 108 = .ok (.getfield 92, 3) := by decide +kernel
theorem dX6_about_111 : decode cX6_about 111 = .ok (.ireturn, 1) := by decide +kernel
theorem dX6_about_112 : decode cX6_about 112 = .ok (.aload_n 0, 1) := by decide +kernel
theorem dX6_about_113 : decode cX6_about 113 = .ok (.getfield 31, 3) := by decide +kernel
theorem dX6_about_116 : decode cX6_about 116 = .ok (.aload_n 3, 1) := by decide +kernel
theorem dX6_about_117 : decode cX6_about 117 = .ok (.getfield 178, 3) := by decide +kernel
theorem dX6_about_120 : decode cX6_about 120 = .ok (.invokevirtual 118, 3) := by decide +kernel
theorem dX6_about_123 : decode cX6_about 123 = .ok (.ireturn, 1) := by decide +kernel
theorem dX6_told_0 : decode cX6_told 0 = .ok (.iload_n 1, 1) := by decide +kernel
theorem dX6_told_1 : decode cX6_told 1 = .ok (.aload_n 0, 1) := by decide +kernel
theorem dX6_told_2 : decode cX6_told 2 = .ok (.getfield 16, 3) := by decide +kernel
theorem dX6_told_5 : decode cX6_told 5 = .ok (.invokevirtual 67, 3) := by decide +kernel
theorem dX6_told_8 : decode cX6_told 8 = .ok (.invokestatic 63, 3) := by decide +kernel
theorem dX6_told_11 : decode cX6_told 11 = .ok (.iload_n 2, 1) := by decide +kernel
theorem dX6_told_12 : decode cX6_told 12 = .ok (.iconst 5, 1) := by decide +kernel
theorem dX6_told_13 : decode cX6_told 13 = .ok (.invokestatic 63, 3) := by decide +kernel
theorem dX6_told_16 : decode cX6_told 16 = .ok (.aload_n 0, 1) := by decide +kernel
theorem dX6_told_17 : decode cX6_told 17 = .ok (.getfield 16, 3) := by decide +kernel
theorem dX6_told_20 : decode cX6_told 20 = .ok (.iload_n 1, 1) := by decide +kernel
theorem dX6_told_21 : decode cX6_told 21 = .ok (.invokevirtual 85, 3) := by decide +kernel
theorem dX6_told_24 : decode cX6_told 24 = .ok (.checkcast 100, 3) := by decide +kernel
theorem dX6_told_27 : decode cX6_told 27 = .ok (.astore_n 3, 1) := by decide +kernel
theorem dX6_told_28 : decode cX6_told 28 = .ok (.iload_n 2, 1) := by decide +kernel
theorem dX6_told_29 : decode cX6_told 29 = .ok (.tableswitch 80 0 3 #[31, 47, 52, 68], 31) := by decide +kernel
theorem dX6_told_60 : decode cX6_told 60 = .ok (.aload_n 3, 1) := by decide +kernel
theorem dX6_told_61 : decode cX6_told 61 = .ok (.getfield 162, 3) := by decide +kernel
theorem dX6_told_64 : decode cX6_told 64 = .ok (.getfield 182, 3) := by decide +kernel
theorem dX6_told_67 : decode cX6_told 67 = .ok (.ifCond .eq 7, 3) := by decide +kernel
theorem dX6_told_70 : decode cX6_told 70 = .ok (.iconst 1, 1) := by decide +kernel
theorem dX6_told_71 : decode cX6_told 71 = .ok (.goto 4, 3) := by decide +kernel
theorem dX6_told_74 : decode cX6_told 74 = .ok (.iconst 0, 1) := by decide +kernel
theorem dX6_told_75 : decode cX6_told 75 = .ok (.ireturn, 1) := by decide +kernel
theorem dX6_told_76 : decode cX6_told 76 = .ok (.aload_n 3, 1) := by decide +kernel
theorem dX6_told_77 : decode cX6_told 77 = .ok (.getfield 186, 3) := by decide +kernel
theorem dX6_told_80 : decode cX6_told 80 = .ok (.ireturn, 1) := by decide +kernel
theorem dX6_told_81 : decode cX6_told 81 = .ok (.aload_n 0, 1) := by decide +kernel
theorem dX6_told_82 : decode cX6_told 82 = .ok (.getfield 31, 3) := by decide +kernel
theorem dX6_told_85 : decode cX6_told 85 = .ok (.aload_n 3, 1) := by decide +kernel
theorem dX6_told_86 : decode cX6_told 86 = .ok (.getfield 162, 3) := by decide +kernel
theorem dX6_told_89 : decode cX6_told 89 = .ok (.aload_n 0, 1) := by decide +kernel
theorem dX6_told_90 : decode cX6_told 90 = .ok (.getfield 45, 3) := by decide +kernel
theorem dX6_told_93 : decode cX6_told 93 = .ok (.invokevirtual 189, 3) := by decide +kernel
theorem dX6_told_96 : decode cX6_told 96 = .ok (.ireturn, 1) := by decide +kernel
theorem dX6_told_97 : decode cX6_told 97 = .ok (.aload_n 0, 1) := by decide +kernel
theorem dX6_told_98 : decode cX6_told 98 = .ok (.getfield 31, 3) := by decide +kernel
theorem dX6_told_101 : decode cX6_told 101 = .ok (.aload_n 3, 1) := by decide +kernel
theorem dX6_told_102 : decode cX6_told 102 = .ok (.getfield 162, 3) := by decide +kernel
theorem dX6_told_105 : decode cX6_told 105 = .ok (.invokevirtual 118, 3) := by decide +kernel
theorem dX6_told_108 : decode cX6_told 108 = .ok (.ireturn, 1) := by decide +kernel
theorem dX6_told_109 : decode cX6_told 109 = .ok (.aload_n 0, 1) := by decide +kernel
theorem dX6_told_110 : decode cX6_told 110 = .ok (.getfield 31, 3) := by decide +kernel
theorem dX6_told_113 : decode cX6_told 113 = .ok (.aload_n 3, 1) := by decide +kernel
theorem dX6_told_114 : decode cX6_told 114 = .ok (.getfield 162, 3) := by decide +kernel
theorem dX6_told_117 : decode cX6_told 117 = .ok (.invokevirtual 193, 3) := by decide +kernel
theorem dX6_told_120 : decode cX6_told 120 = .ok (.ireturn, 1) := by decide +kernel
theorem dX6_count_0 : decode cX6_count 0 = .ok (.iload_n 1, 1) := by decide +kernel
theorem dX6_count_1 : decode cX6_count 1 = .ok (.bipush 10, 2) := by decide +kernel
theorem dX6_count_3 : decode cX6_count 3 = .ok (.invokestatic 63, 3) := by decide +kernel
theorem dX6_count_6 : decode cX6_count 6 = .ok (.iload_n 1, 1) := by decide +kernel
theorem dX6_count_7 : decode cX6_count 7 = .ok (.tableswitch 118 0 8 #[49, 57, 65, 77, 89, 98, 103, 108, 113], 49) := by decide +kernel
theorem dX6_count_56 : decode cX6_count 56 = .ok (.aload_n 0, 1) := by decide +kernel
theorem dX6_count_57 : decode cX6_count 57 = .ok (.getfield 10, 3) := by decide +kernel
theorem dX6_count_60 : decode cX6_count 60 = .ok (.invokevirtual 67, 3) := by decide +kernel
theorem dX6_count_63 : decode cX6_count 63 = .ok (.ireturn, 1) := by decide +kernel
theorem dX6_count_64 : decode cX6_count 64 = .ok (.aload_n 0, 1) := by decide +kernel
theorem dX6_count_65 : decode cX6_count 65 = .ok (.getfield 16, 3) := by decide +kernel
theorem dX6_count_68 : decode cX6_count 68 = .ok (.invokevirtual 67, 3) := by decide +kernel
theorem dX6_count_71 : decode cX6_count 71 = .ok (.ireturn, 1) := by decide +kernel
theorem dX6_count_72 : decode cX6_count 72 = .ok (.aload_n 0, 1) := by decide +kernel
theorem dX6_count_73 : decode cX6_count 73 = .ok (.getfield 31, 3) := by decide +kernel
theorem dX6_count_76 : decode cX6_count 76 = .ok (.aload_n 0, 1) := by decide +kernel
theorem dX6_count_77 : decode cX6_count 77 = .ok (.getfield 24, 3) := by decide +kernel
theorem dX6_count_80 : decode cX6_count 80 = .ok (.invokevirtual 118, 3) := by decide +kernel
theorem dX6_count_83 : decode cX6_count 83 = .ok (.ireturn, 1) := by decide +kernel
theorem dX6_count_84 : decode cX6_count 84 = .ok (.aload_n 0, 1) := by decide +kernel
theorem dX6_count_85 : decode cX6_count 85 = .ok (.getfield 31, 3) := by decide +kernel
theorem dX6_count_88 : decode cX6_count 88 = .ok (.aload_n 0, 1) := by decide +kernel
theorem dX6_count_89 : decode cX6_count 89 = .ok (.getfield 24, 3) := by decide +kernel
theorem dX6_count_92 : decode cX6_count 92 = .ok (.invokevirtual 193, 3) := by decide +kernel
theorem dX6_count_95 : decode cX6_count 95 = .ok (.ireturn, 1) := by decide +kernel
theorem dX6_count_96 : decode cX6_count 96 = .ok (.aload_n 0, 1) := by decide +kernel
theorem dX6_count_97 : decode cX6_count 97 = .ok (.aload_n 0, 1) := by decide +kernel
theorem dX6_count_98 : decode cX6_count 98 = .ok (.getfield 31, 3) := by decide +kernel
theorem dX6_count_101 : decode cX6_count 101 = .ok (.invokevirtual 196, 3) := by decide +kernel
theorem dX6_count_104 : decode cX6_count 104 = .ok (.ireturn, 1) := by decide +kernel
theorem dX6_count_105 : decode cX6_count 105 = .ok (.aload_n 0, 1) := by decide +kernel
theorem dX6_count_106 : decode cX6_count 106 = .ok (.getfield 156, 3) := by decide +kernel
theorem dX6_count_109 : decode cX6_count 109 = .ok (.ireturn, 1) := by decide +kernel
theorem dX6_count_110 : decode cX6_count 110 = .ok (.aload_n 0, 1) := by decide +kernel
theorem dX6_count_111 : decode cX6_count 111 = .ok (.getfield 169, 3) := by decide +kernel
theorem dX6_count_114 : decode cX6_count 114 = .ok (.ireturn, 1) := by decide +kernel
theorem dX6_count_115 : decode cX6_count 115 = .ok (.aload_n 0, 1) := by decide +kernel
theorem dX6_count_116 : decode cX6_count 116 = .ok (.getfield 159, 3) := by decide +kernel
theorem dX6_count_119 : decode cX6_count 119 = .ok (.ireturn, 1) := by decide +kernel
theorem dX6_count_120 : decode cX6_count 120 = .ok (.aload_n 0, 1) := by decide +kernel
theorem dX6_count_121 : decode cX6_count 121 = .ok (.getfield 45, 3) := by decide +kernel
theorem dX6_count_124 : decode cX6_count 124 = .ok (.ireturn, 1) := by decide +kernel
theorem dX6_count_125 : decode cX6_count 125 = .ok (.aload_n 0, 1) := by decide +kernel
theorem dX6_count_126 : decode cX6_count 126 = .ok (.getfield 113, 3) := by decide +kernel
theorem dX6_count_129 : decode cX6_count 129 = .ok (.ireturn, 1) := by decide +kernel
theorem dX6_would_0 : decode cX6_would 0 = .ok (.iload_n 1, 1) := by decide +kernel
theorem dX6_would_1 : decode cX6_would 1 = .ok (.invokestatic 135, 3) := by decide +kernel
theorem dX6_would_4 : decode cX6_would 4 = .ok (.iload 4, 2) := by decide +kernel
theorem dX6_would_6 : decode cX6_would 6 = .ok (.aload_n 0, 1) := by decide +kernel
theorem dX6_would_7 : decode cX6_would 7 = .ok (.getfield 16, 3) := by decide +kernel
theorem dX6_would_10 : decode cX6_would 10 = .ok (.invokevirtual 67, 3) := by decide +kernel
theorem dX6_would_13 : decode cX6_would 13 = .ok (.invokestatic 63, 3) := by decide +kernel
theorem dX6_would_16 : decode cX6_would 16 = .ok (.iload_n 2, 1) := by decide +kernel
theorem dX6_would_17 : decode cX6_would 17 = .ok (.invokestatic 138, 3) := by decide +kernel
theorem dX6_would_20 : decode cX6_would 20 = .ok (.iload_n 3, 1) := by decide +kernel
theorem dX6_would_21 : decode cX6_would 21 = .ok (.invokestatic 141, 3) := by decide +kernel
theorem dX6_would_24 : decode cX6_would 24 = .ok (.aload_n 0, 1) := by decide +kernel
theorem dX6_would_25 : decode cX6_would 25 = .ok (.iconst (-1), 1) := by decide +kernel
theorem dX6_would_26 : decode cX6_would 26 = .ok (.invokevirtual 144, 3) := by decide +kernel
theorem dX6_would_29 : decode cX6_would 29 = .ok (.aload_n 0, 1) := by decide +kernel
theorem dX6_would_30 : decode cX6_would 30 = .ok (.getfield 35, 3) := by decide +kernel
theorem dX6_would_33 : decode cX6_would 33 = .ok (.aload_n 0, 1) := by decide +kernel
theorem dX6_would_34 : decode cX6_would 34 = .ok (.getfield 31, 3) := by decide +kernel
theorem dX6_would_37 : decode cX6_would 37 = .ok (.invokevirtual 200, 3) := by decide +kernel
theorem dX6_would_40 : decode cX6_would 40 = .ok (.aload_n 0, 1) := by decide +kernel
theorem dX6_would_41 : decode cX6_would 41 = .ok (.aload_n 0, 1) := by decide +kernel
theorem dX6_would_42 : decode cX6_would 42 = .ok (.getfield 35, 3) := by decide +kernel
theorem dX6_would_45 : decode cX6_would 45 = .ok (.new 147, 3) := by decide +kernel
theorem dX6_would_48 : decode cX6_would 48 = .ok (.dup, 1) := by decide +kernel
theorem dX6_would_49 : decode cX6_would 49 = .ok (.iload_n 1, 1) := by decide +kernel
theorem dX6_would_50 : decode cX6_would 50 = .ok (.iload_n 2, 1) := by decide +kernel
theorem dX6_would_51 : decode cX6_would 51 = .ok (.aload_n 0, 1) := by decide +kernel
theorem dX6_would_52 : decode cX6_would 52 = .ok (.getfield 113, 3) := by decide +kernel
theorem dX6_would_55 : decode cX6_would 55 = .ok (.invokespecial 149, 3) := by decide +kernel
theorem dX6_would_58 : decode cX6_would 58 = .ok (.iload_n 3, 1) := by decide +kernel
theorem dX6_would_59 : decode cX6_would 59 = .ok (.invokevirtual 152, 3) := by decide +kernel
theorem dX6_would_62 : decode cX6_would 62 = .ok (.pop, 1) := by decide +kernel
theorem dX6_would_63 : decode cX6_would 63 = .ok (.aload_n 0, 1) := by decide +kernel
theorem dX6_would_64 : decode cX6_would 64 = .ok (.getfield 35, 3) := by decide +kernel
theorem dX6_would_67 : decode cX6_would 67 = .ok (.aload_n 0, 1) := by decide +kernel
theorem dX6_would_68 : decode cX6_would 68 = .ok (.getfield 16, 3) := by decide +kernel
theorem dX6_would_71 : decode cX6_would 71 = .ok (.iload 4, 2) := by decide +kernel
theorem dX6_would_73 : decode cX6_would 73 = .ok (.invokevirtual 85, 3) := by decide +kernel
theorem dX6_would_76 : decode cX6_would 76 = .ok (.checkcast 100, 3) := by decide +kernel
theorem dX6_would_79 : decode cX6_would 79 = .ok (.getfield 162, 3) := by decide +kernel
theorem dX6_would_82 : decode cX6_would 82 = .ok (.aload_n 0, 1) := by decide +kernel
theorem dX6_would_83 : decode cX6_would 83 = .ok (.getfield 45, 3) := by decide +kernel
theorem dX6_would_86 : decode cX6_would 86 = .ok (.invokevirtual 189, 3) := by decide +kernel
theorem dX6_would_89 : decode cX6_would 89 = .ok (.ireturn, 1) := by decide +kernel
theorem dX6_until_0 : decode cX6_until 0 = .ok (.iload_n 1, 1) := by decide +kernel
theorem dX6_until_1 : decode cX6_until 1 = .ok (.invokestatic 135, 3) := by decide +kernel
theorem dX6_until_4 : decode cX6_until 4 = .ok (.iload_n 3, 1) := by decide +kernel
theorem dX6_until_5 : decode cX6_until 5 = .ok (.aload_n 0, 1) := by decide +kernel
theorem dX6_until_6 : decode cX6_until 6 = .ok (.getfield 16, 3) := by decide +kernel
theorem dX6_until_9 : decode cX6_until 9 = .ok (.invokevirtual 67, 3) := by decide +kernel
theorem dX6_until_12 : decode cX6_until 12 = .ok (.invokestatic 63, 3) := by decide +kernel
theorem dX6_until_15 : decode cX6_until 15 = .ok (.iload_n 2, 1) := by decide +kernel
theorem dX6_until_16 : decode cX6_until 16 = .ok (.invokestatic 138, 3) := by decide +kernel
theorem dX6_until_19 : decode cX6_until 19 = .ok (.aload_n 0, 1) := by decide +kernel
theorem dX6_until_20 : decode cX6_until 20 = .ok (.getfield 16, 3) := by decide +kernel
theorem dX6_until_23 : decode cX6_until 23 = .ok (.iload_n 3, 1) := by decide +kernel
theorem dX6_until_24 : decode cX6_until 24 = .ok (.invokevirtual 85, 3) := by decide +kernel
theorem dX6_until_27 : decode cX6_until 27 = .ok (.checkcast 100, 3) := by decide +kernel
theorem dX6_until_30 : decode cX6_until 30 = .ok (.getfield 162, 3) := by decide +kernel
theorem dX6_until_33 : decode cX6_until 33 = .ok (.astore 4, 2) := by decide +kernel
theorem dX6_until_35 : decode cX6_until 35 = .ok (.new 147, 3) := by decide +kernel
theorem dX6_until_38 : decode cX6_until 38 = .ok (.dup, 1) := by decide +kernel
theorem dX6_until_39 : decode cX6_until 39 = .ok (.iload_n 1, 1) := by decide +kernel
theorem dX6_until_40 : decode cX6_until 40 = .ok (.iload_n 2, 1) := by decide +kernel
theorem dX6_until_41 : decode cX6_until 41 = .ok (.aload_n 0, 1) := by decide +kernel
theorem dX6_until_42 : decode cX6_until 42 = .ok (.getfield 113, 3) := by decide +kernel
theorem dX6_until_45 : decode cX6_until 45 = .ok (.invokespecial 149, 3) := by decide +kernel
theorem dX6_until_48 : decode cX6_until 48 = .ok (.astore 5, 2) := by decide +kernel
theorem dX6_until_50 : decode cX6_until 50 = .ok (.aload_n 0, 1) := by decide +kernel
theorem dX6_until_51 : decode cX6_until 51 = .ok (.iconst (-1), 1) := by decide +kernel
theorem dX6_until_52 : decode cX6_until 52 = .ok (.invokevirtual 144, 3) := by decide +kernel
theorem dX6_until_55 : decode cX6_until 55 = .ok (.aload_n 0, 1) := by decide +kernel
theorem dX6_until_56 : decode cX6_until 56 = .ok (.getfield 35, 3) := by decide +kernel
theorem dX6_until_59 : decode cX6_until 59 = .ok (.aload_n 0, 1) := by decide +kernel
theorem dX6_until_60 : decode cX6_until 60 = .ok (.getfield 31, 3) := by decide +kernel
theorem dX6_until_63 : decode cX6_until 63 = .ok (.invokevirtual 200, 3) := by decide +kernel
theorem dX6_until_66 : decode cX6_until 66 = .ok (.iconst 0, 1) := by decide +kernel
theorem dX6_until_67 : decode cX6_until 67 = .ok (.istore 6, 2) := by decide +kernel
theorem dX6_until_69 : decode cX6_until 69 = .ok (.iload 6, 2) := by decide +kernel
theorem dX6_until_71 : decode cX6_until 71 = .ok (.bipush 48, 2) := by decide +kernel
theorem dX6_until_73 : decode cX6_until 73 = .ok (.if_icmp .gt 40, 3) := by decide +kernel
theorem dX6_until_76 : decode cX6_until 76 = .ok (.aload_n 0, 1) := by decide +kernel
theorem dX6_until_77 : decode cX6_until 77 = .ok (.getfield 35, 3) := by decide +kernel
theorem dX6_until_80 : decode cX6_until 80 = .ok (.aload 4, 2) := by decide +kernel
theorem dX6_until_82 : decode cX6_until 82 = .ok (.aload_n 0, 1) := by decide +kernel
theorem dX6_until_83 : decode cX6_until 83 = .ok (.getfield 45, 3) := by decide +kernel
theorem dX6_until_86 : decode cX6_until 86 = .ok (.invokevirtual 189, 3) := by decide +kernel
theorem dX6_until_89 : decode cX6_until 89 = .ok (.ifCond .le 6, 3) := by decide +kernel
theorem dX6_until_92 : decode cX6_until 92 = .ok (.iload 6, 2) := by decide +kernel
theorem dX6_until_94 : decode cX6_until 94 = .ok (.ireturn, 1) := by decide +kernel
theorem dX6_until_95 : decode cX6_until 95 = .ok (.aload_n 0, 1) := by decide +kernel
theorem dX6_until_96 : decode cX6_until 96 = .ok (.aload_n 0, 1) := by decide +kernel
theorem dX6_until_97 : decode cX6_until 97 = .ok (.getfield 35, 3) := by decide +kernel
theorem dX6_until_100 : decode cX6_until 100 = .ok (.aload 5, 2) := by decide +kernel
theorem dX6_until_102 : decode cX6_until 102 = .ok (.iconst 1, 1) := by decide +kernel
theorem dX6_until_103 : decode cX6_until 103 = .ok (.invokevirtual 152, 3) := by decide +kernel
theorem dX6_until_106 : decode cX6_until 106 = .ok (.pop, 1) := by decide +kernel
theorem dX6_until_107 : decode cX6_until 107 = .ok (.iinc 6 1, 3) := by decide +kernel
theorem dX6_until_110 : decode cX6_until 110 = .ok (.goto (-41), 3) := by decide +kernel
theorem dX6_until_113 : decode cX6_until 113 = .ok (.iconst (-1), 1) := by decide +kernel
theorem dX6_until_114 : decode cX6_until 114 = .ok (.ireturn, 1) := by decide +kernel
theorem dX6_advise_0 : decode cX6_advise 0 = .ok (.iload_n 1, 1) := by decide +kernel
theorem dX6_advise_1 : decode cX6_advise 1 = .ok (.invokestatic 135, 3) := by decide +kernel
theorem dX6_advise_4 : decode cX6_advise 4 = .ok (.iload_n 2, 1) := by decide +kernel
theorem dX6_advise_5 : decode cX6_advise 5 = .ok (.invokestatic 138, 3) := by decide +kernel
theorem dX6_advise_8 : decode cX6_advise 8 = .ok (.iload_n 3, 1) := by decide +kernel
theorem dX6_advise_9 : decode cX6_advise 9 = .ok (.invokestatic 56, 3) := by decide +kernel
theorem dX6_advise_12 : decode cX6_advise 12 = .ok (.new 147, 3) := by decide +kernel
theorem dX6_advise_15 : decode cX6_advise 15 = .ok (.dup, 1) := by decide +kernel
theorem dX6_advise_16 : decode cX6_advise 16 = .ok (.iload_n 1, 1) := by decide +kernel
theorem dX6_advise_17 : decode cX6_advise 17 = .ok (.iload_n 2, 1) := by decide +kernel
theorem dX6_advise_18 : decode cX6_advise 18 = .ok (.aload_n 0, 1) := by decide +kernel
theorem dX6_advise_19 : decode cX6_advise 19 = .ok (.getfield 113, 3) := by decide +kernel
theorem dX6_advise_22 : decode cX6_advise 22 = .ok (.invokespecial 149, 3) := by decide +kernel
theorem dX6_advise_25 : decode cX6_advise 25 = .ok (.astore 4, 2) := by decide +kernel
theorem dX6_advise_27 : decode cX6_advise 27 = .ok (.iconst 0, 1) := by decide +kernel
theorem dX6_advise_28 : decode cX6_advise 28 = .ok (.istore 5, 2) := by decide +kernel
theorem dX6_advise_30 : decode cX6_advise 30 = .ok (.bipush 81, 2) := by decide +kernel
theorem dX6_advise_32 : decode cX6_advise 32 = .ok (.istore 6, 2) := by decide +kernel
theorem dX6_advise_34 : decode cX6_advise 34 = .ok (.iconst 0, 1) := by decide +kernel
theorem dX6_advise_35 : decode cX6_advise 35 = .ok (.istore 7, 2) := by decide +kernel
theorem dX6_advise_37 : decode cX6_advise 37 = .ok (.iload 7, 2) := by decide +kernel
theorem dX6_advise_39 : decode cX6_advise 39 = .ok (.bipush 20, 2) := by decide +kernel
theorem dX6_advise_41 : decode cX6_advise 41 = .ok (.if_icmp .ge 64, 3) := by decide +kernel
