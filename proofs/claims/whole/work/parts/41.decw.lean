theorem dL_fence_0 : decode cL_fence 0 = .ok (.aload 7, 2) := by decide +kernel
theorem dL_fence_2 : decode cL_fence 2 = .ok (.iconst 0, 1) := by decide +kernel
theorem dL_fence_3 : decode cL_fence 3 = .ok (.aload_n 0, 1) := by decide +kernel
theorem dL_fence_4 : decode cL_fence 4 = .ok (.iload_n 1, 1) := by decide +kernel
theorem dL_fence_5 : decode cL_fence 5 = .ok (.iload_n 2, 1) := by decide +kernel
theorem dL_fence_6 : decode cL_fence 6 = .ok (.iload_n 3, 1) := by decide +kernel
theorem dL_fence_7 : decode cL_fence 7 = .ok (.iload 4, 2) := by decide +kernel
theorem dL_fence_9 : decode cL_fence 9 = .ok (.iload 5, 2) := by decide +kernel
theorem dL_fence_11 : decode cL_fence 11 = .ok (.iload 6, 2) := by decide +kernel
theorem dL_fence_13 : decode cL_fence 13 = .ok (.invokevirtual 7, 3) := by decide +kernel
theorem dL_fence_16 : decode cL_fence 16 = .ok (.i2l, 1) := by decide +kernel
theorem dL_fence_17 : decode cL_fence 17 = .ok (.lastore, 1) := by decide +kernel
theorem dL_fence_18 : decode cL_fence 18 = .ok (.goto 15, 3) := by decide +kernel
theorem dL_fence_21 : decode cL_fence 21 = .ok (.astore 8, 2) := by decide +kernel
theorem dL_fence_23 : decode cL_fence 23 = .ok (.iconst 1, 1) := by decide +kernel
theorem dL_fence_24 : decode cL_fence 24 = .ok (.ireturn, 1) := by decide +kernel
theorem dL_fence_25 : decode cL_fence 25 = .ok (.astore 8, 2) := by decide +kernel
theorem dL_fence_27 : decode cL_fence 27 = .ok (.iconst 2, 1) := by decide +kernel
theorem dL_fence_28 : decode cL_fence 28 = .ok (.ireturn, 1) := by decide +kernel
theorem dL_fence_29 : decode cL_fence 29 = .ok (.astore 8, 2) := by decide +kernel
theorem dL_fence_31 : decode cL_fence 31 = .ok (.iconst 3, 1) := by decide +kernel
theorem dL_fence_32 : decode cL_fence 32 = .ok (.ireturn, 1) := by decide +kernel
theorem dL_fence_33 : decode cL_fence 33 = .ok (.iconst 0, 1) := by decide +kernel
theorem dL_fence_34 : decode cL_fence 34 = .ok (.ireturn, 1) := by decide +kernel
theorem dL_change_0 : decode cL_change 0 = .ok (.aload 4, 2) := by decide +kernel
theorem dL_change_2 : decode cL_change 2 = .ok (.iconst 0, 1) := by decide +kernel
theorem dL_change_3 : decode cL_change 3 = .ok (.aload_n 0, 1) := by decide +kernel
theorem dL_change_4 : decode cL_change 4 = .ok (.iload_n 1, 1) := by decide +kernel
theorem dL_change_5 : decode cL_change 5 = .ok (.iload_n 2, 1) := by decide +kernel
theorem dL_change_6 : decode cL_change 6 = .ok (.iload_n 3, 1) := by decide +kernel
theorem dL_change_7 : decode cL_change 7 = .ok (.invokevirtual 19, 3) := by decide +kernel
theorem dL_change_10 : decode cL_change 10 = .ok (.i2l, 1) := by decide +kernel
theorem dL_change_11 : decode cL_change 11 = .ok (.lastore, 1) := by decide +kernel
theorem dL_change_12 : decode cL_change 12 = .ok (.goto 11, 3) := by decide +kernel
theorem dL_change_15 : decode cL_change 15 = .ok (.astore 5, 2) := by decide +kernel
theorem dL_change_17 : decode cL_change 17 = .ok (.iconst 1, 1) := by decide +kernel
theorem dL_change_18 : decode cL_change 18 = .ok (.ireturn, 1) := by decide +kernel
theorem dL_change_19 : decode cL_change 19 = .ok (.astore 5, 2) := by decide +kernel
theorem dL_change_21 : decode cL_change 21 = .ok (.iconst 2, 1) := by decide +kernel
theorem dL_change_22 : decode cL_change 22 = .ok (.ireturn, 1) := by decide +kernel
theorem dL_change_23 : decode cL_change 23 = .ok (.iconst 0, 1) := by decide +kernel
theorem dL_change_24 : decode cL_change 24 = .ok (.ireturn, 1) := by decide +kernel
theorem dL_take_0 : decode cL_take 0 = .ok (.aload_n 2, 1) := by decide +kernel
theorem dL_take_1 : decode cL_take 1 = .ok (.iconst 0, 1) := by decide +kernel
theorem dL_take_2 : decode cL_take 2 = .ok (.aload_n 0, 1) := by decide +kernel
theorem dL_take_3 : decode cL_take 3 = .ok (.iload_n 1, 1) := by decide +kernel
theorem dL_take_4 : decode cL_take 4 = .ok (.invokevirtual 23, 3) := by decide +kernel
theorem dL_take_7 : decode cL_take 7 = .ok (.i2l, 1) := by decide +kernel
theorem dL_take_8 : decode cL_take 8 = .ok (.lastore, 1) := by decide +kernel
theorem dL_take_9 : decode cL_take 9 = .ok (.goto 6, 3) := by decide +kernel
theorem dL_take_12 : decode cL_take 12 = .ok (.astore_n 3, 1) := by decide +kernel
theorem dL_take_13 : decode cL_take 13 = .ok (.iconst 1, 1) := by decide +kernel
theorem dL_take_14 : decode cL_take 14 = .ok (.ireturn, 1) := by decide +kernel
theorem dL_take_15 : decode cL_take 15 = .ok (.iconst 0, 1) := by decide +kernel
theorem dL_take_16 : decode cL_take 16 = .ok (.ireturn, 1) := by decide +kernel
theorem dL_road_0 : decode cL_road 0 = .ok (.aload_n 3, 1) := by decide +kernel
theorem dL_road_1 : decode cL_road 1 = .ok (.iconst 0, 1) := by decide +kernel
theorem dL_road_2 : decode cL_road 2 = .ok (.aload_n 0, 1) := by decide +kernel
theorem dL_road_3 : decode cL_road 3 = .ok (.iload_n 1, 1) := by decide +kernel
theorem dL_road_4 : decode cL_road 4 = .ok (.iload_n 2, 1) := by decide +kernel
theorem dL_road_5 : decode cL_road 5 = .ok (.invokevirtual 27, 3) := by decide +kernel
theorem dL_road_8 : decode cL_road 8 = .ok (.i2l, 1) := by decide +kernel
theorem dL_road_9 : decode cL_road 9 = .ok (.lastore, 1) := by decide +kernel
theorem dL_road_10 : decode cL_road 10 = .ok (.goto 11, 3) := by decide +kernel
theorem dL_road_13 : decode cL_road 13 = .ok (.astore 4, 2) := by decide +kernel
theorem dL_road_15 : decode cL_road 15 = .ok (.iconst 1, 1) := by decide +kernel
theorem dL_road_16 : decode cL_road 16 = .ok (.ireturn, 1) := by decide +kernel
theorem dL_road_17 : decode cL_road 17 = .ok (.astore 4, 2) := by decide +kernel
theorem dL_road_19 : decode cL_road 19 = .ok (.iconst 2, 1) := by decide +kernel
theorem dL_road_20 : decode cL_road 20 = .ok (.ireturn, 1) := by decide +kernel
theorem dL_road_21 : decode cL_road 21 = .ok (.iconst 0, 1) := by decide +kernel
theorem dL_road_22 : decode cL_road 22 = .ok (.ireturn, 1) := by decide +kernel
theorem dL_setLimit_0 : decode cL_setLimit 0 = .ok (.aload_n 2, 1) := by decide +kernel
theorem dL_setLimit_1 : decode cL_setLimit 1 = .ok (.iconst 0, 1) := by decide +kernel
theorem dL_setLimit_2 : decode cL_setLimit 2 = .ok (.aload_n 0, 1) := by decide +kernel
theorem dL_setLimit_3 : decode cL_setLimit 3 = .ok (.iload_n 1, 1) := by decide +kernel
theorem dL_setLimit_4 : decode cL_setLimit 4 = .ok (.invokevirtual 31, 3) := by decide +kernel
theorem dL_setLimit_7 : decode cL_setLimit 7 = .ok (.i2l, 1) := by decide +kernel
theorem dL_setLimit_8 : decode cL_setLimit 8 = .ok (.lastore, 1) := by decide +kernel
theorem dL_setLimit_9 : decode cL_setLimit 9 = .ok (.goto 6, 3) := by decide +kernel
theorem dL_setLimit_12 : decode cL_setLimit 12 = .ok (.astore_n 3, 1) := by decide +kernel
theorem dL_setLimit_13 : decode cL_setLimit 13 = .ok (.iconst 1, 1) := by decide +kernel
theorem dL_setLimit_14 : decode cL_setLimit 14 = .ok (.ireturn, 1) := by decide +kernel
theorem dL_setLimit_15 : decode cL_setLimit 15 = .ok (.iconst 0, 1) := by decide +kernel
theorem dL_setLimit_16 : decode cL_setLimit 16 = .ok (.ireturn, 1) := by decide +kernel
theorem dL_setSupply_0 : decode cL_setSupply 0 = .ok (.aload_n 2, 1) := by decide +kernel
theorem dL_setSupply_1 : decode cL_setSupply 1 = .ok (.iconst 0, 1) := by decide +kernel
theorem dL_setSupply_2 : decode cL_setSupply 2 = .ok (.aload_n 0, 1) := by decide +kernel
theorem dL_setSupply_3 : decode cL_setSupply 3 = .ok (.iload_n 1, 1) := by decide +kernel
theorem dL_setSupply_4 : decode cL_setSupply 4 = .ok (.invokevirtual 34, 3) := by decide +kernel
theorem dL_setSupply_7 : decode cL_setSupply 7 = .ok (.i2l, 1) := by decide +kernel
theorem dL_setSupply_8 : decode cL_setSupply 8 = .ok (.lastore, 1) := by decide +kernel
theorem dL_setSupply_9 : decode cL_setSupply 9 = .ok (.goto 6, 3) := by decide +kernel
theorem dL_setSupply_12 : decode cL_setSupply 12 = .ok (.astore_n 3, 1) := by decide +kernel
theorem dL_setSupply_13 : decode cL_setSupply 13 = .ok (.iconst 1, 1) := by decide +kernel
theorem dL_setSupply_14 : decode cL_setSupply 14 = .ok (.ireturn, 1) := by decide +kernel
theorem dL_setSupply_15 : decode cL_setSupply 15 = .ok (.iconst 0, 1) := by decide +kernel
theorem dL_setSupply_16 : decode cL_setSupply 16 = .ok (.ireturn, 1) := by decide +kernel
theorem dL_fall_0 : decode cL_fall 0 = .ok (.aload_n 2, 1) := by decide +kernel
theorem dL_fall_1 : decode cL_fall 1 = .ok (.iconst 0, 1) := by decide +kernel
theorem dL_fall_2 : decode cL_fall 2 = .ok (.aload_n 0, 1) := by decide +kernel
theorem dL_fall_3 : decode cL_fall 3 = .ok (.iload_n 1, 1) := by decide +kernel
theorem dL_fall_4 : decode cL_fall 4 = .ok (.invokevirtual 37, 3) := by decide +kernel
theorem dL_fall_7 : decode cL_fall 7 = .ok (.i2l, 1) := by decide +kernel
theorem dL_fall_8 : decode cL_fall 8 = .ok (.lastore, 1) := by decide +kernel
theorem dL_fall_9 : decode cL_fall 9 = .ok (.goto 6, 3) := by decide +kernel
theorem dL_fall_12 : decode cL_fall 12 = .ok (.astore_n 3, 1) := by decide +kernel
theorem dL_fall_13 : decode cL_fall 13 = .ok (.iconst 1, 1) := by decide +kernel
theorem dL_fall_14 : decode cL_fall 14 = .ok (.ireturn, 1) := by decide +kernel
theorem dL_fall_15 : decode cL_fall 15 = .ok (.iconst 0, 1) := by decide +kernel
theorem dL_fall_16 : decode cL_fall 16 = .ok (.ireturn, 1) := by decide +kernel
theorem dL_blow_0 : decode cL_blow 0 = .ok (.aload 4, 2) := by decide +kernel
theorem dL_blow_2 : decode cL_blow 2 = .ok (.iconst 0, 1) := by decide +kernel
theorem dL_blow_3 : decode cL_blow 3 = .ok (.aload_n 0, 1) := by decide +kernel
theorem dL_blow_4 : decode cL_blow 4 = .ok (.iload_n 1, 1) := by decide +kernel
theorem dL_blow_5 : decode cL_blow 5 = .ok (.iload_n 2, 1) := by decide +kernel
theorem dL_blow_6 : decode cL_blow 6 = .ok (.iload_n 3, 1) := by decide +kernel
theorem dL_blow_7 : decode cL_blow 7 = .ok (.invokevirtual 40, 3) := by decide +kernel
theorem dL_blow_10 : decode cL_blow 10 = .ok (.i2l, 1) := by decide +kernel
theorem dL_blow_11 : decode cL_blow 11 = .ok (.lastore, 1) := by decide +kernel
theorem dL_blow_12 : decode cL_blow 12 = .ok (.goto 11, 3) := by decide +kernel
theorem dL_blow_15 : decode cL_blow 15 = .ok (.astore 5, 2) := by decide +kernel
theorem dL_blow_17 : decode cL_blow 17 = .ok (.iconst 1, 1) := by decide +kernel
theorem dL_blow_18 : decode cL_blow 18 = .ok (.ireturn, 1) := by decide +kernel
theorem dL_blow_19 : decode cL_blow 19 = .ok (.astore 5, 2) := by decide +kernel
theorem dL_blow_21 : decode cL_blow 21 = .ok (.iconst 2, 1) := by decide +kernel
theorem dL_blow_22 : decode cL_blow 22 = .ok (.ireturn, 1) := by decide +kernel
theorem dL_blow_23 : decode cL_blow 23 = .ok (.iconst 0, 1) := by decide +kernel
theorem dL_blow_24 : decode cL_blow 24 = .ok (.ireturn, 1) := by decide +kernel
theorem dL_plough_0 : decode cL_plough 0 = .ok (.aload_n 2, 1) := by decide +kernel
theorem dL_plough_1 : decode cL_plough 1 = .ok (.iconst 0, 1) := by decide +kernel
theorem dL_plough_2 : decode cL_plough 2 = .ok (.aload_n 0, 1) := by decide +kernel
theorem dL_plough_3 : decode cL_plough 3 = .ok (.iload_n 1, 1) := by decide +kernel
theorem dL_plough_4 : decode cL_plough 4 = .ok (.invokevirtual 43, 3) := by decide +kernel
theorem dL_plough_7 : decode cL_plough 7 = .ok (.i2l, 1) := by decide +kernel
theorem dL_plough_8 : decode cL_plough 8 = .ok (.lastore, 1) := by decide +kernel
theorem dL_plough_9 : decode cL_plough 9 = .ok (.goto 6, 3) := by decide +kernel
theorem dL_plough_12 : decode cL_plough 12 = .ok (.astore_n 3, 1) := by decide +kernel
theorem dL_plough_13 : decode cL_plough 13 = .ok (.iconst 1, 1) := by decide +kernel
theorem dL_plough_14 : decode cL_plough 14 = .ok (.ireturn, 1) := by decide +kernel
theorem dL_plough_15 : decode cL_plough 15 = .ok (.iconst 0, 1) := by decide +kernel
theorem dL_plough_16 : decode cL_plough 16 = .ok (.ireturn, 1) := by decide +kernel
theorem dL_snow_0 : decode cL_snow 0 = .ok (.aload_n 3, 1) := by decide +kernel
theorem dL_snow_1 : decode cL_snow 1 = .ok (.iconst 0, 1) := by decide +kernel
theorem dL_snow_2 : decode cL_snow 2 = .ok (.aload_n 0, 1) := by decide +kernel
theorem dL_snow_3 : decode cL_snow 3 = .ok (.iload_n 1, 1) := by decide +kernel
theorem dL_snow_4 : decode cL_snow 4 = .ok (.iload_n 2, 1) := by decide +kernel
theorem dL_snow_5 : decode cL_snow 5 = .ok (.invokevirtual 46, 3) := by decide +kernel
theorem dL_snow_8 : decode cL_snow 8 = .ok (.i2l, 1) := by decide +kernel
theorem dL_snow_9 : decode cL_snow 9 = .ok (.lastore, 1) := by decide +kernel
theorem dL_snow_10 : decode cL_snow 10 = .ok (.goto 7, 3) := by decide +kernel
theorem dL_snow_13 : decode cL_snow 13 = .ok (.astore 4, 2) := by decide +kernel
theorem dL_snow_15 : decode cL_snow 15 = .ok (.iconst 1, 1) := by decide +kernel
theorem dL_snow_16 : decode cL_snow 16 = .ok (.ireturn, 1) := by decide +kernel
theorem dL_snow_17 : decode cL_snow 17 = .ok (.iconst 0, 1) := by decide +kernel
theorem dL_snow_18 : decode cL_snow 18 = .ok (.ireturn, 1) := by decide +kernel
theorem dL_about_0 : decode cL_about 0 = .ok (.aload_n 3, 1) := by decide +kernel
theorem dL_about_1 : decode cL_about 1 = .ok (.iconst 0, 1) := by decide +kernel
theorem dL_about_2 : decode cL_about 2 = .ok (.aload_n 0, 1) := by decide +kernel
theorem dL_about_3 : decode cL_about 3 = .ok (.iload_n 1, 1) := by decide +kernel
theorem dL_about_4 : decode cL_about 4 = .ok (.iload_n 2, 1) := by decide +kernel
theorem dL_about_5 : decode cL_about 5 = .ok (.invokevirtual 50, 3) := by decide +kernel
theorem dL_about_8 : decode cL_about 8 = .ok (.i2l, 1) := by decide +kernel
theorem dL_about_9 : decode cL_about 9 = .ok (.lastore, 1) := by decide +kernel
theorem dL_about_10 : decode cL_about 10 = .ok (.goto 7, 3) := by decide +kernel
theorem dL_about_13 : decode cL_about 13 = .ok (.astore 4, 2) := by decide +kernel
theorem dL_about_15 : decode cL_about 15 = .ok (.iconst 1, 1) := by decide +kernel
theorem dL_about_16 : decode cL_about 16 = .ok (.ireturn, 1) := by decide +kernel
theorem dL_about_17 : decode cL_about 17 = .ok (.iconst 0, 1) := by decide +kernel
theorem dL_about_18 : decode cL_about 18 = .ok (.ireturn, 1) := by decide +kernel
theorem dL_told_0 : decode cL_told 0 = .ok (.aload_n 3, 1) := by decide +kernel
theorem dL_told_1 : decode cL_told 1 = .ok (.iconst 0, 1) := by decide +kernel
theorem dL_told_2 : decode cL_told 2 = .ok (.aload_n 0, 1) := by decide +kernel
theorem dL_told_3 : decode cL_told 3 = .ok (.iload_n 1, 1) := by decide +kernel
theorem dL_told_4 : decode cL_told 4 = .ok (.iload_n 2, 1) := by decide +kernel
theorem dL_told_5 : decode cL_told 5 = .ok (.invokevirtual 53, 3) := by decide +kernel
theorem dL_told_8 : decode cL_told 8 = .ok (.i2l, 1) := by decide +kernel
theorem dL_told_9 : decode cL_told 9 = .ok (.lastore, 1) := by decide +kernel
theorem dL_told_10 : decode cL_told 10 = .ok (.goto 7, 3) := by decide +kernel
theorem dL_told_13 : decode cL_told 13 = .ok (.astore 4, 2) := by decide +kernel
theorem dL_told_15 : decode cL_told 15 = .ok (.iconst 1, 1) := by decide +kernel
theorem dL_told_16 : decode cL_told 16 = .ok (.ireturn, 1) := by decide +kernel
theorem dL_told_17 : decode cL_told 17 = .ok (.iconst 0, 1) := by decide +kernel
theorem dL_told_18 : decode cL_told 18 = .ok (.ireturn, 1) := by decide +kernel
theorem dL_count_0 : decode cL_count 0 = .ok (.aload_n 2, 1) := by decide +kernel
theorem dL_count_1 : decode cL_count 1 = .ok (.iconst 0, 1) := by decide +kernel
theorem dL_count_2 : decode cL_count 2 = .ok (.aload_n 0, 1) := by decide +kernel
theorem dL_count_3 : decode cL_count 3 = .ok (.iload_n 1, 1) := by decide +kernel
theorem dL_count_4 : decode cL_count 4 = .ok (.invokevirtual 56, 3) := by decide +kernel
theorem dL_count_7 : decode cL_count 7 = .ok (.i2l, 1) := by decide +kernel
theorem dL_count_8 : decode cL_count 8 = .ok (.lastore, 1) := by decide +kernel
theorem dL_count_9 : decode cL_count 9 = .ok (.goto 6, 3) := by decide +kernel
theorem dL_count_12 : decode cL_count 12 = .ok (.astore_n 3, 1) := by decide +kernel
theorem dL_count_13 : decode cL_count 13 = .ok (.iconst 1, 1) := by decide +kernel
theorem dL_count_14 : decode cL_count 14 = .ok (.ireturn, 1) := by decide +kernel
theorem dL_count_15 : decode cL_count 15 = .ok (.iconst 0, 1) := by decide +kernel
theorem dL_count_16 : decode cL_count 16 = .ok (.ireturn, 1) := by decide +kernel
theorem dL_would_0 : decode cL_would 0 = .ok (.aload 5, 2) := by decide +kernel
theorem dL_would_2 : decode cL_would 2 = .ok (.iconst 0, 1) := by decide +kernel
theorem dL_would_3 : decode cL_would 3 = .ok (.aload_n 0, 1) := by decide +kernel
theorem dL_would_4 : decode cL_would 4 = .ok (.iload_n 1, 1) := by decide +kernel
theorem dL_would_5 : decode cL_would 5 = .ok (.iload_n 2, 1) := by decide +kernel
theorem dL_would_6 : decode cL_would 6 = .ok (.iload_n 3, 1) := by decide +kernel
theorem dL_would_7 : decode cL_would 7 = .ok (.iload 4, 2) := by decide +kernel
theorem dL_would_9 : decode cL_would 9 = .ok (.invokevirtual 59, 3) := by decide +kernel
theorem dL_would_12 : decode cL_would 12 = .ok (.i2l, 1) := by decide +kernel
theorem dL_would_13 : decode cL_would 13 = .ok (.lastore, 1) := by decide +kernel
theorem dL_would_14 : decode cL_would 14 = .ok (.goto 11, 3) := by decide +kernel
theorem dL_would_17 : decode cL_would 17 = .ok (.astore 6, 2) := by decide +kernel
theorem dL_would_19 : decode cL_would 19 = .ok (.iconst 1, 1) := by decide +kernel
theorem dL_would_20 : decode cL_would 20 = .ok (.ireturn, 1) := by decide +kernel
theorem dL_would_21 : decode cL_would 21 = .ok (.astore 6, 2) := by decide +kernel
theorem dL_would_23 : decode cL_would 23 = .ok (.iconst 2, 1) := by decide +kernel
theorem dL_would_24 : decode cL_would 24 = .ok (.ireturn, 1) := by decide +kernel
theorem dL_would_25 : decode cL_would 25 = .ok (.iconst 0, 1) := by decide +kernel
theorem dL_would_26 : decode cL_would 26 = .ok (.ireturn, 1) := by decide +kernel
theorem dL_until_0 : decode cL_until 0 = .ok (.aload 4, 2) := by decide +kernel
theorem dL_until_2 : decode cL_until 2 = .ok (.iconst 0, 1) := by decide +kernel
theorem dL_until_3 : decode cL_until 3 = .ok (.aload_n 0, 1) := by decide +kernel
theorem dL_until_4 : decode cL_until 4 = .ok (.iload_n 1, 1) := by decide +kernel
theorem dL_until_5 : decode cL_until 5 = .ok (.iload_n 2, 1) := by decide +kernel
theorem dL_until_6 : decode cL_until 6 = .ok (.iload_n 3, 1) := by decide +kernel
theorem dL_until_7 : decode cL_until 7 = .ok (.invokevirtual 63, 3) := by decide +kernel
theorem dL_until_10 : decode cL_until 10 = .ok (.i2l, 1) := by decide +kernel
theorem dL_until_11 : decode cL_until 11 = .ok (.lastore, 1) := by decide +kernel
theorem dL_until_12 : decode cL_until 12 = .ok (.goto 11, 3) := by decide +kernel
theorem dL_until_15 : decode cL_until 15 = .ok (.astore 5, 2) := by decide +kernel
theorem dL_until_17 : decode cL_until 17 = .ok (.iconst 1, 1) := by decide +kernel
theorem dL_until_18 : decode cL_until 18 = .ok (.ireturn, 1) := by decide +kernel
theorem dL_until_19 : decode cL_until 19 = .ok (.astore 5, 2) := by decide +kernel
theorem dL_until_21 : decode cL_until 21 = .ok (.iconst 2, 1) := by decide +kernel
theorem dL_until_22 : decode cL_until 22 = .ok (.ireturn, 1) := by decide +kernel
theorem dL_until_23 : decode cL_until 23 = .ok (.iconst 0, 1) := by decide +kernel
theorem dL_until_24 : decode cL_until 24 = .ok (.ireturn, 1) := by decide +kernel
theorem dL_advise_0 : decode cL_advise 0 = .ok (.aload 4, 2) := by decide +kernel
theorem dL_advise_2 : decode cL_advise 2 = .ok (.iconst 0, 1) := by decide +kernel
theorem dL_advise_3 : decode cL_advise 3 = .ok (.aload_n 0, 1) := by decide +kernel
theorem dL_advise_4 : decode cL_advise 4 = .ok (.iload_n 1, 1) := by decide +kernel
theorem dL_advise_5 : decode cL_advise 5 = .ok (.iload_n 2, 1) := by decide +kernel
theorem dL_advise_6 : decode cL_advise 6 = .ok (.iload_n 3, 1) := by decide +kernel
theorem dL_advise_7 : decode cL_advise 7 = .ok (.invokevirtual 66, 3) := by decide +kernel
theorem dL_advise_10 : decode cL_advise 10 = .ok (.i2l, 1) := by decide +kernel
theorem dL_advise_11 : decode cL_advise 11 = .ok (.lastore, 1) := by decide +kernel
theorem dL_advise_12 : decode cL_advise 12 = .ok (.goto 11, 3) := by decide +kernel
theorem dL_advise_15 : decode cL_advise 15 = .ok (.astore 5, 2) := by decide +kernel
theorem dL_advise_17 : decode cL_advise 17 = .ok (.iconst 1, 1) := by decide +kernel
theorem dL_advise_18 : decode cL_advise 18 = .ok (.ireturn, 1) := by decide +kernel
theorem dL_advise_19 : decode cL_advise 19 = .ok (.astore 5, 2) := by decide +kernel
theorem dL_advise_21 : decode cL_advise 21 = .ok (.iconst 2, 1) := by decide +kernel
theorem dL_advise_22 : decode cL_advise 22 = .ok (.ireturn, 1) := by decide +kernel
theorem dL_advise_23 : decode cL_advise 23 = .ok (.iconst 0, 1) := by decide +kernel
theorem dL_advise_24 : decode cL_advise 24 = .ok (.ireturn, 1) := by decide +kernel
theorem dL_harmful_0 : decode cL_harmful 0 = .ok (.aload_n 3, 1) := by decide +kernel
theorem dL_harmful_1 : decode cL_harmful 1 = .ok (.iconst 0, 1) := by decide +kernel
theorem dL_harmful_2 : decode cL_harmful 2 = .ok (.aload_n 0, 1) := by decide +kernel
theorem dL_harmful_3 : decode cL_harmful 3 = .ok (.iload_n 1, 1) := by decide +kernel
theorem dL_harmful_4 : decode cL_harmful 4 = .ok (.iload_n 2, 1) := by decide +kernel
theorem dL_harmful_5 : decode cL_harmful 5 = .ok (.invokevirtual 69, 3) := by decide +kernel
theorem dL_harmful_8 : decode cL_harmful 8 = .ok (.i2l, 1) := by decide +kernel
theorem dL_harmful_9 : decode cL_harmful 9 = .ok (.lastore, 1) := by decide +kernel
theorem dL_harmful_10 : decode cL_harmful 10 = .ok (.goto 11, 3) := by decide +kernel
theorem dL_harmful_13 : decode cL_harmful 13 = .ok (.astore 4, 2) := by decide +kernel
theorem dL_harmful_15 : decode cL_harmful 15 = .ok (.iconst 1, 1) := by decide +kernel
theorem dL_harmful_16 : decode cL_harmful 16 = .ok (.ireturn, 1) := by decide +kernel
theorem dL_harmful_17 : decode cL_harmful 17 = .ok (.astore 4, 2) := by decide +kernel
theorem dL_harmful_19 : decode cL_harmful 19 = .ok (.iconst 2, 1) := by decide +kernel
theorem dL_harmful_20 : decode cL_harmful 20 = .ok (.ireturn, 1) := by decide +kernel
theorem dL_harmful_21 : decode cL_harmful 21 = .ok (.iconst 0, 1) := by decide +kernel
theorem dL_harmful_22 : decode cL_harmful 22 = .ok (.ireturn, 1) := by decide +kernel
