theorem dX7_setLimit_17 : decode cX7_setLimit 17 = .ok (.invokevirtual 96, 3) := by decide +kernel
theorem dX7_setLimit_20 : decode cX7_setLimit 20 = .ok (.ireturn, 1) := by decide +kernel
theorem dX7_setLimit_21 : decode cX7_setLimit 21 = .ok (.aload_n 0, 1) := by decide +kernel
theorem dX7_setLimit_22 : decode cX7_setLimit 22 = .ok (.getfield 19, 3) := by decide +kernel
theorem dX7_setLimit_25 : decode cX7_setLimit 25 = .ok (.istore_n 2, 1) := by decide +kernel
theorem dX7_setLimit_26 : decode cX7_setLimit 26 = .ok (.aload_n 0, 1) := by decide +kernel
theorem dX7_setLimit_27 : decode cX7_setLimit 27 = .ok (.iload_n 1, 1) := by decide +kernel
theorem dX7_setLimit_28 : decode cX7_setLimit 28 = .ok (.putfield 19, 3) := by decide +kernel
theorem dX7_setLimit_31 : decode cX7_setLimit 31 = .ok (.iload_n 2, 1) := by decide +kernel
theorem dX7_setLimit_32 : decode cX7_setLimit 32 = .ok (.ireturn, 1) := by decide +kernel
theorem dX7_setSupply_0 : decode cX7_setSupply 0 = .ok (.aload_n 0, 1) := by decide +kernel
theorem dX7_setSupply_1 : decode cX7_setSupply 1 = .ok (.iconst 0, 1) := by decide +kernel
theorem dX7_setSupply_2 : decode cX7_setSupply 2 = .ok (.putfield 32, 3) := by decide +kernel
theorem dX7_setSupply_5 : decode cX7_setSupply 5 = .ok (.iload_n 1, 1) := by decide +kernel
theorem dX7_setSupply_6 : decode cX7_setSupply 6 = .ok (.iconst 0, 1) := by decide +kernel
theorem dX7_setSupply_7 : decode cX7_setSupply 7 = .ok (.bipush 40, 2) := by decide +kernel
theorem dX7_setSupply_9 : decode cX7_setSupply 9 = .ok (.invokestatic 38, 3) := by decide +kernel
theorem dX7_setSupply_12 : decode cX7_setSupply 12 = .ok (.ifCond .ne 9, 3) := by decide +kernel
theorem dX7_setSupply_15 : decode cX7_setSupply 15 = .ok (.aload_n 0, 1) := by decide +kernel
theorem dX7_setSupply_16 : decode cX7_setSupply 16 = .ok (.iconst 1, 1) := by decide +kernel
theorem dX7_setSupply_17 : decode cX7_setSupply 17 = .ok (.invokevirtual 96, 3) := by decide +kernel
theorem dX7_setSupply_20 : decode cX7_setSupply 20 = .ok (.ireturn, 1) := by decide +kernel
theorem dX7_setSupply_21 : decode cX7_setSupply 21 = .ok (.aload_n 0, 1) := by decide +kernel
theorem dX7_setSupply_22 : decode cX7_setSupply 22 = .ok (.getfield 52, 3) := by decide +kernel
theorem dX7_setSupply_25 : decode cX7_setSupply 25 = .ok (.istore_n 2, 1) := by decide +kernel
theorem dX7_setSupply_26 : decode cX7_setSupply 26 = .ok (.aload_n 0, 1) := by decide +kernel
theorem dX7_setSupply_27 : decode cX7_setSupply 27 = .ok (.iload_n 1, 1) := by decide +kernel
theorem dX7_setSupply_28 : decode cX7_setSupply 28 = .ok (.putfield 52, 3) := by decide +kernel
theorem dX7_setSupply_31 : decode cX7_setSupply 31 = .ok (.iload_n 2, 1) := by decide +kernel
theorem dX7_setSupply_32 : decode cX7_setSupply 32 = .ok (.ireturn, 1) := by decide +kernel
theorem dX7_fall_0 : decode cX7_fall 0 = .ok (.aload_n 0, 1) := by decide +kernel
theorem dX7_fall_1 : decode cX7_fall 1 = .ok (.iconst 0, 1) := by decide +kernel
theorem dX7_fall_2 : decode cX7_fall 2 = .ok (.putfield 32, 3) := by decide +kernel
theorem dX7_fall_5 : decode cX7_fall 5 = .ok (.iload_n 1, 1) := by decide +kernel
theorem dX7_fall_6 : decode cX7_fall 6 = .ok (.iconst 1, 1) := by decide +kernel
theorem dX7_fall_7 : decode cX7_fall 7 = .ok (.bipush 30, 2) := by decide +kernel
theorem dX7_fall_9 : decode cX7_fall 9 = .ok (.invokestatic 38, 3) := by decide +kernel
theorem dX7_fall_12 : decode cX7_fall 12 = .ok (.ifCond .ne 9, 3) := by decide +kernel
theorem dX7_fall_15 : decode cX7_fall 15 = .ok (.aload_n 0, 1) := by decide +kernel
theorem dX7_fall_16 : decode cX7_fall 16 = .ok (.iconst 1, 1) := by decide +kernel
theorem dX7_fall_17 : decode cX7_fall 17 = .ok (.invokevirtual 96, 3) := by decide +kernel
theorem dX7_fall_20 : decode cX7_fall 20 = .ok (.ireturn, 1) := by decide +kernel
theorem dX7_fall_21 : decode cX7_fall 21 = .ok (.iconst 0, 1) := by decide +kernel
theorem dX7_fall_22 : decode cX7_fall 22 = .ok (.istore_n 2, 1) := by decide +kernel
theorem dX7_fall_23 : decode cX7_fall 23 = .ok (.iconst 0, 1) := by decide +kernel
theorem dX7_fall_24 : decode cX7_fall 24 = .ok (.istore_n 3, 1) := by decide +kernel
theorem dX7_fall_25 : decode cX7_fall 25 = .ok (.iload_n 3, 1) := by decide +kernel
theorem dX7_fall_26 : decode cX7_fall 26 = .ok (.sipush 400, 3) := by decide +kernel
theorem dX7_fall_29 : decode cX7_fall 29 = .ok (.if_icmp .ge 41, 3) := by decide +kernel
theorem dX7_fall_32 : decode cX7_fall 32 = .ok (.iload_n 1, 1) := by decide +kernel
theorem dX7_fall_33 : decode cX7_fall 33 = .ok (.sipush 200, 3) := by decide +kernel
theorem dX7_fall_36 : decode cX7_fall 36 = .ok (.aload_n 0, 1) := by decide +kernel
theorem dX7_fall_37 : decode cX7_fall 37 = .ok (.getfield 23, 3) := by decide +kernel
theorem dX7_fall_40 : decode cX7_fall 40 = .ok (.iload_n 3, 1) := by decide +kernel
theorem dX7_fall_41 : decode cX7_fall 41 = .ok (.iaload, 1) := by decide +kernel
theorem dX7_fall_42 : decode cX7_fall 42 = .ok (.isub, 1) := by decide +kernel
theorem dX7_fall_43 : decode cX7_fall 43 = .ok (.invokestatic 55, 3) := by decide +kernel
theorem dX7_fall_46 : decode cX7_fall 46 = .ok (.istore 4, 2) := by decide +kernel
theorem dX7_fall_48 : decode cX7_fall 48 = .ok (.aload_n 0, 1) := by decide +kernel
theorem dX7_fall_49 : decode cX7_fall 49 = .ok (.getfield 23, 3) := by decide +kernel
theorem dX7_fall_52 : decode cX7_fall 52 = .ok (.iload_n 3, 1) := by decide +kernel
theorem dX7_fall_53 : decode cX7_fall 53 = .ok (.dup2, 1) := by decide +kernel
theorem dX7_fall_54 : decode cX7_fall 54 = .ok (.iaload, 1) := by decide +kernel
theorem dX7_fall_55 : decode cX7_fall 55 = .ok (.iload 4, 2) := by decide +kernel
theorem dX7_fall_57 : decode cX7_fall 57 = .ok (.iadd, 1) := by decide +kernel
theorem dX7_fall_58 : decode cX7_fall 58 = .ok (.iastore, 1) := by decide +kernel
theorem dX7_fall_59 : decode cX7_fall 59 = .ok (.iload_n 2, 1) := by decide +kernel
theorem dX7_fall_60 : decode cX7_fall 60 = .ok (.iload 4, 2) := by decide +kernel
theorem dX7_fall_62 : decode cX7_fall 62 = .ok (.iadd, 1) := by decide +kernel
theorem dX7_fall_63 : decode cX7_fall 63 = .ok (.istore_n 2, 1) := by decide +kernel
theorem dX7_fall_64 : decode cX7_fall 64 = .ok (.iinc 3 1, 3) := by decide +kernel
theorem dX7_fall_67 : decode cX7_fall 67 = .ok (.goto (-42), 3) := by decide +kernel
theorem dX7_fall_70 : decode cX7_fall 70 = .ok (.iload_n 2, 1) := by decide +kernel
theorem dX7_fall_71 : decode cX7_fall 71 = .ok (.ireturn, 1) := by decide +kernel
theorem dX7_blow_0 : decode cX7_blow 0 = .ok (.aload_n 0, 1) := by decide +kernel
theorem dX7_blow_1 : decode cX7_blow 1 = .ok (.iconst 0, 1) := by decide +kernel
theorem dX7_blow_2 : decode cX7_blow 2 = .ok (.putfield 32, 3) := by decide +kernel
theorem dX7_blow_5 : decode cX7_blow 5 = .ok (.iload_n 1, 1) := by decide +kernel
theorem dX7_blow_6 : decode cX7_blow 6 = .ok (.invokestatic 111, 3) := by decide +kernel
theorem dX7_blow_9 : decode cX7_blow 9 = .ok (.ifCond .ne 9, 3) := by decide +kernel
theorem dX7_blow_12 : decode cX7_blow 12 = .ok (.aload_n 0, 1) := by decide +kernel
theorem dX7_blow_13 : decode cX7_blow 13 = .ok (.iconst 1, 1) := by decide +kernel
theorem dX7_blow_14 : decode cX7_blow 14 = .ok (.invokevirtual 96, 3) := by decide +kernel
theorem dX7_blow_17 : decode cX7_blow 17 = .ok (.ireturn, 1) := by decide +kernel
theorem dX7_blow_18 : decode cX7_blow 18 = .ok (.iload_n 2, 1) := by decide +kernel
theorem dX7_blow_19 : decode cX7_blow 19 = .ok (.invokestatic 114, 3) := by decide +kernel
theorem dX7_blow_22 : decode cX7_blow 22 = .ok (.ifCond .eq 13, 3) := by decide +kernel
theorem dX7_blow_25 : decode cX7_blow 25 = .ok (.iload_n 3, 1) := by decide +kernel
theorem dX7_blow_26 : decode cX7_blow 26 = .ok (.iconst 1, 1) := by decide +kernel
theorem dX7_blow_27 : decode cX7_blow 27 = .ok (.bipush 24, 2) := by decide +kernel
theorem dX7_blow_29 : decode cX7_blow 29 = .ok (.invokestatic 38, 3) := by decide +kernel
theorem dX7_blow_32 : decode cX7_blow 32 = .ok (.ifCond .ne 9, 3) := by decide +kernel
theorem dX7_blow_35 : decode cX7_blow 35 = .ok (.aload_n 0, 1) := by decide +kernel
theorem dX7_blow_36 : decode cX7_blow 36 = .ok (.iconst 2, 1) := by decide +kernel
theorem dX7_blow_37 : decode cX7_blow 37 = .ok (.invokevirtual 96, 3) := by decide +kernel
theorem dX7_blow_40 : decode cX7_blow 40 = .ok (.ireturn, 1) := by decide +kernel
theorem dX7_blow_41 : decode cX7_blow 41 = .ok (.aload_n 0, 1) := by decide +kernel
theorem dX7_blow_42 : decode cX7_blow 42 = .ok (.aload_n 0, 1) := by decide +kernel
theorem dX7_blow_43 : decode cX7_blow 43 = .ok (.getfield 35, 3) := by decide +kernel
theorem dX7_blow_46 : decode cX7_blow 46 = .ok (.iconst (-1), 1) := by decide +kernel
theorem dX7_blow_47 : decode cX7_blow 47 = .ok (.invokevirtual 117, 3) := by decide +kernel
theorem dX7_blow_50 : decode cX7_blow 50 = .ok (.aload_n 0, 1) := by decide +kernel
theorem dX7_blow_51 : decode cX7_blow 51 = .ok (.iload_n 1, 1) := by decide +kernel
theorem dX7_blow_52 : decode cX7_blow 52 = .ok (.iload_n 2, 1) := by decide +kernel
theorem dX7_blow_53 : decode cX7_blow 53 = .ok (.iload_n 3, 1) := by decide +kernel
theorem dX7_blow_54 : decode cX7_blow 54 = .ok (.invokevirtual 86, 3) := by decide +kernel
theorem dX7_blow_57 : decode cX7_blow 57 = .ok (.istore 4, 2) := by decide +kernel
theorem dX7_blow_59 : decode cX7_blow 59 = .ok (.aload_n 0, 1) := by decide +kernel
theorem dX7_blow_60 : decode cX7_blow 60 = .ok (.dup, 1) := by decide +kernel
theorem dX7_blow_61 : decode cX7_blow 61 = .ok (.getfield 121, 3) := by decide +kernel
theorem dX7_blow_64 : decode cX7_blow 64 = .ok (.iload 4, 2) := by decide +kernel
theorem dX7_blow_66 : decode cX7_blow 66 = .ok (.iadd, 1) := by decide +kernel
theorem dX7_blow_67 : decode cX7_blow 67 = .ok (.putfield 121, 3) := by decide +kernel
theorem dX7_blow_70 : decode cX7_blow 70 = .ok (.aload_n 0, 1) := by decide +kernel
theorem dX7_blow_71 : decode cX7_blow 71 = .ok (.dup, 1) := by decide +kernel
theorem dX7_blow_72 : decode cX7_blow 72 = .ok (.getfield 124, 3) := by decide +kernel
theorem dX7_blow_75 : decode cX7_blow 75 = .ok (.iload_n 3, 1) := by decide +kernel
theorem dX7_blow_76 : decode cX7_blow 76 = .ok (.iadd, 1) := by decide +kernel
theorem dX7_blow_77 : decode cX7_blow 77 = .ok (.putfield 124, 3) := by decide +kernel
theorem dX7_blow_80 : decode cX7_blow 80 = .ok (.iload 4, 2) := by decide +kernel
theorem dX7_blow_82 : decode cX7_blow 82 = .ok (.ireturn, 1) := by decide +kernel
theorem dX7_plough_0 : decode cX7_plough 0 = .ok (.aload_n 0, 1) := by decide +kernel
theorem dX7_plough_1 : decode cX7_plough 1 = .ok (.iconst 0, 1) := by decide +kernel
theorem dX7_plough_2 : decode cX7_plough 2 = .ok (.putfield 32, 3) := by decide +kernel
theorem dX7_plough_5 : decode cX7_plough 5 = .ok (.aload_n 0, 1) := by decide +kernel
theorem dX7_plough_6 : decode cX7_plough 6 = .ok (.iload_n 1, 1) := by decide +kernel
theorem dX7_plough_7 : decode cX7_plough 7 = .ok (.invokevirtual 127, 3) := by decide +kernel
theorem dX7_plough_10 : decode cX7_plough 10 = .ok (.ifCond .ne 9, 3) := by decide +kernel
theorem dX7_plough_13 : decode cX7_plough 13 = .ok (.aload_n 0, 1) := by decide +kernel
theorem dX7_plough_14 : decode cX7_plough 14 = .ok (.iconst 1, 1) := by decide +kernel
theorem dX7_plough_15 : decode cX7_plough 15 = .ok (.invokevirtual 96, 3) := by decide +kernel
theorem dX7_plough_18 : decode cX7_plough 18 = .ok (.ireturn, 1) := by decide +kernel
theorem dX7_plough_19 : decode cX7_plough 19 = .ok (.aload_n 0, 1) := by decide +kernel
theorem dX7_plough_20 : decode cX7_plough 20 = .ok (.iload_n 1, 1) := by decide +kernel
theorem dX7_plough_21 : decode cX7_plough 21 = .ok (.invokevirtual 130, 3) := by decide +kernel
theorem dX7_plough_24 : decode cX7_plough 24 = .ok (.istore_n 2, 1) := by decide +kernel
theorem dX7_plough_25 : decode cX7_plough 25 = .ok (.iconst 0, 1) := by decide +kernel
theorem dX7_plough_26 : decode cX7_plough 26 = .ok (.istore_n 3, 1) := by decide +kernel
theorem dX7_plough_27 : decode cX7_plough 27 = .ok (.iload_n 3, 1) := by decide +kernel
theorem dX7_plough_28 : decode cX7_plough 28 = .ok (.bipush 20, 2) := by decide +kernel
theorem dX7_plough_30 : decode cX7_plough 30 = .ok (.if_icmp .ge 21, 3) := by decide +kernel
theorem dX7_plough_33 : decode cX7_plough 33 = .ok (.aload_n 0, 1) := by decide +kernel
theorem dX7_plough_34 : decode cX7_plough 34 = .ok (.getfield 23, 3) := by decide +kernel
theorem dX7_plough_37 : decode cX7_plough 37 = .ok (.aload_n 0, 1) := by decide +kernel
theorem dX7_plough_38 : decode cX7_plough 38 = .ok (.iload_n 1, 1) := by decide +kernel
theorem dX7_plough_39 : decode cX7_plough 39 = .ok (.iload_n 3, 1) := by decide +kernel
theorem dX7_plough_40 : decode cX7_plough 40 = .ok (.invokevirtual 76, 3) := by decide +kernel
theorem dX7_plough_43 : decode cX7_plough 43 = .ok (.iconst 0, 1) := by decide +kernel
theorem dX7_plough_44 : decode cX7_plough 44 = .ok (.iastore, 1) := by decide +kernel
theorem dX7_plough_45 : decode cX7_plough 45 = .ok (.iinc 3 1, 3) := by decide +kernel
theorem dX7_plough_48 : decode cX7_plough 48 = .ok (.goto (-21), 3) := by decide +kernel
theorem dX7_plough_51 : decode cX7_plough 51 = .ok (.aload_n 0, 1) := by decide +kernel
theorem dX7_plough_52 : decode cX7_plough 52 = .ok (.dup, 1) := by decide +kernel
theorem dX7_plough_53 : decode cX7_plough 53 = .ok (.getfield 133, 3) := by decide +kernel
theorem dX7_plough_56 : decode cX7_plough 56 = .ok (.iload_n 2, 1) := by decide +kernel
theorem dX7_plough_57 : decode cX7_plough 57 = .ok (.iadd, 1) := by decide +kernel
theorem dX7_plough_58 : decode cX7_plough 58 = .ok (.putfield 133, 3) := by decide +kernel
theorem dX7_plough_61 : decode cX7_plough 61 = .ok (.iload_n 2, 1) := by decide +kernel
theorem dX7_plough_62 : decode cX7_plough 62 = .ok (.ireturn, 1) := by decide +kernel
theorem dX7_snow_0 : decode cX7_snow 0 = .ok (.aload_n 0, 1) := by decide +kernel
theorem dX7_snow_1 : decode cX7_snow 1 = .ok (.iconst 0, 1) := by decide +kernel
theorem dX7_snow_2 : decode cX7_snow 2 = .ok (.putfield 32, 3) := by decide +kernel
theorem dX7_snow_5 : decode cX7_snow 5 = .ok (.iload_n 1, 1) := by decide +kernel
theorem dX7_snow_6 : decode cX7_snow 6 = .ok (.iconst 0, 1) := by decide +kernel
theorem dX7_snow_7 : decode cX7_snow 7 = .ok (.bipush 19, 2) := by decide +kernel
theorem dX7_snow_9 : decode cX7_snow 9 = .ok (.invokestatic 38, 3) := by decide +kernel
theorem dX7_snow_12 : decode cX7_snow 12 = .ok (.ifCond .eq 27, 3) := by decide +kernel
theorem dX7_snow_15 : decode cX7_snow 15 = .ok (.iload_n 2, 1) := by decide +kernel
theorem dX7_snow_16 : decode cX7_snow 16 = .ok (.iconst 0, 1) := by decide +kernel
theorem dX7_snow_17 : decode cX7_snow 17 = .ok (.bipush 19, 2) := by decide +kernel
theorem dX7_snow_19 : decode cX7_snow 19 = .ok (.invokestatic 38, 3) := by decide +kernel
theorem dX7_snow_22 : decode cX7_snow 22 = .ok (.ifCond .eq 17, 3) := by decide +kernel
theorem dX7_snow_25 : decode cX7_snow 25 = .ok (.aload_n 0, 1) := by decide +kernel
theorem dX7_snow_26 : decode cX7_snow 26 = .ok (.getfield 23, 3) := by decide +kernel
theorem dX7_snow_29 : decode cX7_snow 29 = .ok (.bipush 20, 2) := by decide +kernel
theorem dX7_snow_31 : decode cX7_snow 31 = .ok (.iload_n 2, 1) := by decide +kernel
theorem dX7_snow_32 : decode cX7_snow 32 = .ok (.imul, 1) := by decide +kernel
theorem dX7_snow_33 : decode cX7_snow 33 = .ok (.iload_n 1, 1) := by decide +kernel
theorem dX7_snow_34 : decode cX7_snow 34 = .ok (.iadd, 1) := by decide +kernel
theorem dX7_snow_35 : decode cX7_snow 35 = .ok (.iaload, 1) := by decide +kernel
theorem dX7_snow_36 : decode cX7_snow 36 = .ok (.goto 8, 3) := by decide +kernel
theorem dX7_snow_39 : decode cX7_snow 39 = .ok (.aload_n 0, 1) := by decide +kernel
theorem dX7_snow_40 : decode cX7_snow 40 = .ok (.iconst 1, 1) := by decide +kernel
theorem dX7_snow_41 : decode cX7_snow 41 = .ok (.invokevirtual 96, 3) := by decide +kernel
theorem dX7_snow_44 : decode cX7_snow 44 = .ok (.ireturn, 1) := by decide +kernel
theorem dX7_fenceTold_0 : decode cX7_fenceTold 0 = .ok (.iload_n 2, 1) := by decide +kernel
theorem dX7_fenceTold_1 : decode cX7_fenceTold 1 = .ok (.bipush 6, 2) := by decide +kernel
theorem dX7_fenceTold_3 : decode cX7_fenceTold 3 = .ok (.if_icmp .ge 10, 3) := by decide +kernel
theorem dX7_fenceTold_6 : decode cX7_fenceTold 6 = .ok (.aload_n 0, 1) := by decide +kernel
theorem dX7_fenceTold_7 : decode cX7_fenceTold 7 = .ok (.iload_n 1, 1) := by decide +kernel
theorem dX7_fenceTold_8 : decode cX7_fenceTold 8 = .ok (.iload_n 2, 1) := by decide +kernel
theorem dX7_fenceTold_9 : decode cX7_fenceTold 9 = .ok (.invokevirtual 45, 3) := by decide +kernel
theorem dX7_fenceTold_12 : decode cX7_fenceTold 12 = .ok (.ireturn, 1) := by decide +kernel
theorem dX7_fenceTold_13 : decode cX7_fenceTold 13 = .ok (.iconst 0, 1) := by decide +kernel
theorem dX7_fenceTold_14 : decode cX7_fenceTold 14 = .ok (.istore_n 3, 1) := by decide +kernel
theorem dX7_fenceTold_15 : decode cX7_fenceTold 15 = .ok (.iconst 0, 1) := by decide +kernel
theorem dX7_fenceTold_16 : decode cX7_fenceTold 16 = .ok (.istore 4, 2) := by decide +kernel
theorem dX7_fenceTold_18 : decode cX7_fenceTold 18 = .ok (.iload 4, 2) := by decide +kernel
theorem dX7_fenceTold_20 : decode cX7_fenceTold 20 = .ok (.aload_n 0, 1) := by decide +kernel
theorem dX7_fenceTold_21 : decode cX7_fenceTold 21 = .ok (.iload_n 1, 1) := by decide +kernel
theorem dX7_fenceTold_22 : decode cX7_fenceTold 22 = .ok (.iconst 2, 1) := by decide +kernel
theorem dX7_fenceTold_23 : decode cX7_fenceTold 23 = .ok (.invokevirtual 45, 3) := by decide +kernel
theorem dX7_fenceTold_26 : decode cX7_fenceTold 26 = .ok (.if_icmp .ge 24, 3) := by decide +kernel
theorem dX7_fenceTold_29 : decode cX7_fenceTold 29 = .ok (.iload_n 3, 1) := by decide +kernel
theorem dX7_fenceTold_30 : decode cX7_fenceTold 30 = .ok (.aload_n 0, 1) := by decide +kernel
theorem dX7_fenceTold_31 : decode cX7_fenceTold 31 = .ok (.getfield 23, 3) := by decide +kernel
theorem dX7_fenceTold_34 : decode cX7_fenceTold 34 = .ok (.aload_n 0, 1) := by decide +kernel
theorem dX7_fenceTold_35 : decode cX7_fenceTold 35 = .ok (.iload_n 1, 1) := by decide +kernel
theorem dX7_fenceTold_36 : decode cX7_fenceTold 36 = .ok (.iload 4, 2) := by decide +kernel
theorem dX7_fenceTold_38 : decode cX7_fenceTold 38 = .ok (.invokevirtual 49, 3) := by decide +kernel
theorem dX7_fenceTold_41 : decode cX7_fenceTold 41 = .ok (.iaload, 1) := by decide +kernel
theorem dX7_fenceTold_42 : decode cX7_fenceTold 42 = .ok (.iadd, 1) := by decide +kernel
theorem dX7_fenceTold_43 : decode cX7_fenceTold 43 = .ok (.istore_n 3, 1) := by decide +kernel
theorem dX7_fenceTold_44 : decode cX7_fenceTold 44 = .ok (.iinc 4 1, 3) := by decide +kernel
theorem dX7_fenceTold_47 : decode cX7_fenceTold 47 = .ok (.goto (-29), 3) := by decide +kernel
theorem dX7_fenceTold_50 : decode cX7_fenceTold 50 = .ok (.iload_n 3, 1) := by decide +kernel
theorem dX7_fenceTold_51 : decode cX7_fenceTold 51 = .ok (.ireturn, 1) := by decide +kernel
theorem dX7_about_0 : decode cX7_about 0 = .ok (.aload_n 0, 1) := by decide +kernel
theorem dX7_about_1 : decode cX7_about 1 = .ok (.iconst 0, 1) := by decide +kernel
theorem dX7_about_2 : decode cX7_about 2 = .ok (.putfield 32, 3) := by decide +kernel
theorem dX7_about_5 : decode cX7_about 5 = .ok (.aload_n 0, 1) := by decide +kernel
theorem dX7_about_6 : decode cX7_about 6 = .ok (.iload_n 1, 1) := by decide +kernel
theorem dX7_about_7 : decode cX7_about 7 = .ok (.invokevirtual 103, 3) := by decide +kernel
theorem dX7_about_10 : decode cX7_about 10 = .ok (.ifCond .eq 22, 3) := by decide +kernel
theorem dX7_about_13 : decode cX7_about 13 = .ok (.iload_n 2, 1) := by decide +kernel
theorem dX7_about_14 : decode cX7_about 14 = .ok (.iconst 0, 1) := by decide +kernel
theorem dX7_about_15 : decode cX7_about 15 = .ok (.bipush 6, 2) := by decide +kernel
theorem dX7_about_17 : decode cX7_about 17 = .ok (.invokestatic 38, 3) := by decide +kernel
theorem dX7_about_20 : decode cX7_about 20 = .ok (.ifCond .eq 12, 3) := by decide +kernel
theorem dX7_about_23 : decode cX7_about 23 = .ok (.aload_n 0, 1) := by decide +kernel
theorem dX7_about_24 : decode cX7_about 24 = .ok (.iload_n 1, 1) := by decide +kernel
theorem dX7_about_25 : decode cX7_about 25 = .ok (.iload_n 2, 1) := by decide +kernel
theorem dX7_about_26 : decode cX7_about 26 = .ok (.invokevirtual 136, 3) := by decide +kernel
theorem dX7_about_29 : decode cX7_about 29 = .ok (.goto 8, 3) := by decide +kernel
theorem dX7_about_32 : decode cX7_about 32 = .ok (.aload_n 0, 1) := by decide +kernel
theorem dX7_about_33 : decode cX7_about 33 = .ok (.iconst 1, 1) := by decide +kernel
theorem dX7_about_34 : decode cX7_about 34 = .ok (.invokevirtual 96, 3) := by decide +kernel
theorem dX7_about_37 : decode cX7_about 37 = .ok (.ireturn, 1) := by decide +kernel
theorem dX7_onRoad_0 : decode cX7_onRoad 0 = .ok (.iconst 0, 1) := by decide +kernel
theorem dX7_onRoad_1 : decode cX7_onRoad 1 = .ok (.istore_n 2, 1) := by decide +kernel
theorem dX7_onRoad_2 : decode cX7_onRoad 2 = .ok (.iconst 0, 1) := by decide +kernel
theorem dX7_onRoad_3 : decode cX7_onRoad 3 = .ok (.istore_n 3, 1) := by decide +kernel
theorem dX7_onRoad_4 : decode cX7_onRoad 4 = .ok (.iload_n 3, 1) := by decide +kernel
theorem dX7_onRoad_5 : decode cX7_onRoad 5 = .ok (.bipush 20, 2) := by decide +kernel
theorem dX7_onRoad_7 : decode cX7_onRoad 7 = .ok (.if_icmp .ge 23, 3) := by decide +kernel
theorem dX7_onRoad_10 : decode cX7_onRoad 10 = .ok (.iload_n 2, 1) := by decide +kernel
theorem dX7_onRoad_11 : decode cX7_onRoad 11 = .ok (.aload_n 0, 1) := by decide +kernel
theorem dX7_onRoad_12 : decode cX7_onRoad 12 = .ok (.getfield 23, 3) := by decide +kernel
theorem dX7_onRoad_15 : decode cX7_onRoad 15 = .ok (.aload_n 0, 1) := by decide +kernel
theorem dX7_onRoad_16 : decode cX7_onRoad 16 = .ok (.iload_n 1, 1) := by decide +kernel
theorem dX7_onRoad_17 : decode cX7_onRoad 17 = .ok (.iload_n 3, 1) := by decide +kernel
theorem dX7_onRoad_18 : decode cX7_onRoad 18 = .ok (.invokevirtual 76, 3) := by decide +kernel
theorem dX7_onRoad_21 : decode cX7_onRoad 21 = .ok (.iaload, 1) := by decide +kernel
theorem dX7_onRoad_22 : decode cX7_onRoad 22 = .ok (.iadd, 1) := by decide +kernel
theorem dX7_onRoad_23 : decode cX7_onRoad 23 = .ok (.istore_n 2, 1) := by decide +kernel
theorem dX7_onRoad_24 : decode cX7_onRoad 24 = .ok (.iinc 3 1, 3) := by decide +kernel
theorem dX7_onRoad_27 : decode cX7_onRoad 27 = .ok (.goto (-23), 3) := by decide +kernel
theorem dX7_onRoad_30 : decode cX7_onRoad 30 = .ok (.iload_n 2, 1) := by decide +kernel
theorem dX7_onRoad_31 : decode cX7_onRoad 31 = .ok (.ireturn, 1) := by decide +kernel
theorem dX7_deepest_0 : decode cX7_deepest 0 = .ok (.iconst 0, 1) := by decide +kernel
theorem dX7_deepest_1 : decode cX7_deepest 1 = .ok (.istore_n 2, 1) := by decide +kernel
theorem dX7_deepest_2 : decode cX7_deepest 2 = .ok (.iconst 0, 1) := by decide +kernel
theorem dX7_deepest_3 : decode cX7_deepest 3 = .ok (.istore_n 3, 1) := by decide +kernel
theorem dX7_deepest_4 : decode cX7_deepest 4 = .ok (.iload_n 3, 1) := by decide +kernel
theorem dX7_deepest_5 : decode cX7_deepest 5 = .ok (.bipush 20, 2) := by decide +kernel
theorem dX7_deepest_7 : decode cX7_deepest 7 = .ok (.if_icmp .ge 25, 3) := by decide +kernel
theorem dX7_deepest_10 : decode cX7_deepest 10 = .ok (.iload_n 2, 1) := by decide +kernel
theorem dX7_deepest_11 : decode cX7_deepest 11 = .ok (.aload_n 0, 1) := by decide +kernel
theorem dX7_deepest_12 : decode cX7_deepest 12 = .ok (.getfield 23, 3) := by decide +kernel
theorem dX7_deepest_15 : decode cX7_deepest 15 = .ok (.aload_n 0, 1) := by decide +kernel
theorem dX7_deepest_16 : decode cX7_deepest 16 = .ok (.iload_n 1, 1) := by decide +kernel
theorem dX7_deepest_17 : decode cX7_deepest 17 = .ok (.iload_n 3, 1) := by decide +kernel
theorem dX7_deepest_18 : decode cX7_deepest 18 = .ok (.invokevirtual 76, 3) := by decide +kernel
theorem dX7_deepest_21 : decode cX7_deepest 21 = .ok (.iaload, 1) := by decide +kernel
theorem dX7_deepest_22 : decode cX7_deepest 22 = .ok (.invokestatic 60, 3) := by decide +kernel
theorem dX7_deepest_25 : decode cX7_deepest 25 = .ok (.istore_n 2, 1) := by decide +kernel
theorem dX7_deepest_26 : decode cX7_deepest 26 = .ok (.iinc 3 1, 3) := by decide +kernel
theorem dX7_deepest_29 : decode cX7_deepest 29 = .ok (.goto (-25), 3) := by decide +kernel
theorem dX7_deepest_32 : decode cX7_deepest 32 = .ok (.iload_n 2, 1) := by decide +kernel
theorem dX7_deepest_33 : decode cX7_deepest 33 = .ok (.ireturn, 1) := by decide +kernel
theorem dX7_roadTold_0 : decode cX7_roadTold 0 = .ok (.iload_n 2, 1) := by decide +kernel
theorem dX7_roadTold_1 : decode cX7_roadTold 1 = .ok (.tableswitch 57 0 3 #[31, 38, 45, 51], 31) := by decide +kernel
theorem dX7_roadTold_32 : decode cX7_roadTold 32 = .ok (.aload_n 0, 1) := by decide +kernel
theorem dX7_roadTold_33 : decode cX7_roadTold 33 = .ok (.getfield 13, 3) := by decide +kernel
theorem dX7_roadTold_36 : decode cX7_roadTold 36 = .ok (.iload_n 1, 1) := by decide +kernel
theorem dX7_roadTold_37 : decode cX7_roadTold 37 = .ok (.iaload, 1) := by decide +kernel
theorem dX7_roadTold_38 : decode cX7_roadTold 38 = .ok (.ireturn, 1) := by decide +kernel
theorem dX7_roadTold_39 : decode cX7_roadTold 39 = .ok (.aload_n 0, 1) := by decide +kernel
theorem dX7_roadTold_40 : decode cX7_roadTold 40 = .ok (.getfield 16, 3) := by decide +kernel
theorem dX7_roadTold_43 : decode cX7_roadTold 43 = .ok (.iload_n 1, 1) := by decide +kernel
theorem dX7_roadTold_44 : decode cX7_roadTold 44 = .ok (.iaload, 1) := by decide +kernel
theorem dX7_roadTold_45 : decode cX7_roadTold 45 = .ok (.ireturn, 1) := by decide +kernel
theorem dX7_roadTold_46 : decode cX7_roadTold 46 = .ok (.aload_n 0, 1) := by decide +kernel
theorem dX7_roadTold_47 : decode cX7_roadTold 47 = .ok (.iload_n 1, 1) := by decide +kernel
theorem dX7_roadTold_48 : decode cX7_roadTold 48 = .ok (.invokevirtual 79, 3) := by decide +kernel
theorem dX7_roadTold_51 : decode cX7_roadTold 51 = .ok (.ireturn, 1) := by decide +kernel
theorem dX7_roadTold_52 : decode cX7_roadTold 52 = .ok (.aload_n 0, 1) := by decide +kernel
theorem dX7_roadTold_53 : decode cX7_roadTold 53 = .ok (.iload_n 1, 1) := by decide +kernel
theorem dX7_roadTold_54 : decode cX7_roadTold 54 = .ok (.invokevirtual 130, 3) := by decide +kernel
theorem dX7_roadTold_57 : decode cX7_roadTold 57 = .ok (.ireturn, 1) := by decide +kernel
theorem dX7_roadTold_58 : decode cX7_roadTold 58 = .ok (.aload_n 0, 1) := by decide +kernel
theorem dX7_roadTold_59 : decode cX7_roadTold 59 = .ok (.iload_n 1, 1) := by decide +kernel
theorem dX7_roadTold_60 : decode cX7_roadTold 60 = .ok (.invokevirtual 139, 3) := by decide +kernel
theorem dX7_roadTold_63 : decode cX7_roadTold 63 = .ok (.ireturn, 1) := by decide +kernel
theorem dX7_told_0 : decode cX7_told 0 = .ok (.aload_n 0, 1) := by decide +kernel
theorem dX7_told_1 : decode cX7_told 1 = .ok (.iconst 0, 1) := by decide +kernel
theorem dX7_told_2 : decode cX7_told 2 = .ok (.putfield 32, 3) := by decide +kernel
theorem dX7_told_5 : decode cX7_told 5 = .ok (.aload_n 0, 1) := by decide +kernel
theorem dX7_told_6 : decode cX7_told 6 = .ok (.iload_n 1, 1) := by decide +kernel
theorem dX7_told_7 : decode cX7_told 7 = .ok (.invokevirtual 127, 3) := by decide +kernel
theorem dX7_told_10 : decode cX7_told 10 = .ok (.ifCond .eq 21, 3) := by decide +kernel
theorem dX7_told_13 : decode cX7_told 13 = .ok (.iload_n 2, 1) := by decide +kernel
theorem dX7_told_14 : decode cX7_told 14 = .ok (.iconst 0, 1) := by decide +kernel
theorem dX7_told_15 : decode cX7_told 15 = .ok (.iconst 4, 1) := by decide +kernel
theorem dX7_told_16 : decode cX7_told 16 = .ok (.invokestatic 38, 3) := by decide +kernel
theorem dX7_told_19 : decode cX7_told 19 = .ok (.ifCond .eq 12, 3) := by decide +kernel
theorem dX7_told_22 : decode cX7_told 22 = .ok (.aload_n 0, 1) := by decide +kernel
theorem dX7_told_23 : decode cX7_told 23 = .ok (.iload_n 1, 1) := by decide +kernel
theorem dX7_told_24 : decode cX7_told 24 = .ok (.iload_n 2, 1) := by decide +kernel
theorem dX7_told_25 : decode cX7_told 25 = .ok (.invokevirtual 142, 3) := by decide +kernel
theorem dX7_told_28 : decode cX7_told 28 = .ok (.goto 8, 3) := by decide +kernel
theorem dX7_told_31 : decode cX7_told 31 = .ok (.aload_n 0, 1) := by decide +kernel
theorem dX7_told_32 : decode cX7_told 32 = .ok (.iconst 1, 1) := by decide +kernel
theorem dX7_told_33 : decode cX7_told 33 = .ok (.invokevirtual 96, 3) := by decide +kernel
theorem dX7_told_36 : decode cX7_told 36 = .ok (.ireturn, 1) := by decide +kernel
theorem dX7_all_0 : decode cX7_all 0 = .ok (.iconst 0, 1) := by decide +kernel
theorem dX7_all_1 : decode cX7_all 1 = .ok (.istore_n 2, 1) := by decide +kernel
theorem dX7_all_2 : decode cX7_all 2 = .ok (.iconst 0, 1) := by decide +kernel
theorem dX7_all_3 : decode cX7_all 3 = .ok (.istore_n 3, 1) := by decide +kernel
theorem dX7_all_4 : decode cX7_all 4 = .ok (.aload_n 0, 1) := by decide +kernel
theorem dX7_all_5 : decode cX7_all 5 = .ok (.getfield 23, 3) := by decide +kernel
theorem dX7_all_8 : decode cX7_all 8 = .ok (.astore 4, 2) := by decide +kernel
theorem dX7_all_10 : decode cX7_all 10 = .ok (.aload 4, 2) := by decide +kernel
theorem dX7_all_12 : decode cX7_all 12 = .ok (.arraylength, 1) := by decide +kernel
theorem dX7_all_13 : decode cX7_all 13 = .ok (.istore 5, 2) := by decide +kernel
theorem dX7_all_15 : decode cX7_all 15 = .ok (.iconst 0, 1) := by decide +kernel
theorem dX7_all_16 : decode cX7_all 16 = .ok (.istore 6, 2) := by decide +kernel
theorem dX7_all_18 : decode cX7_all 18 = .ok (.iload 6, 2) := by decide +kernel
theorem dX7_all_20 : decode cX7_all 20 = .ok (.iload 5, 2) := by decide +kernel
theorem dX7_all_22 : decode cX7_all 22 = .ok (.if_icmp .ge 28, 3) := by decide +kernel
theorem dX7_all_25 : decode cX7_all 25 = .ok (.aload 4, 2) := by decide +kernel
theorem dX7_all_27 : decode cX7_all 27 = .ok (.iload 6, 2) := by decide +kernel
theorem dX7_all_29 : decode cX7_all 29 = .ok (.iaload, 1) := by decide +kernel
theorem dX7_all_30 : decode cX7_all 30 = .ok (.istore 7, 2) := by decide +kernel
theorem dX7_all_32 : decode cX7_all 32 = .ok (.iload_n 2, 1) := by decide +kernel
theorem dX7_all_33 : decode cX7_all 33 = .ok (.iload 7, 2) := by decide +kernel
theorem dX7_all_35 : decode cX7_all 35 = .ok (.iadd, 1) := by decide +kernel
theorem dX7_all_36 : decode cX7_all 36 = .ok (.istore_n 2, 1) := by decide +kernel
theorem dX7_all_37 : decode cX7_all 37 = .ok (.iload_n 3, 1) := by decide +kernel
theorem dX7_all_38 : decode cX7_all 38 = .ok (.iload 7, 2) := by decide +kernel
theorem dX7_all_40 : decode cX7_all 40 = .ok (.invokestatic 60, 3) := by decide +kernel
theorem dX7_all_43 : decode cX7_all 43 = .ok (.istore_n 3, 1) := by decide +kernel
theorem dX7_all_44 : decode cX7_all 44 = .ok (.iinc 6 1, 3) := by decide +kernel
theorem dX7_all_47 : decode cX7_all 47 = .ok (.goto (-29), 3) := by decide +kernel
theorem dX7_all_50 : decode cX7_all 50 = .ok (.iload_n 1, 1) := by decide +kernel
theorem dX7_all_51 : decode cX7_all 51 = .ok (.ifCond .eq 7, 3) := by decide +kernel
theorem dX7_all_54 : decode cX7_all 54 = .ok (.iload_n 3, 1) := by decide +kernel
theorem dX7_all_55 : decode cX7_all 55 = .ok (.goto 4, 3) := by decide +kernel
theorem dX7_all_58 : decode cX7_all 58 = .ok (.iload_n 2, 1) := by decide +kernel
theorem dX7_all_59 : decode cX7_all 59 = .ok (.ireturn, 1) := by decide +kernel
theorem dX7_counted_0 : decode cX7_counted 0 = .ok (.iload_n 1, 1) := by decide +kernel
theorem dX7_counted_1 : decode cX7_counted 1 = .ok (.tableswitch 98 0 8 #[51, 56, 61, 67, 73, 78, 83, 88, 93], 51) := by decide +kernel
theorem dX7_counted_52 : decode cX7_counted 52 = .ok (.aload_n 0, 1) := by decide +kernel
theorem dX7_counted_53 : decode cX7_counted 53 = .ok (.getfield 35, 3) := by decide +kernel
theorem dX7_counted_56 : decode cX7_counted 56 = .ok (.ireturn, 1) := by decide +kernel
theorem dX7_counted_57 : decode cX7_counted 57 = .ok (.aload_n 0, 1) := by decide +kernel
theorem dX7_counted_58 : decode cX7_counted 58 = .ok (.getfield 42, 3) := by decide +kernel
theorem dX7_counted_61 : decode cX7_counted 61 = .ok (.ireturn, 1) := by decide +kernel
theorem dX7_counted_62 : decode cX7_counted 62 = .ok (.aload_n 0, 1) := by decide +kernel
theorem dX7_counted_63 : decode cX7_counted 63 = .ok (.iconst 0, 1) := by decide +kernel
theorem dX7_counted_64 : decode cX7_counted 64 = .ok (.invokevirtual 145, 3) := by decide +kernel
theorem dX7_counted_67 : decode cX7_counted 67 = .ok (.ireturn, 1) := by decide +kernel
theorem dX7_counted_68 : decode cX7_counted 68 = .ok (.aload_n 0, 1) := by decide +kernel
theorem dX7_counted_69 : decode cX7_counted 69 = .ok (.iconst 1, 1) := by decide +kernel
theorem dX7_counted_70 : decode cX7_counted 70 = .ok (.invokevirtual 145, 3) := by decide +kernel
theorem dX7_counted_73 : decode cX7_counted 73 = .ok (.ireturn, 1) := by decide +kernel
theorem dX7_counted_74 : decode cX7_counted 74 = .ok (.aload_n 0, 1) := by decide +kernel
theorem dX7_counted_75 : decode cX7_counted 75 = .ok (.invokevirtual 89, 3) := by decide +kernel
theorem dX7_counted_78 : decode cX7_counted 78 = .ok (.ireturn, 1) := by decide +kernel
theorem dX7_counted_79 : decode cX7_counted 79 = .ok (.aload_n 0, 1) := by decide +kernel
theorem dX7_counted_80 : decode cX7_counted 80 = .ok (.getfield 121, 3) := by decide +kernel
theorem dX7_counted_83 : decode cX7_counted 83 = .ok (.ireturn, 1) := by decide +kernel
theorem dX7_counted_84 : decode cX7_counted 84 = .ok (.aload_n 0, 1) := by decide +kernel
theorem dX7_counted_85 : decode cX7_counted 85 = .ok (.getfield 133, 3) := by decide +kernel
theorem dX7_counted_88 : decode cX7_counted 88 = .ok (.ireturn, 1) := by decide +kernel
theorem dX7_counted_89 : decode cX7_counted 89 = .ok (.aload_n 0, 1) := by decide +kernel
theorem dX7_counted_90 : decode cX7_counted 90 = .ok (.getfield 124, 3) := by decide +kernel
theorem dX7_counted_93 : decode cX7_counted 93 = .ok (.ireturn, 1) := by decide +kernel
theorem dX7_counted_94 : decode cX7_counted 94 = .ok (.aload_n 0, 1) := by decide +kernel
theorem dX7_counted_95 : decode cX7_counted 95 = .ok (.getfield 19, 3) := by decide +kernel
theorem dX7_counted_98 : decode cX7_counted 98 = .ok (.ireturn, 1) := by decide +kernel
theorem dX7_counted_99 : decode cX7_counted 99 = .ok (.aload_n 0, 1) := by decide +kernel
theorem dX7_counted_100 : decode cX7_counted 100 = .ok (.getfield 52, 3) := by decide +kernel
theorem dX7_counted_103 : decode cX7_counted 103 = .ok (.ireturn, 1) := by decide +kernel
theorem dX7_count_0 : decode cX7_count 0 = .ok (.aload_n 0, 1) := by decide +kernel
theorem dX7_count_1 : decode cX7_count 1 = .ok (.iconst 0, 1) := by decide +kernel
theorem dX7_count_2 : decode cX7_count 2 = .ok (.putfield 32, 3) := by decide +kernel
theorem dX7_count_5 : decode cX7_count 5 = .ok (.iload_n 1, 1) := by decide +kernel
theorem dX7_count_6 : decode cX7_count 6 = .ok (.iconst 0, 1) := by decide +kernel
theorem dX7_count_7 : decode cX7_count 7 = .ok (.bipush 9, 2) := by decide +kernel
theorem dX7_count_9 : decode cX7_count 9 = .ok (.invokestatic 38, 3) := by decide +kernel
theorem dX7_count_12 : decode cX7_count 12 = .ok (.ifCond .eq 11, 3) := by decide +kernel
theorem dX7_count_15 : decode cX7_count 15 = .ok (.aload_n 0, 1) := by decide +kernel
theorem dX7_count_16 : decode cX7_count 16 = .ok (.iload_n 1, 1) := by decide +kernel
theorem dX7_count_17 : decode cX7_count 17 = .ok (.invokevirtual 149, 3) := by decide +kernel
theorem dX7_count_20 : decode cX7_count 20 = .ok (.goto 8, 3) := by decide +kernel
theorem dX7_count_23 : decode cX7_count 23 = .ok (.aload_n 0, 1) := by decide +kernel
theorem dX7_count_24 : decode cX7_count 24 = .ok (.iconst 1, 1) := by decide +kernel
theorem dX7_count_25 : decode cX7_count 25 = .ok (.invokevirtual 96, 3) := by decide +kernel
theorem dX7_count_28 : decode cX7_count 28 = .ok (.ireturn, 1) := by decide +kernel
theorem dX7_would_0 : decode cX7_would 0 = .ok (.aload_n 0, 1) := by decide +kernel
theorem dX7_would_1 : decode cX7_would 1 = .ok (.iconst 0, 1) := by decide +kernel
theorem dX7_would_2 : decode cX7_would 2 = .ok (.putfield 32, 3) := by decide +kernel
theorem dX7_would_5 : decode cX7_would 5 = .ok (.iload_n 1, 1) := by decide +kernel
theorem dX7_would_6 : decode cX7_would 6 = .ok (.invokestatic 111, 3) := by decide +kernel
theorem dX7_would_9 : decode cX7_would 9 = .ok (.ifCond .eq 12, 3) := by decide +kernel
theorem dX7_would_12 : decode cX7_would 12 = .ok (.aload_n 0, 1) := by decide +kernel
theorem dX7_would_13 : decode cX7_would 13 = .ok (.iload 4, 2) := by decide +kernel
theorem dX7_would_15 : decode cX7_would 15 = .ok (.invokevirtual 127, 3) := by decide +kernel
theorem dX7_would_18 : decode cX7_would 18 = .ok (.ifCond .ne 9, 3) := by decide +kernel
theorem dX7_would_21 : decode cX7_would 21 = .ok (.aload_n 0, 1) := by decide +kernel
theorem dX7_would_22 : decode cX7_would 22 = .ok (.iconst 1, 1) := by decide +kernel
theorem dX7_would_23 : decode cX7_would 23 = .ok (.invokevirtual 96, 3) := by decide +kernel
theorem dX7_would_26 : decode cX7_would 26 = .ok (.ireturn, 1) := by decide +kernel
theorem dX7_would_27 : decode cX7_would 27 = .ok (.iload_n 2, 1) := by decide +kernel
theorem dX7_would_28 : decode cX7_would 28 = .ok (.invokestatic 114, 3) := by decide +kernel
theorem dX7_would_31 : decode cX7_would 31 = .ok (.ifCond .eq 13, 3) := by decide +kernel
theorem dX7_would_34 : decode cX7_would 34 = .ok (.iload_n 3, 1) := by decide +kernel
theorem dX7_would_35 : decode cX7_would 35 = .ok (.iconst 1, 1) := by decide +kernel
theorem dX7_would_36 : decode cX7_would 36 = .ok (.bipush 24, 2) := by decide +kernel
theorem dX7_would_38 : decode cX7_would 38 = .ok (.invokestatic 38, 3) := by decide +kernel
theorem dX7_would_41 : decode cX7_would 41 = .ok (.ifCond .ne 9, 3) := by decide +kernel
theorem dX7_would_44 : decode cX7_would 44 = .ok (.aload_n 0, 1) := by decide +kernel
theorem dX7_would_45 : decode cX7_would 45 = .ok (.iconst 2, 1) := by decide +kernel
theorem dX7_would_46 : decode cX7_would 46 = .ok (.invokevirtual 96, 3) := by decide +kernel
theorem dX7_would_49 : decode cX7_would 49 = .ok (.ireturn, 1) := by decide +kernel
theorem dX7_would_50 : decode cX7_would 50 = .ok (.aload_n 0, 1) := by decide +kernel
theorem dX7_would_51 : decode cX7_would 51 = .ok (.aload_n 0, 1) := by decide +kernel
theorem dX7_would_52 : decode cX7_would 52 = .ok (.getfield 35, 3) := by decide +kernel
theorem dX7_would_55 : decode cX7_would 55 = .ok (.iconst (-1), 1) := by decide +kernel
theorem dX7_would_56 : decode cX7_would 56 = .ok (.invokevirtual 117, 3) := by decide +kernel
theorem dX7_would_59 : decode cX7_would 59 = .ok (.aload_n 0, 1) := by decide +kernel
theorem dX7_would_60 : decode cX7_would 60 = .ok (.invokevirtual 83, 3) := by decide +kernel
theorem dX7_would_63 : decode cX7_would 63 = .ok (.aload_n 0, 1) := by decide +kernel
theorem dX7_would_64 : decode cX7_would 64 = .ok (.iload_n 1, 1) := by decide +kernel
theorem dX7_would_65 : decode cX7_would 65 = .ok (.iload_n 2, 1) := by decide +kernel
theorem dX7_would_66 : decode cX7_would 66 = .ok (.iload_n 3, 1) := by decide +kernel
theorem dX7_would_67 : decode cX7_would 67 = .ok (.invokevirtual 86, 3) := by decide +kernel
theorem dX7_would_70 : decode cX7_would 70 = .ok (.pop, 1) := by decide +kernel
theorem dX7_would_71 : decode cX7_would 71 = .ok (.aload_n 0, 1) := by decide +kernel
theorem dX7_would_72 : decode cX7_would 72 = .ok (.iload 4, 2) := by decide +kernel
theorem dX7_would_74 : decode cX7_would 74 = .ok (.invokevirtual 79, 3) := by decide +kernel
theorem dX7_would_77 : decode cX7_would 77 = .ok (.istore 5, 2) := by decide +kernel
theorem dX7_would_79 : decode cX7_would 79 = .ok (.aload_n 0, 1) := by decide +kernel
theorem dX7_would_80 : decode cX7_would 80 = .ok (.invokevirtual 93, 3) := by decide +kernel
theorem dX7_would_83 : decode cX7_would 83 = .ok (.iload 5, 2) := by decide +kernel
theorem dX7_would_85 : decode cX7_would 85 = .ok (.ireturn, 1) := by decide +kernel
theorem dX7_until_0 : decode cX7_until 0 = .ok (.aload_n 0, 1) := by decide +kernel
theorem dX7_until_1 : decode cX7_until 1 = .ok (.iconst 0, 1) := by decide +kernel
theorem dX7_until_2 : decode cX7_until 2 = .ok (.putfield 32, 3) := by decide +kernel
theorem dX7_until_5 : decode cX7_until 5 = .ok (.iload_n 1, 1) := by decide +kernel
theorem dX7_until_6 : decode cX7_until 6 = .ok (.invokestatic 111, 3) := by decide +kernel
theorem dX7_until_9 : decode cX7_until 9 = .ok (.ifCond .eq 11, 3) := by decide +kernel
theorem dX7_until_12 : decode cX7_until 12 = .ok (.aload_n 0, 1) := by decide +kernel
theorem dX7_until_13 : decode cX7_until 13 = .ok (.iload_n 3, 1) := by decide +kernel
theorem dX7_until_14 : decode cX7_until 14 = .ok (.invokevirtual 127, 3) := by decide +kernel
theorem dX7_until_17 : decode cX7_until 17 = .ok (.ifCond .ne 9, 3) := by decide +kernel
theorem dX7_until_20 : decode cX7_until 20 = .ok (.aload_n 0, 1) := by decide +kernel
theorem dX7_until_21 : decode cX7_until 21 = .ok (.iconst 1, 1) := by decide +kernel
theorem dX7_until_22 : decode cX7_until 22 = .ok (.invokevirtual 96, 3) := by decide +kernel
theorem dX7_until_25 : decode cX7_until 25 = .ok (.ireturn, 1) := by decide +kernel
theorem dX7_until_26 : decode cX7_until 26 = .ok (.iload_n 2, 1) := by decide +kernel
theorem dX7_until_27 : decode cX7_until 27 = .ok (.invokestatic 114, 3) := by decide +kernel
theorem dX7_until_30 : decode cX7_until 30 = .ok (.ifCond .ne 9, 3) := by decide +kernel
theorem dX7_until_33 : decode cX7_until 33 = .ok (.aload_n 0, 1) := by decide +kernel
theorem dX7_until_34 : decode cX7_until 34 = .ok (.iconst 2, 1) := by decide +kernel
theorem dX7_until_35 : decode cX7_until 35 = .ok (.invokevirtual 96, 3) := by decide +kernel
theorem dX7_until_38 : decode cX7_until 38 = .ok (.ireturn, 1) := by decide +kernel
theorem dX7_until_39 : decode cX7_until 39 = .ok (.aload_n 0, 1) := by decide +kernel
theorem dX7_until_40 : decode cX7_until 40 = .ok (.aload_n 0, 1) := by decide +kernel
theorem dX7_until_41 : decode cX7_until 41 = .ok (.getfield 35, 3) := by decide +kernel
theorem dX7_until_44 : decode cX7_until 44 = .ok (.iconst (-1), 1) := by decide +kernel
theorem dX7_until_45 : decode cX7_until 45 = .ok (.invokevirtual 117, 3) := by decide +kernel
theorem dX7_until_48 : decode cX7_until 48 = .ok (.aload_n 0, 1) := by decide +kernel
theorem dX7_until_49 : decode cX7_until 49 = .ok (.invokevirtual 83, 3) := by decide +kernel
theorem dX7_until_52 : decode cX7_until 52 = .ok (.iconst 0, 1) := by decide +kernel
theorem dX7_until_53 : decode cX7_until 53 = .ok (.istore 4, 2) := by decide +kernel
theorem dX7_until_55 : decode cX7_until 55 = .ok (.iload 4, 2) := by decide +kernel
theorem dX7_until_57 : decode cX7_until 57 = .ok (.bipush 48, 2) := by decide +kernel
theorem dX7_until_59 : decode cX7_until 59 = .ok (.if_icmp .gt 24, 3) := by decide +kernel
theorem dX7_until_62 : decode cX7_until 62 = .ok (.aload_n 0, 1) := by decide +kernel
theorem dX7_until_63 : decode cX7_until 63 = .ok (.iload_n 3, 1) := by decide +kernel
theorem dX7_until_64 : decode cX7_until 64 = .ok (.invokevirtual 79, 3) := by decide +kernel
theorem dX7_until_67 : decode cX7_until 67 = .ok (.ifCond .ne 16, 3) := by decide +kernel
theorem dX7_until_70 : decode cX7_until 70 = .ok (.aload_n 0, 1) := by decide +kernel
theorem dX7_until_71 : decode cX7_until 71 = .ok (.iload_n 1, 1) := by decide +kernel
theorem dX7_until_72 : decode cX7_until 72 = .ok (.iload_n 2, 1) := by decide +kernel
theorem dX7_until_73 : decode cX7_until 73 = .ok (.invokevirtual 67, 3) := by decide +kernel
theorem dX7_until_76 : decode cX7_until 76 = .ok (.pop, 1) := by decide +kernel
theorem dX7_until_77 : decode cX7_until 77 = .ok (.iinc 4 1, 3) := by decide +kernel
theorem dX7_until_80 : decode cX7_until 80 = .ok (.goto (-25), 3) := by decide +kernel
theorem dX7_until_83 : decode cX7_until 83 = .ok (.aload_n 0, 1) := by decide +kernel
theorem dX7_until_84 : decode cX7_until 84 = .ok (.invokevirtual 93, 3) := by decide +kernel
theorem dX7_until_87 : decode cX7_until 87 = .ok (.iload 4, 2) := by decide +kernel
theorem dX7_until_89 : decode cX7_until 89 = .ok (.bipush 48, 2) := by decide +kernel
theorem dX7_until_91 : decode cX7_until 91 = .ok (.if_icmp .le 7, 3) := by decide +kernel
theorem dX7_until_94 : decode cX7_until 94 = .ok (.iconst (-1), 1) := by decide +kernel
theorem dX7_until_95 : decode cX7_until 95 = .ok (.goto 5, 3) := by decide +kernel
theorem dX7_until_98 : decode cX7_until 98 = .ok (.iload 4, 2) := by decide +kernel
theorem dX7_until_100 : decode cX7_until 100 = .ok (.ireturn, 1) := by decide +kernel
theorem dX7_advise_0 : decode cX7_advise 0 = .ok (.aload_n 0, 1) := by decide +kernel
theorem dX7_advise_1 : decode cX7_advise 1 = .ok (.iconst 0, 1) := by decide +kernel
theorem dX7_advise_2 : decode cX7_advise 2 = .ok (.putfield 32, 3) := by decide +kernel
theorem dX7_advise_5 : decode cX7_advise 5 = .ok (.iload_n 1, 1) := by decide +kernel
theorem dX7_advise_6 : decode cX7_advise 6 = .ok (.invokestatic 111, 3) := by decide +kernel
theorem dX7_advise_9 : decode cX7_advise 9 = .ok (.ifCond .ne 9, 3) := by decide +kernel
theorem dX7_advise_12 : decode cX7_advise 12 = .ok (.aload_n 0, 1) := by decide +kernel
theorem dX7_advise_13 : decode cX7_advise 13 = .ok (.iconst 1, 1) := by decide +kernel
theorem dX7_advise_14 : decode cX7_advise 14 = .ok (.invokevirtual 96, 3) := by decide +kernel
theorem dX7_advise_17 : decode cX7_advise 17 = .ok (.ireturn, 1) := by decide +kernel
theorem dX7_advise_18 : decode cX7_advise 18 = .ok (.iload_n 2, 1) := by decide +kernel
theorem dX7_advise_19 : decode cX7_advise 19 = .ok (.invokestatic 114, 3) := by decide +kernel
theorem dX7_advise_22 : decode cX7_advise 22 = .ok (.ifCond .eq 13, 3) := by decide +kernel
theorem dX7_advise_25 : decode cX7_advise 25 = .ok (.iload_n 3, 1) := by decide +kernel
theorem dX7_advise_26 : decode cX7_advise 26 = .ok (.iconst 1, 1) := by decide +kernel
theorem dX7_advise_27 : decode cX7_advise 27 = .ok (.bipush 9, 2) := by decide +kernel
theorem dX7_advise_29 : decode cX7_advise 29 = .ok (.invokestatic 38, 3) := by decide +kernel
theorem dX7_advise_32 : decode cX7_advise 32 = .ok (.ifCond .ne 9, 3) := by decide +kernel
theorem dX7_advise_35 : decode cX7_advise 35 = .ok (.aload_n 0, 1) := by decide +kernel
theorem dX7_advise_36 : decode cX7_advise 36 = .ok (.iconst 2, 1) := by decide +kernel
theorem dX7_advise_37 : decode cX7_advise 37 = .ok (.invokevirtual 96, 3) := by decide +kernel
theorem dX7_advise_40 : decode cX7_advise 40 = .ok (.ireturn, 1) := by decide +kernel
theorem dX7_advise_41 : decode cX7_advise 41 = .ok (.iload_n 1, 1) := by decide +kernel
theorem dX7_advise_42 : decode cX7_advise 42 = .ok (.iconst 2, 1) := by decide +kernel
theorem dX7_advise_43 : decode cX7_advise 43 = .ok (.irem, 1) := by decide +kernel
theorem dX7_advise_44 : decode cX7_advise 44 = .ok (.ifCond .ne 7, 3) := by decide +kernel
theorem dX7_advise_47 : decode cX7_advise 47 = .ok (.iconst 1, 1) := by decide +kernel
theorem dX7_advise_48 : decode cX7_advise 48 = .ok (.goto 4, 3) := by decide +kernel
theorem dX7_advise_51 : decode cX7_advise 51 = .ok (.iconst 0, 1) := by decide +kernel
theorem dX7_advise_52 : decode cX7_advise 52 = .ok (.istore 4, 2) := by decide +kernel
theorem dX7_advise_54 : decode cX7_advise 54 = .ok (.iconst (-1), 1) := by decide +kernel
theorem dX7_advise_55 : decode cX7_advise 55 = .ok (.istore 5, 2) := by decide +kernel
theorem dX7_advise_57 : decode cX7_advise 57 = .ok (.iconst 0, 1) := by decide +kernel
theorem dX7_advise_58 : decode cX7_advise 58 = .ok (.istore 6, 2) := by decide +kernel
theorem dX7_advise_60 : decode cX7_advise 60 = .ok (.iconst 0, 1) := by decide +kernel
theorem dX7_advise_61 : decode cX7_advise 61 = .ok (.istore 7, 2) := by decide +kernel
theorem dX7_advise_63 : decode cX7_advise 63 = .ok (.iload 7, 2) := by decide +kernel
theorem dX7_advise_65 : decode cX7_advise 65 = .ok (.bipush 20, 2) := by decide +kernel
theorem dX7_advise_67 : decode cX7_advise 67 = .ok (.if_icmp .ge 88, 3) := by decide +kernel
theorem dX7_advise_70 : decode cX7_advise 70 = .ok (.aload_n 0, 1) := by decide +kernel
theorem dX7_advise_71 : decode cX7_advise 71 = .ok (.aload_n 0, 1) := by decide +kernel
theorem dX7_advise_72 : decode cX7_advise 72 = .ok (.getfield 35, 3) := by decide +kernel
theorem dX7_advise_75 : decode cX7_advise 75 = .ok (.iload 4, 2) := by decide +kernel
theorem dX7_advise_77 : decode cX7_advise 77 = .ok (.ifCond .eq 8, 3) := by decide +kernel
theorem dX7_advise_80 : decode cX7_advise 80 = .ok (.iload 7, 2) := by decide +kernel
theorem dX7_advise_82 : decode cX7_advise 82 = .ok (.goto 4, 3) := by decide +kernel
theorem dX7_advise_85 : decode cX7_advise 85 = .ok (.iconst 0, 1) := by decide +kernel
theorem dX7_advise_86 : decode cX7_advise 86 = .ok (.iload 4, 2) := by decide +kernel
theorem dX7_advise_88 : decode cX7_advise 88 = .ok (.ifCond .eq 7, 3) := by decide +kernel
theorem dX7_advise_91 : decode cX7_advise 91 = .ok (.iconst 0, 1) := by decide +kernel
theorem dX7_advise_92 : decode cX7_advise 92 = .ok (.goto 5, 3) := by decide +kernel
theorem dX7_advise_95 : decode cX7_advise 95 = .ok (.iload 7, 2) := by decide +kernel
theorem dX7_advise_97 : decode cX7_advise 97 = .ok (.bipush 20, 2) := by decide +kernel
theorem dX7_advise_99 : decode cX7_advise 99 = .ok (.iload 4, 2) := by decide +kernel
theorem dX7_advise_101 : decode cX7_advise 101 = .ok (.iload_n 3, 1) := by decide +kernel
theorem dX7_advise_102 : decode cX7_advise 102 = .ok (.iconst 0, 1) := by decide +kernel
theorem dX7_advise_103 : decode cX7_advise 103 = .ok (.invokevirtual 99, 3) := by decide +kernel
theorem dX7_advise_106 : decode cX7_advise 106 = .ok (.aload_n 0, 1) := by decide +kernel
theorem dX7_advise_107 : decode cX7_advise 107 = .ok (.aload_n 0, 1) := by decide +kernel
theorem dX7_advise_108 : decode cX7_advise 108 = .ok (.getfield 35, 3) := by decide +kernel
theorem dX7_advise_111 : decode cX7_advise 111 = .ok (.iconst 1, 1) := by decide +kernel
theorem dX7_advise_112 : decode cX7_advise 112 = .ok (.iadd, 1) := by decide +kernel
theorem dX7_advise_113 : decode cX7_advise 113 = .ok (.iconst (-1), 1) := by decide +kernel
theorem dX7_advise_114 : decode cX7_advise 114 = .ok (.invokevirtual 117, 3) := by decide +kernel
theorem dX7_advise_117 : decode cX7_advise 117 = .ok (.aload_n 0, 1) := by decide +kernel
theorem dX7_advise_118 : decode cX7_advise 118 = .ok (.iload_n 1, 1) := by decide +kernel
theorem dX7_advise_119 : decode cX7_advise 119 = .ok (.iload_n 2, 1) := by decide +kernel
theorem dX7_advise_120 : decode cX7_advise 120 = .ok (.invokevirtual 152, 3) := by decide +kernel
theorem dX7_advise_123 : decode cX7_advise 123 = .ok (.istore 8, 2) := by decide +kernel
theorem dX7_advise_125 : decode cX7_advise 125 = .ok (.iload 5, 2) := by decide +kernel
theorem dX7_advise_127 : decode cX7_advise 127 = .ok (.iconst (-1), 1) := by decide +kernel
theorem dX7_advise_128 : decode cX7_advise 128 = .ok (.if_icmp .eq 13, 3) := by decide +kernel
theorem dX7_advise_131 : decode cX7_advise 131 = .ok (.iload 8, 2) := by decide +kernel
theorem dX7_advise_133 : decode cX7_advise 133 = .ok (.iload 6, 2) := by decide +kernel
theorem dX7_advise_135 : decode cX7_advise 135 = .ok (.if_icmp .lt 6, 3) := by decide +kernel
theorem dX7_advise_138 : decode cX7_advise 138 = .ok (.goto 11, 3) := by decide +kernel
theorem dX7_advise_141 : decode cX7_advise 141 = .ok (.iload 7, 2) := by decide +kernel
theorem dX7_advise_143 : decode cX7_advise 143 = .ok (.istore 5, 2) := by decide +kernel
theorem dX7_advise_145 : decode cX7_advise 145 = .ok (.iload 8, 2) := by decide +kernel
theorem dX7_advise_147 : decode cX7_advise 147 = .ok (.istore 6, 2) := by decide +kernel
theorem dX7_advise_149 : decode cX7_advise 149 = .ok (.iinc 7 1, 3) := by decide +kernel
theorem dX7_advise_152 : decode cX7_advise 152 = .ok (.goto (-89), 3) := by decide +kernel
theorem dX7_advise_155 : decode cX7_advise 155 = .ok (.iload 5, 2) := by decide +kernel
theorem dX7_advise_157 : decode cX7_advise 157 = .ok (.ireturn, 1) := by decide +kernel
theorem dX7_harmful_0 : decode cX7_harmful 0 = .ok (.aload_n 0, 1) := by decide +kernel
theorem dX7_harmful_1 : decode cX7_harmful 1 = .ok (.iconst 0, 1) := by decide +kernel
theorem dX7_harmful_2 : decode cX7_harmful 2 = .ok (.putfield 32, 3) := by decide +kernel
theorem dX7_harmful_5 : decode cX7_harmful 5 = .ok (.iload_n 1, 1) := by decide +kernel
theorem dX7_harmful_6 : decode cX7_harmful 6 = .ok (.invokestatic 111, 3) := by decide +kernel
theorem dX7_harmful_9 : decode cX7_harmful 9 = .ok (.ifCond .ne 9, 3) := by decide +kernel
theorem dX7_harmful_12 : decode cX7_harmful 12 = .ok (.aload_n 0, 1) := by decide +kernel
theorem dX7_harmful_13 : decode cX7_harmful 13 = .ok (.iconst 1, 1) := by decide +kernel
theorem dX7_harmful_14 : decode cX7_harmful 14 = .ok (.invokevirtual 96, 3) := by decide +kernel
theorem dX7_harmful_17 : decode cX7_harmful 17 = .ok (.ireturn, 1) := by decide +kernel
theorem dX7_harmful_18 : decode cX7_harmful 18 = .ok (.iload_n 2, 1) := by decide +kernel
theorem dX7_harmful_19 : decode cX7_harmful 19 = .ok (.invokestatic 114, 3) := by decide +kernel
theorem dX7_harmful_22 : decode cX7_harmful 22 = .ok (.ifCond .ne 9, 3) := by decide +kernel
theorem dX7_harmful_25 : decode cX7_harmful 25 = .ok (.aload_n 0, 1) := by decide +kernel
theorem dX7_harmful_26 : decode cX7_harmful 26 = .ok (.iconst 2, 1) := by decide +kernel
theorem dX7_harmful_27 : decode cX7_harmful 27 = .ok (.invokevirtual 96, 3) := by decide +kernel
theorem dX7_harmful_30 : decode cX7_harmful 30 = .ok (.ireturn, 1) := by decide +kernel
theorem dX7_harmful_31 : decode cX7_harmful 31 = .ok (.aload_n 0, 1) := by decide +kernel
theorem dX7_harmful_32 : decode cX7_harmful 32 = .ok (.aload_n 0, 1) := by decide +kernel
theorem dX7_harmful_33 : decode cX7_harmful 33 = .ok (.getfield 35, 3) := by decide +kernel
theorem dX7_harmful_36 : decode cX7_harmful 36 = .ok (.iconst (-1), 1) := by decide +kernel
theorem dX7_harmful_37 : decode cX7_harmful 37 = .ok (.invokevirtual 117, 3) := by decide +kernel
theorem dX7_harmful_40 : decode cX7_harmful 40 = .ok (.iconst (-1), 1) := by decide +kernel
theorem dX7_harmful_41 : decode cX7_harmful 41 = .ok (.istore_n 3, 1) := by decide +kernel
theorem dX7_harmful_42 : decode cX7_harmful 42 = .ok (.aload_n 0, 1) := by decide +kernel
theorem dX7_harmful_43 : decode cX7_harmful 43 = .ok (.iload_n 1, 1) := by decide +kernel
theorem dX7_harmful_44 : decode cX7_harmful 44 = .ok (.iload_n 2, 1) := by decide +kernel
theorem dX7_harmful_45 : decode cX7_harmful 45 = .ok (.invokevirtual 152, 3) := by decide +kernel
theorem dX7_harmful_48 : decode cX7_harmful 48 = .ok (.istore 4, 2) := by decide +kernel
theorem dX7_harmful_50 : decode cX7_harmful 50 = .ok (.iconst 0, 1) := by decide +kernel
theorem dX7_harmful_51 : decode cX7_harmful 51 = .ok (.istore 5, 2) := by decide +kernel
theorem dX7_harmful_53 : decode cX7_harmful 53 = .ok (.iload 5, 2) := by decide +kernel
theorem dX7_harmful_55 : decode cX7_harmful 55 = .ok (.aload_n 0, 1) := by decide +kernel
theorem dX7_harmful_56 : decode cX7_harmful 56 = .ok (.getfield 35, 3) := by decide +kernel
theorem dX7_harmful_59 : decode cX7_harmful 59 = .ok (.if_icmp .ge 44, 3) := by decide +kernel
theorem dX7_harmful_62 : decode cX7_harmful 62 = .ok (.aload_n 0, 1) := by decide +kernel
theorem dX7_harmful_63 : decode cX7_harmful 63 = .ok (.aload_n 0, 1) := by decide +kernel
theorem dX7_harmful_64 : decode cX7_harmful 64 = .ok (.getfield 35, 3) := by decide +kernel
theorem dX7_harmful_67 : decode cX7_harmful 67 = .ok (.iload 5, 2) := by decide +kernel
theorem dX7_harmful_69 : decode cX7_harmful 69 = .ok (.invokevirtual 117, 3) := by decide +kernel
theorem dX7_harmful_72 : decode cX7_harmful 72 = .ok (.aload_n 0, 1) := by decide +kernel
theorem dX7_harmful_73 : decode cX7_harmful 73 = .ok (.iload_n 1, 1) := by decide +kernel
theorem dX7_harmful_74 : decode cX7_harmful 74 = .ok (.iload_n 2, 1) := by decide +kernel
theorem dX7_harmful_75 : decode cX7_harmful 75 = .ok (.invokevirtual 152, 3) := by decide +kernel
theorem dX7_harmful_78 : decode cX7_harmful 78 = .ok (.istore 6, 2) := by decide +kernel
theorem dX7_harmful_80 : decode cX7_harmful 80 = .ok (.iload 6, 2) := by decide +kernel
theorem dX7_harmful_82 : decode cX7_harmful 82 = .ok (.iload 4, 2) := by decide +kernel
theorem dX7_harmful_84 : decode cX7_harmful 84 = .ok (.if_icmp .lt 6, 3) := by decide +kernel
theorem dX7_harmful_87 : decode cX7_harmful 87 = .ok (.goto 10, 3) := by decide +kernel
theorem dX7_harmful_90 : decode cX7_harmful 90 = .ok (.iload 5, 2) := by decide +kernel
theorem dX7_harmful_92 : decode cX7_harmful 92 = .ok (.istore_n 3, 1) := by decide +kernel
theorem dX7_harmful_93 : decode cX7_harmful 93 = .ok (.iload 6, 2) := by decide +kernel
theorem dX7_harmful_95 : decode cX7_harmful 95 = .ok (.istore 4, 2) := by decide +kernel
theorem dX7_harmful_97 : decode cX7_harmful 97 = .ok (.iinc 5 1, 3) := by decide +kernel
theorem dX7_harmful_100 : decode cX7_harmful 100 = .ok (.goto (-47), 3) := by decide +kernel
theorem dX7_harmful_103 : decode cX7_harmful 103 = .ok (.iload_n 3, 1) := by decide +kernel
theorem dX7_harmful_104 : decode cX7_harmful 104 = .ok (.ireturn, 1) := by decide +kernel
theorem dX7_mean_0 : decode cX7_mean 0 = .ok (.aload_n 0, 1) := by decide +kernel
theorem dX7_mean_1 : decode cX7_mean 1 = .ok (.iconst 0, 1) := by decide +kernel
theorem dX7_mean_2 : decode cX7_mean 2 = .ok (.putfield 32, 3) := by decide +kernel
theorem dX7_mean_5 : decode cX7_mean 5 = .ok (.aload_n 0, 1) := by decide +kernel
theorem dX7_mean_6 : decode cX7_mean 6 = .ok (.iconst 0, 1) := by decide +kernel
theorem dX7_mean_7 : decode cX7_mean 7 = .ok (.invokevirtual 145, 3) := by decide +kernel
theorem dX7_mean_10 : decode cX7_mean 10 = .ok (.i2d, 1) := by decide +kernel
theorem dX7_mean_11 : decode cX7_mean 11 = .ok (.ldc2_w 155, 3) := by decide +kernel
theorem dX7_mean_14 : decode cX7_mean 14 = .ok (.ddiv, 1) := by decide +kernel
theorem dX7_mean_15 : decode cX7_mean 15 = .ok (.dreturn, 1) := by decide +kernel
theorem dX7_digest_0 : decode cX7_digest 0 = .ok (.aload_n 0, 1) := by decide +kernel
theorem dX7_digest_1 : decode cX7_digest 1 = .ok (.iconst 0, 1) := by decide +kernel
theorem dX7_digest_2 : decode cX7_digest 2 = .ok (.putfield 32, 3) := by decide +kernel
theorem dX7_digest_5 : decode cX7_digest 5 = .ok (.ldc2_w 157, 3) := by decide +kernel
theorem dX7_digest_8 : decode cX7_digest 8 = .ok (.lstore_n 1, 1) := by decide +kernel
theorem dX7_digest_9 : decode cX7_digest 9 = .ok (.iconst 0, 1) := by decide +kernel
theorem dX7_digest_10 : decode cX7_digest 10 = .ok (.istore_n 3, 1) := by decide +kernel
theorem dX7_digest_11 : decode cX7_digest 11 = .ok (.iload_n 3, 1) := by decide +kernel
theorem dX7_digest_12 : decode cX7_digest 12 = .ok (.bipush 9, 2) := by decide +kernel
theorem dX7_digest_14 : decode cX7_digest 14 = .ok (.if_icmp .gt 22, 3) := by decide +kernel
theorem dX7_digest_17 : decode cX7_digest 17 = .ok (.lload_n 1, 1) := by decide +kernel
theorem dX7_digest_18 : decode cX7_digest 18 = .ok (.ldc2_w 159, 3) := by decide +kernel
theorem dX7_digest_21 : decode cX7_digest 21 = .ok (.lmul, 1) := by decide +kernel
theorem dX7_digest_22 : decode cX7_digest 22 = .ok (.aload_n 0, 1) := by decide +kernel
theorem dX7_digest_23 : decode cX7_digest 23 = .ok (.iload_n 3, 1) := by decide +kernel
theorem dX7_digest_24 : decode cX7_digest 24 = .ok (.invokevirtual 149, 3) := by decide +kernel
theorem dX7_digest_27 : decode cX7_digest 27 = .ok (.i2l, 1) := by decide +kernel
theorem dX7_digest_28 : decode cX7_digest 28 = .ok (.ladd, 1) := by decide +kernel
theorem dX7_digest_29 : decode cX7_digest 29 = .ok (.lstore_n 1, 1) := by decide +kernel
theorem dX7_digest_30 : decode cX7_digest 30 = .ok (.iinc 3 1, 3) := by decide +kernel
theorem dX7_digest_33 : decode cX7_digest 33 = .ok (.goto (-22), 3) := by decide +kernel
theorem dX7_digest_36 : decode cX7_digest 36 = .ok (.iconst 0, 1) := by decide +kernel
theorem dX7_digest_37 : decode cX7_digest 37 = .ok (.istore_n 3, 1) := by decide +kernel
theorem dX7_digest_38 : decode cX7_digest 38 = .ok (.iload_n 3, 1) := by decide +kernel
theorem dX7_digest_39 : decode cX7_digest 39 = .ok (.aload_n 0, 1) := by decide +kernel
theorem dX7_digest_40 : decode cX7_digest 40 = .ok (.getfield 35, 3) := by decide +kernel
theorem dX7_digest_43 : decode cX7_digest 43 = .ok (.if_icmp .ge 40, 3) := by decide +kernel
theorem dX7_digest_46 : decode cX7_digest 46 = .ok (.iconst 0, 1) := by decide +kernel
theorem dX7_digest_47 : decode cX7_digest 47 = .ok (.istore 4, 2) := by decide +kernel
theorem dX7_digest_49 : decode cX7_digest 49 = .ok (.iload 4, 2) := by decide +kernel
theorem dX7_digest_51 : decode cX7_digest 51 = .ok (.bipush 6, 2) := by decide +kernel
theorem dX7_digest_53 : decode cX7_digest 53 = .ok (.if_icmp .gt 24, 3) := by decide +kernel
theorem dX7_digest_56 : decode cX7_digest 56 = .ok (.lload_n 1, 1) := by decide +kernel
theorem dX7_digest_57 : decode cX7_digest 57 = .ok (.ldc2_w 159, 3) := by decide +kernel
theorem dX7_digest_60 : decode cX7_digest 60 = .ok (.lmul, 1) := by decide +kernel
theorem dX7_digest_61 : decode cX7_digest 61 = .ok (.aload_n 0, 1) := by decide +kernel
theorem dX7_digest_62 : decode cX7_digest 62 = .ok (.iload_n 3, 1) := by decide +kernel
theorem dX7_digest_63 : decode cX7_digest 63 = .ok (.iload 4, 2) := by decide +kernel
theorem dX7_digest_65 : decode cX7_digest 65 = .ok (.invokevirtual 136, 3) := by decide +kernel
theorem dX7_digest_68 : decode cX7_digest 68 = .ok (.i2l, 1) := by decide +kernel
theorem dX7_digest_69 : decode cX7_digest 69 = .ok (.ladd, 1) := by decide +kernel
theorem dX7_digest_70 : decode cX7_digest 70 = .ok (.lstore_n 1, 1) := by decide +kernel
theorem dX7_digest_71 : decode cX7_digest 71 = .ok (.iinc 4 1, 3) := by decide +kernel
theorem dX7_digest_74 : decode cX7_digest 74 = .ok (.goto (-25), 3) := by decide +kernel
theorem dX7_digest_77 : decode cX7_digest 77 = .ok (.iinc 3 1, 3) := by decide +kernel
theorem dX7_digest_80 : decode cX7_digest 80 = .ok (.goto (-42), 3) := by decide +kernel
theorem dX7_digest_83 : decode cX7_digest 83 = .ok (.iconst 0, 1) := by decide +kernel
theorem dX7_digest_84 : decode cX7_digest 84 = .ok (.istore_n 3, 1) := by decide +kernel
theorem dX7_digest_85 : decode cX7_digest 85 = .ok (.iload_n 3, 1) := by decide +kernel
theorem dX7_digest_86 : decode cX7_digest 86 = .ok (.aload_n 0, 1) := by decide +kernel
theorem dX7_digest_87 : decode cX7_digest 87 = .ok (.getfield 42, 3) := by decide +kernel
theorem dX7_digest_90 : decode cX7_digest 90 = .ok (.if_icmp .ge 39, 3) := by decide +kernel
theorem dX7_digest_93 : decode cX7_digest 93 = .ok (.iconst 0, 1) := by decide +kernel
theorem dX7_digest_94 : decode cX7_digest 94 = .ok (.istore 4, 2) := by decide +kernel
theorem dX7_digest_96 : decode cX7_digest 96 = .ok (.iload 4, 2) := by decide +kernel
theorem dX7_digest_98 : decode cX7_digest 98 = .ok (.iconst 4, 1) := by decide +kernel
theorem dX7_digest_99 : decode cX7_digest 99 = .ok (.if_icmp .gt 24, 3) := by decide +kernel
theorem dX7_digest_102 : decode cX7_digest 102 = .ok (.lload_n 1, 1) := by decide +kernel
theorem dX7_digest_103 : decode cX7_digest 103 = .ok (.ldc2_w 159, 3) := by decide +kernel
theorem dX7_digest_106 : decode cX7_digest 106 = .ok (.lmul, 1) := by decide +kernel
theorem dX7_digest_107 : decode cX7_digest 107 = .ok (.aload_n 0, 1) := by decide +kernel
theorem dX7_digest_108 : decode cX7_digest 108 = .ok (.iload_n 3, 1) := by decide +kernel
theorem dX7_digest_109 : decode cX7_digest 109 = .ok (.iload 4, 2) := by decide +kernel
theorem dX7_digest_111 : decode cX7_digest 111 = .ok (.invokevirtual 142, 3) := by decide +kernel
theorem dX7_digest_114 : decode cX7_digest 114 = .ok (.i2l, 1) := by decide +kernel
theorem dX7_digest_115 : decode cX7_digest 115 = .ok (.ladd, 1) := by decide +kernel
theorem dX7_digest_116 : decode cX7_digest 116 = .ok (.lstore_n 1, 1) := by decide +kernel
theorem dX7_digest_117 : decode cX7_digest 117 = .ok (.iinc 4 1, 3) := by decide +kernel
theorem dX7_digest_120 : decode cX7_digest 120 = .ok (.goto (-24), 3) := by decide +kernel
theorem dX7_digest_123 : decode cX7_digest 123 = .ok (.iinc 3 1, 3) := by decide +kernel
theorem dX7_digest_126 : decode cX7_digest 126 = .ok (.goto (-41), 3) := by decide +kernel
theorem dX7_digest_129 : decode cX7_digest 129 = .ok (.aload_n 0, 1) := by decide +kernel
theorem dX7_digest_130 : decode cX7_digest 130 = .ok (.getfield 23, 3) := by decide +kernel
theorem dX7_digest_133 : decode cX7_digest 133 = .ok (.astore_n 3, 1) := by decide +kernel
theorem dX7_digest_134 : decode cX7_digest 134 = .ok (.aload_n 3, 1) := by decide +kernel
theorem dX7_digest_135 : decode cX7_digest 135 = .ok (.arraylength, 1) := by decide +kernel
theorem dX7_digest_136 : decode cX7_digest 136 = .ok (.istore 4, 2) := by decide +kernel
theorem dX7_digest_138 : decode cX7_digest 138 = .ok (.iconst 0, 1) := by decide +kernel
theorem dX7_digest_139 : decode cX7_digest 139 = .ok (.istore 5, 2) := by decide +kernel
theorem dX7_digest_141 : decode cX7_digest 141 = .ok (.iload 5, 2) := by decide +kernel
theorem dX7_digest_143 : decode cX7_digest 143 = .ok (.iload 4, 2) := by decide +kernel
theorem dX7_digest_145 : decode cX7_digest 145 = .ok (.if_icmp .ge 25, 3) := by decide +kernel
theorem dX7_digest_148 : decode cX7_digest 148 = .ok (.aload_n 3, 1) := by decide +kernel
theorem dX7_digest_149 : decode cX7_digest 149 = .ok (.iload 5, 2) := by decide +kernel
theorem dX7_digest_151 : decode cX7_digest 151 = .ok (.iaload, 1) := by decide +kernel
theorem dX7_digest_152 : decode cX7_digest 152 = .ok (.istore 6, 2) := by decide +kernel
theorem dX7_digest_154 : decode cX7_digest 154 = .ok (.lload_n 1, 1) := by decide +kernel
theorem dX7_digest_155 : decode cX7_digest 155 = .ok (.ldc2_w 159, 3) := by decide +kernel
theorem dX7_digest_158 : decode cX7_digest 158 = .ok (.lmul, 1) := by decide +kernel
theorem dX7_digest_159 : decode cX7_digest 159 = .ok (.iload 6, 2) := by decide +kernel
theorem dX7_digest_161 : decode cX7_digest 161 = .ok (.i2l, 1) := by decide +kernel
theorem dX7_digest_162 : decode cX7_digest 162 = .ok (.ladd, 1) := by decide +kernel
theorem dX7_digest_163 : decode cX7_digest 163 = .ok (.lstore_n 1, 1) := by decide +kernel
theorem dX7_digest_164 : decode cX7_digest 164 = .ok (.iinc 5 1, 3) := by decide +kernel
theorem dX7_digest_167 : decode cX7_digest 167 = .ok (.goto (-26), 3) := by decide +kernel
theorem dX7_digest_170 : decode cX7_digest 170 = .ok (.lload_n 1, 1) := by decide +kernel
theorem dX7_digest_171 : decode cX7_digest 171 = .ok (.lreturn, 1) := by decide +kernel
theorem dJ9_max_7cf53_0 : decode cJ9_max_7cf53 0 = .ok (.iload_n 0, 1) := by decide +kernel
theorem dJ9_max_7cf53_1 : decode cJ9_max_7cf53 1 = .ok (.iload_n 1, 1) := by decide +kernel
theorem dJ9_max_7cf53_2 : decode cJ9_max_7cf53 2 = .ok (.if_icmp .lt 7, 3) := by decide +kernel
theorem dJ9_max_7cf53_5 : decode cJ9_max_7cf53 5 = .ok (.iload_n 0, 1) := by decide +kernel
theorem dJ9_max_7cf53_6 : decode cJ9_max_7cf53 6 = .ok (.goto 4, 3) := by decide +kernel
theorem dJ9_max_7cf53_9 : decode cJ9_max_7cf53 9 = .ok (.iload_n 1, 1) := by decide +kernel
theorem dJ9_max_7cf53_10 : decode cJ9_max_7cf53 10 = .ok (.ireturn, 1) := by decide +kernel
theorem dJ9_min_7cf53_0 : decode cJ9_min_7cf53 0 = .ok (.iload_n 0, 1) := by decide +kernel
theorem dJ9_min_7cf53_1 : decode cJ9_min_7cf53 1 = .ok (.iload_n 1, 1) := by decide +kernel
theorem dJ9_min_7cf53_2 : decode cJ9_min_7cf53 2 = .ok (.if_icmp .gt 7, 3) := by decide +kernel
theorem dJ9_min_7cf53_5 : decode cJ9_min_7cf53 5 = .ok (.iload_n 0, 1) := by decide +kernel
theorem dJ9_min_7cf53_6 : decode cJ9_min_7cf53 6 = .ok (.goto 4, 3) := by decide +kernel
theorem dJ9_min_7cf53_9 : decode cJ9_min_7cf53 9 = .ok (.iload_n 1, 1) := by decide +kernel
theorem dJ9_min_7cf53_10 : decode cJ9_min_7cf53 10 = .ok (.ireturn, 1) := by decide +kernel
theorem dJxa1e45_init_da8c8_0 : decode cJxa1e45_init_da8c8 0 = .ok (.aload_n 0, 1) := by decide +kernel
theorem dJxa1e45_init_da8c8_1 : decode cJxa1e45_init_da8c8 1 = .ok (.invokespecial 1, 3) := by decide +kernel
theorem dJxa1e45_init_da8c8_4 : decode cJxa1e45_init_da8c8 4 = .ok (.return_, 1) := by decide +kernel
theorem dJxc12de_init_da8c8_0 : decode cJxc12de_init_da8c8 0 = .ok (.aload_n 0, 1) := by decide +kernel
theorem dJxc12de_init_da8c8_1 : decode cJxc12de_init_da8c8 1 = .ok (.invokespecial 1, 3) := by decide +kernel
theorem dJxc12de_init_da8c8_4 : decode cJxc12de_init_da8c8 4 = .ok (.aload_n 0, 1) := by decide +kernel
theorem dJxc12de_init_da8c8_5 : decode cJxc12de_init_da8c8 5 = .ok (.iconst 0, 1) := by decide +kernel
theorem dJxc12de_init_da8c8_6 : decode cJxc12de_init_da8c8 6 = .ok (.putfield 7, 3) := by decide +kernel
theorem dJxc12de_init_da8c8_9 : decode cJxc12de_init_da8c8 9 = .ok (.return_, 1) := by decide +kernel
theorem dJx4a65c_init_da8c8_0 : decode cJx4a65c_init_da8c8 0 = .ok (.aload_n 0, 1) := by decide +kernel
theorem dJx4a65c_init_da8c8_1 : decode cJx4a65c_init_da8c8 1 = .ok (.invokespecial 1, 3) := by decide +kernel
theorem dJx4a65c_init_da8c8_4 : decode cJx4a65c_init_da8c8 4 = .ok (.aload_n 0, 1) := by decide +kernel
theorem dJx4a65c_init_da8c8_5 : decode cJx4a65c_init_da8c8 5 = .ok (.getstatic 39, 3) := by decide +kernel
theorem dJx4a65c_init_da8c8_8 : decode cJx4a65c_init_da8c8 8 = .ok (.putfield 9, 3) := by decide +kernel
theorem dJx4a65c_init_da8c8_11 : decode cJx4a65c_init_da8c8 11 = .ok (.return_, 1) := by decide +kernel
theorem dJx4a65c_grow_92f84_0 : decode cJx4a65c_grow_92f84 0 = .ok (.aload_n 0, 1) := by decide +kernel
theorem dJx4a65c_grow_92f84_1 : decode cJx4a65c_grow_92f84 1 = .ok (.getfield 9, 3) := by decide +kernel
theorem dJx4a65c_grow_92f84_4 : decode cJx4a65c_grow_92f84 4 = .ok (.arraylength, 1) := by decide +kernel
theorem dJx4a65c_grow_92f84_5 : decode cJx4a65c_grow_92f84 5 = .ok (.istore_n 2, 1) := by decide +kernel
theorem dJx4a65c_grow_92f84_6 : decode cJx4a65c_grow_92f84 6 = .ok (.iload_n 2, 1) := by decide +kernel
theorem dJx4a65c_grow_92f84_7 : decode cJx4a65c_grow_92f84 7 = .ok (.ifCond .gt 13, 3) := by decide +kernel
theorem dJx4a65c_grow_92f84_10 : decode cJx4a65c_grow_92f84 10 = .ok (.aload_n 0, 1) := by decide +kernel
theorem dJx4a65c_grow_92f84_11 : decode cJx4a65c_grow_92f84 11 = .ok (.getfield 9, 3) := by decide +kernel
theorem dJx4a65c_grow_92f84_14 : decode cJx4a65c_grow_92f84 14 = .ok (.getstatic 39, 3) := by decide +kernel
theorem dJx4a65c_grow_92f84_17 : decode cJx4a65c_grow_92f84 17 = .ok (.if_acmp .eq 28, 3) := by decide +kernel
theorem dJx4a65c_grow_92f84_20 : decode cJx4a65c_grow_92f84 20 = .ok (.iload_n 2, 1) := by decide +kernel
theorem dJx4a65c_grow_92f84_21 : decode cJx4a65c_grow_92f84 21 = .ok (.iload_n 1, 1) := by decide +kernel
theorem dJx4a65c_grow_92f84_22 : decode cJx4a65c_grow_92f84 22 = .ok (.iload_n 2, 1) := by decide +kernel
theorem dJx4a65c_grow_92f84_23 : decode cJx4a65c_grow_92f84 23 = .ok (.isub, 1) := by decide +kernel
theorem dJx4a65c_grow_92f84_24 : decode cJx4a65c_grow_92f84 24 = .ok (.iload_n 2, 1) := by decide +kernel
theorem dJx4a65c_grow_92f84_25 : decode cJx4a65c_grow_92f84 25 = .ok (.iconst 1, 1) := by decide +kernel
theorem dJx4a65c_grow_92f84_26 : decode cJx4a65c_grow_92f84 26 = .ok (.ishr, 1) := by decide +kernel
theorem dJx4a65c_grow_92f84_27 : decode cJx4a65c_grow_92f84 27 = .ok (.invokestatic 73, 3) := by decide +kernel
theorem dJx4a65c_grow_92f84_30 : decode cJx4a65c_grow_92f84 30 = .ok (.istore_n 3, 1) := by decide +kernel
theorem dJx4a65c_grow_92f84_31 : decode cJx4a65c_grow_92f84 31 = .ok (.aload_n 0, 1) := by decide +kernel
theorem dJx4a65c_grow_92f84_32 : decode cJx4a65c_grow_92f84 32 = .ok (.aload_n 0, 1) := by decide +kernel
theorem dJx4a65c_grow_92f84_33 : decode cJx4a65c_grow_92f84 33 = .ok (.getfield 9, 3) := by decide +kernel
theorem dJx4a65c_grow_92f84_36 : decode cJx4a65c_grow_92f84 36 = .ok (.iload_n 3, 1) := by decide +kernel
theorem dJx4a65c_grow_92f84_37 : decode cJx4a65c_grow_92f84 37 = .ok (.invokestatic 66, 3) := by decide +kernel
theorem dJx4a65c_grow_92f84_40 : decode cJx4a65c_grow_92f84 40 = .ok (.dup_x1, 1) := by decide +kernel
theorem dJx4a65c_grow_92f84_41 : decode cJx4a65c_grow_92f84 41 = .ok (.putfield 9, 3) := by decide +kernel
theorem dJx4a65c_grow_92f84_44 : decode cJx4a65c_grow_92f84 44 = .ok (.areturn, 1) := by decide +kernel
theorem dJx4a65c_grow_92f84_45 : decode cJx4a65c_grow_92f84 45 = .ok (.aload_n 0, 1) := by decide +kernel
theorem dJx4a65c_grow_92f84_46 : decode cJx4a65c_grow_92f84 46 = .ok (.bipush 10, 2) := by decide +kernel
theorem dJx4a65c_grow_92f84_48 : decode cJx4a65c_grow_92f84 48 = .ok (.iload_n 1, 1) := by decide +kernel
theorem dJx4a65c_grow_92f84_49 : decode cJx4a65c_grow_92f84 49 = .ok (.invokestatic 79, 3) := by decide +kernel
theorem dJx4a65c_grow_92f84_52 : decode cJx4a65c_grow_92f84 52 = .ok (.anewarray 7, 3) := by decide +kernel
theorem dJx4a65c_grow_92f84_55 : decode cJx4a65c_grow_92f84 55 = .ok (.dup_x1, 1) := by decide +kernel
theorem dJx4a65c_grow_92f84_56 : decode cJx4a65c_grow_92f84 56 = .ok (.putfield 9, 3) := by decide +kernel
theorem dJx4a65c_grow_92f84_59 : decode cJx4a65c_grow_92f84 59 = .ok (.areturn, 1) := by decide +kernel
theorem dJx4a65c_grow_d5877_0 : decode cJx4a65c_grow_d5877 0 = .ok (.aload_n 0, 1) := by decide +kernel
theorem dJx4a65c_grow_d5877_1 : decode cJx4a65c_grow_d5877 1 = .ok (.aload_n 0, 1) := by decide +kernel
theorem dJx4a65c_grow_d5877_2 : decode cJx4a65c_grow_d5877 2 = .ok (.getfield 48, 3) := by decide +kernel
theorem dJx4a65c_grow_d5877_5 : decode cJx4a65c_grow_d5877 5 = .ok (.iconst 1, 1) := by decide +kernel
theorem dJx4a65c_grow_d5877_6 : decode cJx4a65c_grow_d5877 6 = .ok (.iadd, 1) := by decide +kernel
theorem dJx4a65c_grow_d5877_7 : decode cJx4a65c_grow_d5877 7 = .ok (.invokevirtual 69, 3) := by decide +kernel
theorem dJx4a65c_grow_d5877_10 : decode cJx4a65c_grow_d5877 10 = .ok (.areturn, 1) := by decide +kernel
theorem dJx4a65c_size_8abf5_0 : decode cJx4a65c_size_8abf5 0 = .ok (.aload_n 0, 1) := by decide +kernel
theorem dJx4a65c_size_8abf5_1 : decode cJx4a65c_size_8abf5 1 = .ok (.getfield 48, 3) := by decide +kernel
theorem dJx4a65c_size_8abf5_4 : decode cJx4a65c_size_8abf5 4 = .ok (.ireturn, 1) := by decide +kernel
theorem dJx4a65c_elementData_915e3_0 : decode cJx4a65c_elementData_915e3 0 = .ok (.aload_n 0, 1) := by decide +kernel
theorem dJx4a65c_elementData_915e3_1 : decode cJx4a65c_elementData_915e3 1 = .ok (.getfield 9, 3) := by decide +kernel
theorem dJx4a65c_elementData_915e3_4 : decode cJx4a65c_elementData_915e3 4 = .ok (.iload_n 1, 1) := by decide +kernel
theorem dJx4a65c_elementData_915e3_5 : decode cJx4a65c_elementData_915e3 5 = .ok (.aaload, 1) := by decide +kernel
theorem dJx4a65c_elementData_915e3_6 : decode cJx4a65c_elementData_915e3 6 = .ok (.areturn, 1) := by decide +kernel
theorem dJx4a65c_get_915e3_0 : decode cJx4a65c_get_915e3 0 = .ok (.iload_n 1, 1) := by decide +kernel
theorem dJx4a65c_get_915e3_1 : decode cJx4a65c_get_915e3 1 = .ok (.aload_n 0, 1) := by decide +kernel
theorem dJx4a65c_get_915e3_2 : decode cJx4a65c_get_915e3 2 = .ok (.getfield 48, 3) := by decide +kernel
theorem dJx4a65c_get_915e3_5 : decode cJx4a65c_get_915e3 5 = .ok (.invokestatic 118, 3) := by decide +kernel
theorem dJx4a65c_get_915e3_8 : decode cJx4a65c_get_915e3 8 = .ok (.pop, 1) := by decide +kernel
theorem dJx4a65c_get_915e3_9 : decode cJx4a65c_get_915e3 9 = .ok (.aload_n 0, 1) := by decide +kernel
theorem dJx4a65c_get_915e3_10 : decode cJx4a65c_get_915e3 10 = .ok (.iload_n 1, 1) := by decide +kernel
theorem dJx4a65c_get_915e3_11 : decode cJx4a65c_get_915e3 11 = .ok (.invokevirtual 123, 3) := by decide +kernel
theorem dJx4a65c_get_915e3_14 : decode cJx4a65c_get_915e3 14 = .ok (.areturn, 1) := by decide +kernel
theorem dJx4a65c_add_72be8_0 : decode cJx4a65c_add_72be8 0 = .ok (.iload_n 3, 1) := by decide +kernel
theorem dJx4a65c_add_72be8_1 : decode cJx4a65c_add_72be8 1 = .ok (.aload_n 2, 1) := by decide +kernel
theorem dJx4a65c_add_72be8_2 : decode cJx4a65c_add_72be8 2 = .ok (.arraylength, 1) := by decide +kernel
theorem dJx4a65c_add_72be8_3 : decode cJx4a65c_add_72be8 3 = .ok (.if_icmp .ne 8, 3) := by decide +kernel
theorem dJx4a65c_add_72be8_6 : decode cJx4a65c_add_72be8 6 = .ok (.aload_n 0, 1) := by decide +kernel
theorem dJx4a65c_add_72be8_7 : decode cJx4a65c_add_72be8 7 = .ok (.invokevirtual 129, 3) := by decide +kernel
theorem dJx4a65c_add_72be8_10 : decode cJx4a65c_add_72be8 10 = .ok (.astore_n 2, 1) := by decide +kernel
theorem dJx4a65c_add_72be8_11 : decode cJx4a65c_add_72be8 11 = .ok (.aload_n 2, 1) := by decide +kernel
theorem dJx4a65c_add_72be8_12 : decode cJx4a65c_add_72be8 12 = .ok (.iload_n 3, 1) := by decide +kernel
theorem dJx4a65c_add_72be8_13 : decode cJx4a65c_add_72be8 13 = .ok (.aload_n 1, 1) := by decide +kernel
theorem dJx4a65c_add_72be8_14 : decode cJx4a65c_add_72be8 14 = .ok (.aastore, 1) := by decide +kernel
theorem dJx4a65c_add_72be8_15 : decode cJx4a65c_add_72be8 15 = .ok (.aload_n 0, 1) := by decide +kernel
theorem dJx4a65c_add_72be8_16 : decode cJx4a65c_add_72be8 16 = .ok (.iload_n 3, 1) := by decide +kernel
theorem dJx4a65c_add_72be8_17 : decode cJx4a65c_add_72be8 17 = .ok (.iconst 1, 1) := by decide +kernel
theorem dJx4a65c_add_72be8_18 : decode cJx4a65c_add_72be8 18 = .ok (.iadd, 1) := by decide +kernel
theorem dJx4a65c_add_72be8_19 : decode cJx4a65c_add_72be8 19 = .ok (.putfield 48, 3) := by decide +kernel
theorem dJx4a65c_add_72be8_22 : decode cJx4a65c_add_72be8 22 = .ok (.return_, 1) := by decide +kernel
theorem dJx4a65c_add_9ea2d_0 : decode cJx4a65c_add_9ea2d 0 = .ok (.aload_n 0, 1) := by decide +kernel
theorem dJx4a65c_add_9ea2d_1 : decode cJx4a65c_add_9ea2d 1 = .ok (.dup, 1) := by decide +kernel
theorem dJx4a65c_add_9ea2d_2 : decode cJx4a65c_add_9ea2d 2 = .ok (.getfield 63, 3) := by decide +kernel
theorem dJx4a65c_add_9ea2d_5 : decode cJx4a65c_add_9ea2d 5 = .ok (.iconst 1, 1) := by decide +kernel
theorem dJx4a65c_add_9ea2d_6 : decode cJx4a65c_add_9ea2d 6 = .ok (.iadd, 1) := by decide +kernel
theorem dJx4a65c_add_9ea2d_7 : decode cJx4a65c_add_9ea2d 7 = .ok (.putfield 63, 3) := by decide +kernel
theorem dJx4a65c_add_9ea2d_10 : decode cJx4a65c_add_9ea2d 10 = .ok (.aload_n 0, 1) := by decide +kernel
theorem dJx4a65c_add_9ea2d_11 : decode cJx4a65c_add_9ea2d 11 = .ok (.aload_n 1, 1) := by decide +kernel
theorem dJx4a65c_add_9ea2d_12 : decode cJx4a65c_add_9ea2d 12 = .ok (.aload_n 0, 1) := by decide +kernel
theorem dJx4a65c_add_9ea2d_13 : decode cJx4a65c_add_9ea2d 13 = .ok (.getfield 9, 3) := by decide +kernel
theorem dJx4a65c_add_9ea2d_16 : decode cJx4a65c_add_9ea2d 16 = .ok (.aload_n 0, 1) := by decide +kernel
theorem dJx4a65c_add_9ea2d_17 : decode cJx4a65c_add_9ea2d 17 = .ok (.getfield 48, 3) := by decide +kernel
theorem dJx4a65c_add_9ea2d_20 : decode cJx4a65c_add_9ea2d 20 = .ok (.invokevirtual 131, 3) := by decide +kernel
theorem dJx4a65c_add_9ea2d_23 : decode cJx4a65c_add_9ea2d 23 = .ok (.iconst 1, 1) := by decide +kernel
theorem dJx4a65c_add_9ea2d_24 : decode cJx4a65c_add_9ea2d 24 = .ok (.ireturn, 1) := by decide +kernel
theorem dJx4a65c_remove_915e3_0 : decode cJx4a65c_remove_915e3 0 = .ok (.iload_n 1, 1) := by decide +kernel
theorem dJx4a65c_remove_915e3_1 : decode cJx4a65c_remove_915e3 1 = .ok (.aload_n 0, 1) := by decide +kernel
theorem dJx4a65c_remove_915e3_2 : decode cJx4a65c_remove_915e3 2 = .ok (.getfield 48, 3) := by decide +kernel
theorem dJx4a65c_remove_915e3_5 : decode cJx4a65c_remove_915e3 5 = .ok (.invokestatic 118, 3) := by decide +kernel
theorem dJx4a65c_remove_915e3_8 : decode cJx4a65c_remove_915e3 8 = .ok (.pop, 1) := by decide +kernel
theorem dJx4a65c_remove_915e3_9 : decode cJx4a65c_remove_915e3 9 = .ok (.aload_n 0, 1) := by decide +kernel
theorem dJx4a65c_remove_915e3_10 : decode cJx4a65c_remove_915e3 10 = .ok (.getfield 9, 3) := by decide +kernel
theorem dJx4a65c_remove_915e3_13 : decode cJx4a65c_remove_915e3 13 = .ok (.astore_n 2, 1) := by decide +kernel
theorem dJx4a65c_remove_915e3_14 : decode cJx4a65c_remove_915e3 14 = .ok (.aload_n 2, 1) := by decide +kernel
theorem dJx4a65c_remove_915e3_15 : decode cJx4a65c_remove_915e3 15 = .ok (.iload_n 1, 1) := by decide +kernel
theorem dJx4a65c_remove_915e3_16 : decode cJx4a65c_remove_915e3 16 = .ok (.aaload, 1) := by decide +kernel
theorem dJx4a65c_remove_915e3_17 : decode cJx4a65c_remove_915e3 17 = .ok (.astore_n 3, 1) := by decide +kernel
theorem dJx4a65c_remove_915e3_18 : decode cJx4a65c_remove_915e3 18 = .ok (.aload_n 0, 1) := by decide +kernel
theorem dJx4a65c_remove_915e3_19 : decode cJx4a65c_remove_915e3 19 = .ok (.aload_n 2, 1) := by decide +kernel
theorem dJx4a65c_remove_915e3_20 : decode cJx4a65c_remove_915e3 20 = .ok (.iload_n 1, 1) := by decide +kernel
theorem dJx4a65c_remove_915e3_21 : decode cJx4a65c_remove_915e3 21 = .ok (.invokevirtual 144, 3) := by decide +kernel
theorem dJx4a65c_remove_915e3_24 : decode cJx4a65c_remove_915e3 24 = .ok (.aload_n 3, 1) := by decide +kernel
theorem dJx4a65c_remove_915e3_25 : decode cJx4a65c_remove_915e3 25 = .ok (.areturn, 1) := by decide +kernel
theorem dJx4a65c_fastRemove_b59b0_0 : decode cJx4a65c_fastRemove_b59b0 0 = .ok (.aload_n 0, 1) := by decide +kernel
theorem dJx4a65c_fastRemove_b59b0_1 : decode cJx4a65c_fastRemove_b59b0 1 = .ok (.dup, 1) := by decide +kernel
theorem dJx4a65c_fastRemove_b59b0_2 : decode cJx4a65c_fastRemove_b59b0 2 = .ok (.getfield 63, 3) := by decide +kernel
theorem dJx4a65c_fastRemove_b59b0_5 : decode cJx4a65c_fastRemove_b59b0 5 = .ok (.iconst 1, 1) := by decide +kernel
theorem dJx4a65c_fastRemove_b59b0_6 : decode cJx4a65c_fastRemove_b59b0 6 = .ok (.iadd, 1) := by decide +kernel
theorem dJx4a65c_fastRemove_b59b0_7 : decode cJx4a65c_fastRemove_b59b0 7 = .ok (.putfield 63, 3) := by decide +kernel
theorem dJx4a65c_fastRemove_b59b0_10 : decode cJx4a65c_fastRemove_b59b0 10 = .ok (.aload_n 0, 1) := by decide +kernel
theorem dJx4a65c_fastRemove_b59b0_11 : decode cJx4a65c_fastRemove_b59b0 11 = .ok (.getfield 48, 3) := by decide +kernel
theorem dJx4a65c_fastRemove_b59b0_14 : decode cJx4a65c_fastRemove_b59b0 14 = .ok (.iconst 1, 1) := by decide +kernel
theorem dJx4a65c_fastRemove_b59b0_15 : decode cJx4a65c_fastRemove_b59b0 15 = .ok (.isub, 1) := by decide +kernel
theorem dJx4a65c_fastRemove_b59b0_16 : decode cJx4a65c_fastRemove_b59b0 16 = .ok (.dup, 1) := by decide +kernel
theorem dJx4a65c_fastRemove_b59b0_17 : decode cJx4a65c_fastRemove_b59b0 17 = .ok (.istore_n 3, 1) := by decide +kernel
theorem dJx4a65c_fastRemove_b59b0_18 : decode cJx4a65c_fastRemove_b59b0 18 = .ok (.iload_n 2, 1) := by decide +kernel
theorem dJx4a65c_fastRemove_b59b0_19 : decode cJx4a65c_fastRemove_b59b0 19 = .ok (.if_icmp .le 15, 3) := by decide +kernel
theorem dJx4a65c_fastRemove_b59b0_22 : decode cJx4a65c_fastRemove_b59b0 22 = .ok (.aload_n 1, 1) := by decide +kernel
theorem dJx4a65c_fastRemove_b59b0_23 : decode cJx4a65c_fastRemove_b59b0 23 = .ok (.iload_n 2, 1) := by decide +kernel
theorem dJx4a65c_fastRemove_b59b0_24 : decode cJx4a65c_fastRemove_b59b0 24 = .ok (.iconst 1, 1) := by decide +kernel
theorem dJx4a65c_fastRemove_b59b0_25 : decode cJx4a65c_fastRemove_b59b0 25 = .ok (.iadd, 1) := by decide +kernel
theorem dJx4a65c_fastRemove_b59b0_26 : decode cJx4a65c_fastRemove_b59b0 26 = .ok (.aload_n 1, 1) := by decide +kernel
theorem dJx4a65c_fastRemove_b59b0_27 : decode cJx4a65c_fastRemove_b59b0 27 = .ok (.iload_n 2, 1) := by decide +kernel
theorem dJx4a65c_fastRemove_b59b0_28 : decode cJx4a65c_fastRemove_b59b0 28 = .ok (.iload_n 3, 1) := by decide +kernel
theorem dJx4a65c_fastRemove_b59b0_29 : decode cJx4a65c_fastRemove_b59b0 29 = .ok (.iload_n 2, 1) := by decide +kernel
theorem dJx4a65c_fastRemove_b59b0_30 : decode cJx4a65c_fastRemove_b59b0 30 = .ok (.isub, 1) := by decide +kernel
theorem dJx4a65c_fastRemove_b59b0_31 : decode cJx4a65c_fastRemove_b59b0 31 = .ok (.invokestatic 112, 3) := by decide +kernel
theorem dJx4a65c_fastRemove_b59b0_34 : decode cJx4a65c_fastRemove_b59b0 34 = .ok (.aload_n 1, 1) := by decide +kernel
theorem dJx4a65c_fastRemove_b59b0_35 : decode cJx4a65c_fastRemove_b59b0 35 = .ok (.aload_n 0, 1) := by decide +kernel
theorem dJx4a65c_fastRemove_b59b0_36 : decode cJx4a65c_fastRemove_b59b0 36 = .ok (.iload_n 3, 1) := by decide +kernel
theorem dJx4a65c_fastRemove_b59b0_37 : decode cJx4a65c_fastRemove_b59b0 37 = .ok (.dup_x1, 1) := by decide +kernel
theorem dJx4a65c_fastRemove_b59b0_38 : decode cJx4a65c_fastRemove_b59b0 38 = .ok (.putfield 48, 3) := by decide +kernel
theorem dJx4a65c_fastRemove_b59b0_41 : decode cJx4a65c_fastRemove_b59b0 41 = .ok (.aconst_null, 1) := by decide +kernel
theorem dJx4a65c_fastRemove_b59b0_42 : decode cJx4a65c_fastRemove_b59b0 42 = .ok (.aastore, 1) := by decide +kernel
theorem dJx4a65c_fastRemove_b59b0_43 : decode cJx4a65c_fastRemove_b59b0 43 = .ok (.return_, 1) := by decide +kernel
theorem dJ7_copyOf_1904c_0 : decode cJ7_copyOf_1904c 0 = .ok (.aload_n 0, 1) := by decide +kernel
theorem dJ7_copyOf_1904c_1 : decode cJ7_copyOf_1904c 1 = .ok (.iload_n 1, 1) := by decide +kernel
theorem dJ7_copyOf_1904c_2 : decode cJ7_copyOf_1904c 2 = .ok (.aload_n 0, 1) := by decide +kernel
theorem dJ7_copyOf_1904c_3 : decode cJ7_copyOf_1904c 3 = .ok (.invokevirtual 86, 3) := by decide +kernel
theorem dJ7_copyOf_1904c_6 : decode cJ7_copyOf_1904c 6 = .ok (.invokestatic 300, 3) := by decide +kernel
theorem dJ7_copyOf_1904c_9 : decode cJ7_copyOf_1904c 9 = .ok (.areturn, 1) := by decide +kernel
theorem dJ7_copyOf_6403c_0 : decode cJ7_copyOf_6403c 0 = .ok (.aload_n 2, 1) := by decide +kernel
theorem dJ7_copyOf_6403c_1 : decode cJ7_copyOf_6403c 1 = .ok (.ldc 110, 2) := by decide +kernel
theorem dJ7_copyOf_6403c_3 : decode cJ7_copyOf_6403c 3 = .ok (.if_acmp .ne 10, 3) := by decide +kernel
theorem dJ7_copyOf_6403c_6 : decode cJ7_copyOf_6403c 6 = .ok (.iload_n 1, 1) := by decide +kernel
theorem dJ7_copyOf_6403c_7 : decode cJ7_copyOf_6403c 7 = .ok (.anewarray 2, 3) := by decide +kernel
theorem dJ7_copyOf_6403c_10 : decode cJ7_copyOf_6403c 10 = .ok (.goto 14, 3) := by decide +kernel
theorem dJ7_copyOf_6403c_13 : decode cJ7_copyOf_6403c 13 = .ok (.aload_n 2, 1) := by decide +kernel
theorem dJ7_copyOf_6403c_14 : decode cJ7_copyOf_6403c 14 = .ok (.invokevirtual 90, 3) := by decide +kernel
theorem dJ7_copyOf_6403c_17 : decode cJ7_copyOf_6403c 17 = .ok (.iload_n 1, 1) := by decide +kernel
theorem dJ7_copyOf_6403c_18 : decode cJ7_copyOf_6403c 18 = .ok (.invokestatic 95, 3) := by decide +kernel
theorem dJ7_copyOf_6403c_21 : decode cJ7_copyOf_6403c 21 = .ok (.checkcast 110, 3) := by decide +kernel
theorem dJ7_copyOf_6403c_24 : decode cJ7_copyOf_6403c 24 = .ok (.astore_n 3, 1) := by decide +kernel
theorem dJ7_copyOf_6403c_25 : decode cJ7_copyOf_6403c 25 = .ok (.aload_n 0, 1) := by decide +kernel
theorem dJ7_copyOf_6403c_26 : decode cJ7_copyOf_6403c 26 = .ok (.iconst 0, 1) := by decide +kernel
theorem dJ7_copyOf_6403c_27 : decode cJ7_copyOf_6403c 27 = .ok (.aload_n 3, 1) := by decide +kernel
theorem dJ7_copyOf_6403c_28 : decode cJ7_copyOf_6403c 28 = .ok (.iconst 0, 1) := by decide +kernel
theorem dJ7_copyOf_6403c_29 : decode cJ7_copyOf_6403c 29 = .ok (.aload_n 0, 1) := by decide +kernel
theorem dJ7_copyOf_6403c_30 : decode cJ7_copyOf_6403c 30 = .ok (.arraylength, 1) := by decide +kernel
theorem dJ7_copyOf_6403c_31 : decode cJ7_copyOf_6403c 31 = .ok (.iload_n 1, 1) := by decide +kernel
theorem dJ7_copyOf_6403c_32 : decode cJ7_copyOf_6403c 32 = .ok (.invokestatic 304, 3) := by decide +kernel
theorem dJ7_copyOf_6403c_35 : decode cJ7_copyOf_6403c 35 = .ok (.invokestatic 150, 3) := by decide +kernel
theorem dJ7_copyOf_6403c_38 : decode cJ7_copyOf_6403c 38 = .ok (.aload_n 3, 1) := by decide +kernel
theorem dJ7_copyOf_6403c_39 : decode cJ7_copyOf_6403c 39 = .ok (.areturn, 1) := by decide +kernel
theorem dJ15_checkIndex_7cf53_0 : decode cJ15_checkIndex_7cf53 0 = .ok (.iload_n 0, 1) := by decide +kernel
theorem dJ15_checkIndex_7cf53_1 : decode cJ15_checkIndex_7cf53 1 = .ok (.iload_n 1, 1) := by decide +kernel
theorem dJ15_checkIndex_7cf53_2 : decode cJ15_checkIndex_7cf53 2 = .ok (.aconst_null, 1) := by decide +kernel
theorem dJ15_checkIndex_7cf53_3 : decode cJ15_checkIndex_7cf53 3 = .ok (.invokestatic 105, 3) := by decide +kernel
theorem dJ15_checkIndex_7cf53_6 : decode cJ15_checkIndex_7cf53 6 = .ok (.ireturn, 1) := by decide +kernel
theorem dJ8_newLength_cabcc_0 : decode cJ8_newLength_cabcc 0 = .ok (.iload_n 0, 1) := by decide +kernel
theorem dJ8_newLength_cabcc_1 : decode cJ8_newLength_cabcc 1 = .ok (.iload_n 1, 1) := by decide +kernel
theorem dJ8_newLength_cabcc_2 : decode cJ8_newLength_cabcc 2 = .ok (.iload_n 2, 1) := by decide +kernel
theorem dJ8_newLength_cabcc_3 : decode cJ8_newLength_cabcc 3 = .ok (.invokestatic 194, 3) := by decide +kernel
theorem dJ8_newLength_cabcc_6 : decode cJ8_newLength_cabcc 6 = .ok (.iadd, 1) := by decide +kernel
theorem dJ8_newLength_cabcc_7 : decode cJ8_newLength_cabcc 7 = .ok (.istore_n 3, 1) := by decide +kernel
theorem dJ8_newLength_cabcc_8 : decode cJ8_newLength_cabcc 8 = .ok (.iconst 0, 1) := by decide +kernel
theorem dJ8_newLength_cabcc_9 : decode cJ8_newLength_cabcc 9 = .ok (.iload_n 3, 1) := by decide +kernel
theorem dJ8_newLength_cabcc_10 : decode cJ8_newLength_cabcc 10 = .ok (.if_icmp .ge 11, 3) := by decide +kernel
theorem dJ8_newLength_cabcc_13 : decode cJ8_newLength_cabcc 13 = .ok (.iload_n 3, 1) := by decide +kernel
theorem dJ8_newLength_cabcc_14 : decode cJ8_newLength_cabcc 14 = .ok (.ldc 200, 2) := by decide +kernel
theorem dJ8_newLength_cabcc_16 : decode cJ8_newLength_cabcc 16 = .ok (.if_icmp .gt 5, 3) := by decide +kernel
theorem dJ8_newLength_cabcc_19 : decode cJ8_newLength_cabcc 19 = .ok (.iload_n 3, 1) := by decide +kernel
theorem dJ8_newLength_cabcc_20 : decode cJ8_newLength_cabcc 20 = .ok (.ireturn, 1) := by decide +kernel
theorem dJ8_newLength_cabcc_21 : decode cJ8_newLength_cabcc 21 = .ok (.iload_n 0, 1) := by decide +kernel
theorem dJ8_newLength_cabcc_22 : decode cJ8_newLength_cabcc 22 = .ok (.iload_n 1, 1) := by decide +kernel
theorem dJ8_newLength_cabcc_23 : decode cJ8_newLength_cabcc 23 = .ok (.invokestatic 201, 3) := by decide +kernel
theorem dJ8_newLength_cabcc_26 : decode cJ8_newLength_cabcc 26 = .ok (.ireturn, 1) := by decide +kernel
theorem dJ8_hugeLength_7cf53_0 : decode cJ8_hugeLength_7cf53 0 = .ok (.iload_n 0, 1) := by decide +kernel
theorem dJ8_hugeLength_7cf53_1 : decode cJ8_hugeLength_7cf53 1 = .ok (.iload_n 1, 1) := by decide +kernel
theorem dJ8_hugeLength_7cf53_2 : decode cJ8_hugeLength_7cf53 2 = .ok (.iadd, 1) := by decide +kernel
theorem dJ8_hugeLength_7cf53_3 : decode cJ8_hugeLength_7cf53 3 = .ok (.istore_n 2, 1) := by decide +kernel
theorem dJ8_hugeLength_7cf53_4 : decode cJ8_hugeLength_7cf53 4 = .ok (.iload_n 2, 1) := by decide +kernel
theorem dJ8_hugeLength_7cf53_5 : decode cJ8_hugeLength_7cf53 5 = .ok (.ifCond .ge 44, 3) := by decide +kernel
theorem dJ8_hugeLength_7cf53_8 : decode cJ8_hugeLength_7cf53 8 = .ok (.new 204, 3) := by decide +kernel
theorem dJ8_hugeLength_7cf53_11 : decode cJ8_hugeLength_7cf53 11 = .ok (.dup, 1) := by decide +kernel
theorem dJ8_hugeLength_7cf53_12 : decode cJ8_hugeLength_7cf53 12 = .ok (.new 89, 3) := by decide +kernel
theorem dJ8_hugeLength_7cf53_15 : decode cJ8_hugeLength_7cf53 15 = .ok (.dup, 1) := by decide +kernel
theorem dJ8_hugeLength_7cf53_16 : decode cJ8_hugeLength_7cf53 16 = .ok (.invokespecial 91, 3) := by decide +kernel
theorem dJ8_hugeLength_7cf53_19 : decode cJ8_hugeLength_7cf53 19 = .ok (.ldc 206, 2) := by decide +kernel
theorem dJ8_hugeLength_7cf53_21 : decode cJ8_hugeLength_7cf53 21 = .ok (.invokevirtual 94, 3) := by decide +kernel
theorem dJ8_hugeLength_7cf53_24 : decode cJ8_hugeLength_7cf53 24 = .ok (.iload_n 0, 1) := by decide +kernel
theorem dJ8_hugeLength_7cf53_25 : decode cJ8_hugeLength_7cf53 25 = .ok (.invokevirtual 98, 3) := by decide +kernel
theorem dJ8_hugeLength_7cf53_28 : decode cJ8_hugeLength_7cf53 28 = .ok (.ldc 208, 2) := by decide +kernel
theorem dJ8_hugeLength_7cf53_30 : decode cJ8_hugeLength_7cf53 30 = .ok (.invokevirtual 94, 3) := by decide +kernel
theorem dJ8_hugeLength_7cf53_33 : decode cJ8_hugeLength_7cf53 33 = .ok (.iload_n 1, 1) := by decide +kernel
theorem dJ8_hugeLength_7cf53_34 : decode cJ8_hugeLength_7cf53 34 = .ok (.invokevirtual 98, 3) := by decide +kernel
theorem dJ8_hugeLength_7cf53_37 : decode cJ8_hugeLength_7cf53 37 = .ok (.ldc 210, 2) := by decide +kernel
theorem dJ8_hugeLength_7cf53_39 : decode cJ8_hugeLength_7cf53 39 = .ok (.invokevirtual 94, 3) := by decide +kernel
theorem dJ8_hugeLength_7cf53_42 : decode cJ8_hugeLength_7cf53 42 = .ok (.invokevirtual 101, 3) := by decide +kernel
theorem dJ8_hugeLength_7cf53_45 : decode cJ8_hugeLength_7cf53 45 = .ok (.invokespecial 212, 3) := by decide +kernel
theorem dJ8_hugeLength_7cf53_48 : decode cJ8_hugeLength_7cf53 48 = .ok (.athrow, 1) := by decide +kernel
theorem dJ8_hugeLength_7cf53_49 : decode cJ8_hugeLength_7cf53 49 = .ok (.iload_n 2, 1) := by decide +kernel
theorem dJ8_hugeLength_7cf53_50 : decode cJ8_hugeLength_7cf53 50 = .ok (.ldc 200, 2) := by decide +kernel
theorem dJ8_hugeLength_7cf53_52 : decode cJ8_hugeLength_7cf53 52 = .ok (.if_icmp .gt 6, 3) := by decide +kernel
theorem dJ8_hugeLength_7cf53_55 : decode cJ8_hugeLength_7cf53 55 = .ok (.ldc 200, 2) := by decide +kernel
theorem dJ8_hugeLength_7cf53_57 : decode cJ8_hugeLength_7cf53 57 = .ok (.ireturn, 1) := by decide +kernel
theorem dJ8_hugeLength_7cf53_58 : decode cJ8_hugeLength_7cf53 58 = .ok (.iload_n 2, 1) := by decide +kernel
theorem dJ8_hugeLength_7cf53_59 : decode cJ8_hugeLength_7cf53 59 = .ok (.ireturn, 1) := by decide +kernel
theorem dJ3_checkIndex_8e157_0 : decode cJ3_checkIndex_8e157 0 = .ok (.iload_n 0, 1) := by decide +kernel
theorem dJ3_checkIndex_8e157_1 : decode cJ3_checkIndex_8e157 1 = .ok (.ifCond .lt 8, 3) := by decide +kernel
theorem dJ3_checkIndex_8e157_4 : decode cJ3_checkIndex_8e157 4 = .ok (.iload_n 0, 1) := by decide +kernel
theorem dJ3_checkIndex_8e157_5 : decode cJ3_checkIndex_8e157 5 = .ok (.iload_n 1, 1) := by decide +kernel
theorem dJ3_checkIndex_8e157_6 : decode cJ3_checkIndex_8e157 6 = .ok (.if_icmp .lt 10, 3) := by decide +kernel
theorem dJ3_checkIndex_8e157_9 : decode cJ3_checkIndex_8e157 9 = .ok (.aload_n 2, 1) := by decide +kernel
theorem dJ3_checkIndex_8e157_10 : decode cJ3_checkIndex_8e157 10 = .ok (.iload_n 0, 1) := by decide +kernel
theorem dJ3_checkIndex_8e157_11 : decode cJ3_checkIndex_8e157 11 = .ok (.iload_n 1, 1) := by decide +kernel
theorem dJ3_checkIndex_8e157_12 : decode cJ3_checkIndex_8e157 12 = .ok (.invokestatic 95, 3) := by decide +kernel
theorem dJ3_checkIndex_8e157_15 : decode cJ3_checkIndex_8e157 15 = .ok (.athrow, 1) := by decide +kernel
theorem dJ3_checkIndex_8e157_16 : decode cJ3_checkIndex_8e157 16 = .ok (.iload_n 0, 1) := by decide +kernel
theorem dJ3_checkIndex_8e157_17 : decode cJ3_checkIndex_8e157 17 = .ok (.ireturn, 1) := by decide +kernel
