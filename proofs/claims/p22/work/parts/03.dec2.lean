theorem dX6_advise_44 : decode cX6_advise 44 = .ok (.aload_n 0, 1) := by decide +kernel
theorem dX6_advise_45 : decode cX6_advise 45 = .ok (.iconst (-1), 1) := by decide +kernel
theorem dX6_advise_46 : decode cX6_advise 46 = .ok (.invokevirtual 144, 3) := by decide +kernel
theorem dX6_advise_49 : decode cX6_advise 49 = .ok (.aload_n 0, 1) := by decide +kernel
theorem dX6_advise_50 : decode cX6_advise 50 = .ok (.getfield 41, 3) := by decide +kernel
theorem dX6_advise_53 : decode cX6_advise 53 = .ok (.aload 4, 2) := by decide +kernel
theorem dX6_advise_55 : decode cX6_advise 55 = .ok (.getfield 204, 3) := by decide +kernel
theorem dX6_advise_58 : decode cX6_advise 58 = .ok (.ifCond .ne 7, 3) := by decide +kernel
theorem dX6_advise_61 : decode cX6_advise 61 = .ok (.iconst 1, 1) := by decide +kernel
theorem dX6_advise_62 : decode cX6_advise 62 = .ok (.goto 4, 3) := by decide +kernel
theorem dX6_advise_65 : decode cX6_advise 65 = .ok (.iconst 0, 1) := by decide +kernel
theorem dX6_advise_66 : decode cX6_advise 66 = .ok (.iload 7, 2) := by decide +kernel
theorem dX6_advise_68 : decode cX6_advise 68 = .ok (.invokestatic 102, 3) := by decide +kernel
theorem dX6_advise_71 : decode cX6_advise 71 = .ok (.iload_n 3, 1) := by decide +kernel
theorem dX6_advise_72 : decode cX6_advise 72 = .ok (.iconst 0, 1) := by decide +kernel
theorem dX6_advise_73 : decode cX6_advise 73 = .ok (.invokevirtual 205, 3) := by decide +kernel
theorem dX6_advise_76 : decode cX6_advise 76 = .ok (.aload_n 0, 1) := by decide +kernel
theorem dX6_advise_77 : decode cX6_advise 77 = .ok (.aload 4, 2) := by decide +kernel
theorem dX6_advise_79 : decode cX6_advise 79 = .ok (.invokevirtual 208, 3) := by decide +kernel
theorem dX6_advise_82 : decode cX6_advise 82 = .ok (.istore 8, 2) := by decide +kernel
theorem dX6_advise_84 : decode cX6_advise 84 = .ok (.iload 8, 2) := by decide +kernel
theorem dX6_advise_86 : decode cX6_advise 86 = .ok (.iload 6, 2) := by decide +kernel
theorem dX6_advise_88 : decode cX6_advise 88 = .ok (.if_icmp .ge 11, 3) := by decide +kernel
theorem dX6_advise_91 : decode cX6_advise 91 = .ok (.iload 8, 2) := by decide +kernel
theorem dX6_advise_93 : decode cX6_advise 93 = .ok (.istore 6, 2) := by decide +kernel
theorem dX6_advise_95 : decode cX6_advise 95 = .ok (.iload 7, 2) := by decide +kernel
theorem dX6_advise_97 : decode cX6_advise 97 = .ok (.istore 5, 2) := by decide +kernel
theorem dX6_advise_99 : decode cX6_advise 99 = .ok (.iinc 7 1, 3) := by decide +kernel
theorem dX6_advise_102 : decode cX6_advise 102 = .ok (.goto (-65), 3) := by decide +kernel
theorem dX6_advise_105 : decode cX6_advise 105 = .ok (.iload 5, 2) := by decide +kernel
theorem dX6_advise_107 : decode cX6_advise 107 = .ok (.ireturn, 1) := by decide +kernel
theorem dX6_harmful_0 : decode cX6_harmful 0 = .ok (.iload_n 1, 1) := by decide +kernel
theorem dX6_harmful_1 : decode cX6_harmful 1 = .ok (.invokestatic 135, 3) := by decide +kernel
theorem dX6_harmful_4 : decode cX6_harmful 4 = .ok (.iload_n 2, 1) := by decide +kernel
theorem dX6_harmful_5 : decode cX6_harmful 5 = .ok (.invokestatic 138, 3) := by decide +kernel
theorem dX6_harmful_8 : decode cX6_harmful 8 = .ok (.new 147, 3) := by decide +kernel
theorem dX6_harmful_11 : decode cX6_harmful 11 = .ok (.dup, 1) := by decide +kernel
theorem dX6_harmful_12 : decode cX6_harmful 12 = .ok (.iload_n 1, 1) := by decide +kernel
theorem dX6_harmful_13 : decode cX6_harmful 13 = .ok (.iload_n 2, 1) := by decide +kernel
theorem dX6_harmful_14 : decode cX6_harmful 14 = .ok (.aload_n 0, 1) := by decide +kernel
theorem dX6_harmful_15 : decode cX6_harmful 15 = .ok (.getfield 113, 3) := by decide +kernel
theorem dX6_harmful_18 : decode cX6_harmful 18 = .ok (.invokespecial 149, 3) := by decide +kernel
theorem dX6_harmful_21 : decode cX6_harmful 21 = .ok (.astore_n 3, 1) := by decide +kernel
theorem dX6_harmful_22 : decode cX6_harmful 22 = .ok (.aload_n 0, 1) := by decide +kernel
theorem dX6_harmful_23 : decode cX6_harmful 23 = .ok (.iconst (-1), 1) := by decide +kernel
theorem dX6_harmful_24 : decode cX6_harmful 24 = .ok (.invokevirtual 144, 3) := by decide +kernel
theorem dX6_harmful_27 : decode cX6_harmful 27 = .ok (.iconst (-1), 1) := by decide +kernel
theorem dX6_harmful_28 : decode cX6_harmful 28 = .ok (.istore 4, 2) := by decide +kernel
theorem dX6_harmful_30 : decode cX6_harmful 30 = .ok (.aload_n 0, 1) := by decide +kernel
theorem dX6_harmful_31 : decode cX6_harmful 31 = .ok (.aload_n 3, 1) := by decide +kernel
theorem dX6_harmful_32 : decode cX6_harmful 32 = .ok (.invokevirtual 208, 3) := by decide +kernel
theorem dX6_harmful_35 : decode cX6_harmful 35 = .ok (.istore 5, 2) := by decide +kernel
theorem dX6_harmful_37 : decode cX6_harmful 37 = .ok (.iconst 0, 1) := by decide +kernel
theorem dX6_harmful_38 : decode cX6_harmful 38 = .ok (.istore 6, 2) := by decide +kernel
theorem dX6_harmful_40 : decode cX6_harmful 40 = .ok (.iload 6, 2) := by decide +kernel
theorem dX6_harmful_42 : decode cX6_harmful 42 = .ok (.aload_n 0, 1) := by decide +kernel
theorem dX6_harmful_43 : decode cX6_harmful 43 = .ok (.getfield 10, 3) := by decide +kernel
theorem dX6_harmful_46 : decode cX6_harmful 46 = .ok (.invokevirtual 67, 3) := by decide +kernel
theorem dX6_harmful_49 : decode cX6_harmful 49 = .ok (.if_icmp .ge 37, 3) := by decide +kernel
theorem dX6_harmful_52 : decode cX6_harmful 52 = .ok (.aload_n 0, 1) := by decide +kernel
theorem dX6_harmful_53 : decode cX6_harmful 53 = .ok (.iload 6, 2) := by decide +kernel
theorem dX6_harmful_55 : decode cX6_harmful 55 = .ok (.invokevirtual 144, 3) := by decide +kernel
theorem dX6_harmful_58 : decode cX6_harmful 58 = .ok (.aload_n 0, 1) := by decide +kernel
theorem dX6_harmful_59 : decode cX6_harmful 59 = .ok (.aload_n 3, 1) := by decide +kernel
theorem dX6_harmful_60 : decode cX6_harmful 60 = .ok (.invokevirtual 208, 3) := by decide +kernel
theorem dX6_harmful_63 : decode cX6_harmful 63 = .ok (.istore 7, 2) := by decide +kernel
theorem dX6_harmful_65 : decode cX6_harmful 65 = .ok (.iload 7, 2) := by decide +kernel
theorem dX6_harmful_67 : decode cX6_harmful 67 = .ok (.iload 5, 2) := by decide +kernel
theorem dX6_harmful_69 : decode cX6_harmful 69 = .ok (.if_icmp .ge 11, 3) := by decide +kernel
theorem dX6_harmful_72 : decode cX6_harmful 72 = .ok (.iload 7, 2) := by decide +kernel
theorem dX6_harmful_74 : decode cX6_harmful 74 = .ok (.istore 5, 2) := by decide +kernel
theorem dX6_harmful_76 : decode cX6_harmful 76 = .ok (.iload 6, 2) := by decide +kernel
theorem dX6_harmful_78 : decode cX6_harmful 78 = .ok (.istore 4, 2) := by decide +kernel
theorem dX6_harmful_80 : decode cX6_harmful 80 = .ok (.iinc 6 1, 3) := by decide +kernel
theorem dX6_harmful_83 : decode cX6_harmful 83 = .ok (.goto (-43), 3) := by decide +kernel
theorem dX6_harmful_86 : decode cX6_harmful 86 = .ok (.iload 4, 2) := by decide +kernel
theorem dX6_harmful_88 : decode cX6_harmful 88 = .ok (.ireturn, 1) := by decide +kernel
theorem dX6_mean_0 : decode cX6_mean 0 = .ok (.aload_n 0, 1) := by decide +kernel
theorem dX6_mean_1 : decode cX6_mean 1 = .ok (.getfield 31, 3) := by decide +kernel
theorem dX6_mean_4 : decode cX6_mean 4 = .ok (.aload_n 0, 1) := by decide +kernel
theorem dX6_mean_5 : decode cX6_mean 5 = .ok (.getfield 24, 3) := by decide +kernel
theorem dX6_mean_8 : decode cX6_mean 8 = .ok (.invokevirtual 118, 3) := by decide +kernel
theorem dX6_mean_11 : decode cX6_mean 11 = .ok (.i2d, 1) := by decide +kernel
theorem dX6_mean_12 : decode cX6_mean 12 = .ok (.ldc2_w 212, 3) := by decide +kernel
theorem dX6_mean_15 : decode cX6_mean 15 = .ok (.ddiv, 1) := by decide +kernel
theorem dX6_mean_16 : decode cX6_mean 16 = .ok (.dreturn, 1) := by decide +kernel
theorem dX6_digest_0 : decode cX6_digest 0 = .ok (.ldc2_w 214, 3) := by decide +kernel
theorem dX6_digest_3 : decode cX6_digest 3 = .ok (.lstore_n 1, 1) := by decide +kernel
theorem dX6_digest_4 : decode cX6_digest 4 = .ok (.iconst 0, 1) := by decide +kernel
theorem dX6_digest_5 : decode cX6_digest 5 = .ok (.istore_n 3, 1) := by decide +kernel
theorem dX6_digest_6 : decode cX6_digest 6 = .ok (.iload_n 3, 1) := by decide +kernel
theorem dX6_digest_7 : decode cX6_digest 7 = .ok (.bipush 10, 2) := by decide +kernel
theorem dX6_digest_9 : decode cX6_digest 9 = .ok (.if_icmp .ge 22, 3) := by decide +kernel
theorem dX6_digest_12 : decode cX6_digest 12 = .ok (.lload_n 1, 1) := by decide +kernel
theorem dX6_digest_13 : decode cX6_digest 13 = .ok (.ldc2_w 216, 3) := by decide +kernel
theorem dX6_digest_16 : decode cX6_digest 16 = .ok (.lmul, 1) := by decide +kernel
theorem dX6_digest_17 : decode cX6_digest 17 = .ok (.aload_n 0, 1) := by decide +kernel
theorem dX6_digest_18 : decode cX6_digest 18 = .ok (.iload_n 3, 1) := by decide +kernel
theorem dX6_digest_19 : decode cX6_digest 19 = .ok (.invokevirtual 218, 3) := by decide +kernel
theorem dX6_digest_22 : decode cX6_digest 22 = .ok (.i2l, 1) := by decide +kernel
theorem dX6_digest_23 : decode cX6_digest 23 = .ok (.ladd, 1) := by decide +kernel
theorem dX6_digest_24 : decode cX6_digest 24 = .ok (.lstore_n 1, 1) := by decide +kernel
theorem dX6_digest_25 : decode cX6_digest 25 = .ok (.iinc 3 1, 3) := by decide +kernel
theorem dX6_digest_28 : decode cX6_digest 28 = .ok (.goto (-22), 3) := by decide +kernel
theorem dX6_digest_31 : decode cX6_digest 31 = .ok (.iconst 0, 1) := by decide +kernel
theorem dX6_digest_32 : decode cX6_digest 32 = .ok (.istore_n 3, 1) := by decide +kernel
theorem dX6_digest_33 : decode cX6_digest 33 = .ok (.iload_n 3, 1) := by decide +kernel
theorem dX6_digest_34 : decode cX6_digest 34 = .ok (.aload_n 0, 1) := by decide +kernel
theorem dX6_digest_35 : decode cX6_digest 35 = .ok (.getfield 10, 3) := by decide +kernel
theorem dX6_digest_38 : decode cX6_digest 38 = .ok (.invokevirtual 67, 3) := by decide +kernel
theorem dX6_digest_41 : decode cX6_digest 41 = .ok (.if_icmp .ge 40, 3) := by decide +kernel
theorem dX6_digest_44 : decode cX6_digest 44 = .ok (.iconst 0, 1) := by decide +kernel
theorem dX6_digest_45 : decode cX6_digest 45 = .ok (.istore 4, 2) := by decide +kernel
theorem dX6_digest_47 : decode cX6_digest 47 = .ok (.iload 4, 2) := by decide +kernel
theorem dX6_digest_49 : decode cX6_digest 49 = .ok (.bipush 7, 2) := by decide +kernel
theorem dX6_digest_51 : decode cX6_digest 51 = .ok (.if_icmp .ge 24, 3) := by decide +kernel
theorem dX6_digest_54 : decode cX6_digest 54 = .ok (.lload_n 1, 1) := by decide +kernel
theorem dX6_digest_55 : decode cX6_digest 55 = .ok (.ldc2_w 216, 3) := by decide +kernel
theorem dX6_digest_58 : decode cX6_digest 58 = .ok (.lmul, 1) := by decide +kernel
theorem dX6_digest_59 : decode cX6_digest 59 = .ok (.aload_n 0, 1) := by decide +kernel
theorem dX6_digest_60 : decode cX6_digest 60 = .ok (.iload_n 3, 1) := by decide +kernel
theorem dX6_digest_61 : decode cX6_digest 61 = .ok (.iload 4, 2) := by decide +kernel
theorem dX6_digest_63 : decode cX6_digest 63 = .ok (.invokevirtual 221, 3) := by decide +kernel
theorem dX6_digest_66 : decode cX6_digest 66 = .ok (.i2l, 1) := by decide +kernel
theorem dX6_digest_67 : decode cX6_digest 67 = .ok (.ladd, 1) := by decide +kernel
theorem dX6_digest_68 : decode cX6_digest 68 = .ok (.lstore_n 1, 1) := by decide +kernel
theorem dX6_digest_69 : decode cX6_digest 69 = .ok (.iinc 4 1, 3) := by decide +kernel
theorem dX6_digest_72 : decode cX6_digest 72 = .ok (.goto (-25), 3) := by decide +kernel
theorem dX6_digest_75 : decode cX6_digest 75 = .ok (.iinc 3 1, 3) := by decide +kernel
theorem dX6_digest_78 : decode cX6_digest 78 = .ok (.goto (-45), 3) := by decide +kernel
theorem dX6_digest_81 : decode cX6_digest 81 = .ok (.iconst 0, 1) := by decide +kernel
theorem dX6_digest_82 : decode cX6_digest 82 = .ok (.istore_n 3, 1) := by decide +kernel
theorem dX6_digest_83 : decode cX6_digest 83 = .ok (.iload_n 3, 1) := by decide +kernel
theorem dX6_digest_84 : decode cX6_digest 84 = .ok (.aload_n 0, 1) := by decide +kernel
theorem dX6_digest_85 : decode cX6_digest 85 = .ok (.getfield 16, 3) := by decide +kernel
theorem dX6_digest_88 : decode cX6_digest 88 = .ok (.invokevirtual 67, 3) := by decide +kernel
theorem dX6_digest_91 : decode cX6_digest 91 = .ok (.if_icmp .ge 39, 3) := by decide +kernel
theorem dX6_digest_94 : decode cX6_digest 94 = .ok (.iconst 0, 1) := by decide +kernel
theorem dX6_digest_95 : decode cX6_digest 95 = .ok (.istore 4, 2) := by decide +kernel
theorem dX6_digest_97 : decode cX6_digest 97 = .ok (.iload 4, 2) := by decide +kernel
theorem dX6_digest_99 : decode cX6_digest 99 = .ok (.iconst 5, 1) := by decide +kernel
theorem dX6_digest_100 : decode cX6_digest 100 = .ok (.if_icmp .ge 24, 3) := by decide +kernel
theorem dX6_digest_103 : decode cX6_digest 103 = .ok (.lload_n 1, 1) := by decide +kernel
theorem dX6_digest_104 : decode cX6_digest 104 = .ok (.ldc2_w 216, 3) := by decide +kernel
theorem dX6_digest_107 : decode cX6_digest 107 = .ok (.lmul, 1) := by decide +kernel
theorem dX6_digest_108 : decode cX6_digest 108 = .ok (.aload_n 0, 1) := by decide +kernel
theorem dX6_digest_109 : decode cX6_digest 109 = .ok (.iload_n 3, 1) := by decide +kernel
theorem dX6_digest_110 : decode cX6_digest 110 = .ok (.iload 4, 2) := by decide +kernel
theorem dX6_digest_112 : decode cX6_digest 112 = .ok (.invokevirtual 224, 3) := by decide +kernel
theorem dX6_digest_115 : decode cX6_digest 115 = .ok (.i2l, 1) := by decide +kernel
theorem dX6_digest_116 : decode cX6_digest 116 = .ok (.ladd, 1) := by decide +kernel
theorem dX6_digest_117 : decode cX6_digest 117 = .ok (.lstore_n 1, 1) := by decide +kernel
theorem dX6_digest_118 : decode cX6_digest 118 = .ok (.iinc 4 1, 3) := by decide +kernel
theorem dX6_digest_121 : decode cX6_digest 121 = .ok (.goto (-24), 3) := by decide +kernel
theorem dX6_digest_124 : decode cX6_digest 124 = .ok (.iinc 3 1, 3) := by decide +kernel
theorem dX6_digest_127 : decode cX6_digest 127 = .ok (.goto (-44), 3) := by decide +kernel
theorem dX6_digest_130 : decode cX6_digest 130 = .ok (.iconst 0, 1) := by decide +kernel
theorem dX6_digest_131 : decode cX6_digest 131 = .ok (.istore_n 3, 1) := by decide +kernel
theorem dX6_digest_132 : decode cX6_digest 132 = .ok (.iload_n 3, 1) := by decide +kernel
theorem dX6_digest_133 : decode cX6_digest 133 = .ok (.sipush 400, 3) := by decide +kernel
theorem dX6_digest_136 : decode cX6_digest 136 = .ok (.if_icmp .ge 25, 3) := by decide +kernel
theorem dX6_digest_139 : decode cX6_digest 139 = .ok (.lload_n 1, 1) := by decide +kernel
theorem dX6_digest_140 : decode cX6_digest 140 = .ok (.ldc2_w 216, 3) := by decide +kernel
theorem dX6_digest_143 : decode cX6_digest 143 = .ok (.lmul, 1) := by decide +kernel
theorem dX6_digest_144 : decode cX6_digest 144 = .ok (.aload_n 0, 1) := by decide +kernel
theorem dX6_digest_145 : decode cX6_digest 145 = .ok (.getfield 31, 3) := by decide +kernel
theorem dX6_digest_148 : decode cX6_digest 148 = .ok (.iload_n 3, 1) := by decide +kernel
theorem dX6_digest_149 : decode cX6_digest 149 = .ok (.invokevirtual 122, 3) := by decide +kernel
theorem dX6_digest_152 : decode cX6_digest 152 = .ok (.i2l, 1) := by decide +kernel
theorem dX6_digest_153 : decode cX6_digest 153 = .ok (.ladd, 1) := by decide +kernel
theorem dX6_digest_154 : decode cX6_digest 154 = .ok (.lstore_n 1, 1) := by decide +kernel
theorem dX6_digest_155 : decode cX6_digest 155 = .ok (.iinc 3 1, 3) := by decide +kernel
theorem dX6_digest_158 : decode cX6_digest 158 = .ok (.goto (-26), 3) := by decide +kernel
theorem dX6_digest_161 : decode cX6_digest 161 = .ok (.lload_n 1, 1) := by decide +kernel
theorem dX6_digest_162 : decode cX6_digest 162 = .ok (.lreturn, 1) := by decide +kernel
theorem dX6_needIndex_0 : decode cX6_needIndex 0 = .ok (.iload_n 0, 1) := by decide +kernel
theorem dX6_needIndex_1 : decode cX6_needIndex 1 = .ok (.ifCond .lt 8, 3) := by decide +kernel
theorem dX6_needIndex_4 : decode cX6_needIndex 4 = .ok (.iload_n 0, 1) := by decide +kernel
theorem dX6_needIndex_5 : decode cX6_needIndex 5 = .ok (.iload_n 1, 1) := by decide +kernel
theorem dX6_needIndex_6 : decode cX6_needIndex 6 = .ok (.if_icmp .lt 13, 3) := by decide +kernel
theorem dX6_needIndex_9 : decode cX6_needIndex 9 = .ok (.new 227, 3) := by decide +kernel
theorem dX6_needIndex_12 : decode cX6_needIndex 12 = .ok (.dup, 1) := by decide +kernel
theorem dX6_needIndex_13 : decode cX6_needIndex 13 = .ok (.ldc 229, 2) := by decide +kernel
theorem dX6_needIndex_15 : decode cX6_needIndex 15 = .ok (.invokespecial 231, 3) := by decide +kernel
theorem dX6_needIndex_18 : decode cX6_needIndex 18 = .ok (.athrow, 1) := by decide +kernel
theorem dX6_needIndex_19 : decode cX6_needIndex 19 = .ok (.return_, 1) := by decide +kernel
theorem dX6_needWind_0 : decode cX6_needWind 0 = .ok (.iload_n 0, 1) := by decide +kernel
theorem dX6_needWind_1 : decode cX6_needWind 1 = .ok (.iconst 4, 1) := by decide +kernel
theorem dX6_needWind_2 : decode cX6_needWind 2 = .ok (.invokestatic 63, 3) := by decide +kernel
theorem dX6_needWind_5 : decode cX6_needWind 5 = .ok (.return_, 1) := by decide +kernel
theorem dX6_needHeight_0 : decode cX6_needHeight 0 = .ok (.iload_n 0, 1) := by decide +kernel
theorem dX6_needHeight_1 : decode cX6_needHeight 1 = .ok (.iconst 1, 1) := by decide +kernel
theorem dX6_needHeight_2 : decode cX6_needHeight 2 = .ok (.if_icmp .lt 9, 3) := by decide +kernel
theorem dX6_needHeight_5 : decode cX6_needHeight 5 = .ok (.iload_n 0, 1) := by decide +kernel
theorem dX6_needHeight_6 : decode cX6_needHeight 6 = .ok (.bipush 9, 2) := by decide +kernel
theorem dX6_needHeight_8 : decode cX6_needHeight 8 = .ok (.if_icmp .le 13, 3) := by decide +kernel
theorem dX6_needHeight_11 : decode cX6_needHeight 11 = .ok (.new 49, 3) := by decide +kernel
theorem dX6_needHeight_14 : decode cX6_needHeight 14 = .ok (.dup, 1) := by decide +kernel
theorem dX6_needHeight_15 : decode cX6_needHeight 15 = .ok (.ldc 232, 2) := by decide +kernel
theorem dX6_needHeight_17 : decode cX6_needHeight 17 = .ok (.invokespecial 53, 3) := by decide +kernel
theorem dX6_needHeight_20 : decode cX6_needHeight 20 = .ok (.athrow, 1) := by decide +kernel
theorem dX6_needHeight_21 : decode cX6_needHeight 21 = .ok (.return_, 1) := by decide +kernel
theorem dX6_needGap_0 : decode cX6_needGap 0 = .ok (.iload_n 0, 1) := by decide +kernel
theorem dX6_needGap_1 : decode cX6_needGap 1 = .ok (.ifCond .lt 8, 3) := by decide +kernel
theorem dX6_needGap_4 : decode cX6_needGap 4 = .ok (.iload_n 0, 1) := by decide +kernel
theorem dX6_needGap_5 : decode cX6_needGap 5 = .ok (.iconst 3, 1) := by decide +kernel
theorem dX6_needGap_6 : decode cX6_needGap 6 = .ok (.if_icmp .le 13, 3) := by decide +kernel
theorem dX6_needGap_9 : decode cX6_needGap 9 = .ok (.new 49, 3) := by decide +kernel
theorem dX6_needGap_12 : decode cX6_needGap 12 = .ok (.dup, 1) := by decide +kernel
theorem dX6_needGap_13 : decode cX6_needGap 13 = .ok (.ldc 234, 2) := by decide +kernel
theorem dX6_needGap_15 : decode cX6_needGap 15 = .ok (.invokespecial 53, 3) := by decide +kernel
theorem dX6_needGap_18 : decode cX6_needGap 18 = .ok (.athrow, 1) := by decide +kernel
theorem dX6_needGap_19 : decode cX6_needGap 19 = .ok (.return_, 1) := by decide +kernel
theorem dX6_needStrength_0 : decode cX6_needStrength 0 = .ok (.iload_n 0, 1) := by decide +kernel
theorem dX6_needStrength_1 : decode cX6_needStrength 1 = .ok (.iconst 1, 1) := by decide +kernel
theorem dX6_needStrength_2 : decode cX6_needStrength 2 = .ok (.if_icmp .lt 9, 3) := by decide +kernel
theorem dX6_needStrength_5 : decode cX6_needStrength 5 = .ok (.iload_n 0, 1) := by decide +kernel
theorem dX6_needStrength_6 : decode cX6_needStrength 6 = .ok (.bipush 9, 2) := by decide +kernel
theorem dX6_needStrength_8 : decode cX6_needStrength 8 = .ok (.if_icmp .le 13, 3) := by decide +kernel
theorem dX6_needStrength_11 : decode cX6_needStrength 11 = .ok (.new 49, 3) := by decide +kernel
theorem dX6_needStrength_14 : decode cX6_needStrength 14 = .ok (.dup, 1) := by decide +kernel
theorem dX6_needStrength_15 : decode cX6_needStrength 15 = .ok (.ldc 236, 2) := by decide +kernel
theorem dX6_needStrength_17 : decode cX6_needStrength 17 = .ok (.invokespecial 53, 3) := by decide +kernel
theorem dX6_needStrength_20 : decode cX6_needStrength 20 = .ok (.athrow, 1) := by decide +kernel
theorem dX6_needStrength_21 : decode cX6_needStrength 21 = .ok (.return_, 1) := by decide +kernel
theorem dX6_needHours_0 : decode cX6_needHours 0 = .ok (.iload_n 0, 1) := by decide +kernel
theorem dX6_needHours_1 : decode cX6_needHours 1 = .ok (.iconst 1, 1) := by decide +kernel
theorem dX6_needHours_2 : decode cX6_needHours 2 = .ok (.if_icmp .lt 9, 3) := by decide +kernel
theorem dX6_needHours_5 : decode cX6_needHours 5 = .ok (.iload_n 0, 1) := by decide +kernel
theorem dX6_needHours_6 : decode cX6_needHours 6 = .ok (.bipush 24, 2) := by decide +kernel
theorem dX6_needHours_8 : decode cX6_needHours 8 = .ok (.if_icmp .le 13, 3) := by decide +kernel
theorem dX6_needHours_11 : decode cX6_needHours 11 = .ok (.new 49, 3) := by decide +kernel
theorem dX6_needHours_14 : decode cX6_needHours 14 = .ok (.dup, 1) := by decide +kernel
theorem dX6_needHours_15 : decode cX6_needHours 15 = .ok (.ldc 238, 2) := by decide +kernel
theorem dX6_needHours_17 : decode cX6_needHours 17 = .ok (.invokespecial 53, 3) := by decide +kernel
theorem dX6_needHours_20 : decode cX6_needHours 20 = .ok (.athrow, 1) := by decide +kernel
theorem dX6_needHours_21 : decode cX6_needHours 21 = .ok (.return_, 1) := by decide +kernel
theorem dX6_straight_0 : decode cX6_straight 0 = .ok (.iload_n 0, 1) := by decide +kernel
theorem dX6_straight_1 : decode cX6_straight 1 = .ok (.ifCond .eq 18, 3) := by decide +kernel
theorem dX6_straight_4 : decode cX6_straight 4 = .ok (.new 19, 3) := by decide +kernel
theorem dX6_straight_7 : decode cX6_straight 7 = .ok (.dup, 1) := by decide +kernel
theorem dX6_straight_8 : decode cX6_straight 8 = .ok (.iload_n 1, 1) := by decide +kernel
theorem dX6_straight_9 : decode cX6_straight 9 = .ok (.iconst 0, 1) := by decide +kernel
theorem dX6_straight_10 : decode cX6_straight 10 = .ok (.bipush 20, 2) := by decide +kernel
theorem dX6_straight_12 : decode cX6_straight 12 = .ok (.iconst 1, 1) := by decide +kernel
theorem dX6_straight_13 : decode cX6_straight 13 = .ok (.invokespecial 21, 3) := by decide +kernel
theorem dX6_straight_16 : decode cX6_straight 16 = .ok (.goto 15, 3) := by decide +kernel
theorem dX6_straight_19 : decode cX6_straight 19 = .ok (.new 19, 3) := by decide +kernel
theorem dX6_straight_22 : decode cX6_straight 22 = .ok (.dup, 1) := by decide +kernel
theorem dX6_straight_23 : decode cX6_straight 23 = .ok (.iconst 0, 1) := by decide +kernel
theorem dX6_straight_24 : decode cX6_straight 24 = .ok (.iload_n 1, 1) := by decide +kernel
theorem dX6_straight_25 : decode cX6_straight 25 = .ok (.bipush 20, 2) := by decide +kernel
theorem dX6_straight_27 : decode cX6_straight 27 = .ok (.iconst 0, 1) := by decide +kernel
theorem dX6_straight_28 : decode cX6_straight 28 = .ok (.invokespecial 21, 3) := by decide +kernel
theorem dX6_straight_31 : decode cX6_straight 31 = .ok (.areturn, 1) := by decide +kernel
theorem dX6_screenAllBut_0 : decode cX6_screenAllBut 0 = .ok (.aload_n 0, 1) := by decide +kernel
theorem dX6_screenAllBut_1 : decode cX6_screenAllBut 1 = .ok (.getfield 41, 3) := by decide +kernel
theorem dX6_screenAllBut_4 : decode cX6_screenAllBut 4 = .ok (.invokevirtual 240, 3) := by decide +kernel
theorem dX6_screenAllBut_7 : decode cX6_screenAllBut 7 = .ok (.iconst 0, 1) := by decide +kernel
theorem dX6_screenAllBut_8 : decode cX6_screenAllBut 8 = .ok (.istore_n 2, 1) := by decide +kernel
theorem dX6_screenAllBut_9 : decode cX6_screenAllBut 9 = .ok (.iload_n 2, 1) := by decide +kernel
theorem dX6_screenAllBut_10 : decode cX6_screenAllBut 10 = .ok (.aload_n 0, 1) := by decide +kernel
theorem dX6_screenAllBut_11 : decode cX6_screenAllBut 11 = .ok (.getfield 10, 3) := by decide +kernel
theorem dX6_screenAllBut_14 : decode cX6_screenAllBut 14 = .ok (.invokevirtual 67, 3) := by decide +kernel
theorem dX6_screenAllBut_17 : decode cX6_screenAllBut 17 = .ok (.if_icmp .ge 45, 3) := by decide +kernel
theorem dX6_screenAllBut_20 : decode cX6_screenAllBut 20 = .ok (.iload_n 2, 1) := by decide +kernel
theorem dX6_screenAllBut_21 : decode cX6_screenAllBut 21 = .ok (.iload_n 1, 1) := by decide +kernel
theorem dX6_screenAllBut_22 : decode cX6_screenAllBut 22 = .ok (.if_icmp .eq 34, 3) := by decide +kernel
theorem dX6_screenAllBut_25 : decode cX6_screenAllBut 25 = .ok (.aload_n 0, 1) := by decide +kernel
theorem dX6_screenAllBut_26 : decode cX6_screenAllBut 26 = .ok (.getfield 10, 3) := by decide +kernel
theorem dX6_screenAllBut_29 : decode cX6_screenAllBut 29 = .ok (.iload_n 2, 1) := by decide +kernel
theorem dX6_screenAllBut_30 : decode cX6_screenAllBut 30 = .ok (.invokevirtual 85, 3) := by decide +kernel
theorem dX6_screenAllBut_33 : decode cX6_screenAllBut 33 = .ok (.checkcast 76, 3) := by decide +kernel
theorem dX6_screenAllBut_36 : decode cX6_screenAllBut 36 = .ok (.astore_n 3, 1) := by decide +kernel
theorem dX6_screenAllBut_37 : decode cX6_screenAllBut 37 = .ok (.aload_n 0, 1) := by decide +kernel
theorem dX6_screenAllBut_38 : decode cX6_screenAllBut 38 = .ok (.getfield 41, 3) := by decide +kernel
theorem dX6_screenAllBut_41 : decode cX6_screenAllBut 41 = .ok (.aload_n 3, 1) := by decide +kernel
theorem dX6_screenAllBut_42 : decode cX6_screenAllBut 42 = .ok (.getfield 178, 3) := by decide +kernel
theorem dX6_screenAllBut_45 : decode cX6_screenAllBut 45 = .ok (.aload_n 3, 1) := by decide +kernel
theorem dX6_screenAllBut_46 : decode cX6_screenAllBut 46 = .ok (.getfield 89, 3) := by decide +kernel
theorem dX6_screenAllBut_49 : decode cX6_screenAllBut 49 = .ok (.aload_n 3, 1) := by decide +kernel
theorem dX6_screenAllBut_50 : decode cX6_screenAllBut 50 = .ok (.getfield 92, 3) := by decide +kernel
theorem dX6_screenAllBut_53 : decode cX6_screenAllBut 53 = .ok (.invokevirtual 205, 3) := by decide +kernel
theorem dX6_screenAllBut_56 : decode cX6_screenAllBut 56 = .ok (.iinc 2 1, 3) := by decide +kernel
theorem dX6_screenAllBut_59 : decode cX6_screenAllBut 59 = .ok (.goto (-50), 3) := by decide +kernel
theorem dX6_screenAllBut_62 : decode cX6_screenAllBut 62 = .ok (.return_, 1) := by decide +kernel
theorem dX6_blowOver_0 : decode cX6_blowOver 0 = .ok (.iconst 0, 1) := by decide +kernel
theorem dX6_blowOver_1 : decode cX6_blowOver 1 = .ok (.istore 4, 2) := by decide +kernel
theorem dX6_blowOver_3 : decode cX6_blowOver 3 = .ok (.iconst 0, 1) := by decide +kernel
theorem dX6_blowOver_4 : decode cX6_blowOver 4 = .ok (.istore 5, 2) := by decide +kernel
theorem dX6_blowOver_6 : decode cX6_blowOver 6 = .ok (.iload 5, 2) := by decide +kernel
theorem dX6_blowOver_8 : decode cX6_blowOver 8 = .ok (.iload_n 3, 1) := by decide +kernel
theorem dX6_blowOver_9 : decode cX6_blowOver 9 = .ok (.if_icmp .ge 23, 3) := by decide +kernel
theorem dX6_blowOver_12 : decode cX6_blowOver 12 = .ok (.iload 4, 2) := by decide +kernel
theorem dX6_blowOver_14 : decode cX6_blowOver 14 = .ok (.aload_n 2, 1) := by decide +kernel
theorem dX6_blowOver_15 : decode cX6_blowOver 15 = .ok (.aload_n 1, 1) := by decide +kernel
theorem dX6_blowOver_16 : decode cX6_blowOver 16 = .ok (.aload_n 0, 1) := by decide +kernel
theorem dX6_blowOver_17 : decode cX6_blowOver 17 = .ok (.getfield 41, 3) := by decide +kernel
theorem dX6_blowOver_20 : decode cX6_blowOver 20 = .ok (.invokevirtual 242, 3) := by decide +kernel
theorem dX6_blowOver_23 : decode cX6_blowOver 23 = .ok (.iadd, 1) := by decide +kernel
theorem dX6_blowOver_24 : decode cX6_blowOver 24 = .ok (.istore 4, 2) := by decide +kernel
theorem dX6_blowOver_26 : decode cX6_blowOver 26 = .ok (.iinc 5 1, 3) := by decide +kernel
theorem dX6_blowOver_29 : decode cX6_blowOver 29 = .ok (.goto (-23), 3) := by decide +kernel
theorem dX6_blowOver_32 : decode cX6_blowOver 32 = .ok (.iload 4, 2) := by decide +kernel
theorem dX6_blowOver_34 : decode cX6_blowOver 34 = .ok (.ireturn, 1) := by decide +kernel
theorem dX6_blockedAfterAdvice_0 : decode cX6_blockedAfterAdvice 0 = .ok (.aload_n 0, 1) := by decide +kernel
theorem dX6_blockedAfterAdvice_1 : decode cX6_blockedAfterAdvice 1 = .ok (.getfield 35, 3) := by decide +kernel
theorem dX6_blockedAfterAdvice_4 : decode cX6_blockedAfterAdvice 4 = .ok (.aload_n 0, 1) := by decide +kernel
theorem dX6_blockedAfterAdvice_5 : decode cX6_blockedAfterAdvice 5 = .ok (.getfield 31, 3) := by decide +kernel
theorem dX6_blockedAfterAdvice_8 : decode cX6_blockedAfterAdvice 8 = .ok (.invokevirtual 200, 3) := by decide +kernel
theorem dX6_blockedAfterAdvice_11 : decode cX6_blockedAfterAdvice 11 = .ok (.aload_n 0, 1) := by decide +kernel
theorem dX6_blockedAfterAdvice_12 : decode cX6_blockedAfterAdvice 12 = .ok (.aload_n 0, 1) := by decide +kernel
theorem dX6_blockedAfterAdvice_13 : decode cX6_blockedAfterAdvice 13 = .ok (.getfield 35, 3) := by decide +kernel
theorem dX6_blockedAfterAdvice_16 : decode cX6_blockedAfterAdvice 16 = .ok (.aload_n 1, 1) := by decide +kernel
theorem dX6_blockedAfterAdvice_17 : decode cX6_blockedAfterAdvice 17 = .ok (.iconst 4, 1) := by decide +kernel
theorem dX6_blockedAfterAdvice_18 : decode cX6_blockedAfterAdvice 18 = .ok (.invokevirtual 152, 3) := by decide +kernel
theorem dX6_blockedAfterAdvice_21 : decode cX6_blockedAfterAdvice 21 = .ok (.pop, 1) := by decide +kernel
theorem dX6_blockedAfterAdvice_22 : decode cX6_blockedAfterAdvice 22 = .ok (.aload_n 0, 1) := by decide +kernel
theorem dX6_blockedAfterAdvice_23 : decode cX6_blockedAfterAdvice 23 = .ok (.aload_n 0, 1) := by decide +kernel
theorem dX6_blockedAfterAdvice_24 : decode cX6_blockedAfterAdvice 24 = .ok (.getfield 35, 3) := by decide +kernel
theorem dX6_blockedAfterAdvice_27 : decode cX6_blockedAfterAdvice 27 = .ok (.invokevirtual 196, 3) := by decide +kernel
theorem dX6_blockedAfterAdvice_30 : decode cX6_blockedAfterAdvice 30 = .ok (.ireturn, 1) := by decide +kernel
theorem dX6_blockedOnRoads_0 : decode cX6_blockedOnRoads 0 = .ok (.iconst 0, 1) := by decide +kernel
theorem dX6_blockedOnRoads_1 : decode cX6_blockedOnRoads 1 = .ok (.istore_n 2, 1) := by decide +kernel
theorem dX6_blockedOnRoads_2 : decode cX6_blockedOnRoads 2 = .ok (.iconst 0, 1) := by decide +kernel
theorem dX6_blockedOnRoads_3 : decode cX6_blockedOnRoads 3 = .ok (.istore_n 3, 1) := by decide +kernel
theorem dX6_blockedOnRoads_4 : decode cX6_blockedOnRoads 4 = .ok (.iload_n 3, 1) := by decide +kernel
theorem dX6_blockedOnRoads_5 : decode cX6_blockedOnRoads 5 = .ok (.aload_n 0, 1) := by decide +kernel
theorem dX6_blockedOnRoads_6 : decode cX6_blockedOnRoads 6 = .ok (.getfield 16, 3) := by decide +kernel
theorem dX6_blockedOnRoads_9 : decode cX6_blockedOnRoads 9 = .ok (.invokevirtual 67, 3) := by decide +kernel
theorem dX6_blockedOnRoads_12 : decode cX6_blockedOnRoads 12 = .ok (.if_icmp .ge 34, 3) := by decide +kernel
theorem dX6_blockedOnRoads_15 : decode cX6_blockedOnRoads 15 = .ok (.iload_n 2, 1) := by decide +kernel
theorem dX6_blockedOnRoads_16 : decode cX6_blockedOnRoads 16 = .ok (.aload_n 1, 1) := by decide +kernel
theorem dX6_blockedOnRoads_17 : decode cX6_blockedOnRoads 17 = .ok (.aload_n 0, 1) := by decide +kernel
theorem dX6_blockedOnRoads_18 : decode cX6_blockedOnRoads 18 = .ok (.getfield 16, 3) := by decide +kernel
theorem dX6_blockedOnRoads_21 : decode cX6_blockedOnRoads 21 = .ok (.iload_n 3, 1) := by decide +kernel
theorem dX6_blockedOnRoads_22 : decode cX6_blockedOnRoads 22 = .ok (.invokevirtual 85, 3) := by decide +kernel
theorem dX6_blockedOnRoads_25 : decode cX6_blockedOnRoads 25 = .ok (.checkcast 100, 3) := by decide +kernel
theorem dX6_blockedOnRoads_28 : decode cX6_blockedOnRoads 28 = .ok (.getfield 162, 3) := by decide +kernel
theorem dX6_blockedOnRoads_31 : decode cX6_blockedOnRoads 31 = .ok (.aload_n 0, 1) := by decide +kernel
theorem dX6_blockedOnRoads_32 : decode cX6_blockedOnRoads 32 = .ok (.getfield 45, 3) := by decide +kernel
theorem dX6_blockedOnRoads_35 : decode cX6_blockedOnRoads 35 = .ok (.invokevirtual 189, 3) := by decide +kernel
theorem dX6_blockedOnRoads_38 : decode cX6_blockedOnRoads 38 = .ok (.iadd, 1) := by decide +kernel
theorem dX6_blockedOnRoads_39 : decode cX6_blockedOnRoads 39 = .ok (.istore_n 2, 1) := by decide +kernel
theorem dX6_blockedOnRoads_40 : decode cX6_blockedOnRoads 40 = .ok (.iinc 3 1, 3) := by decide +kernel
theorem dX6_blockedOnRoads_43 : decode cX6_blockedOnRoads 43 = .ok (.goto (-39), 3) := by decide +kernel
theorem dX6_blockedOnRoads_46 : decode cX6_blockedOnRoads 46 = .ok (.iload_n 2, 1) := by decide +kernel
theorem dX6_blockedOnRoads_47 : decode cX6_blockedOnRoads 47 = .ok (.ireturn, 1) := by decide +kernel
theorem dX7_init_0 : decode cX7_init 0 = .ok (.aload_n 0, 1) := by decide +kernel
theorem dX7_init_1 : decode cX7_init 1 = .ok (.invokespecial 1, 3) := by decide +kernel
theorem dX7_init_4 : decode cX7_init 4 = .ok (.aload_n 0, 1) := by decide +kernel
theorem dX7_init_5 : decode cX7_init 5 = .ok (.iconst 0, 1) := by decide +kernel
theorem dX7_init_6 : decode cX7_init 6 = .ok (.anewarray 7, 3) := by decide +kernel
theorem dX7_init_9 : decode cX7_init 9 = .ok (.putfield 9, 3) := by decide +kernel
theorem dX7_init_12 : decode cX7_init 12 = .ok (.aload_n 0, 1) := by decide +kernel
theorem dX7_init_13 : decode cX7_init 13 = .ok (.iconst 0, 1) := by decide +kernel
theorem dX7_init_14 : decode cX7_init 14 = .ok (.anewarray 7, 3) := by decide +kernel
theorem dX7_init_17 : decode cX7_init 17 = .ok (.putfield 15, 3) := by decide +kernel
theorem dX7_init_20 : decode cX7_init 20 = .ok (.aload_n 0, 1) := by decide +kernel
theorem dX7_init_21 : decode cX7_init 21 = .ok (.bipush 20, 2) := by decide +kernel
theorem dX7_init_23 : decode cX7_init 23 = .ok (.bipush 20, 2) := by decide +kernel
theorem dX7_init_25 : decode cX7_init 25 = .ok (.multianewarray 18 2, 4) := by decide +kernel
theorem dX7_init_29 : decode cX7_init 29 = .ok (.putfield 19, 3) := by decide +kernel
theorem dX7_init_32 : decode cX7_init 32 = .ok (.aload_n 0, 1) := by decide +kernel
theorem dX7_init_33 : decode cX7_init 33 = .ok (.bipush 15, 2) := by decide +kernel
theorem dX7_init_35 : decode cX7_init 35 = .ok (.putfield 22, 3) := by decide +kernel
theorem dX7_init_38 : decode cX7_init 38 = .ok (.return_, 1) := by decide +kernel
theorem dX7_copy_0 : decode cX7_copy 0 = .ok (.new 10, 3) := by decide +kernel
theorem dX7_copy_3 : decode cX7_copy 3 = .ok (.dup, 1) := by decide +kernel
theorem dX7_copy_4 : decode cX7_copy 4 = .ok (.invokespecial 26, 3) := by decide +kernel
theorem dX7_copy_7 : decode cX7_copy 7 = .ok (.astore_n 1, 1) := by decide +kernel
theorem dX7_copy_8 : decode cX7_copy 8 = .ok (.aload_n 1, 1) := by decide +kernel
theorem dX7_copy_9 : decode cX7_copy 9 = .ok (.aload_n 0, 1) := by decide +kernel
theorem dX7_copy_10 : decode cX7_copy 10 = .ok (.getfield 9, 3) := by decide +kernel
theorem dX7_copy_13 : decode cX7_copy 13 = .ok (.putfield 9, 3) := by decide +kernel
theorem dX7_copy_16 : decode cX7_copy 16 = .ok (.aload_n 1, 1) := by decide +kernel
theorem dX7_copy_17 : decode cX7_copy 17 = .ok (.aload_n 0, 1) := by decide +kernel
theorem dX7_copy_18 : decode cX7_copy 18 = .ok (.getfield 15, 3) := by decide +kernel
theorem dX7_copy_21 : decode cX7_copy 21 = .ok (.putfield 15, 3) := by decide +kernel
theorem dX7_copy_24 : decode cX7_copy 24 = .ok (.iconst 0, 1) := by decide +kernel
theorem dX7_copy_25 : decode cX7_copy 25 = .ok (.istore_n 2, 1) := by decide +kernel
theorem dX7_copy_26 : decode cX7_copy 26 = .ok (.iload_n 2, 1) := by decide +kernel
theorem dX7_copy_27 : decode cX7_copy 27 = .ok (.bipush 20, 2) := by decide +kernel
theorem dX7_copy_29 : decode cX7_copy 29 = .ok (.if_icmp .ge 27, 3) := by decide +kernel
theorem dX7_copy_32 : decode cX7_copy 32 = .ok (.aload_n 1, 1) := by decide +kernel
theorem dX7_copy_33 : decode cX7_copy 33 = .ok (.getfield 19, 3) := by decide +kernel
theorem dX7_copy_36 : decode cX7_copy 36 = .ok (.iload_n 2, 1) := by decide +kernel
theorem dX7_copy_37 : decode cX7_copy 37 = .ok (.aload_n 0, 1) := by decide +kernel
theorem dX7_copy_38 : decode cX7_copy 38 = .ok (.getfield 19, 3) := by decide +kernel
theorem dX7_copy_41 : decode cX7_copy 41 = .ok (.iload_n 2, 1) := by decide +kernel
theorem dX7_copy_42 : decode cX7_copy 42 = .ok (.aaload, 1) := by decide +kernel
theorem dX7_copy_43 : decode cX7_copy 43 = .ok (.invokevirtual 27, 3) := by decide +kernel
theorem dX7_copy_46 : decode cX7_copy 46 = .ok (.checkcast 7, 3) := by decide +kernel
theorem dX7_copy_49 : decode cX7_copy 49 = .ok (.aastore, 1) := by decide +kernel
theorem dX7_copy_50 : decode cX7_copy 50 = .ok (.iinc 2 1, 3) := by decide +kernel
theorem dX7_copy_53 : decode cX7_copy 53 = .ok (.goto (-27), 3) := by decide +kernel
theorem dX7_copy_56 : decode cX7_copy 56 = .ok (.aload_n 1, 1) := by decide +kernel
theorem dX7_copy_57 : decode cX7_copy 57 = .ok (.aload_n 0, 1) := by decide +kernel
theorem dX7_copy_58 : decode cX7_copy 58 = .ok (.getfield 22, 3) := by decide +kernel
theorem dX7_copy_61 : decode cX7_copy 61 = .ok (.putfield 22, 3) := by decide +kernel
theorem dX7_copy_64 : decode cX7_copy 64 = .ok (.aload_n 1, 1) := by decide +kernel
theorem dX7_copy_65 : decode cX7_copy 65 = .ok (.aload_n 0, 1) := by decide +kernel
theorem dX7_copy_66 : decode cX7_copy 66 = .ok (.getfield 31, 3) := by decide +kernel
theorem dX7_copy_69 : decode cX7_copy 69 = .ok (.putfield 31, 3) := by decide +kernel
theorem dX7_copy_72 : decode cX7_copy 72 = .ok (.aload_n 1, 1) := by decide +kernel
theorem dX7_copy_73 : decode cX7_copy 73 = .ok (.areturn, 1) := by decide +kernel
theorem dX7_with_0 : decode cX7_with 0 = .ok (.aload_n 0, 1) := by decide +kernel
theorem dX7_with_1 : decode cX7_with 1 = .ok (.arraylength, 1) := by decide +kernel
theorem dX7_with_2 : decode cX7_with 2 = .ok (.iconst 1, 1) := by decide +kernel
theorem dX7_with_3 : decode cX7_with 3 = .ok (.iadd, 1) := by decide +kernel
theorem dX7_with_4 : decode cX7_with 4 = .ok (.anewarray 7, 3) := by decide +kernel
theorem dX7_with_7 : decode cX7_with 7 = .ok (.astore_n 2, 1) := by decide +kernel
theorem dX7_with_8 : decode cX7_with 8 = .ok (.iconst 0, 1) := by decide +kernel
theorem dX7_with_9 : decode cX7_with 9 = .ok (.istore_n 3, 1) := by decide +kernel
theorem dX7_with_10 : decode cX7_with 10 = .ok (.iload_n 3, 1) := by decide +kernel
theorem dX7_with_11 : decode cX7_with 11 = .ok (.aload_n 0, 1) := by decide +kernel
theorem dX7_with_12 : decode cX7_with 12 = .ok (.arraylength, 1) := by decide +kernel
theorem dX7_with_13 : decode cX7_with 13 = .ok (.if_icmp .ge 15, 3) := by decide +kernel
theorem dX7_with_16 : decode cX7_with 16 = .ok (.aload_n 2, 1) := by decide +kernel
theorem dX7_with_17 : decode cX7_with 17 = .ok (.iload_n 3, 1) := by decide +kernel
theorem dX7_with_18 : decode cX7_with 18 = .ok (.aload_n 0, 1) := by decide +kernel
theorem dX7_with_19 : decode cX7_with 19 = .ok (.iload_n 3, 1) := by decide +kernel
theorem dX7_with_20 : decode cX7_with 20 = .ok (.aaload, 1) := by decide +kernel
theorem dX7_with_21 : decode cX7_with 21 = .ok (.aastore, 1) := by decide +kernel
theorem dX7_with_22 : decode cX7_with 22 = .ok (.iinc 3 1, 3) := by decide +kernel
theorem dX7_with_25 : decode cX7_with 25 = .ok (.goto (-15), 3) := by decide +kernel
theorem dX7_with_28 : decode cX7_with 28 = .ok (.aload_n 2, 1) := by decide +kernel
theorem dX7_with_29 : decode cX7_with 29 = .ok (.aload_n 0, 1) := by decide +kernel
theorem dX7_with_30 : decode cX7_with 30 = .ok (.arraylength, 1) := by decide +kernel
theorem dX7_with_31 : decode cX7_with 31 = .ok (.aload_n 1, 1) := by decide +kernel
theorem dX7_with_32 : decode cX7_with 32 = .ok (.aastore, 1) := by decide +kernel
theorem dX7_with_33 : decode cX7_with 33 = .ok (.aload_n 2, 1) := by decide +kernel
theorem dX7_with_34 : decode cX7_with 34 = .ok (.areturn, 1) := by decide +kernel
theorem dX7_without_0 : decode cX7_without 0 = .ok (.aload_n 0, 1) := by decide +kernel
theorem dX7_without_1 : decode cX7_without 1 = .ok (.arraylength, 1) := by decide +kernel
theorem dX7_without_2 : decode cX7_without 2 = .ok (.iconst 1, 1) := by decide +kernel
theorem dX7_without_3 : decode cX7_without 3 = .ok (.isub, 1) := by decide +kernel
theorem dX7_without_4 : decode cX7_without 4 = .ok (.anewarray 7, 3) := by decide +kernel
theorem dX7_without_7 : decode cX7_without 7 = .ok (.astore_n 2, 1) := by decide +kernel
theorem dX7_without_8 : decode cX7_without 8 = .ok (.iconst 0, 1) := by decide +kernel
theorem dX7_without_9 : decode cX7_without 9 = .ok (.istore_n 3, 1) := by decide +kernel
theorem dX7_without_10 : decode cX7_without 10 = .ok (.iload_n 3, 1) := by decide +kernel
theorem dX7_without_11 : decode cX7_without 11 = .ok (.aload_n 2, 1) := by decide +kernel
theorem dX7_without_12 : decode cX7_without 12 = .ok (.arraylength, 1) := by decide +kernel
theorem dX7_without_13 : decode cX7_without 13 = .ok (.if_icmp .ge 26, 3) := by decide +kernel
theorem dX7_without_16 : decode cX7_without 16 = .ok (.aload_n 2, 1) := by decide +kernel
theorem dX7_without_17 : decode cX7_without 17 = .ok (.iload_n 3, 1) := by decide +kernel
theorem dX7_without_18 : decode cX7_without 18 = .ok (.aload_n 0, 1) := by decide +kernel
theorem dX7_without_19 : decode cX7_without 19 = .ok (.iload_n 3, 1) := by decide +kernel
theorem dX7_without_20 : decode cX7_without 20 = .ok (.iload_n 1, 1) := by decide +kernel
theorem dX7_without_21 : decode cX7_without 21 = .ok (.if_icmp .ge 7, 3) := by decide +kernel
theorem dX7_without_24 : decode cX7_without 24 = .ok (.iload_n 3, 1) := by decide +kernel
theorem dX7_without_25 : decode cX7_without 25 = .ok (.goto 6, 3) := by decide +kernel
theorem dX7_without_28 : decode cX7_without 28 = .ok (.iload_n 3, 1) := by decide +kernel
theorem dX7_without_29 : decode cX7_without 29 = .ok (.iconst 1, 1) := by decide +kernel
theorem dX7_without_30 : decode cX7_without 30 = .ok (.iadd, 1) := by decide +kernel
theorem dX7_without_31 : decode cX7_without 31 = .ok (.aaload, 1) := by decide +kernel
theorem dX7_without_32 : decode cX7_without 32 = .ok (.aastore, 1) := by decide +kernel
theorem dX7_without_33 : decode cX7_without 33 = .ok (.iinc 3 1, 3) := by decide +kernel
theorem dX7_without_36 : decode cX7_without 36 = .ok (.goto (-26), 3) := by decide +kernel
theorem dX7_without_39 : decode cX7_without 39 = .ok (.aload_n 2, 1) := by decide +kernel
theorem dX7_without_40 : decode cX7_without 40 = .ok (.areturn, 1) := by decide +kernel
theorem dX7_isOn_0 : decode cX7_isOn 0 = .ok (.aload_n 0, 1) := by decide +kernel
theorem dX7_isOn_1 : decode cX7_isOn 1 = .ok (.iconst 3, 1) := by decide +kernel
theorem dX7_isOn_2 : decode cX7_isOn 2 = .ok (.iaload, 1) := by decide +kernel
theorem dX7_isOn_3 : decode cX7_isOn 3 = .ok (.iconst 1, 1) := by decide +kernel
theorem dX7_isOn_4 : decode cX7_isOn 4 = .ok (.if_icmp .ne 11, 3) := by decide +kernel
theorem dX7_isOn_7 : decode cX7_isOn 7 = .ok (.iload_n 2, 1) := by decide +kernel
theorem dX7_isOn_8 : decode cX7_isOn 8 = .ok (.aload_n 0, 1) := by decide +kernel
theorem dX7_isOn_9 : decode cX7_isOn 9 = .ok (.iconst 1, 1) := by decide +kernel
theorem dX7_isOn_10 : decode cX7_isOn 10 = .ok (.iaload, 1) := by decide +kernel
theorem dX7_isOn_11 : decode cX7_isOn 11 = .ok (.isub, 1) := by decide +kernel
theorem dX7_isOn_12 : decode cX7_isOn 12 = .ok (.goto 8, 3) := by decide +kernel
theorem dX7_isOn_15 : decode cX7_isOn 15 = .ok (.iload_n 1, 1) := by decide +kernel
theorem dX7_isOn_16 : decode cX7_isOn 16 = .ok (.aload_n 0, 1) := by decide +kernel
theorem dX7_isOn_17 : decode cX7_isOn 17 = .ok (.iconst 0, 1) := by decide +kernel
theorem dX7_isOn_18 : decode cX7_isOn 18 = .ok (.iaload, 1) := by decide +kernel
theorem dX7_isOn_19 : decode cX7_isOn 19 = .ok (.isub, 1) := by decide +kernel
theorem dX7_isOn_20 : decode cX7_isOn 20 = .ok (.istore_n 3, 1) := by decide +kernel
theorem dX7_isOn_21 : decode cX7_isOn 21 = .ok (.iload_n 3, 1) := by decide +kernel
theorem dX7_isOn_22 : decode cX7_isOn 22 = .ok (.ifCond .lt 38, 3) := by decide +kernel
theorem dX7_isOn_25 : decode cX7_isOn 25 = .ok (.iload_n 3, 1) := by decide +kernel
theorem dX7_isOn_26 : decode cX7_isOn 26 = .ok (.aload_n 0, 1) := by decide +kernel
theorem dX7_isOn_27 : decode cX7_isOn 27 = .ok (.iconst 2, 1) := by decide +kernel
theorem dX7_isOn_28 : decode cX7_isOn 28 = .ok (.iaload, 1) := by decide +kernel
theorem dX7_isOn_29 : decode cX7_isOn 29 = .ok (.if_icmp .ge 31, 3) := by decide +kernel
theorem dX7_isOn_32 : decode cX7_isOn 32 = .ok (.aload_n 0, 1) := by decide +kernel
theorem dX7_isOn_33 : decode cX7_isOn 33 = .ok (.iconst 3, 1) := by decide +kernel
theorem dX7_isOn_34 : decode cX7_isOn 34 = .ok (.iaload, 1) := by decide +kernel
theorem dX7_isOn_35 : decode cX7_isOn 35 = .ok (.iconst 1, 1) := by decide +kernel
theorem dX7_isOn_36 : decode cX7_isOn 36 = .ok (.if_icmp .ne 13, 3) := by decide +kernel
theorem dX7_isOn_39 : decode cX7_isOn 39 = .ok (.iload_n 1, 1) := by decide +kernel
theorem dX7_isOn_40 : decode cX7_isOn 40 = .ok (.aload_n 0, 1) := by decide +kernel
theorem dX7_isOn_41 : decode cX7_isOn 41 = .ok (.iconst 0, 1) := by decide +kernel
theorem dX7_isOn_42 : decode cX7_isOn 42 = .ok (.iaload, 1) := by decide +kernel
theorem dX7_isOn_43 : decode cX7_isOn 43 = .ok (.if_icmp .ne 17, 3) := by decide +kernel
theorem dX7_isOn_46 : decode cX7_isOn 46 = .ok (.goto 10, 3) := by decide +kernel
theorem dX7_isOn_49 : decode cX7_isOn 49 = .ok (.iload_n 2, 1) := by decide +kernel
theorem dX7_isOn_50 : decode cX7_isOn 50 = .ok (.aload_n 0, 1) := by decide +kernel
theorem dX7_isOn_51 : decode cX7_isOn 51 = .ok (.iconst 1, 1) := by decide +kernel
theorem dX7_isOn_52 : decode cX7_isOn 52 = .ok (.iaload, 1) := by decide +kernel
theorem dX7_isOn_53 : decode cX7_isOn 53 = .ok (.if_icmp .ne 7, 3) := by decide +kernel
theorem dX7_isOn_56 : decode cX7_isOn 56 = .ok (.iconst 1, 1) := by decide +kernel
theorem dX7_isOn_57 : decode cX7_isOn 57 = .ok (.goto 4, 3) := by decide +kernel
theorem dX7_isOn_60 : decode cX7_isOn 60 = .ok (.iconst 0, 1) := by decide +kernel
theorem dX7_isOn_61 : decode cX7_isOn 61 = .ok (.ireturn, 1) := by decide +kernel
theorem dX7_highest_0 : decode cX7_highest 0 = .ok (.iconst 0, 1) := by decide +kernel
theorem dX7_highest_1 : decode cX7_highest 1 = .ok (.newarray .int, 2) := by decide +kernel
theorem dX7_highest_3 : decode cX7_highest 3 = .ok (.astore_n 3, 1) := by decide +kernel
theorem dX7_highest_4 : decode cX7_highest 4 = .ok (.aload_n 0, 1) := by decide +kernel
theorem dX7_highest_5 : decode cX7_highest 5 = .ok (.getfield 9, 3) := by decide +kernel
theorem dX7_highest_8 : decode cX7_highest 8 = .ok (.arraylength, 1) := by decide +kernel
theorem dX7_highest_9 : decode cX7_highest 9 = .ok (.iconst 1, 1) := by decide +kernel
theorem dX7_highest_10 : decode cX7_highest 10 = .ok (.isub, 1) := by decide +kernel
theorem dX7_highest_11 : decode cX7_highest 11 = .ok (.istore 4, 2) := by decide +kernel
theorem dX7_highest_13 : decode cX7_highest 13 = .ok (.iload 4, 2) := by decide +kernel
theorem dX7_highest_15 : decode cX7_highest 15 = .ok (.ifCond .lt 52, 3) := by decide +kernel
theorem dX7_highest_18 : decode cX7_highest 18 = .ok (.aload_n 0, 1) := by decide +kernel
theorem dX7_highest_19 : decode cX7_highest 19 = .ok (.getfield 9, 3) := by decide +kernel
theorem dX7_highest_22 : decode cX7_highest 22 = .ok (.iload 4, 2) := by decide +kernel
theorem dX7_highest_24 : decode cX7_highest 24 = .ok (.aaload, 1) := by decide +kernel
theorem dX7_highest_25 : decode cX7_highest 25 = .ok (.iload_n 1, 1) := by decide +kernel
theorem dX7_highest_26 : decode cX7_highest 26 = .ok (.iload_n 2, 1) := by decide +kernel
theorem dX7_highest_27 : decode cX7_highest 27 = .ok (.invokestatic 34, 3) := by decide +kernel
theorem dX7_highest_30 : decode cX7_highest 30 = .ok (.ifCond .eq 31, 3) := by decide +kernel
theorem dX7_highest_33 : decode cX7_highest 33 = .ok (.aload_n 3, 1) := by decide +kernel
theorem dX7_highest_34 : decode cX7_highest 34 = .ok (.arraylength, 1) := by decide +kernel
theorem dX7_highest_35 : decode cX7_highest 35 = .ok (.ifCond .eq 18, 3) := by decide +kernel
theorem dX7_highest_38 : decode cX7_highest 38 = .ok (.aload_n 0, 1) := by decide +kernel
theorem dX7_highest_39 : decode cX7_highest 39 = .ok (.getfield 9, 3) := by decide +kernel
theorem dX7_highest_42 : decode cX7_highest 42 = .ok (.iload 4, 2) := by decide +kernel
theorem dX7_highest_44 : decode cX7_highest 44 = .ok (.aaload, 1) := by decide +kernel
theorem dX7_highest_45 : decode cX7_highest 45 = .ok (.iconst 4, 1) := by decide +kernel
theorem dX7_highest_46 : decode cX7_highest 46 = .ok (.iaload, 1) := by decide +kernel
theorem dX7_highest_47 : decode cX7_highest 47 = .ok (.aload_n 3, 1) := by decide +kernel
theorem dX7_highest_48 : decode cX7_highest 48 = .ok (.iconst 4, 1) := by decide +kernel
theorem dX7_highest_49 : decode cX7_highest 49 = .ok (.iaload, 1) := by decide +kernel
theorem dX7_highest_50 : decode cX7_highest 50 = .ok (.if_icmp .lt 11, 3) := by decide +kernel
theorem dX7_highest_53 : decode cX7_highest 53 = .ok (.aload_n 0, 1) := by decide +kernel
theorem dX7_highest_54 : decode cX7_highest 54 = .ok (.getfield 9, 3) := by decide +kernel
theorem dX7_highest_57 : decode cX7_highest 57 = .ok (.iload 4, 2) := by decide +kernel
theorem dX7_highest_59 : decode cX7_highest 59 = .ok (.aaload, 1) := by decide +kernel
theorem dX7_highest_60 : decode cX7_highest 60 = .ok (.astore_n 3, 1) := by decide +kernel
theorem dX7_highest_61 : decode cX7_highest 61 = .ok (.iinc 4 (-1), 3) := by decide +kernel
theorem dX7_highest_64 : decode cX7_highest 64 = .ok (.goto (-51), 3) := by decide +kernel
theorem dX7_highest_67 : decode cX7_highest 67 = .ok (.aload_n 3, 1) := by decide +kernel
theorem dX7_highest_68 : decode cX7_highest 68 = .ok (.areturn, 1) := by decide +kernel
theorem dX7_over_0 : decode cX7_over 0 = .ok (.iload_n 2, 1) := by decide +kernel
theorem dX7_over_1 : decode cX7_over 1 = .ok (.istore 4, 2) := by decide +kernel
theorem dX7_over_3 : decode cX7_over 3 = .ok (.iconst 0, 1) := by decide +kernel
theorem dX7_over_4 : decode cX7_over 4 = .ok (.newarray .int, 2) := by decide +kernel
theorem dX7_over_6 : decode cX7_over 6 = .ok (.astore 5, 2) := by decide +kernel
theorem dX7_over_8 : decode cX7_over 8 = .ok (.iconst 0, 1) := by decide +kernel
theorem dX7_over_9 : decode cX7_over 9 = .ok (.istore 6, 2) := by decide +kernel
theorem dX7_over_11 : decode cX7_over 11 = .ok (.iconst 0, 1) := by decide +kernel
theorem dX7_over_12 : decode cX7_over 12 = .ok (.istore 7, 2) := by decide +kernel
theorem dX7_over_14 : decode cX7_over 14 = .ok (.iload 7, 2) := by decide +kernel
theorem dX7_over_16 : decode cX7_over 16 = .ok (.bipush 20, 2) := by decide +kernel
theorem dX7_over_18 : decode cX7_over 18 = .ok (.if_icmp .ge 221, 3) := by decide +kernel
theorem dX7_over_21 : decode cX7_over 21 = .ok (.iload 7, 2) := by decide +kernel
theorem dX7_over_23 : decode cX7_over 23 = .ok (.iload 6, 2) := by decide +kernel
theorem dX7_over_25 : decode cX7_over 25 = .ok (.isub, 1) := by decide +kernel
theorem dX7_over_26 : decode cX7_over 26 = .ok (.istore 8, 2) := by decide +kernel
theorem dX7_over_28 : decode cX7_over 28 = .ok (.aload 5, 2) := by decide +kernel
theorem dX7_over_30 : decode cX7_over 30 = .ok (.arraylength, 1) := by decide +kernel
theorem dX7_over_31 : decode cX7_over 31 = .ok (.ifCond .ne 7, 3) := by decide +kernel
theorem dX7_over_34 : decode cX7_over 34 = .ok (.iconst 0, 1) := by decide +kernel
theorem dX7_over_35 : decode cX7_over 35 = .ok (.goto 18, 3) := by decide +kernel
theorem dX7_over_38 : decode cX7_over 38 = .ok (.iconst 0, 1) := by decide +kernel
theorem dX7_over_39 : decode cX7_over 39 = .ok (.iconst 2, 1) := by decide +kernel
theorem dX7_over_40 : decode cX7_over 40 = .ok (.aload 5, 2) := by decide +kernel
theorem dX7_over_42 : decode cX7_over 42 = .ok (.iconst 4, 1) := by decide +kernel
theorem dX7_over_43 : decode cX7_over 43 = .ok (.iaload, 1) := by decide +kernel
theorem dX7_over_44 : decode cX7_over 44 = .ok (.imul, 1) := by decide +kernel
theorem dX7_over_45 : decode cX7_over 45 = .ok (.iload 8, 2) := by decide +kernel
theorem dX7_over_47 : decode cX7_over 47 = .ok (.isub, 1) := by decide +kernel
theorem dX7_over_48 : decode cX7_over 48 = .ok (.iconst 1, 1) := by decide +kernel
theorem dX7_over_49 : decode cX7_over 49 = .ok (.iadd, 1) := by decide +kernel
theorem dX7_over_50 : decode cX7_over 50 = .ok (.invokestatic 38, 3) := by decide +kernel
theorem dX7_over_53 : decode cX7_over 53 = .ok (.istore 9, 2) := by decide +kernel
theorem dX7_over_55 : decode cX7_over 55 = .ok (.aload_n 1, 1) := by decide +kernel
theorem dX7_over_56 : decode cX7_over 56 = .ok (.iload 7, 2) := by decide +kernel
theorem dX7_over_58 : decode cX7_over 58 = .ok (.aaload, 1) := by decide +kernel
theorem dX7_over_59 : decode cX7_over 59 = .ok (.arraylength, 1) := by decide +kernel
theorem dX7_over_60 : decode cX7_over 60 = .ok (.ifCond .le 29, 3) := by decide +kernel
theorem dX7_over_63 : decode cX7_over 63 = .ok (.iconst 2, 1) := by decide +kernel
theorem dX7_over_64 : decode cX7_over 64 = .ok (.aload_n 1, 1) := by decide +kernel
theorem dX7_over_65 : decode cX7_over 65 = .ok (.iload 7, 2) := by decide +kernel
theorem dX7_over_67 : decode cX7_over 67 = .ok (.aaload, 1) := by decide +kernel
theorem dX7_over_68 : decode cX7_over 68 = .ok (.iconst 4, 1) := by decide +kernel
theorem dX7_over_69 : decode cX7_over 69 = .ok (.iaload, 1) := by decide +kernel
theorem dX7_over_70 : decode cX7_over 70 = .ok (.imul, 1) := by decide +kernel
theorem dX7_over_71 : decode cX7_over 71 = .ok (.iload 9, 2) := by decide +kernel
theorem dX7_over_73 : decode cX7_over 73 = .ok (.if_icmp .lt 16, 3) := by decide +kernel
theorem dX7_over_76 : decode cX7_over 76 = .ok (.aload_n 1, 1) := by decide +kernel
theorem dX7_over_77 : decode cX7_over 77 = .ok (.iload 7, 2) := by decide +kernel
theorem dX7_over_79 : decode cX7_over 79 = .ok (.aaload, 1) := by decide +kernel
theorem dX7_over_80 : decode cX7_over 80 = .ok (.astore 5, 2) := by decide +kernel
theorem dX7_over_82 : decode cX7_over 82 = .ok (.iload 7, 2) := by decide +kernel
theorem dX7_over_84 : decode cX7_over 84 = .ok (.istore 6, 2) := by decide +kernel
theorem dX7_over_86 : decode cX7_over 86 = .ok (.goto 147, 3) := by decide +kernel
theorem dX7_over_89 : decode cX7_over 89 = .ok (.iload 9, 2) := by decide +kernel
theorem dX7_over_91 : decode cX7_over 91 = .ok (.ifCond .le 79, 3) := by decide +kernel
theorem dX7_over_94 : decode cX7_over 94 = .ok (.iload 8, 2) := by decide +kernel
theorem dX7_over_96 : decode cX7_over 96 = .ok (.aload 5, 2) := by decide +kernel
theorem dX7_over_98 : decode cX7_over 98 = .ok (.iconst 5, 1) := by decide +kernel
theorem dX7_over_99 : decode cX7_over 99 = .ok (.iaload, 1) := by decide +kernel
theorem dX7_over_100 : decode cX7_over 100 = .ok (.if_icmp .le 70, 3) := by decide +kernel
theorem dX7_over_103 : decode cX7_over 103 = .ok (.iconst 0, 1) := by decide +kernel
theorem dX7_over_104 : decode cX7_over 104 = .ok (.bipush 10, 2) := by decide +kernel
theorem dX7_over_106 : decode cX7_over 106 = .ok (.aload 5, 2) := by decide +kernel
theorem dX7_over_108 : decode cX7_over 108 = .ok (.iconst 4, 1) := by decide +kernel
theorem dX7_over_109 : decode cX7_over 109 = .ok (.iaload, 1) := by decide +kernel
theorem dX7_over_110 : decode cX7_over 110 = .ok (.imul, 1) := by decide +kernel
theorem dX7_over_111 : decode cX7_over 111 = .ok (.aload_n 0, 1) := by decide +kernel
theorem dX7_over_112 : decode cX7_over 112 = .ok (.iload 7, 2) := by decide +kernel
theorem dX7_over_114 : decode cX7_over 114 = .ok (.iaload, 1) := by decide +kernel
theorem dX7_over_115 : decode cX7_over 115 = .ok (.isub, 1) := by decide +kernel
theorem dX7_over_116 : decode cX7_over 116 = .ok (.invokestatic 38, 3) := by decide +kernel
theorem dX7_over_119 : decode cX7_over 119 = .ok (.istore 10, 2) := by decide +kernel
theorem dX7_over_121 : decode cX7_over 121 = .ok (.iload 4, 2) := by decide +kernel
theorem dX7_over_123 : decode cX7_over 123 = .ok (.iconst 4, 1) := by decide +kernel
theorem dX7_over_124 : decode cX7_over 124 = .ok (.if_icmp .ge 8, 3) := by decide +kernel
theorem dX7_over_127 : decode cX7_over 127 = .ok (.iload 4, 2) := by decide +kernel
theorem dX7_over_129 : decode cX7_over 129 = .ok (.goto 4, 3) := by decide +kernel
theorem dX7_over_132 : decode cX7_over 132 = .ok (.iconst 4, 1) := by decide +kernel
theorem dX7_over_133 : decode cX7_over 133 = .ok (.istore 11, 2) := by decide +kernel
theorem dX7_over_135 : decode cX7_over 135 = .ok (.iload 11, 2) := by decide +kernel
theorem dX7_over_137 : decode cX7_over 137 = .ok (.iload 10, 2) := by decide +kernel
theorem dX7_over_139 : decode cX7_over 139 = .ok (.if_icmp .ge 8, 3) := by decide +kernel
theorem dX7_over_142 : decode cX7_over 142 = .ok (.iload 11, 2) := by decide +kernel
theorem dX7_over_144 : decode cX7_over 144 = .ok (.goto 5, 3) := by decide +kernel
theorem dX7_over_147 : decode cX7_over 147 = .ok (.iload 10, 2) := by decide +kernel
theorem dX7_over_149 : decode cX7_over 149 = .ok (.istore 11, 2) := by decide +kernel
theorem dX7_over_151 : decode cX7_over 151 = .ok (.aload_n 0, 1) := by decide +kernel
theorem dX7_over_152 : decode cX7_over 152 = .ok (.iload 7, 2) := by decide +kernel
theorem dX7_over_154 : decode cX7_over 154 = .ok (.dup2, 1) := by decide +kernel
theorem dX7_over_155 : decode cX7_over 155 = .ok (.iaload, 1) := by decide +kernel
theorem dX7_over_156 : decode cX7_over 156 = .ok (.iload 11, 2) := by decide +kernel
theorem dX7_over_158 : decode cX7_over 158 = .ok (.iadd, 1) := by decide +kernel
theorem dX7_over_159 : decode cX7_over 159 = .ok (.iastore, 1) := by decide +kernel
theorem dX7_over_160 : decode cX7_over 160 = .ok (.iload 4, 2) := by decide +kernel
theorem dX7_over_162 : decode cX7_over 162 = .ok (.iload 11, 2) := by decide +kernel
theorem dX7_over_164 : decode cX7_over 164 = .ok (.isub, 1) := by decide +kernel
theorem dX7_over_165 : decode cX7_over 165 = .ok (.istore 4, 2) := by decide +kernel
theorem dX7_over_167 : decode cX7_over 167 = .ok (.goto 66, 3) := by decide +kernel
theorem dX7_over_170 : decode cX7_over 170 = .ok (.iconst 0, 1) := by decide +kernel
theorem dX7_over_171 : decode cX7_over 171 = .ok (.bipush 10, 2) := by decide +kernel
theorem dX7_over_173 : decode cX7_over 173 = .ok (.iload_n 3, 1) := by decide +kernel
theorem dX7_over_174 : decode cX7_over 174 = .ok (.imul, 1) := by decide +kernel
theorem dX7_over_175 : decode cX7_over 175 = .ok (.iload 4, 2) := by decide +kernel
theorem dX7_over_177 : decode cX7_over 177 = .ok (.isub, 1) := by decide +kernel
theorem dX7_over_178 : decode cX7_over 178 = .ok (.invokestatic 38, 3) := by decide +kernel
theorem dX7_over_181 : decode cX7_over 181 = .ok (.istore 10, 2) := by decide +kernel
theorem dX7_over_183 : decode cX7_over 183 = .ok (.aload_n 0, 1) := by decide +kernel
theorem dX7_over_184 : decode cX7_over 184 = .ok (.iload 7, 2) := by decide +kernel
theorem dX7_over_186 : decode cX7_over 186 = .ok (.iaload, 1) := by decide +kernel
theorem dX7_over_187 : decode cX7_over 187 = .ok (.iload_n 3, 1) := by decide +kernel
theorem dX7_over_188 : decode cX7_over 188 = .ok (.if_icmp .ge 10, 3) := by decide +kernel
theorem dX7_over_191 : decode cX7_over 191 = .ok (.aload_n 0, 1) := by decide +kernel
theorem dX7_over_192 : decode cX7_over 192 = .ok (.iload 7, 2) := by decide +kernel
theorem dX7_over_194 : decode cX7_over 194 = .ok (.iaload, 1) := by decide +kernel
theorem dX7_over_195 : decode cX7_over 195 = .ok (.goto 4, 3) := by decide +kernel
theorem dX7_over_198 : decode cX7_over 198 = .ok (.iload_n 3, 1) := by decide +kernel
theorem dX7_over_199 : decode cX7_over 199 = .ok (.istore 11, 2) := by decide +kernel
theorem dX7_over_201 : decode cX7_over 201 = .ok (.iload 11, 2) := by decide +kernel
theorem dX7_over_203 : decode cX7_over 203 = .ok (.iload 10, 2) := by decide +kernel
theorem dX7_over_205 : decode cX7_over 205 = .ok (.if_icmp .ge 8, 3) := by decide +kernel
theorem dX7_over_208 : decode cX7_over 208 = .ok (.iload 11, 2) := by decide +kernel
theorem dX7_over_210 : decode cX7_over 210 = .ok (.goto 5, 3) := by decide +kernel
theorem dX7_over_213 : decode cX7_over 213 = .ok (.iload 10, 2) := by decide +kernel
theorem dX7_over_215 : decode cX7_over 215 = .ok (.istore 11, 2) := by decide +kernel
theorem dX7_over_217 : decode cX7_over 217 = .ok (.aload_n 0, 1) := by decide +kernel
theorem dX7_over_218 : decode cX7_over 218 = .ok (.iload 7, 2) := by decide +kernel
theorem dX7_over_220 : decode cX7_over 220 = .ok (.dup2, 1) := by decide +kernel
theorem dX7_over_221 : decode cX7_over 221 = .ok (.iaload, 1) := by decide +kernel
theorem dX7_over_222 : decode cX7_over 222 = .ok (.iload 11, 2) := by decide +kernel
theorem dX7_over_224 : decode cX7_over 224 = .ok (.isub, 1) := by decide +kernel
theorem dX7_over_225 : decode cX7_over 225 = .ok (.iastore, 1) := by decide +kernel
theorem dX7_over_226 : decode cX7_over 226 = .ok (.iload 4, 2) := by decide +kernel
theorem dX7_over_228 : decode cX7_over 228 = .ok (.iload 11, 2) := by decide +kernel
theorem dX7_over_230 : decode cX7_over 230 = .ok (.iadd, 1) := by decide +kernel
theorem dX7_over_231 : decode cX7_over 231 = .ok (.istore 4, 2) := by decide +kernel
theorem dX7_over_233 : decode cX7_over 233 = .ok (.iinc 7 1, 3) := by decide +kernel
theorem dX7_over_236 : decode cX7_over 236 = .ok (.goto (-222), 3) := by decide +kernel
theorem dX7_over_239 : decode cX7_over 239 = .ok (.iload 4, 2) := by decide +kernel
theorem dX7_over_241 : decode cX7_over 241 = .ok (.ireturn, 1) := by decide +kernel
theorem dX7_spot_0 : decode cX7_spot 0 = .ok (.iload_n 0, 1) := by decide +kernel
theorem dX7_spot_1 : decode cX7_spot 1 = .ok (.iconst 2, 1) := by decide +kernel
theorem dX7_spot_2 : decode cX7_spot 2 = .ok (.if_icmp .ge 7, 3) := by decide +kernel
theorem dX7_spot_5 : decode cX7_spot 5 = .ok (.iload_n 2, 1) := by decide +kernel
theorem dX7_spot_6 : decode cX7_spot 6 = .ok (.goto 7, 3) := by decide +kernel
theorem dX7_spot_9 : decode cX7_spot 9 = .ok (.bipush 19, 2) := by decide +kernel
theorem dX7_spot_11 : decode cX7_spot 11 = .ok (.iload_n 2, 1) := by decide +kernel
theorem dX7_spot_12 : decode cX7_spot 12 = .ok (.isub, 1) := by decide +kernel
theorem dX7_spot_13 : decode cX7_spot 13 = .ok (.istore_n 3, 1) := by decide +kernel
theorem dX7_spot_14 : decode cX7_spot 14 = .ok (.iload_n 0, 1) := by decide +kernel
theorem dX7_spot_15 : decode cX7_spot 15 = .ok (.ifCond .eq 8, 3) := by decide +kernel
theorem dX7_spot_18 : decode cX7_spot 18 = .ok (.iload_n 0, 1) := by decide +kernel
theorem dX7_spot_19 : decode cX7_spot 19 = .ok (.iconst 2, 1) := by decide +kernel
theorem dX7_spot_20 : decode cX7_spot 20 = .ok (.if_icmp .ne 17, 3) := by decide +kernel
theorem dX7_spot_23 : decode cX7_spot 23 = .ok (.iconst 2, 1) := by decide +kernel
theorem dX7_spot_24 : decode cX7_spot 24 = .ok (.newarray .int, 2) := by decide +kernel
theorem dX7_spot_26 : decode cX7_spot 26 = .ok (.dup, 1) := by decide +kernel
theorem dX7_spot_27 : decode cX7_spot 27 = .ok (.iconst 0, 1) := by decide +kernel
theorem dX7_spot_28 : decode cX7_spot 28 = .ok (.iload_n 3, 1) := by decide +kernel
theorem dX7_spot_29 : decode cX7_spot 29 = .ok (.iastore, 1) := by decide +kernel
theorem dX7_spot_30 : decode cX7_spot 30 = .ok (.dup, 1) := by decide +kernel
theorem dX7_spot_31 : decode cX7_spot 31 = .ok (.iconst 1, 1) := by decide +kernel
theorem dX7_spot_32 : decode cX7_spot 32 = .ok (.iload_n 1, 1) := by decide +kernel
theorem dX7_spot_33 : decode cX7_spot 33 = .ok (.iastore, 1) := by decide +kernel
theorem dX7_spot_34 : decode cX7_spot 34 = .ok (.goto 14, 3) := by decide +kernel
theorem dX7_spot_37 : decode cX7_spot 37 = .ok (.iconst 2, 1) := by decide +kernel
theorem dX7_spot_38 : decode cX7_spot 38 = .ok (.newarray .int, 2) := by decide +kernel
theorem dX7_spot_40 : decode cX7_spot 40 = .ok (.dup, 1) := by decide +kernel
theorem dX7_spot_41 : decode cX7_spot 41 = .ok (.iconst 0, 1) := by decide +kernel
theorem dX7_spot_42 : decode cX7_spot 42 = .ok (.iload_n 1, 1) := by decide +kernel
theorem dX7_spot_43 : decode cX7_spot 43 = .ok (.iastore, 1) := by decide +kernel
theorem dX7_spot_44 : decode cX7_spot 44 = .ok (.dup, 1) := by decide +kernel
theorem dX7_spot_45 : decode cX7_spot 45 = .ok (.iconst 1, 1) := by decide +kernel
theorem dX7_spot_46 : decode cX7_spot 46 = .ok (.iload_n 3, 1) := by decide +kernel
theorem dX7_spot_47 : decode cX7_spot 47 = .ok (.iastore, 1) := by decide +kernel
theorem dX7_spot_48 : decode cX7_spot 48 = .ok (.areturn, 1) := by decide +kernel
theorem dX7_hour_0 : decode cX7_hour 0 = .ok (.iconst 0, 1) := by decide +kernel
theorem dX7_hour_1 : decode cX7_hour 1 = .ok (.istore_n 3, 1) := by decide +kernel
theorem dX7_hour_2 : decode cX7_hour 2 = .ok (.iconst 0, 1) := by decide +kernel
theorem dX7_hour_3 : decode cX7_hour 3 = .ok (.istore 4, 2) := by decide +kernel
theorem dX7_hour_5 : decode cX7_hour 5 = .ok (.iload 4, 2) := by decide +kernel
theorem dX7_hour_7 : decode cX7_hour 7 = .ok (.bipush 20, 2) := by decide +kernel
theorem dX7_hour_9 : decode cX7_hour 9 = .ok (.if_icmp .ge 146, 3) := by decide +kernel
theorem dX7_hour_12 : decode cX7_hour 12 = .ok (.bipush 20, 2) := by decide +kernel
theorem dX7_hour_14 : decode cX7_hour 14 = .ok (.newarray .int, 2) := by decide +kernel
theorem dX7_hour_16 : decode cX7_hour 16 = .ok (.astore 5, 2) := by decide +kernel
theorem dX7_hour_18 : decode cX7_hour 18 = .ok (.bipush 20, 2) := by decide +kernel
theorem dX7_hour_20 : decode cX7_hour 20 = .ok (.anewarray 7, 3) := by decide +kernel
theorem dX7_hour_23 : decode cX7_hour 23 = .ok (.astore 6, 2) := by decide +kernel
theorem dX7_hour_25 : decode cX7_hour 25 = .ok (.iconst 0, 1) := by decide +kernel
theorem dX7_hour_26 : decode cX7_hour 26 = .ok (.istore 7, 2) := by decide +kernel
theorem dX7_hour_28 : decode cX7_hour 28 = .ok (.iload 7, 2) := by decide +kernel
theorem dX7_hour_30 : decode cX7_hour 30 = .ok (.bipush 20, 2) := by decide +kernel
theorem dX7_hour_32 : decode cX7_hour 32 = .ok (.if_icmp .ge 55, 3) := by decide +kernel
theorem dX7_hour_35 : decode cX7_hour 35 = .ok (.iload_n 1, 1) := by decide +kernel
theorem dX7_hour_36 : decode cX7_hour 36 = .ok (.iload 4, 2) := by decide +kernel
theorem dX7_hour_38 : decode cX7_hour 38 = .ok (.iload 7, 2) := by decide +kernel
theorem dX7_hour_40 : decode cX7_hour 40 = .ok (.invokestatic 44, 3) := by decide +kernel
theorem dX7_hour_43 : decode cX7_hour 43 = .ok (.astore 8, 2) := by decide +kernel
theorem dX7_hour_45 : decode cX7_hour 45 = .ok (.aload 5, 2) := by decide +kernel
theorem dX7_hour_47 : decode cX7_hour 47 = .ok (.iload 7, 2) := by decide +kernel
theorem dX7_hour_49 : decode cX7_hour 49 = .ok (.aload_n 0, 1) := by decide +kernel
theorem dX7_hour_50 : decode cX7_hour 50 = .ok (.getfield 19, 3) := by decide +kernel
theorem dX7_hour_53 : decode cX7_hour 53 = .ok (.aload 8, 2) := by decide +kernel
theorem dX7_hour_55 : decode cX7_hour 55 = .ok (.iconst 1, 1) := by decide +kernel
theorem dX7_hour_56 : decode cX7_hour 56 = .ok (.iaload, 1) := by decide +kernel
theorem dX7_hour_57 : decode cX7_hour 57 = .ok (.aaload, 1) := by decide +kernel
theorem dX7_hour_58 : decode cX7_hour 58 = .ok (.aload 8, 2) := by decide +kernel
theorem dX7_hour_60 : decode cX7_hour 60 = .ok (.iconst 0, 1) := by decide +kernel
theorem dX7_hour_61 : decode cX7_hour 61 = .ok (.iaload, 1) := by decide +kernel
theorem dX7_hour_62 : decode cX7_hour 62 = .ok (.iaload, 1) := by decide +kernel
theorem dX7_hour_63 : decode cX7_hour 63 = .ok (.iastore, 1) := by decide +kernel
theorem dX7_hour_64 : decode cX7_hour 64 = .ok (.aload 6, 2) := by decide +kernel
theorem dX7_hour_66 : decode cX7_hour 66 = .ok (.iload 7, 2) := by decide +kernel
theorem dX7_hour_68 : decode cX7_hour 68 = .ok (.aload_n 0, 1) := by decide +kernel
theorem dX7_hour_69 : decode cX7_hour 69 = .ok (.aload 8, 2) := by decide +kernel
theorem dX7_hour_71 : decode cX7_hour 71 = .ok (.iconst 0, 1) := by decide +kernel
theorem dX7_hour_72 : decode cX7_hour 72 = .ok (.iaload, 1) := by decide +kernel
theorem dX7_hour_73 : decode cX7_hour 73 = .ok (.aload 8, 2) := by decide +kernel
theorem dX7_hour_75 : decode cX7_hour 75 = .ok (.iconst 1, 1) := by decide +kernel
theorem dX7_hour_76 : decode cX7_hour 76 = .ok (.iaload, 1) := by decide +kernel
theorem dX7_hour_77 : decode cX7_hour 77 = .ok (.invokevirtual 48, 3) := by decide +kernel
theorem dX7_hour_80 : decode cX7_hour 80 = .ok (.aastore, 1) := by decide +kernel
theorem dX7_hour_81 : decode cX7_hour 81 = .ok (.iinc 7 1, 3) := by decide +kernel
theorem dX7_hour_84 : decode cX7_hour 84 = .ok (.goto (-56), 3) := by decide +kernel
theorem dX7_hour_87 : decode cX7_hour 87 = .ok (.iload_n 3, 1) := by decide +kernel
theorem dX7_hour_88 : decode cX7_hour 88 = .ok (.aload 5, 2) := by decide +kernel
theorem dX7_hour_90 : decode cX7_hour 90 = .ok (.aload 6, 2) := by decide +kernel
theorem dX7_hour_92 : decode cX7_hour 92 = .ok (.aload_n 0, 1) := by decide +kernel
theorem dX7_hour_93 : decode cX7_hour 93 = .ok (.getfield 31, 3) := by decide +kernel
theorem dX7_hour_96 : decode cX7_hour 96 = .ok (.iload_n 2, 1) := by decide +kernel
theorem dX7_hour_97 : decode cX7_hour 97 = .ok (.invokestatic 52, 3) := by decide +kernel
theorem dX7_hour_100 : decode cX7_hour 100 = .ok (.iadd, 1) := by decide +kernel
theorem dX7_hour_101 : decode cX7_hour 101 = .ok (.istore_n 3, 1) := by decide +kernel
theorem dX7_hour_102 : decode cX7_hour 102 = .ok (.iconst 0, 1) := by decide +kernel
theorem dX7_hour_103 : decode cX7_hour 103 = .ok (.istore 7, 2) := by decide +kernel
theorem dX7_hour_105 : decode cX7_hour 105 = .ok (.iload 7, 2) := by decide +kernel
theorem dX7_hour_107 : decode cX7_hour 107 = .ok (.bipush 20, 2) := by decide +kernel
theorem dX7_hour_109 : decode cX7_hour 109 = .ok (.if_icmp .ge 40, 3) := by decide +kernel
theorem dX7_hour_112 : decode cX7_hour 112 = .ok (.aload_n 0, 1) := by decide +kernel
theorem dX7_hour_113 : decode cX7_hour 113 = .ok (.getfield 19, 3) := by decide +kernel
theorem dX7_hour_116 : decode cX7_hour 116 = .ok (.iload_n 1, 1) := by decide +kernel
theorem dX7_hour_117 : decode cX7_hour 117 = .ok (.iload 4, 2) := by decide +kernel
theorem dX7_hour_119 : decode cX7_hour 119 = .ok (.iload 7, 2) := by decide +kernel
theorem dX7_hour_121 : decode cX7_hour 121 = .ok (.invokestatic 44, 3) := by decide +kernel
theorem dX7_hour_124 : decode cX7_hour 124 = .ok (.iconst 1, 1) := by decide +kernel
theorem dX7_hour_125 : decode cX7_hour 125 = .ok (.iaload, 1) := by decide +kernel
theorem dX7_hour_126 : decode cX7_hour 126 = .ok (.aaload, 1) := by decide +kernel
theorem dX7_hour_127 : decode cX7_hour 127 = .ok (.iload_n 1, 1) := by decide +kernel
theorem dX7_hour_128 : decode cX7_hour 128 = .ok (.iload 4, 2) := by decide +kernel
theorem dX7_hour_130 : decode cX7_hour 130 = .ok (.iload 7, 2) := by decide +kernel
theorem dX7_hour_132 : decode cX7_hour 132 = .ok (.invokestatic 44, 3) := by decide +kernel
theorem dX7_hour_135 : decode cX7_hour 135 = .ok (.iconst 0, 1) := by decide +kernel
theorem dX7_hour_136 : decode cX7_hour 136 = .ok (.iaload, 1) := by decide +kernel
theorem dX7_hour_137 : decode cX7_hour 137 = .ok (.aload 5, 2) := by decide +kernel
theorem dX7_hour_139 : decode cX7_hour 139 = .ok (.iload 7, 2) := by decide +kernel
theorem dX7_hour_141 : decode cX7_hour 141 = .ok (.iaload, 1) := by decide +kernel
theorem dX7_hour_142 : decode cX7_hour 142 = .ok (.iastore, 1) := by decide +kernel
theorem dX7_hour_143 : decode cX7_hour 143 = .ok (.iinc 7 1, 3) := by decide +kernel
theorem dX7_hour_146 : decode cX7_hour 146 = .ok (.goto (-41), 3) := by decide +kernel
theorem dX7_hour_149 : decode cX7_hour 149 = .ok (.iinc 4 1, 3) := by decide +kernel
theorem dX7_hour_152 : decode cX7_hour 152 = .ok (.goto (-147), 3) := by decide +kernel
theorem dX7_hour_155 : decode cX7_hour 155 = .ok (.iload_n 3, 1) := by decide +kernel
theorem dX7_hour_156 : decode cX7_hour 156 = .ok (.ireturn, 1) := by decide +kernel
theorem dX7_blow_0 : decode cX7_blow 0 = .ok (.iconst 0, 1) := by decide +kernel
theorem dX7_blow_1 : decode cX7_blow 1 = .ok (.istore 4, 2) := by decide +kernel
theorem dX7_blow_3 : decode cX7_blow 3 = .ok (.iconst 0, 1) := by decide +kernel
theorem dX7_blow_4 : decode cX7_blow 4 = .ok (.istore 5, 2) := by decide +kernel
theorem dX7_blow_6 : decode cX7_blow 6 = .ok (.iload 5, 2) := by decide +kernel
theorem dX7_blow_8 : decode cX7_blow 8 = .ok (.iload_n 3, 1) := by decide +kernel
theorem dX7_blow_9 : decode cX7_blow 9 = .ok (.if_icmp .ge 20, 3) := by decide +kernel
theorem dX7_blow_12 : decode cX7_blow 12 = .ok (.iload 4, 2) := by decide +kernel
theorem dX7_blow_14 : decode cX7_blow 14 = .ok (.aload_n 0, 1) := by decide +kernel
theorem dX7_blow_15 : decode cX7_blow 15 = .ok (.iload_n 1, 1) := by decide +kernel
theorem dX7_blow_16 : decode cX7_blow 16 = .ok (.iload_n 2, 1) := by decide +kernel
theorem dX7_blow_17 : decode cX7_blow 17 = .ok (.invokevirtual 56, 3) := by decide +kernel
theorem dX7_blow_20 : decode cX7_blow 20 = .ok (.iadd, 1) := by decide +kernel
theorem dX7_blow_21 : decode cX7_blow 21 = .ok (.istore 4, 2) := by decide +kernel
theorem dX7_blow_23 : decode cX7_blow 23 = .ok (.iinc 5 1, 3) := by decide +kernel
theorem dX7_blow_26 : decode cX7_blow 26 = .ok (.goto (-20), 3) := by decide +kernel
theorem dX7_blow_29 : decode cX7_blow 29 = .ok (.aload_n 0, 1) := by decide +kernel
theorem dX7_blow_30 : decode cX7_blow 30 = .ok (.dup, 1) := by decide +kernel
theorem dX7_blow_31 : decode cX7_blow 31 = .ok (.getfield 59, 3) := by decide +kernel
theorem dX7_blow_34 : decode cX7_blow 34 = .ok (.iload 4, 2) := by decide +kernel
theorem dX7_blow_36 : decode cX7_blow 36 = .ok (.iadd, 1) := by decide +kernel
theorem dX7_blow_37 : decode cX7_blow 37 = .ok (.putfield 59, 3) := by decide +kernel
theorem dX7_blow_40 : decode cX7_blow 40 = .ok (.aload_n 0, 1) := by decide +kernel
theorem dX7_blow_41 : decode cX7_blow 41 = .ok (.dup, 1) := by decide +kernel
theorem dX7_blow_42 : decode cX7_blow 42 = .ok (.getfield 62, 3) := by decide +kernel
theorem dX7_blow_45 : decode cX7_blow 45 = .ok (.iload_n 3, 1) := by decide +kernel
theorem dX7_blow_46 : decode cX7_blow 46 = .ok (.iadd, 1) := by decide +kernel
theorem dX7_blow_47 : decode cX7_blow 47 = .ok (.putfield 62, 3) := by decide +kernel
theorem dX7_blow_50 : decode cX7_blow 50 = .ok (.iload 4, 2) := by decide +kernel
theorem dX7_blow_52 : decode cX7_blow 52 = .ok (.ireturn, 1) := by decide +kernel
theorem dX7_on_0 : decode cX7_on 0 = .ok (.aload_n 1, 1) := by decide +kernel
theorem dX7_on_1 : decode cX7_on 1 = .ok (.iconst 0, 1) := by decide +kernel
theorem dX7_on_2 : decode cX7_on 2 = .ok (.iaload, 1) := by decide +kernel
theorem dX7_on_3 : decode cX7_on 3 = .ok (.iconst 1, 1) := by decide +kernel
theorem dX7_on_4 : decode cX7_on 4 = .ok (.if_icmp .ne 16, 3) := by decide +kernel
theorem dX7_on_7 : decode cX7_on 7 = .ok (.aload_n 0, 1) := by decide +kernel
theorem dX7_on_8 : decode cX7_on 8 = .ok (.getfield 19, 3) := by decide +kernel
theorem dX7_on_11 : decode cX7_on 11 = .ok (.iload_n 2, 1) := by decide +kernel
theorem dX7_on_12 : decode cX7_on 12 = .ok (.aaload, 1) := by decide +kernel
theorem dX7_on_13 : decode cX7_on 13 = .ok (.aload_n 1, 1) := by decide +kernel
theorem dX7_on_14 : decode cX7_on 14 = .ok (.iconst 1, 1) := by decide +kernel
theorem dX7_on_15 : decode cX7_on 15 = .ok (.iaload, 1) := by decide +kernel
theorem dX7_on_16 : decode cX7_on 16 = .ok (.iaload, 1) := by decide +kernel
theorem dX7_on_17 : decode cX7_on 17 = .ok (.goto 13, 3) := by decide +kernel
theorem dX7_on_20 : decode cX7_on 20 = .ok (.aload_n 0, 1) := by decide +kernel
theorem dX7_on_21 : decode cX7_on 21 = .ok (.getfield 19, 3) := by decide +kernel
theorem dX7_on_24 : decode cX7_on 24 = .ok (.aload_n 1, 1) := by decide +kernel
theorem dX7_on_25 : decode cX7_on 25 = .ok (.iconst 1, 1) := by decide +kernel
theorem dX7_on_26 : decode cX7_on 26 = .ok (.iaload, 1) := by decide +kernel
theorem dX7_on_27 : decode cX7_on 27 = .ok (.aaload, 1) := by decide +kernel
theorem dX7_on_28 : decode cX7_on 28 = .ok (.iload_n 2, 1) := by decide +kernel
theorem dX7_on_29 : decode cX7_on 29 = .ok (.iaload, 1) := by decide +kernel
theorem dX7_on_30 : decode cX7_on 30 = .ok (.ireturn, 1) := by decide +kernel
theorem dX7_blocked_0 : decode cX7_blocked 0 = .ok (.iconst 0, 1) := by decide +kernel
theorem dX7_blocked_1 : decode cX7_blocked 1 = .ok (.istore_n 2, 1) := by decide +kernel
theorem dX7_blocked_2 : decode cX7_blocked 2 = .ok (.iconst 0, 1) := by decide +kernel
theorem dX7_blocked_3 : decode cX7_blocked 3 = .ok (.istore_n 3, 1) := by decide +kernel
theorem dX7_blocked_4 : decode cX7_blocked 4 = .ok (.iload_n 3, 1) := by decide +kernel
theorem dX7_blocked_5 : decode cX7_blocked 5 = .ok (.bipush 20, 2) := by decide +kernel
theorem dX7_blocked_7 : decode cX7_blocked 7 = .ok (.if_icmp .ge 30, 3) := by decide +kernel
theorem dX7_blocked_10 : decode cX7_blocked 10 = .ok (.iload_n 2, 1) := by decide +kernel
theorem dX7_blocked_11 : decode cX7_blocked 11 = .ok (.aload_n 0, 1) := by decide +kernel
theorem dX7_blocked_12 : decode cX7_blocked 12 = .ok (.aload_n 1, 1) := by decide +kernel
theorem dX7_blocked_13 : decode cX7_blocked 13 = .ok (.iload_n 3, 1) := by decide +kernel
theorem dX7_blocked_14 : decode cX7_blocked 14 = .ok (.invokevirtual 65, 3) := by decide +kernel
theorem dX7_blocked_17 : decode cX7_blocked 17 = .ok (.aload_n 0, 1) := by decide +kernel
theorem dX7_blocked_18 : decode cX7_blocked 18 = .ok (.getfield 22, 3) := by decide +kernel
theorem dX7_blocked_21 : decode cX7_blocked 21 = .ok (.if_icmp .lt 7, 3) := by decide +kernel
theorem dX7_blocked_24 : decode cX7_blocked 24 = .ok (.iconst 1, 1) := by decide +kernel
theorem dX7_blocked_25 : decode cX7_blocked 25 = .ok (.goto 4, 3) := by decide +kernel
theorem dX7_blocked_28 : decode cX7_blocked 28 = .ok (.iconst 0, 1) := by decide +kernel
theorem dX7_blocked_29 : decode cX7_blocked 29 = .ok (.iadd, 1) := by decide +kernel
theorem dX7_blocked_30 : decode cX7_blocked 30 = .ok (.istore_n 2, 1) := by decide +kernel
theorem dX7_blocked_31 : decode cX7_blocked 31 = .ok (.iinc 3 1, 3) := by decide +kernel
theorem dX7_blocked_34 : decode cX7_blocked 34 = .ok (.goto (-30), 3) := by decide +kernel
theorem dX7_blocked_37 : decode cX7_blocked 37 = .ok (.iload_n 2, 1) := by decide +kernel
theorem dX7_blocked_38 : decode cX7_blocked 38 = .ok (.ireturn, 1) := by decide +kernel
theorem dX7_allBlocked_0 : decode cX7_allBlocked 0 = .ok (.iconst 0, 1) := by decide +kernel
theorem dX7_allBlocked_1 : decode cX7_allBlocked 1 = .ok (.istore_n 1, 1) := by decide +kernel
theorem dX7_allBlocked_2 : decode cX7_allBlocked 2 = .ok (.aload_n 0, 1) := by decide +kernel
theorem dX7_allBlocked_3 : decode cX7_allBlocked 3 = .ok (.getfield 15, 3) := by decide +kernel
theorem dX7_allBlocked_6 : decode cX7_allBlocked 6 = .ok (.astore_n 2, 1) := by decide +kernel
theorem dX7_allBlocked_7 : decode cX7_allBlocked 7 = .ok (.aload_n 2, 1) := by decide +kernel
theorem dX7_allBlocked_8 : decode cX7_allBlocked 8 = .ok (.arraylength, 1) := by decide +kernel
theorem dX7_allBlocked_9 : decode cX7_allBlocked 9 = .ok (.istore_n 3, 1) := by decide +kernel
theorem dX7_allBlocked_10 : decode cX7_allBlocked 10 = .ok (.iconst 0, 1) := by decide +kernel
theorem dX7_allBlocked_11 : decode cX7_allBlocked 11 = .ok (.istore 4, 2) := by decide +kernel
theorem dX7_allBlocked_13 : decode cX7_allBlocked 13 = .ok (.iload 4, 2) := by decide +kernel
theorem dX7_allBlocked_15 : decode cX7_allBlocked 15 = .ok (.iload_n 3, 1) := by decide +kernel
theorem dX7_allBlocked_16 : decode cX7_allBlocked 16 = .ok (.if_icmp .ge 24, 3) := by decide +kernel
theorem dX7_allBlocked_19 : decode cX7_allBlocked 19 = .ok (.aload_n 2, 1) := by decide +kernel
theorem dX7_allBlocked_20 : decode cX7_allBlocked 20 = .ok (.iload 4, 2) := by decide +kernel
theorem dX7_allBlocked_22 : decode cX7_allBlocked 22 = .ok (.aaload, 1) := by decide +kernel
theorem dX7_allBlocked_23 : decode cX7_allBlocked 23 = .ok (.astore 5, 2) := by decide +kernel
theorem dX7_allBlocked_25 : decode cX7_allBlocked 25 = .ok (.iload_n 1, 1) := by decide +kernel
theorem dX7_allBlocked_26 : decode cX7_allBlocked 26 = .ok (.aload_n 0, 1) := by decide +kernel
theorem dX7_allBlocked_27 : decode cX7_allBlocked 27 = .ok (.aload 5, 2) := by decide +kernel
theorem dX7_allBlocked_29 : decode cX7_allBlocked 29 = .ok (.invokevirtual 69, 3) := by decide +kernel
theorem dX7_allBlocked_32 : decode cX7_allBlocked 32 = .ok (.iadd, 1) := by decide +kernel
theorem dX7_allBlocked_33 : decode cX7_allBlocked 33 = .ok (.istore_n 1, 1) := by decide +kernel
theorem dX7_allBlocked_34 : decode cX7_allBlocked 34 = .ok (.iinc 4 1, 3) := by decide +kernel
theorem dX7_allBlocked_37 : decode cX7_allBlocked 37 = .ok (.goto (-24), 3) := by decide +kernel
theorem dX7_allBlocked_40 : decode cX7_allBlocked 40 = .ok (.iload_n 1, 1) := by decide +kernel
theorem dX7_allBlocked_41 : decode cX7_allBlocked 41 = .ok (.ireturn, 1) := by decide +kernel
theorem dX7_tried_0 : decode cX7_tried 0 = .ok (.aload_n 0, 1) := by decide +kernel
theorem dX7_tried_1 : decode cX7_tried 1 = .ok (.invokevirtual 73, 3) := by decide +kernel
theorem dX7_tried_4 : decode cX7_tried 4 = .ok (.astore 4, 2) := by decide +kernel
theorem dX7_tried_6 : decode cX7_tried 6 = .ok (.aload 4, 2) := by decide +kernel
theorem dX7_tried_8 : decode cX7_tried 8 = .ok (.aload_n 1, 1) := by decide +kernel
theorem dX7_tried_9 : decode cX7_tried 9 = .ok (.putfield 9, 3) := by decide +kernel
theorem dX7_tried_12 : decode cX7_tried 12 = .ok (.aload 4, 2) := by decide +kernel
theorem dX7_tried_14 : decode cX7_tried 14 = .ok (.iload_n 2, 1) := by decide +kernel
theorem dX7_tried_15 : decode cX7_tried 15 = .ok (.iload_n 3, 1) := by decide +kernel
theorem dX7_tried_16 : decode cX7_tried 16 = .ok (.iconst 4, 1) := by decide +kernel
theorem dX7_tried_17 : decode cX7_tried 17 = .ok (.invokevirtual 77, 3) := by decide +kernel
theorem dX7_tried_20 : decode cX7_tried 20 = .ok (.pop, 1) := by decide +kernel
theorem dX7_tried_21 : decode cX7_tried 21 = .ok (.aload 4, 2) := by decide +kernel
theorem dX7_tried_23 : decode cX7_tried 23 = .ok (.invokevirtual 81, 3) := by decide +kernel
theorem dX7_tried_26 : decode cX7_tried 26 = .ok (.ireturn, 1) := by decide +kernel
theorem dX7_isSame_0 : decode cX7_isSame 0 = .ok (.iconst 0, 1) := by decide +kernel
theorem dX7_isSame_1 : decode cX7_isSame 1 = .ok (.istore_n 2, 1) := by decide +kernel
theorem dX7_isSame_2 : decode cX7_isSame 2 = .ok (.iconst 0, 1) := by decide +kernel
theorem dX7_isSame_3 : decode cX7_isSame 3 = .ok (.istore_n 3, 1) := by decide +kernel
theorem dX7_isSame_4 : decode cX7_isSame 4 = .ok (.iconst 0, 1) := by decide +kernel
theorem dX7_isSame_5 : decode cX7_isSame 5 = .ok (.istore 4, 2) := by decide +kernel
theorem dX7_isSame_7 : decode cX7_isSame 7 = .ok (.iload 4, 2) := by decide +kernel
theorem dX7_isSame_9 : decode cX7_isSame 9 = .ok (.bipush 20, 2) := by decide +kernel
theorem dX7_isSame_11 : decode cX7_isSame 11 = .ok (.if_icmp .ge 76, 3) := by decide +kernel
theorem dX7_isSame_14 : decode cX7_isSame 14 = .ok (.iconst 0, 1) := by decide +kernel
theorem dX7_isSame_15 : decode cX7_isSame 15 = .ok (.istore 5, 2) := by decide +kernel
theorem dX7_isSame_17 : decode cX7_isSame 17 = .ok (.iload 5, 2) := by decide +kernel
theorem dX7_isSame_19 : decode cX7_isSame 19 = .ok (.bipush 20, 2) := by decide +kernel
theorem dX7_isSame_21 : decode cX7_isSame 21 = .ok (.if_icmp .ge 60, 3) := by decide +kernel
theorem dX7_isSame_24 : decode cX7_isSame 24 = .ok (.aload_n 1, 1) := by decide +kernel
theorem dX7_isSame_25 : decode cX7_isSame 25 = .ok (.iload 5, 2) := by decide +kernel
theorem dX7_isSame_27 : decode cX7_isSame 27 = .ok (.iload 4, 2) := by decide +kernel
theorem dX7_isSame_29 : decode cX7_isSame 29 = .ok (.invokevirtual 85, 3) := by decide +kernel
theorem dX7_isSame_32 : decode cX7_isSame 32 = .ok (.aload_n 0, 1) := by decide +kernel
theorem dX7_isSame_33 : decode cX7_isSame 33 = .ok (.getfield 19, 3) := by decide +kernel
theorem dX7_isSame_36 : decode cX7_isSame 36 = .ok (.iload 4, 2) := by decide +kernel
theorem dX7_isSame_38 : decode cX7_isSame 38 = .ok (.aaload, 1) := by decide +kernel
theorem dX7_isSame_39 : decode cX7_isSame 39 = .ok (.iload 5, 2) := by decide +kernel
theorem dX7_isSame_41 : decode cX7_isSame 41 = .ok (.iaload, 1) := by decide +kernel
theorem dX7_isSame_42 : decode cX7_isSame 42 = .ok (.if_icmp .eq 5, 3) := by decide +kernel
theorem dX7_isSame_45 : decode cX7_isSame 45 = .ok (.iconst 0, 1) := by decide +kernel
theorem dX7_isSame_46 : decode cX7_isSame 46 = .ok (.ireturn, 1) := by decide +kernel
theorem dX7_isSame_47 : decode cX7_isSame 47 = .ok (.iload_n 2, 1) := by decide +kernel
theorem dX7_isSame_48 : decode cX7_isSame 48 = .ok (.aload_n 0, 1) := by decide +kernel
theorem dX7_isSame_49 : decode cX7_isSame 49 = .ok (.getfield 19, 3) := by decide +kernel
theorem dX7_isSame_52 : decode cX7_isSame 52 = .ok (.iload 4, 2) := by decide +kernel
theorem dX7_isSame_54 : decode cX7_isSame 54 = .ok (.aaload, 1) := by decide +kernel
theorem dX7_isSame_55 : decode cX7_isSame 55 = .ok (.iload 5, 2) := by decide +kernel
theorem dX7_isSame_57 : decode cX7_isSame 57 = .ok (.iaload, 1) := by decide +kernel
theorem dX7_isSame_58 : decode cX7_isSame 58 = .ok (.iadd, 1) := by decide +kernel
theorem dX7_isSame_59 : decode cX7_isSame 59 = .ok (.istore_n 2, 1) := by decide +kernel
theorem dX7_isSame_60 : decode cX7_isSame 60 = .ok (.iload_n 3, 1) := by decide +kernel
theorem dX7_isSame_61 : decode cX7_isSame 61 = .ok (.aload_n 0, 1) := by decide +kernel
theorem dX7_isSame_62 : decode cX7_isSame 62 = .ok (.getfield 19, 3) := by decide +kernel
theorem dX7_isSame_65 : decode cX7_isSame 65 = .ok (.iload 4, 2) := by decide +kernel
theorem dX7_isSame_67 : decode cX7_isSame 67 = .ok (.aaload, 1) := by decide +kernel
theorem dX7_isSame_68 : decode cX7_isSame 68 = .ok (.iload 5, 2) := by decide +kernel
theorem dX7_isSame_70 : decode cX7_isSame 70 = .ok (.iaload, 1) := by decide +kernel
theorem dX7_isSame_71 : decode cX7_isSame 71 = .ok (.invokestatic 38, 3) := by decide +kernel
theorem dX7_isSame_74 : decode cX7_isSame 74 = .ok (.istore_n 3, 1) := by decide +kernel
theorem dX7_isSame_75 : decode cX7_isSame 75 = .ok (.iinc 5 1, 3) := by decide +kernel
theorem dX7_isSame_78 : decode cX7_isSame 78 = .ok (.goto (-61), 3) := by decide +kernel
theorem dX7_isSame_81 : decode cX7_isSame 81 = .ok (.iinc 4 1, 3) := by decide +kernel
theorem dX7_isSame_84 : decode cX7_isSame 84 = .ok (.goto (-77), 3) := by decide +kernel
theorem dX7_isSame_87 : decode cX7_isSame 87 = .ok (.iconst 0, 1) := by decide +kernel
theorem dX7_isSame_88 : decode cX7_isSame 88 = .ok (.istore 4, 2) := by decide +kernel
theorem dX7_isSame_90 : decode cX7_isSame 90 = .ok (.iload 4, 2) := by decide +kernel
theorem dX7_isSame_92 : decode cX7_isSame 92 = .ok (.aload_n 0, 1) := by decide +kernel
theorem dX7_isSame_93 : decode cX7_isSame 93 = .ok (.getfield 9, 3) := by decide +kernel
theorem dX7_isSame_96 : decode cX7_isSame 96 = .ok (.arraylength, 1) := by decide +kernel
theorem dX7_isSame_97 : decode cX7_isSame 97 = .ok (.if_icmp .ge 133, 3) := by decide +kernel
theorem dX7_isSame_100 : decode cX7_isSame 100 = .ok (.aload_n 0, 1) := by decide +kernel
theorem dX7_isSame_101 : decode cX7_isSame 101 = .ok (.getfield 9, 3) := by decide +kernel
theorem dX7_isSame_104 : decode cX7_isSame 104 = .ok (.iload 4, 2) := by decide +kernel
theorem dX7_isSame_106 : decode cX7_isSame 106 = .ok (.aaload, 1) := by decide +kernel
theorem dX7_isSame_107 : decode cX7_isSame 107 = .ok (.astore 5, 2) := by decide +kernel
theorem dX7_isSame_109 : decode cX7_isSame 109 = .ok (.iconst 0, 1) := by decide +kernel
theorem dX7_isSame_110 : decode cX7_isSame 110 = .ok (.istore 6, 2) := by decide +kernel
theorem dX7_isSame_112 : decode cX7_isSame 112 = .ok (.iconst 0, 1) := by decide +kernel
theorem dX7_isSame_113 : decode cX7_isSame 113 = .ok (.istore 7, 2) := by decide +kernel
theorem dX7_isSame_115 : decode cX7_isSame 115 = .ok (.iload 7, 2) := by decide +kernel
theorem dX7_isSame_117 : decode cX7_isSame 117 = .ok (.bipush 20, 2) := by decide +kernel
theorem dX7_isSame_119 : decode cX7_isSame 119 = .ok (.if_icmp .ge 56, 3) := by decide +kernel
theorem dX7_isSame_122 : decode cX7_isSame 122 = .ok (.iconst 0, 1) := by decide +kernel
theorem dX7_isSame_123 : decode cX7_isSame 123 = .ok (.istore 8, 2) := by decide +kernel
theorem dX7_isSame_125 : decode cX7_isSame 125 = .ok (.iload 8, 2) := by decide +kernel
theorem dX7_isSame_127 : decode cX7_isSame 127 = .ok (.bipush 20, 2) := by decide +kernel
theorem dX7_isSame_129 : decode cX7_isSame 129 = .ok (.if_icmp .ge 40, 3) := by decide +kernel
theorem dX7_isSame_132 : decode cX7_isSame 132 = .ok (.iload 6, 2) := by decide +kernel
theorem dX7_isSame_134 : decode cX7_isSame 134 = .ok (.aload 5, 2) := by decide +kernel
theorem dX7_isSame_136 : decode cX7_isSame 136 = .ok (.iload 8, 2) := by decide +kernel
theorem dX7_isSame_138 : decode cX7_isSame 138 = .ok (.iload 7, 2) := by decide +kernel
theorem dX7_isSame_140 : decode cX7_isSame 140 = .ok (.invokestatic 34, 3) := by decide +kernel
theorem dX7_isSame_143 : decode cX7_isSame 143 = .ok (.ifCond .eq 16, 3) := by decide +kernel
theorem dX7_isSame_146 : decode cX7_isSame 146 = .ok (.aload_n 0, 1) := by decide +kernel
theorem dX7_isSame_147 : decode cX7_isSame 147 = .ok (.getfield 19, 3) := by decide +kernel
theorem dX7_isSame_150 : decode cX7_isSame 150 = .ok (.iload 7, 2) := by decide +kernel
theorem dX7_isSame_152 : decode cX7_isSame 152 = .ok (.aaload, 1) := by decide +kernel
theorem dX7_isSame_153 : decode cX7_isSame 153 = .ok (.iload 8, 2) := by decide +kernel
theorem dX7_isSame_155 : decode cX7_isSame 155 = .ok (.iaload, 1) := by decide +kernel
theorem dX7_isSame_156 : decode cX7_isSame 156 = .ok (.goto 4, 3) := by decide +kernel
theorem dX7_isSame_159 : decode cX7_isSame 159 = .ok (.iconst 0, 1) := by decide +kernel
theorem dX7_isSame_160 : decode cX7_isSame 160 = .ok (.iadd, 1) := by decide +kernel
theorem dX7_isSame_161 : decode cX7_isSame 161 = .ok (.istore 6, 2) := by decide +kernel
theorem dX7_isSame_163 : decode cX7_isSame 163 = .ok (.iinc 8 1, 3) := by decide +kernel
theorem dX7_isSame_166 : decode cX7_isSame 166 = .ok (.goto (-41), 3) := by decide +kernel
theorem dX7_isSame_169 : decode cX7_isSame 169 = .ok (.iinc 7 1, 3) := by decide +kernel
theorem dX7_isSame_172 : decode cX7_isSame 172 = .ok (.goto (-57), 3) := by decide +kernel
theorem dX7_isSame_175 : decode cX7_isSame 175 = .ok (.iconst 0, 1) := by decide +kernel
theorem dX7_isSame_176 : decode cX7_isSame 176 = .ok (.istore 7, 2) := by decide +kernel
theorem dX7_isSame_178 : decode cX7_isSame 178 = .ok (.iload 7, 2) := by decide +kernel
theorem dX7_isSame_180 : decode cX7_isSame 180 = .ok (.bipush 6, 2) := by decide +kernel
theorem dX7_isSame_182 : decode cX7_isSame 182 = .ok (.if_icmp .ge 27, 3) := by decide +kernel
theorem dX7_isSame_185 : decode cX7_isSame 185 = .ok (.aload_n 1, 1) := by decide +kernel
theorem dX7_isSame_186 : decode cX7_isSame 186 = .ok (.iload 4, 2) := by decide +kernel
theorem dX7_isSame_188 : decode cX7_isSame 188 = .ok (.iload 7, 2) := by decide +kernel
theorem dX7_isSame_190 : decode cX7_isSame 190 = .ok (.invokevirtual 89, 3) := by decide +kernel
theorem dX7_isSame_193 : decode cX7_isSame 193 = .ok (.aload 5, 2) := by decide +kernel
theorem dX7_isSame_195 : decode cX7_isSame 195 = .ok (.iload 7, 2) := by decide +kernel
theorem dX7_isSame_197 : decode cX7_isSame 197 = .ok (.iaload, 1) := by decide +kernel
theorem dX7_isSame_198 : decode cX7_isSame 198 = .ok (.if_icmp .eq 5, 3) := by decide +kernel
theorem dX7_isSame_201 : decode cX7_isSame 201 = .ok (.iconst 0, 1) := by decide +kernel
theorem dX7_isSame_202 : decode cX7_isSame 202 = .ok (.ireturn, 1) := by decide +kernel
theorem dX7_isSame_203 : decode cX7_isSame 203 = .ok (.iinc 7 1, 3) := by decide +kernel
theorem dX7_isSame_206 : decode cX7_isSame 206 = .ok (.goto (-28), 3) := by decide +kernel
theorem dX7_isSame_209 : decode cX7_isSame 209 = .ok (.aload_n 1, 1) := by decide +kernel
theorem dX7_isSame_210 : decode cX7_isSame 210 = .ok (.iload 4, 2) := by decide +kernel
theorem dX7_isSame_212 : decode cX7_isSame 212 = .ok (.bipush 6, 2) := by decide +kernel
theorem dX7_isSame_214 : decode cX7_isSame 214 = .ok (.invokevirtual 89, 3) := by decide +kernel
theorem dX7_isSame_217 : decode cX7_isSame 217 = .ok (.iload 6, 2) := by decide +kernel
theorem dX7_isSame_219 : decode cX7_isSame 219 = .ok (.if_icmp .eq 5, 3) := by decide +kernel
theorem dX7_isSame_222 : decode cX7_isSame 222 = .ok (.iconst 0, 1) := by decide +kernel
theorem dX7_isSame_223 : decode cX7_isSame 223 = .ok (.ireturn, 1) := by decide +kernel
theorem dX7_isSame_224 : decode cX7_isSame 224 = .ok (.iinc 4 1, 3) := by decide +kernel
theorem dX7_isSame_227 : decode cX7_isSame 227 = .ok (.goto (-137), 3) := by decide +kernel
theorem dX7_isSame_230 : decode cX7_isSame 230 = .ok (.iconst 0, 1) := by decide +kernel
theorem dX7_isSame_231 : decode cX7_isSame 231 = .ok (.istore 4, 2) := by decide +kernel
theorem dX7_isSame_233 : decode cX7_isSame 233 = .ok (.iload 4, 2) := by decide +kernel
theorem dX7_isSame_235 : decode cX7_isSame 235 = .ok (.aload_n 0, 1) := by decide +kernel
theorem dX7_isSame_236 : decode cX7_isSame 236 = .ok (.getfield 15, 3) := by decide +kernel
theorem dX7_isSame_239 : decode cX7_isSame 239 = .ok (.arraylength, 1) := by decide +kernel
theorem dX7_isSame_240 : decode cX7_isSame 240 = .ok (.if_icmp .ge 155, 3) := by decide +kernel
theorem dX7_isSame_243 : decode cX7_isSame 243 = .ok (.iconst 0, 1) := by decide +kernel
theorem dX7_isSame_244 : decode cX7_isSame 244 = .ok (.istore 5, 2) := by decide +kernel
theorem dX7_isSame_246 : decode cX7_isSame 246 = .ok (.iconst 0, 1) := by decide +kernel
theorem dX7_isSame_247 : decode cX7_isSame 247 = .ok (.istore 6, 2) := by decide +kernel
theorem dX7_isSame_249 : decode cX7_isSame 249 = .ok (.iconst 0, 1) := by decide +kernel
theorem dX7_isSame_250 : decode cX7_isSame 250 = .ok (.istore 7, 2) := by decide +kernel
theorem dX7_isSame_252 : decode cX7_isSame 252 = .ok (.iload 7, 2) := by decide +kernel
theorem dX7_isSame_254 : decode cX7_isSame 254 = .ok (.bipush 20, 2) := by decide +kernel
theorem dX7_isSame_256 : decode cX7_isSame 256 = .ok (.if_icmp .ge 47, 3) := by decide +kernel
theorem dX7_isSame_259 : decode cX7_isSame 259 = .ok (.iload 5, 2) := by decide +kernel
theorem dX7_isSame_261 : decode cX7_isSame 261 = .ok (.aload_n 0, 1) := by decide +kernel
theorem dX7_isSame_262 : decode cX7_isSame 262 = .ok (.aload_n 0, 1) := by decide +kernel
theorem dX7_isSame_263 : decode cX7_isSame 263 = .ok (.getfield 15, 3) := by decide +kernel
theorem dX7_isSame_266 : decode cX7_isSame 266 = .ok (.iload 4, 2) := by decide +kernel
theorem dX7_isSame_268 : decode cX7_isSame 268 = .ok (.aaload, 1) := by decide +kernel
theorem dX7_isSame_269 : decode cX7_isSame 269 = .ok (.iload 7, 2) := by decide +kernel
theorem dX7_isSame_271 : decode cX7_isSame 271 = .ok (.invokevirtual 65, 3) := by decide +kernel
theorem dX7_isSame_274 : decode cX7_isSame 274 = .ok (.iadd, 1) := by decide +kernel
theorem dX7_isSame_275 : decode cX7_isSame 275 = .ok (.istore 5, 2) := by decide +kernel
theorem dX7_isSame_277 : decode cX7_isSame 277 = .ok (.iload 6, 2) := by decide +kernel
theorem dX7_isSame_279 : decode cX7_isSame 279 = .ok (.aload_n 0, 1) := by decide +kernel
theorem dX7_isSame_280 : decode cX7_isSame 280 = .ok (.aload_n 0, 1) := by decide +kernel
theorem dX7_isSame_281 : decode cX7_isSame 281 = .ok (.getfield 15, 3) := by decide +kernel
theorem dX7_isSame_284 : decode cX7_isSame 284 = .ok (.iload 4, 2) := by decide +kernel
theorem dX7_isSame_286 : decode cX7_isSame 286 = .ok (.aaload, 1) := by decide +kernel
theorem dX7_isSame_287 : decode cX7_isSame 287 = .ok (.iload 7, 2) := by decide +kernel
theorem dX7_isSame_289 : decode cX7_isSame 289 = .ok (.invokevirtual 65, 3) := by decide +kernel
theorem dX7_isSame_292 : decode cX7_isSame 292 = .ok (.invokestatic 38, 3) := by decide +kernel
theorem dX7_isSame_295 : decode cX7_isSame 295 = .ok (.istore 6, 2) := by decide +kernel
theorem dX7_isSame_297 : decode cX7_isSame 297 = .ok (.iinc 7 1, 3) := by decide +kernel
theorem dX7_isSame_300 : decode cX7_isSame 300 = .ok (.goto (-48), 3) := by decide +kernel
theorem dX7_isSame_303 : decode cX7_isSame 303 = .ok (.iconst 5, 1) := by decide +kernel
theorem dX7_isSame_304 : decode cX7_isSame 304 = .ok (.newarray .int, 2) := by decide +kernel
theorem dX7_isSame_306 : decode cX7_isSame 306 = .ok (.dup, 1) := by decide +kernel
theorem dX7_isSame_307 : decode cX7_isSame 307 = .ok (.iconst 0, 1) := by decide +kernel
theorem dX7_isSame_308 : decode cX7_isSame 308 = .ok (.aload_n 0, 1) := by decide +kernel
theorem dX7_isSame_309 : decode cX7_isSame 309 = .ok (.getfield 15, 3) := by decide +kernel
theorem dX7_isSame_312 : decode cX7_isSame 312 = .ok (.iload 4, 2) := by decide +kernel
theorem dX7_isSame_314 : decode cX7_isSame 314 = .ok (.aaload, 1) := by decide +kernel
theorem dX7_isSame_315 : decode cX7_isSame 315 = .ok (.iconst 0, 1) := by decide +kernel
theorem dX7_isSame_316 : decode cX7_isSame 316 = .ok (.iaload, 1) := by decide +kernel
theorem dX7_isSame_317 : decode cX7_isSame 317 = .ok (.iastore, 1) := by decide +kernel
theorem dX7_isSame_318 : decode cX7_isSame 318 = .ok (.dup, 1) := by decide +kernel
