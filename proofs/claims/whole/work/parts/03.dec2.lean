theorem dX6_advise_44 : decode cX6_advise 44 = .ok (.aload_n 0, 1) := by decide +kernel
theorem dX6_advise_45 : decode cX6_advise 45 = .ok (.iconst (-1), 1) := by decide +kernel
theorem dX6_advise_46 : decode cX6_advise 46 = .ok (.invokevirtual 144, 3) := by decide +kernel
theorem dX6_advise_49 : decode cX6_advise 49 = .ok (.aload_n 0, 1) := by decide +kernel
theorem dX6_advise_50 : decode cX6_advise 50 = .ok (.getfield 41, 3) := by decide +kernel
theorem dX6_advise_53 : decode cX6_advise 53 = .ok (.aload 4, 2) := by decide +kernel
theorem dX6_advise_55 : decode cX6_advise 55 = .ok (.getfield 204, 3) := by decide +kernel
theorem dX6_advise_58 : decode cX6_advise 58 = .ok (.ifCond .ne 7, 3) := by decide +kernel
theorem dX6_advise_61 : decode cX6_advise 61 = .ok (.iconst 1, 1) := by decide +kernel
theorem dX6_advise_62 : decode cX6_advise 62 = .ok (.goto 4, 3) := by decide +kernel
theorem dX6_advise_65 : decode cX6_advise 65 = .ok (.iconst 0, 1) := by decide +kernel
theorem dX6_advise_66 : decode cX6_advise 66 = .ok (.iload 7, 2) := by decide +kernel
theorem dX6_advise_68 : decode cX6_advise 68 = .ok (.invokestatic 102, 3) := by decide +kernel
theorem dX6_advise_71 : decode cX6_advise 71 = .ok (.iload_n 3, 1) := by decide +kernel
theorem dX6_advise_72 : decode cX6_advise 72 = .ok (.iconst 0, 1) := by decide +kernel
theorem dX6_advise_73 : decode cX6_advise 73 = .ok (.invokevirtual 205, 3) := by decide +kernel
theorem dX6_advise_76 : decode cX6_advise 76 = .ok (.aload_n 0, 1) := by decide +kernel
theorem dX6_advise_77 : decode cX6_advise 77 = .ok (.aload 4, 2) := by decide +kernel
theorem dX6_advise_79 : decode cX6_advise 79 = .ok (.invokevirtual 208, 3) := by decide +kernel
theorem dX6_advise_82 : decode cX6_advise 82 = .ok (.istore 8, 2) := by decide +kernel
theorem dX6_advise_84 : decode cX6_advise 84 = .ok (.iload 8, 2) := by decide +kernel
theorem dX6_advise_86 : decode cX6_advise 86 = .ok (.iload 6, 2) := by decide +kernel
theorem dX6_advise_88 : decode cX6_advise 88 = .ok (.if_icmp .ge 11, 3) := by decide +kernel
theorem dX6_advise_91 : decode cX6_advise 91 = .ok (.iload 8, 2) := by decide +kernel
theorem dX6_advise_93 : decode cX6_advise 93 = .ok (.istore 6, 2) := by decide +kernel
theorem dX6_advise_95 : decode cX6_advise 95 = .ok (.iload 7, 2) := by decide +kernel
theorem dX6_advise_97 : decode cX6_advise 97 = .ok (.istore 5, 2) := by decide +kernel
theorem dX6_advise_99 : decode cX6_advise 99 = .ok (.iinc 7 1, 3) := by decide +kernel
theorem dX6_advise_102 : decode cX6_advise 102 = .ok (.goto (-65), 3) := by decide +kernel
theorem dX6_advise_105 : decode cX6_advise 105 = .ok (.iload 5, 2) := by decide +kernel
theorem dX6_advise_107 : decode cX6_advise 107 = .ok (.ireturn, 1) := by decide +kernel
theorem dX6_harmful_0 : decode cX6_harmful 0 = .ok (.iload_n 1, 1) := by decide +kernel
theorem dX6_harmful_1 : decode cX6_harmful 1 = .ok (.invokestatic 135, 3) := by decide +kernel
theorem dX6_harmful_4 : decode cX6_harmful 4 = .ok (.iload_n 2, 1) := by decide +kernel
theorem dX6_harmful_5 : decode cX6_harmful 5 = .ok (.invokestatic 138, 3) := by decide +kernel
theorem dX6_harmful_8 : decode cX6_harmful 8 = .ok (.new 147, 3) := by decide +kernel
theorem dX6_harmful_11 : decode cX6_harmful 11 = .ok (.dup, 1) := by decide +kernel
theorem dX6_harmful_12 : decode cX6_harmful 12 = .ok (.iload_n 1, 1) := by decide +kernel
theorem dX6_harmful_13 : decode cX6_harmful 13 = .ok (.iload_n 2, 1) := by decide +kernel
theorem dX6_harmful_14 : decode cX6_harmful 14 = .ok (.aload_n 0, 1) := by decide +kernel
theorem dX6_harmful_15 : decode cX6_harmful 15 = .ok (.getfield 113, 3) := by decide +kernel
theorem dX6_harmful_18 : decode cX6_harmful 18 = .ok (.invokespecial 149, 3) := by decide +kernel
theorem dX6_harmful_21 : decode cX6_harmful 21 = .ok (.astore_n 3, 1) := by decide +kernel
theorem dX6_harmful_22 : decode cX6_harmful 22 = .ok (.aload_n 0, 1) := by decide +kernel
theorem dX6_harmful_23 : decode cX6_harmful 23 = .ok (.iconst (-1), 1) := by decide +kernel
theorem dX6_harmful_24 : decode cX6_harmful 24 = .ok (.invokevirtual 144, 3) := by decide +kernel
theorem dX6_harmful_27 : decode cX6_harmful 27 = .ok (.iconst (-1), 1) := by decide +kernel
theorem dX6_harmful_28 : decode cX6_harmful 28 = .ok (.istore 4, 2) := by decide +kernel
theorem dX6_harmful_30 : decode cX6_harmful 30 = .ok (.aload_n 0, 1) := by decide +kernel
theorem dX6_harmful_31 : decode cX6_harmful 31 = .ok (.aload_n 3, 1) := by decide +kernel
theorem dX6_harmful_32 : decode cX6_harmful 32 = .ok (.invokevirtual 208, 3) := by decide +kernel
theorem dX6_harmful_35 : decode cX6_harmful 35 = .ok (.istore 5, 2) := by decide +kernel
theorem dX6_harmful_37 : decode cX6_harmful 37 = .ok (.iconst 0, 1) := by decide +kernel
theorem dX6_harmful_38 : decode cX6_harmful 38 = .ok (.istore 6, 2) := by decide +kernel
theorem dX6_harmful_40 : decode cX6_harmful 40 = .ok (.iload 6, 2) := by decide +kernel
theorem dX6_harmful_42 : decode cX6_harmful 42 = .ok (.aload_n 0, 1) := by decide +kernel
theorem dX6_harmful_43 : decode cX6_harmful 43 = .ok (.getfield 10, 3) := by decide +kernel
theorem dX6_harmful_46 : decode cX6_harmful 46 = .ok (.invokevirtual 67, 3) := by decide +kernel
theorem dX6_harmful_49 : decode cX6_harmful 49 = .ok (.if_icmp .ge 37, 3) := by decide +kernel
theorem dX6_harmful_52 : decode cX6_harmful 52 = .ok (.aload_n 0, 1) := by decide +kernel
theorem dX6_harmful_53 : decode cX6_harmful 53 = .ok (.iload 6, 2) := by decide +kernel
theorem dX6_harmful_55 : decode cX6_harmful 55 = .ok (.invokevirtual 144, 3) := by decide +kernel
theorem dX6_harmful_58 : decode cX6_harmful 58 = .ok (.aload_n 0, 1) := by decide +kernel
theorem dX6_harmful_59 : decode cX6_harmful 59 = .ok (.aload_n 3, 1) := by decide +kernel
theorem dX6_harmful_60 : decode cX6_harmful 60 = .ok (.invokevirtual 208, 3) := by decide +kernel
theorem dX6_harmful_63 : decode cX6_harmful 63 = .ok (.istore 7, 2) := by decide +kernel
theorem dX6_harmful_65 : decode cX6_harmful 65 = .ok (.iload 7, 2) := by decide +kernel
theorem dX6_harmful_67 : decode cX6_harmful 67 = .ok (.iload 5, 2) := by decide +kernel
theorem dX6_harmful_69 : decode cX6_harmful 69 = .ok (.if_icmp .ge 11, 3) := by decide +kernel
theorem dX6_harmful_72 : decode cX6_harmful 72 = .ok (.iload 7, 2) := by decide +kernel
theorem dX6_harmful_74 : decode cX6_harmful 74 = .ok (.istore 5, 2) := by decide +kernel
theorem dX6_harmful_76 : decode cX6_harmful 76 = .ok (.iload 6, 2) := by decide +kernel
theorem dX6_harmful_78 : decode cX6_harmful 78 = .ok (.istore 4, 2) := by decide +kernel
theorem dX6_harmful_80 : decode cX6_harmful 80 = .ok (.iinc 6 1, 3) := by decide +kernel
theorem dX6_harmful_83 : decode cX6_harmful 83 = .ok (.goto (-43), 3) := by decide +kernel
theorem dX6_harmful_86 : decode cX6_harmful 86 = .ok (.iload 4, 2) := by decide +kernel
theorem dX6_harmful_88 : decode cX6_harmful 88 = .ok (.ireturn, 1) := by decide +kernel
theorem dX6_mean_0 : decode cX6_mean 0 = .ok (.aload_n 0, 1) := by decide +kernel
theorem dX6_mean_1 : decode cX6_mean 1 = .ok (.getfield 31, 3) := by decide +kernel
theorem dX6_mean_4 : decode cX6_mean 4 = .ok (.aload_n 0, 1) := by decide +kernel
theorem dX6_mean_5 : decode cX6_mean 5 = .ok (.getfield 24, 3) := by decide +kernel
theorem dX6_mean_8 : decode cX6_mean 8 = .ok (.invokevirtual 118, 3) := by decide +kernel
theorem dX6_mean_11 : decode cX6_mean 11 = .ok (.i2d, 1) := by decide +kernel
theorem dX6_mean_12 : decode cX6_mean 12 = .ok (.ldc2_w 212, 3) := by decide +kernel
theorem dX6_mean_15 : decode cX6_mean 15 = .ok (.ddiv, 1) := by decide +kernel
theorem dX6_mean_16 : decode cX6_mean 16 = .ok (.dreturn, 1) := by decide +kernel
theorem dX6_digest_0 : decode cX6_digest 0 = .ok (.ldc2_w 214, 3) := by decide +kernel
theorem dX6_digest_3 : decode cX6_digest 3 = .ok (.lstore_n 1, 1) := by decide +kernel
theorem dX6_digest_4 : decode cX6_digest 4 = .ok (.iconst 0, 1) := by decide +kernel
theorem dX6_digest_5 : decode cX6_digest 5 = .ok (.istore_n 3, 1) := by decide +kernel
theorem dX6_digest_6 : decode cX6_digest 6 = .ok (.iload_n 3, 1) := by decide +kernel
theorem dX6_digest_7 : decode cX6_digest 7 = .ok (.bipush 10, 2) := by decide +kernel
theorem dX6_digest_9 : decode cX6_digest 9 = .ok (.if_icmp .ge 22, 3) := by decide +kernel
theorem dX6_digest_12 : decode cX6_digest 12 = .ok (.lload_n 1, 1) := by decide +kernel
theorem dX6_digest_13 : decode cX6_digest 13 = .ok (.ldc2_w 216, 3) := by decide +kernel
theorem dX6_digest_16 : decode cX6_digest 16 = .ok (.lmul, 1) := by decide +kernel
theorem dX6_digest_17 : decode cX6_digest 17 = .ok (.aload_n 0, 1) := by decide +kernel
theorem dX6_digest_18 : decode cX6_digest 18 = .ok (.iload_n 3, 1) := by decide +kernel
theorem dX6_digest_19 : decode cX6_digest 19 = .ok (.invokevirtual 218, 3) := by decide +kernel
theorem dX6_digest_22 : decode cX6_digest 22 = .ok (.i2l, 1) := by decide +kernel
theorem dX6_digest_23 : decode cX6_digest 23 = .ok (.ladd, 1) := by decide +kernel
theorem dX6_digest_24 : decode cX6_digest 24 = .ok (.lstore_n 1, 1) := by decide +kernel
theorem dX6_digest_25 : decode cX6_digest 25 = .ok (.iinc 3 1, 3) := by decide +kernel
theorem dX6_digest_28 : decode cX6_digest 28 = .ok (.goto (-22), 3) := by decide +kernel
theorem dX6_digest_31 : decode cX6_digest 31 = .ok (.iconst 0, 1) := by decide +kernel
theorem dX6_digest_32 : decode cX6_digest 32 = .ok (.istore_n 3, 1) := by decide +kernel
theorem dX6_digest_33 : decode cX6_digest 33 = .ok (.iload_n 3, 1) := by decide +kernel
theorem dX6_digest_34 : decode cX6_digest 34 = .ok (.aload_n 0, 1) := by decide +kernel
theorem dX6_digest_35 : decode cX6_digest 35 = .ok (.getfield 10, 3) := by decide +kernel
theorem dX6_digest_38 : decode cX6_digest 38 = .ok (.invokevirtual 67, 3) := by decide +kernel
theorem dX6_digest_41 : decode cX6_digest 41 = .ok (.if_icmp .ge 40, 3) := by decide +kernel
theorem dX6_digest_44 : decode cX6_digest 44 = .ok (.iconst 0, 1) := by decide +kernel
theorem dX6_digest_45 : decode cX6_digest 45 = .ok (.istore 4, 2) := by decide +kernel
theorem dX6_digest_47 : decode cX6_digest 47 = .ok (.iload 4, 2) := by decide +kernel
theorem dX6_digest_49 : decode cX6_digest 49 = .ok (.bipush 7, 2) := by decide +kernel
theorem dX6_digest_51 : decode cX6_digest 51 = .ok (.if_icmp .ge 24, 3) := by decide +kernel
theorem dX6_digest_54 : decode cX6_digest 54 = .ok (.lload_n 1, 1) := by decide +kernel
theorem dX6_digest_55 : decode cX6_digest 55 = .ok (.ldc2_w 216, 3) := by decide +kernel
theorem dX6_digest_58 : decode cX6_digest 58 = .ok (.lmul, 1) := by decide +kernel
theorem dX6_digest_59 : decode cX6_digest 59 = .ok (.aload_n 0, 1) := by decide +kernel
theorem dX6_digest_60 : decode cX6_digest 60 = .ok (.iload_n 3, 1) := by decide +kernel
theorem dX6_digest_61 : decode cX6_digest 61 = .ok (.iload 4, 2) := by decide +kernel
theorem dX6_digest_63 : decode cX6_digest 63 = .ok (.invokevirtual 221, 3) := by decide +kernel
theorem dX6_digest_66 : decode cX6_digest 66 = .ok (.i2l, 1) := by decide +kernel
theorem dX6_digest_67 : decode cX6_digest 67 = .ok (.ladd, 1) := by decide +kernel
theorem dX6_digest_68 : decode cX6_digest 68 = .ok (.lstore_n 1, 1) := by decide +kernel
theorem dX6_digest_69 : decode cX6_digest 69 = .ok (.iinc 4 1, 3) := by decide +kernel
theorem dX6_digest_72 : decode cX6_digest 72 = .ok (.goto (-25), 3) := by decide +kernel
theorem dX6_digest_75 : decode cX6_digest 75 = .ok (.iinc 3 1, 3) := by decide +kernel
theorem dX6_digest_78 : decode cX6_digest 78 = .ok (.goto (-45), 3) := by decide +kernel
theorem dX6_digest_81 : decode cX6_digest 81 = .ok (.iconst 0, 1) := by decide +kernel
theorem dX6_digest_82 : decode cX6_digest 82 = .ok (.istore_n 3, 1) := by decide +kernel
theorem dX6_digest_83 : decode cX6_digest 83 = .ok (.iload_n 3, 1) := by decide +kernel
theorem dX6_digest_84 : decode cX6_digest 84 = .ok (.aload_n 0, 1) := by decide +kernel
theorem dX6_digest_85 : decode cX6_digest 85 = .ok (.getfield 16, 3) := by decide +kernel
theorem dX6_digest_88 : decode cX6_digest 88 = .ok (.invokevirtual 67, 3) := by decide +kernel
theorem dX6_digest_91 : decode cX6_digest 91 = .ok (.if_icmp .ge 39, 3) := by decide +kernel
theorem dX6_digest_94 : decode cX6_digest 94 = .ok (.iconst 0, 1) := by decide +kernel
theorem dX6_digest_95 : decode cX6_digest 95 = .ok (.istore 4, 2) := by decide +kernel
theorem dX6_digest_97 : decode cX6_digest 97 = .ok (.iload 4, 2) := by decide +kernel
theorem dX6_digest_99 : decode cX6_digest 99 = .ok (.iconst 5, 1) := by decide +kernel
theorem dX6_digest_100 : decode cX6_digest 100 = .ok (.if_icmp .ge 24, 3) := by decide +kernel
theorem dX6_digest_103 : decode cX6_digest 103 = .ok (.lload_n 1, 1) := by decide +kernel
theorem dX6_digest_104 : decode cX6_digest 104 = .ok (.ldc2_w 216, 3) := by decide +kernel
theorem dX6_digest_107 : decode cX6_digest 107 = .ok (.lmul, 1) := by decide +kernel
theorem dX6_digest_108 : decode cX6_digest 108 = .ok (.aload_n 0, 1) := by decide +kernel
theorem dX6_digest_109 : decode cX6_digest 109 = .ok (.iload_n 3, 1) := by decide +kernel
theorem dX6_digest_110 : decode cX6_digest 110 = .ok (.iload 4, 2) := by decide +kernel
theorem dX6_digest_112 : decode cX6_digest 112 = .ok (.invokevirtual 224, 3) := by decide +kernel
theorem dX6_digest_115 : decode cX6_digest 115 = .ok (.i2l, 1) := by decide +kernel
theorem dX6_digest_116 : decode cX6_digest 116 = .ok (.ladd, 1) := by decide +kernel
theorem dX6_digest_117 : decode cX6_digest 117 = .ok (.lstore_n 1, 1) := by decide +kernel
theorem dX6_digest_118 : decode cX6_digest 118 = .ok (.iinc 4 1, 3) := by decide +kernel
theorem dX6_digest_121 : decode cX6_digest 121 = .ok (.goto (-24), 3) := by decide +kernel
theorem dX6_digest_124 : decode cX6_digest 124 = .ok (.iinc 3 1, 3) := by decide +kernel
theorem dX6_digest_127 : decode cX6_digest 127 = .ok (.goto (-44), 3) := by decide +kernel
theorem dX6_digest_130 : decode cX6_digest 130 = .ok (.iconst 0, 1) := by decide +kernel
theorem dX6_digest_131 : decode cX6_digest 131 = .ok (.istore_n 3, 1) := by decide +kernel
theorem dX6_digest_132 : decode cX6_digest 132 = .ok (.iload_n 3, 1) := by decide +kernel
theorem dX6_digest_133 : decode cX6_digest 133 = .ok (.sipush 400, 3) := by decide +kernel
theorem dX6_digest_136 : decode cX6_digest 136 = .ok (.if_icmp .ge 25, 3) := by decide +kernel
theorem dX6_digest_139 : decode cX6_digest 139 = .ok (.lload_n 1, 1) := by decide +kernel
theorem dX6_digest_140 : decode cX6_digest 140 = .ok (.ldc2_w 216, 3) := by decide +kernel
theorem dX6_digest_143 : decode cX6_digest 143 = .ok (.lmul, 1) := by decide +kernel
theorem dX6_digest_144 : decode cX6_digest 144 = .ok (.aload_n 0, 1) := by decide +kernel
theorem dX6_digest_145 : decode cX6_digest 145 = .ok (.getfield 31, 3) := by decide +kernel
theorem dX6_digest_148 : decode cX6_digest 148 = .ok (.iload_n 3, 1) := by decide +kernel
theorem dX6_digest_149 : decode cX6_digest 149 = .ok (.invokevirtual 122, 3) := by decide +kernel
theorem dX6_digest_152 : decode cX6_digest 152 = .ok (.i2l, 1) := by decide +kernel
theorem dX6_digest_153 : decode cX6_digest 153 = .ok (.ladd, 1) := by decide +kernel
theorem dX6_digest_154 : decode cX6_digest 154 = .ok (.lstore_n 1, 1) := by decide +kernel
theorem dX6_digest_155 : decode cX6_digest 155 = .ok (.iinc 3 1, 3) := by decide +kernel
theorem dX6_digest_158 : decode cX6_digest 158 = .ok (.goto (-26), 3) := by decide +kernel
theorem dX6_digest_161 : decode cX6_digest 161 = .ok (.lload_n 1, 1) := by decide +kernel
theorem dX6_digest_162 : decode cX6_digest 162 = .ok (.lreturn, 1) := by decide +kernel
theorem dX6_needIndex_0 : decode cX6_needIndex 0 = .ok (.iload_n 0, 1) := by decide +kernel
theorem dX6_needIndex_1 : decode cX6_needIndex 1 = .ok (.ifCond .lt 8, 3) := by decide +kernel
theorem dX6_needIndex_4 : decode cX6_needIndex 4 = .ok (.iload_n 0, 1) := by decide +kernel
theorem dX6_needIndex_5 : decode cX6_needIndex 5 = .ok (.iload_n 1, 1) := by decide +kernel
theorem dX6_needIndex_6 : decode cX6_needIndex 6 = .ok (.if_icmp .lt 13, 3) := by decide +kernel
theorem dX6_needIndex_9 : decode cX6_needIndex 9 = .ok (.new 227, 3) := by decide +kernel
theorem dX6_needIndex_12 : decode cX6_needIndex 12 = .ok (.dup, 1) := by decide +kernel
theorem dX6_needIndex_13 : decode cX6_needIndex 13 = .ok (.ldc 229, 2) := by decide +kernel
theorem dX6_needIndex_15 : decode cX6_needIndex 15 = .ok (.invokespecial 231, 3) := by decide +kernel
theorem dX6_needIndex_18 : decode cX6_needIndex 18 = .ok (.athrow, 1) := by decide +kernel
theorem dX6_needIndex_19 : decode cX6_needIndex 19 = .ok (.return_, 1) := by decide +kernel
theorem dX6_needWind_0 : decode cX6_needWind 0 = .ok (.iload_n 0, 1) := by decide +kernel
theorem dX6_needWind_1 : decode cX6_needWind 1 = .ok (.iconst 4, 1) := by decide +kernel
theorem dX6_needWind_2 : decode cX6_needWind 2 = .ok (.invokestatic 63, 3) := by decide +kernel
theorem dX6_needWind_5 : decode cX6_needWind 5 = .ok (.return_, 1) := by decide +kernel
theorem dX6_needHeight_0 : decode cX6_needHeight 0 = .ok (.iload_n 0, 1) := by decide +kernel
theorem dX6_needHeight_1 : decode cX6_needHeight 1 = .ok (.iconst 1, 1) := by decide +kernel
theorem dX6_needHeight_2 : decode cX6_needHeight 2 = .ok (.if_icmp .lt 9, 3) := by decide +kernel
theorem dX6_needHeight_5 : decode cX6_needHeight 5 = .ok (.iload_n 0, 1) := by decide +kernel
theorem dX6_needHeight_6 : decode cX6_needHeight 6 = .ok (.bipush 9, 2) := by decide +kernel
theorem dX6_needHeight_8 : decode cX6_needHeight 8 = .ok (.if_icmp .le 13, 3) := by decide +kernel
theorem dX6_needHeight_11 : decode cX6_needHeight 11 = .ok (.new 49, 3) := by decide +kernel
theorem dX6_needHeight_14 : decode cX6_needHeight 14 = .ok (.dup, 1) := by decide +kernel
theorem dX6_needHeight_15 : decode cX6_needHeight 15 = .ok (.ldc 232, 2) := by decide +kernel
theorem dX6_needHeight_17 : decode cX6_needHeight 17 = .ok (.invokespecial 53, 3) := by decide +kernel
theorem dX6_needHeight_20 : decode cX6_needHeight 20 = .ok (.athrow, 1) := by decide +kernel
theorem dX6_needHeight_21 : decode cX6_needHeight 21 = .ok (.return_, 1) := by decide +kernel
theorem dX6_needGap_0 : decode cX6_needGap 0 = .ok (.iload_n 0, 1) := by decide +kernel
theorem dX6_needGap_1 : decode cX6_needGap 1 = .ok (.ifCond .lt 8, 3) := by decide +kernel
theorem dX6_needGap_4 : decode cX6_needGap 4 = .ok (.iload_n 0, 1) := by decide +kernel
theorem dX6_needGap_5 : decode cX6_needGap 5 = .ok (.iconst 3, 1) := by decide +kernel
theorem dX6_needGap_6 : decode cX6_needGap 6 = .ok (.if_icmp .le 13, 3) := by decide +kernel
theorem dX6_needGap_9 : decode cX6_needGap 9 = .ok (.new 49, 3) := by decide +kernel
theorem dX6_needGap_12 : decode cX6_needGap 12 = .ok (.dup, 1) := by decide +kernel
theorem dX6_needGap_13 : decode cX6_needGap 13 = .ok (.ldc 234, 2) := by decide +kernel
theorem dX6_needGap_15 : decode cX6_needGap 15 = .ok (.invokespecial 53, 3) := by decide +kernel
theorem dX6_needGap_18 : decode cX6_needGap 18 = .ok (.athrow, 1) := by decide +kernel
theorem dX6_needGap_19 : decode cX6_needGap 19 = .ok (.return_, 1) := by decide +kernel
theorem dX6_needStrength_0 : decode cX6_needStrength 0 = .ok (.iload_n 0, 1) := by decide +kernel
theorem dX6_needStrength_1 : decode cX6_needStrength 1 = .ok (.iconst 1, 1) := by decide +kernel
theorem dX6_needStrength_2 : decode cX6_needStrength 2 = .ok (.if_icmp .lt 9, 3) := by decide +kernel
theorem dX6_needStrength_5 : decode cX6_needStrength 5 = .ok (.iload_n 0, 1) := by decide +kernel
theorem dX6_needStrength_6 : decode cX6_needStrength 6 = .ok (.bipush 9, 2) := by decide +kernel
theorem dX6_needStrength_8 : decode cX6_needStrength 8 = .ok (.if_icmp .le 13, 3) := by decide +kernel
theorem dX6_needStrength_11 : decode cX6_needStrength 11 = .ok (.new 49, 3) := by decide +kernel
theorem dX6_needStrength_14 : decode cX6_needStrength 14 = .ok (.dup, 1) := by decide +kernel
theorem dX6_needStrength_15 : decode cX6_needStrength 15 = .ok (.ldc 236, 2) := by decide +kernel
theorem dX6_needStrength_17 : decode cX6_needStrength 17 = .ok (.invokespecial 53, 3) := by decide +kernel
theorem dX6_needStrength_20 : decode cX6_needStrength 20 = .ok (.athrow, 1) := by decide +kernel
theorem dX6_needStrength_21 : decode cX6_needStrength 21 = .ok (.return_, 1) := by decide +kernel
theorem dX6_needHours_0 : decode cX6_needHours 0 = .ok (.iload_n 0, 1) := by decide +kernel
theorem dX6_needHours_1 : decode cX6_needHours 1 = .ok (.iconst 1, 1) := by decide +kernel
theorem dX6_needHours_2 : decode cX6_needHours 2 = .ok (.if_icmp .lt 9, 3) := by decide +kernel
theorem dX6_needHours_5 : decode cX6_needHours 5 = .ok (.iload_n 0, 1) := by decide +kernel
theorem dX6_needHours_6 : decode cX6_needHours 6 = .ok (.bipush 24, 2) := by decide +kernel
theorem dX6_needHours_8 : decode cX6_needHours 8 = .ok (.if_icmp .le 13, 3) := by decide +kernel
theorem dX6_needHours_11 : decode cX6_needHours 11 = .ok (.new 49, 3) := by decide +kernel
theorem dX6_needHours_14 : decode cX6_needHours 14 = .ok (.dup, 1) := by decide +kernel
theorem dX6_needHours_15 : decode cX6_needHours 15 = .ok (.ldc 238, 2) := by decide +kernel
theorem dX6_needHours_17 : decode cX6_needHours 17 = .ok (.invokespecial 53, 3) := by decide +kernel
theorem dX6_needHours_20 : decode cX6_needHours 20 = .ok (.athrow, 1) := by decide +kernel
theorem dX6_needHours_21 : decode cX6_needHours 21 = .ok (.return_, 1) := by decide +kernel
theorem dX6_straight_0 : decode cX6_straight 0 = .ok (.iload_n 0, 1) := by decide +kernel
theorem dX6_straight_1 : decode cX6_straight 1 = .ok (.ifCond .eq 18, 3) := by decide +kernel
theorem dX6_straight_4 : decode cX6_straight 4 = .ok (.new 19, 3) := by decide +kernel
theorem dX6_straight_7 : decode cX6_straight 7 = .ok (.dup, 1) := by decide +kernel
theorem dX6_straight_8 : decode cX6_straight 8 = .ok (.iload_n 1, 1) := by decide +kernel
theorem dX6_straight_9 : decode cX6_straight 9 = .ok (.iconst 0, 1) := by decide +kernel
theorem dX6_straight_10 : decode cX6_straight 10 = .ok (.bipush 20, 2) := by decide +kernel
theorem dX6_straight_12 : decode cX6_straight 12 = .ok (.iconst 1, 1) := by decide +kernel
theorem dX6_straight_13 : decode cX6_straight 13 = .ok (.invokespecial 21, 3) := by decide +kernel
theorem dX6_straight_16 : decode cX6_straight 16 = .ok (.goto 15, 3) := by decide +kernel
theorem dX6_straight_19 : decode cX6_straight 19 = .ok (.new 19, 3) := by decide +kernel
theorem dX6_straight_22 : decode cX6_straight 22 = .ok (.dup, 1) := by decide +kernel
theorem dX6_straight_23 : decode cX6_straight 23 = .ok (.iconst 0, 1) := by decide +kernel
theorem dX6_straight_24 : decode cX6_straight 24 = .ok (.iload_n 1, 1) := by decide +kernel
theorem dX6_straight_25 : decode cX6_straight 25 = .ok (.bipush 20, 2) := by decide +kernel
theorem dX6_straight_27 : decode cX6_straight 27 = .ok (.iconst 0, 1) := by decide +kernel
theorem dX6_straight_28 : decode cX6_straight 28 = .ok (.invokespecial 21, 3) := by decide +kernel
theorem dX6_straight_31 : decode cX6_straight 31 = .ok (.areturn, 1) := by decide +kernel
theorem dX6_screenAllBut_0 : decode cX6_screenAllBut 0 = .ok (.aload_n 0, 1) := by decide +kernel
theorem dX6_screenAllBut_1 : decode cX6_screenAllBut 1 = .ok (.getfield 41, 3) := by decide +kernel
theorem dX6_screenAllBut_4 : decode cX6_screenAllBut 4 = .ok (.invokevirtual 240, 3) := by decide +kernel
theorem dX6_screenAllBut_7 : decode cX6_screenAllBut 7 = .ok (.iconst 0, 1) := by decide +kernel
theorem dX6_screenAllBut_8 : decode cX6_screenAllBut 8 = .ok (.istore_n 2, 1) := by decide +kernel
theorem dX6_screenAllBut_9 : decode cX6_screenAllBut 9 = .ok (.iload_n 2, 1) := by decide +kernel
theorem dX6_screenAllBut_10 : decode cX6_screenAllBut 10 = .ok (.aload_n 0, 1) := by decide +kernel
theorem dX6_screenAllBut_11 : decode cX6_screenAllBut 11 = .ok (.getfield 10, 3) := by decide +kernel
theorem dX6_screenAllBut_14 : decode cX6_screenAllBut 14 = .ok (.invokevirtual 67, 3) := by decide +kernel
theorem dX6_screenAllBut_17 : decode cX6_screenAllBut 17 = .ok (.if_icmp .ge 45, 3) := by decide +kernel
theorem dX6_screenAllBut_20 : decode cX6_screenAllBut 20 = .ok (.iload_n 2, 1) := by decide +kernel
theorem dX6_screenAllBut_21 : decode cX6_screenAllBut 21 = .ok (.iload_n 1, 1) := by decide +kernel
theorem dX6_screenAllBut_22 : decode cX6_screenAllBut 22 = .ok (.if_icmp .eq 34, 3) := by decide +kernel
theorem dX6_screenAllBut_25 : decode cX6_screenAllBut 25 = .ok (.aload_n 0, 1) := by decide +kernel
theorem dX6_screenAllBut_26 : decode cX6_screenAllBut 26 = .ok (.getfield 10, 3) := by decide +kernel
theorem dX6_screenAllBut_29 : decode cX6_screenAllBut 29 = .ok (.iload_n 2, 1) := by decide +kernel
theorem dX6_screenAllBut_30 : decode cX6_screenAllBut 30 = .ok (.invokevirtual 85, 3) := by decide +kernel
theorem dX6_screenAllBut_33 : decode cX6_screenAllBut 33 = .ok (.checkcast 76, 3) := by decide +kernel
theorem dX6_screenAllBut_36 : decode cX6_screenAllBut 36 = .ok (.astore_n 3, 1) := by decide +kernel
theorem dX6_screenAllBut_37 : decode cX6_screenAllBut 37 = .ok (.aload_n 0, 1) := by decide +kernel
theorem dX6_screenAllBut_38 : decode cX6_screenAllBut 38 = .ok (.getfield 41, 3) := by decide +kernel
theorem dX6_screenAllBut_41 : decode cX6_screenAllBut 41 = .ok (.aload_n 3, 1) := by decide +kernel
theorem dX6_screenAllBut_42 : decode cX6_screenAllBut 42 = .ok (.getfield 178, 3) := by decide +kernel
theorem dX6_screenAllBut_45 : decode cX6_screenAllBut 45 = .ok (.aload_n 3, 1) := by decide +kernel
theorem dX6_screenAllBut_46 : decode cX6_screenAllBut 46 = .ok (.getfield 89, 3) := by decide +kernel
theorem dX6_screenAllBut_49 : decode cX6_screenAllBut 49 = .ok (.aload_n 3, 1) := by decide +kernel
theorem dX6_screenAllBut_50 : decode cX6_screenAllBut 50 = .ok (.getfield 92, 3) := by decide +kernel
theorem dX6_screenAllBut_53 : decode cX6_screenAllBut 53 = .ok (.invokevirtual 205, 3) := by decide +kernel
theorem dX6_screenAllBut_56 : decode cX6_screenAllBut 56 = .ok (.iinc 2 1, 3) := by decide +kernel
theorem dX6_screenAllBut_59 : decode cX6_screenAllBut 59 = .ok (.goto (-50), 3) := by decide +kernel
theorem dX6_screenAllBut_62 : decode cX6_screenAllBut 62 = .ok (.return_, 1) := by decide +kernel
theorem dX6_blowOver_0 : decode cX6_blowOver 0 = .ok (.iconst 0, 1) := by decide +kernel
theorem dX6_blowOver_1 : decode cX6_blowOver 1 = .ok (.istore 4, 2) := by decide +kernel
theorem dX6_blowOver_3 : decode cX6_blowOver 3 = .ok (.iconst 0, 1) := by decide +kernel
theorem dX6_blowOver_4 : decode cX6_blowOver 4 = .ok (.istore 5, 2) := by decide +kernel
theorem dX6_blowOver_6 : decode cX6_blowOver 6 = .ok (.iload 5, 2) := by decide +kernel
theorem dX6_blowOver_8 : decode cX6_blowOver 8 = .ok (.iload_n 3, 1) := by decide +kernel
theorem dX6_blowOver_9 : decode cX6_blowOver 9 = .ok (.if_icmp .ge 23, 3) := by decide +kernel
theorem dX6_blowOver_12 : decode cX6_blowOver 12 = .ok (.iload 4, 2) := by decide +kernel
theorem dX6_blowOver_14 : decode cX6_blowOver 14 = .ok (.aload_n 2, 1) := by decide +kernel
theorem dX6_blowOver_15 : decode cX6_blowOver 15 = .ok (.aload_n 1, 1) := by decide +kernel
theorem dX6_blowOver_16 : decode cX6_blowOver 16 = .ok (.aload_n 0, 1) := by decide +kernel
theorem dX6_blowOver_17 : decode cX6_blowOver 17 = .ok (.getfield 41, 3) := by decide +kernel
theorem dX6_blowOver_20 : decode cX6_blowOver 20 = .ok (.invokevirtual 242, 3) := by decide +kernel
theorem dX6_blowOver_23 : decode cX6_blowOver 23 = .ok (.iadd, 1) := by decide +kernel
theorem dX6_blowOver_24 : decode cX6_blowOver 24 = .ok (.istore 4, 2) := by decide +kernel
theorem dX6_blowOver_26 : decode cX6_blowOver 26 = .ok (.iinc 5 1, 3) := by decide +kernel
theorem dX6_blowOver_29 : decode cX6_blowOver 29 = .ok (.goto (-23), 3) := by decide +kernel
theorem dX6_blowOver_32 : decode cX6_blowOver 32 = .ok (.iload 4, 2) := by decide +kernel
theorem dX6_blowOver_34 : decode cX6_blowOver 34 = .ok (.ireturn, 1) := by decide +kernel
theorem dX6_blockedAfterAdvice_0 : decode cX6_blockedAfterAdvice 0 = .ok (.aload_n 0, 1) := by decide +kernel
theorem dX6_blockedAfterAdvice_1 : decode cX6_blockedAfterAdvice 1 = .ok (.getfield 35, 3) := by decide +kernel
theorem dX6_blockedAfterAdvice_4 : decode cX6_blockedAfterAdvice 4 = .ok (.aload_n 0, 1) := by decide +kernel
theorem dX6_blockedAfterAdvice_5 : decode cX6_blockedAfterAdvice 5 = .ok (.getfield 31, 3) := by decide +kernel
theorem dX6_blockedAfterAdvice_8 : decode cX6_blockedAfterAdvice 8 = .ok (.invokevirtual 200, 3) := by decide +kernel
theorem dX6_blockedAfterAdvice_11 : decode cX6_blockedAfterAdvice 11 = .ok (.aload_n 0, 1) := by decide +kernel
theorem dX6_blockedAfterAdvice_12 : decode cX6_blockedAfterAdvice 12 = .ok (.aload_n 0, 1) := by decide +kernel
theorem dX6_blockedAfterAdvice_13 : decode cX6_blockedAfterAdvice 13 = .ok (.getfield 35, 3) := by decide +kernel
theorem dX6_blockedAfterAdvice_16 : decode cX6_blockedAfterAdvice 16 = .ok (.aload_n 1, 1) := by decide +kernel
theorem dX6_blockedAfterAdvice_17 : decode cX6_blockedAfterAdvice 17 = .ok (.iconst 4, 1) := by decide +kernel
theorem dX6_blockedAfterAdvice_18 : decode cX6_blockedAfterAdvice 18 = .ok (.invokevirtual 152, 3) := by decide +kernel
theorem dX6_blockedAfterAdvice_21 : decode cX6_blockedAfterAdvice 21 = .ok (.pop, 1) := by decide +kernel
theorem dX6_blockedAfterAdvice_22 : decode cX6_blockedAfterAdvice 22 = .ok (.aload_n 0, 1) := by decide +kernel
theorem dX6_blockedAfterAdvice_23 : decode cX6_blockedAfterAdvice 23 = .ok (.aload_n 0, 1) := by decide +kernel
theorem dX6_blockedAfterAdvice_24 : decode cX6_blockedAfterAdvice 24 = .ok (.getfield 35, 3) := by decide +kernel
theorem dX6_blockedAfterAdvice_27 : decode cX6_blockedAfterAdvice 27 = .ok (.invokevirtual 196, 3) := by decide +kernel
theorem dX6_blockedAfterAdvice_30 : decode cX6_blockedAfterAdvice 30 = .ok (.ireturn, 1) := by decide +kernel
theorem dX6_blockedOnRoads_0 : decode cX6_blockedOnRoads 0 = .ok (.iconst 0, 1) := by decide +kernel
theorem dX6_blockedOnRoads_1 : decode cX6_blockedOnRoads 1 = .ok (.istore_n 2, 1) := by decide +kernel
theorem dX6_blockedOnRoads_2 : decode cX6_blockedOnRoads 2 = .ok (.iconst 0, 1) := by decide +kernel
theorem dX6_blockedOnRoads_3 : decode cX6_blockedOnRoads 3 = .ok (.istore_n 3, 1) := by decide +kernel
theorem dX6_blockedOnRoads_4 : decode cX6_blockedOnRoads 4 = .ok (.iload_n 3, 1) := by decide +kernel
theorem dX6_blockedOnRoads_5 : decode cX6_blockedOnRoads 5 = .ok (.aload_n 0, 1) := by decide +kernel
theorem dX6_blockedOnRoads_6 : decode cX6_blockedOnRoads 6 = .ok (.getfield 16, 3) := by decide +kernel
theorem dX6_blockedOnRoads_9 : decode cX6_blockedOnRoads 9 = .ok (.invokevirtual 67, 3) := by decide +kernel
theorem dX6_blockedOnRoads_12 : decode cX6_blockedOnRoads 12 = .ok (.if_icmp .ge 34, 3) := by decide +kernel
theorem dX6_blockedOnRoads_15 : decode cX6_blockedOnRoads 15 = .ok (.iload_n 2, 1) := by decide +kernel
theorem dX6_blockedOnRoads_16 : decode cX6_blockedOnRoads 16 = .ok (.aload_n 1, 1) := by decide +kernel
theorem dX6_blockedOnRoads_17 : decode cX6_blockedOnRoads 17 = .ok (.aload_n 0, 1) := by decide +kernel
theorem dX6_blockedOnRoads_18 : decode cX6_blockedOnRoads 18 = .ok (.getfield 16, 3) := by decide +kernel
theorem dX6_blockedOnRoads_21 : decode cX6_blockedOnRoads 21 = .ok (.iload_n 3, 1) := by decide +kernel
theorem dX6_blockedOnRoads_22 : decode cX6_blockedOnRoads 22 = .ok (.invokevirtual 85, 3) := by decide +kernel
theorem dX6_blockedOnRoads_25 : decode cX6_blockedOnRoads 25 = .ok (.checkcast 100, 3) := by decide +kernel
theorem dX6_blockedOnRoads_28 : decode cX6_blockedOnRoads 28 = .ok (.getfield 162, 3) := by decide +kernel
theorem dX6_blockedOnRoads_31 : decode cX6_blockedOnRoads 31 = .ok (.aload_n 0, 1) := by decide +kernel
theorem dX6_blockedOnRoads_32 : decode cX6_blockedOnRoads 32 = .ok (.getfield 45, 3) := by decide +kernel
theorem dX6_blockedOnRoads_35 : decode cX6_blockedOnRoads 35 = .ok (.invokevirtual 189, 3) := by decide +kernel
theorem dX6_blockedOnRoads_38 : decode cX6_blockedOnRoads 38 = .ok (.iadd, 1) := by decide +kernel
theorem dX6_blockedOnRoads_39 : decode cX6_blockedOnRoads 39 = .ok (.istore_n 2, 1) := by decide +kernel
theorem dX6_blockedOnRoads_40 : decode cX6_blockedOnRoads 40 = .ok (.iinc 3 1, 3) := by decide +kernel
theorem dX6_blockedOnRoads_43 : decode cX6_blockedOnRoads 43 = .ok (.goto (-39), 3) := by decide +kernel
theorem dX6_blockedOnRoads_46 : decode cX6_blockedOnRoads 46 = .ok (.iload_n 2, 1) := by decide +kernel
theorem dX6_blockedOnRoads_47 : decode cX6_blockedOnRoads 47 = .ok (.ireturn, 1) := by decide +kernel
theorem dX7_init_0 : decode cX7_init 0 = .ok (.aload_n 0, 1) := by decide +kernel
theorem dX7_init_1 : decode cX7_init 1 = .ok (.invokespecial 1, 3) := by decide +kernel
theorem dX7_init_4 : decode cX7_init 4 = .ok (.aload_n 0, 1) := by decide +kernel
theorem dX7_init_5 : decode cX7_init 5 = .ok (.bipush 66, 2) := by decide +kernel
theorem dX7_init_7 : decode cX7_init 7 = .ok (.newarray .int, 2) := by decide +kernel
theorem dX7_init_9 : decode cX7_init 9 = .ok (.putfield 9, 3) := by decide +kernel
theorem dX7_init_12 : decode cX7_init 12 = .ok (.aload_n 0, 1) := by decide +kernel
theorem dX7_init_13 : decode cX7_init 13 = .ok (.iconst 4, 1) := by decide +kernel
theorem dX7_init_14 : decode cX7_init 14 = .ok (.newarray .int, 2) := by decide +kernel
theorem dX7_init_16 : decode cX7_init 16 = .ok (.putfield 13, 3) := by decide +kernel
theorem dX7_init_19 : decode cX7_init 19 = .ok (.aload_n 0, 1) := by decide +kernel
theorem dX7_init_20 : decode cX7_init 20 = .ok (.iconst 4, 1) := by decide +kernel
theorem dX7_init_21 : decode cX7_init 21 = .ok (.newarray .int, 2) := by decide +kernel
theorem dX7_init_23 : decode cX7_init 23 = .ok (.putfield 16, 3) := by decide +kernel
theorem dX7_init_26 : decode cX7_init 26 = .ok (.aload_n 0, 1) := by decide +kernel
theorem dX7_init_27 : decode cX7_init 27 = .ok (.bipush 15, 2) := by decide +kernel
theorem dX7_init_29 : decode cX7_init 29 = .ok (.putfield 19, 3) := by decide +kernel
theorem dX7_init_32 : decode cX7_init 32 = .ok (.aload_n 0, 1) := by decide +kernel
theorem dX7_init_33 : decode cX7_init 33 = .ok (.sipush 400, 3) := by decide +kernel
theorem dX7_init_36 : decode cX7_init 36 = .ok (.newarray .int, 2) := by decide +kernel
theorem dX7_init_38 : decode cX7_init 38 = .ok (.putfield 23, 3) := by decide +kernel
theorem dX7_init_41 : decode cX7_init 41 = .ok (.aload_n 0, 1) := by decide +kernel
theorem dX7_init_42 : decode cX7_init 42 = .ok (.sipush 400, 3) := by decide +kernel
theorem dX7_init_45 : decode cX7_init 45 = .ok (.newarray .int, 2) := by decide +kernel
theorem dX7_init_47 : decode cX7_init 47 = .ok (.putfield 26, 3) := by decide +kernel
theorem dX7_init_50 : decode cX7_init 50 = .ok (.aload_n 0, 1) := by decide +kernel
theorem dX7_init_51 : decode cX7_init 51 = .ok (.sipush 400, 3) := by decide +kernel
theorem dX7_init_54 : decode cX7_init 54 = .ok (.newarray .int, 2) := by decide +kernel
theorem dX7_init_56 : decode cX7_init 56 = .ok (.putfield 29, 3) := by decide +kernel
theorem dX7_init_59 : decode cX7_init 59 = .ok (.return_, 1) := by decide +kernel
theorem dX7_thrown_0 : decode cX7_thrown 0 = .ok (.aload_n 0, 1) := by decide +kernel
theorem dX7_thrown_1 : decode cX7_thrown 1 = .ok (.getfield 32, 3) := by decide +kernel
theorem dX7_thrown_4 : decode cX7_thrown 4 = .ok (.ireturn, 1) := by decide +kernel
theorem dX7_no_0 : decode cX7_no 0 = .ok (.aload_n 0, 1) := by decide +kernel
theorem dX7_no_1 : decode cX7_no 1 = .ok (.iload_n 1, 1) := by decide +kernel
theorem dX7_no_2 : decode cX7_no 2 = .ok (.putfield 32, 3) := by decide +kernel
theorem dX7_no_5 : decode cX7_no 5 = .ok (.iconst 0, 1) := by decide +kernel
theorem dX7_no_6 : decode cX7_no 6 = .ok (.ireturn, 1) := by decide +kernel
theorem dX7_isIn_0 : decode cX7_isIn 0 = .ok (.iload_n 0, 1) := by decide +kernel
theorem dX7_isIn_1 : decode cX7_isIn 1 = .ok (.iload_n 1, 1) := by decide +kernel
theorem dX7_isIn_2 : decode cX7_isIn 2 = .ok (.if_icmp .lt 12, 3) := by decide +kernel
theorem dX7_isIn_5 : decode cX7_isIn 5 = .ok (.iload_n 0, 1) := by decide +kernel
theorem dX7_isIn_6 : decode cX7_isIn 6 = .ok (.iload_n 2, 1) := by decide +kernel
theorem dX7_isIn_7 : decode cX7_isIn 7 = .ok (.if_icmp .gt 7, 3) := by decide +kernel
theorem dX7_isIn_10 : decode cX7_isIn 10 = .ok (.iconst 1, 1) := by decide +kernel
theorem dX7_isIn_11 : decode cX7_isIn 11 = .ok (.goto 4, 3) := by decide +kernel
theorem dX7_isIn_14 : decode cX7_isIn 14 = .ok (.iconst 0, 1) := by decide +kernel
theorem dX7_isIn_15 : decode cX7_isIn 15 = .ok (.ireturn, 1) := by decide +kernel
theorem dX7_isFence_0 : decode cX7_isFence 0 = .ok (.iload_n 1, 1) := by decide +kernel
theorem dX7_isFence_1 : decode cX7_isFence 1 = .ok (.iconst 0, 1) := by decide +kernel
theorem dX7_isFence_2 : decode cX7_isFence 2 = .ok (.aload_n 0, 1) := by decide +kernel
theorem dX7_isFence_3 : decode cX7_isFence 3 = .ok (.getfield 35, 3) := by decide +kernel
theorem dX7_isFence_6 : decode cX7_isFence 6 = .ok (.iconst 1, 1) := by decide +kernel
theorem dX7_isFence_7 : decode cX7_isFence 7 = .ok (.isub, 1) := by decide +kernel
theorem dX7_isFence_8 : decode cX7_isFence 8 = .ok (.invokestatic 38, 3) := by decide +kernel
theorem dX7_isFence_11 : decode cX7_isFence 11 = .ok (.ireturn, 1) := by decide +kernel
theorem dX7_isRoad_0 : decode cX7_isRoad 0 = .ok (.iload_n 1, 1) := by decide +kernel
theorem dX7_isRoad_1 : decode cX7_isRoad 1 = .ok (.iconst 0, 1) := by decide +kernel
theorem dX7_isRoad_2 : decode cX7_isRoad 2 = .ok (.aload_n 0, 1) := by decide +kernel
theorem dX7_isRoad_3 : decode cX7_isRoad 3 = .ok (.getfield 42, 3) := by decide +kernel
theorem dX7_isRoad_6 : decode cX7_isRoad 6 = .ok (.iconst 1, 1) := by decide +kernel
theorem dX7_isRoad_7 : decode cX7_isRoad 7 = .ok (.isub, 1) := by decide +kernel
theorem dX7_isRoad_8 : decode cX7_isRoad 8 = .ok (.invokestatic 38, 3) := by decide +kernel
theorem dX7_isRoad_11 : decode cX7_isRoad 11 = .ok (.ireturn, 1) := by decide +kernel
theorem dX7_isWind_0 : decode cX7_isWind 0 = .ok (.iload_n 0, 1) := by decide +kernel
theorem dX7_isWind_1 : decode cX7_isWind 1 = .ok (.iconst 0, 1) := by decide +kernel
theorem dX7_isWind_2 : decode cX7_isWind 2 = .ok (.iconst 3, 1) := by decide +kernel
theorem dX7_isWind_3 : decode cX7_isWind 3 = .ok (.invokestatic 38, 3) := by decide +kernel
theorem dX7_isWind_6 : decode cX7_isWind 6 = .ok (.ireturn, 1) := by decide +kernel
theorem dX7_isStrength_0 : decode cX7_isStrength 0 = .ok (.iload_n 0, 1) := by decide +kernel
theorem dX7_isStrength_1 : decode cX7_isStrength 1 = .ok (.iconst 1, 1) := by decide +kernel
theorem dX7_isStrength_2 : decode cX7_isStrength 2 = .ok (.bipush 9, 2) := by decide +kernel
theorem dX7_isStrength_4 : decode cX7_isStrength 4 = .ok (.invokestatic 38, 3) := by decide +kernel
theorem dX7_isStrength_7 : decode cX7_isStrength 7 = .ok (.ireturn, 1) := by decide +kernel
theorem dX7_of_0 : decode cX7_of 0 = .ok (.aload_n 0, 1) := by decide +kernel
theorem dX7_of_1 : decode cX7_of 1 = .ok (.getfield 9, 3) := by decide +kernel
theorem dX7_of_4 : decode cX7_of 4 = .ok (.bipush 6, 2) := by decide +kernel
theorem dX7_of_6 : decode cX7_of 6 = .ok (.iload_n 1, 1) := by decide +kernel
theorem dX7_of_7 : decode cX7_of 7 = .ok (.imul, 1) := by decide +kernel
theorem dX7_of_8 : decode cX7_of 8 = .ok (.iload_n 2, 1) := by decide +kernel
theorem dX7_of_9 : decode cX7_of 9 = .ok (.iadd, 1) := by decide +kernel
theorem dX7_of_10 : decode cX7_of 10 = .ok (.iaload, 1) := by decide +kernel
theorem dX7_of_11 : decode cX7_of 11 = .ok (.ireturn, 1) := by decide +kernel
theorem dX7_let_0 : decode cX7_let 0 = .ok (.aload_n 0, 1) := by decide +kernel
theorem dX7_let_1 : decode cX7_let 1 = .ok (.getfield 9, 3) := by decide +kernel
theorem dX7_let_4 : decode cX7_let 4 = .ok (.bipush 6, 2) := by decide +kernel
theorem dX7_let_6 : decode cX7_let 6 = .ok (.iload_n 1, 1) := by decide +kernel
theorem dX7_let_7 : decode cX7_let 7 = .ok (.imul, 1) := by decide +kernel
theorem dX7_let_8 : decode cX7_let 8 = .ok (.iload_n 2, 1) := by decide +kernel
theorem dX7_let_9 : decode cX7_let 9 = .ok (.iadd, 1) := by decide +kernel
theorem dX7_let_10 : decode cX7_let 10 = .ok (.iload_n 3, 1) := by decide +kernel
theorem dX7_let_11 : decode cX7_let 11 = .ok (.iastore, 1) := by decide +kernel
theorem dX7_let_12 : decode cX7_let 12 = .ok (.return_, 1) := by decide +kernel
theorem dX7_cell_0 : decode cX7_cell 0 = .ok (.bipush 20, 2) := by decide +kernel
theorem dX7_cell_2 : decode cX7_cell 2 = .ok (.aload_n 0, 1) := by decide +kernel
theorem dX7_cell_3 : decode cX7_cell 3 = .ok (.iload_n 1, 1) := by decide +kernel
theorem dX7_cell_4 : decode cX7_cell 4 = .ok (.iconst 1, 1) := by decide +kernel
theorem dX7_cell_5 : decode cX7_cell 5 = .ok (.invokevirtual 45, 3) := by decide +kernel
theorem dX7_cell_8 : decode cX7_cell 8 = .ok (.aload_n 0, 1) := by decide +kernel
theorem dX7_cell_9 : decode cX7_cell 9 = .ok (.iload_n 1, 1) := by decide +kernel
theorem dX7_cell_10 : decode cX7_cell 10 = .ok (.iconst 3, 1) := by decide +kernel
theorem dX7_cell_11 : decode cX7_cell 11 = .ok (.invokevirtual 45, 3) := by decide +kernel
theorem dX7_cell_14 : decode cX7_cell 14 = .ok (.iconst 1, 1) := by decide +kernel
theorem dX7_cell_15 : decode cX7_cell 15 = .ok (.if_icmp .ne 7, 3) := by decide +kernel
theorem dX7_cell_18 : decode cX7_cell 18 = .ok (.iload_n 2, 1) := by decide +kernel
theorem dX7_cell_19 : decode cX7_cell 19 = .ok (.goto 4, 3) := by decide +kernel
theorem dX7_cell_22 : decode cX7_cell 22 = .ok (.iconst 0, 1) := by decide +kernel
theorem dX7_cell_23 : decode cX7_cell 23 = .ok (.iadd, 1) := by decide +kernel
theorem dX7_cell_24 : decode cX7_cell 24 = .ok (.imul, 1) := by decide +kernel
theorem dX7_cell_25 : decode cX7_cell 25 = .ok (.aload_n 0, 1) := by decide +kernel
theorem dX7_cell_26 : decode cX7_cell 26 = .ok (.iload_n 1, 1) := by decide +kernel
theorem dX7_cell_27 : decode cX7_cell 27 = .ok (.iconst 0, 1) := by decide +kernel
theorem dX7_cell_28 : decode cX7_cell 28 = .ok (.invokevirtual 45, 3) := by decide +kernel
theorem dX7_cell_31 : decode cX7_cell 31 = .ok (.iadd, 1) := by decide +kernel
theorem dX7_cell_32 : decode cX7_cell 32 = .ok (.aload_n 0, 1) := by decide +kernel
theorem dX7_cell_33 : decode cX7_cell 33 = .ok (.iload_n 1, 1) := by decide +kernel
theorem dX7_cell_34 : decode cX7_cell 34 = .ok (.iconst 3, 1) := by decide +kernel
theorem dX7_cell_35 : decode cX7_cell 35 = .ok (.invokevirtual 45, 3) := by decide +kernel
theorem dX7_cell_38 : decode cX7_cell 38 = .ok (.iconst 1, 1) := by decide +kernel
theorem dX7_cell_39 : decode cX7_cell 39 = .ok (.if_icmp .ne 7, 3) := by decide +kernel
theorem dX7_cell_42 : decode cX7_cell 42 = .ok (.iconst 0, 1) := by decide +kernel
theorem dX7_cell_43 : decode cX7_cell 43 = .ok (.goto 4, 3) := by decide +kernel
theorem dX7_cell_46 : decode cX7_cell 46 = .ok (.iload_n 2, 1) := by decide +kernel
theorem dX7_cell_47 : decode cX7_cell 47 = .ok (.iadd, 1) := by decide +kernel
theorem dX7_cell_48 : decode cX7_cell 48 = .ok (.ireturn, 1) := by decide +kernel
theorem dX7_cellOf_0 : decode cX7_cellOf 0 = .ok (.aload_n 0, 1) := by decide +kernel
theorem dX7_cellOf_1 : decode cX7_cellOf 1 = .ok (.getfield 13, 3) := by decide +kernel
theorem dX7_cellOf_4 : decode cX7_cellOf 4 = .ok (.iload_n 1, 1) := by decide +kernel
theorem dX7_cellOf_5 : decode cX7_cellOf 5 = .ok (.iaload, 1) := by decide +kernel
theorem dX7_cellOf_6 : decode cX7_cellOf 6 = .ok (.iconst 1, 1) := by decide +kernel
theorem dX7_cellOf_7 : decode cX7_cellOf 7 = .ok (.if_icmp .ne 17, 3) := by decide +kernel
theorem dX7_cellOf_10 : decode cX7_cellOf 10 = .ok (.bipush 20, 2) := by decide +kernel
theorem dX7_cellOf_12 : decode cX7_cellOf 12 = .ok (.iload_n 2, 1) := by decide +kernel
theorem dX7_cellOf_13 : decode cX7_cellOf 13 = .ok (.imul, 1) := by decide +kernel
theorem dX7_cellOf_14 : decode cX7_cellOf 14 = .ok (.aload_n 0, 1) := by decide +kernel
theorem dX7_cellOf_15 : decode cX7_cellOf 15 = .ok (.getfield 16, 3) := by decide +kernel
theorem dX7_cellOf_18 : decode cX7_cellOf 18 = .ok (.iload_n 1, 1) := by decide +kernel
theorem dX7_cellOf_19 : decode cX7_cellOf 19 = .ok (.iaload, 1) := by decide +kernel
theorem dX7_cellOf_20 : decode cX7_cellOf 20 = .ok (.iadd, 1) := by decide +kernel
theorem dX7_cellOf_21 : decode cX7_cellOf 21 = .ok (.goto 14, 3) := by decide +kernel
theorem dX7_cellOf_24 : decode cX7_cellOf 24 = .ok (.bipush 20, 2) := by decide +kernel
theorem dX7_cellOf_26 : decode cX7_cellOf 26 = .ok (.aload_n 0, 1) := by decide +kernel
theorem dX7_cellOf_27 : decode cX7_cellOf 27 = .ok (.getfield 16, 3) := by decide +kernel
theorem dX7_cellOf_30 : decode cX7_cellOf 30 = .ok (.iload_n 1, 1) := by decide +kernel
theorem dX7_cellOf_31 : decode cX7_cellOf 31 = .ok (.iaload, 1) := by decide +kernel
theorem dX7_cellOf_32 : decode cX7_cellOf 32 = .ok (.imul, 1) := by decide +kernel
theorem dX7_cellOf_33 : decode cX7_cellOf 33 = .ok (.iload_n 2, 1) := by decide +kernel
theorem dX7_cellOf_34 : decode cX7_cellOf 34 = .ok (.iadd, 1) := by decide +kernel
theorem dX7_cellOf_35 : decode cX7_cellOf 35 = .ok (.ireturn, 1) := by decide +kernel
theorem dX7_stand_0 : decode cX7_stand 0 = .ok (.iconst 0, 1) := by decide +kernel
theorem dX7_stand_1 : decode cX7_stand 1 = .ok (.istore_n 3, 1) := by decide +kernel
theorem dX7_stand_2 : decode cX7_stand 2 = .ok (.iload_n 3, 1) := by decide +kernel
theorem dX7_stand_3 : decode cX7_stand 3 = .ok (.sipush 400, 3) := by decide +kernel
theorem dX7_stand_6 : decode cX7_stand 6 = .ok (.if_icmp .ge 16, 3) := by decide +kernel
theorem dX7_stand_9 : decode cX7_stand 9 = .ok (.aload_n 0, 1) := by decide +kernel
theorem dX7_stand_10 : decode cX7_stand 10 = .ok (.getfield 29, 3) := by decide +kernel
theorem dX7_stand_13 : decode cX7_stand 13 = .ok (.iload_n 3, 1) := by decide +kernel
theorem dX7_stand_14 : decode cX7_stand 14 = .ok (.iconst (-1), 1) := by decide +kernel
theorem dX7_stand_15 : decode cX7_stand 15 = .ok (.iastore, 1) := by decide +kernel
theorem dX7_stand_16 : decode cX7_stand 16 = .ok (.iinc 3 1, 3) := by decide +kernel
theorem dX7_stand_19 : decode cX7_stand 19 = .ok (.goto (-17), 3) := by decide +kernel
theorem dX7_stand_22 : decode cX7_stand 22 = .ok (.iconst 0, 1) := by decide +kernel
theorem dX7_stand_23 : decode cX7_stand 23 = .ok (.istore_n 3, 1) := by decide +kernel
theorem dX7_stand_24 : decode cX7_stand 24 = .ok (.iload_n 3, 1) := by decide +kernel
theorem dX7_stand_25 : decode cX7_stand 25 = .ok (.iload_n 1, 1) := by decide +kernel
theorem dX7_stand_26 : decode cX7_stand 26 = .ok (.if_icmp .ge 83, 3) := by decide +kernel
theorem dX7_stand_29 : decode cX7_stand 29 = .ok (.iconst 0, 1) := by decide +kernel
theorem dX7_stand_30 : decode cX7_stand 30 = .ok (.istore 4, 2) := by decide +kernel
theorem dX7_stand_32 : decode cX7_stand 32 = .ok (.iload 4, 2) := by decide +kernel
theorem dX7_stand_34 : decode cX7_stand 34 = .ok (.aload_n 0, 1) := by decide +kernel
theorem dX7_stand_35 : decode cX7_stand 35 = .ok (.iload_n 3, 1) := by decide +kernel
theorem dX7_stand_36 : decode cX7_stand 36 = .ok (.iconst 2, 1) := by decide +kernel
theorem dX7_stand_37 : decode cX7_stand 37 = .ok (.invokevirtual 45, 3) := by decide +kernel
theorem dX7_stand_40 : decode cX7_stand 40 = .ok (.if_icmp .ge 63, 3) := by decide +kernel
theorem dX7_stand_43 : decode cX7_stand 43 = .ok (.iload_n 3, 1) := by decide +kernel
theorem dX7_stand_44 : decode cX7_stand 44 = .ok (.iload_n 2, 1) := by decide +kernel
theorem dX7_stand_45 : decode cX7_stand 45 = .ok (.if_icmp .eq 58, 3) := by decide +kernel
theorem dX7_stand_48 : decode cX7_stand 48 = .ok (.aload_n 0, 1) := by decide +kernel
theorem dX7_stand_49 : decode cX7_stand 49 = .ok (.iload_n 3, 1) := by decide +kernel
theorem dX7_stand_50 : decode cX7_stand 50 = .ok (.iload 4, 2) := by decide +kernel
theorem dX7_stand_52 : decode cX7_stand 52 = .ok (.invokevirtual 49, 3) := by decide +kernel
theorem dX7_stand_55 : decode cX7_stand 55 = .ok (.istore 5, 2) := by decide +kernel
theorem dX7_stand_57 : decode cX7_stand 57 = .ok (.aload_n 0, 1) := by decide +kernel
theorem dX7_stand_58 : decode cX7_stand 58 = .ok (.getfield 29, 3) := by decide +kernel
theorem dX7_stand_61 : decode cX7_stand 61 = .ok (.iload 5, 2) := by decide +kernel
theorem dX7_stand_63 : decode cX7_stand 63 = .ok (.iaload, 1) := by decide +kernel
theorem dX7_stand_64 : decode cX7_stand 64 = .ok (.iconst (-1), 1) := by decide +kernel
theorem dX7_stand_65 : decode cX7_stand 65 = .ok (.if_icmp .eq 24, 3) := by decide +kernel
theorem dX7_stand_68 : decode cX7_stand 68 = .ok (.aload_n 0, 1) := by decide +kernel
theorem dX7_stand_69 : decode cX7_stand 69 = .ok (.iload_n 3, 1) := by decide +kernel
theorem dX7_stand_70 : decode cX7_stand 70 = .ok (.iconst 4, 1) := by decide +kernel
theorem dX7_stand_71 : decode cX7_stand 71 = .ok (.invokevirtual 45, 3) := by decide +kernel
theorem dX7_stand_74 : decode cX7_stand 74 = .ok (.aload_n 0, 1) := by decide +kernel
theorem dX7_stand_75 : decode cX7_stand 75 = .ok (.aload_n 0, 1) := by decide +kernel
theorem dX7_stand_76 : decode cX7_stand 76 = .ok (.getfield 29, 3) := by decide +kernel
theorem dX7_stand_79 : decode cX7_stand 79 = .ok (.iload 5, 2) := by decide +kernel
theorem dX7_stand_81 : decode cX7_stand 81 = .ok (.iaload, 1) := by decide +kernel
theorem dX7_stand_82 : decode cX7_stand 82 = .ok (.iconst 4, 1) := by decide +kernel
theorem dX7_stand_83 : decode cX7_stand 83 = .ok (.invokevirtual 45, 3) := by decide +kernel
theorem dX7_stand_86 : decode cX7_stand 86 = .ok (.if_icmp .le 11, 3) := by decide +kernel
theorem dX7_stand_89 : decode cX7_stand 89 = .ok (.aload_n 0, 1) := by decide +kernel
theorem dX7_stand_90 : decode cX7_stand 90 = .ok (.getfield 29, 3) := by decide +kernel
theorem dX7_stand_93 : decode cX7_stand 93 = .ok (.iload 5, 2) := by decide +kernel
theorem dX7_stand_95 : decode cX7_stand 95 = .ok (.iload_n 3, 1) := by decide +kernel
theorem dX7_stand_96 : decode cX7_stand 96 = .ok (.iastore, 1) := by decide +kernel
theorem dX7_stand_97 : decode cX7_stand 97 = .ok (.iinc 4 1, 3) := by decide +kernel
theorem dX7_stand_100 : decode cX7_stand 100 = .ok (.goto (-68), 3) := by decide +kernel
theorem dX7_stand_103 : decode cX7_stand 103 = .ok (.iinc 3 1, 3) := by decide +kernel
theorem dX7_stand_106 : decode cX7_stand 106 = .ok (.goto (-82), 3) := by decide +kernel
theorem dX7_stand_109 : decode cX7_stand 109 = .ok (.return_, 1) := by decide +kernel
theorem dX7_line_0 : decode cX7_line 0 = .ok (.aload_n 0, 1) := by decide +kernel
theorem dX7_line_1 : decode cX7_line 1 = .ok (.getfield 52, 3) := by decide +kernel
theorem dX7_line_4 : decode cX7_line 4 = .ok (.istore 4, 2) := by decide +kernel
theorem dX7_line_6 : decode cX7_line 6 = .ok (.iconst 0, 1) := by decide +kernel
theorem dX7_line_7 : decode cX7_line 7 = .ok (.istore 5, 2) := by decide +kernel
theorem dX7_line_9 : decode cX7_line 9 = .ok (.iconst 0, 1) := by decide +kernel
theorem dX7_line_10 : decode cX7_line 10 = .ok (.istore 6, 2) := by decide +kernel
theorem dX7_line_12 : decode cX7_line 12 = .ok (.iconst 0, 1) := by decide +kernel
theorem dX7_line_13 : decode cX7_line 13 = .ok (.istore 7, 2) := by decide +kernel
theorem dX7_line_15 : decode cX7_line 15 = .ok (.iconst 0, 1) := by decide +kernel
theorem dX7_line_16 : decode cX7_line 16 = .ok (.istore 8, 2) := by decide +kernel
theorem dX7_line_18 : decode cX7_line 18 = .ok (.iload 8, 2) := by decide +kernel
theorem dX7_line_20 : decode cX7_line 20 = .ok (.bipush 20, 2) := by decide +kernel
theorem dX7_line_22 : decode cX7_line 22 = .ok (.if_icmp .ge 210, 3) := by decide +kernel
theorem dX7_line_25 : decode cX7_line 25 = .ok (.iload_n 1, 1) := by decide +kernel
theorem dX7_line_26 : decode cX7_line 26 = .ok (.iload_n 2, 1) := by decide +kernel
theorem dX7_line_27 : decode cX7_line 27 = .ok (.iload 8, 2) := by decide +kernel
theorem dX7_line_29 : decode cX7_line 29 = .ok (.imul, 1) := by decide +kernel
theorem dX7_line_30 : decode cX7_line 30 = .ok (.iadd, 1) := by decide +kernel
theorem dX7_line_31 : decode cX7_line 31 = .ok (.istore 9, 2) := by decide +kernel
theorem dX7_line_33 : decode cX7_line 33 = .ok (.aload_n 0, 1) := by decide +kernel
theorem dX7_line_34 : decode cX7_line 34 = .ok (.getfield 29, 3) := by decide +kernel
theorem dX7_line_37 : decode cX7_line 37 = .ok (.iload 9, 2) := by decide +kernel
theorem dX7_line_39 : decode cX7_line 39 = .ok (.iaload, 1) := by decide +kernel
theorem dX7_line_40 : decode cX7_line 40 = .ok (.istore 10, 2) := by decide +kernel
theorem dX7_line_42 : decode cX7_line 42 = .ok (.iload 10, 2) := by decide +kernel
theorem dX7_line_44 : decode cX7_line 44 = .ok (.iconst (-1), 1) := by decide +kernel
theorem dX7_line_45 : decode cX7_line 45 = .ok (.if_icmp .eq 52, 3) := by decide +kernel
theorem dX7_line_48 : decode cX7_line 48 = .ok (.iconst 2, 1) := by decide +kernel
theorem dX7_line_49 : decode cX7_line 49 = .ok (.aload_n 0, 1) := by decide +kernel
theorem dX7_line_50 : decode cX7_line 50 = .ok (.iload 10, 2) := by decide +kernel
theorem dX7_line_52 : decode cX7_line 52 = .ok (.iconst 4, 1) := by decide +kernel
theorem dX7_line_53 : decode cX7_line 53 = .ok (.invokevirtual 45, 3) := by decide +kernel
theorem dX7_line_56 : decode cX7_line 56 = .ok (.imul, 1) := by decide +kernel
theorem dX7_line_57 : decode cX7_line 57 = .ok (.iload 5, 2) := by decide +kernel
theorem dX7_line_59 : decode cX7_line 59 = .ok (.if_icmp .lt 38, 3) := by decide +kernel
theorem dX7_line_62 : decode cX7_line 62 = .ok (.iconst 2, 1) := by decide +kernel
theorem dX7_line_63 : decode cX7_line 63 = .ok (.aload_n 0, 1) := by decide +kernel
theorem dX7_line_64 : decode cX7_line 64 = .ok (.iload 10, 2) := by decide +kernel
theorem dX7_line_66 : decode cX7_line 66 = .ok (.iconst 4, 1) := by decide +kernel
theorem dX7_line_67 : decode cX7_line 67 = .ok (.invokevirtual 45, 3) := by decide +kernel
theorem dX7_line_70 : decode cX7_line 70 = .ok (.imul, 1) := by decide +kernel
theorem dX7_line_71 : decode cX7_line 71 = .ok (.istore 5, 2) := by decide +kernel
theorem dX7_line_73 : decode cX7_line 73 = .ok (.aload_n 0, 1) := by decide +kernel
theorem dX7_line_74 : decode cX7_line 74 = .ok (.iload 10, 2) := by decide +kernel
theorem dX7_line_76 : decode cX7_line 76 = .ok (.iconst 5, 1) := by decide +kernel
theorem dX7_line_77 : decode cX7_line 77 = .ok (.invokevirtual 45, 3) := by decide +kernel
theorem dX7_line_80 : decode cX7_line 80 = .ok (.istore 6, 2) := by decide +kernel
theorem dX7_line_82 : decode cX7_line 82 = .ok (.bipush 10, 2) := by decide +kernel
theorem dX7_line_84 : decode cX7_line 84 = .ok (.aload_n 0, 1) := by decide +kernel
theorem dX7_line_85 : decode cX7_line 85 = .ok (.iload 10, 2) := by decide +kernel
theorem dX7_line_87 : decode cX7_line 87 = .ok (.iconst 4, 1) := by decide +kernel
theorem dX7_line_88 : decode cX7_line 88 = .ok (.invokevirtual 45, 3) := by decide +kernel
theorem dX7_line_91 : decode cX7_line 91 = .ok (.imul, 1) := by decide +kernel
theorem dX7_line_92 : decode cX7_line 92 = .ok (.istore 7, 2) := by decide +kernel
theorem dX7_line_94 : decode cX7_line 94 = .ok (.goto 132, 3) := by decide +kernel
theorem dX7_line_97 : decode cX7_line 97 = .ok (.iload 5, 2) := by decide +kernel
theorem dX7_line_99 : decode cX7_line 99 = .ok (.ifCond .le 12, 3) := by decide +kernel
theorem dX7_line_102 : decode cX7_line 102 = .ok (.iload 6, 2) := by decide +kernel
theorem dX7_line_104 : decode cX7_line 104 = .ok (.ifCond .ne 7, 3) := by decide +kernel
theorem dX7_line_107 : decode cX7_line 107 = .ok (.iconst 1, 1) := by decide +kernel
theorem dX7_line_108 : decode cX7_line 108 = .ok (.goto 4, 3) := by decide +kernel
theorem dX7_line_111 : decode cX7_line 111 = .ok (.iconst 0, 1) := by decide +kernel
theorem dX7_line_112 : decode cX7_line 112 = .ok (.istore 11, 2) := by decide +kernel
theorem dX7_line_114 : decode cX7_line 114 = .ok (.iload 11, 2) := by decide +kernel
theorem dX7_line_116 : decode cX7_line 116 = .ok (.ifCond .eq 25, 3) := by decide +kernel
theorem dX7_line_119 : decode cX7_line 119 = .ok (.iload 4, 2) := by decide +kernel
theorem dX7_line_121 : decode cX7_line 121 = .ok (.iconst 4, 1) := by decide +kernel
theorem dX7_line_122 : decode cX7_line 122 = .ok (.invokestatic 55, 3) := by decide +kernel
theorem dX7_line_125 : decode cX7_line 125 = .ok (.iload 7, 2) := by decide +kernel
theorem dX7_line_127 : decode cX7_line 127 = .ok (.aload_n 0, 1) := by decide +kernel
theorem dX7_line_128 : decode cX7_line 128 = .ok (.getfield 23, 3) := by decide +kernel
theorem dX7_line_131 : decode cX7_line 131 = .ok (.iload 9, 2) := by decide +kernel
theorem dX7_line_133 : decode cX7_line 133 = .ok (.iaload, 1) := by decide +kernel
theorem dX7_line_134 : decode cX7_line 134 = .ok (.isub, 1) := by decide +kernel
theorem dX7_line_135 : decode cX7_line 135 = .ok (.invokestatic 55, 3) := by decide +kernel
theorem dX7_line_138 : decode cX7_line 138 = .ok (.goto 24, 3) := by decide +kernel
theorem dX7_line_141 : decode cX7_line 141 = .ok (.aload_n 0, 1) := by decide +kernel
theorem dX7_line_142 : decode cX7_line 142 = .ok (.getfield 23, 3) := by decide +kernel
theorem dX7_line_145 : decode cX7_line 145 = .ok (.iload 9, 2) := by decide +kernel
theorem dX7_line_147 : decode cX7_line 147 = .ok (.iaload, 1) := by decide +kernel
theorem dX7_line_148 : decode cX7_line 148 = .ok (.iload_n 3, 1) := by decide +kernel
theorem dX7_line_149 : decode cX7_line 149 = .ok (.invokestatic 55, 3) := by decide +kernel
theorem dX7_line_152 : decode cX7_line 152 = .ok (.bipush 10, 2) := by decide +kernel
theorem dX7_line_154 : decode cX7_line 154 = .ok (.iload_n 3, 1) := by decide +kernel
theorem dX7_line_155 : decode cX7_line 155 = .ok (.imul, 1) := by decide +kernel
theorem dX7_line_156 : decode cX7_line 156 = .ok (.iload 4, 2) := by decide +kernel
theorem dX7_line_158 : decode cX7_line 158 = .ok (.isub, 1) := by decide +kernel
theorem dX7_line_159 : decode cX7_line 159 = .ok (.invokestatic 55, 3) := by decide +kernel
theorem dX7_line_162 : decode cX7_line 162 = .ok (.istore 12, 2) := by decide +kernel
theorem dX7_line_164 : decode cX7_line 164 = .ok (.iload 11, 2) := by decide +kernel
theorem dX7_line_166 : decode cX7_line 166 = .ok (.ifCond .eq 12, 3) := by decide +kernel
theorem dX7_line_169 : decode cX7_line 169 = .ok (.iconst 0, 1) := by decide +kernel
theorem dX7_line_170 : decode cX7_line 170 = .ok (.iload 12, 2) := by decide +kernel
theorem dX7_line_172 : decode cX7_line 172 = .ok (.invokestatic 60, 3) := by decide +kernel
theorem dX7_line_175 : decode cX7_line 175 = .ok (.goto 10, 3) := by decide +kernel
theorem dX7_line_178 : decode cX7_line 178 = .ok (.iconst 0, 1) := by decide +kernel
theorem dX7_line_179 : decode cX7_line 179 = .ok (.iload 12, 2) := by decide +kernel
theorem dX7_line_181 : decode cX7_line 181 = .ok (.invokestatic 60, 3) := by decide +kernel
theorem dX7_line_184 : decode cX7_line 184 = .ok (.ineg, 1) := by decide +kernel
theorem dX7_line_185 : decode cX7_line 185 = .ok (.istore 13, 2) := by decide +kernel
theorem dX7_line_187 : decode cX7_line 187 = .ok (.aload_n 0, 1) := by decide +kernel
theorem dX7_line_188 : decode cX7_line 188 = .ok (.getfield 23, 3) := by decide +kernel
theorem dX7_line_191 : decode cX7_line 191 = .ok (.iload 9, 2) := by decide +kernel
theorem dX7_line_193 : decode cX7_line 193 = .ok (.dup2, 1) := by decide +kernel
theorem dX7_line_194 : decode cX7_line 194 = .ok (.iaload, 1) := by decide +kernel
theorem dX7_line_195 : decode cX7_line 195 = .ok (.iload 13, 2) := by decide +kernel
theorem dX7_line_197 : decode cX7_line 197 = .ok (.iadd, 1) := by decide +kernel
theorem dX7_line_198 : decode cX7_line 198 = .ok (.iastore, 1) := by decide +kernel
theorem dX7_line_199 : decode cX7_line 199 = .ok (.iload 4, 2) := by decide +kernel
theorem dX7_line_201 : decode cX7_line 201 = .ok (.iload 13, 2) := by decide +kernel
theorem dX7_line_203 : decode cX7_line 203 = .ok (.isub, 1) := by decide +kernel
theorem dX7_line_204 : decode cX7_line 204 = .ok (.istore 4, 2) := by decide +kernel
theorem dX7_line_206 : decode cX7_line 206 = .ok (.iconst 0, 1) := by decide +kernel
theorem dX7_line_207 : decode cX7_line 207 = .ok (.iload 5, 2) := by decide +kernel
theorem dX7_line_209 : decode cX7_line 209 = .ok (.iconst 1, 1) := by decide +kernel
theorem dX7_line_210 : decode cX7_line 210 = .ok (.isub, 1) := by decide +kernel
theorem dX7_line_211 : decode cX7_line 211 = .ok (.invokestatic 60, 3) := by decide +kernel
theorem dX7_line_214 : decode cX7_line 214 = .ok (.istore 5, 2) := by decide +kernel
theorem dX7_line_216 : decode cX7_line 216 = .ok (.iconst 0, 1) := by decide +kernel
theorem dX7_line_217 : decode cX7_line 217 = .ok (.iload 6, 2) := by decide +kernel
theorem dX7_line_219 : decode cX7_line 219 = .ok (.iconst 1, 1) := by decide +kernel
theorem dX7_line_220 : decode cX7_line 220 = .ok (.isub, 1) := by decide +kernel
theorem dX7_line_221 : decode cX7_line 221 = .ok (.invokestatic 60, 3) := by decide +kernel
theorem dX7_line_224 : decode cX7_line 224 = .ok (.istore 6, 2) := by decide +kernel
theorem dX7_line_226 : decode cX7_line 226 = .ok (.iinc 8 1, 3) := by decide +kernel
theorem dX7_line_229 : decode cX7_line 229 = .ok (.goto (-211), 3) := by decide +kernel
theorem dX7_line_232 : decode cX7_line 232 = .ok (.iload 4, 2) := by decide +kernel
theorem dX7_line_234 : decode cX7_line 234 = .ok (.ireturn, 1) := by decide +kernel
theorem dX7_hour_0 : decode cX7_hour 0 = .ok (.iconst 0, 1) := by decide +kernel
theorem dX7_hour_1 : decode cX7_hour 1 = .ok (.istore_n 3, 1) := by decide +kernel
theorem dX7_hour_2 : decode cX7_hour 2 = .ok (.iconst 0, 1) := by decide +kernel
theorem dX7_hour_3 : decode cX7_hour 3 = .ok (.istore 4, 2) := by decide +kernel
theorem dX7_hour_5 : decode cX7_hour 5 = .ok (.iload 4, 2) := by decide +kernel
theorem dX7_hour_7 : decode cX7_hour 7 = .ok (.bipush 20, 2) := by decide +kernel
theorem dX7_hour_9 : decode cX7_hour 9 = .ok (.if_icmp .ge 77, 3) := by decide +kernel
theorem dX7_hour_12 : decode cX7_hour 12 = .ok (.iload_n 1, 1) := by decide +kernel
theorem dX7_hour_13 : decode cX7_hour 13 = .ok (.iconst 2, 1) := by decide +kernel
theorem dX7_hour_14 : decode cX7_hour 14 = .ok (.irem, 1) := by decide +kernel
theorem dX7_hour_15 : decode cX7_hour 15 = .ok (.ifCond .ne 11, 3) := by decide +kernel
theorem dX7_hour_18 : decode cX7_hour 18 = .ok (.bipush 20, 2) := by decide +kernel
theorem dX7_hour_20 : decode cX7_hour 20 = .ok (.iload 4, 2) := by decide +kernel
theorem dX7_hour_22 : decode cX7_hour 22 = .ok (.imul, 1) := by decide +kernel
theorem dX7_hour_23 : decode cX7_hour 23 = .ok (.goto 5, 3) := by decide +kernel
theorem dX7_hour_26 : decode cX7_hour 26 = .ok (.iload 4, 2) := by decide +kernel
theorem dX7_hour_28 : decode cX7_hour 28 = .ok (.istore 5, 2) := by decide +kernel
theorem dX7_hour_30 : decode cX7_hour 30 = .ok (.iload_n 1, 1) := by decide +kernel
theorem dX7_hour_31 : decode cX7_hour 31 = .ok (.iconst 2, 1) := by decide +kernel
theorem dX7_hour_32 : decode cX7_hour 32 = .ok (.irem, 1) := by decide +kernel
theorem dX7_hour_33 : decode cX7_hour 33 = .ok (.ifCond .ne 7, 3) := by decide +kernel
theorem dX7_hour_36 : decode cX7_hour 36 = .ok (.iconst 1, 1) := by decide +kernel
theorem dX7_hour_37 : decode cX7_hour 37 = .ok (.goto 5, 3) := by decide +kernel
theorem dX7_hour_40 : decode cX7_hour 40 = .ok (.bipush 20, 2) := by decide +kernel
theorem dX7_hour_42 : decode cX7_hour 42 = .ok (.istore 6, 2) := by decide +kernel
theorem dX7_hour_44 : decode cX7_hour 44 = .ok (.iload_n 3, 1) := by decide +kernel
theorem dX7_hour_45 : decode cX7_hour 45 = .ok (.iload_n 1, 1) := by decide +kernel
theorem dX7_hour_46 : decode cX7_hour 46 = .ok (.iconst 2, 1) := by decide +kernel
theorem dX7_hour_47 : decode cX7_hour 47 = .ok (.if_icmp .ge 15, 3) := by decide +kernel
theorem dX7_hour_50 : decode cX7_hour 50 = .ok (.aload_n 0, 1) := by decide +kernel
theorem dX7_hour_51 : decode cX7_hour 51 = .ok (.iload 5, 2) := by decide +kernel
theorem dX7_hour_53 : decode cX7_hour 53 = .ok (.iload 6, 2) := by decide +kernel
theorem dX7_hour_55 : decode cX7_hour 55 = .ok (.iload_n 2, 1) := by decide +kernel
theorem dX7_hour_56 : decode cX7_hour 56 = .ok (.invokevirtual 63, 3) := by decide +kernel
theorem dX7_hour_59 : decode cX7_hour 59 = .ok (.goto 19, 3) := by decide +kernel
theorem dX7_hour_62 : decode cX7_hour 62 = .ok (.aload_n 0, 1) := by decide +kernel
theorem dX7_hour_63 : decode cX7_hour 63 = .ok (.iload 5, 2) := by decide +kernel
theorem dX7_hour_65 : decode cX7_hour 65 = .ok (.iload 6, 2) := by decide +kernel
theorem dX7_hour_67 : decode cX7_hour 67 = .ok (.bipush 19, 2) := by decide +kernel
theorem dX7_hour_69 : decode cX7_hour 69 = .ok (.imul, 1) := by decide +kernel
theorem dX7_hour_70 : decode cX7_hour 70 = .ok (.iadd, 1) := by decide +kernel
theorem dX7_hour_71 : decode cX7_hour 71 = .ok (.iload 6, 2) := by decide +kernel
theorem dX7_hour_73 : decode cX7_hour 73 = .ok (.ineg, 1) := by decide +kernel
theorem dX7_hour_74 : decode cX7_hour 74 = .ok (.iload_n 2, 1) := by decide +kernel
theorem dX7_hour_75 : decode cX7_hour 75 = .ok (.invokevirtual 63, 3) := by decide +kernel
theorem dX7_hour_78 : decode cX7_hour 78 = .ok (.iadd, 1) := by decide +kernel
theorem dX7_hour_79 : decode cX7_hour 79 = .ok (.istore_n 3, 1) := by decide +kernel
theorem dX7_hour_80 : decode cX7_hour 80 = .ok (.iinc 4 1, 3) := by decide +kernel
theorem dX7_hour_83 : decode cX7_hour 83 = .ok (.goto (-78), 3) := by decide +kernel
theorem dX7_hour_86 : decode cX7_hour 86 = .ok (.iload_n 3, 1) := by decide +kernel
theorem dX7_hour_87 : decode cX7_hour 87 = .ok (.ireturn, 1) := by decide +kernel
theorem dX7_blown_0 : decode cX7_blown 0 = .ok (.iconst 0, 1) := by decide +kernel
theorem dX7_blown_1 : decode cX7_blown 1 = .ok (.istore 4, 2) := by decide +kernel
theorem dX7_blown_3 : decode cX7_blown 3 = .ok (.iconst 0, 1) := by decide +kernel
theorem dX7_blown_4 : decode cX7_blown 4 = .ok (.istore 5, 2) := by decide +kernel
theorem dX7_blown_6 : decode cX7_blown 6 = .ok (.iload 5, 2) := by decide +kernel
theorem dX7_blown_8 : decode cX7_blown 8 = .ok (.iload_n 3, 1) := by decide +kernel
theorem dX7_blown_9 : decode cX7_blown 9 = .ok (.if_icmp .ge 20, 3) := by decide +kernel
theorem dX7_blown_12 : decode cX7_blown 12 = .ok (.iload 4, 2) := by decide +kernel
theorem dX7_blown_14 : decode cX7_blown 14 = .ok (.aload_n 0, 1) := by decide +kernel
theorem dX7_blown_15 : decode cX7_blown 15 = .ok (.iload_n 1, 1) := by decide +kernel
theorem dX7_blown_16 : decode cX7_blown 16 = .ok (.iload_n 2, 1) := by decide +kernel
theorem dX7_blown_17 : decode cX7_blown 17 = .ok (.invokevirtual 67, 3) := by decide +kernel
theorem dX7_blown_20 : decode cX7_blown 20 = .ok (.iadd, 1) := by decide +kernel
theorem dX7_blown_21 : decode cX7_blown 21 = .ok (.istore 4, 2) := by decide +kernel
theorem dX7_blown_23 : decode cX7_blown 23 = .ok (.iinc 5 1, 3) := by decide +kernel
theorem dX7_blown_26 : decode cX7_blown 26 = .ok (.goto (-20), 3) := by decide +kernel
theorem dX7_blown_29 : decode cX7_blown 29 = .ok (.iload 4, 2) := by decide +kernel
theorem dX7_blown_31 : decode cX7_blown 31 = .ok (.ireturn, 1) := by decide +kernel
theorem dX7_keep_0 : decode cX7_keep 0 = .ok (.aload_n 0, 1) := by decide +kernel
theorem dX7_keep_1 : decode cX7_keep 1 = .ok (.getfield 23, 3) := by decide +kernel
theorem dX7_keep_4 : decode cX7_keep 4 = .ok (.iconst 0, 1) := by decide +kernel
theorem dX7_keep_5 : decode cX7_keep 5 = .ok (.aload_n 0, 1) := by decide +kernel
theorem dX7_keep_6 : decode cX7_keep 6 = .ok (.getfield 26, 3) := by decide +kernel
theorem dX7_keep_9 : decode cX7_keep 9 = .ok (.iconst 0, 1) := by decide +kernel
theorem dX7_keep_10 : decode cX7_keep 10 = .ok (.sipush 400, 3) := by decide +kernel
theorem dX7_keep_13 : decode cX7_keep 13 = .ok (.invokestatic 70, 3) := by decide +kernel
theorem dX7_keep_16 : decode cX7_keep 16 = .ok (.return_, 1) := by decide +kernel
theorem dX7_bringBack_0 : decode cX7_bringBack 0 = .ok (.aload_n 0, 1) := by decide +kernel
theorem dX7_bringBack_1 : decode cX7_bringBack 1 = .ok (.getfield 26, 3) := by decide +kernel
theorem dX7_bringBack_4 : decode cX7_bringBack 4 = .ok (.iconst 0, 1) := by decide +kernel
theorem dX7_bringBack_5 : decode cX7_bringBack 5 = .ok (.aload_n 0, 1) := by decide +kernel
theorem dX7_bringBack_6 : decode cX7_bringBack 6 = .ok (.getfield 23, 3) := by decide +kernel
theorem dX7_bringBack_9 : decode cX7_bringBack 9 = .ok (.iconst 0, 1) := by decide +kernel
theorem dX7_bringBack_10 : decode cX7_bringBack 10 = .ok (.sipush 400, 3) := by decide +kernel
theorem dX7_bringBack_13 : decode cX7_bringBack 13 = .ok (.invokestatic 70, 3) := by decide +kernel
theorem dX7_bringBack_16 : decode cX7_bringBack 16 = .ok (.return_, 1) := by decide +kernel
theorem dX7_blocked_0 : decode cX7_blocked 0 = .ok (.iconst 0, 1) := by decide +kernel
theorem dX7_blocked_1 : decode cX7_blocked 1 = .ok (.istore_n 2, 1) := by decide +kernel
theorem dX7_blocked_2 : decode cX7_blocked 2 = .ok (.iconst 0, 1) := by decide +kernel
theorem dX7_blocked_3 : decode cX7_blocked 3 = .ok (.istore_n 3, 1) := by decide +kernel
theorem dX7_blocked_4 : decode cX7_blocked 4 = .ok (.iload_n 3, 1) := by decide +kernel
theorem dX7_blocked_5 : decode cX7_blocked 5 = .ok (.bipush 20, 2) := by decide +kernel
theorem dX7_blocked_7 : decode cX7_blocked 7 = .ok (.if_icmp .ge 35, 3) := by decide +kernel
theorem dX7_blocked_10 : decode cX7_blocked 10 = .ok (.iload_n 2, 1) := by decide +kernel
theorem dX7_blocked_11 : decode cX7_blocked 11 = .ok (.aload_n 0, 1) := by decide +kernel
theorem dX7_blocked_12 : decode cX7_blocked 12 = .ok (.getfield 23, 3) := by decide +kernel
theorem dX7_blocked_15 : decode cX7_blocked 15 = .ok (.aload_n 0, 1) := by decide +kernel
theorem dX7_blocked_16 : decode cX7_blocked 16 = .ok (.iload_n 1, 1) := by decide +kernel
theorem dX7_blocked_17 : decode cX7_blocked 17 = .ok (.iload_n 3, 1) := by decide +kernel
theorem dX7_blocked_18 : decode cX7_blocked 18 = .ok (.invokevirtual 76, 3) := by decide +kernel
theorem dX7_blocked_21 : decode cX7_blocked 21 = .ok (.iaload, 1) := by decide +kernel
theorem dX7_blocked_22 : decode cX7_blocked 22 = .ok (.aload_n 0, 1) := by decide +kernel
theorem dX7_blocked_23 : decode cX7_blocked 23 = .ok (.getfield 19, 3) := by decide +kernel
theorem dX7_blocked_26 : decode cX7_blocked 26 = .ok (.if_icmp .lt 7, 3) := by decide +kernel
theorem dX7_blocked_29 : decode cX7_blocked 29 = .ok (.iconst 1, 1) := by decide +kernel
theorem dX7_blocked_30 : decode cX7_blocked 30 = .ok (.goto 4, 3) := by decide +kernel
theorem dX7_blocked_33 : decode cX7_blocked 33 = .ok (.iconst 0, 1) := by decide +kernel
theorem dX7_blocked_34 : decode cX7_blocked 34 = .ok (.iadd, 1) := by decide +kernel
theorem dX7_blocked_35 : decode cX7_blocked 35 = .ok (.istore_n 2, 1) := by decide +kernel
theorem dX7_blocked_36 : decode cX7_blocked 36 = .ok (.iinc 3 1, 3) := by decide +kernel
theorem dX7_blocked_39 : decode cX7_blocked 39 = .ok (.goto (-35), 3) := by decide +kernel
theorem dX7_blocked_42 : decode cX7_blocked 42 = .ok (.iload_n 2, 1) := by decide +kernel
theorem dX7_blocked_43 : decode cX7_blocked 43 = .ok (.ireturn, 1) := by decide +kernel
theorem dX7_allBlocked_0 : decode cX7_allBlocked 0 = .ok (.iconst 0, 1) := by decide +kernel
theorem dX7_allBlocked_1 : decode cX7_allBlocked 1 = .ok (.istore_n 1, 1) := by decide +kernel
theorem dX7_allBlocked_2 : decode cX7_allBlocked 2 = .ok (.iconst 0, 1) := by decide +kernel
theorem dX7_allBlocked_3 : decode cX7_allBlocked 3 = .ok (.istore_n 2, 1) := by decide +kernel
theorem dX7_allBlocked_4 : decode cX7_allBlocked 4 = .ok (.iload_n 2, 1) := by decide +kernel
theorem dX7_allBlocked_5 : decode cX7_allBlocked 5 = .ok (.aload_n 0, 1) := by decide +kernel
theorem dX7_allBlocked_6 : decode cX7_allBlocked 6 = .ok (.getfield 42, 3) := by decide +kernel
theorem dX7_allBlocked_9 : decode cX7_allBlocked 9 = .ok (.if_icmp .ge 17, 3) := by decide +kernel
theorem dX7_allBlocked_12 : decode cX7_allBlocked 12 = .ok (.iload_n 1, 1) := by decide +kernel
theorem dX7_allBlocked_13 : decode cX7_allBlocked 13 = .ok (.aload_n 0, 1) := by decide +kernel
theorem dX7_allBlocked_14 : decode cX7_allBlocked 14 = .ok (.iload_n 2, 1) := by decide +kernel
theorem dX7_allBlocked_15 : decode cX7_allBlocked 15 = .ok (.invokevirtual 79, 3) := by decide +kernel
theorem dX7_allBlocked_18 : decode cX7_allBlocked 18 = .ok (.iadd, 1) := by decide +kernel
theorem dX7_allBlocked_19 : decode cX7_allBlocked 19 = .ok (.istore_n 1, 1) := by decide +kernel
theorem dX7_allBlocked_20 : decode cX7_allBlocked 20 = .ok (.iinc 2 1, 3) := by decide +kernel
theorem dX7_allBlocked_23 : decode cX7_allBlocked 23 = .ok (.goto (-19), 3) := by decide +kernel
theorem dX7_allBlocked_26 : decode cX7_allBlocked 26 = .ok (.iload_n 1, 1) := by decide +kernel
theorem dX7_allBlocked_27 : decode cX7_allBlocked 27 = .ok (.ireturn, 1) := by decide +kernel
theorem dX7_tried_0 : decode cX7_tried 0 = .ok (.aload_n 0, 1) := by decide +kernel
theorem dX7_tried_1 : decode cX7_tried 1 = .ok (.invokevirtual 83, 3) := by decide +kernel
theorem dX7_tried_4 : decode cX7_tried 4 = .ok (.aload_n 0, 1) := by decide +kernel
theorem dX7_tried_5 : decode cX7_tried 5 = .ok (.iload_n 1, 1) := by decide +kernel
theorem dX7_tried_6 : decode cX7_tried 6 = .ok (.iload_n 2, 1) := by decide +kernel
theorem dX7_tried_7 : decode cX7_tried 7 = .ok (.iconst 4, 1) := by decide +kernel
theorem dX7_tried_8 : decode cX7_tried 8 = .ok (.invokevirtual 86, 3) := by decide +kernel
theorem dX7_tried_11 : decode cX7_tried 11 = .ok (.pop, 1) := by decide +kernel
theorem dX7_tried_12 : decode cX7_tried 12 = .ok (.aload_n 0, 1) := by decide +kernel
theorem dX7_tried_13 : decode cX7_tried 13 = .ok (.invokevirtual 89, 3) := by decide +kernel
theorem dX7_tried_16 : decode cX7_tried 16 = .ok (.istore_n 3, 1) := by decide +kernel
theorem dX7_tried_17 : decode cX7_tried 17 = .ok (.aload_n 0, 1) := by decide +kernel
theorem dX7_tried_18 : decode cX7_tried 18 = .ok (.invokevirtual 93, 3) := by decide +kernel
theorem dX7_tried_21 : decode cX7_tried 21 = .ok (.iload_n 3, 1) := by decide +kernel
theorem dX7_tried_22 : decode cX7_tried 22 = .ok (.ireturn, 1) := by decide +kernel
theorem dX7_fence_0 : decode cX7_fence 0 = .ok (.aload_n 0, 1) := by decide +kernel
theorem dX7_fence_1 : decode cX7_fence 1 = .ok (.iconst 0, 1) := by decide +kernel
theorem dX7_fence_2 : decode cX7_fence 2 = .ok (.putfield 32, 3) := by decide +kernel
theorem dX7_fence_5 : decode cX7_fence 5 = .ok (.iload_n 3, 1) := by decide +kernel
theorem dX7_fence_6 : decode cX7_fence 6 = .ok (.iconst 1, 1) := by decide +kernel
theorem dX7_fence_7 : decode cX7_fence 7 = .ok (.bipush 20, 2) := by decide +kernel
theorem dX7_fence_9 : decode cX7_fence 9 = .ok (.invokestatic 38, 3) := by decide +kernel
theorem dX7_fence_12 : decode cX7_fence 12 = .ok (.ifCond .eq 24, 3) := by decide +kernel
theorem dX7_fence_15 : decode cX7_fence 15 = .ok (.iload 5, 2) := by decide +kernel
theorem dX7_fence_17 : decode cX7_fence 17 = .ok (.iconst 1, 1) := by decide +kernel
theorem dX7_fence_18 : decode cX7_fence 18 = .ok (.bipush 9, 2) := by decide +kernel
theorem dX7_fence_20 : decode cX7_fence 20 = .ok (.invokestatic 38, 3) := by decide +kernel
theorem dX7_fence_23 : decode cX7_fence 23 = .ok (.ifCond .eq 13, 3) := by decide +kernel
theorem dX7_fence_26 : decode cX7_fence 26 = .ok (.iload 6, 2) := by decide +kernel
theorem dX7_fence_28 : decode cX7_fence 28 = .ok (.iconst 0, 1) := by decide +kernel
theorem dX7_fence_29 : decode cX7_fence 29 = .ok (.iconst 3, 1) := by decide +kernel
theorem dX7_fence_30 : decode cX7_fence 30 = .ok (.invokestatic 38, 3) := by decide +kernel
theorem dX7_fence_33 : decode cX7_fence 33 = .ok (.ifCond .ne 9, 3) := by decide +kernel
theorem dX7_fence_36 : decode cX7_fence 36 = .ok (.aload_n 0, 1) := by decide +kernel
theorem dX7_fence_37 : decode cX7_fence 37 = .ok (.iconst 1, 1) := by decide +kernel
theorem dX7_fence_38 : decode cX7_fence 38 = .ok (.invokevirtual 96, 3) := by decide +kernel
theorem dX7_fence_41 : decode cX7_fence 41 = .ok (.ireturn, 1) := by decide +kernel
theorem dX7_fence_42 : decode cX7_fence 42 = .ok (.iload_n 1, 1) := by decide +kernel
theorem dX7_fence_43 : decode cX7_fence 43 = .ok (.iconst 0, 1) := by decide +kernel
theorem dX7_fence_44 : decode cX7_fence 44 = .ok (.bipush 20, 2) := by decide +kernel
theorem dX7_fence_46 : decode cX7_fence 46 = .ok (.iload 4, 2) := by decide +kernel
theorem dX7_fence_48 : decode cX7_fence 48 = .ok (.ifCond .eq 7, 3) := by decide +kernel
theorem dX7_fence_51 : decode cX7_fence 51 = .ok (.iconst 1, 1) := by decide +kernel
theorem dX7_fence_52 : decode cX7_fence 52 = .ok (.goto 4, 3) := by decide +kernel
theorem dX7_fence_55 : decode cX7_fence 55 = .ok (.iload_n 3, 1) := by decide +kernel
theorem dX7_fence_56 : decode cX7_fence 56 = .ok (.isub, 1) := by decide +kernel
theorem dX7_fence_57 : decode cX7_fence 57 = .ok (.invokestatic 38, 3) := by decide +kernel
theorem dX7_fence_60 : decode cX7_fence 60 = .ok (.ifCond .eq 24, 3) := by decide +kernel
theorem dX7_fence_63 : decode cX7_fence 63 = .ok (.iload_n 2, 1) := by decide +kernel
theorem dX7_fence_64 : decode cX7_fence 64 = .ok (.iconst 0, 1) := by decide +kernel
theorem dX7_fence_65 : decode cX7_fence 65 = .ok (.bipush 20, 2) := by decide +kernel
theorem dX7_fence_67 : decode cX7_fence 67 = .ok (.iload 4, 2) := by decide +kernel
theorem dX7_fence_69 : decode cX7_fence 69 = .ok (.ifCond .eq 7, 3) := by decide +kernel
theorem dX7_fence_72 : decode cX7_fence 72 = .ok (.iload_n 3, 1) := by decide +kernel
theorem dX7_fence_73 : decode cX7_fence 73 = .ok (.goto 4, 3) := by decide +kernel
theorem dX7_fence_76 : decode cX7_fence 76 = .ok (.iconst 1, 1) := by decide +kernel
theorem dX7_fence_77 : decode cX7_fence 77 = .ok (.isub, 1) := by decide +kernel
theorem dX7_fence_78 : decode cX7_fence 78 = .ok (.invokestatic 38, 3) := by decide +kernel
theorem dX7_fence_81 : decode cX7_fence 81 = .ok (.ifCond .ne 9, 3) := by decide +kernel
theorem dX7_fence_84 : decode cX7_fence 84 = .ok (.aload_n 0, 1) := by decide +kernel
theorem dX7_fence_85 : decode cX7_fence 85 = .ok (.iconst 2, 1) := by decide +kernel
theorem dX7_fence_86 : decode cX7_fence 86 = .ok (.invokevirtual 96, 3) := by decide +kernel
theorem dX7_fence_89 : decode cX7_fence 89 = .ok (.ireturn, 1) := by decide +kernel
theorem dX7_fence_90 : decode cX7_fence 90 = .ok (.aload_n 0, 1) := by decide +kernel
theorem dX7_fence_91 : decode cX7_fence 91 = .ok (.getfield 35, 3) := by decide +kernel
theorem dX7_fence_94 : decode cX7_fence 94 = .ok (.bipush 10, 2) := by decide +kernel
theorem dX7_fence_96 : decode cX7_fence 96 = .ok (.if_icmp .ne 9, 3) := by decide +kernel
theorem dX7_fence_99 : decode cX7_fence 99 = .ok (.aload_n 0, 1) := by decide +kernel
theorem dX7_fence_100 : decode cX7_fence 100 = .ok (.iconst 3, 1) := by decide +kernel
theorem dX7_fence_101 : decode cX7_fence 101 = .ok (.invokevirtual 96, 3) := by decide +kernel
theorem dX7_fence_104 : decode cX7_fence 104 = .ok (.ireturn, 1) := by decide +kernel
theorem dX7_fence_105 : decode cX7_fence 105 = .ok (.aload_n 0, 1) := by decide +kernel
theorem dX7_fence_106 : decode cX7_fence 106 = .ok (.aload_n 0, 1) := by decide +kernel
theorem dX7_fence_107 : decode cX7_fence 107 = .ok (.getfield 35, 3) := by decide +kernel
theorem dX7_fence_110 : decode cX7_fence 110 = .ok (.iload_n 1, 1) := by decide +kernel
theorem dX7_fence_111 : decode cX7_fence 111 = .ok (.iload_n 2, 1) := by decide +kernel
theorem dX7_fence_112 : decode cX7_fence 112 = .ok (.iload_n 3, 1) := by decide +kernel
theorem dX7_fence_113 : decode cX7_fence 113 = .ok (.iload 4, 2) := by decide +kernel
theorem dX7_fence_115 : decode cX7_fence 115 = .ok (.iload 5, 2) := by decide +kernel
theorem dX7_fence_117 : decode cX7_fence 117 = .ok (.iload 6, 2) := by decide +kernel
theorem dX7_fence_119 : decode cX7_fence 119 = .ok (.invokevirtual 99, 3) := by decide +kernel
theorem dX7_fence_122 : decode cX7_fence 122 = .ok (.aload_n 0, 1) := by decide +kernel
theorem dX7_fence_123 : decode cX7_fence 123 = .ok (.dup, 1) := by decide +kernel
theorem dX7_fence_124 : decode cX7_fence 124 = .ok (.getfield 35, 3) := by decide +kernel
theorem dX7_fence_127 : decode cX7_fence 127 = .ok (.iconst 1, 1) := by decide +kernel
theorem dX7_fence_128 : decode cX7_fence 128 = .ok (.iadd, 1) := by decide +kernel
theorem dX7_fence_129 : decode cX7_fence 129 = .ok (.putfield 35, 3) := by decide +kernel
theorem dX7_fence_132 : decode cX7_fence 132 = .ok (.aload_n 0, 1) := by decide +kernel
theorem dX7_fence_133 : decode cX7_fence 133 = .ok (.getfield 35, 3) := by decide +kernel
theorem dX7_fence_136 : decode cX7_fence 136 = .ok (.iconst 1, 1) := by decide +kernel
theorem dX7_fence_137 : decode cX7_fence 137 = .ok (.isub, 1) := by decide +kernel
theorem dX7_fence_138 : decode cX7_fence 138 = .ok (.ireturn, 1) := by decide +kernel
theorem dX7_setUp_0 : decode cX7_setUp 0 = .ok (.bipush 6, 2) := by decide +kernel
theorem dX7_setUp_2 : decode cX7_setUp 2 = .ok (.newarray .int, 2) := by decide +kernel
theorem dX7_setUp_4 : decode cX7_setUp 4 = .ok (.dup, 1) := by decide +kernel
theorem dX7_setUp_5 : decode cX7_setUp 5 = .ok (.iconst 0, 1) := by decide +kernel
theorem dX7_setUp_6 : decode cX7_setUp 6 = .ok (.iload_n 2, 1) := by decide +kernel
theorem dX7_setUp_7 : decode cX7_setUp 7 = .ok (.iastore, 1) := by decide +kernel
theorem dX7_setUp_8 : decode cX7_setUp 8 = .ok (.dup, 1) := by decide +kernel
theorem dX7_setUp_9 : decode cX7_setUp 9 = .ok (.iconst 1, 1) := by decide +kernel
theorem dX7_setUp_10 : decode cX7_setUp 10 = .ok (.iload_n 3, 1) := by decide +kernel
theorem dX7_setUp_11 : decode cX7_setUp 11 = .ok (.iastore, 1) := by decide +kernel
theorem dX7_setUp_12 : decode cX7_setUp 12 = .ok (.dup, 1) := by decide +kernel
theorem dX7_setUp_13 : decode cX7_setUp 13 = .ok (.iconst 2, 1) := by decide +kernel
theorem dX7_setUp_14 : decode cX7_setUp 14 = .ok (.iload 4, 2) := by decide +kernel
theorem dX7_setUp_16 : decode cX7_setUp 16 = .ok (.iastore, 1) := by decide +kernel
theorem dX7_setUp_17 : decode cX7_setUp 17 = .ok (.dup, 1) := by decide +kernel
theorem dX7_setUp_18 : decode cX7_setUp 18 = .ok (.iconst 3, 1) := by decide +kernel
theorem dX7_setUp_19 : decode cX7_setUp 19 = .ok (.iload 5, 2) := by decide +kernel
theorem dX7_setUp_21 : decode cX7_setUp 21 = .ok (.ifCond .eq 7, 3) := by decide +kernel
theorem dX7_setUp_24 : decode cX7_setUp 24 = .ok (.iconst 1, 1) := by decide +kernel
theorem dX7_setUp_25 : decode cX7_setUp 25 = .ok (.goto 4, 3) := by decide +kernel
theorem dX7_setUp_28 : decode cX7_setUp 28 = .ok (.iconst 0, 1) := by decide +kernel
theorem dX7_setUp_29 : decode cX7_setUp 29 = .ok (.iastore, 1) := by decide +kernel
theorem dX7_setUp_30 : decode cX7_setUp 30 = .ok (.dup, 1) := by decide +kernel
theorem dX7_setUp_31 : decode cX7_setUp 31 = .ok (.iconst 4, 1) := by decide +kernel
theorem dX7_setUp_32 : decode cX7_setUp 32 = .ok (.iload 6, 2) := by decide +kernel
theorem dX7_setUp_34 : decode cX7_setUp 34 = .ok (.iastore, 1) := by decide +kernel
theorem dX7_setUp_35 : decode cX7_setUp 35 = .ok (.dup, 1) := by decide +kernel
theorem dX7_setUp_36 : decode cX7_setUp 36 = .ok (.iconst 5, 1) := by decide +kernel
theorem dX7_setUp_37 : decode cX7_setUp 37 = .ok (.iload 7, 2) := by decide +kernel
theorem dX7_setUp_39 : decode cX7_setUp 39 = .ok (.iastore, 1) := by decide +kernel
theorem dX7_setUp_40 : decode cX7_setUp 40 = .ok (.astore 8, 2) := by decide +kernel
theorem dX7_setUp_42 : decode cX7_setUp 42 = .ok (.aload 8, 2) := by decide +kernel
theorem dX7_setUp_44 : decode cX7_setUp 44 = .ok (.iconst 0, 1) := by decide +kernel
theorem dX7_setUp_45 : decode cX7_setUp 45 = .ok (.aload_n 0, 1) := by decide +kernel
theorem dX7_setUp_46 : decode cX7_setUp 46 = .ok (.getfield 9, 3) := by decide +kernel
theorem dX7_setUp_49 : decode cX7_setUp 49 = .ok (.bipush 6, 2) := by decide +kernel
theorem dX7_setUp_51 : decode cX7_setUp 51 = .ok (.iload_n 1, 1) := by decide +kernel
theorem dX7_setUp_52 : decode cX7_setUp 52 = .ok (.imul, 1) := by decide +kernel
theorem dX7_setUp_53 : decode cX7_setUp 53 = .ok (.bipush 6, 2) := by decide +kernel
theorem dX7_setUp_55 : decode cX7_setUp 55 = .ok (.invokestatic 70, 3) := by decide +kernel
theorem dX7_setUp_58 : decode cX7_setUp 58 = .ok (.return_, 1) := by decide +kernel
theorem dX7_change_0 : decode cX7_change 0 = .ok (.aload_n 0, 1) := by decide +kernel
theorem dX7_change_1 : decode cX7_change 1 = .ok (.iconst 0, 1) := by decide +kernel
theorem dX7_change_2 : decode cX7_change 2 = .ok (.putfield 32, 3) := by decide +kernel
theorem dX7_change_5 : decode cX7_change 5 = .ok (.aload_n 0, 1) := by decide +kernel
theorem dX7_change_6 : decode cX7_change 6 = .ok (.iload_n 1, 1) := by decide +kernel
theorem dX7_change_7 : decode cX7_change 7 = .ok (.invokevirtual 103, 3) := by decide +kernel
theorem dX7_change_10 : decode cX7_change 10 = .ok (.ifCond .ne 9, 3) := by decide +kernel
theorem dX7_change_13 : decode cX7_change 13 = .ok (.aload_n 0, 1) := by decide +kernel
theorem dX7_change_14 : decode cX7_change 14 = .ok (.iconst 1, 1) := by decide +kernel
theorem dX7_change_15 : decode cX7_change 15 = .ok (.invokevirtual 96, 3) := by decide +kernel
theorem dX7_change_18 : decode cX7_change 18 = .ok (.ireturn, 1) := by decide +kernel
theorem dX7_change_19 : decode cX7_change 19 = .ok (.iload_n 2, 1) := by decide +kernel
theorem dX7_change_20 : decode cX7_change 20 = .ok (.iconst 1, 1) := by decide +kernel
theorem dX7_change_21 : decode cX7_change 21 = .ok (.bipush 9, 2) := by decide +kernel
theorem dX7_change_23 : decode cX7_change 23 = .ok (.invokestatic 38, 3) := by decide +kernel
theorem dX7_change_26 : decode cX7_change 26 = .ok (.ifCond .eq 12, 3) := by decide +kernel
theorem dX7_change_29 : decode cX7_change 29 = .ok (.iload_n 3, 1) := by decide +kernel
theorem dX7_change_30 : decode cX7_change 30 = .ok (.iconst 0, 1) := by decide +kernel
theorem dX7_change_31 : decode cX7_change 31 = .ok (.iconst 3, 1) := by decide +kernel
theorem dX7_change_32 : decode cX7_change 32 = .ok (.invokestatic 38, 3) := by decide +kernel
theorem dX7_change_35 : decode cX7_change 35 = .ok (.ifCond .ne 9, 3) := by decide +kernel
theorem dX7_change_38 : decode cX7_change 38 = .ok (.aload_n 0, 1) := by decide +kernel
theorem dX7_change_39 : decode cX7_change 39 = .ok (.iconst 2, 1) := by decide +kernel
theorem dX7_change_40 : decode cX7_change 40 = .ok (.invokevirtual 96, 3) := by decide +kernel
theorem dX7_change_43 : decode cX7_change 43 = .ok (.ireturn, 1) := by decide +kernel
theorem dX7_change_44 : decode cX7_change 44 = .ok (.bipush 10, 2) := by decide +kernel
theorem dX7_change_46 : decode cX7_change 46 = .ok (.aload_n 0, 1) := by decide +kernel
theorem dX7_change_47 : decode cX7_change 47 = .ok (.iload_n 1, 1) := by decide +kernel
theorem dX7_change_48 : decode cX7_change 48 = .ok (.iconst 4, 1) := by decide +kernel
theorem dX7_change_49 : decode cX7_change 49 = .ok (.invokevirtual 45, 3) := by decide +kernel
theorem dX7_change_52 : decode cX7_change 52 = .ok (.imul, 1) := by decide +kernel
theorem dX7_change_53 : decode cX7_change 53 = .ok (.aload_n 0, 1) := by decide +kernel
theorem dX7_change_54 : decode cX7_change 54 = .ok (.iload_n 1, 1) := by decide +kernel
theorem dX7_change_55 : decode cX7_change 55 = .ok (.iconst 5, 1) := by decide +kernel
theorem dX7_change_56 : decode cX7_change 56 = .ok (.invokevirtual 45, 3) := by decide +kernel
theorem dX7_change_59 : decode cX7_change 59 = .ok (.iadd, 1) := by decide +kernel
theorem dX7_change_60 : decode cX7_change 60 = .ok (.istore 4, 2) := by decide +kernel
theorem dX7_change_62 : decode cX7_change 62 = .ok (.aload_n 0, 1) := by decide +kernel
theorem dX7_change_63 : decode cX7_change 63 = .ok (.iload_n 1, 1) := by decide +kernel
theorem dX7_change_64 : decode cX7_change 64 = .ok (.iconst 4, 1) := by decide +kernel
theorem dX7_change_65 : decode cX7_change 65 = .ok (.iload_n 2, 1) := by decide +kernel
theorem dX7_change_66 : decode cX7_change 66 = .ok (.invokevirtual 107, 3) := by decide +kernel
theorem dX7_change_69 : decode cX7_change 69 = .ok (.aload_n 0, 1) := by decide +kernel
theorem dX7_change_70 : decode cX7_change 70 = .ok (.iload_n 1, 1) := by decide +kernel
theorem dX7_change_71 : decode cX7_change 71 = .ok (.iconst 5, 1) := by decide +kernel
theorem dX7_change_72 : decode cX7_change 72 = .ok (.iload_n 3, 1) := by decide +kernel
theorem dX7_change_73 : decode cX7_change 73 = .ok (.invokevirtual 107, 3) := by decide +kernel
theorem dX7_change_76 : decode cX7_change 76 = .ok (.iload 4, 2) := by decide +kernel
theorem dX7_change_78 : decode cX7_change 78 = .ok (.ireturn, 1) := by decide +kernel
theorem dX7_take_0 : decode cX7_take 0 = .ok (.aload_n 0, 1) := by decide +kernel
theorem dX7_take_1 : decode cX7_take 1 = .ok (.iconst 0, 1) := by decide +kernel
theorem dX7_take_2 : decode cX7_take 2 = .ok (.putfield 32, 3) := by decide +kernel
theorem dX7_take_5 : decode cX7_take 5 = .ok (.aload_n 0, 1) := by decide +kernel
theorem dX7_take_6 : decode cX7_take 6 = .ok (.iload_n 1, 1) := by decide +kernel
theorem dX7_take_7 : decode cX7_take 7 = .ok (.invokevirtual 103, 3) := by decide +kernel
theorem dX7_take_10 : decode cX7_take 10 = .ok (.ifCond .ne 9, 3) := by decide +kernel
theorem dX7_take_13 : decode cX7_take 13 = .ok (.aload_n 0, 1) := by decide +kernel
theorem dX7_take_14 : decode cX7_take 14 = .ok (.iconst 1, 1) := by decide +kernel
theorem dX7_take_15 : decode cX7_take 15 = .ok (.invokevirtual 96, 3) := by decide +kernel
theorem dX7_take_18 : decode cX7_take 18 = .ok (.ireturn, 1) := by decide +kernel
theorem dX7_take_19 : decode cX7_take 19 = .ok (.aload_n 0, 1) := by decide +kernel
theorem dX7_take_20 : decode cX7_take 20 = .ok (.dup, 1) := by decide +kernel
theorem dX7_take_21 : decode cX7_take 21 = .ok (.getfield 35, 3) := by decide +kernel
theorem dX7_take_24 : decode cX7_take 24 = .ok (.iconst 1, 1) := by decide +kernel
theorem dX7_take_25 : decode cX7_take 25 = .ok (.isub, 1) := by decide +kernel
theorem dX7_take_26 : decode cX7_take 26 = .ok (.putfield 35, 3) := by decide +kernel
theorem dX7_take_29 : decode cX7_take 29 = .ok (.bipush 6, 2) := by decide +kernel
theorem dX7_take_31 : decode cX7_take 31 = .ok (.iload_n 1, 1) := by decide +kernel
theorem dX7_take_32 : decode cX7_take 32 = .ok (.imul, 1) := by decide +kernel
theorem dX7_take_33 : decode cX7_take 33 = .ok (.istore_n 2, 1) := by decide +kernel
theorem dX7_take_34 : decode cX7_take 34 = .ok (.iload_n 2, 1) := by decide +kernel
theorem dX7_take_35 : decode cX7_take 35 = .ok (.bipush 6, 2) := by decide +kernel
theorem dX7_take_37 : decode cX7_take 37 = .ok (.aload_n 0, 1) := by decide +kernel
theorem dX7_take_38 : decode cX7_take 38 = .ok (.getfield 35, 3) := by decide +kernel
theorem dX7_take_41 : decode cX7_take 41 = .ok (.imul, 1) := by decide +kernel
theorem dX7_take_42 : decode cX7_take 42 = .ok (.if_icmp .ge 24, 3) := by decide +kernel
theorem dX7_take_45 : decode cX7_take 45 = .ok (.aload_n 0, 1) := by decide +kernel
theorem dX7_take_46 : decode cX7_take 46 = .ok (.getfield 9, 3) := by decide +kernel
theorem dX7_take_49 : decode cX7_take 49 = .ok (.iload_n 2, 1) := by decide +kernel
theorem dX7_take_50 : decode cX7_take 50 = .ok (.aload_n 0, 1) := by decide +kernel
theorem dX7_take_51 : decode cX7_take 51 = .ok (.getfield 9, 3) := by decide +kernel
theorem dX7_take_54 : decode cX7_take 54 = .ok (.iload_n 2, 1) := by decide +kernel
theorem dX7_take_55 : decode cX7_take 55 = .ok (.bipush 6, 2) := by decide +kernel
theorem dX7_take_57 : decode cX7_take 57 = .ok (.iadd, 1) := by decide +kernel
theorem dX7_take_58 : decode cX7_take 58 = .ok (.iaload, 1) := by decide +kernel
theorem dX7_take_59 : decode cX7_take 59 = .ok (.iastore, 1) := by decide +kernel
theorem dX7_take_60 : decode cX7_take 60 = .ok (.iinc 2 1, 3) := by decide +kernel
theorem dX7_take_63 : decode cX7_take 63 = .ok (.goto (-29), 3) := by decide +kernel
theorem dX7_take_66 : decode cX7_take 66 = .ok (.aload_n 0, 1) := by decide +kernel
theorem dX7_take_67 : decode cX7_take 67 = .ok (.getfield 35, 3) := by decide +kernel
theorem dX7_take_70 : decode cX7_take 70 = .ok (.ireturn, 1) := by decide +kernel
theorem dX7_road_0 : decode cX7_road 0 = .ok (.aload_n 0, 1) := by decide +kernel
theorem dX7_road_1 : decode cX7_road 1 = .ok (.iconst 0, 1) := by decide +kernel
theorem dX7_road_2 : decode cX7_road 2 = .ok (.putfield 32, 3) := by decide +kernel
theorem dX7_road_5 : decode cX7_road 5 = .ok (.iload_n 2, 1) := by decide +kernel
theorem dX7_road_6 : decode cX7_road 6 = .ok (.iconst 0, 1) := by decide +kernel
theorem dX7_road_7 : decode cX7_road 7 = .ok (.bipush 19, 2) := by decide +kernel
theorem dX7_road_9 : decode cX7_road 9 = .ok (.invokestatic 38, 3) := by decide +kernel
theorem dX7_road_12 : decode cX7_road 12 = .ok (.ifCond .ne 9, 3) := by decide +kernel
theorem dX7_road_15 : decode cX7_road 15 = .ok (.aload_n 0, 1) := by decide +kernel
theorem dX7_road_16 : decode cX7_road 16 = .ok (.iconst 1, 1) := by decide +kernel
theorem dX7_road_17 : decode cX7_road 17 = .ok (.invokevirtual 96, 3) := by decide +kernel
theorem dX7_road_20 : decode cX7_road 20 = .ok (.ireturn, 1) := by decide +kernel
theorem dX7_road_21 : decode cX7_road 21 = .ok (.aload_n 0, 1) := by decide +kernel
theorem dX7_road_22 : decode cX7_road 22 = .ok (.getfield 42, 3) := by decide +kernel
theorem dX7_road_25 : decode cX7_road 25 = .ok (.iconst 4, 1) := by decide +kernel
theorem dX7_road_26 : decode cX7_road 26 = .ok (.if_icmp .ne 9, 3) := by decide +kernel
theorem dX7_road_29 : decode cX7_road 29 = .ok (.aload_n 0, 1) := by decide +kernel
theorem dX7_road_30 : decode cX7_road 30 = .ok (.iconst 2, 1) := by decide +kernel
theorem dX7_road_31 : decode cX7_road 31 = .ok (.invokevirtual 96, 3) := by decide +kernel
theorem dX7_road_34 : decode cX7_road 34 = .ok (.ireturn, 1) := by decide +kernel
theorem dX7_road_35 : decode cX7_road 35 = .ok (.aload_n 0, 1) := by decide +kernel
theorem dX7_road_36 : decode cX7_road 36 = .ok (.getfield 13, 3) := by decide +kernel
theorem dX7_road_39 : decode cX7_road 39 = .ok (.aload_n 0, 1) := by decide +kernel
theorem dX7_road_40 : decode cX7_road 40 = .ok (.getfield 42, 3) := by decide +kernel
theorem dX7_road_43 : decode cX7_road 43 = .ok (.iload_n 1, 1) := by decide +kernel
theorem dX7_road_44 : decode cX7_road 44 = .ok (.ifCond .eq 7, 3) := by decide +kernel
theorem dX7_road_47 : decode cX7_road 47 = .ok (.iconst 1, 1) := by decide +kernel
theorem dX7_road_48 : decode cX7_road 48 = .ok (.goto 4, 3) := by decide +kernel
theorem dX7_road_51 : decode cX7_road 51 = .ok (.iconst 0, 1) := by decide +kernel
theorem dX7_road_52 : decode cX7_road 52 = .ok (.iastore, 1) := by decide +kernel
theorem dX7_road_53 : decode cX7_road 53 = .ok (.aload_n 0, 1) := by decide +kernel
theorem dX7_road_54 : decode cX7_road 54 = .ok (.getfield 16, 3) := by decide +kernel
theorem dX7_road_57 : decode cX7_road 57 = .ok (.aload_n 0, 1) := by decide +kernel
theorem dX7_road_58 : decode cX7_road 58 = .ok (.getfield 42, 3) := by decide +kernel
theorem dX7_road_61 : decode cX7_road 61 = .ok (.iload_n 2, 1) := by decide +kernel
theorem dX7_road_62 : decode cX7_road 62 = .ok (.iastore, 1) := by decide +kernel
theorem dX7_road_63 : decode cX7_road 63 = .ok (.aload_n 0, 1) := by decide +kernel
theorem dX7_road_64 : decode cX7_road 64 = .ok (.dup, 1) := by decide +kernel
theorem dX7_road_65 : decode cX7_road 65 = .ok (.getfield 42, 3) := by decide +kernel
theorem dX7_road_68 : decode cX7_road 68 = .ok (.iconst 1, 1) := by decide +kernel
theorem dX7_road_69 : decode cX7_road 69 = .ok (.iadd, 1) := by decide +kernel
theorem dX7_road_70 : decode cX7_road 70 = .ok (.putfield 42, 3) := by decide +kernel
theorem dX7_road_73 : decode cX7_road 73 = .ok (.aload_n 0, 1) := by decide +kernel
theorem dX7_road_74 : decode cX7_road 74 = .ok (.getfield 42, 3) := by decide +kernel
theorem dX7_road_77 : decode cX7_road 77 = .ok (.iconst 1, 1) := by decide +kernel
theorem dX7_road_78 : decode cX7_road 78 = .ok (.isub, 1) := by decide +kernel
theorem dX7_road_79 : decode cX7_road 79 = .ok (.ireturn, 1) := by decide +kernel
theorem dX7_setLimit_0 : decode cX7_setLimit 0 = .ok (.aload_n 0, 1) := by decide +kernel
theorem dX7_setLimit_1 : decode cX7_setLimit 1 = .ok (.iconst 0, 1) := by decide +kernel
theorem dX7_setLimit_2 : decode cX7_setLimit 2 = .ok (.putfield 32, 3) := by decide +kernel
theorem dX7_setLimit_5 : decode cX7_setLimit 5 = .ok (.iload_n 1, 1) := by decide +kernel
theorem dX7_setLimit_6 : decode cX7_setLimit 6 = .ok (.iconst 1, 1) := by decide +kernel
theorem dX7_setLimit_7 : decode cX7_setLimit 7 = .ok (.bipush 60, 2) := by decide +kernel
theorem dX7_setLimit_9 : decode cX7_setLimit 9 = .ok (.invokestatic 38, 3) := by decide +kernel
theorem dX7_setLimit_12 : decode cX7_setLimit 12 = .ok (.ifCond .ne 9, 3) := by decide +kernel
theorem dX7_setLimit_15 : decode cX7_setLimit 15 = .ok (.aload_n 0, 1) := by decide +kernel
theorem dX7_setLimit_16 : decode cX7_setLimit 16 = .ok (.iconst 1, 1) := by decide +kernel
