theorem dL_law_1028 : decode cL_law 1028 = .ok (.iastore, 1) := by decide +kernel
theorem dL_law_1029 : decode cL_law 1029 = .ok (.dup, 1) := by decide +kernel
theorem dL_law_1030 : decode cL_law 1030 = .ok (.iconst 2, 1) := by decide +kernel
theorem dL_law_1031 : decode cL_law 1031 = .ok (.bipush 20, 2) := by decide +kernel
theorem dL_law_1033 : decode cL_law 1033 = .ok (.iastore, 1) := by decide +kernel
theorem dL_law_1034 : decode cL_law 1034 = .ok (.dup, 1) := by decide +kernel
theorem dL_law_1035 : decode cL_law 1035 = .ok (.iconst 3, 1) := by decide +kernel
theorem dL_law_1036 : decode cL_law 1036 = .ok (.iload 23, 2) := by decide +kernel
theorem dL_law_1038 : decode cL_law 1038 = .ok (.ifCond .eq 7, 3) := by decide +kernel
theorem dL_law_1041 : decode cL_law 1041 = .ok (.iconst 1, 1) := by decide +kernel
theorem dL_law_1042 : decode cL_law 1042 = .ok (.goto 4, 3) := by decide +kernel
theorem dL_law_1045 : decode cL_law 1045 = .ok (.iconst 0, 1) := by decide +kernel
theorem dL_law_1046 : decode cL_law 1046 = .ok (.iastore, 1) := by decide +kernel
theorem dL_law_1047 : decode cL_law 1047 = .ok (.dup, 1) := by decide +kernel
theorem dL_law_1048 : decode cL_law 1048 = .ok (.iconst 4, 1) := by decide +kernel
theorem dL_law_1049 : decode cL_law 1049 = .ok (.iload 20, 2) := by decide +kernel
theorem dL_law_1051 : decode cL_law 1051 = .ok (.iastore, 1) := by decide +kernel
theorem dL_law_1052 : decode cL_law 1052 = .ok (.dup, 1) := by decide +kernel
theorem dL_law_1053 : decode cL_law 1053 = .ok (.iconst 5, 1) := by decide +kernel
theorem dL_law_1054 : decode cL_law 1054 = .ok (.iconst 0, 1) := by decide +kernel
theorem dL_law_1055 : decode cL_law 1055 = .ok (.iastore, 1) := by decide +kernel
theorem dL_law_1056 : decode cL_law 1056 = .ok (.invokestatic 21, 3) := by decide +kernel
theorem dL_law_1059 : decode cL_law 1059 = .ok (.iload 5, 2) := by decide +kernel
theorem dL_law_1061 : decode cL_law 1061 = .ok (.iload 6, 2) := by decide +kernel
theorem dL_law_1063 : decode cL_law 1063 = .ok (.invokevirtual 147, 3) := by decide +kernel
theorem dL_law_1066 : decode cL_law 1066 = .ok (.istore 26, 2) := by decide +kernel
theorem dL_law_1068 : decode cL_law 1068 = .ok (.iload 26, 2) := by decide +kernel
theorem dL_law_1070 : decode cL_law 1070 = .ok (.iload 24, 2) := by decide +kernel
theorem dL_law_1072 : decode cL_law 1072 = .ok (.if_icmp .lt 17, 3) := by decide +kernel
theorem dL_law_1075 : decode cL_law 1075 = .ok (.iload 26, 2) := by decide +kernel
theorem dL_law_1077 : decode cL_law 1077 = .ok (.iload 24, 2) := by decide +kernel
theorem dL_law_1079 : decode cL_law 1079 = .ok (.if_icmp .ne 12, 3) := by decide +kernel
theorem dL_law_1082 : decode cL_law 1082 = .ok (.iload 25, 2) := by decide +kernel
theorem dL_law_1084 : decode cL_law 1084 = .ok (.iload 21, 2) := by decide +kernel
theorem dL_law_1086 : decode cL_law 1086 = .ok (.if_icmp .ge 5, 3) := by decide +kernel
theorem dL_law_1089 : decode cL_law 1089 = .ok (.iconst 0, 1) := by decide +kernel
theorem dL_law_1090 : decode cL_law 1090 = .ok (.ireturn, 1) := by decide +kernel
theorem dL_law_1091 : decode cL_law 1091 = .ok (.aload_n 2, 1) := by decide +kernel
theorem dL_law_1092 : decode cL_law 1092 = .ok (.aload_n 2, 1) := by decide +kernel
theorem dL_law_1093 : decode cL_law 1093 = .ok (.getfield 9, 3) := by decide +kernel
theorem dL_law_1096 : decode cL_law 1096 = .ok (.iload 5, 2) := by decide +kernel
theorem dL_law_1098 : decode cL_law 1098 = .ok (.iload 6, 2) := by decide +kernel
theorem dL_law_1100 : decode cL_law 1100 = .ok (.invokevirtual 147, 3) := by decide +kernel
theorem dL_law_1103 : decode cL_law 1103 = .ok (.istore 27, 2) := by decide +kernel
theorem dL_law_1105 : decode cL_law 1105 = .ok (.iload 22, 2) := by decide +kernel
theorem dL_law_1107 : decode cL_law 1107 = .ok (.ifCond .ge 8, 3) := by decide +kernel
theorem dL_law_1110 : decode cL_law 1110 = .ok (.iload 27, 2) := by decide +kernel
theorem dL_law_1112 : decode cL_law 1112 = .ok (.goto 20, 3) := by decide +kernel
theorem dL_law_1115 : decode cL_law 1115 = .ok (.aload_n 2, 1) := by decide +kernel
theorem dL_law_1116 : decode cL_law 1116 = .ok (.aload_n 2, 1) := by decide +kernel
theorem dL_law_1117 : decode cL_law 1117 = .ok (.getfield 9, 3) := by decide +kernel
theorem dL_law_1120 : decode cL_law 1120 = .ok (.iload 22, 2) := by decide +kernel
theorem dL_law_1122 : decode cL_law 1122 = .ok (.invokestatic 43, 3) := by decide +kernel
theorem dL_law_1125 : decode cL_law 1125 = .ok (.iload 5, 2) := by decide +kernel
theorem dL_law_1127 : decode cL_law 1127 = .ok (.iload 6, 2) := by decide +kernel
theorem dL_law_1129 : decode cL_law 1129 = .ok (.invokevirtual 147, 3) := by decide +kernel
theorem dL_law_1132 : decode cL_law 1132 = .ok (.istore 28, 2) := by decide +kernel
theorem dL_law_1134 : decode cL_law 1134 = .ok (.iload 22, 2) := by decide +kernel
theorem dL_law_1136 : decode cL_law 1136 = .ok (.ifCond .lt 12, 3) := by decide +kernel
theorem dL_law_1139 : decode cL_law 1139 = .ok (.iload 28, 2) := by decide +kernel
theorem dL_law_1141 : decode cL_law 1141 = .ok (.iload 27, 2) := by decide +kernel
theorem dL_law_1143 : decode cL_law 1143 = .ok (.if_icmp .lt 5, 3) := by decide +kernel
theorem dL_law_1146 : decode cL_law 1146 = .ok (.iconst 0, 1) := by decide +kernel
theorem dL_law_1147 : decode cL_law 1147 = .ok (.ireturn, 1) := by decide +kernel
theorem dL_law_1148 : decode cL_law 1148 = .ok (.iconst 0, 1) := by decide +kernel
theorem dL_law_1149 : decode cL_law 1149 = .ok (.istore 29, 2) := by decide +kernel
theorem dL_law_1151 : decode cL_law 1151 = .ok (.iload 29, 2) := by decide +kernel
theorem dL_law_1153 : decode cL_law 1153 = .ok (.aload_n 2, 1) := by decide +kernel
theorem dL_law_1154 : decode cL_law 1154 = .ok (.getfield 9, 3) := by decide +kernel
theorem dL_law_1157 : decode cL_law 1157 = .ok (.arraylength, 1) := by decide +kernel
theorem dL_law_1158 : decode cL_law 1158 = .ok (.if_icmp .ge 56, 3) := by decide +kernel
theorem dL_law_1161 : decode cL_law 1161 = .ok (.aload_n 2, 1) := by decide +kernel
theorem dL_law_1162 : decode cL_law 1162 = .ok (.aload_n 2, 1) := by decide +kernel
theorem dL_law_1163 : decode cL_law 1163 = .ok (.getfield 9, 3) := by decide +kernel
theorem dL_law_1166 : decode cL_law 1166 = .ok (.iload 29, 2) := by decide +kernel
theorem dL_law_1168 : decode cL_law 1168 = .ok (.invokestatic 43, 3) := by decide +kernel
theorem dL_law_1171 : decode cL_law 1171 = .ok (.iload 5, 2) := by decide +kernel
theorem dL_law_1173 : decode cL_law 1173 = .ok (.iload 6, 2) := by decide +kernel
theorem dL_law_1175 : decode cL_law 1175 = .ok (.invokevirtual 147, 3) := by decide +kernel
theorem dL_law_1178 : decode cL_law 1178 = .ok (.istore 26, 2) := by decide +kernel
theorem dL_law_1180 : decode cL_law 1180 = .ok (.iload 26, 2) := by decide +kernel
theorem dL_law_1182 : decode cL_law 1182 = .ok (.iload 28, 2) := by decide +kernel
theorem dL_law_1184 : decode cL_law 1184 = .ok (.if_icmp .lt 22, 3) := by decide +kernel
theorem dL_law_1187 : decode cL_law 1187 = .ok (.iload 22, 2) := by decide +kernel
theorem dL_law_1189 : decode cL_law 1189 = .ok (.ifCond .lt 19, 3) := by decide +kernel
theorem dL_law_1192 : decode cL_law 1192 = .ok (.iload 26, 2) := by decide +kernel
theorem dL_law_1194 : decode cL_law 1194 = .ok (.iload 28, 2) := by decide +kernel
theorem dL_law_1196 : decode cL_law 1196 = .ok (.if_icmp .ne 12, 3) := by decide +kernel
theorem dL_law_1199 : decode cL_law 1199 = .ok (.iload 29, 2) := by decide +kernel
theorem dL_law_1201 : decode cL_law 1201 = .ok (.iload 22, 2) := by decide +kernel
theorem dL_law_1203 : decode cL_law 1203 = .ok (.if_icmp .ge 5, 3) := by decide +kernel
theorem dL_law_1206 : decode cL_law 1206 = .ok (.iconst 0, 1) := by decide +kernel
theorem dL_law_1207 : decode cL_law 1207 = .ok (.ireturn, 1) := by decide +kernel
theorem dL_law_1208 : decode cL_law 1208 = .ok (.iinc 29 1, 3) := by decide +kernel
theorem dL_law_1211 : decode cL_law 1211 = .ok (.goto (-60), 3) := by decide +kernel
theorem dL_law_1214 : decode cL_law 1214 = .ok (.iinc 3 1, 3) := by decide +kernel
theorem dL_law_1217 : decode cL_law 1217 = .ok (.goto (-1195), 3) := by decide +kernel
theorem dL_law_1220 : decode cL_law 1220 = .ok (.aload_n 2, 1) := by decide +kernel
theorem dL_law_1221 : decode cL_law 1221 = .ok (.aload_n 1, 1) := by decide +kernel
theorem dL_law_1222 : decode cL_law 1222 = .ok (.invokevirtual 151, 3) := by decide +kernel
theorem dL_law_1225 : decode cL_law 1225 = .ok (.ireturn, 1) := by decide +kernel
