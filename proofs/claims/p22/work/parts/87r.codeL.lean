theorem dL_law_1009 : decode cL_law 1009 = .ok (.iadd, 1) := by decide +kernel
theorem dL_law_1010 : decode cL_law 1010 = .ok (.istore 17, 2) := by decide +kernel
theorem dL_law_1012 : decode cL_law 1012 = .ok (.iload 27, 2) := by decide +kernel
theorem dL_law_1014 : decode cL_law 1014 = .ok (.aload 8, 2) := by decide +kernel
theorem dL_law_1016 : decode cL_law 1016 = .ok (.iload 20, 2) := by decide +kernel
theorem dL_law_1018 : decode cL_law 1018 = .ok (.aaload, 1) := by decide +kernel
theorem dL_law_1019 : decode cL_law 1019 = .ok (.iload 26, 2) := by decide +kernel
theorem dL_law_1021 : decode cL_law 1021 = .ok (.iaload, 1) := by decide +kernel
theorem dL_law_1022 : decode cL_law 1022 = .ok (.if_icmp .ne 6, 3) := by decide +kernel
theorem dL_law_1025 : decode cL_law 1025 = .ok (.goto 145, 3) := by decide +kernel
theorem dL_law_1028 : decode cL_law 1028 = .ok (.iconst 0, 1) := by decide +kernel
theorem dL_law_1029 : decode cL_law 1029 = .ok (.istore 28, 2) := by decide +kernel
theorem dL_law_1031 : decode cL_law 1031 = .ok (.iconst 0, 1) := by decide +kernel
theorem dL_law_1032 : decode cL_law 1032 = .ok (.istore 29, 2) := by decide +kernel
theorem dL_law_1034 : decode cL_law 1034 = .ok (.iload 29, 2) := by decide +kernel
theorem dL_law_1036 : decode cL_law 1036 = .ok (.iload 6, 2) := by decide +kernel
theorem dL_law_1038 : decode cL_law 1038 = .ok (.if_icmp .ge 103, 3) := by decide +kernel
theorem dL_law_1041 : decode cL_law 1041 = .ok (.iload 28, 2) := by decide +kernel
theorem dL_law_1043 : decode cL_law 1043 = .ok (.ifCond .ne 85, 3) := by decide +kernel
theorem dL_law_1046 : decode cL_law 1046 = .ok (.iload 29, 2) := by decide +kernel
theorem dL_law_1048 : decode cL_law 1048 = .ok (.iload 20, 2) := by decide +kernel
theorem dL_law_1050 : decode cL_law 1050 = .ok (.if_icmp .eq 82, 3) := by decide +kernel
theorem dL_law_1053 : decode cL_law 1053 = .ok (.aload 7, 2) := by decide +kernel
theorem dL_law_1055 : decode cL_law 1055 = .ok (.iload 29, 2) := by decide +kernel
theorem dL_law_1057 : decode cL_law 1057 = .ok (.aaload, 1) := by decide +kernel
theorem dL_law_1058 : decode cL_law 1058 = .ok (.iconst 4, 1) := by decide +kernel
theorem dL_law_1059 : decode cL_law 1059 = .ok (.iaload, 1) := by decide +kernel
theorem dL_law_1060 : decode cL_law 1060 = .ok (.iconst 1, 1) := by decide +kernel
theorem dL_law_1061 : decode cL_law 1061 = .ok (.if_icmp .ne 71, 3) := by decide +kernel
theorem dL_law_1064 : decode cL_law 1064 = .ok (.aload 7, 2) := by decide +kernel
theorem dL_law_1066 : decode cL_law 1066 = .ok (.iload 29, 2) := by decide +kernel
theorem dL_law_1068 : decode cL_law 1068 = .ok (.aaload, 1) := by decide +kernel
theorem dL_law_1069 : decode cL_law 1069 = .ok (.iconst 5, 1) := by decide +kernel
theorem dL_law_1070 : decode cL_law 1070 = .ok (.iaload, 1) := by decide +kernel
theorem dL_law_1071 : decode cL_law 1071 = .ok (.aload 7, 2) := by decide +kernel
theorem dL_law_1073 : decode cL_law 1073 = .ok (.iload 20, 2) := by decide +kernel
theorem dL_law_1075 : decode cL_law 1075 = .ok (.aaload, 1) := by decide +kernel
theorem dL_law_1076 : decode cL_law 1076 = .ok (.iconst 5, 1) := by decide +kernel
theorem dL_law_1077 : decode cL_law 1077 = .ok (.iaload, 1) := by decide +kernel
theorem dL_law_1078 : decode cL_law 1078 = .ok (.isub, 1) := by decide +kernel
theorem dL_law_1079 : decode cL_law 1079 = .ok (.invokestatic 128, 3) := by decide +kernel
theorem dL_law_1082 : decode cL_law 1082 = .ok (.iconst 2, 1) := by decide +kernel
theorem dL_law_1083 : decode cL_law 1083 = .ok (.if_icmp .ge 49, 3) := by decide +kernel
theorem dL_law_1086 : decode cL_law 1086 = .ok (.aload 8, 2) := by decide +kernel
theorem dL_law_1088 : decode cL_law 1088 = .ok (.iload 29, 2) := by decide +kernel
theorem dL_law_1090 : decode cL_law 1090 = .ok (.aaload, 1) := by decide +kernel
theorem dL_law_1091 : decode cL_law 1091 = .ok (.iload 26, 2) := by decide +kernel
theorem dL_law_1093 : decode cL_law 1093 = .ok (.iaload, 1) := by decide +kernel
theorem dL_law_1094 : decode cL_law 1094 = .ok (.ifCond .le 38, 3) := by decide +kernel
theorem dL_law_1097 : decode cL_law 1097 = .ok (.aload 8, 2) := by decide +kernel
theorem dL_law_1099 : decode cL_law 1099 = .ok (.iload 29, 2) := by decide +kernel
theorem dL_law_1101 : decode cL_law 1101 = .ok (.aaload, 1) := by decide +kernel
theorem dL_law_1102 : decode cL_law 1102 = .ok (.iload 26, 2) := by decide +kernel
theorem dL_law_1104 : decode cL_law 1104 = .ok (.iaload, 1) := by decide +kernel
theorem dL_law_1105 : decode cL_law 1105 = .ok (.iload 27, 2) := by decide +kernel
theorem dL_law_1107 : decode cL_law 1107 = .ok (.if_icmp .eq 21, 3) := by decide +kernel
theorem dL_law_1110 : decode cL_law 1110 = .ok (.aload 8, 2) := by decide +kernel
theorem dL_law_1112 : decode cL_law 1112 = .ok (.iload 29, 2) := by decide +kernel
theorem dL_law_1114 : decode cL_law 1114 = .ok (.aaload, 1) := by decide +kernel
theorem dL_law_1115 : decode cL_law 1115 = .ok (.iload 26, 2) := by decide +kernel
theorem dL_law_1117 : decode cL_law 1117 = .ok (.iaload, 1) := by decide +kernel
theorem dL_law_1118 : decode cL_law 1118 = .ok (.bipush 99, 2) := by decide +kernel
theorem dL_law_1120 : decode cL_law 1120 = .ok (.irem, 1) := by decide +kernel
theorem dL_law_1121 : decode cL_law 1121 = .ok (.iconst 1, 1) := by decide +kernel
theorem dL_law_1122 : decode cL_law 1122 = .ok (.iadd, 1) := by decide +kernel
theorem dL_law_1123 : decode cL_law 1123 = .ok (.iload 27, 2) := by decide +kernel
theorem dL_law_1125 : decode cL_law 1125 = .ok (.if_icmp .ne 7, 3) := by decide +kernel
theorem dL_law_1128 : decode cL_law 1128 = .ok (.iconst 1, 1) := by decide +kernel
theorem dL_law_1129 : decode cL_law 1129 = .ok (.goto 4, 3) := by decide +kernel
theorem dL_law_1132 : decode cL_law 1132 = .ok (.iconst 0, 1) := by decide +kernel
theorem dL_law_1133 : decode cL_law 1133 = .ok (.istore 28, 2) := by decide +kernel
theorem dL_law_1135 : decode cL_law 1135 = .ok (.iinc 29 1, 3) := by decide +kernel
theorem dL_law_1138 : decode cL_law 1138 = .ok (.goto (-104), 3) := by decide +kernel
theorem dL_law_1141 : decode cL_law 1141 = .ok (.aload 8, 2) := by decide +kernel
theorem dL_law_1143 : decode cL_law 1143 = .ok (.iload 20, 2) := by decide +kernel
theorem dL_law_1145 : decode cL_law 1145 = .ok (.aaload, 1) := by decide +kernel
theorem dL_law_1146 : decode cL_law 1146 = .ok (.iload 26, 2) := by decide +kernel
theorem dL_law_1148 : decode cL_law 1148 = .ok (.iaload, 1) := by decide +kernel
theorem dL_law_1149 : decode cL_law 1149 = .ok (.ifCond .ne 19, 3) := by decide +kernel
theorem dL_law_1152 : decode cL_law 1152 = .ok (.aload 7, 2) := by decide +kernel
theorem dL_law_1154 : decode cL_law 1154 = .ok (.iload 20, 2) := by decide +kernel
theorem dL_law_1156 : decode cL_law 1156 = .ok (.aaload, 1) := by decide +kernel
theorem dL_law_1157 : decode cL_law 1157 = .ok (.iconst 4, 1) := by decide +kernel
theorem dL_law_1158 : decode cL_law 1158 = .ok (.iaload, 1) := by decide +kernel
theorem dL_law_1159 : decode cL_law 1159 = .ok (.iconst 1, 1) := by decide +kernel
theorem dL_law_1160 : decode cL_law 1160 = .ok (.if_icmp .ne 8, 3) := by decide +kernel
theorem dL_law_1163 : decode cL_law 1163 = .ok (.iload 28, 2) := by decide +kernel
theorem dL_law_1165 : decode cL_law 1165 = .ok (.ifCond .ne 5, 3) := by decide +kernel
theorem dL_law_1168 : decode cL_law 1168 = .ok (.iconst 0, 1) := by decide +kernel
theorem dL_law_1169 : decode cL_law 1169 = .ok (.ireturn, 1) := by decide +kernel
theorem dL_law_1170 : decode cL_law 1170 = .ok (.iinc 26 1, 3) := by decide +kernel
theorem dL_law_1173 : decode cL_law 1173 = .ok (.goto (-192), 3) := by decide +kernel
theorem dL_law_1176 : decode cL_law 1176 = .ok (.iinc 20 1, 3) := by decide +kernel
theorem dL_law_1179 : decode cL_law 1179 = .ok (.goto (-726), 3) := by decide +kernel
theorem dL_law_1182 : decode cL_law 1182 = .ok (.iload 18, 2) := by decide +kernel
theorem dL_law_1184 : decode cL_law 1184 = .ok (.iload 16, 2) := by decide +kernel
theorem dL_law_1186 : decode cL_law 1186 = .ok (.if_icmp .ne 10, 3) := by decide +kernel
theorem dL_law_1189 : decode cL_law 1189 = .ok (.iload 17, 2) := by decide +kernel
theorem dL_law_1191 : decode cL_law 1191 = .ok (.iload 14, 2) := by decide +kernel
theorem dL_law_1193 : decode cL_law 1193 = .ok (.if_icmp .eq 5, 3) := by decide +kernel
theorem dL_law_1196 : decode cL_law 1196 = .ok (.iconst 0, 1) := by decide +kernel
theorem dL_law_1197 : decode cL_law 1197 = .ok (.ireturn, 1) := by decide +kernel
theorem dL_law_1198 : decode cL_law 1198 = .ok (.aload 19, 2) := by decide +kernel
theorem dL_law_1200 : decode cL_law 1200 = .ok (.astore 20, 2) := by decide +kernel
theorem dL_law_1202 : decode cL_law 1202 = .ok (.aload 20, 2) := by decide +kernel
theorem dL_law_1204 : decode cL_law 1204 = .ok (.arraylength, 1) := by decide +kernel
theorem dL_law_1205 : decode cL_law 1205 = .ok (.istore 21, 2) := by decide +kernel
theorem dL_law_1207 : decode cL_law 1207 = .ok (.iconst 0, 1) := by decide +kernel
theorem dL_law_1208 : decode cL_law 1208 = .ok (.istore 22, 2) := by decide +kernel
theorem dL_law_1210 : decode cL_law 1210 = .ok (.iload 22, 2) := by decide +kernel
theorem dL_law_1212 : decode cL_law 1212 = .ok (.iload 21, 2) := by decide +kernel
theorem dL_law_1214 : decode cL_law 1214 = .ok (.if_icmp .ge 24, 3) := by decide +kernel
theorem dL_law_1217 : decode cL_law 1217 = .ok (.aload 20, 2) := by decide +kernel
theorem dL_law_1219 : decode cL_law 1219 = .ok (.iload 22, 2) := by decide +kernel
theorem dL_law_1221 : decode cL_law 1221 = .ok (.iaload, 1) := by decide +kernel
theorem dL_law_1222 : decode cL_law 1222 = .ok (.istore 23, 2) := by decide +kernel
theorem dL_law_1224 : decode cL_law 1224 = .ok (.iload 23, 2) := by decide +kernel
theorem dL_law_1226 : decode cL_law 1226 = .ok (.iconst 2, 1) := by decide +kernel
theorem dL_law_1227 : decode cL_law 1227 = .ok (.if_icmp .le 5, 3) := by decide +kernel
theorem dL_law_1230 : decode cL_law 1230 = .ok (.iconst 0, 1) := by decide +kernel
theorem dL_law_1231 : decode cL_law 1231 = .ok (.ireturn, 1) := by decide +kernel
theorem dL_law_1232 : decode cL_law 1232 = .ok (.iinc 22 1, 3) := by decide +kernel
theorem dL_law_1235 : decode cL_law 1235 = .ok (.goto (-25), 3) := by decide +kernel
theorem dL_law_1238 : decode cL_law 1238 = .ok (.iconst 0, 1) := by decide +kernel
theorem dL_law_1239 : decode cL_law 1239 = .ok (.istore 20, 2) := by decide +kernel
theorem dL_law_1241 : decode cL_law 1241 = .ok (.iload 20, 2) := by decide +kernel
theorem dL_law_1243 : decode cL_law 1243 = .ok (.aload_n 2, 1) := by decide +kernel
theorem dL_law_1244 : decode cL_law 1244 = .ok (.getfield 86, 3) := by decide +kernel
theorem dL_law_1247 : decode cL_law 1247 = .ok (.arraylength, 1) := by decide +kernel
theorem dL_law_1248 : decode cL_law 1248 = .ok (.if_icmp .ge 164, 3) := by decide +kernel
theorem dL_law_1251 : decode cL_law 1251 = .ok (.aload_n 1, 1) := by decide +kernel
theorem dL_law_1252 : decode cL_law 1252 = .ok (.iload 20, 2) := by decide +kernel
theorem dL_law_1254 : decode cL_law 1254 = .ok (.iconst 4, 1) := by decide +kernel
theorem dL_law_1255 : decode cL_law 1255 = .ok (.invokevirtual 108, 3) := by decide +kernel
theorem dL_law_1258 : decode cL_law 1258 = .ok (.aload 10, 2) := by decide +kernel
theorem dL_law_1260 : decode cL_law 1260 = .ok (.iload 20, 2) := by decide +kernel
theorem dL_law_1262 : decode cL_law 1262 = .ok (.aaload, 1) := by decide +kernel
theorem dL_law_1263 : decode cL_law 1263 = .ok (.iconst 4, 1) := by decide +kernel
theorem dL_law_1264 : decode cL_law 1264 = .ok (.iaload, 1) := by decide +kernel
theorem dL_law_1265 : decode cL_law 1265 = .ok (.isub, 1) := by decide +kernel
