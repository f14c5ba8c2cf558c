theorem d_Lw_law_991 : decode b_Lw_law 991 = .ok (.aload_n 1, 1) := by decide +kernel
theorem d_Lw_law_992 : decode b_Lw_law 992 = .ok (.aload_n 0, 1) := by decide +kernel
theorem d_Lw_law_993 : decode b_Lw_law 993 = .ok (.iload 4, 2) := by decide +kernel
theorem d_Lw_law_995 : decode b_Lw_law 995 = .ok (.iconst 1, 1) := by decide +kernel
theorem d_Lw_law_996 : decode b_Lw_law 996 = .ok (.iadd, 1) := by decide +kernel
theorem d_Lw_law_997 : decode b_Lw_law 997 = .ok (.iaload, 1) := by decide +kernel
theorem d_Lw_law_998 : decode b_Lw_law 998 = .ok (.aload_n 0, 1) := by decide +kernel
theorem d_Lw_law_999 : decode b_Lw_law 999 = .ok (.iload 4, 2) := by decide +kernel
theorem d_Lw_law_1001 : decode b_Lw_law 1001 = .ok (.iconst 2, 1) := by decide +kernel
theorem d_Lw_law_1002 : decode b_Lw_law 1002 = .ok (.iadd, 1) := by decide +kernel
theorem d_Lw_law_1003 : decode b_Lw_law 1003 = .ok (.iaload, 1) := by decide +kernel
theorem d_Lw_law_1004 : decode b_Lw_law 1004 = .ok (.aload_n 3, 1) := by decide +kernel
theorem d_Lw_law_1005 : decode b_Lw_law 1005 = .ok (.invokestatic 127, 3) := by decide +kernel
theorem d_Lw_law_1008 : decode b_Lw_law 1008 = .ok (.istore 5, 2) := by decide +kernel
theorem d_Lw_law_1010 : decode b_Lw_law 1010 = .ok (.aload_n 2, 1) := by decide +kernel
theorem d_Lw_law_1011 : decode b_Lw_law 1011 = .ok (.aload_n 0, 1) := by decide +kernel
theorem d_Lw_law_1012 : decode b_Lw_law 1012 = .ok (.iload 4, 2) := by decide +kernel
theorem d_Lw_law_1014 : decode b_Lw_law 1014 = .ok (.iconst 1, 1) := by decide +kernel
theorem d_Lw_law_1015 : decode b_Lw_law 1015 = .ok (.iadd, 1) := by decide +kernel
theorem d_Lw_law_1016 : decode b_Lw_law 1016 = .ok (.iaload, 1) := by decide +kernel
theorem d_Lw_law_1017 : decode b_Lw_law 1017 = .ok (.aload_n 0, 1) := by decide +kernel
theorem d_Lw_law_1018 : decode b_Lw_law 1018 = .ok (.iload 4, 2) := by decide +kernel
theorem d_Lw_law_1020 : decode b_Lw_law 1020 = .ok (.iconst 2, 1) := by decide +kernel
theorem d_Lw_law_1021 : decode b_Lw_law 1021 = .ok (.iadd, 1) := by decide +kernel
theorem d_Lw_law_1022 : decode b_Lw_law 1022 = .ok (.iaload, 1) := by decide +kernel
theorem d_Lw_law_1023 : decode b_Lw_law 1023 = .ok (.invokevirtual 129, 3) := by decide +kernel
theorem d_Lw_law_1026 : decode b_Lw_law 1026 = .ok (.istore 6, 2) := by decide +kernel
theorem d_Lw_law_1028 : decode b_Lw_law 1028 = .ok (.aload_n 2, 1) := by decide +kernel
theorem d_Lw_law_1029 : decode b_Lw_law 1029 = .ok (.invokevirtual 86, 3) := by decide +kernel
theorem d_Lw_law_1032 : decode b_Lw_law 1032 = .ok (.iload 5, 2) := by decide +kernel
theorem d_Lw_law_1034 : decode b_Lw_law 1034 = .ok (.if_icmp .eq 5, 3) := by decide +kernel
theorem d_Lw_law_1039 : decode b_Lw_law 1039 = .ok (.iload 5, 2) := by decide +kernel
theorem d_Lw_law_1041 : decode b_Lw_law 1041 = .ok (.ifCond .ne 15, 3) := by decide +kernel
theorem d_Lw_law_1056 : decode b_Lw_law 1056 = .ok (.goto 307, 3) := by decide +kernel
theorem d_Lw_law_1044 : decode b_Lw_law 1044 = .ok (.aload_n 3, 1) := by decide +kernel
theorem d_Lw_law_1045 : decode b_Lw_law 1045 = .ok (.iconst 0, 1) := by decide +kernel
theorem d_Lw_law_1046 : decode b_Lw_law 1046 = .ok (.laload, 1) := by decide +kernel
theorem d_Lw_law_1047 : decode b_Lw_law 1047 = .ok (.iload 6, 2) := by decide +kernel
theorem d_Lw_law_1049 : decode b_Lw_law 1049 = .ok (.i2l, 1) := by decide +kernel
theorem d_Lw_law_1050 : decode b_Lw_law 1050 = .ok (.lcmp, 1) := by decide +kernel
theorem d_Lw_law_1051 : decode b_Lw_law 1051 = .ok (.ifCond .eq 5, 3) := by decide +kernel
theorem d_Lw_law_1059 : decode b_Lw_law 1059 = .ok (.aload_n 1, 1) := by decide +kernel
theorem d_Lw_law_1060 : decode b_Lw_law 1060 = .ok (.aload_n 0, 1) := by decide +kernel
theorem d_Lw_law_1061 : decode b_Lw_law 1061 = .ok (.iload 4, 2) := by decide +kernel
theorem d_Lw_law_1063 : decode b_Lw_law 1063 = .ok (.iconst 1, 1) := by decide +kernel
theorem d_Lw_law_1064 : decode b_Lw_law 1064 = .ok (.iadd, 1) := by decide +kernel
theorem d_Lw_law_1065 : decode b_Lw_law 1065 = .ok (.iaload, 1) := by decide +kernel
theorem d_Lw_law_1066 : decode b_Lw_law 1066 = .ok (.aload_n 3, 1) := by decide +kernel
theorem d_Lw_law_1067 : decode b_Lw_law 1067 = .ok (.invokestatic 130, 3) := by decide +kernel
theorem d_Lw_law_1070 : decode b_Lw_law 1070 = .ok (.istore 5, 2) := by decide +kernel
theorem d_Lw_law_1072 : decode b_Lw_law 1072 = .ok (.aload_n 2, 1) := by decide +kernel
theorem d_Lw_law_1073 : decode b_Lw_law 1073 = .ok (.aload_n 0, 1) := by decide +kernel
theorem d_Lw_law_1074 : decode b_Lw_law 1074 = .ok (.iload 4, 2) := by decide +kernel
theorem d_Lw_law_1076 : decode b_Lw_law 1076 = .ok (.iconst 1, 1) := by decide +kernel
theorem d_Lw_law_1077 : decode b_Lw_law 1077 = .ok (.iadd, 1) := by decide +kernel
theorem d_Lw_law_1078 : decode b_Lw_law 1078 = .ok (.iaload, 1) := by decide +kernel
theorem d_Lw_law_1079 : decode b_Lw_law 1079 = .ok (.invokevirtual 132, 3) := by decide +kernel
theorem d_Lw_law_1082 : decode b_Lw_law 1082 = .ok (.istore 6, 2) := by decide +kernel
theorem d_Lw_law_1084 : decode b_Lw_law 1084 = .ok (.aload_n 2, 1) := by decide +kernel
theorem d_Lw_law_1085 : decode b_Lw_law 1085 = .ok (.invokevirtual 86, 3) := by decide +kernel
theorem d_Lw_law_1088 : decode b_Lw_law 1088 = .ok (.iload 5, 2) := by decide +kernel
theorem d_Lw_law_1090 : decode b_Lw_law 1090 = .ok (.if_icmp .eq 5, 3) := by decide +kernel
theorem d_Lw_law_1095 : decode b_Lw_law 1095 = .ok (.iload 5, 2) := by decide +kernel
theorem d_Lw_law_1097 : decode b_Lw_law 1097 = .ok (.ifCond .ne 15, 3) := by decide +kernel
theorem d_Lw_law_1112 : decode b_Lw_law 1112 = .ok (.goto 251, 3) := by decide +kernel
theorem d_Lw_law_1100 : decode b_Lw_law 1100 = .ok (.aload_n 3, 1) := by decide +kernel
theorem d_Lw_law_1101 : decode b_Lw_law 1101 = .ok (.iconst 0, 1) := by decide +kernel
theorem d_Lw_law_1102 : decode b_Lw_law 1102 = .ok (.laload, 1) := by decide +kernel
theorem d_Lw_law_1103 : decode b_Lw_law 1103 = .ok (.iload 6, 2) := by decide +kernel
theorem d_Lw_law_1105 : decode b_Lw_law 1105 = .ok (.i2l, 1) := by decide +kernel
theorem d_Lw_law_1106 : decode b_Lw_law 1106 = .ok (.lcmp, 1) := by decide +kernel
theorem d_Lw_law_1107 : decode b_Lw_law 1107 = .ok (.ifCond .eq 5, 3) := by decide +kernel
theorem d_Lw_law_1115 : decode b_Lw_law 1115 = .ok (.aload_n 1, 1) := by decide +kernel
theorem d_Lw_law_1116 : decode b_Lw_law 1116 = .ok (.invokevirtual 133, 3) := by decide +kernel
theorem d_Lw_law_1119 : decode b_Lw_law 1119 = .ok (.aload_n 2, 1) := by decide +kernel
theorem d_Lw_law_1120 : decode b_Lw_law 1120 = .ok (.invokevirtual 136, 3) := by decide +kernel
theorem d_Lw_law_1123 : decode b_Lw_law 1123 = .ok (.if_icmp .eq 240, 3) := by decide +kernel
theorem d_Lw_law_1128 : decode b_Lw_law 1128 = .ok (.aload_n 1, 1) := by decide +kernel
theorem d_Lw_law_1129 : decode b_Lw_law 1129 = .ok (.aload_n 0, 1) := by decide +kernel
theorem d_Lw_law_1130 : decode b_Lw_law 1130 = .ok (.iload 4, 2) := by decide +kernel
theorem d_Lw_law_1132 : decode b_Lw_law 1132 = .ok (.iconst 1, 1) := by decide +kernel
theorem d_Lw_law_1133 : decode b_Lw_law 1133 = .ok (.iadd, 1) := by decide +kernel
theorem d_Lw_law_1134 : decode b_Lw_law 1134 = .ok (.iaload, 1) := by decide +kernel
theorem d_Lw_law_1135 : decode b_Lw_law 1135 = .ok (.aload_n 3, 1) := by decide +kernel
theorem d_Lw_law_1136 : decode b_Lw_law 1136 = .ok (.invokestatic 137, 3) := by decide +kernel
theorem d_Lw_law_1139 : decode b_Lw_law 1139 = .ok (.istore 5, 2) := by decide +kernel
theorem d_Lw_law_1141 : decode b_Lw_law 1141 = .ok (.aload_n 2, 1) := by decide +kernel
theorem d_Lw_law_1142 : decode b_Lw_law 1142 = .ok (.aload_n 0, 1) := by decide +kernel
theorem d_Lw_law_1143 : decode b_Lw_law 1143 = .ok (.iload 4, 2) := by decide +kernel
theorem d_Lw_law_1145 : decode b_Lw_law 1145 = .ok (.iconst 1, 1) := by decide +kernel
theorem d_Lw_law_1146 : decode b_Lw_law 1146 = .ok (.iadd, 1) := by decide +kernel
theorem d_Lw_law_1147 : decode b_Lw_law 1147 = .ok (.iaload, 1) := by decide +kernel
theorem d_Lw_law_1148 : decode b_Lw_law 1148 = .ok (.invokevirtual 139, 3) := by decide +kernel
theorem d_Lw_law_1151 : decode b_Lw_law 1151 = .ok (.istore 6, 2) := by decide +kernel
theorem d_Lw_law_1153 : decode b_Lw_law 1153 = .ok (.aload_n 2, 1) := by decide +kernel
theorem d_Lw_law_1154 : decode b_Lw_law 1154 = .ok (.invokevirtual 86, 3) := by decide +kernel
theorem d_Lw_law_1157 : decode b_Lw_law 1157 = .ok (.iload 5, 2) := by decide +kernel
theorem d_Lw_law_1159 : decode b_Lw_law 1159 = .ok (.if_icmp .eq 5, 3) := by decide +kernel
theorem d_Lw_law_1164 : decode b_Lw_law 1164 = .ok (.iload 5, 2) := by decide +kernel
theorem d_Lw_law_1166 : decode b_Lw_law 1166 = .ok (.ifCond .ne 15, 3) := by decide +kernel
theorem d_Lw_law_1181 : decode b_Lw_law 1181 = .ok (.goto 182, 3) := by decide +kernel
theorem d_Lw_law_1184 : decode b_Lw_law 1184 = .ok (.aload_n 1, 1) := by decide +kernel
theorem d_Lw_law_1185 : decode b_Lw_law 1185 = .ok (.aload_n 0, 1) := by decide +kernel
theorem d_Lw_law_1186 : decode b_Lw_law 1186 = .ok (.iload 4, 2) := by decide +kernel
theorem d_Lw_law_1188 : decode b_Lw_law 1188 = .ok (.iconst 1, 1) := by decide +kernel
theorem d_Lw_law_1189 : decode b_Lw_law 1189 = .ok (.iadd, 1) := by decide +kernel
theorem d_Lw_law_1190 : decode b_Lw_law 1190 = .ok (.iaload, 1) := by decide +kernel
theorem d_Lw_law_1191 : decode b_Lw_law 1191 = .ok (.aload_n 3, 1) := by decide +kernel
theorem d_Lw_law_1192 : decode b_Lw_law 1192 = .ok (.invokestatic 140, 3) := by decide +kernel
theorem d_Lw_law_1195 : decode b_Lw_law 1195 = .ok (.istore 5, 2) := by decide +kernel
theorem d_Lw_law_1197 : decode b_Lw_law 1197 = .ok (.aload_n 2, 1) := by decide +kernel
theorem d_Lw_law_1198 : decode b_Lw_law 1198 = .ok (.aload_n 0, 1) := by decide +kernel
theorem d_Lw_law_1199 : decode b_Lw_law 1199 = .ok (.iload 4, 2) := by decide +kernel
theorem d_Lw_law_1201 : decode b_Lw_law 1201 = .ok (.iconst 1, 1) := by decide +kernel
theorem d_Lw_law_1202 : decode b_Lw_law 1202 = .ok (.iadd, 1) := by decide +kernel
theorem d_Lw_law_1203 : decode b_Lw_law 1203 = .ok (.iaload, 1) := by decide +kernel
theorem d_Lw_law_1204 : decode b_Lw_law 1204 = .ok (.invokevirtual 142, 3) := by decide +kernel
theorem d_Lw_law_1207 : decode b_Lw_law 1207 = .ok (.istore 6, 2) := by decide +kernel
theorem d_Lw_law_1209 : decode b_Lw_law 1209 = .ok (.aload_n 2, 1) := by decide +kernel
theorem d_Lw_law_1210 : decode b_Lw_law 1210 = .ok (.invokevirtual 86, 3) := by decide +kernel
theorem d_Lw_law_1213 : decode b_Lw_law 1213 = .ok (.iload 5, 2) := by decide +kernel
theorem d_Lw_law_1215 : decode b_Lw_law 1215 = .ok (.if_icmp .eq 5, 3) := by decide +kernel
theorem d_Lw_law_1220 : decode b_Lw_law 1220 = .ok (.iload 5, 2) := by decide +kernel
theorem d_Lw_law_1222 : decode b_Lw_law 1222 = .ok (.ifCond .ne 15, 3) := by decide +kernel
theorem d_Lw_law_1237 : decode b_Lw_law 1237 = .ok (.goto 126, 3) := by decide +kernel
theorem d_Lw_law_1225 : decode b_Lw_law 1225 = .ok (.aload_n 3, 1) := by decide +kernel
theorem d_Lw_law_1226 : decode b_Lw_law 1226 = .ok (.iconst 0, 1) := by decide +kernel
theorem d_Lw_law_1227 : decode b_Lw_law 1227 = .ok (.laload, 1) := by decide +kernel
theorem d_Lw_law_1228 : decode b_Lw_law 1228 = .ok (.iload 6, 2) := by decide +kernel
theorem d_Lw_law_1230 : decode b_Lw_law 1230 = .ok (.i2l, 1) := by decide +kernel
theorem d_Lw_law_1231 : decode b_Lw_law 1231 = .ok (.lcmp, 1) := by decide +kernel
theorem d_Lw_law_1232 : decode b_Lw_law 1232 = .ok (.ifCond .eq 5, 3) := by decide +kernel
theorem d_Lw_law_1240 : decode b_Lw_law 1240 = .ok (.aload_n 1, 1) := by decide +kernel
theorem d_Lw_law_1241 : decode b_Lw_law 1241 = .ok (.aload_n 0, 1) := by decide +kernel
theorem d_Lw_law_1242 : decode b_Lw_law 1242 = .ok (.iload 4, 2) := by decide +kernel
theorem d_Lw_law_1244 : decode b_Lw_law 1244 = .ok (.iconst 1, 1) := by decide +kernel
theorem d_Lw_law_1245 : decode b_Lw_law 1245 = .ok (.iadd, 1) := by decide +kernel
theorem d_Lw_law_1246 : decode b_Lw_law 1246 = .ok (.iaload, 1) := by decide +kernel
theorem d_Lw_law_1247 : decode b_Lw_law 1247 = .ok (.aload_n 3, 1) := by decide +kernel
theorem d_Lw_law_1248 : decode b_Lw_law 1248 = .ok (.invokestatic 143, 3) := by decide +kernel
theorem d_Lw_law_1251 : decode b_Lw_law 1251 = .ok (.istore 5, 2) := by decide +kernel
theorem d_Lw_law_1253 : decode b_Lw_law 1253 = .ok (.aload_n 2, 1) := by decide +kernel
theorem d_Lw_law_1254 : decode b_Lw_law 1254 = .ok (.aload_n 0, 1) := by decide +kernel
theorem d_Lw_law_1255 : decode b_Lw_law 1255 = .ok (.iload 4, 2) := by decide +kernel
theorem d_Lw_law_1257 : decode b_Lw_law 1257 = .ok (.iconst 1, 1) := by decide +kernel
theorem d_Lw_law_1258 : decode b_Lw_law 1258 = .ok (.iadd, 1) := by decide +kernel
theorem d_Lw_law_1259 : decode b_Lw_law 1259 = .ok (.iaload, 1) := by decide +kernel
theorem d_Lw_law_1260 : decode b_Lw_law 1260 = .ok (.invokevirtual 145, 3) := by decide +kernel
theorem d_Lw_law_1263 : decode b_Lw_law 1263 = .ok (.istore 6, 2) := by decide +kernel
theorem d_Lw_law_1265 : decode b_Lw_law 1265 = .ok (.aload_n 2, 1) := by decide +kernel
theorem d_Lw_law_1266 : decode b_Lw_law 1266 = .ok (.invokevirtual 86, 3) := by decide +kernel
theorem d_Lw_law_1269 : decode b_Lw_law 1269 = .ok (.iload 5, 2) := by decide +kernel
theorem d_Lw_law_1271 : decode b_Lw_law 1271 = .ok (.if_icmp .eq 5, 3) := by decide +kernel
theorem d_Lw_law_1276 : decode b_Lw_law 1276 = .ok (.iload 5, 2) := by decide +kernel
theorem d_Lw_law_1278 : decode b_Lw_law 1278 = .ok (.ifCond .ne 15, 3) := by decide +kernel
theorem d_Lw_law_1293 : decode b_Lw_law 1293 = .ok (.goto 70, 3) := by decide +kernel
theorem d_Lw_law_1281 : decode b_Lw_law 1281 = .ok (.aload_n 3, 1) := by decide +kernel
theorem d_Lw_law_1282 : decode b_Lw_law 1282 = .ok (.iconst 0, 1) := by decide +kernel
theorem d_Lw_law_1283 : decode b_Lw_law 1283 = .ok (.laload, 1) := by decide +kernel
theorem d_Lw_law_1284 : decode b_Lw_law 1284 = .ok (.iload 6, 2) := by decide +kernel
theorem d_Lw_law_1286 : decode b_Lw_law 1286 = .ok (.i2l, 1) := by decide +kernel
theorem d_Lw_law_1287 : decode b_Lw_law 1287 = .ok (.lcmp, 1) := by decide +kernel
theorem d_Lw_law_1288 : decode b_Lw_law 1288 = .ok (.ifCond .eq 5, 3) := by decide +kernel
theorem d_Lw_law_1296 : decode b_Lw_law 1296 = .ok (.aload_n 1, 1) := by decide +kernel
theorem d_Lw_law_1297 : decode b_Lw_law 1297 = .ok (.aload_n 0, 1) := by decide +kernel
theorem d_Lw_law_1298 : decode b_Lw_law 1298 = .ok (.iload 4, 2) := by decide +kernel
theorem d_Lw_law_1300 : decode b_Lw_law 1300 = .ok (.iconst 1, 1) := by decide +kernel
theorem d_Lw_law_1301 : decode b_Lw_law 1301 = .ok (.iadd, 1) := by decide +kernel
theorem d_Lw_law_1302 : decode b_Lw_law 1302 = .ok (.iaload, 1) := by decide +kernel
theorem d_Lw_law_1303 : decode b_Lw_law 1303 = .ok (.aload_n 0, 1) := by decide +kernel
theorem d_Lw_law_1304 : decode b_Lw_law 1304 = .ok (.iload 4, 2) := by decide +kernel
theorem d_Lw_law_1306 : decode b_Lw_law 1306 = .ok (.iconst 2, 1) := by decide +kernel
theorem d_Lw_law_1307 : decode b_Lw_law 1307 = .ok (.iadd, 1) := by decide +kernel
theorem d_Lw_law_1308 : decode b_Lw_law 1308 = .ok (.iaload, 1) := by decide +kernel
theorem d_Lw_law_1309 : decode b_Lw_law 1309 = .ok (.aload_n 3, 1) := by decide +kernel
theorem d_Lw_law_1310 : decode b_Lw_law 1310 = .ok (.invokestatic 146, 3) := by decide +kernel
theorem d_Lw_law_1313 : decode b_Lw_law 1313 = .ok (.istore 5, 2) := by decide +kernel
theorem d_Lw_law_1315 : decode b_Lw_law 1315 = .ok (.aload_n 2, 1) := by decide +kernel
theorem d_Lw_law_1316 : decode b_Lw_law 1316 = .ok (.aload_n 0, 1) := by decide +kernel
theorem d_Lw_law_1317 : decode b_Lw_law 1317 = .ok (.iload 4, 2) := by decide +kernel
theorem d_Lw_law_1319 : decode b_Lw_law 1319 = .ok (.iconst 1, 1) := by decide +kernel
theorem d_Lw_law_1320 : decode b_Lw_law 1320 = .ok (.iadd, 1) := by decide +kernel
theorem d_Lw_law_1321 : decode b_Lw_law 1321 = .ok (.iaload, 1) := by decide +kernel
theorem d_Lw_law_1322 : decode b_Lw_law 1322 = .ok (.aload_n 0, 1) := by decide +kernel
theorem d_Lw_law_1323 : decode b_Lw_law 1323 = .ok (.iload 4, 2) := by decide +kernel
theorem d_Lw_law_1325 : decode b_Lw_law 1325 = .ok (.iconst 2, 1) := by decide +kernel
theorem d_Lw_law_1326 : decode b_Lw_law 1326 = .ok (.iadd, 1) := by decide +kernel
theorem d_Lw_law_1327 : decode b_Lw_law 1327 = .ok (.iaload, 1) := by decide +kernel
theorem d_Lw_law_1328 : decode b_Lw_law 1328 = .ok (.invokevirtual 148, 3) := by decide +kernel
theorem d_Lw_law_1331 : decode b_Lw_law 1331 = .ok (.lstore 6, 2) := by decide +kernel
theorem d_Lw_law_1333 : decode b_Lw_law 1333 = .ok (.aload_n 2, 1) := by decide +kernel
theorem d_Lw_law_1334 : decode b_Lw_law 1334 = .ok (.invokevirtual 86, 3) := by decide +kernel
theorem d_Lw_law_1337 : decode b_Lw_law 1337 = .ok (.iload 5, 2) := by decide +kernel
theorem d_Lw_law_1339 : decode b_Lw_law 1339 = .ok (.if_icmp .eq 5, 3) := by decide +kernel
theorem d_Lw_law_1344 : decode b_Lw_law 1344 = .ok (.iload 5, 2) := by decide +kernel
theorem d_Lw_law_1346 : decode b_Lw_law 1346 = .ok (.ifCond .ne 14, 3) := by decide +kernel
theorem d_Lw_law_1360 : decode b_Lw_law 1360 = .ok (.goto 3, 3) := by decide +kernel
set_option maxHeartbeats 4000000 in
set_option maxRecDepth 100000 in
theorem lw_case11 {p : Program} {l : Launch} {e : Env} {s : State} {m : MethodId} {args : Array Value} {below : List Frame} {meth : Method} {c : Code} {Q : State → Prop} {A : Nat → Prop} {b : Nat} {xs : Nat → Int32} {H : Heap} {locs : List Loc} {ls : Array Slot} (dC : Nat → ClassId) (dI : Nat → Nat → Nat) (cT : Nat → ClassId) (ds : Nat) (dr : Nat) (sv : Nat) (rr : Nat) (se : Nat) (pw : Nat) (g0 : Nat) (ty : Nat) (an : Nat) (aw : Nat) (ts : Nat) (ss : Nat) (rq : Nat) (sh : Nat) (sr : Nat) (uh : Nat) (ur : Nat) (tx : Nat) (tr : Nat) (wo : Nat) (di : Nat) (ar : Nat) (a1 : Nat) (t1 : Nat) (s1 : Nat) (sa : Nat) (mo : Nat) (ou : Nat) (st us : Nat) (gs gp : Nat → Option Nat) (df sf mc mz mf mZ : Nat → Int32) (mS mQ fo : Nat → Int64) (mq : Nat → Nat) (hx : p.tables.exec = Jvm.exec) (hb : c.code = b_Lw_law) (hml : c.maxLocals = 8) (hown : s.vm.findClass "DoorServerLaw" = some m.cls) (hg : ∀ w ∈ BIG, w.before args s = true) (hX : va_X b 5 xs s s.heap) (hbl : b < s.heap.size) (hbA : ¬ A b) (hA : ∀ q : Nat, s.heap.size ≤ q → A q) (hK : va_K (dC, dI) vcl (tyL cT) s) (hfl : l.flags = pinnedFlags ++ [noTraceFlag]) (hXm : xm A s s.heap) (hXz : xz_T A s s.heap) (hst : st < 4) (hus : us < 32) (hgs : gs st = some sh) (hgp : gp us = some uh) (hst1 : ¬ xs 1 < 0 → ¬ 3 < xs 1 → xs 1 = nI st) (hus1 : ¬ xs 1 < 0 → ¬ 31 < xs 1 → xs 1 = nI us) (hdf : df 0 = 1 ∧ df 1 = 0 ∧ df 2 = 0 ∧ df 3 = 20 ∧ ∀ q9, q9 < 8 → df (4 + q9) = bn_at 0 q9 ∧ df (12 + q9) = bn_at 0 q9 ^^^ 90) (hmf : mf 0 = 1 ∧ mf 1 = 0 ∧ mf 2 = 0 ∧ mf 3 = 20 ∧ ∀ k9, k9 < 16 → mf (4 + k9) = mb_at 0 k9) (hmz : ∀ q9, q9 < 4 → mz q9 = 1) (hz : mZ 14 = 0 ∧ mZ 17 = 0 ∧ mZ 24 = 0 ∧ mZ 33 = 0 ∧ mZ 43 = 0 ∧ mZ 44 = 0) (kk : ∀ (H : Heap) (locs : List Loc) (ls : Array Slot), va_S A s.heap H locs → lv_has ls 8 [(0, .ref b), (4, .int 0)] → W p l e room_1 s m args below meth c H locs 900 33000 Q (F0 m 1363 ls [])) (hP : va_P (dC, dI) vcl [(ds, .inr (0, [.ref dr, .ref sv])), (dr, .inr (2, [.ref rr, .int (nI 20)])), (rr, .inl ((cT 0), 1000, .inl df)), (sv, .inr (5, [.ref se, .ref pw, .ref g0, .ref ty, .ref an, .ref aw, .ref ts, .ref ss, .ref rq, .int 0, .int 0, .int 0])), (se, .inl ((cT 2), 4, .inr (.inr (.inr (.inr gs))))), (sh, .inr (1, [.ref sr, .int (nI 1)])), (sr, .inl ((cT 0), 40, .inl sf)), (pw, .inl ((cT 2), 32, .inr (.inr (.inr (.inr gp))))), (uh, .inr (1, [.ref ur, .int 0])), (ur, .inl ((cT 0), 60, .inl (fun _ => 0))), (g0, .inr (3, [.ref tx, .ref wo, .ref di, .int 0, .int 0, .int 0, .int 0])), (tx, .inr (1, [.ref tr, .int (nI 0)])), (tr, .inl ((cT 0), 1192, .inl (fun _ => 0))), (wo, .inl ((cT 0), 16, .inl (fun _ => 0))), (di, .inl ((cT 0), 16, .inl (fun _ => 0))), (an, .inr (2, [.ref ar, .int 0])), (ar, .inl ((cT 0), 72, .inl (fun _ => 0))), (aw, .inr (6, [.ref a1, .int 0, .int 0])), (ts, .inr (9, [.ref t1, .long 0, .long 1, .int 0])), (ss, .inr (11, [.ref s1, .int 0])), (rq, .inr (4, [.ref dr, .ref sa])), (sa, .inl ((cT 0), 256, .inl (fun _ => 0))), (mo, .inr (12, mdF mq mZ mQ 0 0 (nI 20) (nI 0))), (mq 0, .inl ((cT 1), 64, .inr (.inl mS))), (mq 3, .inl ((cT 0), 160, .inl mc)), (mq 4, .inl ((cT 0), 4, .inl mz)), (mq 5, .inl ((cT 0), 1920, .inl (fun _ => 0))), (mq 6, .inl ((cT 0), 32, .inl (fun _ => 0))), (mq 7, .inl ((cT 0), 1000, .inl mf)), (mq 9, .inl ((cT 0), 1400, .inl (fun _ => 0))), (mq 11, .inl ((cT 0), 16, .inl (fun _ => 0))), (mq 12, .inl ((cT 0), 1200, .inl (fun _ => 0))), (ou, .inl ((cT 1), 1, .inr (.inl fo)))] H) (hD : va_D A [(ds, .inr (0, [.ref dr, .ref sv])), (dr, .inr (2, [.ref rr, .int (nI 20)])), (rr, .inl ((cT 0), 1000, .inl df)), (sv, .inr (5, [.ref se, .ref pw, .ref g0, .ref ty, .ref an, .ref aw, .ref ts, .ref ss, .ref rq, .int 0, .int 0, .int 0])), (se, .inl ((cT 2), 4, .inr (.inr (.inr (.inr gs))))), (sh, .inr (1, [.ref sr, .int (nI 1)])), (sr, .inl ((cT 0), 40, .inl sf)), (pw, .inl ((cT 2), 32, .inr (.inr (.inr (.inr gp))))), (uh, .inr (1, [.ref ur, .int 0])), (ur, .inl ((cT 0), 60, .inl (fun _ => 0))), (g0, .inr (3, [.ref tx, .ref wo, .ref di, .int 0, .int 0, .int 0, .int 0])), (tx, .inr (1, [.ref tr, .int (nI 0)])), (tr, .inl ((cT 0), 1192, .inl (fun _ => 0))), (wo, .inl ((cT 0), 16, .inl (fun _ => 0))), (di, .inl ((cT 0), 16, .inl (fun _ => 0))), (an, .inr (2, [.ref ar, .int 0])), (ar, .inl ((cT 0), 72, .inl (fun _ => 0))), (aw, .inr (6, [.ref a1, .int 0, .int 0])), (ts, .inr (9, [.ref t1, .long 0, .long 1, .int 0])), (ss, .inr (11, [.ref s1, .int 0])), (rq, .inr (4, [.ref dr, .ref sa])), (sa, .inl ((cT 0), 256, .inl (fun _ => 0))), (mo, .inr (12, mdF mq mZ mQ 0 0 (nI 20) (nI 0))), (mq 0, .inl ((cT 1), 64, .inr (.inl mS))), (mq 3, .inl ((cT 0), 160, .inl mc)), (mq 4, .inl ((cT 0), 4, .inl mz)), (mq 5, .inl ((cT 0), 1920, .inl (fun _ => 0))), (mq 6, .inl ((cT 0), 32, .inl (fun _ => 0))), (mq 7, .inl ((cT 0), 1000, .inl mf)), (mq 9, .inl ((cT 0), 1400, .inl (fun _ => 0))), (mq 11, .inl ((cT 0), 16, .inl (fun _ => 0))), (mq 12, .inl ((cT 0), 1200, .inl (fun _ => 0))), (ou, .inl ((cT 1), 1, .inr (.inl fo)))]) (hS : va_S A s.heap H locs) (hl : lv_has ls 8 [(0, .ref b), (1, .ref ds), (2, .ref mo), (3, .ref ou), (4, .int 0)]) : W p l e room_1 s m args below meth c H locs 800 32000 Q (F0 m 991 ls []) := by
  by_cases h1 : xs 1 < 0 ∨ 19 < xs 1
  · skip
    have hP := hP.sub (ws' := [(ds, .inr (0, [.ref dr, .ref sv])), (dr, .inr (2, [.ref rr, .int (nI 20)])), (rr, .inl ((cT 0), 1000, .inl df)), (mo, .inr (12, mdF mq mZ mQ 0 0 (nI 20) (nI 0)))]) [0, 1, 2, 22] rfl
    have hD := hD.sub (ws' := [(ds, .inr (0, [.ref dr, .ref sv])), (dr, .inr (2, [.ref rr, .int (nI 20)])), (rr, .inl ((cT 0), 1000, .inl df)), (mo, .inr (12, mdF mq mZ mQ 0 0 (nI 20) (nI 0)))]) [0, 1, 2, 22] (by decide) rfl
    refine lv_aload_n hx hb d_Lw_law_991 rfl (lv_at hl 1 rfl) ?_
    refine lv_aload_n hx hb d_Lw_law_992 rfl (lv_at hl 0 rfl) ?_
    refine lv_iload hx hb d_Lw_law_993 (lv_at hl 4 rfl) ?_
    refine lv_iconst (v := 1) hx hb d_Lw_law_995 (by decide) ?_
    refine lv_iadd hx hb d_Lw_law_996 ?_
    refine va_sld hx hb hX hbl hbA hS (i := (0 + 1)) (vin (by decide)) d_Lw_law_997 ?_
    refine lv_topi (fun x2 e1 => ?_)
    obtain rfl : x2 = xs 1 := by rw [e1]; exact congrArg xs (by decide)
    refine lv_aload_n hx hb d_Lw_law_998 rfl (lv_at hl 0 rfl) ?_
    refine lv_iload hx hb d_Lw_law_999 (lv_at hl 4 rfl) ?_
    refine lv_iconst (v := 2) hx hb d_Lw_law_1001 (by decide) ?_
    refine lv_iadd hx hb d_Lw_law_1002 ?_
    refine va_sld hx hb hX hbl hbA hS (i := (0 + 2)) (vin (by decide)) d_Lw_law_1003 ?_
    refine lv_topi (fun x4 e3 => ?_)
    obtain rfl : x4 = xs 2 := by rw [e3]; exact congrArg xs (by decide)
    refine lv_aload_n hx hb d_Lw_law_1004 rfl (lv_at hl 3 rfl) ?_
    have hPc := hP.sub (ws' := [(ds, .inr (0, [.ref dr, .ref sv])), (dr, .inr (2, [.ref rr, .int (nI 20)])), (rr, .inl ((cT 0), 1000, .inl df))]) [0, 1, 2] rfl
    have hDc := hD.sub (ws' := [(ds, .inr (0, [.ref dr, .ref sv])), (dr, .inr (2, [.ref rr, .int (nI 20)])), (rr, .inl ((cT 0), 1000, .inl df))]) [0, 1, 2] (by decide) rfl
    have hFc := va_free (wc := [(ds, .inr (0, [.ref dr, .ref sv])), (dr, .inr (2, [.ref rr, .int (nI 20)])), (rr, .inl ((cT 0), 1000, .inl df))]) hD hS hA [0, 1, 2] rfl
    refine va_calli (xw_runS (As := [.ref ds, .int (xs 1), .int (xs 2), .ref ou]) (rest := []) ⟨hx, hb, hml, hown, hg⟩ (t_spoil1 l dC dI cT H.size ds dr sv rr df (xs 1) (xs 2) ou (hfl) (h1)) rfl (gI (List.forall_mem_cons.mpr ⟨k_678, fun _ h => h⟩)) (hg _ k_676) (hg _ k_677) (hg _ k_0) rfl rfl (n := 4) (by decide +kernel) ⟨Nat.le_of_ble_eq_true rfl, Nat.le_of_ble_eq_true rfl⟩ ⟨fun a U g mk q => by obtain ⟨q0, q1, qP, qK, qD, qE⟩ := q; exact ⟨q0, q1, qP, va_K.moved (u := U) (U := U.calling g mk a) (Vm.Alike.refl U.vm) qK, qD, qE.at (State.WarmedH.refl _) (fun _ _ _ => rfl) (fun _ h => h)⟩, fun U hU hW => ⟨rfl, by rw [hU], by rw [hU]; exact hPc, va_K.moved hW.alike hK, hDc.weaken (fun _ _ _ _ => trivial), by rw [hU]; exact hXz.at hW hS.2.1 (fun _ h => h.elim)⟩⟩ rfl rfl hl.1 rfl (lv_room (Nat.le_of_ble_eq_true rfl)) d_Lw_law_1005 ⟨Nat.le_of_ble_eq_true rfl, Nat.le_of_ble_eq_true rfl⟩) hS (fun q _ h => hFc q h) hFc (fun rv9 u t H1 locs ht hvm hw hB hz1 hk1 hS => ?_)
    try dsimp only at hw hB
    obtain ⟨hP1, hK1, hD1⟩ := hB
    rw [ht] at hP1
    obtain ⟨rfl, hw⟩ := hw
    obtain ⟨hP, hD⟩ := va_join (wr := [(mo, .inr (12, mdF mq mZ mQ 0 0 (nI 20) (nI 0)))]) (w1 := []) hP hD [0, 1, 2] [3] rfl rfl (by decide) (by decide) hk1 hFc hP1 hD1
    have hw5 := hw
    clear hPc hDc hFc hz1 hk1 hP1 hK1 hD1
    generalize H1 = H at hP hS ⊢
    have hP : va_P (dC, dI) vcl [(mo, .inr (12, mdF mq mZ mQ 0 0 (nI 20) (nI 0)))] H := hP
    have hD : va_D A [(mo, .inr (12, mdF mq mZ mQ 0 0 (nI 20) (nI 0)))] := hD
    refine lv_istore (lv' := [(5, .int 1), (0, .ref b), (1, .ref ds), (2, .ref mo), (3, .ref ou), (4, .int 0)]) hx hb d_Lw_law_1008 hl (by decide) rfl (fun ls hl => ?_)
    refine lv_aload_n hx hb d_Lw_law_1010 rfl (lv_at hl 3 rfl) ?_
    refine lv_aload_n hx hb d_Lw_law_1011 rfl (lv_at hl 1 rfl) ?_
    refine lv_iload hx hb d_Lw_law_1012 (lv_at hl 5 rfl) ?_
    refine lv_iconst (v := 1) hx hb d_Lw_law_1014 (by decide) ?_
    refine lv_iadd hx hb d_Lw_law_1015 ?_
    refine va_sld hx hb hX hbl hbA hS (i := (0 + 1)) (vin (by decide)) d_Lw_law_1016 ?_
    refine lv_topi (fun x7 e6 => ?_)
    obtain rfl : x7 = xs 1 := by rw [e6]; exact congrArg xs (by decide)
    refine lv_aload_n hx hb d_Lw_law_1017 rfl (lv_at hl 1 rfl) ?_
    refine lv_iload hx hb d_Lw_law_1018 (lv_at hl 5 rfl) ?_
    refine lv_iconst (v := 2) hx hb d_Lw_law_1020 (by decide) ?_
    refine lv_iadd hx hb d_Lw_law_1021 ?_
    refine va_sld hx hb hX hbl hbA hS (i := (0 + 2)) (vin (by decide)) d_Lw_law_1022 ?_
    refine lv_topi (fun x9 e8 => ?_)
    obtain rfl : x9 = xs 2 := by rw [e8]; exact congrArg xs (by decide)
    have hPc := hP.sub (ws' := [(mo, .inr (12, mdF mq mZ mQ 0 0 (nI 20) (nI 0)))]) [0] rfl
    have hDc := hD.sub (ws' := [(mo, .inr (12, mdF mq mZ mQ 0 0 (nI 20) (nI 0)))]) [0] (by decide) rfl
    have hFc := va_free (wc := [(mo, .inr (12, mdF mq mZ mQ 0 0 (nI 20) (nI 0)))]) hD hS hA [0] rfl
    refine va_calli (va_runV (C := "DoorServerModel") (As := [.int (xs 1), .int (xs 2)]) (rest := []) ⟨hx, hb, hml, hown, hg⟩ (b_spoil1 l dC dI cT H.size mo mq mZ mQ 0 0 20 0 (xs 1) (xs 2) (h1)) (cwV 2 hg (gI (List.forall_mem_append.mpr ⟨List.forall_mem_cons.mpr ⟨k_1279, List.forall_mem_cons.mpr ⟨k_1280, List.forall_mem_cons.mpr ⟨k_1281, List.forall_mem_cons.mpr ⟨k_13, fun _ h => absurd h List.not_mem_nil⟩⟩⟩⟩, List.forall_mem_cons.mpr ⟨k_1282, fun _ h => h⟩⟩)) rfl rfl rfl (by decide +kernel) ⟨Nat.le_of_ble_eq_true rfl, Nat.le_of_ble_eq_true rfl⟩) ⟨fun a U g mk q => by obtain ⟨q0, q1, qP, qK, qD⟩ := q; exact ⟨q0, q1, qP, va_K.moved (u := U) (U := U.calling g mk a) (Vm.Alike.refl U.vm) qK, qD⟩, va_recv (q0 := 0) (ci := 12) hK hP rfl rfl, fun U hU hW => ⟨rfl, by rw [hU], by rw [hU]; exact hPc, va_K.moved hW.alike hK, hDc.weaken (fun _ _ _ _ => trivial)⟩⟩ rfl rfl hl.1 rfl (lv_room (Nat.le_of_ble_eq_true rfl)) d_Lw_law_1023 ⟨Nat.le_of_ble_eq_true rfl, Nat.le_of_ble_eq_true rfl⟩) hS (fun q _ h => hFc q h) hFc (fun rv9 u t H1 locs ht hvm hw hB hz1 hk1 hS => ?_)
    try dsimp only at hw hB
    obtain ⟨hP1, hK1, hD1⟩ := hB
    rw [ht] at hP1
    generalize rv9 = r10 at hw ⊢
    obtain ⟨hP, hD⟩ := va_join (wr := []) (w1 := [(mo, .inr (12, mdF mq mZ mQ 1 0 (nI 20) (nI 0)))]) hP hD [0] [] rfl rfl (by decide) (by decide) hk1 hFc hP1 hD1
    have hw11 := hw
    clear hPc hDc hFc hz1 hk1 hP1 hK1 hD1
    generalize H1 = H at hP hS ⊢
    have hP : va_P (dC, dI) vcl [(mo, .inr (12, mdF mq mZ mQ 1 0 (nI 20) (nI 0)))] H := hP
    have hD : va_D A [(mo, .inr (12, mdF mq mZ mQ 1 0 (nI 20) (nI 0)))] := hD
    refine lv_istore (lv' := [(6, .int r10), (5, .int 1), (0, .ref b), (1, .ref ds), (2, .ref mo), (3, .ref ou), (4, .int 0)]) hx hb d_Lw_law_1026 hl (by decide) rfl (fun ls hl => ?_)
    refine lv_aload_n hx hb d_Lw_law_1028 rfl (lv_at hl 4 rfl) ?_
    have hPc := hP.sub (ws' := [(mo, .inr (12, mdF mq mZ mQ 1 0 (nI 20) (nI 0)))]) [0] rfl
    have hDc := hD.sub (ws' := [(mo, .inr (12, mdF mq mZ mQ 1 0 (nI 20) (nI 0)))]) [0] (by decide) rfl
    have hFc := va_free (wc := [(mo, .inr (12, mdF mq mZ mQ 1 0 (nI 20) (nI 0)))]) hD hS hA [0] rfl
    refine va_calli (va_runV (C := "DoorServerModel") (As := []) (rest := []) ⟨hx, hb, hml, hown, hg⟩ (m_thrown l dC dI cT H.size mo mq mZ mQ 1 0 20 0 ) (cwV 0 hg (gI (List.forall_mem_append.mpr ⟨List.forall_mem_cons.mpr ⟨k_1157, List.forall_mem_cons.mpr ⟨k_1158, List.forall_mem_cons.mpr ⟨k_1159, List.forall_mem_cons.mpr ⟨k_13, fun _ h => absurd h List.not_mem_nil⟩⟩⟩⟩, List.forall_mem_cons.mpr ⟨k_1160, fun _ h => h⟩⟩)) rfl rfl rfl (by decide +kernel) ⟨Nat.le_of_ble_eq_true rfl, Nat.le_of_ble_eq_true rfl⟩) ⟨fun a U g mk q => by obtain ⟨q0, q1, qP, qK, qD⟩ := q; exact ⟨q0, q1, qP, va_K.moved (u := U) (U := U.calling g mk a) (Vm.Alike.refl U.vm) qK, qD⟩, va_recv (q0 := 0) (ci := 12) hK hP rfl rfl, fun U hU hW => ⟨rfl, by rw [hU], by rw [hU]; exact hPc, va_K.moved hW.alike hK, hDc.weaken (fun _ _ _ _ => trivial)⟩⟩ rfl rfl hl.1 rfl (lv_room (Nat.le_of_ble_eq_true rfl)) d_Lw_law_1029 ⟨Nat.le_of_ble_eq_true rfl, Nat.le_of_ble_eq_true rfl⟩) hS (fun q _ h => hFc q h) hFc (fun rv9 u t H1 locs ht hvm hw hB hz1 hk1 hS => ?_)
    try dsimp only at hw hB
    obtain ⟨hP1, hK1, hD1⟩ := hB
    rw [ht] at hP1
    obtain ⟨rfl, hw⟩ := hw
    obtain ⟨hP, hD⟩ := va_join (wr := []) (w1 := []) hP hD [0] [] rfl rfl (by decide) (by decide) hk1 hFc hP1 hD1
    have hw12 := hw
    clear hPc hDc hFc hz1 hk1 hP1 hK1 hD1
    generalize H1 = H at hP hS ⊢
    have hP : va_P (dC, dI) vcl [] H := hP
    have hD : va_D A [] := hD
    refine lv_iload hx hb d_Lw_law_1032 (lv_at hl 1 rfl) ?_
    refine lv_icmp_eq (tgt := 1039) hx hb d_Lw_law_1034 (by decide) (fun hc13 => ?_) (fun hn9 => absurd (rfl) hn9)
    refine lv_iload hx hb d_Lw_law_1039 (lv_at hl 1 rfl) ?_
    refine lv_if_ne (tgt := 1056) hx hb d_Lw_law_1041 (by decide) (fun hc14 => ?_) (fun hn9 => absurd hn9 (by decide))
    refine lv_goto (tgt := 1363) hx hb d_Lw_law_1056 (by decide) ?_
    refine W.widen (k := 900) (n := 33000) (Nat.le_of_ble_eq_true rfl) (Nat.le_of_ble_eq_true rfl) ?_
    have hl9 : lv_has ls 8 [(0, .ref b), (4, .int 0)] := lv_sub hl [2, 6] rfl
    exact kk _ _ _ hS hl9
  have h1a : ¬ xs 1 < 0 := fun h9 => h1 (Or.inl h9)
  have h1b : ¬ 19 < xs 1 := fun h9 => h1 (Or.inr h9)
  by_cases h2 : xs 2 < 0 ∨ 255 < xs 2
  · skip
    have hP := hP.sub (ws' := [(ds, .inr (0, [.ref dr, .ref sv])), (dr, .inr (2, [.ref rr, .int (nI 20)])), (rr, .inl ((cT 0), 1000, .inl df)), (mo, .inr (12, mdF mq mZ mQ 0 0 (nI 20) (nI 0)))]) [0, 1, 2, 22] rfl
    have hD := hD.sub (ws' := [(ds, .inr (0, [.ref dr, .ref sv])), (dr, .inr (2, [.ref rr, .int (nI 20)])), (rr, .inl ((cT 0), 1000, .inl df)), (mo, .inr (12, mdF mq mZ mQ 0 0 (nI 20) (nI 0)))]) [0, 1, 2, 22] (by decide) rfl
    refine lv_aload_n hx hb d_Lw_law_991 rfl (lv_at hl 1 rfl) ?_
    refine lv_aload_n hx hb d_Lw_law_992 rfl (lv_at hl 0 rfl) ?_
    refine lv_iload hx hb d_Lw_law_993 (lv_at hl 4 rfl) ?_
    refine lv_iconst (v := 1) hx hb d_Lw_law_995 (by decide) ?_
    refine lv_iadd hx hb d_Lw_law_996 ?_
    refine va_sld hx hb hX hbl hbA hS (i := (0 + 1)) (vin (by decide)) d_Lw_law_997 ?_
    refine lv_topi (fun x16 e15 => ?_)
    obtain rfl : x16 = xs 1 := by rw [e15]; exact congrArg xs (by decide)
    refine lv_aload_n hx hb d_Lw_law_998 rfl (lv_at hl 0 rfl) ?_
    refine lv_iload hx hb d_Lw_law_999 (lv_at hl 4 rfl) ?_
    refine lv_iconst (v := 2) hx hb d_Lw_law_1001 (by decide) ?_
    refine lv_iadd hx hb d_Lw_law_1002 ?_
    refine va_sld hx hb hX hbl hbA hS (i := (0 + 2)) (vin (by decide)) d_Lw_law_1003 ?_
    refine lv_topi (fun x18 e17 => ?_)
    obtain rfl : x18 = xs 2 := by rw [e17]; exact congrArg xs (by decide)
    refine lv_aload_n hx hb d_Lw_law_1004 rfl (lv_at hl 3 rfl) ?_
    have hPc := hP.sub (ws' := [(ds, .inr (0, [.ref dr, .ref sv])), (dr, .inr (2, [.ref rr, .int (nI 20)])), (rr, .inl ((cT 0), 1000, .inl df))]) [0, 1, 2] rfl
    have hDc := hD.sub (ws' := [(ds, .inr (0, [.ref dr, .ref sv])), (dr, .inr (2, [.ref rr, .int (nI 20)])), (rr, .inl ((cT 0), 1000, .inl df))]) [0, 1, 2] (by decide) rfl
    have hFc := va_free (wc := [(ds, .inr (0, [.ref dr, .ref sv])), (dr, .inr (2, [.ref rr, .int (nI 20)])), (rr, .inl ((cT 0), 1000, .inl df))]) hD hS hA [0, 1, 2] rfl
    refine va_calli (xw_runS (As := [.ref ds, .int (xs 1), .int (xs 2), .ref ou]) (rest := []) ⟨hx, hb, hml, hown, hg⟩ (t_spoil2 l dC dI cT H.size ds dr sv rr df (xs 1) (xs 2) ou (hfl) (h1a) (h1b) (h2)) rfl (gI (List.forall_mem_cons.mpr ⟨k_678, fun _ h => h⟩)) (hg _ k_676) (hg _ k_677) (hg _ k_0) rfl rfl (n := 4) (by decide +kernel) ⟨Nat.le_of_ble_eq_true rfl, Nat.le_of_ble_eq_true rfl⟩ ⟨fun a U g mk q => by obtain ⟨q0, q1, qP, qK, qD, qE⟩ := q; exact ⟨q0, q1, qP, va_K.moved (u := U) (U := U.calling g mk a) (Vm.Alike.refl U.vm) qK, qD, qE.at (State.WarmedH.refl _) (fun _ _ _ => rfl) (fun _ h => h)⟩, fun U hU hW => ⟨rfl, by rw [hU], by rw [hU]; exact hPc, va_K.moved hW.alike hK, hDc.weaken (fun _ _ _ _ => trivial), by rw [hU]; exact hXz.at hW hS.2.1 (fun _ h => h.elim)⟩⟩ rfl rfl hl.1 rfl (lv_room (Nat.le_of_ble_eq_true rfl)) d_Lw_law_1005 ⟨Nat.le_of_ble_eq_true rfl, Nat.le_of_ble_eq_true rfl⟩) hS (fun q _ h => hFc q h) hFc (fun rv9 u t H1 locs ht hvm hw hB hz1 hk1 hS => ?_)
    try dsimp only at hw hB
    obtain ⟨hP1, hK1, hD1⟩ := hB
    rw [ht] at hP1
    obtain ⟨rfl, hw⟩ := hw
    obtain ⟨hP, hD⟩ := va_join (wr := [(mo, .inr (12, mdF mq mZ mQ 0 0 (nI 20) (nI 0)))]) (w1 := []) hP hD [0, 1, 2] [3] rfl rfl (by decide) (by decide) hk1 hFc hP1 hD1
    have hw19 := hw
    clear hPc hDc hFc hz1 hk1 hP1 hK1 hD1
    generalize H1 = H at hP hS ⊢
    have hP : va_P (dC, dI) vcl [(mo, .inr (12, mdF mq mZ mQ 0 0 (nI 20) (nI 0)))] H := hP
    have hD : va_D A [(mo, .inr (12, mdF mq mZ mQ 0 0 (nI 20) (nI 0)))] := hD
    refine lv_istore (lv' := [(5, .int 1), (0, .ref b), (1, .ref ds), (2, .ref mo), (3, .ref ou), (4, .int 0)]) hx hb d_Lw_law_1008 hl (by decide) rfl (fun ls hl => ?_)
    refine lv_aload_n hx hb d_Lw_law_1010 rfl (lv_at hl 3 rfl) ?_
    refine lv_aload_n hx hb d_Lw_law_1011 rfl (lv_at hl 1 rfl) ?_
    refine lv_iload hx hb d_Lw_law_1012 (lv_at hl 5 rfl) ?_
    refine lv_iconst (v := 1) hx hb d_Lw_law_1014 (by decide) ?_
    refine lv_iadd hx hb d_Lw_law_1015 ?_
    refine va_sld hx hb hX hbl hbA hS (i := (0 + 1)) (vin (by decide)) d_Lw_law_1016 ?_
    refine lv_topi (fun x21 e20 => ?_)
    obtain rfl : x21 = xs 1 := by rw [e20]; exact congrArg xs (by decide)
    refine lv_aload_n hx hb d_Lw_law_1017 rfl (lv_at hl 1 rfl) ?_
    refine lv_iload hx hb d_Lw_law_1018 (lv_at hl 5 rfl) ?_
    refine lv_iconst (v := 2) hx hb d_Lw_law_1020 (by decide) ?_
    refine lv_iadd hx hb d_Lw_law_1021 ?_
    refine va_sld hx hb hX hbl hbA hS (i := (0 + 2)) (vin (by decide)) d_Lw_law_1022 ?_
    refine lv_topi (fun x23 e22 => ?_)
    obtain rfl : x23 = xs 2 := by rw [e22]; exact congrArg xs (by decide)
    have hPc := hP.sub (ws' := [(mo, .inr (12, mdF mq mZ mQ 0 0 (nI 20) (nI 0)))]) [0] rfl
    have hDc := hD.sub (ws' := [(mo, .inr (12, mdF mq mZ mQ 0 0 (nI 20) (nI 0)))]) [0] (by decide) rfl
    have hFc := va_free (wc := [(mo, .inr (12, mdF mq mZ mQ 0 0 (nI 20) (nI 0)))]) hD hS hA [0] rfl
    refine va_calli (va_runV (C := "DoorServerModel") (As := [.int (xs 1), .int (xs 2)]) (rest := []) ⟨hx, hb, hml, hown, hg⟩ (b_spoil2 l dC dI cT H.size mo mq mZ mQ 0 0 20 0 (xs 1) (xs 2) (h1a) (h1b) (h2)) (cwV 2 hg (gI (List.forall_mem_append.mpr ⟨List.forall_mem_cons.mpr ⟨k_1279, List.forall_mem_cons.mpr ⟨k_1280, List.forall_mem_cons.mpr ⟨k_1281, List.forall_mem_cons.mpr ⟨k_13, fun _ h => absurd h List.not_mem_nil⟩⟩⟩⟩, List.forall_mem_cons.mpr ⟨k_1282, fun _ h => h⟩⟩)) rfl rfl rfl (by decide +kernel) ⟨Nat.le_of_ble_eq_true rfl, Nat.le_of_ble_eq_true rfl⟩) ⟨fun a U g mk q => by obtain ⟨q0, q1, qP, qK, qD⟩ := q; exact ⟨q0, q1, qP, va_K.moved (u := U) (U := U.calling g mk a) (Vm.Alike.refl U.vm) qK, qD⟩, va_recv (q0 := 0) (ci := 12) hK hP rfl rfl, fun U hU hW => ⟨rfl, by rw [hU], by rw [hU]; exact hPc, va_K.moved hW.alike hK, hDc.weaken (fun _ _ _ _ => trivial)⟩⟩ rfl rfl hl.1 rfl (lv_room (Nat.le_of_ble_eq_true rfl)) d_Lw_law_1023 ⟨Nat.le_of_ble_eq_true rfl, Nat.le_of_ble_eq_true rfl⟩) hS (fun q _ h => hFc q h) hFc (fun rv9 u t H1 locs ht hvm hw hB hz1 hk1 hS => ?_)
    try dsimp only at hw hB
    obtain ⟨hP1, hK1, hD1⟩ := hB
    rw [ht] at hP1
    generalize rv9 = r24 at hw ⊢
    obtain ⟨hP, hD⟩ := va_join (wr := []) (w1 := [(mo, .inr (12, mdF mq mZ mQ 1 0 (nI 20) (nI 0)))]) hP hD [0] [] rfl rfl (by decide) (by decide) hk1 hFc hP1 hD1
    have hw25 := hw
    clear hPc hDc hFc hz1 hk1 hP1 hK1 hD1
    generalize H1 = H at hP hS ⊢
    have hP : va_P (dC, dI) vcl [(mo, .inr (12, mdF mq mZ mQ 1 0 (nI 20) (nI 0)))] H := hP
    have hD : va_D A [(mo, .inr (12, mdF mq mZ mQ 1 0 (nI 20) (nI 0)))] := hD
    refine lv_istore (lv' := [(6, .int r24), (5, .int 1), (0, .ref b), (1, .ref ds), (2, .ref mo), (3, .ref ou), (4, .int 0)]) hx hb d_Lw_law_1026 hl (by decide) rfl (fun ls hl => ?_)
    refine lv_aload_n hx hb d_Lw_law_1028 rfl (lv_at hl 4 rfl) ?_
    have hPc := hP.sub (ws' := [(mo, .inr (12, mdF mq mZ mQ 1 0 (nI 20) (nI 0)))]) [0] rfl
    have hDc := hD.sub (ws' := [(mo, .inr (12, mdF mq mZ mQ 1 0 (nI 20) (nI 0)))]) [0] (by decide) rfl
    have hFc := va_free (wc := [(mo, .inr (12, mdF mq mZ mQ 1 0 (nI 20) (nI 0)))]) hD hS hA [0] rfl
    refine va_calli (va_runV (C := "DoorServerModel") (As := []) (rest := []) ⟨hx, hb, hml, hown, hg⟩ (m_thrown l dC dI cT H.size mo mq mZ mQ 1 0 20 0 ) (cwV 0 hg (gI (List.forall_mem_append.mpr ⟨List.forall_mem_cons.mpr ⟨k_1157, List.forall_mem_cons.mpr ⟨k_1158, List.forall_mem_cons.mpr ⟨k_1159, List.forall_mem_cons.mpr ⟨k_13, fun _ h => absurd h List.not_mem_nil⟩⟩⟩⟩, List.forall_mem_cons.mpr ⟨k_1160, fun _ h => h⟩⟩)) rfl rfl rfl (by decide +kernel) ⟨Nat.le_of_ble_eq_true rfl, Nat.le_of_ble_eq_true rfl⟩) ⟨fun a U g mk q => by obtain ⟨q0, q1, qP, qK, qD⟩ := q; exact ⟨q0, q1, qP, va_K.moved (u := U) (U := U.calling g mk a) (Vm.Alike.refl U.vm) qK, qD⟩, va_recv (q0 := 0) (ci := 12) hK hP rfl rfl, fun U hU hW => ⟨rfl, by rw [hU], by rw [hU]; exact hPc, va_K.moved hW.alike hK, hDc.weaken (fun _ _ _ _ => trivial)⟩⟩ rfl rfl hl.1 rfl (lv_room (Nat.le_of_ble_eq_true rfl)) d_Lw_law_1029 ⟨Nat.le_of_ble_eq_true rfl, Nat.le_of_ble_eq_true rfl⟩) hS (fun q _ h => hFc q h) hFc (fun rv9 u t H1 locs ht hvm hw hB hz1 hk1 hS => ?_)
    try dsimp only at hw hB
    obtain ⟨hP1, hK1, hD1⟩ := hB
    rw [ht] at hP1
    obtain ⟨rfl, hw⟩ := hw
    obtain ⟨hP, hD⟩ := va_join (wr := []) (w1 := []) hP hD [0] [] rfl rfl (by decide) (by decide) hk1 hFc hP1 hD1
    have hw26 := hw
    clear hPc hDc hFc hz1 hk1 hP1 hK1 hD1
    generalize H1 = H at hP hS ⊢
    have hP : va_P (dC, dI) vcl [] H := hP
    have hD : va_D A [] := hD
    refine lv_iload hx hb d_Lw_law_1032 (lv_at hl 1 rfl) ?_
    refine lv_icmp_eq (tgt := 1039) hx hb d_Lw_law_1034 (by decide) (fun hc27 => ?_) (fun hn9 => absurd (rfl) hn9)
    refine lv_iload hx hb d_Lw_law_1039 (lv_at hl 1 rfl) ?_
    refine lv_if_ne (tgt := 1056) hx hb d_Lw_law_1041 (by decide) (fun hc28 => ?_) (fun hn9 => absurd hn9 (by decide))
    refine lv_goto (tgt := 1363) hx hb d_Lw_law_1056 (by decide) ?_
    refine W.widen (k := 900) (n := 33000) (Nat.le_of_ble_eq_true rfl) (Nat.le_of_ble_eq_true rfl) ?_
    have hl9 : lv_has ls 8 [(0, .ref b), (4, .int 0)] := lv_sub hl [2, 6] rfl
    exact kk _ _ _ hS hl9
  have h2a : ¬ xs 2 < 0 := fun h9 => h2 (Or.inl h9)
  have h2b : ¬ 255 < xs 2 := fun h9 => h2 (Or.inr h9)
  obtain ⟨j, hj, he⟩ := rng_0 (M := 19) (n := 19) (by decide) h1a h1b
  have hj20 : j < 20 := by omega
  have hP := hP.sub (ws' := [(ds, .inr (0, [.ref dr, .ref sv])), (dr, .inr (2, [.ref rr, .int (nI 20)])), (rr, .inl ((cT 0), 1000, .inl df)), (mo, .inr (12, mdF mq mZ mQ 0 0 (nI 20) (nI 0))), (mq 7, .inl ((cT 0), 1000, .inl mf)), (ou, .inl ((cT 1), 1, .inr (.inl fo)))]) [0, 1, 2, 22, 28, 32] rfl
  have hD := hD.sub (ws' := [(ds, .inr (0, [.ref dr, .ref sv])), (dr, .inr (2, [.ref rr, .int (nI 20)])), (rr, .inl ((cT 0), 1000, .inl df)), (mo, .inr (12, mdF mq mZ mQ 0 0 (nI 20) (nI 0))), (mq 7, .inl ((cT 0), 1000, .inl mf)), (ou, .inl ((cT 1), 1, .inr (.inl fo)))]) [0, 1, 2, 22, 28, 32] (by decide) rfl
  refine lv_aload_n hx hb d_Lw_law_991 rfl (lv_at hl 1 rfl) ?_
  refine lv_aload_n hx hb d_Lw_law_992 rfl (lv_at hl 0 rfl) ?_
  refine lv_iload hx hb d_Lw_law_993 (lv_at hl 4 rfl) ?_
  refine lv_iconst (v := 1) hx hb d_Lw_law_995 (by decide) ?_
  refine lv_iadd hx hb d_Lw_law_996 ?_
  refine va_sld hx hb hX hbl hbA hS (i := (0 + 1)) (vin (by decide)) d_Lw_law_997 ?_
  refine lv_topi (fun x30 e29 => ?_)
  obtain rfl : x30 = nI j := by rw [e29]; exact (congrArg xs (by decide)).trans (he)
  refine lv_aload_n hx hb d_Lw_law_998 rfl (lv_at hl 0 rfl) ?_
  refine lv_iload hx hb d_Lw_law_999 (lv_at hl 4 rfl) ?_
  refine lv_iconst (v := 2) hx hb d_Lw_law_1001 (by decide) ?_
  refine lv_iadd hx hb d_Lw_law_1002 ?_
  refine va_sld hx hb hX hbl hbA hS (i := (0 + 2)) (vin (by decide)) d_Lw_law_1003 ?_
  refine lv_topi (fun x32 e31 => ?_)
  obtain rfl : x32 = xs 2 := by rw [e31]; exact congrArg xs (by decide)
  refine lv_aload_n hx hb d_Lw_law_1004 rfl (lv_at hl 3 rfl) ?_
  have hPc := hP.sub (ws' := [(ds, .inr (0, [.ref dr, .ref sv])), (dr, .inr (2, [.ref rr, .int (nI 20)])), (rr, .inl ((cT 0), 1000, .inl df)), (ou, .inl ((cT 1), 1, .inr (.inl fo)))]) [0, 1, 2, 5] rfl
  have hDc := hD.sub (ws' := [(ds, .inr (0, [.ref dr, .ref sv])), (dr, .inr (2, [.ref rr, .int (nI 20)])), (rr, .inl ((cT 0), 1000, .inl df)), (ou, .inl ((cT 1), 1, .inr (.inl fo)))]) [0, 1, 2, 5] (by decide) rfl
  have hFc := va_free (wc := [(ds, .inr (0, [.ref dr, .ref sv])), (dr, .inr (2, [.ref rr, .int (nI 20)])), (rr, .inl ((cT 0), 1000, .inl df)), (ou, .inl ((cT 1), 1, .inr (.inl fo)))]) hD hS hA [0, 1, 2, 5] rfl
  refine va_calli (xw_runS (As := [.ref ds, .int (nI j), .int (xs 2), .ref ou]) (rest := []) ⟨hx, hb, hml, hown, hg⟩ (l_spoil l dC dI cT H.size ds dr sv rr df j (xs 2) ou fo (hj20) (h2a) (h2b)) rfl (gI (List.forall_mem_cons.mpr ⟨k_678, fun _ h => h⟩)) (hg _ k_676) (hg _ k_677) (hg _ k_0) rfl rfl (n := 4) (by decide +kernel) ⟨Nat.le_of_ble_eq_true rfl, Nat.le_of_ble_eq_true rfl⟩ ⟨fun a U g mk q => by obtain ⟨q0, q1, qP, qK, qD⟩ := q; exact ⟨q0, q1, qP, va_K.moved (u := U) (U := U.calling g mk a) (Vm.Alike.refl U.vm) qK, qD⟩, fun U hU hW => ⟨rfl, by rw [hU], by rw [hU]; exact hPc, va_K.moved hW.alike hK, hDc.weaken (fun _ _ _ _ => trivial)⟩⟩ rfl rfl hl.1 rfl (lv_room (Nat.le_of_ble_eq_true rfl)) d_Lw_law_1005 ⟨Nat.le_of_ble_eq_true rfl, Nat.le_of_ble_eq_true rfl⟩) hS (fun q _ h => hFc q h) hFc (fun rv9 u t H1 locs ht hvm hw hB hz1 hk1 hS => ?_)
  try dsimp only at hw hB
  obtain ⟨hP1, hK1, hD1⟩ := hB
  rw [ht] at hP1
  obtain ⟨rfl, hw⟩ := hw
  obtain ⟨hP, hD⟩ := va_join (wr := [(mo, .inr (12, mdF mq mZ mQ 0 0 (nI 20) (nI 0))), (mq 7, .inl ((cT 0), 1000, .inl mf))]) (w1 := [(ou, .inl ((cT 1), 1, .inr (.inl (vp_updL fo (0 : Int32).toNatClampNeg ((df j ^^^ (xs 2)).toInt64)))))]) hP hD [0, 1, 2, 5] [3, 4] rfl rfl (by decide) (by decide) hk1 hFc hP1 hD1
  have hw33 := hw
  clear hPc hDc hFc hz1 hk1 hP1 hK1 hD1
  generalize H1 = H at hP hS ⊢
  have hP : va_P (dC, dI) vcl [(mo, .inr (12, mdF mq mZ mQ 0 0 (nI 20) (nI 0))), (mq 7, .inl ((cT 0), 1000, .inl mf)), (ou, .inl ((cT 1), 1, .inr (.inl (vp_updL fo (0 : Int32).toNatClampNeg ((df j ^^^ (xs 2)).toInt64)))))] H := hP
  have hD : va_D A [(mo, .inr (12, mdF mq mZ mQ 0 0 (nI 20) (nI 0))), (mq 7, .inl ((cT 0), 1000, .inl mf)), (ou, .inl ((cT 1), 1, .inr (.inl (vp_updL fo (0 : Int32).toNatClampNeg ((df j ^^^ (xs 2)).toInt64)))))] := hD
  refine lv_istore (lv' := [(5, .int 0), (0, .ref b), (1, .ref ds), (2, .ref mo), (3, .ref ou), (4, .int 0)]) hx hb d_Lw_law_1008 hl (by decide) rfl (fun ls hl => ?_)
  refine lv_aload_n hx hb d_Lw_law_1010 rfl (lv_at hl 3 rfl) ?_
  refine lv_aload_n hx hb d_Lw_law_1011 rfl (lv_at hl 1 rfl) ?_
  refine lv_iload hx hb d_Lw_law_1012 (lv_at hl 5 rfl) ?_
  refine lv_iconst (v := 1) hx hb d_Lw_law_1014 (by decide) ?_
  refine lv_iadd hx hb d_Lw_law_1015 ?_
  refine va_sld hx hb hX hbl hbA hS (i := (0 + 1)) (vin (by decide)) d_Lw_law_1016 ?_
  refine lv_topi (fun x35 e34 => ?_)
  obtain rfl : x35 = nI j := by rw [e34]; exact (congrArg xs (by decide)).trans (he)
  refine lv_aload_n hx hb d_Lw_law_1017 rfl (lv_at hl 1 rfl) ?_
  refine lv_iload hx hb d_Lw_law_1018 (lv_at hl 5 rfl) ?_
  refine lv_iconst (v := 2) hx hb d_Lw_law_1020 (by decide) ?_
  refine lv_iadd hx hb d_Lw_law_1021 ?_
  refine va_sld hx hb hX hbl hbA hS (i := (0 + 2)) (vin (by decide)) d_Lw_law_1022 ?_
  refine lv_topi (fun x37 e36 => ?_)
  obtain rfl : x37 = xs 2 := by rw [e36]; exact congrArg xs (by decide)
  have hPc := hP.sub (ws' := [(mo, .inr (12, mdF mq mZ mQ 0 0 (nI 20) (nI 0))), (mq 7, .inl ((cT 0), 1000, .inl mf))]) [0, 1] rfl
  have hDc := hD.sub (ws' := [(mo, .inr (12, mdF mq mZ mQ 0 0 (nI 20) (nI 0))), (mq 7, .inl ((cT 0), 1000, .inl mf))]) [0, 1] (by decide) rfl
  have hFc := va_free (wc := [(mo, .inr (12, mdF mq mZ mQ 0 0 (nI 20) (nI 0))), (mq 7, .inl ((cT 0), 1000, .inl mf))]) hD hS hA [0, 1] rfl
  refine va_calli (va_runV (C := "DoorServerModel") (As := [.int (nI j), .int (xs 2)]) (rest := []) ⟨hx, hb, hml, hown, hg⟩ (o_spoil l dC dI cT H.size mo mq mZ mQ 0 0 20 0 mf j (xs 2) (hj20) (h2a) (h2b)) (cwV 2 hg (gI (List.forall_mem_append.mpr ⟨List.forall_mem_cons.mpr ⟨k_1279, List.forall_mem_cons.mpr ⟨k_1280, List.forall_mem_cons.mpr ⟨k_1281, List.forall_mem_cons.mpr ⟨k_13, fun _ h => absurd h List.not_mem_nil⟩⟩⟩⟩, List.forall_mem_cons.mpr ⟨k_1282, fun _ h => h⟩⟩)) rfl rfl rfl (by decide +kernel) ⟨Nat.le_of_ble_eq_true rfl, Nat.le_of_ble_eq_true rfl⟩) ⟨fun a U g mk q => by obtain ⟨q0, q1, qP, qK, qD⟩ := q; exact ⟨q0, q1, qP, va_K.moved (u := U) (U := U.calling g mk a) (Vm.Alike.refl U.vm) qK, qD⟩, va_recv (q0 := 0) (ci := 12) hK hP rfl rfl, fun U hU hW => ⟨rfl, by rw [hU], by rw [hU]; exact hPc, va_K.moved hW.alike hK, hDc.weaken (fun _ _ _ _ => trivial)⟩⟩ rfl rfl hl.1 rfl (lv_room (Nat.le_of_ble_eq_true rfl)) d_Lw_law_1023 ⟨Nat.le_of_ble_eq_true rfl, Nat.le_of_ble_eq_true rfl⟩) hS (fun q _ h => hFc q h) hFc (fun rv9 u t H1 locs ht hvm hw hB hz1 hk1 hS => ?_)
  try dsimp only at hw hB
  obtain ⟨hP1, hK1, hD1⟩ := hB
  rw [ht] at hP1
  obtain ⟨rfl, hw⟩ := hw
  obtain ⟨hP, hD⟩ := va_join (wr := [(ou, .inl ((cT 1), 1, .inr (.inl (vp_updL fo (0 : Int32).toNatClampNeg ((df j ^^^ (xs 2)).toInt64)))))]) (w1 := [(mo, .inr (12, mdF mq mZ mQ 0 0 (nI 20) (nI 0)))]) hP hD [0, 1] [2] rfl rfl (by decide) (by decide) hk1 hFc hP1 hD1
  have hw38 := hw
  clear hPc hDc hFc hz1 hk1 hP1 hK1 hD1
  generalize H1 = H at hP hS ⊢
  have hP : va_P (dC, dI) vcl [(ou, .inl ((cT 1), 1, .inr (.inl (vp_updL fo (0 : Int32).toNatClampNeg ((df j ^^^ (xs 2)).toInt64))))), (mo, .inr (12, mdF mq mZ mQ 0 0 (nI 20) (nI 0)))] H := hP
  have hD : va_D A [(ou, .inl ((cT 1), 1, .inr (.inl (vp_updL fo (0 : Int32).toNatClampNeg ((df j ^^^ (xs 2)).toInt64))))), (mo, .inr (12, mdF mq mZ mQ 0 0 (nI 20) (nI 0)))] := hD
  refine lv_istore (lv' := [(6, .int (mf j ^^^ (xs 2))), (5, .int 0), (0, .ref b), (1, .ref ds), (2, .ref mo), (3, .ref ou), (4, .int 0)]) hx hb d_Lw_law_1026 hl (by decide) rfl (fun ls hl => ?_)
  refine lv_aload_n hx hb d_Lw_law_1028 rfl (lv_at hl 4 rfl) ?_
  have hPc := hP.sub (ws' := [(mo, .inr (12, mdF mq mZ mQ 0 0 (nI 20) (nI 0)))]) [1] rfl
  have hDc := hD.sub (ws' := [(mo, .inr (12, mdF mq mZ mQ 0 0 (nI 20) (nI 0)))]) [1] (by decide) rfl
  have hFc := va_free (wc := [(mo, .inr (12, mdF mq mZ mQ 0 0 (nI 20) (nI 0)))]) hD hS hA [1] rfl
  refine va_calli (va_runV (C := "DoorServerModel") (As := []) (rest := []) ⟨hx, hb, hml, hown, hg⟩ (m_thrown l dC dI cT H.size mo mq mZ mQ 0 0 20 0 ) (cwV 0 hg (gI (List.forall_mem_append.mpr ⟨List.forall_mem_cons.mpr ⟨k_1157, List.forall_mem_cons.mpr ⟨k_1158, List.forall_mem_cons.mpr ⟨k_1159, List.forall_mem_cons.mpr ⟨k_13, fun _ h => absurd h List.not_mem_nil⟩⟩⟩⟩, List.forall_mem_cons.mpr ⟨k_1160, fun _ h => h⟩⟩)) rfl rfl rfl (by decide +kernel) ⟨Nat.le_of_ble_eq_true rfl, Nat.le_of_ble_eq_true rfl⟩) ⟨fun a U g mk q => by obtain ⟨q0, q1, qP, qK, qD⟩ := q; exact ⟨q0, q1, qP, va_K.moved (u := U) (U := U.calling g mk a) (Vm.Alike.refl U.vm) qK, qD⟩, va_recv (q0 := 1) (ci := 12) hK hP rfl rfl, fun U hU hW => ⟨rfl, by rw [hU], by rw [hU]; exact hPc, va_K.moved hW.alike hK, hDc.weaken (fun _ _ _ _ => trivial)⟩⟩ rfl rfl hl.1 rfl (lv_room (Nat.le_of_ble_eq_true rfl)) d_Lw_law_1029 ⟨Nat.le_of_ble_eq_true rfl, Nat.le_of_ble_eq_true rfl⟩) hS (fun q _ h => hFc q h) hFc (fun rv9 u t H1 locs ht hvm hw hB hz1 hk1 hS => ?_)
  try dsimp only at hw hB
  obtain ⟨hP1, hK1, hD1⟩ := hB
  rw [ht] at hP1
  obtain ⟨rfl, hw⟩ := hw
  obtain ⟨hP, hD⟩ := va_join (wr := [(ou, .inl ((cT 1), 1, .inr (.inl (vp_updL fo (0 : Int32).toNatClampNeg ((df j ^^^ (xs 2)).toInt64)))))]) (w1 := []) hP hD [1] [0] rfl rfl (by decide) (by decide) hk1 hFc hP1 hD1
  have hw39 := hw
  clear hPc hDc hFc hz1 hk1 hP1 hK1 hD1
  generalize H1 = H at hP hS ⊢
  have hP : va_P (dC, dI) vcl [(ou, .inl ((cT 1), 1, .inr (.inl (vp_updL fo (0 : Int32).toNatClampNeg ((df j ^^^ (xs 2)).toInt64)))))] H := hP
  have hD : va_D A [(ou, .inl ((cT 1), 1, .inr (.inl (vp_updL fo (0 : Int32).toNatClampNeg ((df j ^^^ (xs 2)).toInt64)))))] := hD
  refine lv_iload hx hb d_Lw_law_1032 (lv_at hl 1 rfl) ?_
  refine lv_icmp_eq (tgt := 1039) hx hb d_Lw_law_1034 (by decide) (fun hc40 => ?_) (fun hn9 => absurd (rfl) hn9)
  refine lv_iload hx hb d_Lw_law_1039 (lv_at hl 1 rfl) ?_
  refine lv_if_ne (tgt := 1056) hx hb d_Lw_law_1041 (by decide) (fun hn9 => absurd hn9 (fun h => h rfl)) (fun hc41 => ?_)
  refine lv_aload_n hx hb d_Lw_law_1044 rfl (lv_at hl 5 rfl) ?_
  refine lv_iconst (v := 0) hx hb d_Lw_law_1045 (by decide) ?_
  refine va_lald hx hb hK hP 0 1 rfl rfl (i := 0) (vp_in_nI (n := 0) (N := 1) (by decide) (by decide)) d_Lw_law_1046 ?_
  refine lv_topl (fun x43 e42 => ?_)
  obtain rfl : x43 = ((df j ^^^ (xs 2)).toInt64) := by rw [e42]; exact updL_eq
  refine lv_iload hx hb d_Lw_law_1047 (lv_at hl 0 rfl) ?_
  refine lv_i2l (v := (mf j ^^^ (xs 2)).toInt64) hx hb d_Lw_law_1049 rfl ?_
  refine W.lcmp hx hb d_Lw_law_1050 ?_
  refine lv_if_eq (tgt := 1056) hx hb d_Lw_law_1051 (by decide) (fun hc44 => ?_) (fun hn9 => absurd (cmp_e (by rw [same_20 hdf hmf j hj20])) hn9)
  refine lv_goto (tgt := 1363) hx hb d_Lw_law_1056 (by decide) ?_
  refine W.widen (k := 900) (n := 33000) (Nat.le_of_ble_eq_true rfl) (Nat.le_of_ble_eq_true rfl) ?_
  have hl9 : lv_has ls 8 [(0, .ref b), (4, .int 0)] := lv_sub hl [2, 6] rfl
  exact kk _ _ _ hS hl9
set_option maxHeartbeats 4000000 in
set_option maxRecDepth 100000 in
theorem lw_case12 {p : Program} {l : Launch} {e : Env} {s : State} {m : MethodId} {args : Array Value} {below : List Frame} {meth : Method} {c : Code} {Q : State → Prop} {A : Nat → Prop} {b : Nat} {xs : Nat → Int32} {H : Heap} {locs : List Loc} {ls : Array Slot} (dC : Nat → ClassId) (dI : Nat → Nat → Nat) (cT : Nat → ClassId) (ds : Nat) (dr : Nat) (sv : Nat) (rr : Nat) (se : Nat) (pw : Nat) (g0 : Nat) (ty : Nat) (an : Nat) (aw : Nat) (ts : Nat) (ss : Nat) (rq : Nat) (sh : Nat) (sr : Nat) (uh : Nat) (ur : Nat) (tx : Nat) (tr : Nat) (wo : Nat) (di : Nat) (ar : Nat) (a1 : Nat) (t1 : Nat) (s1 : Nat) (sa : Nat) (mo : Nat) (ou : Nat) (st us : Nat) (gs gp : Nat → Option Nat) (df sf mc mz mf mZ : Nat → Int32) (mS mQ fo : Nat → Int64) (mq : Nat → Nat) (hx : p.tables.exec = Jvm.exec) (hb : c.code = b_Lw_law) (hml : c.maxLocals = 8) (hown : s.vm.findClass "DoorServerLaw" = some m.cls) (hg : ∀ w ∈ BIG, w.before args s = true) (hX : va_X b 5 xs s s.heap) (hbl : b < s.heap.size) (hbA : ¬ A b) (hA : ∀ q : Nat, s.heap.size ≤ q → A q) (hK : va_K (dC, dI) vcl (tyL cT) s) (hfl : l.flags = pinnedFlags ++ [noTraceFlag]) (hXm : xm A s s.heap) (hXz : xz_T A s s.heap) (hst : st < 4) (hus : us < 32) (hgs : gs st = some sh) (hgp : gp us = some uh) (hst1 : ¬ xs 1 < 0 → ¬ 3 < xs 1 → xs 1 = nI st) (hus1 : ¬ xs 1 < 0 → ¬ 31 < xs 1 → xs 1 = nI us) (hdf : df 0 = 1 ∧ df 1 = 0 ∧ df 2 = 0 ∧ df 3 = 20 ∧ ∀ q9, q9 < 8 → df (4 + q9) = bn_at 0 q9 ∧ df (12 + q9) = bn_at 0 q9 ^^^ 90) (hmf : mf 0 = 1 ∧ mf 1 = 0 ∧ mf 2 = 0 ∧ mf 3 = 20 ∧ ∀ k9, k9 < 16 → mf (4 + k9) = mb_at 0 k9) (hmz : ∀ q9, q9 < 4 → mz q9 = 1) (hz : mZ 14 = 0 ∧ mZ 17 = 0 ∧ mZ 24 = 0 ∧ mZ 33 = 0 ∧ mZ 43 = 0 ∧ mZ 44 = 0) (kk : ∀ (H : Heap) (locs : List Loc) (ls : Array Slot), va_S A s.heap H locs → lv_has ls 8 [(0, .ref b), (4, .int 0)] → W p l e room_1 s m args below meth c H locs 900 33000 Q (F0 m 1363 ls [])) (hP : va_P (dC, dI) vcl [(ds, .inr (0, [.ref dr, .ref sv])), (dr, .inr (2, [.ref rr, .int (nI 20)])), (rr, .inl ((cT 0), 1000, .inl df)), (sv, .inr (5, [.ref se, .ref pw, .ref g0, .ref ty, .ref an, .ref aw, .ref ts, .ref ss, .ref rq, .int 0, .int 0, .int 0])), (se, .inl ((cT 2), 4, .inr (.inr (.inr (.inr gs))))), (sh, .inr (1, [.ref sr, .int (nI 1)])), (sr, .inl ((cT 0), 40, .inl sf)), (pw, .inl ((cT 2), 32, .inr (.inr (.inr (.inr gp))))), (uh, .inr (1, [.ref ur, .int 0])), (ur, .inl ((cT 0), 60, .inl (fun _ => 0))), (g0, .inr (3, [.ref tx, .ref wo, .ref di, .int 0, .int 0, .int 0, .int 0])), (tx, .inr (1, [.ref tr, .int (nI 0)])), (tr, .inl ((cT 0), 1192, .inl (fun _ => 0))), (wo, .inl ((cT 0), 16, .inl (fun _ => 0))), (di, .inl ((cT 0), 16, .inl (fun _ => 0))), (an, .inr (2, [.ref ar, .int 0])), (ar, .inl ((cT 0), 72, .inl (fun _ => 0))), (aw, .inr (6, [.ref a1, .int 0, .int 0])), (ts, .inr (9, [.ref t1, .long 0, .long 1, .int 0])), (ss, .inr (11, [.ref s1, .int 0])), (rq, .inr (4, [.ref dr, .ref sa])), (sa, .inl ((cT 0), 256, .inl (fun _ => 0))), (mo, .inr (12, mdF mq mZ mQ 0 0 (nI 20) (nI 0))), (mq 0, .inl ((cT 1), 64, .inr (.inl mS))), (mq 3, .inl ((cT 0), 160, .inl mc)), (mq 4, .inl ((cT 0), 4, .inl mz)), (mq 5, .inl ((cT 0), 1920, .inl (fun _ => 0))), (mq 6, .inl ((cT 0), 32, .inl (fun _ => 0))), (mq 7, .inl ((cT 0), 1000, .inl mf)), (mq 9, .inl ((cT 0), 1400, .inl (fun _ => 0))), (mq 11, .inl ((cT 0), 16, .inl (fun _ => 0))), (mq 12, .inl ((cT 0), 1200, .inl (fun _ => 0))), (ou, .inl ((cT 1), 1, .inr (.inl fo)))] H) (hD : va_D A [(ds, .inr (0, [.ref dr, .ref sv])), (dr, .inr (2, [.ref rr, .int (nI 20)])), (rr, .inl ((cT 0), 1000, .inl df)), (sv, .inr (5, [.ref se, .ref pw, .ref g0, .ref ty, .ref an, .ref aw, .ref ts, .ref ss, .ref rq, .int 0, .int 0, .int 0])), (se, .inl ((cT 2), 4, .inr (.inr (.inr (.inr gs))))), (sh, .inr (1, [.ref sr, .int (nI 1)])), (sr, .inl ((cT 0), 40, .inl sf)), (pw, .inl ((cT 2), 32, .inr (.inr (.inr (.inr gp))))), (uh, .inr (1, [.ref ur, .int 0])), (ur, .inl ((cT 0), 60, .inl (fun _ => 0))), (g0, .inr (3, [.ref tx, .ref wo, .ref di, .int 0, .int 0, .int 0, .int 0])), (tx, .inr (1, [.ref tr, .int (nI 0)])), (tr, .inl ((cT 0), 1192, .inl (fun _ => 0))), (wo, .inl ((cT 0), 16, .inl (fun _ => 0))), (di, .inl ((cT 0), 16, .inl (fun _ => 0))), (an, .inr (2, [.ref ar, .int 0])), (ar, .inl ((cT 0), 72, .inl (fun _ => 0))), (aw, .inr (6, [.ref a1, .int 0, .int 0])), (ts, .inr (9, [.ref t1, .long 0, .long 1, .int 0])), (ss, .inr (11, [.ref s1, .int 0])), (rq, .inr (4, [.ref dr, .ref sa])), (sa, .inl ((cT 0), 256, .inl (fun _ => 0))), (mo, .inr (12, mdF mq mZ mQ 0 0 (nI 20) (nI 0))), (mq 0, .inl ((cT 1), 64, .inr (.inl mS))), (mq 3, .inl ((cT 0), 160, .inl mc)), (mq 4, .inl ((cT 0), 4, .inl mz)), (mq 5, .inl ((cT 0), 1920, .inl (fun _ => 0))), (mq 6, .inl ((cT 0), 32, .inl (fun _ => 0))), (mq 7, .inl ((cT 0), 1000, .inl mf)), (mq 9, .inl ((cT 0), 1400, .inl (fun _ => 0))), (mq 11, .inl ((cT 0), 16, .inl (fun _ => 0))), (mq 12, .inl ((cT 0), 1200, .inl (fun _ => 0))), (ou, .inl ((cT 1), 1, .inr (.inl fo)))]) (hS : va_S A s.heap H locs) (hl : lv_has ls 8 [(0, .ref b), (1, .ref ds), (2, .ref mo), (3, .ref ou), (4, .int 0)]) : W p l e room_1 s m args below meth c H locs 800 32000 Q (F0 m 1059 ls []) := by
  by_cases h1 : xs 1 < 0 ∨ 3 < xs 1
  · skip
    have hP := hP.sub (ws' := [(ds, .inr (0, [.ref dr, .ref sv])), (mo, .inr (12, mdF mq mZ mQ 0 0 (nI 20) (nI 0)))]) [0, 22] rfl
    have hD := hD.sub (ws' := [(ds, .inr (0, [.ref dr, .ref sv])), (mo, .inr (12, mdF mq mZ mQ 0 0 (nI 20) (nI 0)))]) [0, 22] (by decide) rfl
    refine lv_aload_n hx hb d_Lw_law_1059 rfl (lv_at hl 1 rfl) ?_
    refine lv_aload_n hx hb d_Lw_law_1060 rfl (lv_at hl 0 rfl) ?_
    refine lv_iload hx hb d_Lw_law_1061 (lv_at hl 4 rfl) ?_
    refine lv_iconst (v := 1) hx hb d_Lw_law_1063 (by decide) ?_
    refine lv_iadd hx hb d_Lw_law_1064 ?_
    refine va_sld hx hb hX hbl hbA hS (i := (0 + 1)) (vin (by decide)) d_Lw_law_1065 ?_
    refine lv_topi (fun x46 e45 => ?_)
    obtain rfl : x46 = xs 1 := by rw [e45]; exact congrArg xs (by decide)
    refine lv_aload_n hx hb d_Lw_law_1066 rfl (lv_at hl 3 rfl) ?_
    have hPc := hP.sub (ws' := [(ds, .inr (0, [.ref dr, .ref sv]))]) [0] rfl
    have hDc := hD.sub (ws' := [(ds, .inr (0, [.ref dr, .ref sv]))]) [0] (by decide) rfl
    have hFc := va_free (wc := [(ds, .inr (0, [.ref dr, .ref sv]))]) hD hS hA [0] rfl
    refine va_calli (xw_runS (As := [.ref ds, .int (xs 1), .ref ou]) (rest := []) ⟨hx, hb, hml, hown, hg⟩ (t_send l dC dI cT H.size ds (xs 1) dr sv ou (hfl) (h1)) rfl (gI (List.forall_mem_cons.mpr ⟨k_685, fun _ h => h⟩)) (hg _ k_683) (hg _ k_684) (hg _ k_0) rfl rfl (n := 3) (by decide +kernel) ⟨Nat.le_of_ble_eq_true rfl, Nat.le_of_ble_eq_true rfl⟩ ⟨fun a U g mk q => by obtain ⟨q0, q1, qP, qK, qD, qE⟩ := q; exact ⟨q0, q1, qP, va_K.moved (u := U) (U := U.calling g mk a) (Vm.Alike.refl U.vm) qK, qD, qE.at (State.WarmedH.refl _) (fun _ _ _ => rfl) (fun _ h => h)⟩, fun U hU hW => ⟨rfl, by rw [hU], by rw [hU]; exact hPc, va_K.moved hW.alike hK, hDc.weaken (fun _ _ _ _ => trivial), by rw [hU]; exact hXz.at hW hS.2.1 (fun _ h => h.elim)⟩⟩ rfl rfl hl.1 rfl (lv_room (Nat.le_of_ble_eq_true rfl)) d_Lw_law_1067 ⟨Nat.le_of_ble_eq_true rfl, Nat.le_of_ble_eq_true rfl⟩) hS (fun q _ h => hFc q h) hFc (fun rv9 u t H1 locs ht hvm hw hB hz1 hk1 hS => ?_)
    try dsimp only at hw hB
    obtain ⟨hP1, hK1, hD1⟩ := hB
    rw [ht] at hP1
    obtain ⟨rfl, hw⟩ := hw
    obtain ⟨hP, hD⟩ := va_join (wr := [(mo, .inr (12, mdF mq mZ mQ 0 0 (nI 20) (nI 0)))]) (w1 := []) hP hD [0] [1] rfl rfl (by decide) (by decide) hk1 hFc hP1 hD1
    have hw47 := hw
    clear hPc hDc hFc hz1 hk1 hP1 hK1 hD1
    generalize H1 = H at hP hS ⊢
    have hP : va_P (dC, dI) vcl [(mo, .inr (12, mdF mq mZ mQ 0 0 (nI 20) (nI 0)))] H := hP
    have hD : va_D A [(mo, .inr (12, mdF mq mZ mQ 0 0 (nI 20) (nI 0)))] := hD
    refine lv_istore (lv' := [(5, .int 1), (0, .ref b), (1, .ref ds), (2, .ref mo), (3, .ref ou), (4, .int 0)]) hx hb d_Lw_law_1070 hl (by decide) rfl (fun ls hl => ?_)
    refine lv_aload_n hx hb d_Lw_law_1072 rfl (lv_at hl 3 rfl) ?_
    refine lv_aload_n hx hb d_Lw_law_1073 rfl (lv_at hl 1 rfl) ?_
    refine lv_iload hx hb d_Lw_law_1074 (lv_at hl 5 rfl) ?_
    refine lv_iconst (v := 1) hx hb d_Lw_law_1076 (by decide) ?_
    refine lv_iadd hx hb d_Lw_law_1077 ?_
    refine va_sld hx hb hX hbl hbA hS (i := (0 + 1)) (vin (by decide)) d_Lw_law_1078 ?_
    refine lv_topi (fun x49 e48 => ?_)
    obtain rfl : x49 = xs 1 := by rw [e48]; exact congrArg xs (by decide)
    have hPc := hP.sub (ws' := [(mo, .inr (12, mdF mq mZ mQ 0 0 (nI 20) (nI 0)))]) [0] rfl
    have hDc := hD.sub (ws' := [(mo, .inr (12, mdF mq mZ mQ 0 0 (nI 20) (nI 0)))]) [0] (by decide) rfl
    have hFc := va_free (wc := [(mo, .inr (12, mdF mq mZ mQ 0 0 (nI 20) (nI 0)))]) hD hS hA [0] rfl
    refine va_calli (va_runV (C := "DoorServerModel") (As := [.int (xs 1)]) (rest := []) ⟨hx, hb, hml, hown, hg⟩ (b_send l dC dI cT H.size mo mq mZ mQ 0 0 20 0 (xs 1) (h1)) (cwV 1 hg (gI (List.forall_mem_append.mpr ⟨List.forall_mem_cons.mpr ⟨k_1283, List.forall_mem_cons.mpr ⟨k_1284, List.forall_mem_cons.mpr ⟨k_1285, List.forall_mem_cons.mpr ⟨k_13, fun _ h => absurd h List.not_mem_nil⟩⟩⟩⟩, List.forall_mem_cons.mpr ⟨k_1286, fun _ h => h⟩⟩)) rfl rfl rfl (by decide +kernel) ⟨Nat.le_of_ble_eq_true rfl, Nat.le_of_ble_eq_true rfl⟩) ⟨fun a U g mk q => by obtain ⟨q0, q1, qP, qK, qD⟩ := q; exact ⟨q0, q1, qP, va_K.moved (u := U) (U := U.calling g mk a) (Vm.Alike.refl U.vm) qK, qD⟩, va_recv (q0 := 0) (ci := 12) hK hP rfl rfl, fun U hU hW => ⟨rfl, by rw [hU], by rw [hU]; exact hPc, va_K.moved hW.alike hK, hDc.weaken (fun _ _ _ _ => trivial)⟩⟩ rfl rfl hl.1 rfl (lv_room (Nat.le_of_ble_eq_true rfl)) d_Lw_law_1079 ⟨Nat.le_of_ble_eq_true rfl, Nat.le_of_ble_eq_true rfl⟩) hS (fun q _ h => hFc q h) hFc (fun rv9 u t H1 locs ht hvm hw hB hz1 hk1 hS => ?_)
    try dsimp only at hw hB
    obtain ⟨hP1, hK1, hD1⟩ := hB
    rw [ht] at hP1
    generalize rv9 = r50 at hw ⊢
    obtain ⟨hP, hD⟩ := va_join (wr := []) (w1 := [(mo, .inr (12, mdF mq mZ mQ 1 0 (nI 20) (nI 0)))]) hP hD [0] [] rfl rfl (by decide) (by decide) hk1 hFc hP1 hD1
    have hw51 := hw
    clear hPc hDc hFc hz1 hk1 hP1 hK1 hD1
    generalize H1 = H at hP hS ⊢
    have hP : va_P (dC, dI) vcl [(mo, .inr (12, mdF mq mZ mQ 1 0 (nI 20) (nI 0)))] H := hP
    have hD : va_D A [(mo, .inr (12, mdF mq mZ mQ 1 0 (nI 20) (nI 0)))] := hD
    refine lv_istore (lv' := [(6, .int r50), (5, .int 1), (0, .ref b), (1, .ref ds), (2, .ref mo), (3, .ref ou), (4, .int 0)]) hx hb d_Lw_law_1082 hl (by decide) rfl (fun ls hl => ?_)
    refine lv_aload_n hx hb d_Lw_law_1084 rfl (lv_at hl 4 rfl) ?_
    have hPc := hP.sub (ws' := [(mo, .inr (12, mdF mq mZ mQ 1 0 (nI 20) (nI 0)))]) [0] rfl
    have hDc := hD.sub (ws' := [(mo, .inr (12, mdF mq mZ mQ 1 0 (nI 20) (nI 0)))]) [0] (by decide) rfl
    have hFc := va_free (wc := [(mo, .inr (12, mdF mq mZ mQ 1 0 (nI 20) (nI 0)))]) hD hS hA [0] rfl
    refine va_calli (va_runV (C := "DoorServerModel") (As := []) (rest := []) ⟨hx, hb, hml, hown, hg⟩ (m_thrown l dC dI cT H.size mo mq mZ mQ 1 0 20 0 ) (cwV 0 hg (gI (List.forall_mem_append.mpr ⟨List.forall_mem_cons.mpr ⟨k_1157, List.forall_mem_cons.mpr ⟨k_1158, List.forall_mem_cons.mpr ⟨k_1159, List.forall_mem_cons.mpr ⟨k_13, fun _ h => absurd h List.not_mem_nil⟩⟩⟩⟩, List.forall_mem_cons.mpr ⟨k_1160, fun _ h => h⟩⟩)) rfl rfl rfl (by decide +kernel) ⟨Nat.le_of_ble_eq_true rfl, Nat.le_of_ble_eq_true rfl⟩) ⟨fun a U g mk q => by obtain ⟨q0, q1, qP, qK, qD⟩ := q; exact ⟨q0, q1, qP, va_K.moved (u := U) (U := U.calling g mk a) (Vm.Alike.refl U.vm) qK, qD⟩, va_recv (q0 := 0) (ci := 12) hK hP rfl rfl, fun U hU hW => ⟨rfl, by rw [hU], by rw [hU]; exact hPc, va_K.moved hW.alike hK, hDc.weaken (fun _ _ _ _ => trivial)⟩⟩ rfl rfl hl.1 rfl (lv_room (Nat.le_of_ble_eq_true rfl)) d_Lw_law_1085 ⟨Nat.le_of_ble_eq_true rfl, Nat.le_of_ble_eq_true rfl⟩) hS (fun q _ h => hFc q h) hFc (fun rv9 u t H1 locs ht hvm hw hB hz1 hk1 hS => ?_)
    try dsimp only at hw hB
    obtain ⟨hP1, hK1, hD1⟩ := hB
    rw [ht] at hP1
    obtain ⟨rfl, hw⟩ := hw
    obtain ⟨hP, hD⟩ := va_join (wr := []) (w1 := []) hP hD [0] [] rfl rfl (by decide) (by decide) hk1 hFc hP1 hD1
    have hw52 := hw
    clear hPc hDc hFc hz1 hk1 hP1 hK1 hD1
    generalize H1 = H at hP hS ⊢
    have hP : va_P (dC, dI) vcl [] H := hP
    have hD : va_D A [] := hD
    refine lv_iload hx hb d_Lw_law_1088 (lv_at hl 1 rfl) ?_
    refine lv_icmp_eq (tgt := 1095) hx hb d_Lw_law_1090 (by decide) (fun hc53 => ?_) (fun hn9 => absurd (rfl) hn9)
    refine lv_iload hx hb d_Lw_law_1095 (lv_at hl 1 rfl) ?_
    refine lv_if_ne (tgt := 1112) hx hb d_Lw_law_1097 (by decide) (fun hc54 => ?_) (fun hn9 => absurd hn9 (by decide))
    refine lv_goto (tgt := 1363) hx hb d_Lw_law_1112 (by decide) ?_
    refine W.widen (k := 900) (n := 33000) (Nat.le_of_ble_eq_true rfl) (Nat.le_of_ble_eq_true rfl) ?_
    have hl9 : lv_has ls 8 [(0, .ref b), (4, .int 0)] := lv_sub hl [2, 6] rfl
    exact kk _ _ _ hS hl9
  have h1a : ¬ xs 1 < 0 := fun h9 => h1 (Or.inl h9)
  have h1b : ¬ 3 < xs 1 := fun h9 => h1 (Or.inr h9)
  have hs1 := hst1 h1a h1b
  have hP := hP.sub (ws' := [(ds, .inr (0, [.ref dr, .ref sv])), (dr, .inr (2, [.ref rr, .int (nI 20)])), (rr, .inl ((cT 0), 1000, .inl df)), (sv, .inr (5, [.ref se, .ref pw, .ref g0, .ref ty, .ref an, .ref aw, .ref ts, .ref ss, .ref rq, .int 0, .int 0, .int 0])), (rq, .inr (4, [.ref dr, .ref sa])), (sa, .inl ((cT 0), 256, .inl (fun _ => 0))), (mo, .inr (12, mdF mq mZ mQ 0 0 (nI 20) (nI 0))), (mq 7, .inl ((cT 0), 1000, .inl mf)), (ou, .inl ((cT 1), 1, .inr (.inl fo)))]) [0, 1, 2, 3, 20, 21, 22, 28, 32] rfl
  have hD := hD.sub (ws' := [(ds, .inr (0, [.ref dr, .ref sv])), (dr, .inr (2, [.ref rr, .int (nI 20)])), (rr, .inl ((cT 0), 1000, .inl df)), (sv, .inr (5, [.ref se, .ref pw, .ref g0, .ref ty, .ref an, .ref aw, .ref ts, .ref ss, .ref rq, .int 0, .int 0, .int 0])), (rq, .inr (4, [.ref dr, .ref sa])), (sa, .inl ((cT 0), 256, .inl (fun _ => 0))), (mo, .inr (12, mdF mq mZ mQ 0 0 (nI 20) (nI 0))), (mq 7, .inl ((cT 0), 1000, .inl mf)), (ou, .inl ((cT 1), 1, .inr (.inl fo)))]) [0, 1, 2, 3, 20, 21, 22, 28, 32] (by decide) rfl
  refine lv_aload_n hx hb d_Lw_law_1059 rfl (lv_at hl 1 rfl) ?_
  refine lv_aload_n hx hb d_Lw_law_1060 rfl (lv_at hl 0 rfl) ?_
  refine lv_iload hx hb d_Lw_law_1061 (lv_at hl 4 rfl) ?_
  refine lv_iconst (v := 1) hx hb d_Lw_law_1063 (by decide) ?_
  refine lv_iadd hx hb d_Lw_law_1064 ?_
  refine va_sld hx hb hX hbl hbA hS (i := (0 + 1)) (vin (by decide)) d_Lw_law_1065 ?_
  refine lv_topi (fun x56 e55 => ?_)
  obtain rfl : x56 = nI st := by rw [e55]; exact (congrArg xs (by decide)).trans (hs1)
  refine lv_aload_n hx hb d_Lw_law_1066 rfl (lv_at hl 3 rfl) ?_
  have hPc := hP.sub (ws' := [(ds, .inr (0, [.ref dr, .ref sv])), (sv, .inr (5, [.ref se, .ref pw, .ref g0, .ref ty, .ref an, .ref aw, .ref ts, .ref ss, .ref rq, .int 0, .int 0, .int 0])), (rq, .inr (4, [.ref dr, .ref sa])), (sa, .inl ((cT 0), 256, .inl (fun _ => 0))), (dr, .inr (2, [.ref rr, .int (nI 20)])), (rr, .inl ((cT 0), 1000, .inl df)), (ou, .inl ((cT 1), 1, .inr (.inl fo)))]) [0, 3, 4, 5, 1, 2, 8] rfl
  have hDc := hD.sub (ws' := [(ds, .inr (0, [.ref dr, .ref sv])), (sv, .inr (5, [.ref se, .ref pw, .ref g0, .ref ty, .ref an, .ref aw, .ref ts, .ref ss, .ref rq, .int 0, .int 0, .int 0])), (rq, .inr (4, [.ref dr, .ref sa])), (sa, .inl ((cT 0), 256, .inl (fun _ => 0))), (dr, .inr (2, [.ref rr, .int (nI 20)])), (rr, .inl ((cT 0), 1000, .inl df)), (ou, .inl ((cT 1), 1, .inr (.inl fo)))]) [0, 3, 4, 5, 1, 2, 8] (by decide) rfl
  have hFc := va_free (wc := [(ds, .inr (0, [.ref dr, .ref sv])), (sv, .inr (5, [.ref se, .ref pw, .ref g0, .ref ty, .ref an, .ref aw, .ref ts, .ref ss, .ref rq, .int 0, .int 0, .int 0])), (rq, .inr (4, [.ref dr, .ref sa])), (sa, .inl ((cT 0), 256, .inl (fun _ => 0))), (dr, .inr (2, [.ref rr, .int (nI 20)])), (rr, .inl ((cT 0), 1000, .inl df)), (ou, .inl ((cT 1), 1, .inr (.inl fo)))]) hD hS hA [0, 3, 4, 5, 1, 2, 8] rfl
  refine va_calli (xw_runS (As := [.ref ds, .int (nI st), .ref ou]) (rest := []) ⟨hx, hb, hml, hown, hg⟩ (l_send l dC dI cT H.size ds sv g0 se pw ty an aw ts ss rq 0 0 0 dr rr sa df (fun _ => 0) st ou fo (hdf.1) (hdf.2.2.1) (hdf.2.2.2.1) (hst)) rfl (gI (List.forall_mem_cons.mpr ⟨k_685, fun _ h => h⟩)) (hg _ k_683) (hg _ k_684) (hg _ k_0) rfl rfl (n := 3) (by decide +kernel) ⟨Nat.le_of_ble_eq_true rfl, Nat.le_of_ble_eq_true rfl⟩ ⟨fun a U g mk q => by obtain ⟨q0, q1, qP, qK, qD⟩ := q; exact ⟨q0, q1, qP, va_K.moved (u := U) (U := U.calling g mk a) (Vm.Alike.refl U.vm) qK, qD⟩, fun U hU hW => ⟨rfl, by rw [hU], by rw [hU]; exact hPc, va_K.moved hW.alike hK, hDc.weaken (fun _ _ _ _ => trivial)⟩⟩ rfl rfl hl.1 rfl (lv_room (Nat.le_of_ble_eq_true rfl)) d_Lw_law_1067 ⟨Nat.le_of_ble_eq_true rfl, Nat.le_of_ble_eq_true rfl⟩) hS (fun q _ h => hFc q h) hFc (fun rv9 u t H1 locs ht hvm hw hB hz1 hk1 hS => ?_)
  try dsimp only at hw hB
  obtain ⟨hP1, hK1, hD1⟩ := hB
  rw [ht] at hP1
  obtain ⟨rfl, hw⟩ := hw
  obtain ⟨hP, hD⟩ := va_join (wr := [(mo, .inr (12, mdF mq mZ mQ 0 0 (nI 20) (nI 0))), (mq 7, .inl ((cT 0), 1000, .inl mf))]) (w1 := [(ou, .inl ((cT 1), 1, .inr (.inl (vp_updL fo (0 : Int32).toNatClampNeg (((-4) : Int32).toInt64)))))]) hP hD [0, 3, 4, 5, 1, 2, 8] [6, 7] rfl rfl (by decide) (by decide) hk1 hFc hP1 hD1
  have hw57 := hw
  clear hPc hDc hFc hz1 hk1 hP1 hK1 hD1
  generalize H1 = H at hP hS ⊢
  have hP : va_P (dC, dI) vcl [(mo, .inr (12, mdF mq mZ mQ 0 0 (nI 20) (nI 0))), (mq 7, .inl ((cT 0), 1000, .inl mf)), (ou, .inl ((cT 1), 1, .inr (.inl (vp_updL fo (0 : Int32).toNatClampNeg (((-4) : Int32).toInt64)))))] H := hP
  have hD : va_D A [(mo, .inr (12, mdF mq mZ mQ 0 0 (nI 20) (nI 0))), (mq 7, .inl ((cT 0), 1000, .inl mf)), (ou, .inl ((cT 1), 1, .inr (.inl (vp_updL fo (0 : Int32).toNatClampNeg (((-4) : Int32).toInt64)))))] := hD
  refine lv_istore (lv' := [(5, .int 0), (0, .ref b), (1, .ref ds), (2, .ref mo), (3, .ref ou), (4, .int 0)]) hx hb d_Lw_law_1070 hl (by decide) rfl (fun ls hl => ?_)
  refine lv_aload_n hx hb d_Lw_law_1072 rfl (lv_at hl 3 rfl) ?_
  refine lv_aload_n hx hb d_Lw_law_1073 rfl (lv_at hl 1 rfl) ?_
  refine lv_iload hx hb d_Lw_law_1074 (lv_at hl 5 rfl) ?_
  refine lv_iconst (v := 1) hx hb d_Lw_law_1076 (by decide) ?_
  refine lv_iadd hx hb d_Lw_law_1077 ?_
  refine va_sld hx hb hX hbl hbA hS (i := (0 + 1)) (vin (by decide)) d_Lw_law_1078 ?_
  refine lv_topi (fun x59 e58 => ?_)
  obtain rfl : x59 = nI st := by rw [e58]; exact (congrArg xs (by decide)).trans (hs1)
  have hPc := hP.sub (ws' := [(mo, .inr (12, mdF mq mZ mQ 0 0 (nI 20) (nI 0))), (mq 7, .inl ((cT 0), 1000, .inl mf))]) [0, 1] rfl
  have hDc := hD.sub (ws' := [(mo, .inr (12, mdF mq mZ mQ 0 0 (nI 20) (nI 0))), (mq 7, .inl ((cT 0), 1000, .inl mf))]) [0, 1] (by decide) rfl
  have hFc := va_free (wc := [(mo, .inr (12, mdF mq mZ mQ 0 0 (nI 20) (nI 0))), (mq 7, .inl ((cT 0), 1000, .inl mf))]) hD hS hA [0, 1] rfl
  refine va_calli (va_runV (C := "DoorServerModel") (As := [.int (nI st)]) (rest := []) ⟨hx, hb, hml, hown, hg⟩ (o_send l dC dI cT H.size mo mq mZ mQ 0 0 20 0 mf st (hmf.1) (hmf.2.2.1) (hmf.2.2.2.1) (hst)) (cwV 1 hg (gI (List.forall_mem_append.mpr ⟨List.forall_mem_cons.mpr ⟨k_1283, List.forall_mem_cons.mpr ⟨k_1284, List.forall_mem_cons.mpr ⟨k_1285, List.forall_mem_cons.mpr ⟨k_13, fun _ h => absurd h List.not_mem_nil⟩⟩⟩⟩, List.forall_mem_cons.mpr ⟨k_1286, fun _ h => h⟩⟩)) rfl rfl rfl (by decide +kernel) ⟨Nat.le_of_ble_eq_true rfl, Nat.le_of_ble_eq_true rfl⟩) ⟨fun a U g mk q => by obtain ⟨q0, q1, qP, qK, qD⟩ := q; exact ⟨q0, q1, qP, va_K.moved (u := U) (U := U.calling g mk a) (Vm.Alike.refl U.vm) qK, qD⟩, va_recv (q0 := 0) (ci := 12) hK hP rfl rfl, fun U hU hW => ⟨rfl, by rw [hU], by rw [hU]; exact hPc, va_K.moved hW.alike hK, hDc.weaken (fun _ _ _ _ => trivial)⟩⟩ rfl rfl hl.1 rfl (lv_room (Nat.le_of_ble_eq_true rfl)) d_Lw_law_1079 ⟨Nat.le_of_ble_eq_true rfl, Nat.le_of_ble_eq_true rfl⟩) hS (fun q _ h => hFc q h) hFc (fun rv9 u t H1 locs ht hvm hw hB hz1 hk1 hS => ?_)
  try dsimp only at hw hB
  obtain ⟨hP1, hK1, hD1⟩ := hB
  rw [ht] at hP1
  obtain ⟨rfl, hw⟩ := hw
  obtain ⟨hP, hD⟩ := va_join (wr := [(ou, .inl ((cT 1), 1, .inr (.inl (vp_updL fo (0 : Int32).toNatClampNeg (((-4) : Int32).toInt64)))))]) (w1 := [(mo, .inr (12, mdF mq mZ mQ 0 0 (nI 20) (nI 0)))]) hP hD [0, 1] [2] rfl rfl (by decide) (by decide) hk1 hFc hP1 hD1
  have hw60 := hw
  clear hPc hDc hFc hz1 hk1 hP1 hK1 hD1
  generalize H1 = H at hP hS ⊢
  have hP : va_P (dC, dI) vcl [(ou, .inl ((cT 1), 1, .inr (.inl (vp_updL fo (0 : Int32).toNatClampNeg (((-4) : Int32).toInt64))))), (mo, .inr (12, mdF mq mZ mQ 0 0 (nI 20) (nI 0)))] H := hP
  have hD : va_D A [(ou, .inl ((cT 1), 1, .inr (.inl (vp_updL fo (0 : Int32).toNatClampNeg (((-4) : Int32).toInt64))))), (mo, .inr (12, mdF mq mZ mQ 0 0 (nI 20) (nI 0)))] := hD
  refine lv_istore (lv' := [(6, .int (-4)), (5, .int 0), (0, .ref b), (1, .ref ds), (2, .ref mo), (3, .ref ou), (4, .int 0)]) hx hb d_Lw_law_1082 hl (by decide) rfl (fun ls hl => ?_)
  refine lv_aload_n hx hb d_Lw_law_1084 rfl (lv_at hl 4 rfl) ?_
  have hPc := hP.sub (ws' := [(mo, .inr (12, mdF mq mZ mQ 0 0 (nI 20) (nI 0)))]) [1] rfl
  have hDc := hD.sub (ws' := [(mo, .inr (12, mdF mq mZ mQ 0 0 (nI 20) (nI 0)))]) [1] (by decide) rfl
  have hFc := va_free (wc := [(mo, .inr (12, mdF mq mZ mQ 0 0 (nI 20) (nI 0)))]) hD hS hA [1] rfl
  refine va_calli (va_runV (C := "DoorServerModel") (As := []) (rest := []) ⟨hx, hb, hml, hown, hg⟩ (m_thrown l dC dI cT H.size mo mq mZ mQ 0 0 20 0 ) (cwV 0 hg (gI (List.forall_mem_append.mpr ⟨List.forall_mem_cons.mpr ⟨k_1157, List.forall_mem_cons.mpr ⟨k_1158, List.forall_mem_cons.mpr ⟨k_1159, List.forall_mem_cons.mpr ⟨k_13, fun _ h => absurd h List.not_mem_nil⟩⟩⟩⟩, List.forall_mem_cons.mpr ⟨k_1160, fun _ h => h⟩⟩)) rfl rfl rfl (by decide +kernel) ⟨Nat.le_of_ble_eq_true rfl, Nat.le_of_ble_eq_true rfl⟩) ⟨fun a U g mk q => by obtain ⟨q0, q1, qP, qK, qD⟩ := q; exact ⟨q0, q1, qP, va_K.moved (u := U) (U := U.calling g mk a) (Vm.Alike.refl U.vm) qK, qD⟩, va_recv (q0 := 1) (ci := 12) hK hP rfl rfl, fun U hU hW => ⟨rfl, by rw [hU], by rw [hU]; exact hPc, va_K.moved hW.alike hK, hDc.weaken (fun _ _ _ _ => trivial)⟩⟩ rfl rfl hl.1 rfl (lv_room (Nat.le_of_ble_eq_true rfl)) d_Lw_law_1085 ⟨Nat.le_of_ble_eq_true rfl, Nat.le_of_ble_eq_true rfl⟩) hS (fun q _ h => hFc q h) hFc (fun rv9 u t H1 locs ht hvm hw hB hz1 hk1 hS => ?_)
  try dsimp only at hw hB
  obtain ⟨hP1, hK1, hD1⟩ := hB
  rw [ht] at hP1
  obtain ⟨rfl, hw⟩ := hw
  obtain ⟨hP, hD⟩ := va_join (wr := [(ou, .inl ((cT 1), 1, .inr (.inl (vp_updL fo (0 : Int32).toNatClampNeg (((-4) : Int32).toInt64)))))]) (w1 := []) hP hD [1] [0] rfl rfl (by decide) (by decide) hk1 hFc hP1 hD1
  have hw61 := hw
  clear hPc hDc hFc hz1 hk1 hP1 hK1 hD1
  generalize H1 = H at hP hS ⊢
  have hP : va_P (dC, dI) vcl [(ou, .inl ((cT 1), 1, .inr (.inl (vp_updL fo (0 : Int32).toNatClampNeg (((-4) : Int32).toInt64)))))] H := hP
  have hD : va_D A [(ou, .inl ((cT 1), 1, .inr (.inl (vp_updL fo (0 : Int32).toNatClampNeg (((-4) : Int32).toInt64)))))] := hD
  refine lv_iload hx hb d_Lw_law_1088 (lv_at hl 1 rfl) ?_
  refine lv_icmp_eq (tgt := 1095) hx hb d_Lw_law_1090 (by decide) (fun hc62 => ?_) (fun hn9 => absurd (rfl) hn9)
  refine lv_iload hx hb d_Lw_law_1095 (lv_at hl 1 rfl) ?_
  refine lv_if_ne (tgt := 1112) hx hb d_Lw_law_1097 (by decide) (fun hn9 => absurd hn9 (fun h => h rfl)) (fun hc63 => ?_)
  refine lv_aload_n hx hb d_Lw_law_1100 rfl (lv_at hl 5 rfl) ?_
  refine lv_iconst (v := 0) hx hb d_Lw_law_1101 (by decide) ?_
  refine va_lald hx hb hK hP 0 1 rfl rfl (i := 0) (vp_in_nI (n := 0) (N := 1) (by decide) (by decide)) d_Lw_law_1102 ?_
  refine lv_topl (fun x65 e64 => ?_)
  obtain rfl : x65 = (((-4) : Int32).toInt64) := by rw [e64]; exact updL_eq
  refine lv_iload hx hb d_Lw_law_1103 (lv_at hl 0 rfl) ?_
  refine lv_i2l (v := ((-4) : Int32).toInt64) hx hb d_Lw_law_1105 rfl ?_
  refine W.lcmp hx hb d_Lw_law_1106 ?_
  refine lv_if_eq (tgt := 1112) hx hb d_Lw_law_1107 (by decide) (fun hc66 => ?_) (fun hn9 => absurd (cmp_e (rfl)) hn9)
  refine lv_goto (tgt := 1363) hx hb d_Lw_law_1112 (by decide) ?_
  refine W.widen (k := 900) (n := 33000) (Nat.le_of_ble_eq_true rfl) (Nat.le_of_ble_eq_true rfl) ?_
  have hl9 : lv_has ls 8 [(0, .ref b), (4, .int 0)] := lv_sub hl [2, 6] rfl
  exact kk _ _ _ hS hl9
set_option maxHeartbeats 4000000 in
set_option maxRecDepth 100000 in
theorem lw_case13 {p : Program} {l : Launch} {e : Env} {s : State} {m : MethodId} {args : Array Value} {below : List Frame} {meth : Method} {c : Code} {Q : State → Prop} {A : Nat → Prop} {b : Nat} {xs : Nat → Int32} {H : Heap} {locs : List Loc} {ls : Array Slot} (dC : Nat → ClassId) (dI : Nat → Nat → Nat) (cT : Nat → ClassId) (ds : Nat) (dr : Nat) (sv : Nat) (rr : Nat) (se : Nat) (pw : Nat) (g0 : Nat) (ty : Nat) (an : Nat) (aw : Nat) (ts : Nat) (ss : Nat) (rq : Nat) (sh : Nat) (sr : Nat) (uh : Nat) (ur : Nat) (tx : Nat) (tr : Nat) (wo : Nat) (di : Nat) (ar : Nat) (a1 : Nat) (t1 : Nat) (s1 : Nat) (sa : Nat) (mo : Nat) (ou : Nat) (st us : Nat) (gs gp : Nat → Option Nat) (df sf mc mz mf mZ : Nat → Int32) (mS mQ fo : Nat → Int64) (mq : Nat → Nat) (hx : p.tables.exec = Jvm.exec) (hb : c.code = b_Lw_law) (hml : c.maxLocals = 8) (hown : s.vm.findClass "DoorServerLaw" = some m.cls) (hg : ∀ w ∈ BIG, w.before args s = true) (hX : va_X b 5 xs s s.heap) (hbl : b < s.heap.size) (hbA : ¬ A b) (hA : ∀ q : Nat, s.heap.size ≤ q → A q) (hK : va_K (dC, dI) vcl (tyL cT) s) (hfl : l.flags = pinnedFlags ++ [noTraceFlag]) (hXm : xm A s s.heap) (hXz : xz_T A s s.heap) (hst : st < 4) (hus : us < 32) (hgs : gs st = some sh) (hgp : gp us = some uh) (hst1 : ¬ xs 1 < 0 → ¬ 3 < xs 1 → xs 1 = nI st) (hus1 : ¬ xs 1 < 0 → ¬ 31 < xs 1 → xs 1 = nI us) (hdf : df 0 = 1 ∧ df 1 = 0 ∧ df 2 = 0 ∧ df 3 = 20 ∧ ∀ q9, q9 < 8 → df (4 + q9) = bn_at 0 q9 ∧ df (12 + q9) = bn_at 0 q9 ^^^ 90) (hmf : mf 0 = 1 ∧ mf 1 = 0 ∧ mf 2 = 0 ∧ mf 3 = 20 ∧ ∀ k9, k9 < 16 → mf (4 + k9) = mb_at 0 k9) (hmz : ∀ q9, q9 < 4 → mz q9 = 1) (hz : mZ 14 = 0 ∧ mZ 17 = 0 ∧ mZ 24 = 0 ∧ mZ 33 = 0 ∧ mZ 43 = 0 ∧ mZ 44 = 0) (kk : ∀ (H : Heap) (locs : List Loc) (ls : Array Slot), va_S A s.heap H locs → lv_has ls 8 [(0, .ref b), (4, .int 0)] → W p l e room_1 s m args below meth c H locs 900 33000 Q (F0 m 1363 ls [])) (hP : va_P (dC, dI) vcl [(ds, .inr (0, [.ref dr, .ref sv])), (dr, .inr (2, [.ref rr, .int (nI 20)])), (rr, .inl ((cT 0), 1000, .inl df)), (sv, .inr (5, [.ref se, .ref pw, .ref g0, .ref ty, .ref an, .ref aw, .ref ts, .ref ss, .ref rq, .int 0, .int 0, .int 0])), (se, .inl ((cT 2), 4, .inr (.inr (.inr (.inr gs))))), (sh, .inr (1, [.ref sr, .int (nI 1)])), (sr, .inl ((cT 0), 40, .inl sf)), (pw, .inl ((cT 2), 32, .inr (.inr (.inr (.inr gp))))), (uh, .inr (1, [.ref ur, .int 0])), (ur, .inl ((cT 0), 60, .inl (fun _ => 0))), (g0, .inr (3, [.ref tx, .ref wo, .ref di, .int 0, .int 0, .int 0, .int 0])), (tx, .inr (1, [.ref tr, .int (nI 0)])), (tr, .inl ((cT 0), 1192, .inl (fun _ => 0))), (wo, .inl ((cT 0), 16, .inl (fun _ => 0))), (di, .inl ((cT 0), 16, .inl (fun _ => 0))), (an, .inr (2, [.ref ar, .int 0])), (ar, .inl ((cT 0), 72, .inl (fun _ => 0))), (aw, .inr (6, [.ref a1, .int 0, .int 0])), (ts, .inr (9, [.ref t1, .long 0, .long 1, .int 0])), (ss, .inr (11, [.ref s1, .int 0])), (rq, .inr (4, [.ref dr, .ref sa])), (sa, .inl ((cT 0), 256, .inl (fun _ => 0))), (mo, .inr (12, mdF mq mZ mQ 0 0 (nI 20) (nI 0))), (mq 0, .inl ((cT 1), 64, .inr (.inl mS))), (mq 3, .inl ((cT 0), 160, .inl mc)), (mq 4, .inl ((cT 0), 4, .inl mz)), (mq 5, .inl ((cT 0), 1920, .inl (fun _ => 0))), (mq 6, .inl ((cT 0), 32, .inl (fun _ => 0))), (mq 7, .inl ((cT 0), 1000, .inl mf)), (mq 9, .inl ((cT 0), 1400, .inl (fun _ => 0))), (mq 11, .inl ((cT 0), 16, .inl (fun _ => 0))), (mq 12, .inl ((cT 0), 1200, .inl (fun _ => 0))), (ou, .inl ((cT 1), 1, .inr (.inl fo)))] H) (hD : va_D A [(ds, .inr (0, [.ref dr, .ref sv])), (dr, .inr (2, [.ref rr, .int (nI 20)])), (rr, .inl ((cT 0), 1000, .inl df)), (sv, .inr (5, [.ref se, .ref pw, .ref g0, .ref ty, .ref an, .ref aw, .ref ts, .ref ss, .ref rq, .int 0, .int 0, .int 0])), (se, .inl ((cT 2), 4, .inr (.inr (.inr (.inr gs))))), (sh, .inr (1, [.ref sr, .int (nI 1)])), (sr, .inl ((cT 0), 40, .inl sf)), (pw, .inl ((cT 2), 32, .inr (.inr (.inr (.inr gp))))), (uh, .inr (1, [.ref ur, .int 0])), (ur, .inl ((cT 0), 60, .inl (fun _ => 0))), (g0, .inr (3, [.ref tx, .ref wo, .ref di, .int 0, .int 0, .int 0, .int 0])), (tx, .inr (1, [.ref tr, .int (nI 0)])), (tr, .inl ((cT 0), 1192, .inl (fun _ => 0))), (wo, .inl ((cT 0), 16, .inl (fun _ => 0))), (di, .inl ((cT 0), 16, .inl (fun _ => 0))), (an, .inr (2, [.ref ar, .int 0])), (ar, .inl ((cT 0), 72, .inl (fun _ => 0))), (aw, .inr (6, [.ref a1, .int 0, .int 0])), (ts, .inr (9, [.ref t1, .long 0, .long 1, .int 0])), (ss, .inr (11, [.ref s1, .int 0])), (rq, .inr (4, [.ref dr, .ref sa])), (sa, .inl ((cT 0), 256, .inl (fun _ => 0))), (mo, .inr (12, mdF mq mZ mQ 0 0 (nI 20) (nI 0))), (mq 0, .inl ((cT 1), 64, .inr (.inl mS))), (mq 3, .inl ((cT 0), 160, .inl mc)), (mq 4, .inl ((cT 0), 4, .inl mz)), (mq 5, .inl ((cT 0), 1920, .inl (fun _ => 0))), (mq 6, .inl ((cT 0), 32, .inl (fun _ => 0))), (mq 7, .inl ((cT 0), 1000, .inl mf)), (mq 9, .inl ((cT 0), 1400, .inl (fun _ => 0))), (mq 11, .inl ((cT 0), 16, .inl (fun _ => 0))), (mq 12, .inl ((cT 0), 1200, .inl (fun _ => 0))), (ou, .inl ((cT 1), 1, .inr (.inl fo)))]) (hS : va_S A s.heap H locs) (hl : lv_has ls 8 [(0, .ref b), (1, .ref ds), (2, .ref mo), (3, .ref ou), (4, .int 0)]) : W p l e room_1 s m args below meth c H locs 800 32000 Q (F0 m 1115 ls []) := by
  have hP := hP.sub (ws' := [(ds, .inr (0, [.ref dr, .ref sv])), (sv, .inr (5, [.ref se, .ref pw, .ref g0, .ref ty, .ref an, .ref aw, .ref ts, .ref ss, .ref rq, .int 0, .int 0, .int 0])), (an, .inr (2, [.ref ar, .int 0])), (ar, .inl ((cT 0), 72, .inl (fun _ => 0))), (mo, .inr (12, mdF mq mZ mQ 0 0 (nI 20) (nI 0)))]) [0, 3, 15, 16, 22] rfl
  have hD := hD.sub (ws' := [(ds, .inr (0, [.ref dr, .ref sv])), (sv, .inr (5, [.ref se, .ref pw, .ref g0, .ref ty, .ref an, .ref aw, .ref ts, .ref ss, .ref rq, .int 0, .int 0, .int 0])), (an, .inr (2, [.ref ar, .int 0])), (ar, .inl ((cT 0), 72, .inl (fun _ => 0))), (mo, .inr (12, mdF mq mZ mQ 0 0 (nI 20) (nI 0)))]) [0, 3, 15, 16, 22] (by decide) rfl
  refine lv_aload_n hx hb d_Lw_law_1115 rfl (lv_at hl 1 rfl) ?_
  have hPc := hP.sub (ws' := [(ds, .inr (0, [.ref dr, .ref sv])), (sv, .inr (5, [.ref se, .ref pw, .ref g0, .ref ty, .ref an, .ref aw, .ref ts, .ref ss, .ref rq, .int 0, .int 0, .int 0])), (an, .inr (2, [.ref ar, .int 0])), (ar, .inl ((cT 0), 72, .inl (fun _ => 0)))]) [0, 1, 2, 3] rfl
  have hDc := hD.sub (ws' := [(ds, .inr (0, [.ref dr, .ref sv])), (sv, .inr (5, [.ref se, .ref pw, .ref g0, .ref ty, .ref an, .ref aw, .ref ts, .ref ss, .ref rq, .int 0, .int 0, .int 0])), (an, .inr (2, [.ref ar, .int 0])), (ar, .inl ((cT 0), 72, .inl (fun _ => 0)))]) [0, 1, 2, 3] (by decide) rfl
  have hFc := va_free (wc := [(ds, .inr (0, [.ref dr, .ref sv])), (sv, .inr (5, [.ref se, .ref pw, .ref g0, .ref ty, .ref an, .ref aw, .ref ts, .ref ss, .ref rq, .int 0, .int 0, .int 0])), (an, .inr (2, [.ref ar, .int 0])), (ar, .inl ((cT 0), 72, .inl (fun _ => 0)))]) hD hS hA [0, 1, 2, 3] rfl
  refine va_calli (va_runV (C := "DoorServer") (As := []) (rest := []) ⟨hx, hb, hml, hown, hg⟩ (c_size l dC dI cT H.size ds dr sv rr g0 se pw ty an aw ts ss rq 0 0 0 ar (fun _ => 0) ) (cwV 0 hg (gI (List.forall_mem_append.mpr ⟨List.forall_mem_cons.mpr ⟨k_375, List.forall_mem_cons.mpr ⟨k_376, List.forall_mem_cons.mpr ⟨k_377, List.forall_mem_cons.mpr ⟨k_1, fun _ h => absurd h List.not_mem_nil⟩⟩⟩⟩, List.forall_mem_cons.mpr ⟨k_378, fun _ h => h⟩⟩)) rfl rfl rfl (by decide +kernel) ⟨Nat.le_of_ble_eq_true rfl, Nat.le_of_ble_eq_true rfl⟩) ⟨fun a U g mk q => by obtain ⟨q0, q1, qP, qK, qD⟩ := q; exact ⟨q0, q1, qP, va_K.moved (u := U) (U := U.calling g mk a) (Vm.Alike.refl U.vm) qK, qD⟩, va_recv (q0 := 0) (ci := 0) hK hP rfl rfl, fun U hU hW => ⟨rfl, by rw [hU], by rw [hU]; exact hPc, va_K.moved hW.alike hK, hDc.weaken (fun _ _ _ _ => trivial)⟩⟩ rfl rfl hl.1 rfl (lv_room (Nat.le_of_ble_eq_true rfl)) d_Lw_law_1116 ⟨Nat.le_of_ble_eq_true rfl, Nat.le_of_ble_eq_true rfl⟩) hS (fun q _ h => hFc q h) hFc (fun rv9 u t H1 locs ht hvm hw hB hz1 hk1 hS => ?_)
  try dsimp only at hw hB
  obtain ⟨hP1, hK1, hD1⟩ := hB
  rw [ht] at hP1
  obtain ⟨rfl, hw⟩ := hw
  obtain ⟨hP, hD⟩ := va_join (wr := [(mo, .inr (12, mdF mq mZ mQ 0 0 (nI 20) (nI 0)))]) (w1 := []) hP hD [0, 1, 2, 3] [4] rfl rfl (by decide) (by decide) hk1 hFc hP1 hD1
  have hw67 := hw
  clear hPc hDc hFc hz1 hk1 hP1 hK1 hD1
  generalize H1 = H at hP hS ⊢
  have hP : va_P (dC, dI) vcl [(mo, .inr (12, mdF mq mZ mQ 0 0 (nI 20) (nI 0)))] H := hP
  have hD : va_D A [(mo, .inr (12, mdF mq mZ mQ 0 0 (nI 20) (nI 0)))] := hD
  refine lv_aload_n hx hb d_Lw_law_1119 rfl (lv_at hl 2 rfl) ?_
  have hPc := hP.sub (ws' := [(mo, .inr (12, mdF mq mZ mQ 0 0 (nI 20) (nI 0)))]) [0] rfl
  have hDc := hD.sub (ws' := [(mo, .inr (12, mdF mq mZ mQ 0 0 (nI 20) (nI 0)))]) [0] (by decide) rfl
  have hFc := va_free (wc := [(mo, .inr (12, mdF mq mZ mQ 0 0 (nI 20) (nI 0)))]) hD hS hA [0] rfl
  refine va_calli (va_runV (C := "DoorServerModel") (As := []) (rest := [.int 0]) ⟨hx, hb, hml, hown, hg⟩ (o_size l dC dI cT H.size mo mq mZ mQ 0 0 20 0 ) (cwV 0 hg (gI (List.forall_mem_append.mpr ⟨List.forall_mem_cons.mpr ⟨k_1393, List.forall_mem_cons.mpr ⟨k_1394, List.forall_mem_cons.mpr ⟨k_1395, List.forall_mem_cons.mpr ⟨k_13, fun _ h => absurd h List.not_mem_nil⟩⟩⟩⟩, List.forall_mem_cons.mpr ⟨k_1396, fun _ h => h⟩⟩)) rfl rfl rfl (by decide +kernel) ⟨Nat.le_of_ble_eq_true rfl, Nat.le_of_ble_eq_true rfl⟩) ⟨fun a U g mk q => by obtain ⟨q0, q1, qP, qK, qD⟩ := q; exact ⟨q0, q1, qP, va_K.moved (u := U) (U := U.calling g mk a) (Vm.Alike.refl U.vm) qK, qD⟩, va_recv (q0 := 0) (ci := 12) hK hP rfl rfl, fun U hU hW => ⟨rfl, by rw [hU], by rw [hU]; exact hPc, va_K.moved hW.alike hK, hDc.weaken (fun _ _ _ _ => trivial)⟩⟩ rfl rfl hl.1 rfl (lv_room (Nat.le_of_ble_eq_true rfl)) d_Lw_law_1120 ⟨Nat.le_of_ble_eq_true rfl, Nat.le_of_ble_eq_true rfl⟩) hS (fun q _ h => hFc q h) hFc (fun rv9 u t H1 locs ht hvm hw hB hz1 hk1 hS => ?_)
  try dsimp only at hw hB
  obtain ⟨hP1, hK1, hD1⟩ := hB
  rw [ht] at hP1
  obtain ⟨rfl, hw⟩ := hw
  obtain ⟨hP, hD⟩ := va_join (wr := []) (w1 := [(mo, .inr (12, mdF mq mZ mQ 0 0 (nI 20) (nI 0)))]) hP hD [0] [] rfl rfl (by decide) (by decide) hk1 hFc hP1 hD1
  have hw68 := hw
  clear hPc hDc hFc hz1 hk1 hP1 hK1 hD1
  generalize H1 = H at hP hS ⊢
  have hP : va_P (dC, dI) vcl [(mo, .inr (12, mdF mq mZ mQ 0 0 (nI 20) (nI 0)))] H := hP
  have hD : va_D A [(mo, .inr (12, mdF mq mZ mQ 0 0 (nI 20) (nI 0)))] := hD
  refine lv_icmp_eq (tgt := 1363) hx hb d_Lw_law_1123 (by decide) (fun hc69 => ?_) (fun hn9 => absurd (hz.1.symm) hn9)
  refine W.widen (k := 900) (n := 33000) (Nat.le_of_ble_eq_true rfl) (Nat.le_of_ble_eq_true rfl) ?_
  have hl9 : lv_has ls 8 [(0, .ref b), (4, .int 0)] := lv_sub hl [0, 4] rfl
  exact kk _ _ _ hS hl9
set_option maxHeartbeats 4000000 in
set_option maxRecDepth 100000 in
theorem lw_case14 {p : Program} {l : Launch} {e : Env} {s : State} {m : MethodId} {args : Array Value} {below : List Frame} {meth : Method} {c : Code} {Q : State → Prop} {A : Nat → Prop} {b : Nat} {xs : Nat → Int32} {H : Heap} {locs : List Loc} {ls : Array Slot} (dC : Nat → ClassId) (dI : Nat → Nat → Nat) (cT : Nat → ClassId) (ds : Nat) (dr : Nat) (sv : Nat) (rr : Nat) (se : Nat) (pw : Nat) (g0 : Nat) (ty : Nat) (an : Nat) (aw : Nat) (ts : Nat) (ss : Nat) (rq : Nat) (sh : Nat) (sr : Nat) (uh : Nat) (ur : Nat) (tx : Nat) (tr : Nat) (wo : Nat) (di : Nat) (ar : Nat) (a1 : Nat) (t1 : Nat) (s1 : Nat) (sa : Nat) (mo : Nat) (ou : Nat) (st us : Nat) (gs gp : Nat → Option Nat) (df sf mc mz mf mZ : Nat → Int32) (mS mQ fo : Nat → Int64) (mq : Nat → Nat) (hx : p.tables.exec = Jvm.exec) (hb : c.code = b_Lw_law) (hml : c.maxLocals = 8) (hown : s.vm.findClass "DoorServerLaw" = some m.cls) (hg : ∀ w ∈ BIG, w.before args s = true) (hX : va_X b 5 xs s s.heap) (hbl : b < s.heap.size) (hbA : ¬ A b) (hA : ∀ q : Nat, s.heap.size ≤ q → A q) (hK : va_K (dC, dI) vcl (tyL cT) s) (hfl : l.flags = pinnedFlags ++ [noTraceFlag]) (hXm : xm A s s.heap) (hXz : xz_T A s s.heap) (hst : st < 4) (hus : us < 32) (hgs : gs st = some sh) (hgp : gp us = some uh) (hst1 : ¬ xs 1 < 0 → ¬ 3 < xs 1 → xs 1 = nI st) (hus1 : ¬ xs 1 < 0 → ¬ 31 < xs 1 → xs 1 = nI us) (hdf : df 0 = 1 ∧ df 1 = 0 ∧ df 2 = 0 ∧ df 3 = 20 ∧ ∀ q9, q9 < 8 → df (4 + q9) = bn_at 0 q9 ∧ df (12 + q9) = bn_at 0 q9 ^^^ 90) (hmf : mf 0 = 1 ∧ mf 1 = 0 ∧ mf 2 = 0 ∧ mf 3 = 20 ∧ ∀ k9, k9 < 16 → mf (4 + k9) = mb_at 0 k9) (hmz : ∀ q9, q9 < 4 → mz q9 = 1) (hz : mZ 14 = 0 ∧ mZ 17 = 0 ∧ mZ 24 = 0 ∧ mZ 33 = 0 ∧ mZ 43 = 0 ∧ mZ 44 = 0) (kk : ∀ (H : Heap) (locs : List Loc) (ls : Array Slot), va_S A s.heap H locs → lv_has ls 8 [(0, .ref b), (4, .int 0)] → W p l e room_1 s m args below meth c H locs 900 33000 Q (F0 m 1363 ls [])) (hP : va_P (dC, dI) vcl [(ds, .inr (0, [.ref dr, .ref sv])), (dr, .inr (2, [.ref rr, .int (nI 20)])), (rr, .inl ((cT 0), 1000, .inl df)), (sv, .inr (5, [.ref se, .ref pw, .ref g0, .ref ty, .ref an, .ref aw, .ref ts, .ref ss, .ref rq, .int 0, .int 0, .int 0])), (se, .inl ((cT 2), 4, .inr (.inr (.inr (.inr gs))))), (sh, .inr (1, [.ref sr, .int (nI 1)])), (sr, .inl ((cT 0), 40, .inl sf)), (pw, .inl ((cT 2), 32, .inr (.inr (.inr (.inr gp))))), (uh, .inr (1, [.ref ur, .int 0])), (ur, .inl ((cT 0), 60, .inl (fun _ => 0))), (g0, .inr (3, [.ref tx, .ref wo, .ref di, .int 0, .int 0, .int 0, .int 0])), (tx, .inr (1, [.ref tr, .int (nI 0)])), (tr, .inl ((cT 0), 1192, .inl (fun _ => 0))), (wo, .inl ((cT 0), 16, .inl (fun _ => 0))), (di, .inl ((cT 0), 16, .inl (fun _ => 0))), (an, .inr (2, [.ref ar, .int 0])), (ar, .inl ((cT 0), 72, .inl (fun _ => 0))), (aw, .inr (6, [.ref a1, .int 0, .int 0])), (ts, .inr (9, [.ref t1, .long 0, .long 1, .int 0])), (ss, .inr (11, [.ref s1, .int 0])), (rq, .inr (4, [.ref dr, .ref sa])), (sa, .inl ((cT 0), 256, .inl (fun _ => 0))), (mo, .inr (12, mdF mq mZ mQ 0 0 (nI 20) (nI 0))), (mq 0, .inl ((cT 1), 64, .inr (.inl mS))), (mq 3, .inl ((cT 0), 160, .inl mc)), (mq 4, .inl ((cT 0), 4, .inl mz)), (mq 5, .inl ((cT 0), 1920, .inl (fun _ => 0))), (mq 6, .inl ((cT 0), 32, .inl (fun _ => 0))), (mq 7, .inl ((cT 0), 1000, .inl mf)), (mq 9, .inl ((cT 0), 1400, .inl (fun _ => 0))), (mq 11, .inl ((cT 0), 16, .inl (fun _ => 0))), (mq 12, .inl ((cT 0), 1200, .inl (fun _ => 0))), (ou, .inl ((cT 1), 1, .inr (.inl fo)))] H) (hD : va_D A [(ds, .inr (0, [.ref dr, .ref sv])), (dr, .inr (2, [.ref rr, .int (nI 20)])), (rr, .inl ((cT 0), 1000, .inl df)), (sv, .inr (5, [.ref se, .ref pw, .ref g0, .ref ty, .ref an, .ref aw, .ref ts, .ref ss, .ref rq, .int 0, .int 0, .int 0])), (se, .inl ((cT 2), 4, .inr (.inr (.inr (.inr gs))))), (sh, .inr (1, [.ref sr, .int (nI 1)])), (sr, .inl ((cT 0), 40, .inl sf)), (pw, .inl ((cT 2), 32, .inr (.inr (.inr (.inr gp))))), (uh, .inr (1, [.ref ur, .int 0])), (ur, .inl ((cT 0), 60, .inl (fun _ => 0))), (g0, .inr (3, [.ref tx, .ref wo, .ref di, .int 0, .int 0, .int 0, .int 0])), (tx, .inr (1, [.ref tr, .int (nI 0)])), (tr, .inl ((cT 0), 1192, .inl (fun _ => 0))), (wo, .inl ((cT 0), 16, .inl (fun _ => 0))), (di, .inl ((cT 0), 16, .inl (fun _ => 0))), (an, .inr (2, [.ref ar, .int 0])), (ar, .inl ((cT 0), 72, .inl (fun _ => 0))), (aw, .inr (6, [.ref a1, .int 0, .int 0])), (ts, .inr (9, [.ref t1, .long 0, .long 1, .int 0])), (ss, .inr (11, [.ref s1, .int 0])), (rq, .inr (4, [.ref dr, .ref sa])), (sa, .inl ((cT 0), 256, .inl (fun _ => 0))), (mo, .inr (12, mdF mq mZ mQ 0 0 (nI 20) (nI 0))), (mq 0, .inl ((cT 1), 64, .inr (.inl mS))), (mq 3, .inl ((cT 0), 160, .inl mc)), (mq 4, .inl ((cT 0), 4, .inl mz)), (mq 5, .inl ((cT 0), 1920, .inl (fun _ => 0))), (mq 6, .inl ((cT 0), 32, .inl (fun _ => 0))), (mq 7, .inl ((cT 0), 1000, .inl mf)), (mq 9, .inl ((cT 0), 1400, .inl (fun _ => 0))), (mq 11, .inl ((cT 0), 16, .inl (fun _ => 0))), (mq 12, .inl ((cT 0), 1200, .inl (fun _ => 0))), (ou, .inl ((cT 1), 1, .inr (.inl fo)))]) (hS : va_S A s.heap H locs) (hl : lv_has ls 8 [(0, .ref b), (1, .ref ds), (2, .ref mo), (3, .ref ou), (4, .int 0)]) : W p l e room_1 s m args below meth c H locs 800 32000 Q (F0 m 1128 ls []) := by
  have hP := hP.sub (ws' := [(ds, .inr (0, [.ref dr, .ref sv])), (sv, .inr (5, [.ref se, .ref pw, .ref g0, .ref ty, .ref an, .ref aw, .ref ts, .ref ss, .ref rq, .int 0, .int 0, .int 0])), (an, .inr (2, [.ref ar, .int 0])), (ar, .inl ((cT 0), 72, .inl (fun _ => 0))), (mo, .inr (12, mdF mq mZ mQ 0 0 (nI 20) (nI 0)))]) [0, 3, 15, 16, 22] rfl
  have hD := hD.sub (ws' := [(ds, .inr (0, [.ref dr, .ref sv])), (sv, .inr (5, [.ref se, .ref pw, .ref g0, .ref ty, .ref an, .ref aw, .ref ts, .ref ss, .ref rq, .int 0, .int 0, .int 0])), (an, .inr (2, [.ref ar, .int 0])), (ar, .inl ((cT 0), 72, .inl (fun _ => 0))), (mo, .inr (12, mdF mq mZ mQ 0 0 (nI 20) (nI 0)))]) [0, 3, 15, 16, 22] (by decide) rfl
  refine lv_aload_n hx hb d_Lw_law_1128 rfl (lv_at hl 1 rfl) ?_
  refine lv_aload_n hx hb d_Lw_law_1129 rfl (lv_at hl 0 rfl) ?_
  refine lv_iload hx hb d_Lw_law_1130 (lv_at hl 4 rfl) ?_
  refine lv_iconst (v := 1) hx hb d_Lw_law_1132 (by decide) ?_
  refine lv_iadd hx hb d_Lw_law_1133 ?_
  refine va_sld hx hb hX hbl hbA hS (i := (0 + 1)) (vin (by decide)) d_Lw_law_1134 ?_
  refine lv_topi (fun x71 e70 => ?_)
  obtain rfl : x71 = xs 1 := by rw [e70]; exact congrArg xs (by decide)
  refine lv_aload_n hx hb d_Lw_law_1135 rfl (lv_at hl 3 rfl) ?_
  have hPc := hP.sub (ws' := [(ds, .inr (0, [.ref dr, .ref sv])), (sv, .inr (5, [.ref se, .ref pw, .ref g0, .ref ty, .ref an, .ref aw, .ref ts, .ref ss, .ref rq, .int 0, .int 0, .int 0])), (an, .inr (2, [.ref ar, .int 0])), (ar, .inl ((cT 0), 72, .inl (fun _ => 0)))]) [0, 1, 2, 3] rfl
  have hDc := hD.sub (ws' := [(ds, .inr (0, [.ref dr, .ref sv])), (sv, .inr (5, [.ref se, .ref pw, .ref g0, .ref ty, .ref an, .ref aw, .ref ts, .ref ss, .ref rq, .int 0, .int 0, .int 0])), (an, .inr (2, [.ref ar, .int 0])), (ar, .inl ((cT 0), 72, .inl (fun _ => 0)))]) [0, 1, 2, 3] (by decide) rfl
  have hFc := va_free (wc := [(ds, .inr (0, [.ref dr, .ref sv])), (sv, .inr (5, [.ref se, .ref pw, .ref g0, .ref ty, .ref an, .ref aw, .ref ts, .ref ss, .ref rq, .int 0, .int 0, .int 0])), (an, .inr (2, [.ref ar, .int 0])), (ar, .inl ((cT 0), 72, .inl (fun _ => 0)))]) hD hS hA [0, 1, 2, 3] rfl
  refine va_calli (xw_runS (As := [.ref ds, .int (xs 1), .ref ou]) (rest := []) ⟨hx, hb, hml, hown, hg⟩ (t_byteAt l dC dI cT H.size ds dr sv rr g0 se pw ty an aw ts ss rq 0 0 0 ar (fun _ => 0) (xs 1) ou (hfl)) rfl (gI (List.forall_mem_cons.mpr ⟨k_914, fun _ h => h⟩)) (hg _ k_912) (hg _ k_913) (hg _ k_0) rfl rfl (n := 3) (by decide +kernel) ⟨Nat.le_of_ble_eq_true rfl, Nat.le_of_ble_eq_true rfl⟩ ⟨fun a U g mk q => by obtain ⟨q0, q1, qP, qK, qD, qE⟩ := q; exact ⟨q0, q1, qP, va_K.moved (u := U) (U := U.calling g mk a) (Vm.Alike.refl U.vm) qK, qD, qE.at (State.WarmedH.refl _) (fun _ _ _ => rfl) (fun _ h => h)⟩, fun U hU hW => ⟨rfl, by rw [hU], by rw [hU]; exact hPc, va_K.moved hW.alike hK, hDc.weaken (fun _ _ _ _ => trivial), by rw [hU]; exact hXz.at hW hS.2.1 (fun _ h => h.elim)⟩⟩ rfl rfl hl.1 rfl (lv_room (Nat.le_of_ble_eq_true rfl)) d_Lw_law_1136 ⟨Nat.le_of_ble_eq_true rfl, Nat.le_of_ble_eq_true rfl⟩) hS (fun q _ h => hFc q h) hFc (fun rv9 u t H1 locs ht hvm hw hB hz1 hk1 hS => ?_)
  try dsimp only at hw hB
  obtain ⟨hP1, hK1, hD1⟩ := hB
  rw [ht] at hP1
  obtain ⟨rfl, hw⟩ := hw
  obtain ⟨hP, hD⟩ := va_join (wr := [(mo, .inr (12, mdF mq mZ mQ 0 0 (nI 20) (nI 0)))]) (w1 := []) hP hD [0, 1, 2, 3] [4] rfl rfl (by decide) (by decide) hk1 hFc hP1 hD1
  have hw72 := hw
  clear hPc hDc hFc hz1 hk1 hP1 hK1 hD1
  generalize H1 = H at hP hS ⊢
  have hP : va_P (dC, dI) vcl [(mo, .inr (12, mdF mq mZ mQ 0 0 (nI 20) (nI 0)))] H := hP
  have hD : va_D A [(mo, .inr (12, mdF mq mZ mQ 0 0 (nI 20) (nI 0)))] := hD
  refine lv_istore (lv' := [(5, .int 1), (0, .ref b), (1, .ref ds), (2, .ref mo), (3, .ref ou), (4, .int 0)]) hx hb d_Lw_law_1139 hl (by decide) rfl (fun ls hl => ?_)
  refine lv_aload_n hx hb d_Lw_law_1141 rfl (lv_at hl 3 rfl) ?_
  refine lv_aload_n hx hb d_Lw_law_1142 rfl (lv_at hl 1 rfl) ?_
  refine lv_iload hx hb d_Lw_law_1143 (lv_at hl 5 rfl) ?_
  refine lv_iconst (v := 1) hx hb d_Lw_law_1145 (by decide) ?_
  refine lv_iadd hx hb d_Lw_law_1146 ?_
  refine va_sld hx hb hX hbl hbA hS (i := (0 + 1)) (vin (by decide)) d_Lw_law_1147 ?_
  refine lv_topi (fun x74 e73 => ?_)
  obtain rfl : x74 = xs 1 := by rw [e73]; exact congrArg xs (by decide)
  have hPc := hP.sub (ws' := [(mo, .inr (12, mdF mq mZ mQ 0 0 (nI 20) (nI 0)))]) [0] rfl
  have hDc := hD.sub (ws' := [(mo, .inr (12, mdF mq mZ mQ 0 0 (nI 20) (nI 0)))]) [0] (by decide) rfl
  have hFc := va_free (wc := [(mo, .inr (12, mdF mq mZ mQ 0 0 (nI 20) (nI 0)))]) hD hS hA [0] rfl
  refine va_calli (va_runV (C := "DoorServerModel") (As := [.int (xs 1)]) (rest := []) ⟨hx, hb, hml, hown, hg⟩ (b_byteAt l dC dI cT H.size mo mq mZ mQ 0 0 20 0 (xs 1) (hz.1)) (cwV 1 hg (gI (List.forall_mem_append.mpr ⟨List.forall_mem_cons.mpr ⟨k_1397, List.forall_mem_cons.mpr ⟨k_1398, List.forall_mem_cons.mpr ⟨k_1399, List.forall_mem_cons.mpr ⟨k_13, fun _ h => absurd h List.not_mem_nil⟩⟩⟩⟩, List.forall_mem_cons.mpr ⟨k_1400, fun _ h => h⟩⟩)) rfl rfl rfl (by decide +kernel) ⟨Nat.le_of_ble_eq_true rfl, Nat.le_of_ble_eq_true rfl⟩) ⟨fun a U g mk q => by obtain ⟨q0, q1, qP, qK, qD⟩ := q; exact ⟨q0, q1, qP, va_K.moved (u := U) (U := U.calling g mk a) (Vm.Alike.refl U.vm) qK, qD⟩, va_recv (q0 := 0) (ci := 12) hK hP rfl rfl, fun U hU hW => ⟨rfl, by rw [hU], by rw [hU]; exact hPc, va_K.moved hW.alike hK, hDc.weaken (fun _ _ _ _ => trivial)⟩⟩ rfl rfl hl.1 rfl (lv_room (Nat.le_of_ble_eq_true rfl)) d_Lw_law_1148 ⟨Nat.le_of_ble_eq_true rfl, Nat.le_of_ble_eq_true rfl⟩) hS (fun q _ h => hFc q h) hFc (fun rv9 u t H1 locs ht hvm hw hB hz1 hk1 hS => ?_)
  try dsimp only at hw hB
  obtain ⟨hP1, hK1, hD1⟩ := hB
  rw [ht] at hP1
  generalize rv9 = r75 at hw ⊢
  obtain ⟨hP, hD⟩ := va_join (wr := []) (w1 := [(mo, .inr (12, mdF mq mZ mQ 1 0 (nI 20) (nI 0)))]) hP hD [0] [] rfl rfl (by decide) (by decide) hk1 hFc hP1 hD1
  have hw76 := hw
  clear hPc hDc hFc hz1 hk1 hP1 hK1 hD1
  generalize H1 = H at hP hS ⊢
  have hP : va_P (dC, dI) vcl [(mo, .inr (12, mdF mq mZ mQ 1 0 (nI 20) (nI 0)))] H := hP
  have hD : va_D A [(mo, .inr (12, mdF mq mZ mQ 1 0 (nI 20) (nI 0)))] := hD
  refine lv_istore (lv' := [(6, .int r75), (5, .int 1), (0, .ref b), (1, .ref ds), (2, .ref mo), (3, .ref ou), (4, .int 0)]) hx hb d_Lw_law_1151 hl (by decide) rfl (fun ls hl => ?_)
  refine lv_aload_n hx hb d_Lw_law_1153 rfl (lv_at hl 4 rfl) ?_
  have hPc := hP.sub (ws' := [(mo, .inr (12, mdF mq mZ mQ 1 0 (nI 20) (nI 0)))]) [0] rfl
  have hDc := hD.sub (ws' := [(mo, .inr (12, mdF mq mZ mQ 1 0 (nI 20) (nI 0)))]) [0] (by decide) rfl
  have hFc := va_free (wc := [(mo, .inr (12, mdF mq mZ mQ 1 0 (nI 20) (nI 0)))]) hD hS hA [0] rfl
  refine va_calli (va_runV (C := "DoorServerModel") (As := []) (rest := []) ⟨hx, hb, hml, hown, hg⟩ (m_thrown l dC dI cT H.size mo mq mZ mQ 1 0 20 0 ) (cwV 0 hg (gI (List.forall_mem_append.mpr ⟨List.forall_mem_cons.mpr ⟨k_1157, List.forall_mem_cons.mpr ⟨k_1158, List.forall_mem_cons.mpr ⟨k_1159, List.forall_mem_cons.mpr ⟨k_13, fun _ h => absurd h List.not_mem_nil⟩⟩⟩⟩, List.forall_mem_cons.mpr ⟨k_1160, fun _ h => h⟩⟩)) rfl rfl rfl (by decide +kernel) ⟨Nat.le_of_ble_eq_true rfl, Nat.le_of_ble_eq_true rfl⟩) ⟨fun a U g mk q => by obtain ⟨q0, q1, qP, qK, qD⟩ := q; exact ⟨q0, q1, qP, va_K.moved (u := U) (U := U.calling g mk a) (Vm.Alike.refl U.vm) qK, qD⟩, va_recv (q0 := 0) (ci := 12) hK hP rfl rfl, fun U hU hW => ⟨rfl, by rw [hU], by rw [hU]; exact hPc, va_K.moved hW.alike hK, hDc.weaken (fun _ _ _ _ => trivial)⟩⟩ rfl rfl hl.1 rfl (lv_room (Nat.le_of_ble_eq_true rfl)) d_Lw_law_1154 ⟨Nat.le_of_ble_eq_true rfl, Nat.le_of_ble_eq_true rfl⟩) hS (fun q _ h => hFc q h) hFc (fun rv9 u t H1 locs ht hvm hw hB hz1 hk1 hS => ?_)
  try dsimp only at hw hB
  obtain ⟨hP1, hK1, hD1⟩ := hB
  rw [ht] at hP1
  obtain ⟨rfl, hw⟩ := hw
  obtain ⟨hP, hD⟩ := va_join (wr := []) (w1 := []) hP hD [0] [] rfl rfl (by decide) (by decide) hk1 hFc hP1 hD1
  have hw77 := hw
  clear hPc hDc hFc hz1 hk1 hP1 hK1 hD1
  generalize H1 = H at hP hS ⊢
  have hP : va_P (dC, dI) vcl [] H := hP
  have hD : va_D A [] := hD
  refine lv_iload hx hb d_Lw_law_1157 (lv_at hl 1 rfl) ?_
  refine lv_icmp_eq (tgt := 1164) hx hb d_Lw_law_1159 (by decide) (fun hc78 => ?_) (fun hn9 => absurd (rfl) hn9)
  refine lv_iload hx hb d_Lw_law_1164 (lv_at hl 1 rfl) ?_
  refine lv_if_ne (tgt := 1181) hx hb d_Lw_law_1166 (by decide) (fun hc79 => ?_) (fun hn9 => absurd hn9 (by decide))
  refine lv_goto (tgt := 1363) hx hb d_Lw_law_1181 (by decide) ?_
  refine W.widen (k := 900) (n := 33000) (Nat.le_of_ble_eq_true rfl) (Nat.le_of_ble_eq_true rfl) ?_
  have hl9 : lv_has ls 8 [(0, .ref b), (4, .int 0)] := lv_sub hl [2, 6] rfl
  exact kk _ _ _ hS hl9
set_option maxHeartbeats 4000000 in
set_option maxRecDepth 100000 in
theorem lw_case15 {p : Program} {l : Launch} {e : Env} {s : State} {m : MethodId} {args : Array Value} {below : List Frame} {meth : Method} {c : Code} {Q : State → Prop} {A : Nat → Prop} {b : Nat} {xs : Nat → Int32} {H : Heap} {locs : List Loc} {ls : Array Slot} (dC : Nat → ClassId) (dI : Nat → Nat → Nat) (cT : Nat → ClassId) (ds : Nat) (dr : Nat) (sv : Nat) (rr : Nat) (se : Nat) (pw : Nat) (g0 : Nat) (ty : Nat) (an : Nat) (aw : Nat) (ts : Nat) (ss : Nat) (rq : Nat) (sh : Nat) (sr : Nat) (uh : Nat) (ur : Nat) (tx : Nat) (tr : Nat) (wo : Nat) (di : Nat) (ar : Nat) (a1 : Nat) (t1 : Nat) (s1 : Nat) (sa : Nat) (mo : Nat) (ou : Nat) (st us : Nat) (gs gp : Nat → Option Nat) (df sf mc mz mf mZ : Nat → Int32) (mS mQ fo : Nat → Int64) (mq : Nat → Nat) (hx : p.tables.exec = Jvm.exec) (hb : c.code = b_Lw_law) (hml : c.maxLocals = 8) (hown : s.vm.findClass "DoorServerLaw" = some m.cls) (hg : ∀ w ∈ BIG, w.before args s = true) (hX : va_X b 5 xs s s.heap) (hbl : b < s.heap.size) (hbA : ¬ A b) (hA : ∀ q : Nat, s.heap.size ≤ q → A q) (hK : va_K (dC, dI) vcl (tyL cT) s) (hfl : l.flags = pinnedFlags ++ [noTraceFlag]) (hXm : xm A s s.heap) (hXz : xz_T A s s.heap) (hst : st < 4) (hus : us < 32) (hgs : gs st = some sh) (hgp : gp us = some uh) (hst1 : ¬ xs 1 < 0 → ¬ 3 < xs 1 → xs 1 = nI st) (hus1 : ¬ xs 1 < 0 → ¬ 31 < xs 1 → xs 1 = nI us) (hdf : df 0 = 1 ∧ df 1 = 0 ∧ df 2 = 0 ∧ df 3 = 20 ∧ ∀ q9, q9 < 8 → df (4 + q9) = bn_at 0 q9 ∧ df (12 + q9) = bn_at 0 q9 ^^^ 90) (hmf : mf 0 = 1 ∧ mf 1 = 0 ∧ mf 2 = 0 ∧ mf 3 = 20 ∧ ∀ k9, k9 < 16 → mf (4 + k9) = mb_at 0 k9) (hmz : ∀ q9, q9 < 4 → mz q9 = 1) (hz : mZ 14 = 0 ∧ mZ 17 = 0 ∧ mZ 24 = 0 ∧ mZ 33 = 0 ∧ mZ 43 = 0 ∧ mZ 44 = 0) (kk : ∀ (H : Heap) (locs : List Loc) (ls : Array Slot), va_S A s.heap H locs → lv_has ls 8 [(0, .ref b), (4, .int 0)] → W p l e room_1 s m args below meth c H locs 900 33000 Q (F0 m 1363 ls [])) (hP : va_P (dC, dI) vcl [(ds, .inr (0, [.ref dr, .ref sv])), (dr, .inr (2, [.ref rr, .int (nI 20)])), (rr, .inl ((cT 0), 1000, .inl df)), (sv, .inr (5, [.ref se, .ref pw, .ref g0, .ref ty, .ref an, .ref aw, .ref ts, .ref ss, .ref rq, .int 0, .int 0, .int 0])), (se, .inl ((cT 2), 4, .inr (.inr (.inr (.inr gs))))), (sh, .inr (1, [.ref sr, .int (nI 1)])), (sr, .inl ((cT 0), 40, .inl sf)), (pw, .inl ((cT 2), 32, .inr (.inr (.inr (.inr gp))))), (uh, .inr (1, [.ref ur, .int 0])), (ur, .inl ((cT 0), 60, .inl (fun _ => 0))), (g0, .inr (3, [.ref tx, .ref wo, .ref di, .int 0, .int 0, .int 0, .int 0])), (tx, .inr (1, [.ref tr, .int (nI 0)])), (tr, .inl ((cT 0), 1192, .inl (fun _ => 0))), (wo, .inl ((cT 0), 16, .inl (fun _ => 0))), (di, .inl ((cT 0), 16, .inl (fun _ => 0))), (an, .inr (2, [.ref ar, .int 0])), (ar, .inl ((cT 0), 72, .inl (fun _ => 0))), (aw, .inr (6, [.ref a1, .int 0, .int 0])), (ts, .inr (9, [.ref t1, .long 0, .long 1, .int 0])), (ss, .inr (11, [.ref s1, .int 0])), (rq, .inr (4, [.ref dr, .ref sa])), (sa, .inl ((cT 0), 256, .inl (fun _ => 0))), (mo, .inr (12, mdF mq mZ mQ 0 0 (nI 20) (nI 0))), (mq 0, .inl ((cT 1), 64, .inr (.inl mS))), (mq 3, .inl ((cT 0), 160, .inl mc)), (mq 4, .inl ((cT 0), 4, .inl mz)), (mq 5, .inl ((cT 0), 1920, .inl (fun _ => 0))), (mq 6, .inl ((cT 0), 32, .inl (fun _ => 0))), (mq 7, .inl ((cT 0), 1000, .inl mf)), (mq 9, .inl ((cT 0), 1400, .inl (fun _ => 0))), (mq 11, .inl ((cT 0), 16, .inl (fun _ => 0))), (mq 12, .inl ((cT 0), 1200, .inl (fun _ => 0))), (ou, .inl ((cT 1), 1, .inr (.inl fo)))] H) (hD : va_D A [(ds, .inr (0, [.ref dr, .ref sv])), (dr, .inr (2, [.ref rr, .int (nI 20)])), (rr, .inl ((cT 0), 1000, .inl df)), (sv, .inr (5, [.ref se, .ref pw, .ref g0, .ref ty, .ref an, .ref aw, .ref ts, .ref ss, .ref rq, .int 0, .int 0, .int 0])), (se, .inl ((cT 2), 4, .inr (.inr (.inr (.inr gs))))), (sh, .inr (1, [.ref sr, .int (nI 1)])), (sr, .inl ((cT 0), 40, .inl sf)), (pw, .inl ((cT 2), 32, .inr (.inr (.inr (.inr gp))))), (uh, .inr (1, [.ref ur, .int 0])), (ur, .inl ((cT 0), 60, .inl (fun _ => 0))), (g0, .inr (3, [.ref tx, .ref wo, .ref di, .int 0, .int 0, .int 0, .int 0])), (tx, .inr (1, [.ref tr, .int (nI 0)])), (tr, .inl ((cT 0), 1192, .inl (fun _ => 0))), (wo, .inl ((cT 0), 16, .inl (fun _ => 0))), (di, .inl ((cT 0), 16, .inl (fun _ => 0))), (an, .inr (2, [.ref ar, .int 0])), (ar, .inl ((cT 0), 72, .inl (fun _ => 0))), (aw, .inr (6, [.ref a1, .int 0, .int 0])), (ts, .inr (9, [.ref t1, .long 0, .long 1, .int 0])), (ss, .inr (11, [.ref s1, .int 0])), (rq, .inr (4, [.ref dr, .ref sa])), (sa, .inl ((cT 0), 256, .inl (fun _ => 0))), (mo, .inr (12, mdF mq mZ mQ 0 0 (nI 20) (nI 0))), (mq 0, .inl ((cT 1), 64, .inr (.inl mS))), (mq 3, .inl ((cT 0), 160, .inl mc)), (mq 4, .inl ((cT 0), 4, .inl mz)), (mq 5, .inl ((cT 0), 1920, .inl (fun _ => 0))), (mq 6, .inl ((cT 0), 32, .inl (fun _ => 0))), (mq 7, .inl ((cT 0), 1000, .inl mf)), (mq 9, .inl ((cT 0), 1400, .inl (fun _ => 0))), (mq 11, .inl ((cT 0), 16, .inl (fun _ => 0))), (mq 12, .inl ((cT 0), 1200, .inl (fun _ => 0))), (ou, .inl ((cT 1), 1, .inr (.inl fo)))]) (hS : va_S A s.heap H locs) (hl : lv_has ls 8 [(0, .ref b), (1, .ref ds), (2, .ref mo), (3, .ref ou), (4, .int 0)]) : W p l e room_1 s m args below meth c H locs 800 32000 Q (F0 m 1184 ls []) := by
  by_cases h1 : xs 1 < 1 ∨ 1000 < xs 1
  · skip
    have hP := hP.sub (ws' := [(ds, .inr (0, [.ref dr, .ref sv])), (mo, .inr (12, mdF mq mZ mQ 0 0 (nI 20) (nI 0)))]) [0, 22] rfl
    have hD := hD.sub (ws' := [(ds, .inr (0, [.ref dr, .ref sv])), (mo, .inr (12, mdF mq mZ mQ 0 0 (nI 20) (nI 0)))]) [0, 22] (by decide) rfl
    refine lv_aload_n hx hb d_Lw_law_1184 rfl (lv_at hl 1 rfl) ?_
    refine lv_aload_n hx hb d_Lw_law_1185 rfl (lv_at hl 0 rfl) ?_
    refine lv_iload hx hb d_Lw_law_1186 (lv_at hl 4 rfl) ?_
    refine lv_iconst (v := 1) hx hb d_Lw_law_1188 (by decide) ?_
    refine lv_iadd hx hb d_Lw_law_1189 ?_
    refine va_sld hx hb hX hbl hbA hS (i := (0 + 1)) (vin (by decide)) d_Lw_law_1190 ?_
    refine lv_topi (fun x81 e80 => ?_)
    obtain rfl : x81 = xs 1 := by rw [e80]; exact congrArg xs (by decide)
    refine lv_aload_n hx hb d_Lw_law_1191 rfl (lv_at hl 3 rfl) ?_
    have hPc := hP.sub (ws' := [(ds, .inr (0, [.ref dr, .ref sv]))]) [0] rfl
    have hDc := hD.sub (ws' := [(ds, .inr (0, [.ref dr, .ref sv]))]) [0] (by decide) rfl
    have hFc := va_free (wc := [(ds, .inr (0, [.ref dr, .ref sv]))]) hD hS hA [0] rfl
    refine va_calli (xw_runS (As := [.ref ds, .int (xs 1), .ref ou]) (rest := []) ⟨hx, hb, hml, hown, hg⟩ (t_ticks l dC dI cT H.size ds (xs 1) dr sv ou (hfl) (h1)) rfl (gI (List.forall_mem_cons.mpr ⟨k_921, fun _ h => h⟩)) (hg _ k_919) (hg _ k_920) (hg _ k_0) rfl rfl (n := 3) (by decide +kernel) ⟨Nat.le_of_ble_eq_true rfl, Nat.le_of_ble_eq_true rfl⟩ ⟨fun a U g mk q => by obtain ⟨q0, q1, qP, qK, qD, qE⟩ := q; exact ⟨q0, q1, qP, va_K.moved (u := U) (U := U.calling g mk a) (Vm.Alike.refl U.vm) qK, qD, qE.at (State.WarmedH.refl _) (fun _ _ _ => rfl) (fun _ h => h)⟩, fun U hU hW => ⟨rfl, by rw [hU], by rw [hU]; exact hPc, va_K.moved hW.alike hK, hDc.weaken (fun _ _ _ _ => trivial), by rw [hU]; exact hXz.at hW hS.2.1 (fun _ h => h.elim)⟩⟩ rfl rfl hl.1 rfl (lv_room (Nat.le_of_ble_eq_true rfl)) d_Lw_law_1192 ⟨Nat.le_of_ble_eq_true rfl, Nat.le_of_ble_eq_true rfl⟩) hS (fun q _ h => hFc q h) hFc (fun rv9 u t H1 locs ht hvm hw hB hz1 hk1 hS => ?_)
    try dsimp only at hw hB
    obtain ⟨hP1, hK1, hD1⟩ := hB
    rw [ht] at hP1
    obtain ⟨rfl, hw⟩ := hw
    obtain ⟨hP, hD⟩ := va_join (wr := [(mo, .inr (12, mdF mq mZ mQ 0 0 (nI 20) (nI 0)))]) (w1 := []) hP hD [0] [1] rfl rfl (by decide) (by decide) hk1 hFc hP1 hD1
    have hw82 := hw
    clear hPc hDc hFc hz1 hk1 hP1 hK1 hD1
    generalize H1 = H at hP hS ⊢
    have hP : va_P (dC, dI) vcl [(mo, .inr (12, mdF mq mZ mQ 0 0 (nI 20) (nI 0)))] H := hP
    have hD : va_D A [(mo, .inr (12, mdF mq mZ mQ 0 0 (nI 20) (nI 0)))] := hD
    refine lv_istore (lv' := [(5, .int 1), (0, .ref b), (1, .ref ds), (2, .ref mo), (3, .ref ou), (4, .int 0)]) hx hb d_Lw_law_1195 hl (by decide) rfl (fun ls hl => ?_)
    refine lv_aload_n hx hb d_Lw_law_1197 rfl (lv_at hl 3 rfl) ?_
    refine lv_aload_n hx hb d_Lw_law_1198 rfl (lv_at hl 1 rfl) ?_
    refine lv_iload hx hb d_Lw_law_1199 (lv_at hl 5 rfl) ?_
    refine lv_iconst (v := 1) hx hb d_Lw_law_1201 (by decide) ?_
    refine lv_iadd hx hb d_Lw_law_1202 ?_
    refine va_sld hx hb hX hbl hbA hS (i := (0 + 1)) (vin (by decide)) d_Lw_law_1203 ?_
    refine lv_topi (fun x84 e83 => ?_)
    obtain rfl : x84 = xs 1 := by rw [e83]; exact congrArg xs (by decide)
    have hPc := hP.sub (ws' := [(mo, .inr (12, mdF mq mZ mQ 0 0 (nI 20) (nI 0)))]) [0] rfl
    have hDc := hD.sub (ws' := [(mo, .inr (12, mdF mq mZ mQ 0 0 (nI 20) (nI 0)))]) [0] (by decide) rfl
    have hFc := va_free (wc := [(mo, .inr (12, mdF mq mZ mQ 0 0 (nI 20) (nI 0)))]) hD hS hA [0] rfl
    refine va_calli (va_runV (C := "DoorServerModel") (As := [.int (xs 1)]) (rest := []) ⟨hx, hb, hml, hown, hg⟩ (b_ticks l dC dI cT H.size mo mq mZ mQ 0 0 20 0 (xs 1) (h1)) (cwV 1 hg (gI (List.forall_mem_append.mpr ⟨List.forall_mem_cons.mpr ⟨k_1401, List.forall_mem_cons.mpr ⟨k_1402, List.forall_mem_cons.mpr ⟨k_1403, List.forall_mem_cons.mpr ⟨k_13, fun _ h => absurd h List.not_mem_nil⟩⟩⟩⟩, List.forall_mem_cons.mpr ⟨k_1404, fun _ h => h⟩⟩)) rfl rfl rfl (by decide +kernel) ⟨Nat.le_of_ble_eq_true rfl, Nat.le_of_ble_eq_true rfl⟩) ⟨fun a U g mk q => by obtain ⟨q0, q1, qP, qK, qD⟩ := q; exact ⟨q0, q1, qP, va_K.moved (u := U) (U := U.calling g mk a) (Vm.Alike.refl U.vm) qK, qD⟩, va_recv (q0 := 0) (ci := 12) hK hP rfl rfl, fun U hU hW => ⟨rfl, by rw [hU], by rw [hU]; exact hPc, va_K.moved hW.alike hK, hDc.weaken (fun _ _ _ _ => trivial)⟩⟩ rfl rfl hl.1 rfl (lv_room (Nat.le_of_ble_eq_true rfl)) d_Lw_law_1204 ⟨Nat.le_of_ble_eq_true rfl, Nat.le_of_ble_eq_true rfl⟩) hS (fun q _ h => hFc q h) hFc (fun rv9 u t H1 locs ht hvm hw hB hz1 hk1 hS => ?_)
    try dsimp only at hw hB
    obtain ⟨hP1, hK1, hD1⟩ := hB
    rw [ht] at hP1
    generalize rv9 = r85 at hw ⊢
    obtain ⟨hP, hD⟩ := va_join (wr := []) (w1 := [(mo, .inr (12, mdF mq mZ mQ 1 0 (nI 20) (nI 0)))]) hP hD [0] [] rfl rfl (by decide) (by decide) hk1 hFc hP1 hD1
    have hw86 := hw
    clear hPc hDc hFc hz1 hk1 hP1 hK1 hD1
    generalize H1 = H at hP hS ⊢
    have hP : va_P (dC, dI) vcl [(mo, .inr (12, mdF mq mZ mQ 1 0 (nI 20) (nI 0)))] H := hP
    have hD : va_D A [(mo, .inr (12, mdF mq mZ mQ 1 0 (nI 20) (nI 0)))] := hD
    refine lv_istore (lv' := [(6, .int r85), (5, .int 1), (0, .ref b), (1, .ref ds), (2, .ref mo), (3, .ref ou), (4, .int 0)]) hx hb d_Lw_law_1207 hl (by decide) rfl (fun ls hl => ?_)
    refine lv_aload_n hx hb d_Lw_law_1209 rfl (lv_at hl 4 rfl) ?_
    have hPc := hP.sub (ws' := [(mo, .inr (12, mdF mq mZ mQ 1 0 (nI 20) (nI 0)))]) [0] rfl
    have hDc := hD.sub (ws' := [(mo, .inr (12, mdF mq mZ mQ 1 0 (nI 20) (nI 0)))]) [0] (by decide) rfl
    have hFc := va_free (wc := [(mo, .inr (12, mdF mq mZ mQ 1 0 (nI 20) (nI 0)))]) hD hS hA [0] rfl
    refine va_calli (va_runV (C := "DoorServerModel") (As := []) (rest := []) ⟨hx, hb, hml, hown, hg⟩ (m_thrown l dC dI cT H.size mo mq mZ mQ 1 0 20 0 ) (cwV 0 hg (gI (List.forall_mem_append.mpr ⟨List.forall_mem_cons.mpr ⟨k_1157, List.forall_mem_cons.mpr ⟨k_1158, List.forall_mem_cons.mpr ⟨k_1159, List.forall_mem_cons.mpr ⟨k_13, fun _ h => absurd h List.not_mem_nil⟩⟩⟩⟩, List.forall_mem_cons.mpr ⟨k_1160, fun _ h => h⟩⟩)) rfl rfl rfl (by decide +kernel) ⟨Nat.le_of_ble_eq_true rfl, Nat.le_of_ble_eq_true rfl⟩) ⟨fun a U g mk q => by obtain ⟨q0, q1, qP, qK, qD⟩ := q; exact ⟨q0, q1, qP, va_K.moved (u := U) (U := U.calling g mk a) (Vm.Alike.refl U.vm) qK, qD⟩, va_recv (q0 := 0) (ci := 12) hK hP rfl rfl, fun U hU hW => ⟨rfl, by rw [hU], by rw [hU]; exact hPc, va_K.moved hW.alike hK, hDc.weaken (fun _ _ _ _ => trivial)⟩⟩ rfl rfl hl.1 rfl (lv_room (Nat.le_of_ble_eq_true rfl)) d_Lw_law_1210 ⟨Nat.le_of_ble_eq_true rfl, Nat.le_of_ble_eq_true rfl⟩) hS (fun q _ h => hFc q h) hFc (fun rv9 u t H1 locs ht hvm hw hB hz1 hk1 hS => ?_)
    try dsimp only at hw hB
    obtain ⟨hP1, hK1, hD1⟩ := hB
    rw [ht] at hP1
    obtain ⟨rfl, hw⟩ := hw
    obtain ⟨hP, hD⟩ := va_join (wr := []) (w1 := []) hP hD [0] [] rfl rfl (by decide) (by decide) hk1 hFc hP1 hD1
    have hw87 := hw
    clear hPc hDc hFc hz1 hk1 hP1 hK1 hD1
    generalize H1 = H at hP hS ⊢
    have hP : va_P (dC, dI) vcl [] H := hP
    have hD : va_D A [] := hD
    refine lv_iload hx hb d_Lw_law_1213 (lv_at hl 1 rfl) ?_
    refine lv_icmp_eq (tgt := 1220) hx hb d_Lw_law_1215 (by decide) (fun hc88 => ?_) (fun hn9 => absurd (rfl) hn9)
    refine lv_iload hx hb d_Lw_law_1220 (lv_at hl 1 rfl) ?_
    refine lv_if_ne (tgt := 1237) hx hb d_Lw_law_1222 (by decide) (fun hc89 => ?_) (fun hn9 => absurd hn9 (by decide))
    refine lv_goto (tgt := 1363) hx hb d_Lw_law_1237 (by decide) ?_
    refine W.widen (k := 900) (n := 33000) (Nat.le_of_ble_eq_true rfl) (Nat.le_of_ble_eq_true rfl) ?_
    have hl9 : lv_has ls 8 [(0, .ref b), (4, .int 0)] := lv_sub hl [2, 6] rfl
    exact kk _ _ _ hS hl9
  have h1a : ¬ xs 1 < 1 := fun h9 => h1 (Or.inl h9)
  have h1b : ¬ 1000 < xs 1 := fun h9 => h1 (Or.inr h9)
  obtain ⟨k, hk1, hk2, he⟩ := rng_1 (M := 1000) (n := 1000) (by decide) (by decide) h1a h1b
  have hP := hP.sub (ws' := [(ds, .inr (0, [.ref dr, .ref sv])), (sv, .inr (5, [.ref se, .ref pw, .ref g0, .ref ty, .ref an, .ref aw, .ref ts, .ref ss, .ref rq, .int 0, .int 0, .int 0])), (mo, .inr (12, mdF mq mZ mQ 0 0 (nI 20) (nI 0))), (ou, .inl ((cT 1), 1, .inr (.inl fo)))]) [0, 3, 22, 32] rfl
  have hD := hD.sub (ws' := [(ds, .inr (0, [.ref dr, .ref sv])), (sv, .inr (5, [.ref se, .ref pw, .ref g0, .ref ty, .ref an, .ref aw, .ref ts, .ref ss, .ref rq, .int 0, .int 0, .int 0])), (mo, .inr (12, mdF mq mZ mQ 0 0 (nI 20) (nI 0))), (ou, .inl ((cT 1), 1, .inr (.inl fo)))]) [0, 3, 22, 32] (by decide) rfl
  refine lv_aload_n hx hb d_Lw_law_1184 rfl (lv_at hl 1 rfl) ?_
  refine lv_aload_n hx hb d_Lw_law_1185 rfl (lv_at hl 0 rfl) ?_
  refine lv_iload hx hb d_Lw_law_1186 (lv_at hl 4 rfl) ?_
  refine lv_iconst (v := 1) hx hb d_Lw_law_1188 (by decide) ?_
  refine lv_iadd hx hb d_Lw_law_1189 ?_
  refine va_sld hx hb hX hbl hbA hS (i := (0 + 1)) (vin (by decide)) d_Lw_law_1190 ?_
  refine lv_topi (fun x91 e90 => ?_)
  obtain rfl : x91 = nI k := by rw [e90]; exact (congrArg xs (by decide)).trans (he)
  refine lv_aload_n hx hb d_Lw_law_1191 rfl (lv_at hl 3 rfl) ?_
  have hPc := hP.sub (ws' := [(ds, .inr (0, [.ref dr, .ref sv])), (sv, .inr (5, [.ref se, .ref pw, .ref g0, .ref ty, .ref an, .ref aw, .ref ts, .ref ss, .ref rq, .int 0, .int 0, .int 0])), (ou, .inl ((cT 1), 1, .inr (.inl fo)))]) [0, 1, 3] rfl
  have hDc := hD.sub (ws' := [(ds, .inr (0, [.ref dr, .ref sv])), (sv, .inr (5, [.ref se, .ref pw, .ref g0, .ref ty, .ref an, .ref aw, .ref ts, .ref ss, .ref rq, .int 0, .int 0, .int 0])), (ou, .inl ((cT 1), 1, .inr (.inl fo)))]) [0, 1, 3] (by decide) rfl
  have hFc := va_free (wc := [(ds, .inr (0, [.ref dr, .ref sv])), (sv, .inr (5, [.ref se, .ref pw, .ref g0, .ref ty, .ref an, .ref aw, .ref ts, .ref ss, .ref rq, .int 0, .int 0, .int 0])), (ou, .inl ((cT 1), 1, .inr (.inl fo)))]) hD hS hA [0, 1, 3] rfl
  refine va_calli (xw_runS (As := [.ref ds, .int (nI k), .ref ou]) (rest := []) ⟨hx, hb, hml, hown, hg⟩ (l_ticks l dC dI cT H.size ds dr sv rr g0 se pw ty an aw ts ss rq 0 0 k ou fo (hk1) (hk2)) rfl (gI (List.forall_mem_cons.mpr ⟨k_921, fun _ h => h⟩)) (hg _ k_919) (hg _ k_920) (hg _ k_0) rfl rfl (n := 3) (by decide +kernel) ⟨Nat.le_of_ble_eq_true rfl, Nat.le_of_ble_eq_true rfl⟩ ⟨fun a U g mk q => by obtain ⟨q0, q1, qP, qK, qD⟩ := q; exact ⟨q0, q1, qP, va_K.moved (u := U) (U := U.calling g mk a) (Vm.Alike.refl U.vm) qK, qD⟩, fun U hU hW => ⟨rfl, by rw [hU], by rw [hU]; exact hPc, va_K.moved hW.alike hK, hDc.weaken (fun _ _ _ _ => trivial)⟩⟩ rfl rfl hl.1 rfl (lv_room (Nat.le_of_ble_eq_true rfl)) d_Lw_law_1192 ⟨Nat.le_of_ble_eq_true rfl, Nat.le_of_ble_eq_true rfl⟩) hS (fun q _ h => hFc q h) hFc (fun rv9 u t H1 locs ht hvm hw hB hz1 hk1 hS => ?_)
  try dsimp only at hw hB
  obtain ⟨hP1, hK1, hD1⟩ := hB
  rw [ht] at hP1
  obtain ⟨rfl, hw⟩ := hw
  obtain ⟨hP, hD⟩ := va_join (wr := [(mo, .inr (12, mdF mq mZ mQ 0 0 (nI 20) (nI 0)))]) (w1 := [(ou, .inl ((cT 1), 1, .inr (.inl (vp_updL fo (0 : Int32).toNatClampNeg ((nI k).toInt64)))))]) hP hD [0, 1, 3] [2] rfl rfl (by decide) (by decide) hk1 hFc hP1 hD1
  have hw92 := hw
  clear hPc hDc hFc hz1 hk1 hP1 hK1 hD1
  generalize H1 = H at hP hS ⊢
  have hP : va_P (dC, dI) vcl [(mo, .inr (12, mdF mq mZ mQ 0 0 (nI 20) (nI 0))), (ou, .inl ((cT 1), 1, .inr (.inl (vp_updL fo (0 : Int32).toNatClampNeg ((nI k).toInt64)))))] H := hP
  have hD : va_D A [(mo, .inr (12, mdF mq mZ mQ 0 0 (nI 20) (nI 0))), (ou, .inl ((cT 1), 1, .inr (.inl (vp_updL fo (0 : Int32).toNatClampNeg ((nI k).toInt64)))))] := hD
  refine lv_istore (lv' := [(5, .int 0), (0, .ref b), (1, .ref ds), (2, .ref mo), (3, .ref ou), (4, .int 0)]) hx hb d_Lw_law_1195 hl (by decide) rfl (fun ls hl => ?_)
  refine lv_aload_n hx hb d_Lw_law_1197 rfl (lv_at hl 3 rfl) ?_
  refine lv_aload_n hx hb d_Lw_law_1198 rfl (lv_at hl 1 rfl) ?_
  refine lv_iload hx hb d_Lw_law_1199 (lv_at hl 5 rfl) ?_
  refine lv_iconst (v := 1) hx hb d_Lw_law_1201 (by decide) ?_
  refine lv_iadd hx hb d_Lw_law_1202 ?_
  refine va_sld hx hb hX hbl hbA hS (i := (0 + 1)) (vin (by decide)) d_Lw_law_1203 ?_
  refine lv_topi (fun x94 e93 => ?_)
  obtain rfl : x94 = nI k := by rw [e93]; exact (congrArg xs (by decide)).trans (he)
  have hPc := hP.sub (ws' := [(mo, .inr (12, mdF mq mZ mQ 0 0 (nI 20) (nI 0)))]) [0] rfl
  have hDc := hD.sub (ws' := [(mo, .inr (12, mdF mq mZ mQ 0 0 (nI 20) (nI 0)))]) [0] (by decide) rfl
  have hFc := va_free (wc := [(mo, .inr (12, mdF mq mZ mQ 0 0 (nI 20) (nI 0)))]) hD hS hA [0] rfl
  refine va_calli (va_runV (C := "DoorServerModel") (As := [.int (nI k)]) (rest := []) ⟨hx, hb, hml, hown, hg⟩ (o_ticks l dC dI cT H.size mo mq mZ mQ 0 0 20 0 k (hk1) (hk2)) (cwV 1 hg (gI (List.forall_mem_append.mpr ⟨List.forall_mem_cons.mpr ⟨k_1401, List.forall_mem_cons.mpr ⟨k_1402, List.forall_mem_cons.mpr ⟨k_1403, List.forall_mem_cons.mpr ⟨k_13, fun _ h => absurd h List.not_mem_nil⟩⟩⟩⟩, List.forall_mem_cons.mpr ⟨k_1404, fun _ h => h⟩⟩)) rfl rfl rfl (by decide +kernel) ⟨Nat.le_of_ble_eq_true rfl, Nat.le_of_ble_eq_true rfl⟩) ⟨fun a U g mk q => by obtain ⟨q0, q1, qP, qK, qD⟩ := q; exact ⟨q0, q1, qP, va_K.moved (u := U) (U := U.calling g mk a) (Vm.Alike.refl U.vm) qK, qD⟩, va_recv (q0 := 0) (ci := 12) hK hP rfl rfl, fun U hU hW => ⟨rfl, by rw [hU], by rw [hU]; exact hPc, va_K.moved hW.alike hK, hDc.weaken (fun _ _ _ _ => trivial)⟩⟩ rfl rfl hl.1 rfl (lv_room (Nat.le_of_ble_eq_true rfl)) d_Lw_law_1204 ⟨Nat.le_of_ble_eq_true rfl, Nat.le_of_ble_eq_true rfl⟩) hS (fun q _ h => hFc q h) hFc (fun rv9 u t H1 locs ht hvm hw hB hz1 hk1 hS => ?_)
  try dsimp only at hw hB
  obtain ⟨hP1, hK1, hD1⟩ := hB
  rw [ht] at hP1
  obtain ⟨rfl, hw⟩ := hw
  obtain ⟨hP, hD⟩ := va_join (wr := [(ou, .inl ((cT 1), 1, .inr (.inl (vp_updL fo (0 : Int32).toNatClampNeg ((nI k).toInt64)))))]) (w1 := [(mo, .inr (12, mdF mq mZ mQ 0 (nI k) (nI 20) (nI 0)))]) hP hD [0] [1] rfl rfl (by decide) (by decide) hk1 hFc hP1 hD1
  have hw95 := hw
  clear hPc hDc hFc hz1 hk1 hP1 hK1 hD1
  generalize H1 = H at hP hS ⊢
  have hP : va_P (dC, dI) vcl [(ou, .inl ((cT 1), 1, .inr (.inl (vp_updL fo (0 : Int32).toNatClampNeg ((nI k).toInt64))))), (mo, .inr (12, mdF mq mZ mQ 0 (nI k) (nI 20) (nI 0)))] H := hP
  have hD : va_D A [(ou, .inl ((cT 1), 1, .inr (.inl (vp_updL fo (0 : Int32).toNatClampNeg ((nI k).toInt64))))), (mo, .inr (12, mdF mq mZ mQ 0 (nI k) (nI 20) (nI 0)))] := hD
  refine lv_istore (lv' := [(6, .int (nI k)), (5, .int 0), (0, .ref b), (1, .ref ds), (2, .ref mo), (3, .ref ou), (4, .int 0)]) hx hb d_Lw_law_1207 hl (by decide) rfl (fun ls hl => ?_)
  refine lv_aload_n hx hb d_Lw_law_1209 rfl (lv_at hl 4 rfl) ?_
  have hPc := hP.sub (ws' := [(mo, .inr (12, mdF mq mZ mQ 0 (nI k) (nI 20) (nI 0)))]) [1] rfl
  have hDc := hD.sub (ws' := [(mo, .inr (12, mdF mq mZ mQ 0 (nI k) (nI 20) (nI 0)))]) [1] (by decide) rfl
  have hFc := va_free (wc := [(mo, .inr (12, mdF mq mZ mQ 0 (nI k) (nI 20) (nI 0)))]) hD hS hA [1] rfl
  refine va_calli (va_runV (C := "DoorServerModel") (As := []) (rest := []) ⟨hx, hb, hml, hown, hg⟩ (m_thrown l dC dI cT H.size mo mq mZ mQ 0 (nI k) 20 0 ) (cwV 0 hg (gI (List.forall_mem_append.mpr ⟨List.forall_mem_cons.mpr ⟨k_1157, List.forall_mem_cons.mpr ⟨k_1158, List.forall_mem_cons.mpr ⟨k_1159, List.forall_mem_cons.mpr ⟨k_13, fun _ h => absurd h List.not_mem_nil⟩⟩⟩⟩, List.forall_mem_cons.mpr ⟨k_1160, fun _ h => h⟩⟩)) rfl rfl rfl (by decide +kernel) ⟨Nat.le_of_ble_eq_true rfl, Nat.le_of_ble_eq_true rfl⟩) ⟨fun a U g mk q => by obtain ⟨q0, q1, qP, qK, qD⟩ := q; exact ⟨q0, q1, qP, va_K.moved (u := U) (U := U.calling g mk a) (Vm.Alike.refl U.vm) qK, qD⟩, va_recv (q0 := 1) (ci := 12) hK hP rfl rfl, fun U hU hW => ⟨rfl, by rw [hU], by rw [hU]; exact hPc, va_K.moved hW.alike hK, hDc.weaken (fun _ _ _ _ => trivial)⟩⟩ rfl rfl hl.1 rfl (lv_room (Nat.le_of_ble_eq_true rfl)) d_Lw_law_1210 ⟨Nat.le_of_ble_eq_true rfl, Nat.le_of_ble_eq_true rfl⟩) hS (fun q _ h => hFc q h) hFc (fun rv9 u t H1 locs ht hvm hw hB hz1 hk1 hS => ?_)
  try dsimp only at hw hB
  obtain ⟨hP1, hK1, hD1⟩ := hB
  rw [ht] at hP1
  obtain ⟨rfl, hw⟩ := hw
  obtain ⟨hP, hD⟩ := va_join (wr := [(ou, .inl ((cT 1), 1, .inr (.inl (vp_updL fo (0 : Int32).toNatClampNeg ((nI k).toInt64)))))]) (w1 := []) hP hD [1] [0] rfl rfl (by decide) (by decide) hk1 hFc hP1 hD1
  have hw96 := hw
  clear hPc hDc hFc hz1 hk1 hP1 hK1 hD1
  generalize H1 = H at hP hS ⊢
  have hP : va_P (dC, dI) vcl [(ou, .inl ((cT 1), 1, .inr (.inl (vp_updL fo (0 : Int32).toNatClampNeg ((nI k).toInt64)))))] H := hP
  have hD : va_D A [(ou, .inl ((cT 1), 1, .inr (.inl (vp_updL fo (0 : Int32).toNatClampNeg ((nI k).toInt64)))))] := hD
  refine lv_iload hx hb d_Lw_law_1213 (lv_at hl 1 rfl) ?_
  refine lv_icmp_eq (tgt := 1220) hx hb d_Lw_law_1215 (by decide) (fun hc97 => ?_) (fun hn9 => absurd (rfl) hn9)
  refine lv_iload hx hb d_Lw_law_1220 (lv_at hl 1 rfl) ?_
  refine lv_if_ne (tgt := 1237) hx hb d_Lw_law_1222 (by decide) (fun hn9 => absurd hn9 (fun h => h rfl)) (fun hc98 => ?_)
  refine lv_aload_n hx hb d_Lw_law_1225 rfl (lv_at hl 5 rfl) ?_
  refine lv_iconst (v := 0) hx hb d_Lw_law_1226 (by decide) ?_
  refine va_lald hx hb hK hP 0 1 rfl rfl (i := 0) (vp_in_nI (n := 0) (N := 1) (by decide) (by decide)) d_Lw_law_1227 ?_
  refine lv_topl (fun x100 e99 => ?_)
  obtain rfl : x100 = ((nI k).toInt64) := by rw [e99]; exact updL_eq
  refine lv_iload hx hb d_Lw_law_1228 (lv_at hl 0 rfl) ?_
  refine lv_i2l (v := (nI k).toInt64) hx hb d_Lw_law_1230 rfl ?_
  refine W.lcmp hx hb d_Lw_law_1231 ?_
  refine lv_if_eq (tgt := 1237) hx hb d_Lw_law_1232 (by decide) (fun hc101 => ?_) (fun hn9 => absurd (cmp_e (rfl)) hn9)
  refine lv_goto (tgt := 1363) hx hb d_Lw_law_1237 (by decide) ?_
  refine W.widen (k := 900) (n := 33000) (Nat.le_of_ble_eq_true rfl) (Nat.le_of_ble_eq_true rfl) ?_
  have hl9 : lv_has ls 8 [(0, .ref b), (4, .int 0)] := lv_sub hl [2, 6] rfl
  exact kk _ _ _ hS hl9
set_option maxHeartbeats 4000000 in
set_option maxRecDepth 100000 in
theorem lw_case16 {p : Program} {l : Launch} {e : Env} {s : State} {m : MethodId} {args : Array Value} {below : List Frame} {meth : Method} {c : Code} {Q : State → Prop} {A : Nat → Prop} {b : Nat} {xs : Nat → Int32} {H : Heap} {locs : List Loc} {ls : Array Slot} (dC : Nat → ClassId) (dI : Nat → Nat → Nat) (cT : Nat → ClassId) (ds : Nat) (dr : Nat) (sv : Nat) (rr : Nat) (se : Nat) (pw : Nat) (g0 : Nat) (ty : Nat) (an : Nat) (aw : Nat) (ts : Nat) (ss : Nat) (rq : Nat) (sh : Nat) (sr : Nat) (uh : Nat) (ur : Nat) (tx : Nat) (tr : Nat) (wo : Nat) (di : Nat) (ar : Nat) (a1 : Nat) (t1 : Nat) (s1 : Nat) (sa : Nat) (mo : Nat) (ou : Nat) (st us : Nat) (gs gp : Nat → Option Nat) (df sf mc mz mf mZ : Nat → Int32) (mS mQ fo : Nat → Int64) (mq : Nat → Nat) (hx : p.tables.exec = Jvm.exec) (hb : c.code = b_Lw_law) (hml : c.maxLocals = 8) (hown : s.vm.findClass "DoorServerLaw" = some m.cls) (hg : ∀ w ∈ BIG, w.before args s = true) (hX : va_X b 5 xs s s.heap) (hbl : b < s.heap.size) (hbA : ¬ A b) (hA : ∀ q : Nat, s.heap.size ≤ q → A q) (hK : va_K (dC, dI) vcl (tyL cT) s) (hfl : l.flags = pinnedFlags ++ [noTraceFlag]) (hXm : xm A s s.heap) (hXz : xz_T A s s.heap) (hst : st < 4) (hus : us < 32) (hgs : gs st = some sh) (hgp : gp us = some uh) (hst1 : ¬ xs 1 < 0 → ¬ 3 < xs 1 → xs 1 = nI st) (hus1 : ¬ xs 1 < 0 → ¬ 31 < xs 1 → xs 1 = nI us) (hdf : df 0 = 1 ∧ df 1 = 0 ∧ df 2 = 0 ∧ df 3 = 20 ∧ ∀ q9, q9 < 8 → df (4 + q9) = bn_at 0 q9 ∧ df (12 + q9) = bn_at 0 q9 ^^^ 90) (hmf : mf 0 = 1 ∧ mf 1 = 0 ∧ mf 2 = 0 ∧ mf 3 = 20 ∧ ∀ k9, k9 < 16 → mf (4 + k9) = mb_at 0 k9) (hmz : ∀ q9, q9 < 4 → mz q9 = 1) (hz : mZ 14 = 0 ∧ mZ 17 = 0 ∧ mZ 24 = 0 ∧ mZ 33 = 0 ∧ mZ 43 = 0 ∧ mZ 44 = 0) (kk : ∀ (H : Heap) (locs : List Loc) (ls : Array Slot), va_S A s.heap H locs → lv_has ls 8 [(0, .ref b), (4, .int 0)] → W p l e room_1 s m args below meth c H locs 900 33000 Q (F0 m 1363 ls [])) (hP : va_P (dC, dI) vcl [(ds, .inr (0, [.ref dr, .ref sv])), (dr, .inr (2, [.ref rr, .int (nI 20)])), (rr, .inl ((cT 0), 1000, .inl df)), (sv, .inr (5, [.ref se, .ref pw, .ref g0, .ref ty, .ref an, .ref aw, .ref ts, .ref ss, .ref rq, .int 0, .int 0, .int 0])), (se, .inl ((cT 2), 4, .inr (.inr (.inr (.inr gs))))), (sh, .inr (1, [.ref sr, .int (nI 1)])), (sr, .inl ((cT 0), 40, .inl sf)), (pw, .inl ((cT 2), 32, .inr (.inr (.inr (.inr gp))))), (uh, .inr (1, [.ref ur, .int 0])), (ur, .inl ((cT 0), 60, .inl (fun _ => 0))), (g0, .inr (3, [.ref tx, .ref wo, .ref di, .int 0, .int 0, .int 0, .int 0])), (tx, .inr (1, [.ref tr, .int (nI 0)])), (tr, .inl ((cT 0), 1192, .inl (fun _ => 0))), (wo, .inl ((cT 0), 16, .inl (fun _ => 0))), (di, .inl ((cT 0), 16, .inl (fun _ => 0))), (an, .inr (2, [.ref ar, .int 0])), (ar, .inl ((cT 0), 72, .inl (fun _ => 0))), (aw, .inr (6, [.ref a1, .int 0, .int 0])), (ts, .inr (9, [.ref t1, .long 0, .long 1, .int 0])), (ss, .inr (11, [.ref s1, .int 0])), (rq, .inr (4, [.ref dr, .ref sa])), (sa, .inl ((cT 0), 256, .inl (fun _ => 0))), (mo, .inr (12, mdF mq mZ mQ 0 0 (nI 20) (nI 0))), (mq 0, .inl ((cT 1), 64, .inr (.inl mS))), (mq 3, .inl ((cT 0), 160, .inl mc)), (mq 4, .inl ((cT 0), 4, .inl mz)), (mq 5, .inl ((cT 0), 1920, .inl (fun _ => 0))), (mq 6, .inl ((cT 0), 32, .inl (fun _ => 0))), (mq 7, .inl ((cT 0), 1000, .inl mf)), (mq 9, .inl ((cT 0), 1400, .inl (fun _ => 0))), (mq 11, .inl ((cT 0), 16, .inl (fun _ => 0))), (mq 12, .inl ((cT 0), 1200, .inl (fun _ => 0))), (ou, .inl ((cT 1), 1, .inr (.inl fo)))] H) (hD : va_D A [(ds, .inr (0, [.ref dr, .ref sv])), (dr, .inr (2, [.ref rr, .int (nI 20)])), (rr, .inl ((cT 0), 1000, .inl df)), (sv, .inr (5, [.ref se, .ref pw, .ref g0, .ref ty, .ref an, .ref aw, .ref ts, .ref ss, .ref rq, .int 0, .int 0, .int 0])), (se, .inl ((cT 2), 4, .inr (.inr (.inr (.inr gs))))), (sh, .inr (1, [.ref sr, .int (nI 1)])), (sr, .inl ((cT 0), 40, .inl sf)), (pw, .inl ((cT 2), 32, .inr (.inr (.inr (.inr gp))))), (uh, .inr (1, [.ref ur, .int 0])), (ur, .inl ((cT 0), 60, .inl (fun _ => 0))), (g0, .inr (3, [.ref tx, .ref wo, .ref di, .int 0, .int 0, .int 0, .int 0])), (tx, .inr (1, [.ref tr, .int (nI 0)])), (tr, .inl ((cT 0), 1192, .inl (fun _ => 0))), (wo, .inl ((cT 0), 16, .inl (fun _ => 0))), (di, .inl ((cT 0), 16, .inl (fun _ => 0))), (an, .inr (2, [.ref ar, .int 0])), (ar, .inl ((cT 0), 72, .inl (fun _ => 0))), (aw, .inr (6, [.ref a1, .int 0, .int 0])), (ts, .inr (9, [.ref t1, .long 0, .long 1, .int 0])), (ss, .inr (11, [.ref s1, .int 0])), (rq, .inr (4, [.ref dr, .ref sa])), (sa, .inl ((cT 0), 256, .inl (fun _ => 0))), (mo, .inr (12, mdF mq mZ mQ 0 0 (nI 20) (nI 0))), (mq 0, .inl ((cT 1), 64, .inr (.inl mS))), (mq 3, .inl ((cT 0), 160, .inl mc)), (mq 4, .inl ((cT 0), 4, .inl mz)), (mq 5, .inl ((cT 0), 1920, .inl (fun _ => 0))), (mq 6, .inl ((cT 0), 32, .inl (fun _ => 0))), (mq 7, .inl ((cT 0), 1000, .inl mf)), (mq 9, .inl ((cT 0), 1400, .inl (fun _ => 0))), (mq 11, .inl ((cT 0), 16, .inl (fun _ => 0))), (mq 12, .inl ((cT 0), 1200, .inl (fun _ => 0))), (ou, .inl ((cT 1), 1, .inr (.inl fo)))]) (hS : va_S A s.heap H locs) (hl : lv_has ls 8 [(0, .ref b), (1, .ref ds), (2, .ref mo), (3, .ref ou), (4, .int 0)]) : W p l e room_1 s m args below meth c H locs 800 32000 Q (F0 m 1240 ls []) := by
  by_cases h1 : xs 1 < 0 ∨ 5 < xs 1
  · skip
    have hP := hP.sub (ws' := [(ds, .inr (0, [.ref dr, .ref sv])), (mo, .inr (12, mdF mq mZ mQ 0 0 (nI 20) (nI 0)))]) [0, 22] rfl
    have hD := hD.sub (ws' := [(ds, .inr (0, [.ref dr, .ref sv])), (mo, .inr (12, mdF mq mZ mQ 0 0 (nI 20) (nI 0)))]) [0, 22] (by decide) rfl
    refine lv_aload_n hx hb d_Lw_law_1240 rfl (lv_at hl 1 rfl) ?_
    refine lv_aload_n hx hb d_Lw_law_1241 rfl (lv_at hl 0 rfl) ?_
    refine lv_iload hx hb d_Lw_law_1242 (lv_at hl 4 rfl) ?_
    refine lv_iconst (v := 1) hx hb d_Lw_law_1244 (by decide) ?_
    refine lv_iadd hx hb d_Lw_law_1245 ?_
    refine va_sld hx hb hX hbl hbA hS (i := (0 + 1)) (vin (by decide)) d_Lw_law_1246 ?_
    refine lv_topi (fun x103 e102 => ?_)
    obtain rfl : x103 = xs 1 := by rw [e102]; exact congrArg xs (by decide)
    refine lv_aload_n hx hb d_Lw_law_1247 rfl (lv_at hl 3 rfl) ?_
    have hPc := hP.sub (ws' := [(ds, .inr (0, [.ref dr, .ref sv]))]) [0] rfl
    have hDc := hD.sub (ws' := [(ds, .inr (0, [.ref dr, .ref sv]))]) [0] (by decide) rfl
    have hFc := va_free (wc := [(ds, .inr (0, [.ref dr, .ref sv]))]) hD hS hA [0] rfl
    refine va_calli (xw_runS (As := [.ref ds, .int (xs 1), .ref ou]) (rest := []) ⟨hx, hb, hml, hown, hg⟩ (t_count l dC dI cT H.size ds (xs 1) dr sv ou (hfl) (cnt_bad h1)) rfl (gI (List.forall_mem_cons.mpr ⟨k_929, fun _ h => h⟩)) (hg _ k_927) (hg _ k_928) (hg _ k_0) rfl rfl (n := 3) (by decide +kernel) ⟨Nat.le_of_ble_eq_true rfl, Nat.le_of_ble_eq_true rfl⟩ ⟨fun a U g mk q => by obtain ⟨q0, q1, qP, qK, qD, qE⟩ := q; exact ⟨q0, q1, qP, va_K.moved (u := U) (U := U.calling g mk a) (Vm.Alike.refl U.vm) qK, qD, qE.at (State.WarmedH.refl _) (fun _ _ _ => rfl) (fun _ h => h)⟩, fun U hU hW => ⟨rfl, by rw [hU], by rw [hU]; exact hPc, va_K.moved hW.alike hK, hDc.weaken (fun _ _ _ _ => trivial), by rw [hU]; exact hXz.at hW hS.2.1 (fun _ h => h.elim)⟩⟩ rfl rfl hl.1 rfl (lv_room (Nat.le_of_ble_eq_true rfl)) d_Lw_law_1248 ⟨Nat.le_of_ble_eq_true rfl, Nat.le_of_ble_eq_true rfl⟩) hS (fun q _ h => hFc q h) hFc (fun rv9 u t H1 locs ht hvm hw hB hz1 hk1 hS => ?_)
    try dsimp only at hw hB
    obtain ⟨hP1, hK1, hD1⟩ := hB
    rw [ht] at hP1
    obtain ⟨rfl, hw⟩ := hw
    obtain ⟨hP, hD⟩ := va_join (wr := [(mo, .inr (12, mdF mq mZ mQ 0 0 (nI 20) (nI 0)))]) (w1 := []) hP hD [0] [1] rfl rfl (by decide) (by decide) hk1 hFc hP1 hD1
    have hw104 := hw
    clear hPc hDc hFc hz1 hk1 hP1 hK1 hD1
    generalize H1 = H at hP hS ⊢
    have hP : va_P (dC, dI) vcl [(mo, .inr (12, mdF mq mZ mQ 0 0 (nI 20) (nI 0)))] H := hP
    have hD : va_D A [(mo, .inr (12, mdF mq mZ mQ 0 0 (nI 20) (nI 0)))] := hD
    refine lv_istore (lv' := [(5, .int 1), (0, .ref b), (1, .ref ds), (2, .ref mo), (3, .ref ou), (4, .int 0)]) hx hb d_Lw_law_1251 hl (by decide) rfl (fun ls hl => ?_)
    refine lv_aload_n hx hb d_Lw_law_1253 rfl (lv_at hl 3 rfl) ?_
    refine lv_aload_n hx hb d_Lw_law_1254 rfl (lv_at hl 1 rfl) ?_
    refine lv_iload hx hb d_Lw_law_1255 (lv_at hl 5 rfl) ?_
    refine lv_iconst (v := 1) hx hb d_Lw_law_1257 (by decide) ?_
    refine lv_iadd hx hb d_Lw_law_1258 ?_
    refine va_sld hx hb hX hbl hbA hS (i := (0 + 1)) (vin (by decide)) d_Lw_law_1259 ?_
    refine lv_topi (fun x106 e105 => ?_)
    obtain rfl : x106 = xs 1 := by rw [e105]; exact congrArg xs (by decide)
    have hPc := hP.sub (ws' := [(mo, .inr (12, mdF mq mZ mQ 0 0 (nI 20) (nI 0)))]) [0] rfl
    have hDc := hD.sub (ws' := [(mo, .inr (12, mdF mq mZ mQ 0 0 (nI 20) (nI 0)))]) [0] (by decide) rfl
    have hFc := va_free (wc := [(mo, .inr (12, mdF mq mZ mQ 0 0 (nI 20) (nI 0)))]) hD hS hA [0] rfl
    refine va_calli (va_runV (C := "DoorServerModel") (As := [.int (xs 1)]) (rest := []) ⟨hx, hb, hml, hown, hg⟩ (b_count l dC dI cT H.size mo mq mZ mQ 0 0 20 0 (xs 1) (h1)) (cwV 1 hg (gI (List.forall_mem_append.mpr ⟨List.forall_mem_cons.mpr ⟨k_1406, List.forall_mem_cons.mpr ⟨k_1407, List.forall_mem_cons.mpr ⟨k_1408, List.forall_mem_cons.mpr ⟨k_13, fun _ h => absurd h List.not_mem_nil⟩⟩⟩⟩, List.forall_mem_cons.mpr ⟨k_1409, fun _ h => h⟩⟩)) rfl rfl rfl (by decide +kernel) ⟨Nat.le_of_ble_eq_true rfl, Nat.le_of_ble_eq_true rfl⟩) ⟨fun a U g mk q => by obtain ⟨q0, q1, qP, qK, qD⟩ := q; exact ⟨q0, q1, qP, va_K.moved (u := U) (U := U.calling g mk a) (Vm.Alike.refl U.vm) qK, qD⟩, va_recv (q0 := 0) (ci := 12) hK hP rfl rfl, fun U hU hW => ⟨rfl, by rw [hU], by rw [hU]; exact hPc, va_K.moved hW.alike hK, hDc.weaken (fun _ _ _ _ => trivial)⟩⟩ rfl rfl hl.1 rfl (lv_room (Nat.le_of_ble_eq_true rfl)) d_Lw_law_1260 ⟨Nat.le_of_ble_eq_true rfl, Nat.le_of_ble_eq_true rfl⟩) hS (fun q _ h => hFc q h) hFc (fun rv9 u t H1 locs ht hvm hw hB hz1 hk1 hS => ?_)
    try dsimp only at hw hB
    obtain ⟨hP1, hK1, hD1⟩ := hB
    rw [ht] at hP1
    generalize rv9 = r107 at hw ⊢
    obtain ⟨hP, hD⟩ := va_join (wr := []) (w1 := [(mo, .inr (12, mdF mq mZ mQ 1 0 (nI 20) (nI 0)))]) hP hD [0] [] rfl rfl (by decide) (by decide) hk1 hFc hP1 hD1
    have hw108 := hw
    clear hPc hDc hFc hz1 hk1 hP1 hK1 hD1
    generalize H1 = H at hP hS ⊢
    have hP : va_P (dC, dI) vcl [(mo, .inr (12, mdF mq mZ mQ 1 0 (nI 20) (nI 0)))] H := hP
    have hD : va_D A [(mo, .inr (12, mdF mq mZ mQ 1 0 (nI 20) (nI 0)))] := hD
    refine lv_istore (lv' := [(6, .int r107), (5, .int 1), (0, .ref b), (1, .ref ds), (2, .ref mo), (3, .ref ou), (4, .int 0)]) hx hb d_Lw_law_1263 hl (by decide) rfl (fun ls hl => ?_)
    refine lv_aload_n hx hb d_Lw_law_1265 rfl (lv_at hl 4 rfl) ?_
    have hPc := hP.sub (ws' := [(mo, .inr (12, mdF mq mZ mQ 1 0 (nI 20) (nI 0)))]) [0] rfl
    have hDc := hD.sub (ws' := [(mo, .inr (12, mdF mq mZ mQ 1 0 (nI 20) (nI 0)))]) [0] (by decide) rfl
    have hFc := va_free (wc := [(mo, .inr (12, mdF mq mZ mQ 1 0 (nI 20) (nI 0)))]) hD hS hA [0] rfl
    refine va_calli (va_runV (C := "DoorServerModel") (As := []) (rest := []) ⟨hx, hb, hml, hown, hg⟩ (m_thrown l dC dI cT H.size mo mq mZ mQ 1 0 20 0 ) (cwV 0 hg (gI (List.forall_mem_append.mpr ⟨List.forall_mem_cons.mpr ⟨k_1157, List.forall_mem_cons.mpr ⟨k_1158, List.forall_mem_cons.mpr ⟨k_1159, List.forall_mem_cons.mpr ⟨k_13, fun _ h => absurd h List.not_mem_nil⟩⟩⟩⟩, List.forall_mem_cons.mpr ⟨k_1160, fun _ h => h⟩⟩)) rfl rfl rfl (by decide +kernel) ⟨Nat.le_of_ble_eq_true rfl, Nat.le_of_ble_eq_true rfl⟩) ⟨fun a U g mk q => by obtain ⟨q0, q1, qP, qK, qD⟩ := q; exact ⟨q0, q1, qP, va_K.moved (u := U) (U := U.calling g mk a) (Vm.Alike.refl U.vm) qK, qD⟩, va_recv (q0 := 0) (ci := 12) hK hP rfl rfl, fun U hU hW => ⟨rfl, by rw [hU], by rw [hU]; exact hPc, va_K.moved hW.alike hK, hDc.weaken (fun _ _ _ _ => trivial)⟩⟩ rfl rfl hl.1 rfl (lv_room (Nat.le_of_ble_eq_true rfl)) d_Lw_law_1266 ⟨Nat.le_of_ble_eq_true rfl, Nat.le_of_ble_eq_true rfl⟩) hS (fun q _ h => hFc q h) hFc (fun rv9 u t H1 locs ht hvm hw hB hz1 hk1 hS => ?_)
    try dsimp only at hw hB
    obtain ⟨hP1, hK1, hD1⟩ := hB
    rw [ht] at hP1
    obtain ⟨rfl, hw⟩ := hw
    obtain ⟨hP, hD⟩ := va_join (wr := []) (w1 := []) hP hD [0] [] rfl rfl (by decide) (by decide) hk1 hFc hP1 hD1
    have hw109 := hw
    clear hPc hDc hFc hz1 hk1 hP1 hK1 hD1
    generalize H1 = H at hP hS ⊢
    have hP : va_P (dC, dI) vcl [] H := hP
    have hD : va_D A [] := hD
    refine lv_iload hx hb d_Lw_law_1269 (lv_at hl 1 rfl) ?_
    refine lv_icmp_eq (tgt := 1276) hx hb d_Lw_law_1271 (by decide) (fun hc110 => ?_) (fun hn9 => absurd (rfl) hn9)
    refine lv_iload hx hb d_Lw_law_1276 (lv_at hl 1 rfl) ?_
    refine lv_if_ne (tgt := 1293) hx hb d_Lw_law_1278 (by decide) (fun hc111 => ?_) (fun hn9 => absurd hn9 (by decide))
    refine lv_goto (tgt := 1363) hx hb d_Lw_law_1293 (by decide) ?_
    refine W.widen (k := 900) (n := 33000) (Nat.le_of_ble_eq_true rfl) (Nat.le_of_ble_eq_true rfl) ?_
    have hl9 : lv_has ls 8 [(0, .ref b), (4, .int 0)] := lv_sub hl [2, 6] rfl
    exact kk _ _ _ hS hl9
  have h1a : ¬ xs 1 < 0 := fun h9 => h1 (Or.inl h9)
  have h1b : ¬ 5 < xs 1 := fun h9 => h1 (Or.inr h9)
  rcases rng_6 h1a h1b with h2 | h2 | h2 | h2 | h2 | h2
  · skip
    have hP := hP.sub (ws' := [(ds, .inr (0, [.ref dr, .ref sv])), (dr, .inr (2, [.ref rr, .int (nI 20)])), (rr, .inl ((cT 0), 1000, .inl df)), (sv, .inr (5, [.ref se, .ref pw, .ref g0, .ref ty, .ref an, .ref aw, .ref ts, .ref ss, .ref rq, .int 0, .int 0, .int 0])), (aw, .inr (6, [.ref a1, .int 0, .int 0])), (ts, .inr (9, [.ref t1, .long 0, .long 1, .int 0])), (ss, .inr (11, [.ref s1, .int 0])), (mo, .inr (12, mdF mq mZ mQ 0 0 (nI 20) (nI 0))), (ou, .inl ((cT 1), 1, .inr (.inl fo)))]) [0, 1, 2, 3, 17, 18, 19, 22, 32] rfl
    have hD := hD.sub (ws' := [(ds, .inr (0, [.ref dr, .ref sv])), (dr, .inr (2, [.ref rr, .int (nI 20)])), (rr, .inl ((cT 0), 1000, .inl df)), (sv, .inr (5, [.ref se, .ref pw, .ref g0, .ref ty, .ref an, .ref aw, .ref ts, .ref ss, .ref rq, .int 0, .int 0, .int 0])), (aw, .inr (6, [.ref a1, .int 0, .int 0])), (ts, .inr (9, [.ref t1, .long 0, .long 1, .int 0])), (ss, .inr (11, [.ref s1, .int 0])), (mo, .inr (12, mdF mq mZ mQ 0 0 (nI 20) (nI 0))), (ou, .inl ((cT 1), 1, .inr (.inl fo)))]) [0, 1, 2, 3, 17, 18, 19, 22, 32] (by decide) rfl
    refine lv_aload_n hx hb d_Lw_law_1240 rfl (lv_at hl 1 rfl) ?_
    refine lv_aload_n hx hb d_Lw_law_1241 rfl (lv_at hl 0 rfl) ?_
    refine lv_iload hx hb d_Lw_law_1242 (lv_at hl 4 rfl) ?_
    refine lv_iconst (v := 1) hx hb d_Lw_law_1244 (by decide) ?_
    refine lv_iadd hx hb d_Lw_law_1245 ?_
    refine va_sld hx hb hX hbl hbA hS (i := (0 + 1)) (vin (by decide)) d_Lw_law_1246 ?_
    refine lv_topi (fun x113 e112 => ?_)
    obtain rfl : x113 = 0 := by rw [e112]; exact (congrArg xs (by decide)).trans (h2)
    refine lv_aload_n hx hb d_Lw_law_1247 rfl (lv_at hl 3 rfl) ?_
    have hPc := hP.sub (ws' := [(ds, .inr (0, [.ref dr, .ref sv])), (dr, .inr (2, [.ref rr, .int (nI 20)])), (rr, .inl ((cT 0), 1000, .inl df)), (sv, .inr (5, [.ref se, .ref pw, .ref g0, .ref ty, .ref an, .ref aw, .ref ts, .ref ss, .ref rq, .int 0, .int 0, .int 0])), (aw, .inr (6, [.ref a1, .int 0, .int 0])), (ts, .inr (9, [.ref t1, .long 0, .long 1, .int 0])), (ss, .inr (11, [.ref s1, .int 0])), (ou, .inl ((cT 1), 1, .inr (.inl fo)))]) [0, 1, 2, 3, 4, 5, 6, 8] rfl
    have hDc := hD.sub (ws' := [(ds, .inr (0, [.ref dr, .ref sv])), (dr, .inr (2, [.ref rr, .int (nI 20)])), (rr, .inl ((cT 0), 1000, .inl df)), (sv, .inr (5, [.ref se, .ref pw, .ref g0, .ref ty, .ref an, .ref aw, .ref ts, .ref ss, .ref rq, .int 0, .int 0, .int 0])), (aw, .inr (6, [.ref a1, .int 0, .int 0])), (ts, .inr (9, [.ref t1, .long 0, .long 1, .int 0])), (ss, .inr (11, [.ref s1, .int 0])), (ou, .inl ((cT 1), 1, .inr (.inl fo)))]) [0, 1, 2, 3, 4, 5, 6, 8] (by decide) rfl
    have hFc := va_free (wc := [(ds, .inr (0, [.ref dr, .ref sv])), (dr, .inr (2, [.ref rr, .int (nI 20)])), (rr, .inl ((cT 0), 1000, .inl df)), (sv, .inr (5, [.ref se, .ref pw, .ref g0, .ref ty, .ref an, .ref aw, .ref ts, .ref ss, .ref rq, .int 0, .int 0, .int 0])), (aw, .inr (6, [.ref a1, .int 0, .int 0])), (ts, .inr (9, [.ref t1, .long 0, .long 1, .int 0])), (ss, .inr (11, [.ref s1, .int 0])), (ou, .inl ((cT 1), 1, .inr (.inl fo)))]) hD hS hA [0, 1, 2, 3, 4, 5, 6, 8] rfl
    refine va_calli (xw_runS (As := [.ref ds, .int 0, .ref ou]) (rest := []) ⟨hx, hb, hml, hown, hg⟩ (l_count0 l dC dI cT H.size ds dr sv rr g0 se pw ty an aw ts ss rq 0 df a1 0 t1 0 1 s1 ou fo ) rfl (gI (List.forall_mem_cons.mpr ⟨k_929, fun _ h => h⟩)) (hg _ k_927) (hg _ k_928) (hg _ k_0) rfl rfl (n := 3) (by decide +kernel) ⟨Nat.le_of_ble_eq_true rfl, Nat.le_of_ble_eq_true rfl⟩ ⟨fun a U g mk q => by obtain ⟨q0, q1, qP, qK, qD⟩ := q; exact ⟨q0, q1, qP, va_K.moved (u := U) (U := U.calling g mk a) (Vm.Alike.refl U.vm) qK, qD⟩, fun U hU hW => ⟨rfl, by rw [hU], by rw [hU]; exact hPc, va_K.moved hW.alike hK, hDc.weaken (fun _ _ _ _ => trivial)⟩⟩ rfl rfl hl.1 rfl (lv_room (Nat.le_of_ble_eq_true rfl)) d_Lw_law_1248 ⟨Nat.le_of_ble_eq_true rfl, Nat.le_of_ble_eq_true rfl⟩) hS (fun q _ h => hFc q h) hFc (fun rv9 u t H1 locs ht hvm hw hB hz1 hk1 hS => ?_)
    try dsimp only at hw hB
    obtain ⟨hP1, hK1, hD1⟩ := hB
    rw [ht] at hP1
    obtain ⟨rfl, hw⟩ := hw
    obtain ⟨hP, hD⟩ := va_join (wr := [(mo, .inr (12, mdF mq mZ mQ 0 0 (nI 20) (nI 0)))]) (w1 := [(ou, .inl ((cT 1), 1, .inr (.inl (vp_updL fo (0 : Int32).toNatClampNeg ((0 : Int32).toInt64)))))]) hP hD [0, 1, 2, 3, 4, 5, 6, 8] [7] rfl rfl (by decide) (by decide) hk1 hFc hP1 hD1
    have hw114 := hw
    clear hPc hDc hFc hz1 hk1 hP1 hK1 hD1
    generalize H1 = H at hP hS ⊢
    have hP : va_P (dC, dI) vcl [(mo, .inr (12, mdF mq mZ mQ 0 0 (nI 20) (nI 0))), (ou, .inl ((cT 1), 1, .inr (.inl (vp_updL fo (0 : Int32).toNatClampNeg ((0 : Int32).toInt64)))))] H := hP
    have hD : va_D A [(mo, .inr (12, mdF mq mZ mQ 0 0 (nI 20) (nI 0))), (ou, .inl ((cT 1), 1, .inr (.inl (vp_updL fo (0 : Int32).toNatClampNeg ((0 : Int32).toInt64)))))] := hD
    refine lv_istore (lv' := [(5, .int 0), (0, .ref b), (1, .ref ds), (2, .ref mo), (3, .ref ou), (4, .int 0)]) hx hb d_Lw_law_1251 hl (by decide) rfl (fun ls hl => ?_)
    refine lv_aload_n hx hb d_Lw_law_1253 rfl (lv_at hl 3 rfl) ?_
    refine lv_aload_n hx hb d_Lw_law_1254 rfl (lv_at hl 1 rfl) ?_
    refine lv_iload hx hb d_Lw_law_1255 (lv_at hl 5 rfl) ?_
    refine lv_iconst (v := 1) hx hb d_Lw_law_1257 (by decide) ?_
    refine lv_iadd hx hb d_Lw_law_1258 ?_
    refine va_sld hx hb hX hbl hbA hS (i := (0 + 1)) (vin (by decide)) d_Lw_law_1259 ?_
    refine lv_topi (fun x116 e115 => ?_)
    obtain rfl : x116 = 0 := by rw [e115]; exact (congrArg xs (by decide)).trans (h2)
    have hPc := hP.sub (ws' := [(mo, .inr (12, mdF mq mZ mQ 0 0 (nI 20) (nI 0)))]) [0] rfl
    have hDc := hD.sub (ws' := [(mo, .inr (12, mdF mq mZ mQ 0 0 (nI 20) (nI 0)))]) [0] (by decide) rfl
    have hFc := va_free (wc := [(mo, .inr (12, mdF mq mZ mQ 0 0 (nI 20) (nI 0)))]) hD hS hA [0] rfl
    refine va_calli (va_runV (C := "DoorServerModel") (As := [.int 0]) (rest := []) ⟨hx, hb, hml, hown, hg⟩ (o_count0 l dC dI cT H.size mo mq mZ mQ 0 0 20 0 ) (cwV 1 hg (gI (List.forall_mem_append.mpr ⟨List.forall_mem_cons.mpr ⟨k_1406, List.forall_mem_cons.mpr ⟨k_1407, List.forall_mem_cons.mpr ⟨k_1408, List.forall_mem_cons.mpr ⟨k_13, fun _ h => absurd h List.not_mem_nil⟩⟩⟩⟩, List.forall_mem_cons.mpr ⟨k_1409, fun _ h => h⟩⟩)) rfl rfl rfl (by decide +kernel) ⟨Nat.le_of_ble_eq_true rfl, Nat.le_of_ble_eq_true rfl⟩) ⟨fun a U g mk q => by obtain ⟨q0, q1, qP, qK, qD⟩ := q; exact ⟨q0, q1, qP, va_K.moved (u := U) (U := U.calling g mk a) (Vm.Alike.refl U.vm) qK, qD⟩, va_recv (q0 := 0) (ci := 12) hK hP rfl rfl, fun U hU hW => ⟨rfl, by rw [hU], by rw [hU]; exact hPc, va_K.moved hW.alike hK, hDc.weaken (fun _ _ _ _ => trivial)⟩⟩ rfl rfl hl.1 rfl (lv_room (Nat.le_of_ble_eq_true rfl)) d_Lw_law_1260 ⟨Nat.le_of_ble_eq_true rfl, Nat.le_of_ble_eq_true rfl⟩) hS (fun q _ h => hFc q h) hFc (fun rv9 u t H1 locs ht hvm hw hB hz1 hk1 hS => ?_)
    try dsimp only at hw hB
    obtain ⟨hP1, hK1, hD1⟩ := hB
    rw [ht] at hP1
    obtain ⟨rfl, hw⟩ := hw
    obtain ⟨hP, hD⟩ := va_join (wr := [(ou, .inl ((cT 1), 1, .inr (.inl (vp_updL fo (0 : Int32).toNatClampNeg ((0 : Int32).toInt64)))))]) (w1 := [(mo, .inr (12, mdF mq mZ mQ 0 0 (nI 20) (nI 0)))]) hP hD [0] [1] rfl rfl (by decide) (by decide) hk1 hFc hP1 hD1
    have hw117 := hw
    clear hPc hDc hFc hz1 hk1 hP1 hK1 hD1
    generalize H1 = H at hP hS ⊢
    have hP : va_P (dC, dI) vcl [(ou, .inl ((cT 1), 1, .inr (.inl (vp_updL fo (0 : Int32).toNatClampNeg ((0 : Int32).toInt64))))), (mo, .inr (12, mdF mq mZ mQ 0 0 (nI 20) (nI 0)))] H := hP
    have hD : va_D A [(ou, .inl ((cT 1), 1, .inr (.inl (vp_updL fo (0 : Int32).toNatClampNeg ((0 : Int32).toInt64))))), (mo, .inr (12, mdF mq mZ mQ 0 0 (nI 20) (nI 0)))] := hD
    refine lv_istore (lv' := [(6, .int (mZ 17)), (5, .int 0), (0, .ref b), (1, .ref ds), (2, .ref mo), (3, .ref ou), (4, .int 0)]) hx hb d_Lw_law_1263 hl (by decide) rfl (fun ls hl => ?_)
    refine lv_aload_n hx hb d_Lw_law_1265 rfl (lv_at hl 4 rfl) ?_
    have hPc := hP.sub (ws' := [(mo, .inr (12, mdF mq mZ mQ 0 0 (nI 20) (nI 0)))]) [1] rfl
    have hDc := hD.sub (ws' := [(mo, .inr (12, mdF mq mZ mQ 0 0 (nI 20) (nI 0)))]) [1] (by decide) rfl
    have hFc := va_free (wc := [(mo, .inr (12, mdF mq mZ mQ 0 0 (nI 20) (nI 0)))]) hD hS hA [1] rfl
    refine va_calli (va_runV (C := "DoorServerModel") (As := []) (rest := []) ⟨hx, hb, hml, hown, hg⟩ (m_thrown l dC dI cT H.size mo mq mZ mQ 0 0 20 0 ) (cwV 0 hg (gI (List.forall_mem_append.mpr ⟨List.forall_mem_cons.mpr ⟨k_1157, List.forall_mem_cons.mpr ⟨k_1158, List.forall_mem_cons.mpr ⟨k_1159, List.forall_mem_cons.mpr ⟨k_13, fun _ h => absurd h List.not_mem_nil⟩⟩⟩⟩, List.forall_mem_cons.mpr ⟨k_1160, fun _ h => h⟩⟩)) rfl rfl rfl (by decide +kernel) ⟨Nat.le_of_ble_eq_true rfl, Nat.le_of_ble_eq_true rfl⟩) ⟨fun a U g mk q => by obtain ⟨q0, q1, qP, qK, qD⟩ := q; exact ⟨q0, q1, qP, va_K.moved (u := U) (U := U.calling g mk a) (Vm.Alike.refl U.vm) qK, qD⟩, va_recv (q0 := 1) (ci := 12) hK hP rfl rfl, fun U hU hW => ⟨rfl, by rw [hU], by rw [hU]; exact hPc, va_K.moved hW.alike hK, hDc.weaken (fun _ _ _ _ => trivial)⟩⟩ rfl rfl hl.1 rfl (lv_room (Nat.le_of_ble_eq_true rfl)) d_Lw_law_1266 ⟨Nat.le_of_ble_eq_true rfl, Nat.le_of_ble_eq_true rfl⟩) hS (fun q _ h => hFc q h) hFc (fun rv9 u t H1 locs ht hvm hw hB hz1 hk1 hS => ?_)
    try dsimp only at hw hB
    obtain ⟨hP1, hK1, hD1⟩ := hB
    rw [ht] at hP1
    obtain ⟨rfl, hw⟩ := hw
    obtain ⟨hP, hD⟩ := va_join (wr := [(ou, .inl ((cT 1), 1, .inr (.inl (vp_updL fo (0 : Int32).toNatClampNeg ((0 : Int32).toInt64)))))]) (w1 := []) hP hD [1] [0] rfl rfl (by decide) (by decide) hk1 hFc hP1 hD1
    have hw118 := hw
    clear hPc hDc hFc hz1 hk1 hP1 hK1 hD1
    generalize H1 = H at hP hS ⊢
    have hP : va_P (dC, dI) vcl [(ou, .inl ((cT 1), 1, .inr (.inl (vp_updL fo (0 : Int32).toNatClampNeg ((0 : Int32).toInt64)))))] H := hP
    have hD : va_D A [(ou, .inl ((cT 1), 1, .inr (.inl (vp_updL fo (0 : Int32).toNatClampNeg ((0 : Int32).toInt64)))))] := hD
    refine lv_iload hx hb d_Lw_law_1269 (lv_at hl 1 rfl) ?_
    refine lv_icmp_eq (tgt := 1276) hx hb d_Lw_law_1271 (by decide) (fun hc119 => ?_) (fun hn9 => absurd (rfl) hn9)
    refine lv_iload hx hb d_Lw_law_1276 (lv_at hl 1 rfl) ?_
    refine lv_if_ne (tgt := 1293) hx hb d_Lw_law_1278 (by decide) (fun hn9 => absurd hn9 (fun h => h rfl)) (fun hc120 => ?_)
    refine lv_aload_n hx hb d_Lw_law_1281 rfl (lv_at hl 5 rfl) ?_
    refine lv_iconst (v := 0) hx hb d_Lw_law_1282 (by decide) ?_
    refine va_lald hx hb hK hP 0 1 rfl rfl (i := 0) (vp_in_nI (n := 0) (N := 1) (by decide) (by decide)) d_Lw_law_1283 ?_
    refine lv_topl (fun x122 e121 => ?_)
    obtain rfl : x122 = ((0 : Int32).toInt64) := by rw [e121]; exact updL_eq
    refine lv_iload hx hb d_Lw_law_1284 (lv_at hl 0 rfl) ?_
    refine lv_i2l (v := (mZ 17).toInt64) hx hb d_Lw_law_1286 rfl ?_
    refine W.lcmp hx hb d_Lw_law_1287 ?_
    refine lv_if_eq (tgt := 1293) hx hb d_Lw_law_1288 (by decide) (fun hc123 => ?_) (fun hn9 => absurd (cmp_e (by rw [hz.2.1])) hn9)
    refine lv_goto (tgt := 1363) hx hb d_Lw_law_1293 (by decide) ?_
    refine W.widen (k := 900) (n := 33000) (Nat.le_of_ble_eq_true rfl) (Nat.le_of_ble_eq_true rfl) ?_
    have hl9 : lv_has ls 8 [(0, .ref b), (4, .int 0)] := lv_sub hl [2, 6] rfl
    exact kk _ _ _ hS hl9
  · skip
    have hP := hP.sub (ws' := [(ds, .inr (0, [.ref dr, .ref sv])), (dr, .inr (2, [.ref rr, .int (nI 20)])), (rr, .inl ((cT 0), 1000, .inl df)), (sv, .inr (5, [.ref se, .ref pw, .ref g0, .ref ty, .ref an, .ref aw, .ref ts, .ref ss, .ref rq, .int 0, .int 0, .int 0])), (aw, .inr (6, [.ref a1, .int 0, .int 0])), (ts, .inr (9, [.ref t1, .long 0, .long 1, .int 0])), (ss, .inr (11, [.ref s1, .int 0])), (mo, .inr (12, mdF mq mZ mQ 0 0 (nI 20) (nI 0))), (ou, .inl ((cT 1), 1, .inr (.inl fo)))]) [0, 1, 2, 3, 17, 18, 19, 22, 32] rfl
    have hD := hD.sub (ws' := [(ds, .inr (0, [.ref dr, .ref sv])), (dr, .inr (2, [.ref rr, .int (nI 20)])), (rr, .inl ((cT 0), 1000, .inl df)), (sv, .inr (5, [.ref se, .ref pw, .ref g0, .ref ty, .ref an, .ref aw, .ref ts, .ref ss, .ref rq, .int 0, .int 0, .int 0])), (aw, .inr (6, [.ref a1, .int 0, .int 0])), (ts, .inr (9, [.ref t1, .long 0, .long 1, .int 0])), (ss, .inr (11, [.ref s1, .int 0])), (mo, .inr (12, mdF mq mZ mQ 0 0 (nI 20) (nI 0))), (ou, .inl ((cT 1), 1, .inr (.inl fo)))]) [0, 1, 2, 3, 17, 18, 19, 22, 32] (by decide) rfl
    refine lv_aload_n hx hb d_Lw_law_1240 rfl (lv_at hl 1 rfl) ?_
    refine lv_aload_n hx hb d_Lw_law_1241 rfl (lv_at hl 0 rfl) ?_
    refine lv_iload hx hb d_Lw_law_1242 (lv_at hl 4 rfl) ?_
    refine lv_iconst (v := 1) hx hb d_Lw_law_1244 (by decide) ?_
    refine lv_iadd hx hb d_Lw_law_1245 ?_
    refine va_sld hx hb hX hbl hbA hS (i := (0 + 1)) (vin (by decide)) d_Lw_law_1246 ?_
    refine lv_topi (fun x125 e124 => ?_)
    obtain rfl : x125 = 1 := by rw [e124]; exact (congrArg xs (by decide)).trans (h2)
    refine lv_aload_n hx hb d_Lw_law_1247 rfl (lv_at hl 3 rfl) ?_
    have hPc := hP.sub (ws' := [(ds, .inr (0, [.ref dr, .ref sv])), (dr, .inr (2, [.ref rr, .int (nI 20)])), (rr, .inl ((cT 0), 1000, .inl df)), (sv, .inr (5, [.ref se, .ref pw, .ref g0, .ref ty, .ref an, .ref aw, .ref ts, .ref ss, .ref rq, .int 0, .int 0, .int 0])), (aw, .inr (6, [.ref a1, .int 0, .int 0])), (ts, .inr (9, [.ref t1, .long 0, .long 1, .int 0])), (ss, .inr (11, [.ref s1, .int 0])), (ou, .inl ((cT 1), 1, .inr (.inl fo)))]) [0, 1, 2, 3, 4, 5, 6, 8] rfl
    have hDc := hD.sub (ws' := [(ds, .inr (0, [.ref dr, .ref sv])), (dr, .inr (2, [.ref rr, .int (nI 20)])), (rr, .inl ((cT 0), 1000, .inl df)), (sv, .inr (5, [.ref se, .ref pw, .ref g0, .ref ty, .ref an, .ref aw, .ref ts, .ref ss, .ref rq, .int 0, .int 0, .int 0])), (aw, .inr (6, [.ref a1, .int 0, .int 0])), (ts, .inr (9, [.ref t1, .long 0, .long 1, .int 0])), (ss, .inr (11, [.ref s1, .int 0])), (ou, .inl ((cT 1), 1, .inr (.inl fo)))]) [0, 1, 2, 3, 4, 5, 6, 8] (by decide) rfl
    have hFc := va_free (wc := [(ds, .inr (0, [.ref dr, .ref sv])), (dr, .inr (2, [.ref rr, .int (nI 20)])), (rr, .inl ((cT 0), 1000, .inl df)), (sv, .inr (5, [.ref se, .ref pw, .ref g0, .ref ty, .ref an, .ref aw, .ref ts, .ref ss, .ref rq, .int 0, .int 0, .int 0])), (aw, .inr (6, [.ref a1, .int 0, .int 0])), (ts, .inr (9, [.ref t1, .long 0, .long 1, .int 0])), (ss, .inr (11, [.ref s1, .int 0])), (ou, .inl ((cT 1), 1, .inr (.inl fo)))]) hD hS hA [0, 1, 2, 3, 4, 5, 6, 8] rfl
    refine va_calli (xw_runS (As := [.ref ds, .int 1, .ref ou]) (rest := []) ⟨hx, hb, hml, hown, hg⟩ (l_count1 l dC dI cT H.size ds dr sv rr g0 se pw ty an aw ts ss rq 0 df a1 0 t1 0 1 s1 ou fo ) rfl (gI (List.forall_mem_cons.mpr ⟨k_929, fun _ h => h⟩)) (hg _ k_927) (hg _ k_928) (hg _ k_0) rfl rfl (n := 3) (by decide +kernel) ⟨Nat.le_of_ble_eq_true rfl, Nat.le_of_ble_eq_true rfl⟩ ⟨fun a U g mk q => by obtain ⟨q0, q1, qP, qK, qD⟩ := q; exact ⟨q0, q1, qP, va_K.moved (u := U) (U := U.calling g mk a) (Vm.Alike.refl U.vm) qK, qD⟩, fun U hU hW => ⟨rfl, by rw [hU], by rw [hU]; exact hPc, va_K.moved hW.alike hK, hDc.weaken (fun _ _ _ _ => trivial)⟩⟩ rfl rfl hl.1 rfl (lv_room (Nat.le_of_ble_eq_true rfl)) d_Lw_law_1248 ⟨Nat.le_of_ble_eq_true rfl, Nat.le_of_ble_eq_true rfl⟩) hS (fun q _ h => hFc q h) hFc (fun rv9 u t H1 locs ht hvm hw hB hz1 hk1 hS => ?_)
    try dsimp only at hw hB
    obtain ⟨hP1, hK1, hD1⟩ := hB
    rw [ht] at hP1
    obtain ⟨rfl, hw⟩ := hw
    obtain ⟨hP, hD⟩ := va_join (wr := [(mo, .inr (12, mdF mq mZ mQ 0 0 (nI 20) (nI 0)))]) (w1 := [(ou, .inl ((cT 1), 1, .inr (.inl (vp_updL fo (0 : Int32).toNatClampNeg ((0 : Int32).toInt64)))))]) hP hD [0, 1, 2, 3, 4, 5, 6, 8] [7] rfl rfl (by decide) (by decide) hk1 hFc hP1 hD1
    have hw126 := hw
    clear hPc hDc hFc hz1 hk1 hP1 hK1 hD1
    generalize H1 = H at hP hS ⊢
    have hP : va_P (dC, dI) vcl [(mo, .inr (12, mdF mq mZ mQ 0 0 (nI 20) (nI 0))), (ou, .inl ((cT 1), 1, .inr (.inl (vp_updL fo (0 : Int32).toNatClampNeg ((0 : Int32).toInt64)))))] H := hP
    have hD : va_D A [(mo, .inr (12, mdF mq mZ mQ 0 0 (nI 20) (nI 0))), (ou, .inl ((cT 1), 1, .inr (.inl (vp_updL fo (0 : Int32).toNatClampNeg ((0 : Int32).toInt64)))))] := hD
    refine lv_istore (lv' := [(5, .int 0), (0, .ref b), (1, .ref ds), (2, .ref mo), (3, .ref ou), (4, .int 0)]) hx hb d_Lw_law_1251 hl (by decide) rfl (fun ls hl => ?_)
    refine lv_aload_n hx hb d_Lw_law_1253 rfl (lv_at hl 3 rfl) ?_
    refine lv_aload_n hx hb d_Lw_law_1254 rfl (lv_at hl 1 rfl) ?_
    refine lv_iload hx hb d_Lw_law_1255 (lv_at hl 5 rfl) ?_
    refine lv_iconst (v := 1) hx hb d_Lw_law_1257 (by decide) ?_
    refine lv_iadd hx hb d_Lw_law_1258 ?_
    refine va_sld hx hb hX hbl hbA hS (i := (0 + 1)) (vin (by decide)) d_Lw_law_1259 ?_
    refine lv_topi (fun x128 e127 => ?_)
    obtain rfl : x128 = 1 := by rw [e127]; exact (congrArg xs (by decide)).trans (h2)
    have hPc := hP.sub (ws' := [(mo, .inr (12, mdF mq mZ mQ 0 0 (nI 20) (nI 0)))]) [0] rfl
    have hDc := hD.sub (ws' := [(mo, .inr (12, mdF mq mZ mQ 0 0 (nI 20) (nI 0)))]) [0] (by decide) rfl
    have hFc := va_free (wc := [(mo, .inr (12, mdF mq mZ mQ 0 0 (nI 20) (nI 0)))]) hD hS hA [0] rfl
    refine va_calli (va_runV (C := "DoorServerModel") (As := [.int 1]) (rest := []) ⟨hx, hb, hml, hown, hg⟩ (o_count1 l dC dI cT H.size mo mq mZ mQ 0 0 20 0 ) (cwV 1 hg (gI (List.forall_mem_append.mpr ⟨List.forall_mem_cons.mpr ⟨k_1406, List.forall_mem_cons.mpr ⟨k_1407, List.forall_mem_cons.mpr ⟨k_1408, List.forall_mem_cons.mpr ⟨k_13, fun _ h => absurd h List.not_mem_nil⟩⟩⟩⟩, List.forall_mem_cons.mpr ⟨k_1409, fun _ h => h⟩⟩)) rfl rfl rfl (by decide +kernel) ⟨Nat.le_of_ble_eq_true rfl, Nat.le_of_ble_eq_true rfl⟩) ⟨fun a U g mk q => by obtain ⟨q0, q1, qP, qK, qD⟩ := q; exact ⟨q0, q1, qP, va_K.moved (u := U) (U := U.calling g mk a) (Vm.Alike.refl U.vm) qK, qD⟩, va_recv (q0 := 0) (ci := 12) hK hP rfl rfl, fun U hU hW => ⟨rfl, by rw [hU], by rw [hU]; exact hPc, va_K.moved hW.alike hK, hDc.weaken (fun _ _ _ _ => trivial)⟩⟩ rfl rfl hl.1 rfl (lv_room (Nat.le_of_ble_eq_true rfl)) d_Lw_law_1260 ⟨Nat.le_of_ble_eq_true rfl, Nat.le_of_ble_eq_true rfl⟩) hS (fun q _ h => hFc q h) hFc (fun rv9 u t H1 locs ht hvm hw hB hz1 hk1 hS => ?_)
    try dsimp only at hw hB
    obtain ⟨hP1, hK1, hD1⟩ := hB
    rw [ht] at hP1
    obtain ⟨rfl, hw⟩ := hw
    obtain ⟨hP, hD⟩ := va_join (wr := [(ou, .inl ((cT 1), 1, .inr (.inl (vp_updL fo (0 : Int32).toNatClampNeg ((0 : Int32).toInt64)))))]) (w1 := [(mo, .inr (12, mdF mq mZ mQ 0 0 (nI 20) (nI 0)))]) hP hD [0] [1] rfl rfl (by decide) (by decide) hk1 hFc hP1 hD1
    have hw129 := hw
    clear hPc hDc hFc hz1 hk1 hP1 hK1 hD1
    generalize H1 = H at hP hS ⊢
    have hP : va_P (dC, dI) vcl [(ou, .inl ((cT 1), 1, .inr (.inl (vp_updL fo (0 : Int32).toNatClampNeg ((0 : Int32).toInt64))))), (mo, .inr (12, mdF mq mZ mQ 0 0 (nI 20) (nI 0)))] H := hP
    have hD : va_D A [(ou, .inl ((cT 1), 1, .inr (.inl (vp_updL fo (0 : Int32).toNatClampNeg ((0 : Int32).toInt64))))), (mo, .inr (12, mdF mq mZ mQ 0 0 (nI 20) (nI 0)))] := hD
    refine lv_istore (lv' := [(6, .int (mZ 24)), (5, .int 0), (0, .ref b), (1, .ref ds), (2, .ref mo), (3, .ref ou), (4, .int 0)]) hx hb d_Lw_law_1263 hl (by decide) rfl (fun ls hl => ?_)
    refine lv_aload_n hx hb d_Lw_law_1265 rfl (lv_at hl 4 rfl) ?_
    have hPc := hP.sub (ws' := [(mo, .inr (12, mdF mq mZ mQ 0 0 (nI 20) (nI 0)))]) [1] rfl
    have hDc := hD.sub (ws' := [(mo, .inr (12, mdF mq mZ mQ 0 0 (nI 20) (nI 0)))]) [1] (by decide) rfl
    have hFc := va_free (wc := [(mo, .inr (12, mdF mq mZ mQ 0 0 (nI 20) (nI 0)))]) hD hS hA [1] rfl
    refine va_calli (va_runV (C := "DoorServerModel") (As := []) (rest := []) ⟨hx, hb, hml, hown, hg⟩ (m_thrown l dC dI cT H.size mo mq mZ mQ 0 0 20 0 ) (cwV 0 hg (gI (List.forall_mem_append.mpr ⟨List.forall_mem_cons.mpr ⟨k_1157, List.forall_mem_cons.mpr ⟨k_1158, List.forall_mem_cons.mpr ⟨k_1159, List.forall_mem_cons.mpr ⟨k_13, fun _ h => absurd h List.not_mem_nil⟩⟩⟩⟩, List.forall_mem_cons.mpr ⟨k_1160, fun _ h => h⟩⟩)) rfl rfl rfl (by decide +kernel) ⟨Nat.le_of_ble_eq_true rfl, Nat.le_of_ble_eq_true rfl⟩) ⟨fun a U g mk q => by obtain ⟨q0, q1, qP, qK, qD⟩ := q; exact ⟨q0, q1, qP, va_K.moved (u := U) (U := U.calling g mk a) (Vm.Alike.refl U.vm) qK, qD⟩, va_recv (q0 := 1) (ci := 12) hK hP rfl rfl, fun U hU hW => ⟨rfl, by rw [hU], by rw [hU]; exact hPc, va_K.moved hW.alike hK, hDc.weaken (fun _ _ _ _ => trivial)⟩⟩ rfl rfl hl.1 rfl (lv_room (Nat.le_of_ble_eq_true rfl)) d_Lw_law_1266 ⟨Nat.le_of_ble_eq_true rfl, Nat.le_of_ble_eq_true rfl⟩) hS (fun q _ h => hFc q h) hFc (fun rv9 u t H1 locs ht hvm hw hB hz1 hk1 hS => ?_)
    try dsimp only at hw hB
    obtain ⟨hP1, hK1, hD1⟩ := hB
    rw [ht] at hP1
    obtain ⟨rfl, hw⟩ := hw
    obtain ⟨hP, hD⟩ := va_join (wr := [(ou, .inl ((cT 1), 1, .inr (.inl (vp_updL fo (0 : Int32).toNatClampNeg ((0 : Int32).toInt64)))))]) (w1 := []) hP hD [1] [0] rfl rfl (by decide) (by decide) hk1 hFc hP1 hD1
    have hw130 := hw
    clear hPc hDc hFc hz1 hk1 hP1 hK1 hD1
    generalize H1 = H at hP hS ⊢
    have hP : va_P (dC, dI) vcl [(ou, .inl ((cT 1), 1, .inr (.inl (vp_updL fo (0 : Int32).toNatClampNeg ((0 : Int32).toInt64)))))] H := hP
    have hD : va_D A [(ou, .inl ((cT 1), 1, .inr (.inl (vp_updL fo (0 : Int32).toNatClampNeg ((0 : Int32).toInt64)))))] := hD
    refine lv_iload hx hb d_Lw_law_1269 (lv_at hl 1 rfl) ?_
    refine lv_icmp_eq (tgt := 1276) hx hb d_Lw_law_1271 (by decide) (fun hc131 => ?_) (fun hn9 => absurd (rfl) hn9)
    refine lv_iload hx hb d_Lw_law_1276 (lv_at hl 1 rfl) ?_
    refine lv_if_ne (tgt := 1293) hx hb d_Lw_law_1278 (by decide) (fun hn9 => absurd hn9 (fun h => h rfl)) (fun hc132 => ?_)
    refine lv_aload_n hx hb d_Lw_law_1281 rfl (lv_at hl 5 rfl) ?_
    refine lv_iconst (v := 0) hx hb d_Lw_law_1282 (by decide) ?_
    refine va_lald hx hb hK hP 0 1 rfl rfl (i := 0) (vp_in_nI (n := 0) (N := 1) (by decide) (by decide)) d_Lw_law_1283 ?_
    refine lv_topl (fun x134 e133 => ?_)
    obtain rfl : x134 = ((0 : Int32).toInt64) := by rw [e133]; exact updL_eq
    refine lv_iload hx hb d_Lw_law_1284 (lv_at hl 0 rfl) ?_
    refine lv_i2l (v := (mZ 24).toInt64) hx hb d_Lw_law_1286 rfl ?_
    refine W.lcmp hx hb d_Lw_law_1287 ?_
    refine lv_if_eq (tgt := 1293) hx hb d_Lw_law_1288 (by decide) (fun hc135 => ?_) (fun hn9 => absurd (cmp_e (by rw [hz.2.2.1])) hn9)
    refine lv_goto (tgt := 1363) hx hb d_Lw_law_1293 (by decide) ?_
    refine W.widen (k := 900) (n := 33000) (Nat.le_of_ble_eq_true rfl) (Nat.le_of_ble_eq_true rfl) ?_
    have hl9 : lv_has ls 8 [(0, .ref b), (4, .int 0)] := lv_sub hl [2, 6] rfl
    exact kk _ _ _ hS hl9
  · skip
    have hP := hP.sub (ws' := [(ds, .inr (0, [.ref dr, .ref sv])), (dr, .inr (2, [.ref rr, .int (nI 20)])), (rr, .inl ((cT 0), 1000, .inl df)), (sv, .inr (5, [.ref se, .ref pw, .ref g0, .ref ty, .ref an, .ref aw, .ref ts, .ref ss, .ref rq, .int 0, .int 0, .int 0])), (aw, .inr (6, [.ref a1, .int 0, .int 0])), (ts, .inr (9, [.ref t1, .long 0, .long 1, .int 0])), (ss, .inr (11, [.ref s1, .int 0])), (mo, .inr (12, mdF mq mZ mQ 0 0 (nI 20) (nI 0))), (ou, .inl ((cT 1), 1, .inr (.inl fo)))]) [0, 1, 2, 3, 17, 18, 19, 22, 32] rfl
    have hD := hD.sub (ws' := [(ds, .inr (0, [.ref dr, .ref sv])), (dr, .inr (2, [.ref rr, .int (nI 20)])), (rr, .inl ((cT 0), 1000, .inl df)), (sv, .inr (5, [.ref se, .ref pw, .ref g0, .ref ty, .ref an, .ref aw, .ref ts, .ref ss, .ref rq, .int 0, .int 0, .int 0])), (aw, .inr (6, [.ref a1, .int 0, .int 0])), (ts, .inr (9, [.ref t1, .long 0, .long 1, .int 0])), (ss, .inr (11, [.ref s1, .int 0])), (mo, .inr (12, mdF mq mZ mQ 0 0 (nI 20) (nI 0))), (ou, .inl ((cT 1), 1, .inr (.inl fo)))]) [0, 1, 2, 3, 17, 18, 19, 22, 32] (by decide) rfl
    refine lv_aload_n hx hb d_Lw_law_1240 rfl (lv_at hl 1 rfl) ?_
    refine lv_aload_n hx hb d_Lw_law_1241 rfl (lv_at hl 0 rfl) ?_
    refine lv_iload hx hb d_Lw_law_1242 (lv_at hl 4 rfl) ?_
    refine lv_iconst (v := 1) hx hb d_Lw_law_1244 (by decide) ?_
    refine lv_iadd hx hb d_Lw_law_1245 ?_
    refine va_sld hx hb hX hbl hbA hS (i := (0 + 1)) (vin (by decide)) d_Lw_law_1246 ?_
    refine lv_topi (fun x137 e136 => ?_)
    obtain rfl : x137 = 2 := by rw [e136]; exact (congrArg xs (by decide)).trans (h2)
    refine lv_aload_n hx hb d_Lw_law_1247 rfl (lv_at hl 3 rfl) ?_
    have hPc := hP.sub (ws' := [(ds, .inr (0, [.ref dr, .ref sv])), (dr, .inr (2, [.ref rr, .int (nI 20)])), (rr, .inl ((cT 0), 1000, .inl df)), (sv, .inr (5, [.ref se, .ref pw, .ref g0, .ref ty, .ref an, .ref aw, .ref ts, .ref ss, .ref rq, .int 0, .int 0, .int 0])), (aw, .inr (6, [.ref a1, .int 0, .int 0])), (ts, .inr (9, [.ref t1, .long 0, .long 1, .int 0])), (ss, .inr (11, [.ref s1, .int 0])), (ou, .inl ((cT 1), 1, .inr (.inl fo)))]) [0, 1, 2, 3, 4, 5, 6, 8] rfl
    have hDc := hD.sub (ws' := [(ds, .inr (0, [.ref dr, .ref sv])), (dr, .inr (2, [.ref rr, .int (nI 20)])), (rr, .inl ((cT 0), 1000, .inl df)), (sv, .inr (5, [.ref se, .ref pw, .ref g0, .ref ty, .ref an, .ref aw, .ref ts, .ref ss, .ref rq, .int 0, .int 0, .int 0])), (aw, .inr (6, [.ref a1, .int 0, .int 0])), (ts, .inr (9, [.ref t1, .long 0, .long 1, .int 0])), (ss, .inr (11, [.ref s1, .int 0])), (ou, .inl ((cT 1), 1, .inr (.inl fo)))]) [0, 1, 2, 3, 4, 5, 6, 8] (by decide) rfl
    have hFc := va_free (wc := [(ds, .inr (0, [.ref dr, .ref sv])), (dr, .inr (2, [.ref rr, .int (nI 20)])), (rr, .inl ((cT 0), 1000, .inl df)), (sv, .inr (5, [.ref se, .ref pw, .ref g0, .ref ty, .ref an, .ref aw, .ref ts, .ref ss, .ref rq, .int 0, .int 0, .int 0])), (aw, .inr (6, [.ref a1, .int 0, .int 0])), (ts, .inr (9, [.ref t1, .long 0, .long 1, .int 0])), (ss, .inr (11, [.ref s1, .int 0])), (ou, .inl ((cT 1), 1, .inr (.inl fo)))]) hD hS hA [0, 1, 2, 3, 4, 5, 6, 8] rfl
    refine va_calli (xw_runS (As := [.ref ds, .int 2, .ref ou]) (rest := []) ⟨hx, hb, hml, hown, hg⟩ (l_count2 l dC dI cT H.size ds dr sv rr g0 se pw ty an aw ts ss rq 0 df a1 0 t1 0 1 s1 ou fo ) rfl (gI (List.forall_mem_cons.mpr ⟨k_929, fun _ h => h⟩)) (hg _ k_927) (hg _ k_928) (hg _ k_0) rfl rfl (n := 3) (by decide +kernel) ⟨Nat.le_of_ble_eq_true rfl, Nat.le_of_ble_eq_true rfl⟩ ⟨fun a U g mk q => by obtain ⟨q0, q1, qP, qK, qD⟩ := q; exact ⟨q0, q1, qP, va_K.moved (u := U) (U := U.calling g mk a) (Vm.Alike.refl U.vm) qK, qD⟩, fun U hU hW => ⟨rfl, by rw [hU], by rw [hU]; exact hPc, va_K.moved hW.alike hK, hDc.weaken (fun _ _ _ _ => trivial)⟩⟩ rfl rfl hl.1 rfl (lv_room (Nat.le_of_ble_eq_true rfl)) d_Lw_law_1248 ⟨Nat.le_of_ble_eq_true rfl, Nat.le_of_ble_eq_true rfl⟩) hS (fun q _ h => hFc q h) hFc (fun rv9 u t H1 locs ht hvm hw hB hz1 hk1 hS => ?_)
    try dsimp only at hw hB
    obtain ⟨hP1, hK1, hD1⟩ := hB
    rw [ht] at hP1
    obtain ⟨rfl, hw⟩ := hw
    obtain ⟨hP, hD⟩ := va_join (wr := [(mo, .inr (12, mdF mq mZ mQ 0 0 (nI 20) (nI 0)))]) (w1 := [(ou, .inl ((cT 1), 1, .inr (.inl (vp_updL fo (0 : Int32).toNatClampNeg ((0 : Int32).toInt64)))))]) hP hD [0, 1, 2, 3, 4, 5, 6, 8] [7] rfl rfl (by decide) (by decide) hk1 hFc hP1 hD1
    have hw138 := hw
    clear hPc hDc hFc hz1 hk1 hP1 hK1 hD1
    generalize H1 = H at hP hS ⊢
    have hP : va_P (dC, dI) vcl [(mo, .inr (12, mdF mq mZ mQ 0 0 (nI 20) (nI 0))), (ou, .inl ((cT 1), 1, .inr (.inl (vp_updL fo (0 : Int32).toNatClampNeg ((0 : Int32).toInt64)))))] H := hP
    have hD : va_D A [(mo, .inr (12, mdF mq mZ mQ 0 0 (nI 20) (nI 0))), (ou, .inl ((cT 1), 1, .inr (.inl (vp_updL fo (0 : Int32).toNatClampNeg ((0 : Int32).toInt64)))))] := hD
    refine lv_istore (lv' := [(5, .int 0), (0, .ref b), (1, .ref ds), (2, .ref mo), (3, .ref ou), (4, .int 0)]) hx hb d_Lw_law_1251 hl (by decide) rfl (fun ls hl => ?_)
    refine lv_aload_n hx hb d_Lw_law_1253 rfl (lv_at hl 3 rfl) ?_
    refine lv_aload_n hx hb d_Lw_law_1254 rfl (lv_at hl 1 rfl) ?_
    refine lv_iload hx hb d_Lw_law_1255 (lv_at hl 5 rfl) ?_
    refine lv_iconst (v := 1) hx hb d_Lw_law_1257 (by decide) ?_
    refine lv_iadd hx hb d_Lw_law_1258 ?_
    refine va_sld hx hb hX hbl hbA hS (i := (0 + 1)) (vin (by decide)) d_Lw_law_1259 ?_
    refine lv_topi (fun x140 e139 => ?_)
    obtain rfl : x140 = 2 := by rw [e139]; exact (congrArg xs (by decide)).trans (h2)
    have hPc := hP.sub (ws' := [(mo, .inr (12, mdF mq mZ mQ 0 0 (nI 20) (nI 0)))]) [0] rfl
    have hDc := hD.sub (ws' := [(mo, .inr (12, mdF mq mZ mQ 0 0 (nI 20) (nI 0)))]) [0] (by decide) rfl
    have hFc := va_free (wc := [(mo, .inr (12, mdF mq mZ mQ 0 0 (nI 20) (nI 0)))]) hD hS hA [0] rfl
    refine va_calli (va_runV (C := "DoorServerModel") (As := [.int 2]) (rest := []) ⟨hx, hb, hml, hown, hg⟩ (o_count2 l dC dI cT H.size mo mq mZ mQ 0 0 20 0 ) (cwV 1 hg (gI (List.forall_mem_append.mpr ⟨List.forall_mem_cons.mpr ⟨k_1406, List.forall_mem_cons.mpr ⟨k_1407, List.forall_mem_cons.mpr ⟨k_1408, List.forall_mem_cons.mpr ⟨k_13, fun _ h => absurd h List.not_mem_nil⟩⟩⟩⟩, List.forall_mem_cons.mpr ⟨k_1409, fun _ h => h⟩⟩)) rfl rfl rfl (by decide +kernel) ⟨Nat.le_of_ble_eq_true rfl, Nat.le_of_ble_eq_true rfl⟩) ⟨fun a U g mk q => by obtain ⟨q0, q1, qP, qK, qD⟩ := q; exact ⟨q0, q1, qP, va_K.moved (u := U) (U := U.calling g mk a) (Vm.Alike.refl U.vm) qK, qD⟩, va_recv (q0 := 0) (ci := 12) hK hP rfl rfl, fun U hU hW => ⟨rfl, by rw [hU], by rw [hU]; exact hPc, va_K.moved hW.alike hK, hDc.weaken (fun _ _ _ _ => trivial)⟩⟩ rfl rfl hl.1 rfl (lv_room (Nat.le_of_ble_eq_true rfl)) d_Lw_law_1260 ⟨Nat.le_of_ble_eq_true rfl, Nat.le_of_ble_eq_true rfl⟩) hS (fun q _ h => hFc q h) hFc (fun rv9 u t H1 locs ht hvm hw hB hz1 hk1 hS => ?_)
    try dsimp only at hw hB
    obtain ⟨hP1, hK1, hD1⟩ := hB
    rw [ht] at hP1
    obtain ⟨rfl, hw⟩ := hw
    obtain ⟨hP, hD⟩ := va_join (wr := [(ou, .inl ((cT 1), 1, .inr (.inl (vp_updL fo (0 : Int32).toNatClampNeg ((0 : Int32).toInt64)))))]) (w1 := [(mo, .inr (12, mdF mq mZ mQ 0 0 (nI 20) (nI 0)))]) hP hD [0] [1] rfl rfl (by decide) (by decide) hk1 hFc hP1 hD1
    have hw141 := hw
    clear hPc hDc hFc hz1 hk1 hP1 hK1 hD1
    generalize H1 = H at hP hS ⊢
    have hP : va_P (dC, dI) vcl [(ou, .inl ((cT 1), 1, .inr (.inl (vp_updL fo (0 : Int32).toNatClampNeg ((0 : Int32).toInt64))))), (mo, .inr (12, mdF mq mZ mQ 0 0 (nI 20) (nI 0)))] H := hP
    have hD : va_D A [(ou, .inl ((cT 1), 1, .inr (.inl (vp_updL fo (0 : Int32).toNatClampNeg ((0 : Int32).toInt64))))), (mo, .inr (12, mdF mq mZ mQ 0 0 (nI 20) (nI 0)))] := hD
    refine lv_istore (lv' := [(6, .int (mZ 33)), (5, .int 0), (0, .ref b), (1, .ref ds), (2, .ref mo), (3, .ref ou), (4, .int 0)]) hx hb d_Lw_law_1263 hl (by decide) rfl (fun ls hl => ?_)
    refine lv_aload_n hx hb d_Lw_law_1265 rfl (lv_at hl 4 rfl) ?_
    have hPc := hP.sub (ws' := [(mo, .inr (12, mdF mq mZ mQ 0 0 (nI 20) (nI 0)))]) [1] rfl
    have hDc := hD.sub (ws' := [(mo, .inr (12, mdF mq mZ mQ 0 0 (nI 20) (nI 0)))]) [1] (by decide) rfl
    have hFc := va_free (wc := [(mo, .inr (12, mdF mq mZ mQ 0 0 (nI 20) (nI 0)))]) hD hS hA [1] rfl
    refine va_calli (va_runV (C := "DoorServerModel") (As := []) (rest := []) ⟨hx, hb, hml, hown, hg⟩ (m_thrown l dC dI cT H.size mo mq mZ mQ 0 0 20 0 ) (cwV 0 hg (gI (List.forall_mem_append.mpr ⟨List.forall_mem_cons.mpr ⟨k_1157, List.forall_mem_cons.mpr ⟨k_1158, List.forall_mem_cons.mpr ⟨k_1159, List.forall_mem_cons.mpr ⟨k_13, fun _ h => absurd h List.not_mem_nil⟩⟩⟩⟩, List.forall_mem_cons.mpr ⟨k_1160, fun _ h => h⟩⟩)) rfl rfl rfl (by decide +kernel) ⟨Nat.le_of_ble_eq_true rfl, Nat.le_of_ble_eq_true rfl⟩) ⟨fun a U g mk q => by obtain ⟨q0, q1, qP, qK, qD⟩ := q; exact ⟨q0, q1, qP, va_K.moved (u := U) (U := U.calling g mk a) (Vm.Alike.refl U.vm) qK, qD⟩, va_recv (q0 := 1) (ci := 12) hK hP rfl rfl, fun U hU hW => ⟨rfl, by rw [hU], by rw [hU]; exact hPc, va_K.moved hW.alike hK, hDc.weaken (fun _ _ _ _ => trivial)⟩⟩ rfl rfl hl.1 rfl (lv_room (Nat.le_of_ble_eq_true rfl)) d_Lw_law_1266 ⟨Nat.le_of_ble_eq_true rfl, Nat.le_of_ble_eq_true rfl⟩) hS (fun q _ h => hFc q h) hFc (fun rv9 u t H1 locs ht hvm hw hB hz1 hk1 hS => ?_)
    try dsimp only at hw hB
    obtain ⟨hP1, hK1, hD1⟩ := hB
    rw [ht] at hP1
    obtain ⟨rfl, hw⟩ := hw
    obtain ⟨hP, hD⟩ := va_join (wr := [(ou, .inl ((cT 1), 1, .inr (.inl (vp_updL fo (0 : Int32).toNatClampNeg ((0 : Int32).toInt64)))))]) (w1 := []) hP hD [1] [0] rfl rfl (by decide) (by decide) hk1 hFc hP1 hD1
    have hw142 := hw
    clear hPc hDc hFc hz1 hk1 hP1 hK1 hD1
    generalize H1 = H at hP hS ⊢
    have hP : va_P (dC, dI) vcl [(ou, .inl ((cT 1), 1, .inr (.inl (vp_updL fo (0 : Int32).toNatClampNeg ((0 : Int32).toInt64)))))] H := hP
    have hD : va_D A [(ou, .inl ((cT 1), 1, .inr (.inl (vp_updL fo (0 : Int32).toNatClampNeg ((0 : Int32).toInt64)))))] := hD
    refine lv_iload hx hb d_Lw_law_1269 (lv_at hl 1 rfl) ?_
    refine lv_icmp_eq (tgt := 1276) hx hb d_Lw_law_1271 (by decide) (fun hc143 => ?_) (fun hn9 => absurd (rfl) hn9)
    refine lv_iload hx hb d_Lw_law_1276 (lv_at hl 1 rfl) ?_
    refine lv_if_ne (tgt := 1293) hx hb d_Lw_law_1278 (by decide) (fun hn9 => absurd hn9 (fun h => h rfl)) (fun hc144 => ?_)
    refine lv_aload_n hx hb d_Lw_law_1281 rfl (lv_at hl 5 rfl) ?_
    refine lv_iconst (v := 0) hx hb d_Lw_law_1282 (by decide) ?_
    refine va_lald hx hb hK hP 0 1 rfl rfl (i := 0) (vp_in_nI (n := 0) (N := 1) (by decide) (by decide)) d_Lw_law_1283 ?_
    refine lv_topl (fun x146 e145 => ?_)
    obtain rfl : x146 = ((0 : Int32).toInt64) := by rw [e145]; exact updL_eq
    refine lv_iload hx hb d_Lw_law_1284 (lv_at hl 0 rfl) ?_
    refine lv_i2l (v := (mZ 33).toInt64) hx hb d_Lw_law_1286 rfl ?_
    refine W.lcmp hx hb d_Lw_law_1287 ?_
    refine lv_if_eq (tgt := 1293) hx hb d_Lw_law_1288 (by decide) (fun hc147 => ?_) (fun hn9 => absurd (cmp_e (by rw [hz.2.2.2.1])) hn9)
    refine lv_goto (tgt := 1363) hx hb d_Lw_law_1293 (by decide) ?_
    refine W.widen (k := 900) (n := 33000) (Nat.le_of_ble_eq_true rfl) (Nat.le_of_ble_eq_true rfl) ?_
    have hl9 : lv_has ls 8 [(0, .ref b), (4, .int 0)] := lv_sub hl [2, 6] rfl
    exact kk _ _ _ hS hl9
  · skip
    have hP := hP.sub (ws' := [(ds, .inr (0, [.ref dr, .ref sv])), (dr, .inr (2, [.ref rr, .int (nI 20)])), (rr, .inl ((cT 0), 1000, .inl df)), (sv, .inr (5, [.ref se, .ref pw, .ref g0, .ref ty, .ref an, .ref aw, .ref ts, .ref ss, .ref rq, .int 0, .int 0, .int 0])), (aw, .inr (6, [.ref a1, .int 0, .int 0])), (ts, .inr (9, [.ref t1, .long 0, .long 1, .int 0])), (ss, .inr (11, [.ref s1, .int 0])), (mo, .inr (12, mdF mq mZ mQ 0 0 (nI 20) (nI 0))), (ou, .inl ((cT 1), 1, .inr (.inl fo)))]) [0, 1, 2, 3, 17, 18, 19, 22, 32] rfl
    have hD := hD.sub (ws' := [(ds, .inr (0, [.ref dr, .ref sv])), (dr, .inr (2, [.ref rr, .int (nI 20)])), (rr, .inl ((cT 0), 1000, .inl df)), (sv, .inr (5, [.ref se, .ref pw, .ref g0, .ref ty, .ref an, .ref aw, .ref ts, .ref ss, .ref rq, .int 0, .int 0, .int 0])), (aw, .inr (6, [.ref a1, .int 0, .int 0])), (ts, .inr (9, [.ref t1, .long 0, .long 1, .int 0])), (ss, .inr (11, [.ref s1, .int 0])), (mo, .inr (12, mdF mq mZ mQ 0 0 (nI 20) (nI 0))), (ou, .inl ((cT 1), 1, .inr (.inl fo)))]) [0, 1, 2, 3, 17, 18, 19, 22, 32] (by decide) rfl
    refine lv_aload_n hx hb d_Lw_law_1240 rfl (lv_at hl 1 rfl) ?_
    refine lv_aload_n hx hb d_Lw_law_1241 rfl (lv_at hl 0 rfl) ?_
    refine lv_iload hx hb d_Lw_law_1242 (lv_at hl 4 rfl) ?_
    refine lv_iconst (v := 1) hx hb d_Lw_law_1244 (by decide) ?_
    refine lv_iadd hx hb d_Lw_law_1245 ?_
    refine va_sld hx hb hX hbl hbA hS (i := (0 + 1)) (vin (by decide)) d_Lw_law_1246 ?_
    refine lv_topi (fun x149 e148 => ?_)
    obtain rfl : x149 = 3 := by rw [e148]; exact (congrArg xs (by decide)).trans (h2)
    refine lv_aload_n hx hb d_Lw_law_1247 rfl (lv_at hl 3 rfl) ?_
    have hPc := hP.sub (ws' := [(ds, .inr (0, [.ref dr, .ref sv])), (dr, .inr (2, [.ref rr, .int (nI 20)])), (rr, .inl ((cT 0), 1000, .inl df)), (sv, .inr (5, [.ref se, .ref pw, .ref g0, .ref ty, .ref an, .ref aw, .ref ts, .ref ss, .ref rq, .int 0, .int 0, .int 0])), (aw, .inr (6, [.ref a1, .int 0, .int 0])), (ts, .inr (9, [.ref t1, .long 0, .long 1, .int 0])), (ss, .inr (11, [.ref s1, .int 0])), (ou, .inl ((cT 1), 1, .inr (.inl fo)))]) [0, 1, 2, 3, 4, 5, 6, 8] rfl
    have hDc := hD.sub (ws' := [(ds, .inr (0, [.ref dr, .ref sv])), (dr, .inr (2, [.ref rr, .int (nI 20)])), (rr, .inl ((cT 0), 1000, .inl df)), (sv, .inr (5, [.ref se, .ref pw, .ref g0, .ref ty, .ref an, .ref aw, .ref ts, .ref ss, .ref rq, .int 0, .int 0, .int 0])), (aw, .inr (6, [.ref a1, .int 0, .int 0])), (ts, .inr (9, [.ref t1, .long 0, .long 1, .int 0])), (ss, .inr (11, [.ref s1, .int 0])), (ou, .inl ((cT 1), 1, .inr (.inl fo)))]) [0, 1, 2, 3, 4, 5, 6, 8] (by decide) rfl
    have hFc := va_free (wc := [(ds, .inr (0, [.ref dr, .ref sv])), (dr, .inr (2, [.ref rr, .int (nI 20)])), (rr, .inl ((cT 0), 1000, .inl df)), (sv, .inr (5, [.ref se, .ref pw, .ref g0, .ref ty, .ref an, .ref aw, .ref ts, .ref ss, .ref rq, .int 0, .int 0, .int 0])), (aw, .inr (6, [.ref a1, .int 0, .int 0])), (ts, .inr (9, [.ref t1, .long 0, .long 1, .int 0])), (ss, .inr (11, [.ref s1, .int 0])), (ou, .inl ((cT 1), 1, .inr (.inl fo)))]) hD hS hA [0, 1, 2, 3, 4, 5, 6, 8] rfl
    refine va_calli (xw_runS (As := [.ref ds, .int 3, .ref ou]) (rest := []) ⟨hx, hb, hml, hown, hg⟩ (l_count3 l dC dI cT H.size ds dr sv rr g0 se pw ty an aw ts ss rq 0 df a1 0 t1 0 1 s1 ou fo ) rfl (gI (List.forall_mem_cons.mpr ⟨k_929, fun _ h => h⟩)) (hg _ k_927) (hg _ k_928) (hg _ k_0) rfl rfl (n := 3) (by decide +kernel) ⟨Nat.le_of_ble_eq_true rfl, Nat.le_of_ble_eq_true rfl⟩ ⟨fun a U g mk q => by obtain ⟨q0, q1, qP, qK, qD⟩ := q; exact ⟨q0, q1, qP, va_K.moved (u := U) (U := U.calling g mk a) (Vm.Alike.refl U.vm) qK, qD⟩, fun U hU hW => ⟨rfl, by rw [hU], by rw [hU]; exact hPc, va_K.moved hW.alike hK, hDc.weaken (fun _ _ _ _ => trivial)⟩⟩ rfl rfl hl.1 rfl (lv_room (Nat.le_of_ble_eq_true rfl)) d_Lw_law_1248 ⟨Nat.le_of_ble_eq_true rfl, Nat.le_of_ble_eq_true rfl⟩) hS (fun q _ h => hFc q h) hFc (fun rv9 u t H1 locs ht hvm hw hB hz1 hk1 hS => ?_)
    try dsimp only at hw hB
    obtain ⟨hP1, hK1, hD1⟩ := hB
    rw [ht] at hP1
    obtain ⟨rfl, hw⟩ := hw
    obtain ⟨hP, hD⟩ := va_join (wr := [(mo, .inr (12, mdF mq mZ mQ 0 0 (nI 20) (nI 0)))]) (w1 := [(ou, .inl ((cT 1), 1, .inr (.inl (vp_updL fo (0 : Int32).toNatClampNeg ((0 : Int32).toInt64)))))]) hP hD [0, 1, 2, 3, 4, 5, 6, 8] [7] rfl rfl (by decide) (by decide) hk1 hFc hP1 hD1
    have hw150 := hw
    clear hPc hDc hFc hz1 hk1 hP1 hK1 hD1
    generalize H1 = H at hP hS ⊢
    have hP : va_P (dC, dI) vcl [(mo, .inr (12, mdF mq mZ mQ 0 0 (nI 20) (nI 0))), (ou, .inl ((cT 1), 1, .inr (.inl (vp_updL fo (0 : Int32).toNatClampNeg ((0 : Int32).toInt64)))))] H := hP
    have hD : va_D A [(mo, .inr (12, mdF mq mZ mQ 0 0 (nI 20) (nI 0))), (ou, .inl ((cT 1), 1, .inr (.inl (vp_updL fo (0 : Int32).toNatClampNeg ((0 : Int32).toInt64)))))] := hD
    refine lv_istore (lv' := [(5, .int 0), (0, .ref b), (1, .ref ds), (2, .ref mo), (3, .ref ou), (4, .int 0)]) hx hb d_Lw_law_1251 hl (by decide) rfl (fun ls hl => ?_)
    refine lv_aload_n hx hb d_Lw_law_1253 rfl (lv_at hl 3 rfl) ?_
    refine lv_aload_n hx hb d_Lw_law_1254 rfl (lv_at hl 1 rfl) ?_
    refine lv_iload hx hb d_Lw_law_1255 (lv_at hl 5 rfl) ?_
    refine lv_iconst (v := 1) hx hb d_Lw_law_1257 (by decide) ?_
    refine lv_iadd hx hb d_Lw_law_1258 ?_
    refine va_sld hx hb hX hbl hbA hS (i := (0 + 1)) (vin (by decide)) d_Lw_law_1259 ?_
    refine lv_topi (fun x152 e151 => ?_)
    obtain rfl : x152 = 3 := by rw [e151]; exact (congrArg xs (by decide)).trans (h2)
    have hPc := hP.sub (ws' := [(mo, .inr (12, mdF mq mZ mQ 0 0 (nI 20) (nI 0)))]) [0] rfl
    have hDc := hD.sub (ws' := [(mo, .inr (12, mdF mq mZ mQ 0 0 (nI 20) (nI 0)))]) [0] (by decide) rfl
    have hFc := va_free (wc := [(mo, .inr (12, mdF mq mZ mQ 0 0 (nI 20) (nI 0)))]) hD hS hA [0] rfl
    refine va_calli (va_runV (C := "DoorServerModel") (As := [.int 3]) (rest := []) ⟨hx, hb, hml, hown, hg⟩ (o_count3 l dC dI cT H.size mo mq mZ mQ 0 0 20 0 ) (cwV 1 hg (gI (List.forall_mem_append.mpr ⟨List.forall_mem_cons.mpr ⟨k_1406, List.forall_mem_cons.mpr ⟨k_1407, List.forall_mem_cons.mpr ⟨k_1408, List.forall_mem_cons.mpr ⟨k_13, fun _ h => absurd h List.not_mem_nil⟩⟩⟩⟩, List.forall_mem_cons.mpr ⟨k_1409, fun _ h => h⟩⟩)) rfl rfl rfl (by decide +kernel) ⟨Nat.le_of_ble_eq_true rfl, Nat.le_of_ble_eq_true rfl⟩) ⟨fun a U g mk q => by obtain ⟨q0, q1, qP, qK, qD⟩ := q; exact ⟨q0, q1, qP, va_K.moved (u := U) (U := U.calling g mk a) (Vm.Alike.refl U.vm) qK, qD⟩, va_recv (q0 := 0) (ci := 12) hK hP rfl rfl, fun U hU hW => ⟨rfl, by rw [hU], by rw [hU]; exact hPc, va_K.moved hW.alike hK, hDc.weaken (fun _ _ _ _ => trivial)⟩⟩ rfl rfl hl.1 rfl (lv_room (Nat.le_of_ble_eq_true rfl)) d_Lw_law_1260 ⟨Nat.le_of_ble_eq_true rfl, Nat.le_of_ble_eq_true rfl⟩) hS (fun q _ h => hFc q h) hFc (fun rv9 u t H1 locs ht hvm hw hB hz1 hk1 hS => ?_)
    try dsimp only at hw hB
    obtain ⟨hP1, hK1, hD1⟩ := hB
    rw [ht] at hP1
    obtain ⟨rfl, hw⟩ := hw
    obtain ⟨hP, hD⟩ := va_join (wr := [(ou, .inl ((cT 1), 1, .inr (.inl (vp_updL fo (0 : Int32).toNatClampNeg ((0 : Int32).toInt64)))))]) (w1 := [(mo, .inr (12, mdF mq mZ mQ 0 0 (nI 20) (nI 0)))]) hP hD [0] [1] rfl rfl (by decide) (by decide) hk1 hFc hP1 hD1
    have hw153 := hw
    clear hPc hDc hFc hz1 hk1 hP1 hK1 hD1
    generalize H1 = H at hP hS ⊢
    have hP : va_P (dC, dI) vcl [(ou, .inl ((cT 1), 1, .inr (.inl (vp_updL fo (0 : Int32).toNatClampNeg ((0 : Int32).toInt64))))), (mo, .inr (12, mdF mq mZ mQ 0 0 (nI 20) (nI 0)))] H := hP
    have hD : va_D A [(ou, .inl ((cT 1), 1, .inr (.inl (vp_updL fo (0 : Int32).toNatClampNeg ((0 : Int32).toInt64))))), (mo, .inr (12, mdF mq mZ mQ 0 0 (nI 20) (nI 0)))] := hD
    refine lv_istore (lv' := [(6, .int (mZ 43)), (5, .int 0), (0, .ref b), (1, .ref ds), (2, .ref mo), (3, .ref ou), (4, .int 0)]) hx hb d_Lw_law_1263 hl (by decide) rfl (fun ls hl => ?_)
    refine lv_aload_n hx hb d_Lw_law_1265 rfl (lv_at hl 4 rfl) ?_
    have hPc := hP.sub (ws' := [(mo, .inr (12, mdF mq mZ mQ 0 0 (nI 20) (nI 0)))]) [1] rfl
    have hDc := hD.sub (ws' := [(mo, .inr (12, mdF mq mZ mQ 0 0 (nI 20) (nI 0)))]) [1] (by decide) rfl
    have hFc := va_free (wc := [(mo, .inr (12, mdF mq mZ mQ 0 0 (nI 20) (nI 0)))]) hD hS hA [1] rfl
    refine va_calli (va_runV (C := "DoorServerModel") (As := []) (rest := []) ⟨hx, hb, hml, hown, hg⟩ (m_thrown l dC dI cT H.size mo mq mZ mQ 0 0 20 0 ) (cwV 0 hg (gI (List.forall_mem_append.mpr ⟨List.forall_mem_cons.mpr ⟨k_1157, List.forall_mem_cons.mpr ⟨k_1158, List.forall_mem_cons.mpr ⟨k_1159, List.forall_mem_cons.mpr ⟨k_13, fun _ h => absurd h List.not_mem_nil⟩⟩⟩⟩, List.forall_mem_cons.mpr ⟨k_1160, fun _ h => h⟩⟩)) rfl rfl rfl (by decide +kernel) ⟨Nat.le_of_ble_eq_true rfl, Nat.le_of_ble_eq_true rfl⟩) ⟨fun a U g mk q => by obtain ⟨q0, q1, qP, qK, qD⟩ := q; exact ⟨q0, q1, qP, va_K.moved (u := U) (U := U.calling g mk a) (Vm.Alike.refl U.vm) qK, qD⟩, va_recv (q0 := 1) (ci := 12) hK hP rfl rfl, fun U hU hW => ⟨rfl, by rw [hU], by rw [hU]; exact hPc, va_K.moved hW.alike hK, hDc.weaken (fun _ _ _ _ => trivial)⟩⟩ rfl rfl hl.1 rfl (lv_room (Nat.le_of_ble_eq_true rfl)) d_Lw_law_1266 ⟨Nat.le_of_ble_eq_true rfl, Nat.le_of_ble_eq_true rfl⟩) hS (fun q _ h => hFc q h) hFc (fun rv9 u t H1 locs ht hvm hw hB hz1 hk1 hS => ?_)
    try dsimp only at hw hB
    obtain ⟨hP1, hK1, hD1⟩ := hB
    rw [ht] at hP1
    obtain ⟨rfl, hw⟩ := hw
    obtain ⟨hP, hD⟩ := va_join (wr := [(ou, .inl ((cT 1), 1, .inr (.inl (vp_updL fo (0 : Int32).toNatClampNeg ((0 : Int32).toInt64)))))]) (w1 := []) hP hD [1] [0] rfl rfl (by decide) (by decide) hk1 hFc hP1 hD1
    have hw154 := hw
    clear hPc hDc hFc hz1 hk1 hP1 hK1 hD1
    generalize H1 = H at hP hS ⊢
    have hP : va_P (dC, dI) vcl [(ou, .inl ((cT 1), 1, .inr (.inl (vp_updL fo (0 : Int32).toNatClampNeg ((0 : Int32).toInt64)))))] H := hP
    have hD : va_D A [(ou, .inl ((cT 1), 1, .inr (.inl (vp_updL fo (0 : Int32).toNatClampNeg ((0 : Int32).toInt64)))))] := hD
    refine lv_iload hx hb d_Lw_law_1269 (lv_at hl 1 rfl) ?_
    refine lv_icmp_eq (tgt := 1276) hx hb d_Lw_law_1271 (by decide) (fun hc155 => ?_) (fun hn9 => absurd (rfl) hn9)
    refine lv_iload hx hb d_Lw_law_1276 (lv_at hl 1 rfl) ?_
    refine lv_if_ne (tgt := 1293) hx hb d_Lw_law_1278 (by decide) (fun hn9 => absurd hn9 (fun h => h rfl)) (fun hc156 => ?_)
    refine lv_aload_n hx hb d_Lw_law_1281 rfl (lv_at hl 5 rfl) ?_
    refine lv_iconst (v := 0) hx hb d_Lw_law_1282 (by decide) ?_
    refine va_lald hx hb hK hP 0 1 rfl rfl (i := 0) (vp_in_nI (n := 0) (N := 1) (by decide) (by decide)) d_Lw_law_1283 ?_
    refine lv_topl (fun x158 e157 => ?_)
    obtain rfl : x158 = ((0 : Int32).toInt64) := by rw [e157]; exact updL_eq
    refine lv_iload hx hb d_Lw_law_1284 (lv_at hl 0 rfl) ?_
    refine lv_i2l (v := (mZ 43).toInt64) hx hb d_Lw_law_1286 rfl ?_
    refine W.lcmp hx hb d_Lw_law_1287 ?_
    refine lv_if_eq (tgt := 1293) hx hb d_Lw_law_1288 (by decide) (fun hc159 => ?_) (fun hn9 => absurd (cmp_e (by rw [hz.2.2.2.2.1])) hn9)
    refine lv_goto (tgt := 1363) hx hb d_Lw_law_1293 (by decide) ?_
    refine W.widen (k := 900) (n := 33000) (Nat.le_of_ble_eq_true rfl) (Nat.le_of_ble_eq_true rfl) ?_
    have hl9 : lv_has ls 8 [(0, .ref b), (4, .int 0)] := lv_sub hl [2, 6] rfl
    exact kk _ _ _ hS hl9
  · skip
    have hP := hP.sub (ws' := [(ds, .inr (0, [.ref dr, .ref sv])), (dr, .inr (2, [.ref rr, .int (nI 20)])), (rr, .inl ((cT 0), 1000, .inl df)), (sv, .inr (5, [.ref se, .ref pw, .ref g0, .ref ty, .ref an, .ref aw, .ref ts, .ref ss, .ref rq, .int 0, .int 0, .int 0])), (aw, .inr (6, [.ref a1, .int 0, .int 0])), (ts, .inr (9, [.ref t1, .long 0, .long 1, .int 0])), (ss, .inr (11, [.ref s1, .int 0])), (mo, .inr (12, mdF mq mZ mQ 0 0 (nI 20) (nI 0))), (ou, .inl ((cT 1), 1, .inr (.inl fo)))]) [0, 1, 2, 3, 17, 18, 19, 22, 32] rfl
    have hD := hD.sub (ws' := [(ds, .inr (0, [.ref dr, .ref sv])), (dr, .inr (2, [.ref rr, .int (nI 20)])), (rr, .inl ((cT 0), 1000, .inl df)), (sv, .inr (5, [.ref se, .ref pw, .ref g0, .ref ty, .ref an, .ref aw, .ref ts, .ref ss, .ref rq, .int 0, .int 0, .int 0])), (aw, .inr (6, [.ref a1, .int 0, .int 0])), (ts, .inr (9, [.ref t1, .long 0, .long 1, .int 0])), (ss, .inr (11, [.ref s1, .int 0])), (mo, .inr (12, mdF mq mZ mQ 0 0 (nI 20) (nI 0))), (ou, .inl ((cT 1), 1, .inr (.inl fo)))]) [0, 1, 2, 3, 17, 18, 19, 22, 32] (by decide) rfl
    refine lv_aload_n hx hb d_Lw_law_1240 rfl (lv_at hl 1 rfl) ?_
    refine lv_aload_n hx hb d_Lw_law_1241 rfl (lv_at hl 0 rfl) ?_
    refine lv_iload hx hb d_Lw_law_1242 (lv_at hl 4 rfl) ?_
    refine lv_iconst (v := 1) hx hb d_Lw_law_1244 (by decide) ?_
    refine lv_iadd hx hb d_Lw_law_1245 ?_
    refine va_sld hx hb hX hbl hbA hS (i := (0 + 1)) (vin (by decide)) d_Lw_law_1246 ?_
    refine lv_topi (fun x161 e160 => ?_)
    obtain rfl : x161 = 4 := by rw [e160]; exact (congrArg xs (by decide)).trans (h2)
    refine lv_aload_n hx hb d_Lw_law_1247 rfl (lv_at hl 3 rfl) ?_
    have hPc := hP.sub (ws' := [(ds, .inr (0, [.ref dr, .ref sv])), (dr, .inr (2, [.ref rr, .int (nI 20)])), (rr, .inl ((cT 0), 1000, .inl df)), (sv, .inr (5, [.ref se, .ref pw, .ref g0, .ref ty, .ref an, .ref aw, .ref ts, .ref ss, .ref rq, .int 0, .int 0, .int 0])), (aw, .inr (6, [.ref a1, .int 0, .int 0])), (ts, .inr (9, [.ref t1, .long 0, .long 1, .int 0])), (ss, .inr (11, [.ref s1, .int 0])), (ou, .inl ((cT 1), 1, .inr (.inl fo)))]) [0, 1, 2, 3, 4, 5, 6, 8] rfl
    have hDc := hD.sub (ws' := [(ds, .inr (0, [.ref dr, .ref sv])), (dr, .inr (2, [.ref rr, .int (nI 20)])), (rr, .inl ((cT 0), 1000, .inl df)), (sv, .inr (5, [.ref se, .ref pw, .ref g0, .ref ty, .ref an, .ref aw, .ref ts, .ref ss, .ref rq, .int 0, .int 0, .int 0])), (aw, .inr (6, [.ref a1, .int 0, .int 0])), (ts, .inr (9, [.ref t1, .long 0, .long 1, .int 0])), (ss, .inr (11, [.ref s1, .int 0])), (ou, .inl ((cT 1), 1, .inr (.inl fo)))]) [0, 1, 2, 3, 4, 5, 6, 8] (by decide) rfl
    have hFc := va_free (wc := [(ds, .inr (0, [.ref dr, .ref sv])), (dr, .inr (2, [.ref rr, .int (nI 20)])), (rr, .inl ((cT 0), 1000, .inl df)), (sv, .inr (5, [.ref se, .ref pw, .ref g0, .ref ty, .ref an, .ref aw, .ref ts, .ref ss, .ref rq, .int 0, .int 0, .int 0])), (aw, .inr (6, [.ref a1, .int 0, .int 0])), (ts, .inr (9, [.ref t1, .long 0, .long 1, .int 0])), (ss, .inr (11, [.ref s1, .int 0])), (ou, .inl ((cT 1), 1, .inr (.inl fo)))]) hD hS hA [0, 1, 2, 3, 4, 5, 6, 8] rfl
    refine va_calli (xw_runS (As := [.ref ds, .int 4, .ref ou]) (rest := []) ⟨hx, hb, hml, hown, hg⟩ (l_count4 l dC dI cT H.size ds dr sv rr g0 se pw ty an aw ts ss rq 0 df a1 0 t1 0 1 s1 ou fo ) rfl (gI (List.forall_mem_cons.mpr ⟨k_929, fun _ h => h⟩)) (hg _ k_927) (hg _ k_928) (hg _ k_0) rfl rfl (n := 3) (by decide +kernel) ⟨Nat.le_of_ble_eq_true rfl, Nat.le_of_ble_eq_true rfl⟩ ⟨fun a U g mk q => by obtain ⟨q0, q1, qP, qK, qD⟩ := q; exact ⟨q0, q1, qP, va_K.moved (u := U) (U := U.calling g mk a) (Vm.Alike.refl U.vm) qK, qD⟩, fun U hU hW => ⟨rfl, by rw [hU], by rw [hU]; exact hPc, va_K.moved hW.alike hK, hDc.weaken (fun _ _ _ _ => trivial)⟩⟩ rfl rfl hl.1 rfl (lv_room (Nat.le_of_ble_eq_true rfl)) d_Lw_law_1248 ⟨Nat.le_of_ble_eq_true rfl, Nat.le_of_ble_eq_true rfl⟩) hS (fun q _ h => hFc q h) hFc (fun rv9 u t H1 locs ht hvm hw hB hz1 hk1 hS => ?_)
    try dsimp only at hw hB
    obtain ⟨hP1, hK1, hD1⟩ := hB
    rw [ht] at hP1
    obtain ⟨rfl, hw⟩ := hw
    obtain ⟨hP, hD⟩ := va_join (wr := [(mo, .inr (12, mdF mq mZ mQ 0 0 (nI 20) (nI 0)))]) (w1 := [(ou, .inl ((cT 1), 1, .inr (.inl (vp_updL fo (0 : Int32).toNatClampNeg ((0 : Int32).toInt64)))))]) hP hD [0, 1, 2, 3, 4, 5, 6, 8] [7] rfl rfl (by decide) (by decide) hk1 hFc hP1 hD1
    have hw162 := hw
    clear hPc hDc hFc hz1 hk1 hP1 hK1 hD1
    generalize H1 = H at hP hS ⊢
    have hP : va_P (dC, dI) vcl [(mo, .inr (12, mdF mq mZ mQ 0 0 (nI 20) (nI 0))), (ou, .inl ((cT 1), 1, .inr (.inl (vp_updL fo (0 : Int32).toNatClampNeg ((0 : Int32).toInt64)))))] H := hP
    have hD : va_D A [(mo, .inr (12, mdF mq mZ mQ 0 0 (nI 20) (nI 0))), (ou, .inl ((cT 1), 1, .inr (.inl (vp_updL fo (0 : Int32).toNatClampNeg ((0 : Int32).toInt64)))))] := hD
    refine lv_istore (lv' := [(5, .int 0), (0, .ref b), (1, .ref ds), (2, .ref mo), (3, .ref ou), (4, .int 0)]) hx hb d_Lw_law_1251 hl (by decide) rfl (fun ls hl => ?_)
    refine lv_aload_n hx hb d_Lw_law_1253 rfl (lv_at hl 3 rfl) ?_
    refine lv_aload_n hx hb d_Lw_law_1254 rfl (lv_at hl 1 rfl) ?_
    refine lv_iload hx hb d_Lw_law_1255 (lv_at hl 5 rfl) ?_
    refine lv_iconst (v := 1) hx hb d_Lw_law_1257 (by decide) ?_
    refine lv_iadd hx hb d_Lw_law_1258 ?_
    refine va_sld hx hb hX hbl hbA hS (i := (0 + 1)) (vin (by decide)) d_Lw_law_1259 ?_
    refine lv_topi (fun x164 e163 => ?_)
    obtain rfl : x164 = 4 := by rw [e163]; exact (congrArg xs (by decide)).trans (h2)
    have hPc := hP.sub (ws' := [(mo, .inr (12, mdF mq mZ mQ 0 0 (nI 20) (nI 0)))]) [0] rfl
    have hDc := hD.sub (ws' := [(mo, .inr (12, mdF mq mZ mQ 0 0 (nI 20) (nI 0)))]) [0] (by decide) rfl
    have hFc := va_free (wc := [(mo, .inr (12, mdF mq mZ mQ 0 0 (nI 20) (nI 0)))]) hD hS hA [0] rfl
    refine va_calli (va_runV (C := "DoorServerModel") (As := [.int 4]) (rest := []) ⟨hx, hb, hml, hown, hg⟩ (o_count4 l dC dI cT H.size mo mq mZ mQ 0 0 20 0 ) (cwV 1 hg (gI (List.forall_mem_append.mpr ⟨List.forall_mem_cons.mpr ⟨k_1406, List.forall_mem_cons.mpr ⟨k_1407, List.forall_mem_cons.mpr ⟨k_1408, List.forall_mem_cons.mpr ⟨k_13, fun _ h => absurd h List.not_mem_nil⟩⟩⟩⟩, List.forall_mem_cons.mpr ⟨k_1409, fun _ h => h⟩⟩)) rfl rfl rfl (by decide +kernel) ⟨Nat.le_of_ble_eq_true rfl, Nat.le_of_ble_eq_true rfl⟩) ⟨fun a U g mk q => by obtain ⟨q0, q1, qP, qK, qD⟩ := q; exact ⟨q0, q1, qP, va_K.moved (u := U) (U := U.calling g mk a) (Vm.Alike.refl U.vm) qK, qD⟩, va_recv (q0 := 0) (ci := 12) hK hP rfl rfl, fun U hU hW => ⟨rfl, by rw [hU], by rw [hU]; exact hPc, va_K.moved hW.alike hK, hDc.weaken (fun _ _ _ _ => trivial)⟩⟩ rfl rfl hl.1 rfl (lv_room (Nat.le_of_ble_eq_true rfl)) d_Lw_law_1260 ⟨Nat.le_of_ble_eq_true rfl, Nat.le_of_ble_eq_true rfl⟩) hS (fun q _ h => hFc q h) hFc (fun rv9 u t H1 locs ht hvm hw hB hz1 hk1 hS => ?_)
    try dsimp only at hw hB
    obtain ⟨hP1, hK1, hD1⟩ := hB
    rw [ht] at hP1
    obtain ⟨rfl, hw⟩ := hw
    obtain ⟨hP, hD⟩ := va_join (wr := [(ou, .inl ((cT 1), 1, .inr (.inl (vp_updL fo (0 : Int32).toNatClampNeg ((0 : Int32).toInt64)))))]) (w1 := [(mo, .inr (12, mdF mq mZ mQ 0 0 (nI 20) (nI 0)))]) hP hD [0] [1] rfl rfl (by decide) (by decide) hk1 hFc hP1 hD1
    have hw165 := hw
    clear hPc hDc hFc hz1 hk1 hP1 hK1 hD1
    generalize H1 = H at hP hS ⊢
    have hP : va_P (dC, dI) vcl [(ou, .inl ((cT 1), 1, .inr (.inl (vp_updL fo (0 : Int32).toNatClampNeg ((0 : Int32).toInt64))))), (mo, .inr (12, mdF mq mZ mQ 0 0 (nI 20) (nI 0)))] H := hP
    have hD : va_D A [(ou, .inl ((cT 1), 1, .inr (.inl (vp_updL fo (0 : Int32).toNatClampNeg ((0 : Int32).toInt64))))), (mo, .inr (12, mdF mq mZ mQ 0 0 (nI 20) (nI 0)))] := hD
    refine lv_istore (lv' := [(6, .int (mZ 44)), (5, .int 0), (0, .ref b), (1, .ref ds), (2, .ref mo), (3, .ref ou), (4, .int 0)]) hx hb d_Lw_law_1263 hl (by decide) rfl (fun ls hl => ?_)
    refine lv_aload_n hx hb d_Lw_law_1265 rfl (lv_at hl 4 rfl) ?_
    have hPc := hP.sub (ws' := [(mo, .inr (12, mdF mq mZ mQ 0 0 (nI 20) (nI 0)))]) [1] rfl
    have hDc := hD.sub (ws' := [(mo, .inr (12, mdF mq mZ mQ 0 0 (nI 20) (nI 0)))]) [1] (by decide) rfl
    have hFc := va_free (wc := [(mo, .inr (12, mdF mq mZ mQ 0 0 (nI 20) (nI 0)))]) hD hS hA [1] rfl
    refine va_calli (va_runV (C := "DoorServerModel") (As := []) (rest := []) ⟨hx, hb, hml, hown, hg⟩ (m_thrown l dC dI cT H.size mo mq mZ mQ 0 0 20 0 ) (cwV 0 hg (gI (List.forall_mem_append.mpr ⟨List.forall_mem_cons.mpr ⟨k_1157, List.forall_mem_cons.mpr ⟨k_1158, List.forall_mem_cons.mpr ⟨k_1159, List.forall_mem_cons.mpr ⟨k_13, fun _ h => absurd h List.not_mem_nil⟩⟩⟩⟩, List.forall_mem_cons.mpr ⟨k_1160, fun _ h => h⟩⟩)) rfl rfl rfl (by decide +kernel) ⟨Nat.le_of_ble_eq_true rfl, Nat.le_of_ble_eq_true rfl⟩) ⟨fun a U g mk q => by obtain ⟨q0, q1, qP, qK, qD⟩ := q; exact ⟨q0, q1, qP, va_K.moved (u := U) (U := U.calling g mk a) (Vm.Alike.refl U.vm) qK, qD⟩, va_recv (q0 := 1) (ci := 12) hK hP rfl rfl, fun U hU hW => ⟨rfl, by rw [hU], by rw [hU]; exact hPc, va_K.moved hW.alike hK, hDc.weaken (fun _ _ _ _ => trivial)⟩⟩ rfl rfl hl.1 rfl (lv_room (Nat.le_of_ble_eq_true rfl)) d_Lw_law_1266 ⟨Nat.le_of_ble_eq_true rfl, Nat.le_of_ble_eq_true rfl⟩) hS (fun q _ h => hFc q h) hFc (fun rv9 u t H1 locs ht hvm hw hB hz1 hk1 hS => ?_)
    try dsimp only at hw hB
    obtain ⟨hP1, hK1, hD1⟩ := hB
    rw [ht] at hP1
    obtain ⟨rfl, hw⟩ := hw
    obtain ⟨hP, hD⟩ := va_join (wr := [(ou, .inl ((cT 1), 1, .inr (.inl (vp_updL fo (0 : Int32).toNatClampNeg ((0 : Int32).toInt64)))))]) (w1 := []) hP hD [1] [0] rfl rfl (by decide) (by decide) hk1 hFc hP1 hD1
    have hw166 := hw
    clear hPc hDc hFc hz1 hk1 hP1 hK1 hD1
    generalize H1 = H at hP hS ⊢
    have hP : va_P (dC, dI) vcl [(ou, .inl ((cT 1), 1, .inr (.inl (vp_updL fo (0 : Int32).toNatClampNeg ((0 : Int32).toInt64)))))] H := hP
    have hD : va_D A [(ou, .inl ((cT 1), 1, .inr (.inl (vp_updL fo (0 : Int32).toNatClampNeg ((0 : Int32).toInt64)))))] := hD
    refine lv_iload hx hb d_Lw_law_1269 (lv_at hl 1 rfl) ?_
    refine lv_icmp_eq (tgt := 1276) hx hb d_Lw_law_1271 (by decide) (fun hc167 => ?_) (fun hn9 => absurd (rfl) hn9)
    refine lv_iload hx hb d_Lw_law_1276 (lv_at hl 1 rfl) ?_
    refine lv_if_ne (tgt := 1293) hx hb d_Lw_law_1278 (by decide) (fun hn9 => absurd hn9 (fun h => h rfl)) (fun hc168 => ?_)
    refine lv_aload_n hx hb d_Lw_law_1281 rfl (lv_at hl 5 rfl) ?_
    refine lv_iconst (v := 0) hx hb d_Lw_law_1282 (by decide) ?_
    refine va_lald hx hb hK hP 0 1 rfl rfl (i := 0) (vp_in_nI (n := 0) (N := 1) (by decide) (by decide)) d_Lw_law_1283 ?_
    refine lv_topl (fun x170 e169 => ?_)
    obtain rfl : x170 = ((0 : Int32).toInt64) := by rw [e169]; exact updL_eq
    refine lv_iload hx hb d_Lw_law_1284 (lv_at hl 0 rfl) ?_
    refine lv_i2l (v := (mZ 44).toInt64) hx hb d_Lw_law_1286 rfl ?_
    refine W.lcmp hx hb d_Lw_law_1287 ?_
    refine lv_if_eq (tgt := 1293) hx hb d_Lw_law_1288 (by decide) (fun hc171 => ?_) (fun hn9 => absurd (cmp_e (by rw [hz.2.2.2.2.2])) hn9)
    refine lv_goto (tgt := 1363) hx hb d_Lw_law_1293 (by decide) ?_
    refine W.widen (k := 900) (n := 33000) (Nat.le_of_ble_eq_true rfl) (Nat.le_of_ble_eq_true rfl) ?_
    have hl9 : lv_has ls 8 [(0, .ref b), (4, .int 0)] := lv_sub hl [2, 6] rfl
    exact kk _ _ _ hS hl9
  · skip
    have hP := hP.sub (ws' := [(ds, .inr (0, [.ref dr, .ref sv])), (dr, .inr (2, [.ref rr, .int (nI 20)])), (rr, .inl ((cT 0), 1000, .inl df)), (sv, .inr (5, [.ref se, .ref pw, .ref g0, .ref ty, .ref an, .ref aw, .ref ts, .ref ss, .ref rq, .int 0, .int 0, .int 0])), (aw, .inr (6, [.ref a1, .int 0, .int 0])), (ts, .inr (9, [.ref t1, .long 0, .long 1, .int 0])), (ss, .inr (11, [.ref s1, .int 0])), (mo, .inr (12, mdF mq mZ mQ 0 0 (nI 20) (nI 0))), (ou, .inl ((cT 1), 1, .inr (.inl fo)))]) [0, 1, 2, 3, 17, 18, 19, 22, 32] rfl
    have hD := hD.sub (ws' := [(ds, .inr (0, [.ref dr, .ref sv])), (dr, .inr (2, [.ref rr, .int (nI 20)])), (rr, .inl ((cT 0), 1000, .inl df)), (sv, .inr (5, [.ref se, .ref pw, .ref g0, .ref ty, .ref an, .ref aw, .ref ts, .ref ss, .ref rq, .int 0, .int 0, .int 0])), (aw, .inr (6, [.ref a1, .int 0, .int 0])), (ts, .inr (9, [.ref t1, .long 0, .long 1, .int 0])), (ss, .inr (11, [.ref s1, .int 0])), (mo, .inr (12, mdF mq mZ mQ 0 0 (nI 20) (nI 0))), (ou, .inl ((cT 1), 1, .inr (.inl fo)))]) [0, 1, 2, 3, 17, 18, 19, 22, 32] (by decide) rfl
    refine lv_aload_n hx hb d_Lw_law_1240 rfl (lv_at hl 1 rfl) ?_
    refine lv_aload_n hx hb d_Lw_law_1241 rfl (lv_at hl 0 rfl) ?_
    refine lv_iload hx hb d_Lw_law_1242 (lv_at hl 4 rfl) ?_
    refine lv_iconst (v := 1) hx hb d_Lw_law_1244 (by decide) ?_
    refine lv_iadd hx hb d_Lw_law_1245 ?_
    refine va_sld hx hb hX hbl hbA hS (i := (0 + 1)) (vin (by decide)) d_Lw_law_1246 ?_
    refine lv_topi (fun x173 e172 => ?_)
    obtain rfl : x173 = 5 := by rw [e172]; exact (congrArg xs (by decide)).trans (h2)
    refine lv_aload_n hx hb d_Lw_law_1247 rfl (lv_at hl 3 rfl) ?_
    have hPc := hP.sub (ws' := [(ds, .inr (0, [.ref dr, .ref sv])), (dr, .inr (2, [.ref rr, .int (nI 20)])), (rr, .inl ((cT 0), 1000, .inl df)), (sv, .inr (5, [.ref se, .ref pw, .ref g0, .ref ty, .ref an, .ref aw, .ref ts, .ref ss, .ref rq, .int 0, .int 0, .int 0])), (aw, .inr (6, [.ref a1, .int 0, .int 0])), (ts, .inr (9, [.ref t1, .long 0, .long 1, .int 0])), (ss, .inr (11, [.ref s1, .int 0])), (ou, .inl ((cT 1), 1, .inr (.inl fo)))]) [0, 1, 2, 3, 4, 5, 6, 8] rfl
    have hDc := hD.sub (ws' := [(ds, .inr (0, [.ref dr, .ref sv])), (dr, .inr (2, [.ref rr, .int (nI 20)])), (rr, .inl ((cT 0), 1000, .inl df)), (sv, .inr (5, [.ref se, .ref pw, .ref g0, .ref ty, .ref an, .ref aw, .ref ts, .ref ss, .ref rq, .int 0, .int 0, .int 0])), (aw, .inr (6, [.ref a1, .int 0, .int 0])), (ts, .inr (9, [.ref t1, .long 0, .long 1, .int 0])), (ss, .inr (11, [.ref s1, .int 0])), (ou, .inl ((cT 1), 1, .inr (.inl fo)))]) [0, 1, 2, 3, 4, 5, 6, 8] (by decide) rfl
    have hFc := va_free (wc := [(ds, .inr (0, [.ref dr, .ref sv])), (dr, .inr (2, [.ref rr, .int (nI 20)])), (rr, .inl ((cT 0), 1000, .inl df)), (sv, .inr (5, [.ref se, .ref pw, .ref g0, .ref ty, .ref an, .ref aw, .ref ts, .ref ss, .ref rq, .int 0, .int 0, .int 0])), (aw, .inr (6, [.ref a1, .int 0, .int 0])), (ts, .inr (9, [.ref t1, .long 0, .long 1, .int 0])), (ss, .inr (11, [.ref s1, .int 0])), (ou, .inl ((cT 1), 1, .inr (.inl fo)))]) hD hS hA [0, 1, 2, 3, 4, 5, 6, 8] rfl
    refine va_calli (xw_runS (As := [.ref ds, .int 5, .ref ou]) (rest := []) ⟨hx, hb, hml, hown, hg⟩ (l_count5 l dC dI cT H.size ds dr sv rr g0 se pw ty an aw ts ss rq 0 df a1 0 t1 0 1 s1 ou fo ) rfl (gI (List.forall_mem_cons.mpr ⟨k_929, fun _ h => h⟩)) (hg _ k_927) (hg _ k_928) (hg _ k_0) rfl rfl (n := 3) (by decide +kernel) ⟨Nat.le_of_ble_eq_true rfl, Nat.le_of_ble_eq_true rfl⟩ ⟨fun a U g mk q => by obtain ⟨q0, q1, qP, qK, qD⟩ := q; exact ⟨q0, q1, qP, va_K.moved (u := U) (U := U.calling g mk a) (Vm.Alike.refl U.vm) qK, qD⟩, fun U hU hW => ⟨rfl, by rw [hU], by rw [hU]; exact hPc, va_K.moved hW.alike hK, hDc.weaken (fun _ _ _ _ => trivial)⟩⟩ rfl rfl hl.1 rfl (lv_room (Nat.le_of_ble_eq_true rfl)) d_Lw_law_1248 ⟨Nat.le_of_ble_eq_true rfl, Nat.le_of_ble_eq_true rfl⟩) hS (fun q _ h => hFc q h) hFc (fun rv9 u t H1 locs ht hvm hw hB hz1 hk1 hS => ?_)
    try dsimp only at hw hB
    obtain ⟨hP1, hK1, hD1⟩ := hB
    rw [ht] at hP1
    obtain ⟨rfl, hw⟩ := hw
    obtain ⟨hP, hD⟩ := va_join (wr := [(mo, .inr (12, mdF mq mZ mQ 0 0 (nI 20) (nI 0)))]) (w1 := [(ou, .inl ((cT 1), 1, .inr (.inl (vp_updL fo (0 : Int32).toNatClampNeg ((20 : Int32).toInt64)))))]) hP hD [0, 1, 2, 3, 4, 5, 6, 8] [7] rfl rfl (by decide) (by decide) hk1 hFc hP1 hD1
    have hw174 := hw
    clear hPc hDc hFc hz1 hk1 hP1 hK1 hD1
    generalize H1 = H at hP hS ⊢
    have hP : va_P (dC, dI) vcl [(mo, .inr (12, mdF mq mZ mQ 0 0 (nI 20) (nI 0))), (ou, .inl ((cT 1), 1, .inr (.inl (vp_updL fo (0 : Int32).toNatClampNeg ((20 : Int32).toInt64)))))] H := hP
    have hD : va_D A [(mo, .inr (12, mdF mq mZ mQ 0 0 (nI 20) (nI 0))), (ou, .inl ((cT 1), 1, .inr (.inl (vp_updL fo (0 : Int32).toNatClampNeg ((20 : Int32).toInt64)))))] := hD
    refine lv_istore (lv' := [(5, .int 0), (0, .ref b), (1, .ref ds), (2, .ref mo), (3, .ref ou), (4, .int 0)]) hx hb d_Lw_law_1251 hl (by decide) rfl (fun ls hl => ?_)
    refine lv_aload_n hx hb d_Lw_law_1253 rfl (lv_at hl 3 rfl) ?_
    refine lv_aload_n hx hb d_Lw_law_1254 rfl (lv_at hl 1 rfl) ?_
    refine lv_iload hx hb d_Lw_law_1255 (lv_at hl 5 rfl) ?_
    refine lv_iconst (v := 1) hx hb d_Lw_law_1257 (by decide) ?_
    refine lv_iadd hx hb d_Lw_law_1258 ?_
    refine va_sld hx hb hX hbl hbA hS (i := (0 + 1)) (vin (by decide)) d_Lw_law_1259 ?_
    refine lv_topi (fun x176 e175 => ?_)
    obtain rfl : x176 = 5 := by rw [e175]; exact (congrArg xs (by decide)).trans (h2)
    have hPc := hP.sub (ws' := [(mo, .inr (12, mdF mq mZ mQ 0 0 (nI 20) (nI 0)))]) [0] rfl
    have hDc := hD.sub (ws' := [(mo, .inr (12, mdF mq mZ mQ 0 0 (nI 20) (nI 0)))]) [0] (by decide) rfl
    have hFc := va_free (wc := [(mo, .inr (12, mdF mq mZ mQ 0 0 (nI 20) (nI 0)))]) hD hS hA [0] rfl
    refine va_calli (va_runV (C := "DoorServerModel") (As := [.int 5]) (rest := []) ⟨hx, hb, hml, hown, hg⟩ (o_count5 l dC dI cT H.size mo mq mZ mQ 0 0 20 0 ) (cwV 1 hg (gI (List.forall_mem_append.mpr ⟨List.forall_mem_cons.mpr ⟨k_1406, List.forall_mem_cons.mpr ⟨k_1407, List.forall_mem_cons.mpr ⟨k_1408, List.forall_mem_cons.mpr ⟨k_13, fun _ h => absurd h List.not_mem_nil⟩⟩⟩⟩, List.forall_mem_cons.mpr ⟨k_1409, fun _ h => h⟩⟩)) rfl rfl rfl (by decide +kernel) ⟨Nat.le_of_ble_eq_true rfl, Nat.le_of_ble_eq_true rfl⟩) ⟨fun a U g mk q => by obtain ⟨q0, q1, qP, qK, qD⟩ := q; exact ⟨q0, q1, qP, va_K.moved (u := U) (U := U.calling g mk a) (Vm.Alike.refl U.vm) qK, qD⟩, va_recv (q0 := 0) (ci := 12) hK hP rfl rfl, fun U hU hW => ⟨rfl, by rw [hU], by rw [hU]; exact hPc, va_K.moved hW.alike hK, hDc.weaken (fun _ _ _ _ => trivial)⟩⟩ rfl rfl hl.1 rfl (lv_room (Nat.le_of_ble_eq_true rfl)) d_Lw_law_1260 ⟨Nat.le_of_ble_eq_true rfl, Nat.le_of_ble_eq_true rfl⟩) hS (fun q _ h => hFc q h) hFc (fun rv9 u t H1 locs ht hvm hw hB hz1 hk1 hS => ?_)
    try dsimp only at hw hB
    obtain ⟨hP1, hK1, hD1⟩ := hB
    rw [ht] at hP1
    obtain ⟨rfl, hw⟩ := hw
    obtain ⟨hP, hD⟩ := va_join (wr := [(ou, .inl ((cT 1), 1, .inr (.inl (vp_updL fo (0 : Int32).toNatClampNeg ((20 : Int32).toInt64)))))]) (w1 := [(mo, .inr (12, mdF mq mZ mQ 0 0 (nI 20) (nI 0)))]) hP hD [0] [1] rfl rfl (by decide) (by decide) hk1 hFc hP1 hD1
    have hw177 := hw
    clear hPc hDc hFc hz1 hk1 hP1 hK1 hD1
    generalize H1 = H at hP hS ⊢
    have hP : va_P (dC, dI) vcl [(ou, .inl ((cT 1), 1, .inr (.inl (vp_updL fo (0 : Int32).toNatClampNeg ((20 : Int32).toInt64))))), (mo, .inr (12, mdF mq mZ mQ 0 0 (nI 20) (nI 0)))] H := hP
    have hD : va_D A [(ou, .inl ((cT 1), 1, .inr (.inl (vp_updL fo (0 : Int32).toNatClampNeg ((20 : Int32).toInt64))))), (mo, .inr (12, mdF mq mZ mQ 0 0 (nI 20) (nI 0)))] := hD
    refine lv_istore (lv' := [(6, .int (nI 20)), (5, .int 0), (0, .ref b), (1, .ref ds), (2, .ref mo), (3, .ref ou), (4, .int 0)]) hx hb d_Lw_law_1263 hl (by decide) rfl (fun ls hl => ?_)
    refine lv_aload_n hx hb d_Lw_law_1265 rfl (lv_at hl 4 rfl) ?_
    have hPc := hP.sub (ws' := [(mo, .inr (12, mdF mq mZ mQ 0 0 (nI 20) (nI 0)))]) [1] rfl
    have hDc := hD.sub (ws' := [(mo, .inr (12, mdF mq mZ mQ 0 0 (nI 20) (nI 0)))]) [1] (by decide) rfl
    have hFc := va_free (wc := [(mo, .inr (12, mdF mq mZ mQ 0 0 (nI 20) (nI 0)))]) hD hS hA [1] rfl
    refine va_calli (va_runV (C := "DoorServerModel") (As := []) (rest := []) ⟨hx, hb, hml, hown, hg⟩ (m_thrown l dC dI cT H.size mo mq mZ mQ 0 0 20 0 ) (cwV 0 hg (gI (List.forall_mem_append.mpr ⟨List.forall_mem_cons.mpr ⟨k_1157, List.forall_mem_cons.mpr ⟨k_1158, List.forall_mem_cons.mpr ⟨k_1159, List.forall_mem_cons.mpr ⟨k_13, fun _ h => absurd h List.not_mem_nil⟩⟩⟩⟩, List.forall_mem_cons.mpr ⟨k_1160, fun _ h => h⟩⟩)) rfl rfl rfl (by decide +kernel) ⟨Nat.le_of_ble_eq_true rfl, Nat.le_of_ble_eq_true rfl⟩) ⟨fun a U g mk q => by obtain ⟨q0, q1, qP, qK, qD⟩ := q; exact ⟨q0, q1, qP, va_K.moved (u := U) (U := U.calling g mk a) (Vm.Alike.refl U.vm) qK, qD⟩, va_recv (q0 := 1) (ci := 12) hK hP rfl rfl, fun U hU hW => ⟨rfl, by rw [hU], by rw [hU]; exact hPc, va_K.moved hW.alike hK, hDc.weaken (fun _ _ _ _ => trivial)⟩⟩ rfl rfl hl.1 rfl (lv_room (Nat.le_of_ble_eq_true rfl)) d_Lw_law_1266 ⟨Nat.le_of_ble_eq_true rfl, Nat.le_of_ble_eq_true rfl⟩) hS (fun q _ h => hFc q h) hFc (fun rv9 u t H1 locs ht hvm hw hB hz1 hk1 hS => ?_)
    try dsimp only at hw hB
    obtain ⟨hP1, hK1, hD1⟩ := hB
    rw [ht] at hP1
    obtain ⟨rfl, hw⟩ := hw
    obtain ⟨hP, hD⟩ := va_join (wr := [(ou, .inl ((cT 1), 1, .inr (.inl (vp_updL fo (0 : Int32).toNatClampNeg ((20 : Int32).toInt64)))))]) (w1 := []) hP hD [1] [0] rfl rfl (by decide) (by decide) hk1 hFc hP1 hD1
    have hw178 := hw
    clear hPc hDc hFc hz1 hk1 hP1 hK1 hD1
    generalize H1 = H at hP hS ⊢
    have hP : va_P (dC, dI) vcl [(ou, .inl ((cT 1), 1, .inr (.inl (vp_updL fo (0 : Int32).toNatClampNeg ((20 : Int32).toInt64)))))] H := hP
    have hD : va_D A [(ou, .inl ((cT 1), 1, .inr (.inl (vp_updL fo (0 : Int32).toNatClampNeg ((20 : Int32).toInt64)))))] := hD
    refine lv_iload hx hb d_Lw_law_1269 (lv_at hl 1 rfl) ?_
    refine lv_icmp_eq (tgt := 1276) hx hb d_Lw_law_1271 (by decide) (fun hc179 => ?_) (fun hn9 => absurd (rfl) hn9)
    refine lv_iload hx hb d_Lw_law_1276 (lv_at hl 1 rfl) ?_
    refine lv_if_ne (tgt := 1293) hx hb d_Lw_law_1278 (by decide) (fun hn9 => absurd hn9 (fun h => h rfl)) (fun hc180 => ?_)
    refine lv_aload_n hx hb d_Lw_law_1281 rfl (lv_at hl 5 rfl) ?_
    refine lv_iconst (v := 0) hx hb d_Lw_law_1282 (by decide) ?_
    refine va_lald hx hb hK hP 0 1 rfl rfl (i := 0) (vp_in_nI (n := 0) (N := 1) (by decide) (by decide)) d_Lw_law_1283 ?_
    refine lv_topl (fun x182 e181 => ?_)
    obtain rfl : x182 = ((20 : Int32).toInt64) := by rw [e181]; exact updL_eq
    refine lv_iload hx hb d_Lw_law_1284 (lv_at hl 0 rfl) ?_
    refine lv_i2l (v := (nI 20).toInt64) hx hb d_Lw_law_1286 rfl ?_
    refine W.lcmp hx hb d_Lw_law_1287 ?_
    refine lv_if_eq (tgt := 1293) hx hb d_Lw_law_1288 (by decide) (fun hc183 => ?_) (fun hn9 => absurd (cmp_e (rfl)) hn9)
    refine lv_goto (tgt := 1363) hx hb d_Lw_law_1293 (by decide) ?_
    refine W.widen (k := 900) (n := 33000) (Nat.le_of_ble_eq_true rfl) (Nat.le_of_ble_eq_true rfl) ?_
    have hl9 : lv_has ls 8 [(0, .ref b), (4, .int 0)] := lv_sub hl [2, 6] rfl
    exact kk _ _ _ hS hl9
set_option maxHeartbeats 4000000 in
set_option maxRecDepth 100000 in
theorem lw_case17 {p : Program} {l : Launch} {e : Env} {s : State} {m : MethodId} {args : Array Value} {below : List Frame} {meth : Method} {c : Code} {Q : State → Prop} {A : Nat → Prop} {b : Nat} {xs : Nat → Int32} {H : Heap} {locs : List Loc} {ls : Array Slot} (dC : Nat → ClassId) (dI : Nat → Nat → Nat) (cT : Nat → ClassId) (ds : Nat) (dr : Nat) (sv : Nat) (rr : Nat) (se : Nat) (pw : Nat) (g0 : Nat) (ty : Nat) (an : Nat) (aw : Nat) (ts : Nat) (ss : Nat) (rq : Nat) (sh : Nat) (sr : Nat) (uh : Nat) (ur : Nat) (tx : Nat) (tr : Nat) (wo : Nat) (di : Nat) (ar : Nat) (a1 : Nat) (t1 : Nat) (s1 : Nat) (sa : Nat) (mo : Nat) (ou : Nat) (st us : Nat) (gs gp : Nat → Option Nat) (df sf mc mz mf mZ : Nat → Int32) (mS mQ fo : Nat → Int64) (mq : Nat → Nat) (hx : p.tables.exec = Jvm.exec) (hb : c.code = b_Lw_law) (hml : c.maxLocals = 8) (hown : s.vm.findClass "DoorServerLaw" = some m.cls) (hg : ∀ w ∈ BIG, w.before args s = true) (hX : va_X b 5 xs s s.heap) (hbl : b < s.heap.size) (hbA : ¬ A b) (hA : ∀ q : Nat, s.heap.size ≤ q → A q) (hK : va_K (dC, dI) vcl (tyL cT) s) (hfl : l.flags = pinnedFlags ++ [noTraceFlag]) (hXm : xm A s s.heap) (hXz : xz_T A s s.heap) (hst : st < 4) (hus : us < 32) (hgs : gs st = some sh) (hgp : gp us = some uh) (hst1 : ¬ xs 1 < 0 → ¬ 3 < xs 1 → xs 1 = nI st) (hus1 : ¬ xs 1 < 0 → ¬ 31 < xs 1 → xs 1 = nI us) (hdf : df 0 = 1 ∧ df 1 = 0 ∧ df 2 = 0 ∧ df 3 = 20 ∧ ∀ q9, q9 < 8 → df (4 + q9) = bn_at 0 q9 ∧ df (12 + q9) = bn_at 0 q9 ^^^ 90) (hmf : mf 0 = 1 ∧ mf 1 = 0 ∧ mf 2 = 0 ∧ mf 3 = 20 ∧ ∀ k9, k9 < 16 → mf (4 + k9) = mb_at 0 k9) (hmz : ∀ q9, q9 < 4 → mz q9 = 1) (hz : mZ 14 = 0 ∧ mZ 17 = 0 ∧ mZ 24 = 0 ∧ mZ 33 = 0 ∧ mZ 43 = 0 ∧ mZ 44 = 0) (kk : ∀ (H : Heap) (locs : List Loc) (ls : Array Slot), va_S A s.heap H locs → lv_has ls 8 [(0, .ref b), (4, .int 0)] → W p l e room_1 s m args below meth c H locs 900 33000 Q (F0 m 1363 ls [])) (hP : va_P (dC, dI) vcl [(ds, .inr (0, [.ref dr, .ref sv])), (dr, .inr (2, [.ref rr, .int (nI 20)])), (rr, .inl ((cT 0), 1000, .inl df)), (sv, .inr (5, [.ref se, .ref pw, .ref g0, .ref ty, .ref an, .ref aw, .ref ts, .ref ss, .ref rq, .int 0, .int 0, .int 0])), (se, .inl ((cT 2), 4, .inr (.inr (.inr (.inr gs))))), (sh, .inr (1, [.ref sr, .int (nI 1)])), (sr, .inl ((cT 0), 40, .inl sf)), (pw, .inl ((cT 2), 32, .inr (.inr (.inr (.inr gp))))), (uh, .inr (1, [.ref ur, .int 0])), (ur, .inl ((cT 0), 60, .inl (fun _ => 0))), (g0, .inr (3, [.ref tx, .ref wo, .ref di, .int 0, .int 0, .int 0, .int 0])), (tx, .inr (1, [.ref tr, .int (nI 0)])), (tr, .inl ((cT 0), 1192, .inl (fun _ => 0))), (wo, .inl ((cT 0), 16, .inl (fun _ => 0))), (di, .inl ((cT 0), 16, .inl (fun _ => 0))), (an, .inr (2, [.ref ar, .int 0])), (ar, .inl ((cT 0), 72, .inl (fun _ => 0))), (aw, .inr (6, [.ref a1, .int 0, .int 0])), (ts, .inr (9, [.ref t1, .long 0, .long 1, .int 0])), (ss, .inr (11, [.ref s1, .int 0])), (rq, .inr (4, [.ref dr, .ref sa])), (sa, .inl ((cT 0), 256, .inl (fun _ => 0))), (mo, .inr (12, mdF mq mZ mQ 0 0 (nI 20) (nI 0))), (mq 0, .inl ((cT 1), 64, .inr (.inl mS))), (mq 3, .inl ((cT 0), 160, .inl mc)), (mq 4, .inl ((cT 0), 4, .inl mz)), (mq 5, .inl ((cT 0), 1920, .inl (fun _ => 0))), (mq 6, .inl ((cT 0), 32, .inl (fun _ => 0))), (mq 7, .inl ((cT 0), 1000, .inl mf)), (mq 9, .inl ((cT 0), 1400, .inl (fun _ => 0))), (mq 11, .inl ((cT 0), 16, .inl (fun _ => 0))), (mq 12, .inl ((cT 0), 1200, .inl (fun _ => 0))), (ou, .inl ((cT 1), 1, .inr (.inl fo)))] H) (hD : va_D A [(ds, .inr (0, [.ref dr, .ref sv])), (dr, .inr (2, [.ref rr, .int (nI 20)])), (rr, .inl ((cT 0), 1000, .inl df)), (sv, .inr (5, [.ref se, .ref pw, .ref g0, .ref ty, .ref an, .ref aw, .ref ts, .ref ss, .ref rq, .int 0, .int 0, .int 0])), (se, .inl ((cT 2), 4, .inr (.inr (.inr (.inr gs))))), (sh, .inr (1, [.ref sr, .int (nI 1)])), (sr, .inl ((cT 0), 40, .inl sf)), (pw, .inl ((cT 2), 32, .inr (.inr (.inr (.inr gp))))), (uh, .inr (1, [.ref ur, .int 0])), (ur, .inl ((cT 0), 60, .inl (fun _ => 0))), (g0, .inr (3, [.ref tx, .ref wo, .ref di, .int 0, .int 0, .int 0, .int 0])), (tx, .inr (1, [.ref tr, .int (nI 0)])), (tr, .inl ((cT 0), 1192, .inl (fun _ => 0))), (wo, .inl ((cT 0), 16, .inl (fun _ => 0))), (di, .inl ((cT 0), 16, .inl (fun _ => 0))), (an, .inr (2, [.ref ar, .int 0])), (ar, .inl ((cT 0), 72, .inl (fun _ => 0))), (aw, .inr (6, [.ref a1, .int 0, .int 0])), (ts, .inr (9, [.ref t1, .long 0, .long 1, .int 0])), (ss, .inr (11, [.ref s1, .int 0])), (rq, .inr (4, [.ref dr, .ref sa])), (sa, .inl ((cT 0), 256, .inl (fun _ => 0))), (mo, .inr (12, mdF mq mZ mQ 0 0 (nI 20) (nI 0))), (mq 0, .inl ((cT 1), 64, .inr (.inl mS))), (mq 3, .inl ((cT 0), 160, .inl mc)), (mq 4, .inl ((cT 0), 4, .inl mz)), (mq 5, .inl ((cT 0), 1920, .inl (fun _ => 0))), (mq 6, .inl ((cT 0), 32, .inl (fun _ => 0))), (mq 7, .inl ((cT 0), 1000, .inl mf)), (mq 9, .inl ((cT 0), 1400, .inl (fun _ => 0))), (mq 11, .inl ((cT 0), 16, .inl (fun _ => 0))), (mq 12, .inl ((cT 0), 1200, .inl (fun _ => 0))), (ou, .inl ((cT 1), 1, .inr (.inl fo)))]) (hS : va_S A s.heap H locs) (hl : lv_has ls 8 [(0, .ref b), (1, .ref ds), (2, .ref mo), (3, .ref ou), (4, .int 0)]) : W p l e room_1 s m args below meth c H locs 800 32000 Q (F0 m 1296 ls []) := by
  have hP := hP.sub (ws' := [(ds, .inr (0, [.ref dr, .ref sv])), (dr, .inr (2, [.ref rr, .int (nI 20)])), (rr, .inl ((cT 0), 1000, .inl df)), (sv, .inr (5, [.ref se, .ref pw, .ref g0, .ref ty, .ref an, .ref aw, .ref ts, .ref ss, .ref rq, .int 0, .int 0, .int 0])), (aw, .inr (6, [.ref a1, .int 0, .int 0])), (ts, .inr (9, [.ref t1, .long 0, .long 1, .int 0])), (ss, .inr (11, [.ref s1, .int 0])), (mo, .inr (12, mdF mq mZ mQ 0 0 (nI 20) (nI 0)))]) [0, 1, 2, 3, 17, 18, 19, 22] rfl
  have hD := hD.sub (ws' := [(ds, .inr (0, [.ref dr, .ref sv])), (dr, .inr (2, [.ref rr, .int (nI 20)])), (rr, .inl ((cT 0), 1000, .inl df)), (sv, .inr (5, [.ref se, .ref pw, .ref g0, .ref ty, .ref an, .ref aw, .ref ts, .ref ss, .ref rq, .int 0, .int 0, .int 0])), (aw, .inr (6, [.ref a1, .int 0, .int 0])), (ts, .inr (9, [.ref t1, .long 0, .long 1, .int 0])), (ss, .inr (11, [.ref s1, .int 0])), (mo, .inr (12, mdF mq mZ mQ 0 0 (nI 20) (nI 0)))]) [0, 1, 2, 3, 17, 18, 19, 22] (by decide) rfl
  refine lv_aload_n hx hb d_Lw_law_1296 rfl (lv_at hl 1 rfl) ?_
  refine lv_aload_n hx hb d_Lw_law_1297 rfl (lv_at hl 0 rfl) ?_
  refine lv_iload hx hb d_Lw_law_1298 (lv_at hl 4 rfl) ?_
  refine lv_iconst (v := 1) hx hb d_Lw_law_1300 (by decide) ?_
  refine lv_iadd hx hb d_Lw_law_1301 ?_
  refine va_sld hx hb hX hbl hbA hS (i := (0 + 1)) (vin (by decide)) d_Lw_law_1302 ?_
  refine lv_topi (fun x185 e184 => ?_)
  obtain rfl : x185 = xs 1 := by rw [e184]; exact congrArg xs (by decide)
  refine lv_aload_n hx hb d_Lw_law_1303 rfl (lv_at hl 0 rfl) ?_
  refine lv_iload hx hb d_Lw_law_1304 (lv_at hl 4 rfl) ?_
  refine lv_iconst (v := 2) hx hb d_Lw_law_1306 (by decide) ?_
  refine lv_iadd hx hb d_Lw_law_1307 ?_
  refine va_sld hx hb hX hbl hbA hS (i := (0 + 2)) (vin (by decide)) d_Lw_law_1308 ?_
  refine lv_topi (fun x187 e186 => ?_)
  obtain rfl : x187 = xs 2 := by rw [e186]; exact congrArg xs (by decide)
  refine lv_aload_n hx hb d_Lw_law_1309 rfl (lv_at hl 3 rfl) ?_
  have hPc := hP.sub (ws' := [(ds, .inr (0, [.ref dr, .ref sv])), (dr, .inr (2, [.ref rr, .int (nI 20)])), (rr, .inl ((cT 0), 1000, .inl df)), (sv, .inr (5, [.ref se, .ref pw, .ref g0, .ref ty, .ref an, .ref aw, .ref ts, .ref ss, .ref rq, .int 0, .int 0, .int 0])), (aw, .inr (6, [.ref a1, .int 0, .int 0])), (ts, .inr (9, [.ref t1, .long 0, .long 1, .int 0])), (ss, .inr (11, [.ref s1, .int 0]))]) [0, 1, 2, 3, 4, 5, 6] rfl
  have hDc := hD.sub (ws' := [(ds, .inr (0, [.ref dr, .ref sv])), (dr, .inr (2, [.ref rr, .int (nI 20)])), (rr, .inl ((cT 0), 1000, .inl df)), (sv, .inr (5, [.ref se, .ref pw, .ref g0, .ref ty, .ref an, .ref aw, .ref ts, .ref ss, .ref rq, .int 0, .int 0, .int 0])), (aw, .inr (6, [.ref a1, .int 0, .int 0])), (ts, .inr (9, [.ref t1, .long 0, .long 1, .int 0])), (ss, .inr (11, [.ref s1, .int 0]))]) [0, 1, 2, 3, 4, 5, 6] (by decide) rfl
  have hFc := va_free (wc := [(ds, .inr (0, [.ref dr, .ref sv])), (dr, .inr (2, [.ref rr, .int (nI 20)])), (rr, .inl ((cT 0), 1000, .inl df)), (sv, .inr (5, [.ref se, .ref pw, .ref g0, .ref ty, .ref an, .ref aw, .ref ts, .ref ss, .ref rq, .int 0, .int 0, .int 0])), (aw, .inr (6, [.ref a1, .int 0, .int 0])), (ts, .inr (9, [.ref t1, .long 0, .long 1, .int 0])), (ss, .inr (11, [.ref s1, .int 0]))]) hD hS hA [0, 1, 2, 3, 4, 5, 6] rfl
  refine va_calli (xw_runS (As := [.ref ds, .int (xs 1), .int (xs 2), .ref ou]) (rest := []) ⟨hx, hb, hml, hown, hg⟩ (t_record l dC dI cT H.size ds dr sv rr g0 se pw ty an aw ts ss rq 0 df a1 0 t1 0 1 s1 (xs 1) (xs 2) ou (hfl)) rfl (gI (List.forall_mem_cons.mpr ⟨k_936, fun _ h => h⟩)) (hg _ k_934) (hg _ k_935) (hg _ k_0) rfl rfl (n := 4) (by decide +kernel) ⟨Nat.le_of_ble_eq_true rfl, Nat.le_of_ble_eq_true rfl⟩ ⟨fun a U g mk q => by obtain ⟨q0, q1, qP, qK, qD, qE⟩ := q; exact ⟨q0, q1, qP, va_K.moved (u := U) (U := U.calling g mk a) (Vm.Alike.refl U.vm) qK, qD, qE.at (State.WarmedH.refl _) (fun _ _ _ => rfl) (fun _ h => h)⟩, fun U hU hW => ⟨rfl, by rw [hU], by rw [hU]; exact hPc, va_K.moved hW.alike hK, hDc.weaken (fun _ _ _ _ => trivial), by rw [hU]; exact hXz.at hW hS.2.1 (fun _ h => h.elim)⟩⟩ rfl rfl hl.1 rfl (lv_room (Nat.le_of_ble_eq_true rfl)) d_Lw_law_1310 ⟨Nat.le_of_ble_eq_true rfl, Nat.le_of_ble_eq_true rfl⟩) hS (fun q _ h => hFc q h) hFc (fun rv9 u t H1 locs ht hvm hw hB hz1 hk1 hS => ?_)
  try dsimp only at hw hB
  obtain ⟨hP1, hK1, hD1⟩ := hB
  rw [ht] at hP1
  obtain ⟨rfl, hw⟩ := hw
  obtain ⟨hP, hD⟩ := va_join (wr := [(mo, .inr (12, mdF mq mZ mQ 0 0 (nI 20) (nI 0)))]) (w1 := []) hP hD [0, 1, 2, 3, 4, 5, 6] [7] rfl rfl (by decide) (by decide) hk1 hFc hP1 hD1
  have hw188 := hw
  clear hPc hDc hFc hz1 hk1 hP1 hK1 hD1
  generalize H1 = H at hP hS ⊢
  have hP : va_P (dC, dI) vcl [(mo, .inr (12, mdF mq mZ mQ 0 0 (nI 20) (nI 0)))] H := hP
  have hD : va_D A [(mo, .inr (12, mdF mq mZ mQ 0 0 (nI 20) (nI 0)))] := hD
  refine lv_istore (lv' := [(5, .int 1), (0, .ref b), (1, .ref ds), (2, .ref mo), (3, .ref ou), (4, .int 0)]) hx hb d_Lw_law_1313 hl (by decide) rfl (fun ls hl => ?_)
  refine lv_aload_n hx hb d_Lw_law_1315 rfl (lv_at hl 3 rfl) ?_
  refine lv_aload_n hx hb d_Lw_law_1316 rfl (lv_at hl 1 rfl) ?_
  refine lv_iload hx hb d_Lw_law_1317 (lv_at hl 5 rfl) ?_
  refine lv_iconst (v := 1) hx hb d_Lw_law_1319 (by decide) ?_
  refine lv_iadd hx hb d_Lw_law_1320 ?_
  refine va_sld hx hb hX hbl hbA hS (i := (0 + 1)) (vin (by decide)) d_Lw_law_1321 ?_
  refine lv_topi (fun x190 e189 => ?_)
  obtain rfl : x190 = xs 1 := by rw [e189]; exact congrArg xs (by decide)
  refine lv_aload_n hx hb d_Lw_law_1322 rfl (lv_at hl 1 rfl) ?_
  refine lv_iload hx hb d_Lw_law_1323 (lv_at hl 5 rfl) ?_
  refine lv_iconst (v := 2) hx hb d_Lw_law_1325 (by decide) ?_
  refine lv_iadd hx hb d_Lw_law_1326 ?_
  refine va_sld hx hb hX hbl hbA hS (i := (0 + 2)) (vin (by decide)) d_Lw_law_1327 ?_
  refine lv_topi (fun x192 e191 => ?_)
  obtain rfl : x192 = xs 2 := by rw [e191]; exact congrArg xs (by decide)
  have hPc := hP.sub (ws' := [(mo, .inr (12, mdF mq mZ mQ 0 0 (nI 20) (nI 0)))]) [0] rfl
  have hDc := hD.sub (ws' := [(mo, .inr (12, mdF mq mZ mQ 0 0 (nI 20) (nI 0)))]) [0] (by decide) rfl
  have hFc := va_free (wc := [(mo, .inr (12, mdF mq mZ mQ 0 0 (nI 20) (nI 0)))]) hD hS hA [0] rfl
  refine va_calll (va_runV (C := "DoorServerModel") (As := [.int (xs 1), .int (xs 2)]) (rest := []) ⟨hx, hb, hml, hown, hg⟩ (b_record l dC dI cT H.size mo mq mZ mQ 0 0 20 0 (xs 1) (xs 2) (hz.2.2.2.1)) (cwV 2 hg (gI (List.forall_mem_append.mpr ⟨List.forall_mem_cons.mpr ⟨k_1410, List.forall_mem_cons.mpr ⟨k_1411, List.forall_mem_cons.mpr ⟨k_1412, List.forall_mem_cons.mpr ⟨k_13, fun _ h => absurd h List.not_mem_nil⟩⟩⟩⟩, List.forall_mem_cons.mpr ⟨k_1413, fun _ h => h⟩⟩)) rfl rfl rfl (by decide +kernel) ⟨Nat.le_of_ble_eq_true rfl, Nat.le_of_ble_eq_true rfl⟩) ⟨fun a U g mk q => by obtain ⟨q0, q1, qP, qK, qD⟩ := q; exact ⟨q0, q1, qP, va_K.moved (u := U) (U := U.calling g mk a) (Vm.Alike.refl U.vm) qK, qD⟩, va_recv (q0 := 0) (ci := 12) hK hP rfl rfl, fun U hU hW => ⟨rfl, by rw [hU], by rw [hU]; exact hPc, va_K.moved hW.alike hK, hDc.weaken (fun _ _ _ _ => trivial)⟩⟩ rfl rfl hl.1 rfl (lv_room (Nat.le_of_ble_eq_true rfl)) d_Lw_law_1328 ⟨Nat.le_of_ble_eq_true rfl, Nat.le_of_ble_eq_true rfl⟩) hS (fun q _ h => hFc q h) hFc (fun rv9 u t H1 locs ht hvm hw hB hz1 hk1 hS => ?_)
  try dsimp only at hw hB
  obtain ⟨hP1, hK1, hD1⟩ := hB
  rw [ht] at hP1
  generalize rv9 = r193 at hw ⊢
  obtain ⟨hP, hD⟩ := va_join (wr := []) (w1 := [(mo, .inr (12, mdF mq mZ mQ 1 0 (nI 20) (nI 0)))]) hP hD [0] [] rfl rfl (by decide) (by decide) hk1 hFc hP1 hD1
  have hw194 := hw
  clear hPc hDc hFc hz1 hk1 hP1 hK1 hD1
  generalize H1 = H at hP hS ⊢
  have hP : va_P (dC, dI) vcl [(mo, .inr (12, mdF mq mZ mQ 1 0 (nI 20) (nI 0)))] H := hP
  have hD : va_D A [(mo, .inr (12, mdF mq mZ mQ 1 0 (nI 20) (nI 0)))] := hD
  refine lv_lstore (lv' := [(6, .long r193), (5, .int 1), (0, .ref b), (1, .ref ds), (2, .ref mo), (3, .ref ou), (4, .int 0)]) hx hb d_Lw_law_1331 hl (by decide) rfl (fun ls hl => ?_)
  refine lv_aload_n hx hb d_Lw_law_1333 rfl (lv_at hl 4 rfl) ?_
  have hPc := hP.sub (ws' := [(mo, .inr (12, mdF mq mZ mQ 1 0 (nI 20) (nI 0)))]) [0] rfl
  have hDc := hD.sub (ws' := [(mo, .inr (12, mdF mq mZ mQ 1 0 (nI 20) (nI 0)))]) [0] (by decide) rfl
  have hFc := va_free (wc := [(mo, .inr (12, mdF mq mZ mQ 1 0 (nI 20) (nI 0)))]) hD hS hA [0] rfl
  refine va_calli (va_runV (C := "DoorServerModel") (As := []) (rest := []) ⟨hx, hb, hml, hown, hg⟩ (m_thrown l dC dI cT H.size mo mq mZ mQ 1 0 20 0 ) (cwV 0 hg (gI (List.forall_mem_append.mpr ⟨List.forall_mem_cons.mpr ⟨k_1157, List.forall_mem_cons.mpr ⟨k_1158, List.forall_mem_cons.mpr ⟨k_1159, List.forall_mem_cons.mpr ⟨k_13, fun _ h => absurd h List.not_mem_nil⟩⟩⟩⟩, List.forall_mem_cons.mpr ⟨k_1160, fun _ h => h⟩⟩)) rfl rfl rfl (by decide +kernel) ⟨Nat.le_of_ble_eq_true rfl, Nat.le_of_ble_eq_true rfl⟩) ⟨fun a U g mk q => by obtain ⟨q0, q1, qP, qK, qD⟩ := q; exact ⟨q0, q1, qP, va_K.moved (u := U) (U := U.calling g mk a) (Vm.Alike.refl U.vm) qK, qD⟩, va_recv (q0 := 0) (ci := 12) hK hP rfl rfl, fun U hU hW => ⟨rfl, by rw [hU], by rw [hU]; exact hPc, va_K.moved hW.alike hK, hDc.weaken (fun _ _ _ _ => trivial)⟩⟩ rfl rfl hl.1 rfl (lv_room (Nat.le_of_ble_eq_true rfl)) d_Lw_law_1334 ⟨Nat.le_of_ble_eq_true rfl, Nat.le_of_ble_eq_true rfl⟩) hS (fun q _ h => hFc q h) hFc (fun rv9 u t H1 locs ht hvm hw hB hz1 hk1 hS => ?_)
  try dsimp only at hw hB
  obtain ⟨hP1, hK1, hD1⟩ := hB
  rw [ht] at hP1
  obtain ⟨rfl, hw⟩ := hw
  obtain ⟨hP, hD⟩ := va_join (wr := []) (w1 := []) hP hD [0] [] rfl rfl (by decide) (by decide) hk1 hFc hP1 hD1
  have hw195 := hw
  clear hPc hDc hFc hz1 hk1 hP1 hK1 hD1
  generalize H1 = H at hP hS ⊢
  have hP : va_P (dC, dI) vcl [] H := hP
  have hD : va_D A [] := hD
  refine lv_iload hx hb d_Lw_law_1337 (lv_at hl 1 rfl) ?_
  refine lv_icmp_eq (tgt := 1344) hx hb d_Lw_law_1339 (by decide) (fun hc196 => ?_) (fun hn9 => absurd (rfl) hn9)
  refine lv_iload hx hb d_Lw_law_1344 (lv_at hl 1 rfl) ?_
  refine lv_if_ne (tgt := 1360) hx hb d_Lw_law_1346 (by decide) (fun hc197 => ?_) (fun hn9 => absurd hn9 (by decide))
  refine lv_goto (tgt := 1363) hx hb d_Lw_law_1360 (by decide) ?_
  refine W.widen (k := 900) (n := 33000) (Nat.le_of_ble_eq_true rfl) (Nat.le_of_ble_eq_true rfl) ?_
  have hl9 : lv_has ls 8 [(0, .ref b), (4, .int 0)] := lv_sub hl [2, 6] rfl
  exact kk _ _ _ hS hl9
