theorem dL_law_1011 : decode cL_law 1011 = .ok (.aload_n 3, 1) := by decide +kernel
theorem dL_law_1012 : decode cL_law 1012 = .ok (.iconst 0, 1) := by decide +kernel
theorem dL_law_1013 : decode cL_law 1013 = .ok (.laload, 1) := by decide +kernel
theorem dL_law_1014 : decode cL_law 1014 = .ok (.iload 7, 2) := by decide +kernel
theorem dL_law_1016 : decode cL_law 1016 = .ok (.i2l, 1) := by decide +kernel
theorem dL_law_1017 : decode cL_law 1017 = .ok (.lcmp, 1) := by decide +kernel
theorem dL_law_1018 : decode cL_law 1018 = .ok (.ifCond .eq 5, 3) := by decide +kernel
theorem dL_law_1021 : decode cL_law 1021 = .ok (.iconst 0, 1) := by decide +kernel
theorem dL_law_1022 : decode cL_law 1022 = .ok (.ireturn, 1) := by decide +kernel
theorem dL_law_1023 : decode cL_law 1023 = .ok (.goto 1478, 3) := by decide +kernel
theorem dL_law_1026 : decode cL_law 1026 = .ok (.aload_n 1, 1) := by decide +kernel
theorem dL_law_1027 : decode cL_law 1027 = .ok (.aload_n 3, 1) := by decide +kernel
theorem dL_law_1028 : decode cL_law 1028 = .ok (.invokestatic 219, 3) := by decide +kernel
theorem dL_law_1031 : decode cL_law 1031 = .ok (.istore 6, 2) := by decide +kernel
theorem dL_law_1033 : decode cL_law 1033 = .ok (.aload_n 2, 1) := by decide +kernel
theorem dL_law_1034 : decode cL_law 1034 = .ok (.invokevirtual 221, 3) := by decide +kernel
theorem dL_law_1037 : decode cL_law 1037 = .ok (.istore 7, 2) := by decide +kernel
theorem dL_law_1039 : decode cL_law 1039 = .ok (.aload_n 2, 1) := by decide +kernel
theorem dL_law_1040 : decode cL_law 1040 = .ok (.invokevirtual 144, 3) := by decide +kernel
theorem dL_law_1043 : decode cL_law 1043 = .ok (.iload 6, 2) := by decide +kernel
theorem dL_law_1045 : decode cL_law 1045 = .ok (.if_icmp .eq 5, 3) := by decide +kernel
theorem dL_law_1048 : decode cL_law 1048 = .ok (.iconst 0, 1) := by decide +kernel
theorem dL_law_1049 : decode cL_law 1049 = .ok (.ireturn, 1) := by decide +kernel
theorem dL_law_1050 : decode cL_law 1050 = .ok (.iload 6, 2) := by decide +kernel
theorem dL_law_1052 : decode cL_law 1052 = .ok (.ifCond .ne 15, 3) := by decide +kernel
theorem dL_law_1055 : decode cL_law 1055 = .ok (.aload_n 3, 1) := by decide +kernel
theorem dL_law_1056 : decode cL_law 1056 = .ok (.iconst 0, 1) := by decide +kernel
theorem dL_law_1057 : decode cL_law 1057 = .ok (.laload, 1) := by decide +kernel
theorem dL_law_1058 : decode cL_law 1058 = .ok (.iload 7, 2) := by decide +kernel
theorem dL_law_1060 : decode cL_law 1060 = .ok (.i2l, 1) := by decide +kernel
theorem dL_law_1061 : decode cL_law 1061 = .ok (.lcmp, 1) := by decide +kernel
theorem dL_law_1062 : decode cL_law 1062 = .ok (.ifCond .eq 5, 3) := by decide +kernel
theorem dL_law_1065 : decode cL_law 1065 = .ok (.iconst 0, 1) := by decide +kernel
theorem dL_law_1066 : decode cL_law 1066 = .ok (.ireturn, 1) := by decide +kernel
theorem dL_law_1067 : decode cL_law 1067 = .ok (.goto 1434, 3) := by decide +kernel
theorem dL_law_1070 : decode cL_law 1070 = .ok (.aload_n 1, 1) := by decide +kernel
theorem dL_law_1071 : decode cL_law 1071 = .ok (.aload_n 3, 1) := by decide +kernel
theorem dL_law_1072 : decode cL_law 1072 = .ok (.invokestatic 222, 3) := by decide +kernel
theorem dL_law_1075 : decode cL_law 1075 = .ok (.istore 6, 2) := by decide +kernel
theorem dL_law_1077 : decode cL_law 1077 = .ok (.aload_n 2, 1) := by decide +kernel
theorem dL_law_1078 : decode cL_law 1078 = .ok (.invokevirtual 224, 3) := by decide +kernel
theorem dL_law_1081 : decode cL_law 1081 = .ok (.istore 7, 2) := by decide +kernel
theorem dL_law_1083 : decode cL_law 1083 = .ok (.aload_n 2, 1) := by decide +kernel
theorem dL_law_1084 : decode cL_law 1084 = .ok (.invokevirtual 144, 3) := by decide +kernel
theorem dL_law_1087 : decode cL_law 1087 = .ok (.iload 6, 2) := by decide +kernel
theorem dL_law_1089 : decode cL_law 1089 = .ok (.if_icmp .eq 5, 3) := by decide +kernel
theorem dL_law_1092 : decode cL_law 1092 = .ok (.iconst 0, 1) := by decide +kernel
theorem dL_law_1093 : decode cL_law 1093 = .ok (.ireturn, 1) := by decide +kernel
theorem dL_law_1094 : decode cL_law 1094 = .ok (.iload 6, 2) := by decide +kernel
theorem dL_law_1096 : decode cL_law 1096 = .ok (.ifCond .ne 15, 3) := by decide +kernel
theorem dL_law_1099 : decode cL_law 1099 = .ok (.aload_n 3, 1) := by decide +kernel
theorem dL_law_1100 : decode cL_law 1100 = .ok (.iconst 0, 1) := by decide +kernel
theorem dL_law_1101 : decode cL_law 1101 = .ok (.laload, 1) := by decide +kernel
theorem dL_law_1102 : decode cL_law 1102 = .ok (.iload 7, 2) := by decide +kernel
theorem dL_law_1104 : decode cL_law 1104 = .ok (.i2l, 1) := by decide +kernel
theorem dL_law_1105 : decode cL_law 1105 = .ok (.lcmp, 1) := by decide +kernel
theorem dL_law_1106 : decode cL_law 1106 = .ok (.ifCond .eq 5, 3) := by decide +kernel
theorem dL_law_1109 : decode cL_law 1109 = .ok (.iconst 0, 1) := by decide +kernel
theorem dL_law_1110 : decode cL_law 1110 = .ok (.ireturn, 1) := by decide +kernel
theorem dL_law_1111 : decode cL_law 1111 = .ok (.goto 1390, 3) := by decide +kernel
theorem dL_law_1114 : decode cL_law 1114 = .ok (.aload_n 1, 1) := by decide +kernel
theorem dL_law_1115 : decode cL_law 1115 = .ok (.aload_n 0, 1) := by decide +kernel
theorem dL_law_1116 : decode cL_law 1116 = .ok (.iload 5, 2) := by decide +kernel
theorem dL_law_1118 : decode cL_law 1118 = .ok (.iconst 1, 1) := by decide +kernel
theorem dL_law_1119 : decode cL_law 1119 = .ok (.iadd, 1) := by decide +kernel
theorem dL_law_1120 : decode cL_law 1120 = .ok (.iaload, 1) := by decide +kernel
theorem dL_law_1121 : decode cL_law 1121 = .ok (.aload_n 3, 1) := by decide +kernel
theorem dL_law_1122 : decode cL_law 1122 = .ok (.invokestatic 225, 3) := by decide +kernel
theorem dL_law_1125 : decode cL_law 1125 = .ok (.istore 6, 2) := by decide +kernel
theorem dL_law_1127 : decode cL_law 1127 = .ok (.aload_n 2, 1) := by decide +kernel
theorem dL_law_1128 : decode cL_law 1128 = .ok (.aload_n 0, 1) := by decide +kernel
theorem dL_law_1129 : decode cL_law 1129 = .ok (.iload 5, 2) := by decide +kernel
theorem dL_law_1131 : decode cL_law 1131 = .ok (.iconst 1, 1) := by decide +kernel
theorem dL_law_1132 : decode cL_law 1132 = .ok (.iadd, 1) := by decide +kernel
theorem dL_law_1133 : decode cL_law 1133 = .ok (.iaload, 1) := by decide +kernel
theorem dL_law_1134 : decode cL_law 1134 = .ok (.invokevirtual 227, 3) := by decide +kernel
theorem dL_law_1137 : decode cL_law 1137 = .ok (.istore 7, 2) := by decide +kernel
theorem dL_law_1139 : decode cL_law 1139 = .ok (.aload_n 2, 1) := by decide +kernel
theorem dL_law_1140 : decode cL_law 1140 = .ok (.invokevirtual 144, 3) := by decide +kernel
theorem dL_law_1143 : decode cL_law 1143 = .ok (.iload 6, 2) := by decide +kernel
theorem dL_law_1145 : decode cL_law 1145 = .ok (.if_icmp .eq 5, 3) := by decide +kernel
theorem dL_law_1148 : decode cL_law 1148 = .ok (.iconst 0, 1) := by decide +kernel
theorem dL_law_1149 : decode cL_law 1149 = .ok (.ireturn, 1) := by decide +kernel
theorem dL_law_1150 : decode cL_law 1150 = .ok (.iload 6, 2) := by decide +kernel
theorem dL_law_1152 : decode cL_law 1152 = .ok (.ifCond .ne 15, 3) := by decide +kernel
theorem dL_law_1155 : decode cL_law 1155 = .ok (.aload_n 3, 1) := by decide +kernel
theorem dL_law_1156 : decode cL_law 1156 = .ok (.iconst 0, 1) := by decide +kernel
theorem dL_law_1157 : decode cL_law 1157 = .ok (.laload, 1) := by decide +kernel
theorem dL_law_1158 : decode cL_law 1158 = .ok (.iload 7, 2) := by decide +kernel
theorem dL_law_1160 : decode cL_law 1160 = .ok (.i2l, 1) := by decide +kernel
theorem dL_law_1161 : decode cL_law 1161 = .ok (.lcmp, 1) := by decide +kernel
theorem dL_law_1162 : decode cL_law 1162 = .ok (.ifCond .eq 5, 3) := by decide +kernel
theorem dL_law_1165 : decode cL_law 1165 = .ok (.iconst 0, 1) := by decide +kernel
theorem dL_law_1166 : decode cL_law 1166 = .ok (.ireturn, 1) := by decide +kernel
theorem dL_law_1167 : decode cL_law 1167 = .ok (.goto 1334, 3) := by decide +kernel
theorem dL_law_1170 : decode cL_law 1170 = .ok (.aload_n 1, 1) := by decide +kernel
theorem dL_law_1171 : decode cL_law 1171 = .ok (.aload_n 0, 1) := by decide +kernel
theorem dL_law_1172 : decode cL_law 1172 = .ok (.iload 5, 2) := by decide +kernel
theorem dL_law_1174 : decode cL_law 1174 = .ok (.iconst 1, 1) := by decide +kernel
theorem dL_law_1175 : decode cL_law 1175 = .ok (.iadd, 1) := by decide +kernel
theorem dL_law_1176 : decode cL_law 1176 = .ok (.iaload, 1) := by decide +kernel
theorem dL_law_1177 : decode cL_law 1177 = .ok (.aload_n 0, 1) := by decide +kernel
theorem dL_law_1178 : decode cL_law 1178 = .ok (.iload 5, 2) := by decide +kernel
theorem dL_law_1180 : decode cL_law 1180 = .ok (.iconst 2, 1) := by decide +kernel
theorem dL_law_1181 : decode cL_law 1181 = .ok (.iadd, 1) := by decide +kernel
theorem dL_law_1182 : decode cL_law 1182 = .ok (.iaload, 1) := by decide +kernel
theorem dL_law_1183 : decode cL_law 1183 = .ok (.aload_n 0, 1) := by decide +kernel
theorem dL_law_1184 : decode cL_law 1184 = .ok (.iload 5, 2) := by decide +kernel
theorem dL_law_1186 : decode cL_law 1186 = .ok (.iconst 3, 1) := by decide +kernel
theorem dL_law_1187 : decode cL_law 1187 = .ok (.iadd, 1) := by decide +kernel
theorem dL_law_1188 : decode cL_law 1188 = .ok (.iaload, 1) := by decide +kernel
theorem dL_law_1189 : decode cL_law 1189 = .ok (.aload_n 3, 1) := by decide +kernel
theorem dL_law_1190 : decode cL_law 1190 = .ok (.invokestatic 228, 3) := by decide +kernel
theorem dL_law_1193 : decode cL_law 1193 = .ok (.istore 6, 2) := by decide +kernel
theorem dL_law_1195 : decode cL_law 1195 = .ok (.aload_n 2, 1) := by decide +kernel
theorem dL_law_1196 : decode cL_law 1196 = .ok (.aload_n 0, 1) := by decide +kernel
theorem dL_law_1197 : decode cL_law 1197 = .ok (.iload 5, 2) := by decide +kernel
theorem dL_law_1199 : decode cL_law 1199 = .ok (.iconst 1, 1) := by decide +kernel
theorem dL_law_1200 : decode cL_law 1200 = .ok (.iadd, 1) := by decide +kernel
theorem dL_law_1201 : decode cL_law 1201 = .ok (.iaload, 1) := by decide +kernel
theorem dL_law_1202 : decode cL_law 1202 = .ok (.aload_n 0, 1) := by decide +kernel
theorem dL_law_1203 : decode cL_law 1203 = .ok (.iload 5, 2) := by decide +kernel
theorem dL_law_1205 : decode cL_law 1205 = .ok (.iconst 2, 1) := by decide +kernel
theorem dL_law_1206 : decode cL_law 1206 = .ok (.iadd, 1) := by decide +kernel
theorem dL_law_1207 : decode cL_law 1207 = .ok (.iaload, 1) := by decide +kernel
theorem dL_law_1208 : decode cL_law 1208 = .ok (.aload_n 0, 1) := by decide +kernel
theorem dL_law_1209 : decode cL_law 1209 = .ok (.iload 5, 2) := by decide +kernel
theorem dL_law_1211 : decode cL_law 1211 = .ok (.iconst 3, 1) := by decide +kernel
theorem dL_law_1212 : decode cL_law 1212 = .ok (.iadd, 1) := by decide +kernel
theorem dL_law_1213 : decode cL_law 1213 = .ok (.iaload, 1) := by decide +kernel
theorem dL_law_1214 : decode cL_law 1214 = .ok (.invokevirtual 230, 3) := by decide +kernel
theorem dL_law_1217 : decode cL_law 1217 = .ok (.istore 7, 2) := by decide +kernel
theorem dL_law_1219 : decode cL_law 1219 = .ok (.aload_n 2, 1) := by decide +kernel
theorem dL_law_1220 : decode cL_law 1220 = .ok (.invokevirtual 144, 3) := by decide +kernel
theorem dL_law_1223 : decode cL_law 1223 = .ok (.iload 6, 2) := by decide +kernel
theorem dL_law_1225 : decode cL_law 1225 = .ok (.if_icmp .eq 5, 3) := by decide +kernel
theorem dL_law_1228 : decode cL_law 1228 = .ok (.iconst 0, 1) := by decide +kernel
theorem dL_law_1229 : decode cL_law 1229 = .ok (.ireturn, 1) := by decide +kernel
theorem dL_law_1230 : decode cL_law 1230 = .ok (.iload 6, 2) := by decide +kernel
theorem dL_law_1232 : decode cL_law 1232 = .ok (.ifCond .ne 22, 3) := by decide +kernel
theorem dL_law_1235 : decode cL_law 1235 = .ok (.aload_n 3, 1) := by decide +kernel
theorem dL_law_1236 : decode cL_law 1236 = .ok (.iconst 0, 1) := by decide +kernel
theorem dL_law_1237 : decode cL_law 1237 = .ok (.laload, 1) := by decide +kernel
theorem dL_law_1238 : decode cL_law 1238 = .ok (.iload 7, 2) := by decide +kernel
theorem dL_law_1240 : decode cL_law 1240 = .ok (.ifCond .eq 7, 3) := by decide +kernel
theorem dL_law_1243 : decode cL_law 1243 = .ok (.lconst 1, 1) := by decide +kernel
theorem dL_law_1244 : decode cL_law 1244 = .ok (.goto 4, 3) := by decide +kernel
theorem dL_law_1247 : decode cL_law 1247 = .ok (.lconst 0, 1) := by decide +kernel
theorem dL_law_1248 : decode cL_law 1248 = .ok (.lcmp, 1) := by decide +kernel
theorem dL_law_1249 : decode cL_law 1249 = .ok (.ifCond .eq 5, 3) := by decide +kernel
theorem dL_law_1252 : decode cL_law 1252 = .ok (.iconst 0, 1) := by decide +kernel
theorem dL_law_1253 : decode cL_law 1253 = .ok (.ireturn, 1) := by decide +kernel
theorem dL_law_1254 : decode cL_law 1254 = .ok (.goto 1247, 3) := by decide +kernel
theorem dL_law_1257 : decode cL_law 1257 = .ok (.aload_n 1, 1) := by decide +kernel
theorem dL_law_1258 : decode cL_law 1258 = .ok (.invokevirtual 231, 3) := by decide +kernel
theorem dL_law_1261 : decode cL_law 1261 = .ok (.aload_n 2, 1) := by decide +kernel
theorem dL_law_1262 : decode cL_law 1262 = .ok (.invokevirtual 234, 3) := by decide +kernel
theorem dL_law_1265 : decode cL_law 1265 = .ok (.if_icmp .eq 1236, 3) := by decide +kernel
theorem dL_law_1268 : decode cL_law 1268 = .ok (.iconst 0, 1) := by decide +kernel
theorem dL_law_1269 : decode cL_law 1269 = .ok (.ireturn, 1) := by decide +kernel
theorem dL_law_1270 : decode cL_law 1270 = .ok (.aload_n 1, 1) := by decide +kernel
theorem dL_law_1271 : decode cL_law 1271 = .ok (.aload_n 0, 1) := by decide +kernel
theorem dL_law_1272 : decode cL_law 1272 = .ok (.iload 5, 2) := by decide +kernel
theorem dL_law_1274 : decode cL_law 1274 = .ok (.iconst 1, 1) := by decide +kernel
theorem dL_law_1275 : decode cL_law 1275 = .ok (.iadd, 1) := by decide +kernel
theorem dL_law_1276 : decode cL_law 1276 = .ok (.iaload, 1) := by decide +kernel
theorem dL_law_1277 : decode cL_law 1277 = .ok (.aload_n 3, 1) := by decide +kernel
theorem dL_law_1278 : decode cL_law 1278 = .ok (.invokestatic 235, 3) := by decide +kernel
theorem dL_law_1281 : decode cL_law 1281 = .ok (.istore 6, 2) := by decide +kernel
theorem dL_law_1283 : decode cL_law 1283 = .ok (.aload_n 2, 1) := by decide +kernel
theorem dL_law_1284 : decode cL_law 1284 = .ok (.aload_n 0, 1) := by decide +kernel
theorem dL_law_1285 : decode cL_law 1285 = .ok (.iload 5, 2) := by decide +kernel
theorem dL_law_1287 : decode cL_law 1287 = .ok (.iconst 1, 1) := by decide +kernel
theorem dL_law_1288 : decode cL_law 1288 = .ok (.iadd, 1) := by decide +kernel
theorem dL_law_1289 : decode cL_law 1289 = .ok (.iaload, 1) := by decide +kernel
theorem dL_law_1290 : decode cL_law 1290 = .ok (.invokevirtual 237, 3) := by decide +kernel
theorem dL_law_1293 : decode cL_law 1293 = .ok (.istore 7, 2) := by decide +kernel
theorem dL_law_1295 : decode cL_law 1295 = .ok (.aload_n 2, 1) := by decide +kernel
theorem dL_law_1296 : decode cL_law 1296 = .ok (.invokevirtual 144, 3) := by decide +kernel
theorem dL_law_1299 : decode cL_law 1299 = .ok (.iload 6, 2) := by decide +kernel
theorem dL_law_1301 : decode cL_law 1301 = .ok (.if_icmp .eq 5, 3) := by decide +kernel
theorem dL_law_1304 : decode cL_law 1304 = .ok (.iconst 0, 1) := by decide +kernel
theorem dL_law_1305 : decode cL_law 1305 = .ok (.ireturn, 1) := by decide +kernel
theorem dL_law_1306 : decode cL_law 1306 = .ok (.iload 6, 2) := by decide +kernel
theorem dL_law_1308 : decode cL_law 1308 = .ok (.ifCond .ne 15, 3) := by decide +kernel
theorem dL_law_1311 : decode cL_law 1311 = .ok (.aload_n 3, 1) := by decide +kernel
theorem dL_law_1312 : decode cL_law 1312 = .ok (.iconst 0, 1) := by decide +kernel
theorem dL_law_1313 : decode cL_law 1313 = .ok (.laload, 1) := by decide +kernel
theorem dL_law_1314 : decode cL_law 1314 = .ok (.iload 7, 2) := by decide +kernel
theorem dL_law_1316 : decode cL_law 1316 = .ok (.i2l, 1) := by decide +kernel
theorem dL_law_1317 : decode cL_law 1317 = .ok (.lcmp, 1) := by decide +kernel
theorem dL_law_1318 : decode cL_law 1318 = .ok (.ifCond .eq 5, 3) := by decide +kernel
theorem dL_law_1321 : decode cL_law 1321 = .ok (.iconst 0, 1) := by decide +kernel
theorem dL_law_1322 : decode cL_law 1322 = .ok (.ireturn, 1) := by decide +kernel
theorem dL_law_1323 : decode cL_law 1323 = .ok (.goto 1178, 3) := by decide +kernel
theorem dL_law_1326 : decode cL_law 1326 = .ok (.aload_n 1, 1) := by decide +kernel
theorem dL_law_1327 : decode cL_law 1327 = .ok (.invokevirtual 238, 3) := by decide +kernel
theorem dL_law_1330 : decode cL_law 1330 = .ok (.aload_n 2, 1) := by decide +kernel
theorem dL_law_1331 : decode cL_law 1331 = .ok (.invokevirtual 241, 3) := by decide +kernel
theorem dL_law_1334 : decode cL_law 1334 = .ok (.if_icmp .eq 1167, 3) := by decide +kernel
theorem dL_law_1337 : decode cL_law 1337 = .ok (.iconst 0, 1) := by decide +kernel
theorem dL_law_1338 : decode cL_law 1338 = .ok (.ireturn, 1) := by decide +kernel
theorem dL_law_1339 : decode cL_law 1339 = .ok (.aload_n 1, 1) := by decide +kernel
theorem dL_law_1340 : decode cL_law 1340 = .ok (.aload_n 0, 1) := by decide +kernel
theorem dL_law_1341 : decode cL_law 1341 = .ok (.iload 5, 2) := by decide +kernel
theorem dL_law_1343 : decode cL_law 1343 = .ok (.iconst 1, 1) := by decide +kernel
theorem dL_law_1344 : decode cL_law 1344 = .ok (.iadd, 1) := by decide +kernel
theorem dL_law_1345 : decode cL_law 1345 = .ok (.iaload, 1) := by decide +kernel
theorem dL_law_1346 : decode cL_law 1346 = .ok (.aload_n 3, 1) := by decide +kernel
theorem dL_law_1347 : decode cL_law 1347 = .ok (.invokestatic 242, 3) := by decide +kernel
theorem dL_law_1350 : decode cL_law 1350 = .ok (.istore 6, 2) := by decide +kernel
theorem dL_law_1352 : decode cL_law 1352 = .ok (.aload_n 2, 1) := by decide +kernel
theorem dL_law_1353 : decode cL_law 1353 = .ok (.aload_n 0, 1) := by decide +kernel
theorem dL_law_1354 : decode cL_law 1354 = .ok (.iload 5, 2) := by decide +kernel
theorem dL_law_1356 : decode cL_law 1356 = .ok (.iconst 1, 1) := by decide +kernel
theorem dL_law_1357 : decode cL_law 1357 = .ok (.iadd, 1) := by decide +kernel
theorem dL_law_1358 : decode cL_law 1358 = .ok (.iaload, 1) := by decide +kernel
theorem dL_law_1359 : decode cL_law 1359 = .ok (.invokevirtual 244, 3) := by decide +kernel
theorem dL_law_1362 : decode cL_law 1362 = .ok (.istore 7, 2) := by decide +kernel
theorem dL_law_1364 : decode cL_law 1364 = .ok (.aload_n 2, 1) := by decide +kernel
theorem dL_law_1365 : decode cL_law 1365 = .ok (.invokevirtual 144, 3) := by decide +kernel
theorem dL_law_1368 : decode cL_law 1368 = .ok (.iload 6, 2) := by decide +kernel
theorem dL_law_1370 : decode cL_law 1370 = .ok (.if_icmp .eq 5, 3) := by decide +kernel
theorem dL_law_1373 : decode cL_law 1373 = .ok (.iconst 0, 1) := by decide +kernel
theorem dL_law_1374 : decode cL_law 1374 = .ok (.ireturn, 1) := by decide +kernel
theorem dL_law_1375 : decode cL_law 1375 = .ok (.iload 6, 2) := by decide +kernel
theorem dL_law_1377 : decode cL_law 1377 = .ok (.ifCond .ne 15, 3) := by decide +kernel
theorem dL_law_1380 : decode cL_law 1380 = .ok (.aload_n 3, 1) := by decide +kernel
theorem dL_law_1381 : decode cL_law 1381 = .ok (.iconst 0, 1) := by decide +kernel
theorem dL_law_1382 : decode cL_law 1382 = .ok (.laload, 1) := by decide +kernel
theorem dL_law_1383 : decode cL_law 1383 = .ok (.iload 7, 2) := by decide +kernel
theorem dL_law_1385 : decode cL_law 1385 = .ok (.i2l, 1) := by decide +kernel
theorem dL_law_1386 : decode cL_law 1386 = .ok (.lcmp, 1) := by decide +kernel
theorem dL_law_1387 : decode cL_law 1387 = .ok (.ifCond .eq 5, 3) := by decide +kernel
theorem dL_law_1390 : decode cL_law 1390 = .ok (.iconst 0, 1) := by decide +kernel
theorem dL_law_1391 : decode cL_law 1391 = .ok (.ireturn, 1) := by decide +kernel
theorem dL_law_1392 : decode cL_law 1392 = .ok (.goto 1109, 3) := by decide +kernel
theorem dL_law_1395 : decode cL_law 1395 = .ok (.aload_n 1, 1) := by decide +kernel
theorem dL_law_1396 : decode cL_law 1396 = .ok (.aload_n 0, 1) := by decide +kernel
theorem dL_law_1397 : decode cL_law 1397 = .ok (.iload 5, 2) := by decide +kernel
theorem dL_law_1399 : decode cL_law 1399 = .ok (.iconst 1, 1) := by decide +kernel
theorem dL_law_1400 : decode cL_law 1400 = .ok (.iadd, 1) := by decide +kernel
theorem dL_law_1401 : decode cL_law 1401 = .ok (.iaload, 1) := by decide +kernel
theorem dL_law_1402 : decode cL_law 1402 = .ok (.aload_n 0, 1) := by decide +kernel
theorem dL_law_1403 : decode cL_law 1403 = .ok (.iload 5, 2) := by decide +kernel
theorem dL_law_1405 : decode cL_law 1405 = .ok (.iconst 2, 1) := by decide +kernel
theorem dL_law_1406 : decode cL_law 1406 = .ok (.iadd, 1) := by decide +kernel
theorem dL_law_1407 : decode cL_law 1407 = .ok (.iaload, 1) := by decide +kernel
theorem dL_law_1408 : decode cL_law 1408 = .ok (.aload_n 0, 1) := by decide +kernel
theorem dL_law_1409 : decode cL_law 1409 = .ok (.iload 5, 2) := by decide +kernel
