theorem dL_law_1087 : decode zc_L_law 1087 = .ok (.ifCond .eq 5, 3) := by decide +kernel
theorem dL_law_1090 : decode zc_L_law 1090 = .ok (.iconst 0, 1) := by decide +kernel
theorem dL_law_1091 : decode zc_L_law 1091 = .ok (.ireturn, 1) := by decide +kernel
theorem dL_law_1092 : decode zc_L_law 1092 = .ok (.goto 386, 3) := by decide +kernel
theorem dL_law_1095 : decode zc_L_law 1095 = .ok (.aload_n 1, 1) := by decide +kernel
theorem dL_law_1096 : decode zc_L_law 1096 = .ok (.aload_n 0, 1) := by decide +kernel
theorem dL_law_1097 : decode zc_L_law 1097 = .ok (.iload 4, 2) := by decide +kernel
theorem dL_law_1099 : decode zc_L_law 1099 = .ok (.iconst 1, 1) := by decide +kernel
theorem dL_law_1100 : decode zc_L_law 1100 = .ok (.iadd, 1) := by decide +kernel
theorem dL_law_1101 : decode zc_L_law 1101 = .ok (.iaload, 1) := by decide +kernel
theorem dL_law_1102 : decode zc_L_law 1102 = .ok (.aload_n 3, 1) := by decide +kernel
theorem dL_law_1103 : decode zc_L_law 1103 = .ok (.invokestatic 140, 3) := by decide +kernel
theorem dL_law_1106 : decode zc_L_law 1106 = .ok (.istore 5, 2) := by decide +kernel
theorem dL_law_1108 : decode zc_L_law 1108 = .ok (.aload_n 2, 1) := by decide +kernel
theorem dL_law_1109 : decode zc_L_law 1109 = .ok (.aload_n 0, 1) := by decide +kernel
theorem dL_law_1110 : decode zc_L_law 1110 = .ok (.iload 4, 2) := by decide +kernel
theorem dL_law_1112 : decode zc_L_law 1112 = .ok (.iconst 1, 1) := by decide +kernel
theorem dL_law_1113 : decode zc_L_law 1113 = .ok (.iadd, 1) := by decide +kernel
theorem dL_law_1114 : decode zc_L_law 1114 = .ok (.iaload, 1) := by decide +kernel
theorem dL_law_1115 : decode zc_L_law 1115 = .ok (.invokevirtual 142, 3) := by decide +kernel
theorem dL_law_1118 : decode zc_L_law 1118 = .ok (.istore 6, 2) := by decide +kernel
theorem dL_law_1120 : decode zc_L_law 1120 = .ok (.aload_n 2, 1) := by decide +kernel
theorem dL_law_1121 : decode zc_L_law 1121 = .ok (.invokevirtual 92, 3) := by decide +kernel
theorem dL_law_1124 : decode zc_L_law 1124 = .ok (.iload 5, 2) := by decide +kernel
theorem dL_law_1126 : decode zc_L_law 1126 = .ok (.if_icmp .eq 5, 3) := by decide +kernel
theorem dL_law_1129 : decode zc_L_law 1129 = .ok (.iconst 0, 1) := by decide +kernel
theorem dL_law_1130 : decode zc_L_law 1130 = .ok (.ireturn, 1) := by decide +kernel
theorem dL_law_1131 : decode zc_L_law 1131 = .ok (.iload 5, 2) := by decide +kernel
theorem dL_law_1133 : decode zc_L_law 1133 = .ok (.ifCond .ne 15, 3) := by decide +kernel
theorem dL_law_1136 : decode zc_L_law 1136 = .ok (.aload_n 3, 1) := by decide +kernel
theorem dL_law_1137 : decode zc_L_law 1137 = .ok (.iconst 0, 1) := by decide +kernel
theorem dL_law_1138 : decode zc_L_law 1138 = .ok (.laload, 1) := by decide +kernel
theorem dL_law_1139 : decode zc_L_law 1139 = .ok (.iload 6, 2) := by decide +kernel
theorem dL_law_1141 : decode zc_L_law 1141 = .ok (.i2l, 1) := by decide +kernel
theorem dL_law_1142 : decode zc_L_law 1142 = .ok (.lcmp, 1) := by decide +kernel
theorem dL_law_1143 : decode zc_L_law 1143 = .ok (.ifCond .eq 5, 3) := by decide +kernel
theorem dL_law_1146 : decode zc_L_law 1146 = .ok (.iconst 0, 1) := by decide +kernel
theorem dL_law_1147 : decode zc_L_law 1147 = .ok (.ireturn, 1) := by decide +kernel
theorem dL_law_1148 : decode zc_L_law 1148 = .ok (.goto 330, 3) := by decide +kernel
theorem dL_law_1151 : decode zc_L_law 1151 = .ok (.aload_n 1, 1) := by decide +kernel
theorem dL_law_1152 : decode zc_L_law 1152 = .ok (.aload_n 0, 1) := by decide +kernel
theorem dL_law_1153 : decode zc_L_law 1153 = .ok (.iload 4, 2) := by decide +kernel
theorem dL_law_1155 : decode zc_L_law 1155 = .ok (.iconst 1, 1) := by decide +kernel
theorem dL_law_1156 : decode zc_L_law 1156 = .ok (.iadd, 1) := by decide +kernel
theorem dL_law_1157 : decode zc_L_law 1157 = .ok (.iaload, 1) := by decide +kernel
theorem dL_law_1158 : decode zc_L_law 1158 = .ok (.aload_n 0, 1) := by decide +kernel
theorem dL_law_1159 : decode zc_L_law 1159 = .ok (.iload 4, 2) := by decide +kernel
theorem dL_law_1161 : decode zc_L_law 1161 = .ok (.iconst 2, 1) := by decide +kernel
theorem dL_law_1162 : decode zc_L_law 1162 = .ok (.iadd, 1) := by decide +kernel
theorem dL_law_1163 : decode zc_L_law 1163 = .ok (.iaload, 1) := by decide +kernel
theorem dL_law_1164 : decode zc_L_law 1164 = .ok (.aload_n 0, 1) := by decide +kernel
theorem dL_law_1165 : decode zc_L_law 1165 = .ok (.iload 4, 2) := by decide +kernel
theorem dL_law_1167 : decode zc_L_law 1167 = .ok (.iconst 3, 1) := by decide +kernel
theorem dL_law_1168 : decode zc_L_law 1168 = .ok (.iadd, 1) := by decide +kernel
theorem dL_law_1169 : decode zc_L_law 1169 = .ok (.iaload, 1) := by decide +kernel
theorem dL_law_1170 : decode zc_L_law 1170 = .ok (.aload_n 3, 1) := by decide +kernel
theorem dL_law_1171 : decode zc_L_law 1171 = .ok (.invokestatic 143, 3) := by decide +kernel
theorem dL_law_1174 : decode zc_L_law 1174 = .ok (.istore 5, 2) := by decide +kernel
theorem dL_law_1176 : decode zc_L_law 1176 = .ok (.aload_n 2, 1) := by decide +kernel
theorem dL_law_1177 : decode zc_L_law 1177 = .ok (.aload_n 0, 1) := by decide +kernel
theorem dL_law_1178 : decode zc_L_law 1178 = .ok (.iload 4, 2) := by decide +kernel
theorem dL_law_1180 : decode zc_L_law 1180 = .ok (.iconst 1, 1) := by decide +kernel
theorem dL_law_1181 : decode zc_L_law 1181 = .ok (.iadd, 1) := by decide +kernel
theorem dL_law_1182 : decode zc_L_law 1182 = .ok (.iaload, 1) := by decide +kernel
theorem dL_law_1183 : decode zc_L_law 1183 = .ok (.aload_n 0, 1) := by decide +kernel
theorem dL_law_1184 : decode zc_L_law 1184 = .ok (.iload 4, 2) := by decide +kernel
theorem dL_law_1186 : decode zc_L_law 1186 = .ok (.iconst 2, 1) := by decide +kernel
theorem dL_law_1187 : decode zc_L_law 1187 = .ok (.iadd, 1) := by decide +kernel
theorem dL_law_1188 : decode zc_L_law 1188 = .ok (.iaload, 1) := by decide +kernel
theorem dL_law_1189 : decode zc_L_law 1189 = .ok (.aload_n 0, 1) := by decide +kernel
theorem dL_law_1190 : decode zc_L_law 1190 = .ok (.iload 4, 2) := by decide +kernel
theorem dL_law_1192 : decode zc_L_law 1192 = .ok (.iconst 3, 1) := by decide +kernel
theorem dL_law_1193 : decode zc_L_law 1193 = .ok (.iadd, 1) := by decide +kernel
theorem dL_law_1194 : decode zc_L_law 1194 = .ok (.iaload, 1) := by decide +kernel
theorem dL_law_1195 : decode zc_L_law 1195 = .ok (.invokevirtual 145, 3) := by decide +kernel
theorem dL_law_1198 : decode zc_L_law 1198 = .ok (.istore 6, 2) := by decide +kernel
theorem dL_law_1200 : decode zc_L_law 1200 = .ok (.aload_n 2, 1) := by decide +kernel
theorem dL_law_1201 : decode zc_L_law 1201 = .ok (.invokevirtual 92, 3) := by decide +kernel
theorem dL_law_1204 : decode zc_L_law 1204 = .ok (.iload 5, 2) := by decide +kernel
theorem dL_law_1206 : decode zc_L_law 1206 = .ok (.if_icmp .eq 5, 3) := by decide +kernel
theorem dL_law_1209 : decode zc_L_law 1209 = .ok (.iconst 0, 1) := by decide +kernel
theorem dL_law_1210 : decode zc_L_law 1210 = .ok (.ireturn, 1) := by decide +kernel
theorem dL_law_1211 : decode zc_L_law 1211 = .ok (.iload 5, 2) := by decide +kernel
theorem dL_law_1213 : decode zc_L_law 1213 = .ok (.ifCond .ne 15, 3) := by decide +kernel
theorem dL_law_1216 : decode zc_L_law 1216 = .ok (.aload_n 3, 1) := by decide +kernel
theorem dL_law_1217 : decode zc_L_law 1217 = .ok (.iconst 0, 1) := by decide +kernel
theorem dL_law_1218 : decode zc_L_law 1218 = .ok (.laload, 1) := by decide +kernel
theorem dL_law_1219 : decode zc_L_law 1219 = .ok (.iload 6, 2) := by decide +kernel
theorem dL_law_1221 : decode zc_L_law 1221 = .ok (.i2l, 1) := by decide +kernel
theorem dL_law_1222 : decode zc_L_law 1222 = .ok (.lcmp, 1) := by decide +kernel
theorem dL_law_1223 : decode zc_L_law 1223 = .ok (.ifCond .eq 5, 3) := by decide +kernel
theorem dL_law_1226 : decode zc_L_law 1226 = .ok (.iconst 0, 1) := by decide +kernel
theorem dL_law_1227 : decode zc_L_law 1227 = .ok (.ireturn, 1) := by decide +kernel
theorem dL_law_1228 : decode zc_L_law 1228 = .ok (.goto 250, 3) := by decide +kernel
theorem dL_law_1231 : decode zc_L_law 1231 = .ok (.aload_n 1, 1) := by decide +kernel
theorem dL_law_1232 : decode zc_L_law 1232 = .ok (.aload_n 0, 1) := by decide +kernel
theorem dL_law_1233 : decode zc_L_law 1233 = .ok (.iload 4, 2) := by decide +kernel
theorem dL_law_1235 : decode zc_L_law 1235 = .ok (.iconst 1, 1) := by decide +kernel
theorem dL_law_1236 : decode zc_L_law 1236 = .ok (.iadd, 1) := by decide +kernel
theorem dL_law_1237 : decode zc_L_law 1237 = .ok (.iaload, 1) := by decide +kernel
theorem dL_law_1238 : decode zc_L_law 1238 = .ok (.aload_n 0, 1) := by decide +kernel
theorem dL_law_1239 : decode zc_L_law 1239 = .ok (.iload 4, 2) := by decide +kernel
theorem dL_law_1241 : decode zc_L_law 1241 = .ok (.iconst 2, 1) := by decide +kernel
theorem dL_law_1242 : decode zc_L_law 1242 = .ok (.iadd, 1) := by decide +kernel
theorem dL_law_1243 : decode zc_L_law 1243 = .ok (.iaload, 1) := by decide +kernel
theorem dL_law_1244 : decode zc_L_law 1244 = .ok (.aload_n 3, 1) := by decide +kernel
theorem dL_law_1245 : decode zc_L_law 1245 = .ok (.invokestatic 146, 3) := by decide +kernel
theorem dL_law_1248 : decode zc_L_law 1248 = .ok (.istore 5, 2) := by decide +kernel
theorem dL_law_1250 : decode zc_L_law 1250 = .ok (.aload_n 2, 1) := by decide +kernel
theorem dL_law_1251 : decode zc_L_law 1251 = .ok (.aload_n 0, 1) := by decide +kernel
theorem dL_law_1252 : decode zc_L_law 1252 = .ok (.iload 4, 2) := by decide +kernel
theorem dL_law_1254 : decode zc_L_law 1254 = .ok (.iconst 1, 1) := by decide +kernel
theorem dL_law_1255 : decode zc_L_law 1255 = .ok (.iadd, 1) := by decide +kernel
theorem dL_law_1256 : decode zc_L_law 1256 = .ok (.iaload, 1) := by decide +kernel
theorem dL_law_1257 : decode zc_L_law 1257 = .ok (.aload_n 0, 1) := by decide +kernel
theorem dL_law_1258 : decode zc_L_law 1258 = .ok (.iload 4, 2) := by decide +kernel
theorem dL_law_1260 : decode zc_L_law 1260 = .ok (.iconst 2, 1) := by decide +kernel
theorem dL_law_1261 : decode zc_L_law 1261 = .ok (.iadd, 1) := by decide +kernel
theorem dL_law_1262 : decode zc_L_law 1262 = .ok (.iaload, 1) := by decide +kernel
theorem dL_law_1263 : decode zc_L_law 1263 = .ok (.invokevirtual 148, 3) := by decide +kernel
theorem dL_law_1266 : decode zc_L_law 1266 = .ok (.istore 6, 2) := by decide +kernel
theorem dL_law_1268 : decode zc_L_law 1268 = .ok (.aload_n 2, 1) := by decide +kernel
theorem dL_law_1269 : decode zc_L_law 1269 = .ok (.invokevirtual 92, 3) := by decide +kernel
theorem dL_law_1272 : decode zc_L_law 1272 = .ok (.iload 5, 2) := by decide +kernel
theorem dL_law_1274 : decode zc_L_law 1274 = .ok (.if_icmp .eq 5, 3) := by decide +kernel
theorem dL_law_1277 : decode zc_L_law 1277 = .ok (.iconst 0, 1) := by decide +kernel
theorem dL_law_1278 : decode zc_L_law 1278 = .ok (.ireturn, 1) := by decide +kernel
theorem dL_law_1279 : decode zc_L_law 1279 = .ok (.iload 5, 2) := by decide +kernel
theorem dL_law_1281 : decode zc_L_law 1281 = .ok (.ifCond .ne 15, 3) := by decide +kernel
theorem dL_law_1284 : decode zc_L_law 1284 = .ok (.aload_n 3, 1) := by decide +kernel
theorem dL_law_1285 : decode zc_L_law 1285 = .ok (.iconst 0, 1) := by decide +kernel
theorem dL_law_1286 : decode zc_L_law 1286 = .ok (.laload, 1) := by decide +kernel
theorem dL_law_1287 : decode zc_L_law 1287 = .ok (.iload 6, 2) := by decide +kernel
theorem dL_law_1289 : decode zc_L_law 1289 = .ok (.i2l, 1) := by decide +kernel
theorem dL_law_1290 : decode zc_L_law 1290 = .ok (.lcmp, 1) := by decide +kernel
theorem dL_law_1291 : decode zc_L_law 1291 = .ok (.ifCond .eq 5, 3) := by decide +kernel
theorem dL_law_1294 : decode zc_L_law 1294 = .ok (.iconst 0, 1) := by decide +kernel
theorem dL_law_1295 : decode zc_L_law 1295 = .ok (.ireturn, 1) := by decide +kernel
theorem dL_law_1296 : decode zc_L_law 1296 = .ok (.goto 182, 3) := by decide +kernel
theorem dL_law_1299 : decode zc_L_law 1299 = .ok (.aload_n 1, 1) := by decide +kernel
theorem dL_law_1300 : decode zc_L_law 1300 = .ok (.aload_n 0, 1) := by decide +kernel
theorem dL_law_1301 : decode zc_L_law 1301 = .ok (.iload 4, 2) := by decide +kernel
theorem dL_law_1303 : decode zc_L_law 1303 = .ok (.iconst 1, 1) := by decide +kernel
theorem dL_law_1304 : decode zc_L_law 1304 = .ok (.iadd, 1) := by decide +kernel
theorem dL_law_1305 : decode zc_L_law 1305 = .ok (.iaload, 1) := by decide +kernel
theorem dL_law_1306 : decode zc_L_law 1306 = .ok (.aload_n 0, 1) := by decide +kernel
theorem dL_law_1307 : decode zc_L_law 1307 = .ok (.iload 4, 2) := by decide +kernel
theorem dL_law_1309 : decode zc_L_law 1309 = .ok (.iconst 2, 1) := by decide +kernel
theorem dL_law_1310 : decode zc_L_law 1310 = .ok (.iadd, 1) := by decide +kernel
theorem dL_law_1311 : decode zc_L_law 1311 = .ok (.iaload, 1) := by decide +kernel
theorem dL_law_1312 : decode zc_L_law 1312 = .ok (.aload_n 3, 1) := by decide +kernel
theorem dL_law_1313 : decode zc_L_law 1313 = .ok (.invokestatic 149, 3) := by decide +kernel
theorem dL_law_1316 : decode zc_L_law 1316 = .ok (.istore 5, 2) := by decide +kernel
theorem dL_law_1318 : decode zc_L_law 1318 = .ok (.aload_n 2, 1) := by decide +kernel
theorem dL_law_1319 : decode zc_L_law 1319 = .ok (.aload_n 0, 1) := by decide +kernel
theorem dL_law_1320 : decode zc_L_law 1320 = .ok (.iload 4, 2) := by decide +kernel
theorem dL_law_1322 : decode zc_L_law 1322 = .ok (.iconst 1, 1) := by decide +kernel
theorem dL_law_1323 : decode zc_L_law 1323 = .ok (.iadd, 1) := by decide +kernel
theorem dL_law_1324 : decode zc_L_law 1324 = .ok (.iaload, 1) := by decide +kernel
theorem dL_law_1325 : decode zc_L_law 1325 = .ok (.aload_n 0, 1) := by decide +kernel
theorem dL_law_1326 : decode zc_L_law 1326 = .ok (.iload 4, 2) := by decide +kernel
theorem dL_law_1328 : decode zc_L_law 1328 = .ok (.iconst 2, 1) := by decide +kernel
theorem dL_law_1329 : decode zc_L_law 1329 = .ok (.iadd, 1) := by decide +kernel
theorem dL_law_1330 : decode zc_L_law 1330 = .ok (.iaload, 1) := by decide +kernel
theorem dL_law_1331 : decode zc_L_law 1331 = .ok (.invokevirtual 151, 3) := by decide +kernel
theorem dL_law_1334 : decode zc_L_law 1334 = .ok (.istore 6, 2) := by decide +kernel
theorem dL_law_1336 : decode zc_L_law 1336 = .ok (.aload_n 2, 1) := by decide +kernel
theorem dL_law_1337 : decode zc_L_law 1337 = .ok (.invokevirtual 92, 3) := by decide +kernel
theorem dL_law_1340 : decode zc_L_law 1340 = .ok (.iload 5, 2) := by decide +kernel
theorem dL_law_1342 : decode zc_L_law 1342 = .ok (.if_icmp .eq 5, 3) := by decide +kernel
theorem dL_law_1345 : decode zc_L_law 1345 = .ok (.iconst 0, 1) := by decide +kernel
theorem dL_law_1346 : decode zc_L_law 1346 = .ok (.ireturn, 1) := by decide +kernel
theorem dL_law_1347 : decode zc_L_law 1347 = .ok (.iload 5, 2) := by decide +kernel
theorem dL_law_1349 : decode zc_L_law 1349 = .ok (.ifCond .ne 15, 3) := by decide +kernel
theorem dL_law_1352 : decode zc_L_law 1352 = .ok (.aload_n 3, 1) := by decide +kernel
theorem dL_law_1353 : decode zc_L_law 1353 = .ok (.iconst 0, 1) := by decide +kernel
theorem dL_law_1354 : decode zc_L_law 1354 = .ok (.laload, 1) := by decide +kernel
theorem dL_law_1355 : decode zc_L_law 1355 = .ok (.iload 6, 2) := by decide +kernel
theorem dL_law_1357 : decode zc_L_law 1357 = .ok (.i2l, 1) := by decide +kernel
theorem dL_law_1358 : decode zc_L_law 1358 = .ok (.lcmp, 1) := by decide +kernel
theorem dL_law_1359 : decode zc_L_law 1359 = .ok (.ifCond .eq 5, 3) := by decide +kernel
theorem dL_law_1362 : decode zc_L_law 1362 = .ok (.iconst 0, 1) := by decide +kernel
theorem dL_law_1363 : decode zc_L_law 1363 = .ok (.ireturn, 1) := by decide +kernel
theorem dL_law_1364 : decode zc_L_law 1364 = .ok (.goto 114, 3) := by decide +kernel
theorem dL_law_1367 : decode zc_L_law 1367 = .ok (.aload_n 1, 1) := by decide +kernel
theorem dL_law_1368 : decode zc_L_law 1368 = .ok (.aload_n 0, 1) := by decide +kernel
theorem dL_law_1369 : decode zc_L_law 1369 = .ok (.iload 4, 2) := by decide +kernel
theorem dL_law_1371 : decode zc_L_law 1371 = .ok (.iconst 1, 1) := by decide +kernel
theorem dL_law_1372 : decode zc_L_law 1372 = .ok (.iadd, 1) := by decide +kernel
theorem dL_law_1373 : decode zc_L_law 1373 = .ok (.iaload, 1) := by decide +kernel
theorem dL_law_1374 : decode zc_L_law 1374 = .ok (.aload_n 3, 1) := by decide +kernel
theorem dL_law_1375 : decode zc_L_law 1375 = .ok (.invokestatic 152, 3) := by decide +kernel
theorem dL_law_1378 : decode zc_L_law 1378 = .ok (.istore 5, 2) := by decide +kernel
theorem dL_law_1380 : decode zc_L_law 1380 = .ok (.aload_n 2, 1) := by decide +kernel
theorem dL_law_1381 : decode zc_L_law 1381 = .ok (.aload_n 0, 1) := by decide +kernel
theorem dL_law_1382 : decode zc_L_law 1382 = .ok (.iload 4, 2) := by decide +kernel
theorem dL_law_1384 : decode zc_L_law 1384 = .ok (.iconst 1, 1) := by decide +kernel
theorem dL_law_1385 : decode zc_L_law 1385 = .ok (.iadd, 1) := by decide +kernel
theorem dL_law_1386 : decode zc_L_law 1386 = .ok (.iaload, 1) := by decide +kernel
theorem dL_law_1387 : decode zc_L_law 1387 = .ok (.invokevirtual 154, 3) := by decide +kernel
theorem dL_law_1390 : decode zc_L_law 1390 = .ok (.istore 6, 2) := by decide +kernel
theorem dL_law_1392 : decode zc_L_law 1392 = .ok (.aload_n 2, 1) := by decide +kernel
theorem dL_law_1393 : decode zc_L_law 1393 = .ok (.invokevirtual 92, 3) := by decide +kernel
theorem dL_law_1396 : decode zc_L_law 1396 = .ok (.iload 5, 2) := by decide +kernel
theorem dL_law_1398 : decode zc_L_law 1398 = .ok (.if_icmp .eq 5, 3) := by decide +kernel
theorem dL_law_1401 : decode zc_L_law 1401 = .ok (.iconst 0, 1) := by decide +kernel
theorem dL_law_1402 : decode zc_L_law 1402 = .ok (.ireturn, 1) := by decide +kernel
theorem dL_law_1403 : decode zc_L_law 1403 = .ok (.iload 5, 2) := by decide +kernel
theorem dL_law_1405 : decode zc_L_law 1405 = .ok (.ifCond .ne 15, 3) := by decide +kernel
theorem dL_law_1408 : decode zc_L_law 1408 = .ok (.aload_n 3, 1) := by decide +kernel
theorem dL_law_1409 : decode zc_L_law 1409 = .ok (.iconst 0, 1) := by decide +kernel
theorem dL_law_1410 : decode zc_L_law 1410 = .ok (.laload, 1) := by decide +kernel
theorem dL_law_1411 : decode zc_L_law 1411 = .ok (.iload 6, 2) := by decide +kernel
theorem dL_law_1413 : decode zc_L_law 1413 = .ok (.i2l, 1) := by decide +kernel
theorem dL_law_1414 : decode zc_L_law 1414 = .ok (.lcmp, 1) := by decide +kernel
theorem dL_law_1415 : decode zc_L_law 1415 = .ok (.ifCond .eq 5, 3) := by decide +kernel
theorem dL_law_1418 : decode zc_L_law 1418 = .ok (.iconst 0, 1) := by decide +kernel
theorem dL_law_1419 : decode zc_L_law 1419 = .ok (.ireturn, 1) := by decide +kernel
theorem dL_law_1420 : decode zc_L_law 1420 = .ok (.goto 58, 3) := by decide +kernel
theorem dL_law_1423 : decode zc_L_law 1423 = .ok (.aload_n 1, 1) := by decide +kernel
theorem dL_law_1424 : decode zc_L_law 1424 = .ok (.aload_n 0, 1) := by decide +kernel
theorem dL_law_1425 : decode zc_L_law 1425 = .ok (.iload 4, 2) := by decide +kernel
theorem dL_law_1427 : decode zc_L_law 1427 = .ok (.iconst 1, 1) := by decide +kernel
theorem dL_law_1428 : decode zc_L_law 1428 = .ok (.iadd, 1) := by decide +kernel
theorem dL_law_1429 : decode zc_L_law 1429 = .ok (.iaload, 1) := by decide +kernel
theorem dL_law_1430 : decode zc_L_law 1430 = .ok (.aload_n 3, 1) := by decide +kernel
theorem dL_law_1431 : decode zc_L_law 1431 = .ok (.invokestatic 155, 3) := by decide +kernel
theorem dL_law_1434 : decode zc_L_law 1434 = .ok (.istore 5, 2) := by decide +kernel
theorem dL_law_1436 : decode zc_L_law 1436 = .ok (.aload_n 2, 1) := by decide +kernel
theorem dL_law_1437 : decode zc_L_law 1437 = .ok (.aload_n 0, 1) := by decide +kernel
theorem dL_law_1438 : decode zc_L_law 1438 = .ok (.iload 4, 2) := by decide +kernel
theorem dL_law_1440 : decode zc_L_law 1440 = .ok (.iconst 1, 1) := by decide +kernel
theorem dL_law_1441 : decode zc_L_law 1441 = .ok (.iadd, 1) := by decide +kernel
theorem dL_law_1442 : decode zc_L_law 1442 = .ok (.iaload, 1) := by decide +kernel
theorem dL_law_1443 : decode zc_L_law 1443 = .ok (.invokevirtual 157, 3) := by decide +kernel
theorem dL_law_1446 : decode zc_L_law 1446 = .ok (.lstore 6, 2) := by decide +kernel
theorem dL_law_1448 : decode zc_L_law 1448 = .ok (.aload_n 2, 1) := by decide +kernel
theorem dL_law_1449 : decode zc_L_law 1449 = .ok (.invokevirtual 92, 3) := by decide +kernel
theorem dL_law_1452 : decode zc_L_law 1452 = .ok (.iload 5, 2) := by decide +kernel
theorem dL_law_1454 : decode zc_L_law 1454 = .ok (.if_icmp .eq 5, 3) := by decide +kernel
theorem dL_law_1457 : decode zc_L_law 1457 = .ok (.iconst 0, 1) := by decide +kernel
theorem dL_law_1458 : decode zc_L_law 1458 = .ok (.ireturn, 1) := by decide +kernel
theorem dL_law_1459 : decode zc_L_law 1459 = .ok (.iload 5, 2) := by decide +kernel
theorem dL_law_1461 : decode zc_L_law 1461 = .ok (.ifCond .ne 14, 3) := by decide +kernel
theorem dL_law_1464 : decode zc_L_law 1464 = .ok (.aload_n 3, 1) := by decide +kernel
theorem dL_law_1465 : decode zc_L_law 1465 = .ok (.iconst 0, 1) := by decide +kernel
theorem dL_law_1466 : decode zc_L_law 1466 = .ok (.laload, 1) := by decide +kernel
theorem dL_law_1467 : decode zc_L_law 1467 = .ok (.lload 6, 2) := by decide +kernel
theorem dL_law_1469 : decode zc_L_law 1469 = .ok (.lcmp, 1) := by decide +kernel
theorem dL_law_1470 : decode zc_L_law 1470 = .ok (.ifCond .eq 5, 3) := by decide +kernel
theorem dL_law_1473 : decode zc_L_law 1473 = .ok (.iconst 0, 1) := by decide +kernel
theorem dL_law_1474 : decode zc_L_law 1474 = .ok (.ireturn, 1) := by decide +kernel
theorem dL_law_1475 : decode zc_L_law 1475 = .ok (.goto 3, 3) := by decide +kernel
theorem dL_law_1478 : decode zc_L_law 1478 = .ok (.iinc 4 6, 3) := by decide +kernel
theorem dL_law_1481 : decode zc_L_law 1481 = .ok (.goto (-1458), 3) := by decide +kernel
theorem dL_law_1484 : decode zc_L_law 1484 = .ok (.iconst 1, 1) := by decide +kernel
theorem dL_law_1485 : decode zc_L_law 1485 = .ok (.ireturn, 1) := by decide +kernel
