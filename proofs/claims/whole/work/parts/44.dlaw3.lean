/-! The law's instructions (3). -/
theorem d_L_law_1117 : decode code 1117 = .ok (.lor, 1) := by decide +kernel
theorem d_L_law_1118 : decode code 1118 = .ok (.aload_n 3, 1) := by decide +kernel
theorem d_L_law_1119 : decode code 1119 = .ok (.invokestatic 131, 3) := by decide +kernel
theorem d_L_law_1122 : decode code 1122 = .ok (.istore 5, 2) := by decide +kernel
theorem d_L_law_1124 : decode code 1124 = .ok (.aload_n 2, 1) := by decide +kernel
theorem d_L_law_1125 : decode code 1125 = .ok (.aload_n 0, 1) := by decide +kernel
theorem d_L_law_1126 : decode code 1126 = .ok (.iload 4, 2) := by decide +kernel
theorem d_L_law_1128 : decode code 1128 = .ok (.iconst 1, 1) := by decide +kernel
theorem d_L_law_1129 : decode code 1129 = .ok (.iadd, 1) := by decide +kernel
theorem d_L_law_1130 : decode code 1130 = .ok (.iaload, 1) := by decide +kernel
theorem d_L_law_1131 : decode code 1131 = .ok (.aload_n 0, 1) := by decide +kernel
theorem d_L_law_1132 : decode code 1132 = .ok (.iload 4, 2) := by decide +kernel
theorem d_L_law_1134 : decode code 1134 = .ok (.iconst 2, 1) := by decide +kernel
theorem d_L_law_1135 : decode code 1135 = .ok (.iadd, 1) := by decide +kernel
theorem d_L_law_1136 : decode code 1136 = .ok (.iaload, 1) := by decide +kernel
theorem d_L_law_1137 : decode code 1137 = .ok (.i2l, 1) := by decide +kernel
theorem d_L_law_1138 : decode code 1138 = .ok (.bipush 32, 2) := by decide +kernel
theorem d_L_law_1140 : decode code 1140 = .ok (.lshl, 1) := by decide +kernel
theorem d_L_law_1141 : decode code 1141 = .ok (.aload_n 0, 1) := by decide +kernel
theorem d_L_law_1142 : decode code 1142 = .ok (.iload 4, 2) := by decide +kernel
theorem d_L_law_1144 : decode code 1144 = .ok (.iconst 3, 1) := by decide +kernel
theorem d_L_law_1145 : decode code 1145 = .ok (.iadd, 1) := by decide +kernel
theorem d_L_law_1146 : decode code 1146 = .ok (.iaload, 1) := by decide +kernel
theorem d_L_law_1147 : decode code 1147 = .ok (.i2l, 1) := by decide +kernel
theorem d_L_law_1148 : decode code 1148 = .ok (.ldc2_w 99, 3) := by decide +kernel
theorem d_L_law_1151 : decode code 1151 = .ok (.land, 1) := by decide +kernel
theorem d_L_law_1152 : decode code 1152 = .ok (.lor, 1) := by decide +kernel
theorem d_L_law_1153 : decode code 1153 = .ok (.invokevirtual 134, 3) := by decide +kernel
theorem d_L_law_1156 : decode code 1156 = .ok (.istore 6, 2) := by decide +kernel
theorem d_L_law_1158 : decode code 1158 = .ok (.aload_n 2, 1) := by decide +kernel
theorem d_L_law_1159 : decode code 1159 = .ok (.invokevirtual 91, 3) := by decide +kernel
theorem d_L_law_1162 : decode code 1162 = .ok (.iload 5, 2) := by decide +kernel
theorem d_L_law_1164 : decode code 1164 = .ok (.if_icmp .eq 5, 3) := by decide +kernel
theorem d_L_law_1167 : decode code 1167 = .ok (.iconst 0, 1) := by decide +kernel
theorem d_L_law_1168 : decode code 1168 = .ok (.ireturn, 1) := by decide +kernel
theorem d_L_law_1169 : decode code 1169 = .ok (.iload 5, 2) := by decide +kernel
theorem d_L_law_1171 : decode code 1171 = .ok (.ifCond .ne 22, 3) := by decide +kernel
theorem d_L_law_1174 : decode code 1174 = .ok (.aload_n 3, 1) := by decide +kernel
theorem d_L_law_1175 : decode code 1175 = .ok (.iconst 0, 1) := by decide +kernel
theorem d_L_law_1176 : decode code 1176 = .ok (.laload, 1) := by decide +kernel
theorem d_L_law_1177 : decode code 1177 = .ok (.iload 6, 2) := by decide +kernel
theorem d_L_law_1179 : decode code 1179 = .ok (.ifCond .eq 7, 3) := by decide +kernel
theorem d_L_law_1182 : decode code 1182 = .ok (.lconst 1, 1) := by decide +kernel
theorem d_L_law_1183 : decode code 1183 = .ok (.goto 4, 3) := by decide +kernel
theorem d_L_law_1186 : decode code 1186 = .ok (.lconst 0, 1) := by decide +kernel
theorem d_L_law_1187 : decode code 1187 = .ok (.lcmp, 1) := by decide +kernel
theorem d_L_law_1188 : decode code 1188 = .ok (.ifCond .eq 5, 3) := by decide +kernel
theorem d_L_law_1191 : decode code 1191 = .ok (.iconst 0, 1) := by decide +kernel
theorem d_L_law_1192 : decode code 1192 = .ok (.ireturn, 1) := by decide +kernel
theorem d_L_law_1193 : decode code 1193 = .ok (.goto 927, 3) := by decide +kernel
theorem d_L_law_1196 : decode code 1196 = .ok (.aload_n 1, 1) := by decide +kernel
theorem d_L_law_1197 : decode code 1197 = .ok (.aload_n 0, 1) := by decide +kernel
theorem d_L_law_1198 : decode code 1198 = .ok (.iload 4, 2) := by decide +kernel
theorem d_L_law_1200 : decode code 1200 = .ok (.iconst 1, 1) := by decide +kernel
theorem d_L_law_1201 : decode code 1201 = .ok (.iadd, 1) := by decide +kernel
theorem d_L_law_1202 : decode code 1202 = .ok (.iaload, 1) := by decide +kernel
theorem d_L_law_1203 : decode code 1203 = .ok (.aload_n 0, 1) := by decide +kernel
theorem d_L_law_1204 : decode code 1204 = .ok (.iload 4, 2) := by decide +kernel
theorem d_L_law_1206 : decode code 1206 = .ok (.iconst 2, 1) := by decide +kernel
theorem d_L_law_1207 : decode code 1207 = .ok (.iadd, 1) := by decide +kernel
theorem d_L_law_1208 : decode code 1208 = .ok (.iaload, 1) := by decide +kernel
theorem d_L_law_1209 : decode code 1209 = .ok (.aload_n 3, 1) := by decide +kernel
theorem d_L_law_1210 : decode code 1210 = .ok (.invokestatic 135, 3) := by decide +kernel
theorem d_L_law_1213 : decode code 1213 = .ok (.istore 5, 2) := by decide +kernel
theorem d_L_law_1215 : decode code 1215 = .ok (.aload_n 2, 1) := by decide +kernel
theorem d_L_law_1216 : decode code 1216 = .ok (.aload_n 0, 1) := by decide +kernel
theorem d_L_law_1217 : decode code 1217 = .ok (.iload 4, 2) := by decide +kernel
theorem d_L_law_1219 : decode code 1219 = .ok (.iconst 1, 1) := by decide +kernel
theorem d_L_law_1220 : decode code 1220 = .ok (.iadd, 1) := by decide +kernel
theorem d_L_law_1221 : decode code 1221 = .ok (.iaload, 1) := by decide +kernel
theorem d_L_law_1222 : decode code 1222 = .ok (.aload_n 0, 1) := by decide +kernel
theorem d_L_law_1223 : decode code 1223 = .ok (.iload 4, 2) := by decide +kernel
theorem d_L_law_1225 : decode code 1225 = .ok (.iconst 2, 1) := by decide +kernel
theorem d_L_law_1226 : decode code 1226 = .ok (.iadd, 1) := by decide +kernel
theorem d_L_law_1227 : decode code 1227 = .ok (.iaload, 1) := by decide +kernel
theorem d_L_law_1228 : decode code 1228 = .ok (.invokevirtual 137, 3) := by decide +kernel
theorem d_L_law_1231 : decode code 1231 = .ok (.istore 6, 2) := by decide +kernel
theorem d_L_law_1233 : decode code 1233 = .ok (.aload_n 2, 1) := by decide +kernel
theorem d_L_law_1234 : decode code 1234 = .ok (.invokevirtual 91, 3) := by decide +kernel
theorem d_L_law_1237 : decode code 1237 = .ok (.iload 5, 2) := by decide +kernel
theorem d_L_law_1239 : decode code 1239 = .ok (.if_icmp .eq 5, 3) := by decide +kernel
theorem d_L_law_1242 : decode code 1242 = .ok (.iconst 0, 1) := by decide +kernel
theorem d_L_law_1243 : decode code 1243 = .ok (.ireturn, 1) := by decide +kernel
theorem d_L_law_1244 : decode code 1244 = .ok (.iload 5, 2) := by decide +kernel
theorem d_L_law_1246 : decode code 1246 = .ok (.ifCond .ne 22, 3) := by decide +kernel
theorem d_L_law_1249 : decode code 1249 = .ok (.aload_n 3, 1) := by decide +kernel
theorem d_L_law_1250 : decode code 1250 = .ok (.iconst 0, 1) := by decide +kernel
theorem d_L_law_1251 : decode code 1251 = .ok (.laload, 1) := by decide +kernel
theorem d_L_law_1252 : decode code 1252 = .ok (.iload 6, 2) := by decide +kernel
theorem d_L_law_1254 : decode code 1254 = .ok (.ifCond .eq 7, 3) := by decide +kernel
theorem d_L_law_1257 : decode code 1257 = .ok (.lconst 1, 1) := by decide +kernel
theorem d_L_law_1258 : decode code 1258 = .ok (.goto 4, 3) := by decide +kernel
theorem d_L_law_1261 : decode code 1261 = .ok (.lconst 0, 1) := by decide +kernel
theorem d_L_law_1262 : decode code 1262 = .ok (.lcmp, 1) := by decide +kernel
theorem d_L_law_1263 : decode code 1263 = .ok (.ifCond .eq 5, 3) := by decide +kernel
theorem d_L_law_1266 : decode code 1266 = .ok (.iconst 0, 1) := by decide +kernel
theorem d_L_law_1267 : decode code 1267 = .ok (.ireturn, 1) := by decide +kernel
theorem d_L_law_1268 : decode code 1268 = .ok (.goto 852, 3) := by decide +kernel
theorem d_L_law_1271 : decode code 1271 = .ok (.aload_n 1, 1) := by decide +kernel
theorem d_L_law_1272 : decode code 1272 = .ok (.aload_n 0, 1) := by decide +kernel
theorem d_L_law_1273 : decode code 1273 = .ok (.iload 4, 2) := by decide +kernel
theorem d_L_law_1275 : decode code 1275 = .ok (.iconst 1, 1) := by decide +kernel
theorem d_L_law_1276 : decode code 1276 = .ok (.iadd, 1) := by decide +kernel
theorem d_L_law_1277 : decode code 1277 = .ok (.iaload, 1) := by decide +kernel
theorem d_L_law_1278 : decode code 1278 = .ok (.aload_n 0, 1) := by decide +kernel
theorem d_L_law_1279 : decode code 1279 = .ok (.iload 4, 2) := by decide +kernel
theorem d_L_law_1281 : decode code 1281 = .ok (.iconst 2, 1) := by decide +kernel
theorem d_L_law_1282 : decode code 1282 = .ok (.iadd, 1) := by decide +kernel
theorem d_L_law_1283 : decode code 1283 = .ok (.iaload, 1) := by decide +kernel
theorem d_L_law_1284 : decode code 1284 = .ok (.aload_n 3, 1) := by decide +kernel
theorem d_L_law_1285 : decode code 1285 = .ok (.invokestatic 138, 3) := by decide +kernel
theorem d_L_law_1288 : decode code 1288 = .ok (.istore 5, 2) := by decide +kernel
theorem d_L_law_1290 : decode code 1290 = .ok (.aload_n 2, 1) := by decide +kernel
theorem d_L_law_1291 : decode code 1291 = .ok (.aload_n 0, 1) := by decide +kernel
theorem d_L_law_1292 : decode code 1292 = .ok (.iload 4, 2) := by decide +kernel
theorem d_L_law_1294 : decode code 1294 = .ok (.iconst 1, 1) := by decide +kernel
theorem d_L_law_1295 : decode code 1295 = .ok (.iadd, 1) := by decide +kernel
theorem d_L_law_1296 : decode code 1296 = .ok (.iaload, 1) := by decide +kernel
theorem d_L_law_1297 : decode code 1297 = .ok (.aload_n 0, 1) := by decide +kernel
theorem d_L_law_1298 : decode code 1298 = .ok (.iload 4, 2) := by decide +kernel
theorem d_L_law_1300 : decode code 1300 = .ok (.iconst 2, 1) := by decide +kernel
theorem d_L_law_1301 : decode code 1301 = .ok (.iadd, 1) := by decide +kernel
theorem d_L_law_1302 : decode code 1302 = .ok (.iaload, 1) := by decide +kernel
theorem d_L_law_1303 : decode code 1303 = .ok (.invokevirtual 140, 3) := by decide +kernel
theorem d_L_law_1306 : decode code 1306 = .ok (.istore 6, 2) := by decide +kernel
theorem d_L_law_1308 : decode code 1308 = .ok (.aload_n 2, 1) := by decide +kernel
theorem d_L_law_1309 : decode code 1309 = .ok (.invokevirtual 91, 3) := by decide +kernel
theorem d_L_law_1312 : decode code 1312 = .ok (.iload 5, 2) := by decide +kernel
theorem d_L_law_1314 : decode code 1314 = .ok (.if_icmp .eq 5, 3) := by decide +kernel
theorem d_L_law_1317 : decode code 1317 = .ok (.iconst 0, 1) := by decide +kernel
theorem d_L_law_1318 : decode code 1318 = .ok (.ireturn, 1) := by decide +kernel
theorem d_L_law_1319 : decode code 1319 = .ok (.iload 5, 2) := by decide +kernel
theorem d_L_law_1321 : decode code 1321 = .ok (.ifCond .ne 22, 3) := by decide +kernel
theorem d_L_law_1324 : decode code 1324 = .ok (.aload_n 3, 1) := by decide +kernel
theorem d_L_law_1325 : decode code 1325 = .ok (.iconst 0, 1) := by decide +kernel
theorem d_L_law_1326 : decode code 1326 = .ok (.laload, 1) := by decide +kernel
theorem d_L_law_1327 : decode code 1327 = .ok (.iload 6, 2) := by decide +kernel
theorem d_L_law_1329 : decode code 1329 = .ok (.ifCond .eq 7, 3) := by decide +kernel
theorem d_L_law_1332 : decode code 1332 = .ok (.lconst 1, 1) := by decide +kernel
theorem d_L_law_1333 : decode code 1333 = .ok (.goto 4, 3) := by decide +kernel
theorem d_L_law_1336 : decode code 1336 = .ok (.lconst 0, 1) := by decide +kernel
theorem d_L_law_1337 : decode code 1337 = .ok (.lcmp, 1) := by decide +kernel
theorem d_L_law_1338 : decode code 1338 = .ok (.ifCond .eq 5, 3) := by decide +kernel
theorem d_L_law_1341 : decode code 1341 = .ok (.iconst 0, 1) := by decide +kernel
theorem d_L_law_1342 : decode code 1342 = .ok (.ireturn, 1) := by decide +kernel
theorem d_L_law_1343 : decode code 1343 = .ok (.goto 777, 3) := by decide +kernel
theorem d_L_law_1346 : decode code 1346 = .ok (.aload_n 1, 1) := by decide +kernel
theorem d_L_law_1347 : decode code 1347 = .ok (.aload_n 0, 1) := by decide +kernel
theorem d_L_law_1348 : decode code 1348 = .ok (.iload 4, 2) := by decide +kernel
theorem d_L_law_1350 : decode code 1350 = .ok (.iconst 1, 1) := by decide +kernel
theorem d_L_law_1351 : decode code 1351 = .ok (.iadd, 1) := by decide +kernel
theorem d_L_law_1352 : decode code 1352 = .ok (.iaload, 1) := by decide +kernel
theorem d_L_law_1353 : decode code 1353 = .ok (.aload_n 0, 1) := by decide +kernel
theorem d_L_law_1354 : decode code 1354 = .ok (.iload 4, 2) := by decide +kernel
theorem d_L_law_1356 : decode code 1356 = .ok (.iconst 2, 1) := by decide +kernel
theorem d_L_law_1357 : decode code 1357 = .ok (.iadd, 1) := by decide +kernel
theorem d_L_law_1358 : decode code 1358 = .ok (.iaload, 1) := by decide +kernel
theorem d_L_law_1359 : decode code 1359 = .ok (.i2l, 1) := by decide +kernel
theorem d_L_law_1360 : decode code 1360 = .ok (.bipush 32, 2) := by decide +kernel
theorem d_L_law_1362 : decode code 1362 = .ok (.lshl, 1) := by decide +kernel
theorem d_L_law_1363 : decode code 1363 = .ok (.aload_n 0, 1) := by decide +kernel
theorem d_L_law_1364 : decode code 1364 = .ok (.iload 4, 2) := by decide +kernel
theorem d_L_law_1366 : decode code 1366 = .ok (.iconst 3, 1) := by decide +kernel
theorem d_L_law_1367 : decode code 1367 = .ok (.iadd, 1) := by decide +kernel
theorem d_L_law_1368 : decode code 1368 = .ok (.iaload, 1) := by decide +kernel
theorem d_L_law_1369 : decode code 1369 = .ok (.i2l, 1) := by decide +kernel
theorem d_L_law_1370 : decode code 1370 = .ok (.ldc2_w 99, 3) := by decide +kernel
theorem d_L_law_1373 : decode code 1373 = .ok (.land, 1) := by decide +kernel
theorem d_L_law_1374 : decode code 1374 = .ok (.lor, 1) := by decide +kernel
theorem d_L_law_1375 : decode code 1375 = .ok (.aload_n 0, 1) := by decide +kernel
theorem d_L_law_1376 : decode code 1376 = .ok (.iload 4, 2) := by decide +kernel
theorem d_L_law_1378 : decode code 1378 = .ok (.iconst 4, 1) := by decide +kernel
theorem d_L_law_1379 : decode code 1379 = .ok (.iadd, 1) := by decide +kernel
theorem d_L_law_1380 : decode code 1380 = .ok (.iaload, 1) := by decide +kernel
theorem d_L_law_1381 : decode code 1381 = .ok (.aload_n 3, 1) := by decide +kernel
theorem d_L_law_1382 : decode code 1382 = .ok (.invokestatic 141, 3) := by decide +kernel
theorem d_L_law_1385 : decode code 1385 = .ok (.istore 5, 2) := by decide +kernel
theorem d_L_law_1387 : decode code 1387 = .ok (.aload_n 2, 1) := by decide +kernel
theorem d_L_law_1388 : decode code 1388 = .ok (.aload_n 0, 1) := by decide +kernel
theorem d_L_law_1389 : decode code 1389 = .ok (.iload 4, 2) := by decide +kernel
theorem d_L_law_1391 : decode code 1391 = .ok (.iconst 1, 1) := by decide +kernel
theorem d_L_law_1392 : decode code 1392 = .ok (.iadd, 1) := by decide +kernel
theorem d_L_law_1393 : decode code 1393 = .ok (.iaload, 1) := by decide +kernel
theorem d_L_law_1394 : decode code 1394 = .ok (.aload_n 0, 1) := by decide +kernel
theorem d_L_law_1395 : decode code 1395 = .ok (.iload 4, 2) := by decide +kernel
theorem d_L_law_1397 : decode code 1397 = .ok (.iconst 2, 1) := by decide +kernel
theorem d_L_law_1398 : decode code 1398 = .ok (.iadd, 1) := by decide +kernel
theorem d_L_law_1399 : decode code 1399 = .ok (.iaload, 1) := by decide +kernel
theorem d_L_law_1400 : decode code 1400 = .ok (.i2l, 1) := by decide +kernel
theorem d_L_law_1401 : decode code 1401 = .ok (.bipush 32, 2) := by decide +kernel
theorem d_L_law_1403 : decode code 1403 = .ok (.lshl, 1) := by decide +kernel
theorem d_L_law_1404 : decode code 1404 = .ok (.aload_n 0, 1) := by decide +kernel
theorem d_L_law_1405 : decode code 1405 = .ok (.iload 4, 2) := by decide +kernel
theorem d_L_law_1407 : decode code 1407 = .ok (.iconst 3, 1) := by decide +kernel
theorem d_L_law_1408 : decode code 1408 = .ok (.iadd, 1) := by decide +kernel
theorem d_L_law_1409 : decode code 1409 = .ok (.iaload, 1) := by decide +kernel
theorem d_L_law_1410 : decode code 1410 = .ok (.i2l, 1) := by decide +kernel
theorem d_L_law_1411 : decode code 1411 = .ok (.ldc2_w 99, 3) := by decide +kernel
theorem d_L_law_1414 : decode code 1414 = .ok (.land, 1) := by decide +kernel
theorem d_L_law_1415 : decode code 1415 = .ok (.lor, 1) := by decide +kernel
theorem d_L_law_1416 : decode code 1416 = .ok (.aload_n 0, 1) := by decide +kernel
theorem d_L_law_1417 : decode code 1417 = .ok (.iload 4, 2) := by decide +kernel
theorem d_L_law_1419 : decode code 1419 = .ok (.iconst 4, 1) := by decide +kernel
theorem d_L_law_1420 : decode code 1420 = .ok (.iadd, 1) := by decide +kernel
theorem d_L_law_1421 : decode code 1421 = .ok (.iaload, 1) := by decide +kernel
theorem d_L_law_1422 : decode code 1422 = .ok (.invokevirtual 144, 3) := by decide +kernel
theorem d_L_law_1425 : decode code 1425 = .ok (.istore 6, 2) := by decide +kernel
theorem d_L_law_1427 : decode code 1427 = .ok (.aload_n 2, 1) := by decide +kernel
theorem d_L_law_1428 : decode code 1428 = .ok (.invokevirtual 91, 3) := by decide +kernel
theorem d_L_law_1431 : decode code 1431 = .ok (.iload 5, 2) := by decide +kernel
theorem d_L_law_1433 : decode code 1433 = .ok (.if_icmp .eq 5, 3) := by decide +kernel
theorem d_L_law_1436 : decode code 1436 = .ok (.iconst 0, 1) := by decide +kernel
theorem d_L_law_1437 : decode code 1437 = .ok (.ireturn, 1) := by decide +kernel
theorem d_L_law_1438 : decode code 1438 = .ok (.iload 5, 2) := by decide +kernel
theorem d_L_law_1440 : decode code 1440 = .ok (.ifCond .ne 22, 3) := by decide +kernel
theorem d_L_law_1443 : decode code 1443 = .ok (.aload_n 3, 1) := by decide +kernel
theorem d_L_law_1444 : decode code 1444 = .ok (.iconst 0, 1) := by decide +kernel
theorem d_L_law_1445 : decode code 1445 = .ok (.laload, 1) := by decide +kernel
theorem d_L_law_1446 : decode code 1446 = .ok (.iload 6, 2) := by decide +kernel
theorem d_L_law_1448 : decode code 1448 = .ok (.ifCond .eq 7, 3) := by decide +kernel
theorem d_L_law_1451 : decode code 1451 = .ok (.lconst 1, 1) := by decide +kernel
theorem d_L_law_1452 : decode code 1452 = .ok (.goto 4, 3) := by decide +kernel
theorem d_L_law_1455 : decode code 1455 = .ok (.lconst 0, 1) := by decide +kernel
theorem d_L_law_1456 : decode code 1456 = .ok (.lcmp, 1) := by decide +kernel
theorem d_L_law_1457 : decode code 1457 = .ok (.ifCond .eq 5, 3) := by decide +kernel
theorem d_L_law_1460 : decode code 1460 = .ok (.iconst 0, 1) := by decide +kernel
theorem d_L_law_1461 : decode code 1461 = .ok (.ireturn, 1) := by decide +kernel
theorem d_L_law_1462 : decode code 1462 = .ok (.goto 658, 3) := by decide +kernel
theorem d_L_law_1465 : decode code 1465 = .ok (.aload_n 1, 1) := by decide +kernel
theorem d_L_law_1466 : decode code 1466 = .ok (.aload_n 0, 1) := by decide +kernel
theorem d_L_law_1467 : decode code 1467 = .ok (.iload 4, 2) := by decide +kernel
theorem d_L_law_1469 : decode code 1469 = .ok (.iconst 1, 1) := by decide +kernel
theorem d_L_law_1470 : decode code 1470 = .ok (.iadd, 1) := by decide +kernel
theorem d_L_law_1471 : decode code 1471 = .ok (.iaload, 1) := by decide +kernel
theorem d_L_law_1472 : decode code 1472 = .ok (.aload_n 0, 1) := by decide +kernel
theorem d_L_law_1473 : decode code 1473 = .ok (.iload 4, 2) := by decide +kernel
theorem d_L_law_1475 : decode code 1475 = .ok (.iconst 2, 1) := by decide +kernel
theorem d_L_law_1476 : decode code 1476 = .ok (.iadd, 1) := by decide +kernel
theorem d_L_law_1477 : decode code 1477 = .ok (.iaload, 1) := by decide +kernel
theorem d_L_law_1478 : decode code 1478 = .ok (.i2l, 1) := by decide +kernel
theorem d_L_law_1479 : decode code 1479 = .ok (.bipush 32, 2) := by decide +kernel
theorem d_L_law_1481 : decode code 1481 = .ok (.lshl, 1) := by decide +kernel
theorem d_L_law_1482 : decode code 1482 = .ok (.aload_n 0, 1) := by decide +kernel
theorem d_L_law_1483 : decode code 1483 = .ok (.iload 4, 2) := by decide +kernel
theorem d_L_law_1485 : decode code 1485 = .ok (.iconst 3, 1) := by decide +kernel
theorem d_L_law_1486 : decode code 1486 = .ok (.iadd, 1) := by decide +kernel
theorem d_L_law_1487 : decode code 1487 = .ok (.iaload, 1) := by decide +kernel
theorem d_L_law_1488 : decode code 1488 = .ok (.i2l, 1) := by decide +kernel
theorem d_L_law_1489 : decode code 1489 = .ok (.ldc2_w 99, 3) := by decide +kernel
theorem d_L_law_1492 : decode code 1492 = .ok (.land, 1) := by decide +kernel
theorem d_L_law_1493 : decode code 1493 = .ok (.lor, 1) := by decide +kernel
theorem d_L_law_1494 : decode code 1494 = .ok (.aload_n 3, 1) := by decide +kernel
theorem d_L_law_1495 : decode code 1495 = .ok (.invokestatic 145, 3) := by decide +kernel
theorem d_L_law_1498 : decode code 1498 = .ok (.istore 5, 2) := by decide +kernel
theorem d_L_law_1500 : decode code 1500 = .ok (.aload_n 2, 1) := by decide +kernel
theorem d_L_law_1501 : decode code 1501 = .ok (.aload_n 0, 1) := by decide +kernel
theorem d_L_law_1502 : decode code 1502 = .ok (.iload 4, 2) := by decide +kernel
theorem d_L_law_1504 : decode code 1504 = .ok (.iconst 1, 1) := by decide +kernel
theorem d_L_law_1505 : decode code 1505 = .ok (.iadd, 1) := by decide +kernel
theorem d_L_law_1506 : decode code 1506 = .ok (.iaload, 1) := by decide +kernel
theorem d_L_law_1507 : decode code 1507 = .ok (.aload_n 0, 1) := by decide +kernel
theorem d_L_law_1508 : decode code 1508 = .ok (.iload 4, 2) := by decide +kernel
theorem d_L_law_1510 : decode code 1510 = .ok (.iconst 2, 1) := by decide +kernel
theorem d_L_law_1511 : decode code 1511 = .ok (.iadd, 1) := by decide +kernel
theorem d_L_law_1512 : decode code 1512 = .ok (.iaload, 1) := by decide +kernel
theorem d_L_law_1513 : decode code 1513 = .ok (.i2l, 1) := by decide +kernel
theorem d_L_law_1514 : decode code 1514 = .ok (.bipush 32, 2) := by decide +kernel
theorem d_L_law_1516 : decode code 1516 = .ok (.lshl, 1) := by decide +kernel
theorem d_L_law_1517 : decode code 1517 = .ok (.aload_n 0, 1) := by decide +kernel
theorem d_L_law_1518 : decode code 1518 = .ok (.iload 4, 2) := by decide +kernel
theorem d_L_law_1520 : decode code 1520 = .ok (.iconst 3, 1) := by decide +kernel
theorem d_L_law_1521 : decode code 1521 = .ok (.iadd, 1) := by decide +kernel
theorem d_L_law_1522 : decode code 1522 = .ok (.iaload, 1) := by decide +kernel
theorem d_L_law_1523 : decode code 1523 = .ok (.i2l, 1) := by decide +kernel
theorem d_L_law_1524 : decode code 1524 = .ok (.ldc2_w 99, 3) := by decide +kernel
theorem d_L_law_1527 : decode code 1527 = .ok (.land, 1) := by decide +kernel
theorem d_L_law_1528 : decode code 1528 = .ok (.lor, 1) := by decide +kernel
theorem d_L_law_1529 : decode code 1529 = .ok (.invokevirtual 147, 3) := by decide +kernel
theorem d_L_law_1532 : decode code 1532 = .ok (.istore 6, 2) := by decide +kernel
theorem d_L_law_1534 : decode code 1534 = .ok (.aload_n 2, 1) := by decide +kernel
theorem d_L_law_1535 : decode code 1535 = .ok (.invokevirtual 91, 3) := by decide +kernel
theorem d_L_law_1538 : decode code 1538 = .ok (.iload 5, 2) := by decide +kernel
theorem d_L_law_1540 : decode code 1540 = .ok (.if_icmp .eq 5, 3) := by decide +kernel
theorem d_L_law_1543 : decode code 1543 = .ok (.iconst 0, 1) := by decide +kernel
theorem d_L_law_1544 : decode code 1544 = .ok (.ireturn, 1) := by decide +kernel
theorem d_L_law_1545 : decode code 1545 = .ok (.iload 5, 2) := by decide +kernel
theorem d_L_law_1547 : decode code 1547 = .ok (.ifCond .ne 15, 3) := by decide +kernel
theorem d_L_law_1550 : decode code 1550 = .ok (.aload_n 3, 1) := by decide +kernel
theorem d_L_law_1551 : decode code 1551 = .ok (.iconst 0, 1) := by decide +kernel
theorem d_L_law_1552 : decode code 1552 = .ok (.laload, 1) := by decide +kernel
theorem d_L_law_1553 : decode code 1553 = .ok (.iload 6, 2) := by decide +kernel
theorem d_L_law_1555 : decode code 1555 = .ok (.i2l, 1) := by decide +kernel
theorem d_L_law_1556 : decode code 1556 = .ok (.lcmp, 1) := by decide +kernel
theorem d_L_law_1557 : decode code 1557 = .ok (.ifCond .eq 5, 3) := by decide +kernel
theorem d_L_law_1560 : decode code 1560 = .ok (.iconst 0, 1) := by decide +kernel
theorem d_L_law_1561 : decode code 1561 = .ok (.ireturn, 1) := by decide +kernel
theorem d_L_law_1562 : decode code 1562 = .ok (.goto 558, 3) := by decide +kernel
theorem d_L_law_1565 : decode code 1565 = .ok (.aload_n 1, 1) := by decide +kernel
theorem d_L_law_1566 : decode code 1566 = .ok (.aload_n 0, 1) := by decide +kernel
theorem d_L_law_1567 : decode code 1567 = .ok (.iload 4, 2) := by decide +kernel
theorem d_L_law_1569 : decode code 1569 = .ok (.iconst 1, 1) := by decide +kernel
theorem d_L_law_1570 : decode code 1570 = .ok (.iadd, 1) := by decide +kernel
theorem d_L_law_1571 : decode code 1571 = .ok (.iaload, 1) := by decide +kernel
theorem d_L_law_1572 : decode code 1572 = .ok (.aload_n 0, 1) := by decide +kernel
theorem d_L_law_1573 : decode code 1573 = .ok (.iload 4, 2) := by decide +kernel
theorem d_L_law_1575 : decode code 1575 = .ok (.iconst 2, 1) := by decide +kernel
theorem d_L_law_1576 : decode code 1576 = .ok (.iadd, 1) := by decide +kernel
theorem d_L_law_1577 : decode code 1577 = .ok (.iaload, 1) := by decide +kernel
theorem d_L_law_1578 : decode code 1578 = .ok (.aload_n 3, 1) := by decide +kernel
theorem d_L_law_1579 : decode code 1579 = .ok (.invokestatic 148, 3) := by decide +kernel
theorem d_L_law_1582 : decode code 1582 = .ok (.istore 5, 2) := by decide +kernel
theorem d_L_law_1584 : decode code 1584 = .ok (.aload_n 2, 1) := by decide +kernel
theorem d_L_law_1585 : decode code 1585 = .ok (.aload_n 0, 1) := by decide +kernel
theorem d_L_law_1586 : decode code 1586 = .ok (.iload 4, 2) := by decide +kernel
theorem d_L_law_1588 : decode code 1588 = .ok (.iconst 1, 1) := by decide +kernel
theorem d_L_law_1589 : decode code 1589 = .ok (.iadd, 1) := by decide +kernel
theorem d_L_law_1590 : decode code 1590 = .ok (.iaload, 1) := by decide +kernel
theorem d_L_law_1591 : decode code 1591 = .ok (.aload_n 0, 1) := by decide +kernel
theorem d_L_law_1592 : decode code 1592 = .ok (.iload 4, 2) := by decide +kernel
theorem d_L_law_1594 : decode code 1594 = .ok (.iconst 2, 1) := by decide +kernel
theorem d_L_law_1595 : decode code 1595 = .ok (.iadd, 1) := by decide +kernel
theorem d_L_law_1596 : decode code 1596 = .ok (.iaload, 1) := by decide +kernel
theorem d_L_law_1597 : decode code 1597 = .ok (.invokevirtual 150, 3) := by decide +kernel
theorem d_L_law_1600 : decode code 1600 = .ok (.lstore 6, 2) := by decide +kernel
theorem d_L_law_1602 : decode code 1602 = .ok (.aload_n 2, 1) := by decide +kernel
theorem d_L_law_1603 : decode code 1603 = .ok (.invokevirtual 91, 3) := by decide +kernel
theorem d_L_law_1606 : decode code 1606 = .ok (.iload 5, 2) := by decide +kernel
theorem d_L_law_1608 : decode code 1608 = .ok (.if_icmp .eq 5, 3) := by decide +kernel
theorem d_L_law_1611 : decode code 1611 = .ok (.iconst 0, 1) := by decide +kernel
theorem d_L_law_1612 : decode code 1612 = .ok (.ireturn, 1) := by decide +kernel
theorem d_L_law_1613 : decode code 1613 = .ok (.iload 5, 2) := by decide +kernel
theorem d_L_law_1615 : decode code 1615 = .ok (.ifCond .ne 14, 3) := by decide +kernel
theorem d_L_law_1618 : decode code 1618 = .ok (.aload_n 3, 1) := by decide +kernel
theorem d_L_law_1619 : decode code 1619 = .ok (.iconst 0, 1) := by decide +kernel
theorem d_L_law_1620 : decode code 1620 = .ok (.laload, 1) := by decide +kernel
theorem d_L_law_1621 : decode code 1621 = .ok (.lload 6, 2) := by decide +kernel
theorem d_L_law_1623 : decode code 1623 = .ok (.lcmp, 1) := by decide +kernel
theorem d_L_law_1624 : decode code 1624 = .ok (.ifCond .eq 5, 3) := by decide +kernel
theorem d_L_law_1627 : decode code 1627 = .ok (.iconst 0, 1) := by decide +kernel
theorem d_L_law_1628 : decode code 1628 = .ok (.ireturn, 1) := by decide +kernel
theorem d_L_law_1629 : decode code 1629 = .ok (.goto 491, 3) := by decide +kernel
theorem d_L_law_1632 : decode code 1632 = .ok (.aload_n 1, 1) := by decide +kernel
theorem d_L_law_1633 : decode code 1633 = .ok (.aload_n 0, 1) := by decide +kernel
theorem d_L_law_1634 : decode code 1634 = .ok (.iload 4, 2) := by decide +kernel
theorem d_L_law_1636 : decode code 1636 = .ok (.iconst 1, 1) := by decide +kernel
theorem d_L_law_1637 : decode code 1637 = .ok (.iadd, 1) := by decide +kernel
theorem d_L_law_1638 : decode code 1638 = .ok (.iaload, 1) := by decide +kernel
theorem d_L_law_1639 : decode code 1639 = .ok (.aload_n 0, 1) := by decide +kernel
theorem d_L_law_1640 : decode code 1640 = .ok (.iload 4, 2) := by decide +kernel
theorem d_L_law_1642 : decode code 1642 = .ok (.iconst 2, 1) := by decide +kernel
