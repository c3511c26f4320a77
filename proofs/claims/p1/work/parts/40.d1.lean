theorem dL_law_1162 : decode cL_law 1162 = .ok (.iconst 1, 1) := by decide +kernel
theorem dL_law_1163 : decode cL_law 1163 = .ok (.iadd, 1) := by decide +kernel
theorem dL_law_1164 : decode cL_law 1164 = .ok (.iaload, 1) := by decide +kernel
theorem dL_law_1165 : decode cL_law 1165 = .ok (.invokevirtual 248, 3) := by decide +kernel
theorem dL_law_1168 : decode cL_law 1168 = .ok (.istore 6, 2) := by decide +kernel
theorem dL_law_1170 : decode cL_law 1170 = .ok (.aload_n 2, 1) := by decide +kernel
theorem dL_law_1171 : decode cL_law 1171 = .ok (.invokevirtual 151, 3) := by decide +kernel
theorem dL_law_1174 : decode cL_law 1174 = .ok (.iload 5, 2) := by decide +kernel
theorem dL_law_1176 : decode cL_law 1176 = .ok (.if_icmp .eq 5, 3) := by decide +kernel
theorem dL_law_1179 : decode cL_law 1179 = .ok (.iconst 0, 1) := by decide +kernel
theorem dL_law_1180 : decode cL_law 1180 = .ok (.ireturn, 1) := by decide +kernel
theorem dL_law_1181 : decode cL_law 1181 = .ok (.iload 5, 2) := by decide +kernel
theorem dL_law_1183 : decode cL_law 1183 = .ok (.ifCond .ne 22, 3) := by decide +kernel
theorem dL_law_1186 : decode cL_law 1186 = .ok (.aload_n 3, 1) := by decide +kernel
theorem dL_law_1187 : decode cL_law 1187 = .ok (.iconst 0, 1) := by decide +kernel
theorem dL_law_1188 : decode cL_law 1188 = .ok (.laload, 1) := by decide +kernel
theorem dL_law_1189 : decode cL_law 1189 = .ok (.iload 6, 2) := by decide +kernel
theorem dL_law_1191 : decode cL_law 1191 = .ok (.ifCond .eq 7, 3) := by decide +kernel
theorem dL_law_1194 : decode cL_law 1194 = .ok (.lconst 1, 1) := by decide +kernel
theorem dL_law_1195 : decode cL_law 1195 = .ok (.goto 4, 3) := by decide +kernel
theorem dL_law_1198 : decode cL_law 1198 = .ok (.lconst 0, 1) := by decide +kernel
theorem dL_law_1199 : decode cL_law 1199 = .ok (.lcmp, 1) := by decide +kernel
theorem dL_law_1200 : decode cL_law 1200 = .ok (.ifCond .eq 5, 3) := by decide +kernel
theorem dL_law_1203 : decode cL_law 1203 = .ok (.iconst 0, 1) := by decide +kernel
theorem dL_law_1204 : decode cL_law 1204 = .ok (.ireturn, 1) := by decide +kernel
theorem dL_law_1205 : decode cL_law 1205 = .ok (.goto 1709, 3) := by decide +kernel
theorem dL_law_1208 : decode cL_law 1208 = .ok (.aload_n 1, 1) := by decide +kernel
theorem dL_law_1209 : decode cL_law 1209 = .ok (.aload_n 0, 1) := by decide +kernel
theorem dL_law_1210 : decode cL_law 1210 = .ok (.iload 4, 2) := by decide +kernel
theorem dL_law_1212 : decode cL_law 1212 = .ok (.iconst 1, 1) := by decide +kernel
theorem dL_law_1213 : decode cL_law 1213 = .ok (.iadd, 1) := by decide +kernel
theorem dL_law_1214 : decode cL_law 1214 = .ok (.iaload, 1) := by decide +kernel
theorem dL_law_1215 : decode cL_law 1215 = .ok (.aload_n 0, 1) := by decide +kernel
theorem dL_law_1216 : decode cL_law 1216 = .ok (.iload 4, 2) := by decide +kernel
theorem dL_law_1218 : decode cL_law 1218 = .ok (.iconst 2, 1) := by decide +kernel
theorem dL_law_1219 : decode cL_law 1219 = .ok (.iadd, 1) := by decide +kernel
theorem dL_law_1220 : decode cL_law 1220 = .ok (.iaload, 1) := by decide +kernel
theorem dL_law_1221 : decode cL_law 1221 = .ok (.aload_n 3, 1) := by decide +kernel
theorem dL_law_1222 : decode cL_law 1222 = .ok (.invokestatic 249, 3) := by decide +kernel
theorem dL_law_1225 : decode cL_law 1225 = .ok (.istore 5, 2) := by decide +kernel
theorem dL_law_1227 : decode cL_law 1227 = .ok (.aload_n 2, 1) := by decide +kernel
theorem dL_law_1228 : decode cL_law 1228 = .ok (.aload_n 0, 1) := by decide +kernel
theorem dL_law_1229 : decode cL_law 1229 = .ok (.iload 4, 2) := by decide +kernel
theorem dL_law_1231 : decode cL_law 1231 = .ok (.iconst 1, 1) := by decide +kernel
theorem dL_law_1232 : decode cL_law 1232 = .ok (.iadd, 1) := by decide +kernel
theorem dL_law_1233 : decode cL_law 1233 = .ok (.iaload, 1) := by decide +kernel
theorem dL_law_1234 : decode cL_law 1234 = .ok (.aload_n 0, 1) := by decide +kernel
theorem dL_law_1235 : decode cL_law 1235 = .ok (.iload 4, 2) := by decide +kernel
theorem dL_law_1237 : decode cL_law 1237 = .ok (.iconst 2, 1) := by decide +kernel
theorem dL_law_1238 : decode cL_law 1238 = .ok (.iadd, 1) := by decide +kernel
theorem dL_law_1239 : decode cL_law 1239 = .ok (.iaload, 1) := by decide +kernel
theorem dL_law_1240 : decode cL_law 1240 = .ok (.invokevirtual 252, 3) := by decide +kernel
theorem dL_law_1243 : decode cL_law 1243 = .ok (.istore 6, 2) := by decide +kernel
theorem dL_law_1245 : decode cL_law 1245 = .ok (.aload_n 2, 1) := by decide +kernel
theorem dL_law_1246 : decode cL_law 1246 = .ok (.invokevirtual 151, 3) := by decide +kernel
theorem dL_law_1249 : decode cL_law 1249 = .ok (.iload 5, 2) := by decide +kernel
theorem dL_law_1251 : decode cL_law 1251 = .ok (.if_icmp .eq 5, 3) := by decide +kernel
theorem dL_law_1254 : decode cL_law 1254 = .ok (.iconst 0, 1) := by decide +kernel
theorem dL_law_1255 : decode cL_law 1255 = .ok (.ireturn, 1) := by decide +kernel
theorem dL_law_1256 : decode cL_law 1256 = .ok (.iload 5, 2) := by decide +kernel
theorem dL_law_1258 : decode cL_law 1258 = .ok (.ifCond .ne 15, 3) := by decide +kernel
theorem dL_law_1261 : decode cL_law 1261 = .ok (.aload_n 3, 1) := by decide +kernel
theorem dL_law_1262 : decode cL_law 1262 = .ok (.iconst 0, 1) := by decide +kernel
theorem dL_law_1263 : decode cL_law 1263 = .ok (.laload, 1) := by decide +kernel
theorem dL_law_1264 : decode cL_law 1264 = .ok (.iload 6, 2) := by decide +kernel
theorem dL_law_1266 : decode cL_law 1266 = .ok (.i2l, 1) := by decide +kernel
theorem dL_law_1267 : decode cL_law 1267 = .ok (.lcmp, 1) := by decide +kernel
theorem dL_law_1268 : decode cL_law 1268 = .ok (.ifCond .eq 5, 3) := by decide +kernel
theorem dL_law_1271 : decode cL_law 1271 = .ok (.iconst 0, 1) := by decide +kernel
theorem dL_law_1272 : decode cL_law 1272 = .ok (.ireturn, 1) := by decide +kernel
theorem dL_law_1273 : decode cL_law 1273 = .ok (.goto 1641, 3) := by decide +kernel
theorem dL_law_1276 : decode cL_law 1276 = .ok (.aload_n 1, 1) := by decide +kernel
theorem dL_law_1277 : decode cL_law 1277 = .ok (.aload_n 0, 1) := by decide +kernel
theorem dL_law_1278 : decode cL_law 1278 = .ok (.iload 4, 2) := by decide +kernel
theorem dL_law_1280 : decode cL_law 1280 = .ok (.iconst 1, 1) := by decide +kernel
theorem dL_law_1281 : decode cL_law 1281 = .ok (.iadd, 1) := by decide +kernel
theorem dL_law_1282 : decode cL_law 1282 = .ok (.iaload, 1) := by decide +kernel
theorem dL_law_1283 : decode cL_law 1283 = .ok (.aload_n 0, 1) := by decide +kernel
theorem dL_law_1284 : decode cL_law 1284 = .ok (.iload 4, 2) := by decide +kernel
theorem dL_law_1286 : decode cL_law 1286 = .ok (.iconst 2, 1) := by decide +kernel
theorem dL_law_1287 : decode cL_law 1287 = .ok (.iadd, 1) := by decide +kernel
theorem dL_law_1288 : decode cL_law 1288 = .ok (.iaload, 1) := by decide +kernel
theorem dL_law_1289 : decode cL_law 1289 = .ok (.aload_n 3, 1) := by decide +kernel
theorem dL_law_1290 : decode cL_law 1290 = .ok (.invokestatic 253, 3) := by decide +kernel
theorem dL_law_1293 : decode cL_law 1293 = .ok (.istore 5, 2) := by decide +kernel
theorem dL_law_1295 : decode cL_law 1295 = .ok (.aload_n 2, 1) := by decide +kernel
theorem dL_law_1296 : decode cL_law 1296 = .ok (.aload_n 0, 1) := by decide +kernel
theorem dL_law_1297 : decode cL_law 1297 = .ok (.iload 4, 2) := by decide +kernel
theorem dL_law_1299 : decode cL_law 1299 = .ok (.iconst 1, 1) := by decide +kernel
theorem dL_law_1300 : decode cL_law 1300 = .ok (.iadd, 1) := by decide +kernel
theorem dL_law_1301 : decode cL_law 1301 = .ok (.iaload, 1) := by decide +kernel
theorem dL_law_1302 : decode cL_law 1302 = .ok (.aload_n 0, 1) := by decide +kernel
theorem dL_law_1303 : decode cL_law 1303 = .ok (.iload 4, 2) := by decide +kernel
theorem dL_law_1305 : decode cL_law 1305 = .ok (.iconst 2, 1) := by decide +kernel
theorem dL_law_1306 : decode cL_law 1306 = .ok (.iadd, 1) := by decide +kernel
theorem dL_law_1307 : decode cL_law 1307 = .ok (.iaload, 1) := by decide +kernel
theorem dL_law_1308 : decode cL_law 1308 = .ok (.invokevirtual 255, 3) := by decide +kernel
theorem dL_law_1311 : decode cL_law 1311 = .ok (.istore 6, 2) := by decide +kernel
theorem dL_law_1313 : decode cL_law 1313 = .ok (.aload_n 2, 1) := by decide +kernel
theorem dL_law_1314 : decode cL_law 1314 = .ok (.invokevirtual 151, 3) := by decide +kernel
theorem dL_law_1317 : decode cL_law 1317 = .ok (.iload 5, 2) := by decide +kernel
theorem dL_law_1319 : decode cL_law 1319 = .ok (.if_icmp .eq 5, 3) := by decide +kernel
theorem dL_law_1322 : decode cL_law 1322 = .ok (.iconst 0, 1) := by decide +kernel
theorem dL_law_1323 : decode cL_law 1323 = .ok (.ireturn, 1) := by decide +kernel
theorem dL_law_1324 : decode cL_law 1324 = .ok (.iload 5, 2) := by decide +kernel
theorem dL_law_1326 : decode cL_law 1326 = .ok (.ifCond .ne 22, 3) := by decide +kernel
theorem dL_law_1329 : decode cL_law 1329 = .ok (.aload_n 3, 1) := by decide +kernel
theorem dL_law_1330 : decode cL_law 1330 = .ok (.iconst 0, 1) := by decide +kernel
theorem dL_law_1331 : decode cL_law 1331 = .ok (.laload, 1) := by decide +kernel
theorem dL_law_1332 : decode cL_law 1332 = .ok (.iload 6, 2) := by decide +kernel
theorem dL_law_1334 : decode cL_law 1334 = .ok (.ifCond .eq 7, 3) := by decide +kernel
theorem dL_law_1337 : decode cL_law 1337 = .ok (.lconst 1, 1) := by decide +kernel
theorem dL_law_1338 : decode cL_law 1338 = .ok (.goto 4, 3) := by decide +kernel
theorem dL_law_1341 : decode cL_law 1341 = .ok (.lconst 0, 1) := by decide +kernel
theorem dL_law_1342 : decode cL_law 1342 = .ok (.lcmp, 1) := by decide +kernel
theorem dL_law_1343 : decode cL_law 1343 = .ok (.ifCond .eq 5, 3) := by decide +kernel
theorem dL_law_1346 : decode cL_law 1346 = .ok (.iconst 0, 1) := by decide +kernel
theorem dL_law_1347 : decode cL_law 1347 = .ok (.ireturn, 1) := by decide +kernel
theorem dL_law_1348 : decode cL_law 1348 = .ok (.goto 1566, 3) := by decide +kernel
theorem dL_law_1351 : decode cL_law 1351 = .ok (.aload_n 1, 1) := by decide +kernel
theorem dL_law_1352 : decode cL_law 1352 = .ok (.aload_n 0, 1) := by decide +kernel
theorem dL_law_1353 : decode cL_law 1353 = .ok (.iload 4, 2) := by decide +kernel
theorem dL_law_1355 : decode cL_law 1355 = .ok (.iconst 1, 1) := by decide +kernel
theorem dL_law_1356 : decode cL_law 1356 = .ok (.iadd, 1) := by decide +kernel
theorem dL_law_1357 : decode cL_law 1357 = .ok (.iaload, 1) := by decide +kernel
theorem dL_law_1358 : decode cL_law 1358 = .ok (.aload_n 3, 1) := by decide +kernel
theorem dL_law_1359 : decode cL_law 1359 = .ok (.invokestatic 256, 3) := by decide +kernel
theorem dL_law_1362 : decode cL_law 1362 = .ok (.istore 5, 2) := by decide +kernel
theorem dL_law_1364 : decode cL_law 1364 = .ok (.aload_n 2, 1) := by decide +kernel
theorem dL_law_1365 : decode cL_law 1365 = .ok (.aload_n 0, 1) := by decide +kernel
theorem dL_law_1366 : decode cL_law 1366 = .ok (.iload 4, 2) := by decide +kernel
theorem dL_law_1368 : decode cL_law 1368 = .ok (.iconst 1, 1) := by decide +kernel
theorem dL_law_1369 : decode cL_law 1369 = .ok (.iadd, 1) := by decide +kernel
theorem dL_law_1370 : decode cL_law 1370 = .ok (.iaload, 1) := by decide +kernel
theorem dL_law_1371 : decode cL_law 1371 = .ok (.invokevirtual 258, 3) := by decide +kernel
theorem dL_law_1374 : decode cL_law 1374 = .ok (.istore 6, 2) := by decide +kernel
theorem dL_law_1376 : decode cL_law 1376 = .ok (.aload_n 2, 1) := by decide +kernel
theorem dL_law_1377 : decode cL_law 1377 = .ok (.invokevirtual 151, 3) := by decide +kernel
theorem dL_law_1380 : decode cL_law 1380 = .ok (.iload 5, 2) := by decide +kernel
theorem dL_law_1382 : decode cL_law 1382 = .ok (.if_icmp .eq 5, 3) := by decide +kernel
theorem dL_law_1385 : decode cL_law 1385 = .ok (.iconst 0, 1) := by decide +kernel
theorem dL_law_1386 : decode cL_law 1386 = .ok (.ireturn, 1) := by decide +kernel
theorem dL_law_1387 : decode cL_law 1387 = .ok (.iload 5, 2) := by decide +kernel
theorem dL_law_1389 : decode cL_law 1389 = .ok (.ifCond .ne 15, 3) := by decide +kernel
theorem dL_law_1392 : decode cL_law 1392 = .ok (.aload_n 3, 1) := by decide +kernel
theorem dL_law_1393 : decode cL_law 1393 = .ok (.iconst 0, 1) := by decide +kernel
theorem dL_law_1394 : decode cL_law 1394 = .ok (.laload, 1) := by decide +kernel
theorem dL_law_1395 : decode cL_law 1395 = .ok (.iload 6, 2) := by decide +kernel
theorem dL_law_1397 : decode cL_law 1397 = .ok (.i2l, 1) := by decide +kernel
theorem dL_law_1398 : decode cL_law 1398 = .ok (.lcmp, 1) := by decide +kernel
theorem dL_law_1399 : decode cL_law 1399 = .ok (.ifCond .eq 5, 3) := by decide +kernel
theorem dL_law_1402 : decode cL_law 1402 = .ok (.iconst 0, 1) := by decide +kernel
theorem dL_law_1403 : decode cL_law 1403 = .ok (.ireturn, 1) := by decide +kernel
theorem dL_law_1404 : decode cL_law 1404 = .ok (.goto 1510, 3) := by decide +kernel
theorem dL_law_1407 : decode cL_law 1407 = .ok (.aload_n 1, 1) := by decide +kernel
theorem dL_law_1408 : decode cL_law 1408 = .ok (.invokevirtual 259, 3) := by decide +kernel
theorem dL_law_1411 : decode cL_law 1411 = .ok (.aload_n 2, 1) := by decide +kernel
theorem dL_law_1412 : decode cL_law 1412 = .ok (.invokevirtual 262, 3) := by decide +kernel
theorem dL_law_1415 : decode cL_law 1415 = .ok (.if_icmp .eq 1499, 3) := by decide +kernel
theorem dL_law_1418 : decode cL_law 1418 = .ok (.iconst 0, 1) := by decide +kernel
theorem dL_law_1419 : decode cL_law 1419 = .ok (.ireturn, 1) := by decide +kernel
theorem dL_law_1420 : decode cL_law 1420 = .ok (.aload_n 1, 1) := by decide +kernel
theorem dL_law_1421 : decode cL_law 1421 = .ok (.invokevirtual 263, 3) := by decide +kernel
theorem dL_law_1424 : decode cL_law 1424 = .ok (.aload_n 2, 1) := by decide +kernel
theorem dL_law_1425 : decode cL_law 1425 = .ok (.invokevirtual 266, 3) := by decide +kernel
theorem dL_law_1428 : decode cL_law 1428 = .ok (.if_icmp .eq 1486, 3) := by decide +kernel
theorem dL_law_1431 : decode cL_law 1431 = .ok (.iconst 0, 1) := by decide +kernel
theorem dL_law_1432 : decode cL_law 1432 = .ok (.ireturn, 1) := by decide +kernel
theorem dL_law_1433 : decode cL_law 1433 = .ok (.aload_n 1, 1) := by decide +kernel
theorem dL_law_1434 : decode cL_law 1434 = .ok (.aload_n 0, 1) := by decide +kernel
theorem dL_law_1435 : decode cL_law 1435 = .ok (.iload 4, 2) := by decide +kernel
theorem dL_law_1437 : decode cL_law 1437 = .ok (.iconst 1, 1) := by decide +kernel
theorem dL_law_1438 : decode cL_law 1438 = .ok (.iadd, 1) := by decide +kernel
theorem dL_law_1439 : decode cL_law 1439 = .ok (.iaload, 1) := by decide +kernel
theorem dL_law_1440 : decode cL_law 1440 = .ok (.aload_n 3, 1) := by decide +kernel
theorem dL_law_1441 : decode cL_law 1441 = .ok (.invokestatic 267, 3) := by decide +kernel
theorem dL_law_1444 : decode cL_law 1444 = .ok (.istore 5, 2) := by decide +kernel
theorem dL_law_1446 : decode cL_law 1446 = .ok (.aload_n 2, 1) := by decide +kernel
theorem dL_law_1447 : decode cL_law 1447 = .ok (.aload_n 0, 1) := by decide +kernel
theorem dL_law_1448 : decode cL_law 1448 = .ok (.iload 4, 2) := by decide +kernel
theorem dL_law_1450 : decode cL_law 1450 = .ok (.iconst 1, 1) := by decide +kernel
theorem dL_law_1451 : decode cL_law 1451 = .ok (.iadd, 1) := by decide +kernel
theorem dL_law_1452 : decode cL_law 1452 = .ok (.iaload, 1) := by decide +kernel
theorem dL_law_1453 : decode cL_law 1453 = .ok (.invokevirtual 269, 3) := by decide +kernel
theorem dL_law_1456 : decode cL_law 1456 = .ok (.istore 6, 2) := by decide +kernel
theorem dL_law_1458 : decode cL_law 1458 = .ok (.aload_n 2, 1) := by decide +kernel
theorem dL_law_1459 : decode cL_law 1459 = .ok (.invokevirtual 151, 3) := by decide +kernel
theorem dL_law_1462 : decode cL_law 1462 = .ok (.iload 5, 2) := by decide +kernel
theorem dL_law_1464 : decode cL_law 1464 = .ok (.if_icmp .eq 5, 3) := by decide +kernel
theorem dL_law_1467 : decode cL_law 1467 = .ok (.iconst 0, 1) := by decide +kernel
theorem dL_law_1468 : decode cL_law 1468 = .ok (.ireturn, 1) := by decide +kernel
theorem dL_law_1469 : decode cL_law 1469 = .ok (.iload 5, 2) := by decide +kernel
theorem dL_law_1471 : decode cL_law 1471 = .ok (.ifCond .ne 15, 3) := by decide +kernel
theorem dL_law_1474 : decode cL_law 1474 = .ok (.aload_n 3, 1) := by decide +kernel
theorem dL_law_1475 : decode cL_law 1475 = .ok (.iconst 0, 1) := by decide +kernel
theorem dL_law_1476 : decode cL_law 1476 = .ok (.laload, 1) := by decide +kernel
theorem dL_law_1477 : decode cL_law 1477 = .ok (.iload 6, 2) := by decide +kernel
theorem dL_law_1479 : decode cL_law 1479 = .ok (.i2l, 1) := by decide +kernel
theorem dL_law_1480 : decode cL_law 1480 = .ok (.lcmp, 1) := by decide +kernel
theorem dL_law_1481 : decode cL_law 1481 = .ok (.ifCond .eq 5, 3) := by decide +kernel
theorem dL_law_1484 : decode cL_law 1484 = .ok (.iconst 0, 1) := by decide +kernel
theorem dL_law_1485 : decode cL_law 1485 = .ok (.ireturn, 1) := by decide +kernel
theorem dL_law_1486 : decode cL_law 1486 = .ok (.goto 1428, 3) := by decide +kernel
theorem dL_law_1489 : decode cL_law 1489 = .ok (.aload_n 1, 1) := by decide +kernel
theorem dL_law_1490 : decode cL_law 1490 = .ok (.aload_n 0, 1) := by decide +kernel
theorem dL_law_1491 : decode cL_law 1491 = .ok (.iload 4, 2) := by decide +kernel
theorem dL_law_1493 : decode cL_law 1493 = .ok (.iconst 1, 1) := by decide +kernel
theorem dL_law_1494 : decode cL_law 1494 = .ok (.iadd, 1) := by decide +kernel
theorem dL_law_1495 : decode cL_law 1495 = .ok (.iaload, 1) := by decide +kernel
theorem dL_law_1496 : decode cL_law 1496 = .ok (.aload_n 0, 1) := by decide +kernel
theorem dL_law_1497 : decode cL_law 1497 = .ok (.iload 4, 2) := by decide +kernel
theorem dL_law_1499 : decode cL_law 1499 = .ok (.iconst 2, 1) := by decide +kernel
theorem dL_law_1500 : decode cL_law 1500 = .ok (.iadd, 1) := by decide +kernel
theorem dL_law_1501 : decode cL_law 1501 = .ok (.iaload, 1) := by decide +kernel
theorem dL_law_1502 : decode cL_law 1502 = .ok (.aload_n 3, 1) := by decide +kernel
theorem dL_law_1503 : decode cL_law 1503 = .ok (.invokestatic 270, 3) := by decide +kernel
theorem dL_law_1506 : decode cL_law 1506 = .ok (.istore 5, 2) := by decide +kernel
theorem dL_law_1508 : decode cL_law 1508 = .ok (.aload_n 2, 1) := by decide +kernel
theorem dL_law_1509 : decode cL_law 1509 = .ok (.aload_n 0, 1) := by decide +kernel
theorem dL_law_1510 : decode cL_law 1510 = .ok (.iload 4, 2) := by decide +kernel
theorem dL_law_1512 : decode cL_law 1512 = .ok (.iconst 1, 1) := by decide +kernel
theorem dL_law_1513 : decode cL_law 1513 = .ok (.iadd, 1) := by decide +kernel
theorem dL_law_1514 : decode cL_law 1514 = .ok (.iaload, 1) := by decide +kernel
theorem dL_law_1515 : decode cL_law 1515 = .ok (.aload_n 0, 1) := by decide +kernel
theorem dL_law_1516 : decode cL_law 1516 = .ok (.iload 4, 2) := by decide +kernel
theorem dL_law_1518 : decode cL_law 1518 = .ok (.iconst 2, 1) := by decide +kernel
theorem dL_law_1519 : decode cL_law 1519 = .ok (.iadd, 1) := by decide +kernel
theorem dL_law_1520 : decode cL_law 1520 = .ok (.iaload, 1) := by decide +kernel
theorem dL_law_1521 : decode cL_law 1521 = .ok (.invokevirtual 272, 3) := by decide +kernel
theorem dL_law_1524 : decode cL_law 1524 = .ok (.istore 6, 2) := by decide +kernel
theorem dL_law_1526 : decode cL_law 1526 = .ok (.aload_n 2, 1) := by decide +kernel
theorem dL_law_1527 : decode cL_law 1527 = .ok (.invokevirtual 151, 3) := by decide +kernel
theorem dL_law_1530 : decode cL_law 1530 = .ok (.iload 5, 2) := by decide +kernel
theorem dL_law_1532 : decode cL_law 1532 = .ok (.if_icmp .eq 5, 3) := by decide +kernel
theorem dL_law_1535 : decode cL_law 1535 = .ok (.iconst 0, 1) := by decide +kernel
theorem dL_law_1536 : decode cL_law 1536 = .ok (.ireturn, 1) := by decide +kernel
theorem dL_law_1537 : decode cL_law 1537 = .ok (.iload 5, 2) := by decide +kernel
theorem dL_law_1539 : decode cL_law 1539 = .ok (.ifCond .ne 15, 3) := by decide +kernel
theorem dL_law_1542 : decode cL_law 1542 = .ok (.aload_n 3, 1) := by decide +kernel
theorem dL_law_1543 : decode cL_law 1543 = .ok (.iconst 0, 1) := by decide +kernel
theorem dL_law_1544 : decode cL_law 1544 = .ok (.laload, 1) := by decide +kernel
theorem dL_law_1545 : decode cL_law 1545 = .ok (.iload 6, 2) := by decide +kernel
theorem dL_law_1547 : decode cL_law 1547 = .ok (.i2l, 1) := by decide +kernel
theorem dL_law_1548 : decode cL_law 1548 = .ok (.lcmp, 1) := by decide +kernel
theorem dL_law_1549 : decode cL_law 1549 = .ok (.ifCond .eq 5, 3) := by decide +kernel
theorem dL_law_1552 : decode cL_law 1552 = .ok (.iconst 0, 1) := by decide +kernel
theorem dL_law_1553 : decode cL_law 1553 = .ok (.ireturn, 1) := by decide +kernel
theorem dL_law_1554 : decode cL_law 1554 = .ok (.goto 1360, 3) := by decide +kernel
theorem dL_law_1557 : decode cL_law 1557 = .ok (.aload_n 1, 1) := by decide +kernel
theorem dL_law_1558 : decode cL_law 1558 = .ok (.aload_n 0, 1) := by decide +kernel
theorem dL_law_1559 : decode cL_law 1559 = .ok (.iload 4, 2) := by decide +kernel
theorem dL_law_1561 : decode cL_law 1561 = .ok (.iconst 1, 1) := by decide +kernel
theorem dL_law_1562 : decode cL_law 1562 = .ok (.iadd, 1) := by decide +kernel
theorem dL_law_1563 : decode cL_law 1563 = .ok (.iaload, 1) := by decide +kernel
theorem dL_law_1564 : decode cL_law 1564 = .ok (.aload_n 3, 1) := by decide +kernel
theorem dL_law_1565 : decode cL_law 1565 = .ok (.invokestatic 273, 3) := by decide +kernel
theorem dL_law_1568 : decode cL_law 1568 = .ok (.istore 5, 2) := by decide +kernel
theorem dL_law_1570 : decode cL_law 1570 = .ok (.aload_n 2, 1) := by decide +kernel
theorem dL_law_1571 : decode cL_law 1571 = .ok (.aload_n 0, 1) := by decide +kernel
theorem dL_law_1572 : decode cL_law 1572 = .ok (.iload 4, 2) := by decide +kernel
theorem dL_law_1574 : decode cL_law 1574 = .ok (.iconst 1, 1) := by decide +kernel
theorem dL_law_1575 : decode cL_law 1575 = .ok (.iadd, 1) := by decide +kernel
theorem dL_law_1576 : decode cL_law 1576 = .ok (.iaload, 1) := by decide +kernel
theorem dL_law_1577 : decode cL_law 1577 = .ok (.invokevirtual 275, 3) := by decide +kernel
theorem dL_law_1580 : decode cL_law 1580 = .ok (.istore 6, 2) := by decide +kernel
theorem dL_law_1582 : decode cL_law 1582 = .ok (.aload_n 2, 1) := by decide +kernel
theorem dL_law_1583 : decode cL_law 1583 = .ok (.invokevirtual 151, 3) := by decide +kernel
theorem dL_law_1586 : decode cL_law 1586 = .ok (.iload 5, 2) := by decide +kernel
theorem dL_law_1588 : decode cL_law 1588 = .ok (.if_icmp .eq 5, 3) := by decide +kernel
theorem dL_law_1591 : decode cL_law 1591 = .ok (.iconst 0, 1) := by decide +kernel
theorem dL_law_1592 : decode cL_law 1592 = .ok (.ireturn, 1) := by decide +kernel
theorem dL_law_1593 : decode cL_law 1593 = .ok (.iload 5, 2) := by decide +kernel
theorem dL_law_1595 : decode cL_law 1595 = .ok (.ifCond .ne 15, 3) := by decide +kernel
theorem dL_law_1598 : decode cL_law 1598 = .ok (.aload_n 3, 1) := by decide +kernel
theorem dL_law_1599 : decode cL_law 1599 = .ok (.iconst 0, 1) := by decide +kernel
theorem dL_law_1600 : decode cL_law 1600 = .ok (.laload, 1) := by decide +kernel
theorem dL_law_1601 : decode cL_law 1601 = .ok (.iload 6, 2) := by decide +kernel
theorem dL_law_1603 : decode cL_law 1603 = .ok (.i2l, 1) := by decide +kernel
theorem dL_law_1604 : decode cL_law 1604 = .ok (.lcmp, 1) := by decide +kernel
theorem dL_law_1605 : decode cL_law 1605 = .ok (.ifCond .eq 5, 3) := by decide +kernel
theorem dL_law_1608 : decode cL_law 1608 = .ok (.iconst 0, 1) := by decide +kernel
theorem dL_law_1609 : decode cL_law 1609 = .ok (.ireturn, 1) := by decide +kernel
theorem dL_law_1610 : decode cL_law 1610 = .ok (.goto 1304, 3) := by decide +kernel
theorem dL_law_1613 : decode cL_law 1613 = .ok (.aload_n 1, 1) := by decide +kernel
theorem dL_law_1614 : decode cL_law 1614 = .ok (.aload_n 0, 1) := by decide +kernel
theorem dL_law_1615 : decode cL_law 1615 = .ok (.iload 4, 2) := by decide +kernel
theorem dL_law_1617 : decode cL_law 1617 = .ok (.iconst 1, 1) := by decide +kernel
theorem dL_law_1618 : decode cL_law 1618 = .ok (.iadd, 1) := by decide +kernel
theorem dL_law_1619 : decode cL_law 1619 = .ok (.iaload, 1) := by decide +kernel
theorem dL_law_1620 : decode cL_law 1620 = .ok (.aload_n 3, 1) := by decide +kernel
theorem dL_law_1621 : decode cL_law 1621 = .ok (.invokestatic 276, 3) := by decide +kernel
theorem dL_law_1624 : decode cL_law 1624 = .ok (.istore 5, 2) := by decide +kernel
theorem dL_law_1626 : decode cL_law 1626 = .ok (.aload_n 2, 1) := by decide +kernel
theorem dL_law_1627 : decode cL_law 1627 = .ok (.aload_n 0, 1) := by decide +kernel
theorem dL_law_1628 : decode cL_law 1628 = .ok (.iload 4, 2) := by decide +kernel
theorem dL_law_1630 : decode cL_law 1630 = .ok (.iconst 1, 1) := by decide +kernel
theorem dL_law_1631 : decode cL_law 1631 = .ok (.iadd, 1) := by decide +kernel
theorem dL_law_1632 : decode cL_law 1632 = .ok (.iaload, 1) := by decide +kernel
theorem dL_law_1633 : decode cL_law 1633 = .ok (.invokevirtual 278, 3) := by decide +kernel
theorem dL_law_1636 : decode cL_law 1636 = .ok (.istore 6, 2) := by decide +kernel
theorem dL_law_1638 : decode cL_law 1638 = .ok (.aload_n 2, 1) := by decide +kernel
theorem dL_law_1639 : decode cL_law 1639 = .ok (.invokevirtual 151, 3) := by decide +kernel
theorem dL_law_1642 : decode cL_law 1642 = .ok (.iload 5, 2) := by decide +kernel
theorem dL_law_1644 : decode cL_law 1644 = .ok (.if_icmp .eq 5, 3) := by decide +kernel
theorem dL_law_1647 : decode cL_law 1647 = .ok (.iconst 0, 1) := by decide +kernel
theorem dL_law_1648 : decode cL_law 1648 = .ok (.ireturn, 1) := by decide +kernel
theorem dL_law_1649 : decode cL_law 1649 = .ok (.iload 5, 2) := by decide +kernel
theorem dL_law_1651 : decode cL_law 1651 = .ok (.ifCond .ne 15, 3) := by decide +kernel
theorem dL_law_1654 : decode cL_law 1654 = .ok (.aload_n 3, 1) := by decide +kernel
theorem dL_law_1655 : decode cL_law 1655 = .ok (.iconst 0, 1) := by decide +kernel
theorem dL_law_1656 : decode cL_law 1656 = .ok (.laload, 1) := by decide +kernel
theorem dL_law_1657 : decode cL_law 1657 = .ok (.iload 6, 2) := by decide +kernel
theorem dL_law_1659 : decode cL_law 1659 = .ok (.i2l, 1) := by decide +kernel
theorem dL_law_1660 : decode cL_law 1660 = .ok (.lcmp, 1) := by decide +kernel
theorem dL_law_1661 : decode cL_law 1661 = .ok (.ifCond .eq 5, 3) := by decide +kernel
theorem dL_law_1664 : decode cL_law 1664 = .ok (.iconst 0, 1) := by decide +kernel
theorem dL_law_1665 : decode cL_law 1665 = .ok (.ireturn, 1) := by decide +kernel
theorem dL_law_1666 : decode cL_law 1666 = .ok (.goto 1248, 3) := by decide +kernel
theorem dL_law_1669 : decode cL_law 1669 = .ok (.aload_n 1, 1) := by decide +kernel
theorem dL_law_1670 : decode cL_law 1670 = .ok (.aload_n 0, 1) := by decide +kernel
theorem dL_law_1671 : decode cL_law 1671 = .ok (.iload 4, 2) := by decide +kernel
theorem dL_law_1673 : decode cL_law 1673 = .ok (.iconst 1, 1) := by decide +kernel
theorem dL_law_1674 : decode cL_law 1674 = .ok (.iadd, 1) := by decide +kernel
theorem dL_law_1675 : decode cL_law 1675 = .ok (.iaload, 1) := by decide +kernel
theorem dL_law_1676 : decode cL_law 1676 = .ok (.aload_n 0, 1) := by decide +kernel
theorem dL_law_1677 : decode cL_law 1677 = .ok (.iload 4, 2) := by decide +kernel
theorem dL_law_1679 : decode cL_law 1679 = .ok (.iconst 2, 1) := by decide +kernel
theorem dL_law_1680 : decode cL_law 1680 = .ok (.iadd, 1) := by decide +kernel
theorem dL_law_1681 : decode cL_law 1681 = .ok (.iaload, 1) := by decide +kernel
theorem dL_law_1682 : decode cL_law 1682 = .ok (.aload_n 3, 1) := by decide +kernel
theorem dL_law_1683 : decode cL_law 1683 = .ok (.invokestatic 279, 3) := by decide +kernel
theorem dL_law_1686 : decode cL_law 1686 = .ok (.istore 5, 2) := by decide +kernel
theorem dL_law_1688 : decode cL_law 1688 = .ok (.aload_n 2, 1) := by decide +kernel
theorem dL_law_1689 : decode cL_law 1689 = .ok (.aload_n 0, 1) := by decide +kernel
theorem dL_law_1690 : decode cL_law 1690 = .ok (.iload 4, 2) := by decide +kernel
theorem dL_law_1692 : decode cL_law 1692 = .ok (.iconst 1, 1) := by decide +kernel
theorem dL_law_1693 : decode cL_law 1693 = .ok (.iadd, 1) := by decide +kernel
theorem dL_law_1694 : decode cL_law 1694 = .ok (.iaload, 1) := by decide +kernel
theorem dL_law_1695 : decode cL_law 1695 = .ok (.aload_n 0, 1) := by decide +kernel
theorem dL_law_1696 : decode cL_law 1696 = .ok (.iload 4, 2) := by decide +kernel
theorem dL_law_1698 : decode cL_law 1698 = .ok (.iconst 2, 1) := by decide +kernel
theorem dL_law_1699 : decode cL_law 1699 = .ok (.iadd, 1) := by decide +kernel
theorem dL_law_1700 : decode cL_law 1700 = .ok (.iaload, 1) := by decide +kernel
theorem dL_law_1701 : decode cL_law 1701 = .ok (.invokevirtual 281, 3) := by decide +kernel
theorem dL_law_1704 : decode cL_law 1704 = .ok (.istore 6, 2) := by decide +kernel
theorem dL_law_1706 : decode cL_law 1706 = .ok (.aload_n 2, 1) := by decide +kernel
theorem dL_law_1707 : decode cL_law 1707 = .ok (.invokevirtual 151, 3) := by decide +kernel
theorem dL_law_1710 : decode cL_law 1710 = .ok (.iload 5, 2) := by decide +kernel
theorem dL_law_1712 : decode cL_law 1712 = .ok (.if_icmp .eq 5, 3) := by decide +kernel
theorem dL_law_1715 : decode cL_law 1715 = .ok (.iconst 0, 1) := by decide +kernel
theorem dL_law_1716 : decode cL_law 1716 = .ok (.ireturn, 1) := by decide +kernel
theorem dL_law_1717 : decode cL_law 1717 = .ok (.iload 5, 2) := by decide +kernel
theorem dL_law_1719 : decode cL_law 1719 = .ok (.ifCond .ne 15, 3) := by decide +kernel
theorem dL_law_1722 : decode cL_law 1722 = .ok (.aload_n 3, 1) := by decide +kernel
theorem dL_law_1723 : decode cL_law 1723 = .ok (.iconst 0, 1) := by decide +kernel
theorem dL_law_1724 : decode cL_law 1724 = .ok (.laload, 1) := by decide +kernel
theorem dL_law_1725 : decode cL_law 1725 = .ok (.iload 6, 2) := by decide +kernel
theorem dL_law_1727 : decode cL_law 1727 = .ok (.i2l, 1) := by decide +kernel
theorem dL_law_1728 : decode cL_law 1728 = .ok (.lcmp, 1) := by decide +kernel
theorem dL_law_1729 : decode cL_law 1729 = .ok (.ifCond .eq 5, 3) := by decide +kernel
theorem dL_law_1732 : decode cL_law 1732 = .ok (.iconst 0, 1) := by decide +kernel
theorem dL_law_1733 : decode cL_law 1733 = .ok (.ireturn, 1) := by decide +kernel
theorem dL_law_1734 : decode cL_law 1734 = .ok (.goto 1180, 3) := by decide +kernel
theorem dL_law_1737 : decode cL_law 1737 = .ok (.aload_n 1, 1) := by decide +kernel
theorem dL_law_1738 : decode cL_law 1738 = .ok (.aload_n 0, 1) := by decide +kernel
theorem dL_law_1739 : decode cL_law 1739 = .ok (.iload 4, 2) := by decide +kernel
theorem dL_law_1741 : decode cL_law 1741 = .ok (.iconst 1, 1) := by decide +kernel
theorem dL_law_1742 : decode cL_law 1742 = .ok (.iadd, 1) := by decide +kernel
theorem dL_law_1743 : decode cL_law 1743 = .ok (.iaload, 1) := by decide +kernel
theorem dL_law_1744 : decode cL_law 1744 = .ok (.aload_n 0, 1) := by decide +kernel
theorem dL_law_1745 : decode cL_law 1745 = .ok (.iload 4, 2) := by decide +kernel
theorem dL_law_1747 : decode cL_law 1747 = .ok (.iconst 2, 1) := by decide +kernel
theorem dL_law_1748 : decode cL_law 1748 = .ok (.iadd, 1) := by decide +kernel
theorem dL_law_1749 : decode cL_law 1749 = .ok (.iaload, 1) := by decide +kernel
theorem dL_law_1750 : decode cL_law 1750 = .ok (.aload_n 3, 1) := by decide +kernel
theorem dL_law_1751 : decode cL_law 1751 = .ok (.invokestatic 282, 3) := by decide +kernel
theorem dL_law_1754 : decode cL_law 1754 = .ok (.istore 5, 2) := by decide +kernel
theorem dL_law_1756 : decode cL_law 1756 = .ok (.aload_n 2, 1) := by decide +kernel
theorem dL_law_1757 : decode cL_law 1757 = .ok (.aload_n 0, 1) := by decide +kernel
theorem dL_law_1758 : decode cL_law 1758 = .ok (.iload 4, 2) := by decide +kernel
theorem dL_law_1760 : decode cL_law 1760 = .ok (.iconst 1, 1) := by decide +kernel
theorem dL_law_1761 : decode cL_law 1761 = .ok (.iadd, 1) := by decide +kernel
theorem dL_law_1762 : decode cL_law 1762 = .ok (.iaload, 1) := by decide +kernel
theorem dL_law_1763 : decode cL_law 1763 = .ok (.aload_n 0, 1) := by decide +kernel
theorem dL_law_1764 : decode cL_law 1764 = .ok (.iload 4, 2) := by decide +kernel
theorem dL_law_1766 : decode cL_law 1766 = .ok (.iconst 2, 1) := by decide +kernel
theorem dL_law_1767 : decode cL_law 1767 = .ok (.iadd, 1) := by decide +kernel
theorem dL_law_1768 : decode cL_law 1768 = .ok (.iaload, 1) := by decide +kernel
theorem dL_law_1769 : decode cL_law 1769 = .ok (.invokevirtual 284, 3) := by decide +kernel
theorem dL_law_1772 : decode cL_law 1772 = .ok (.istore 6, 2) := by decide +kernel
theorem dL_law_1774 : decode cL_law 1774 = .ok (.aload_n 2, 1) := by decide +kernel
theorem dL_law_1775 : decode cL_law 1775 = .ok (.invokevirtual 151, 3) := by decide +kernel
theorem dL_law_1778 : decode cL_law 1778 = .ok (.iload 5, 2) := by decide +kernel
theorem dL_law_1780 : decode cL_law 1780 = .ok (.if_icmp .eq 5, 3) := by decide +kernel
theorem dL_law_1783 : decode cL_law 1783 = .ok (.iconst 0, 1) := by decide +kernel
theorem dL_law_1784 : decode cL_law 1784 = .ok (.ireturn, 1) := by decide +kernel
theorem dL_law_1785 : decode cL_law 1785 = .ok (.iload 5, 2) := by decide +kernel
theorem dL_law_1787 : decode cL_law 1787 = .ok (.ifCond .ne 15, 3) := by decide +kernel
theorem dL_law_1790 : decode cL_law 1790 = .ok (.aload_n 3, 1) := by decide +kernel
theorem dL_law_1791 : decode cL_law 1791 = .ok (.iconst 0, 1) := by decide +kernel
theorem dL_law_1792 : decode cL_law 1792 = .ok (.laload, 1) := by decide +kernel
theorem dL_law_1793 : decode cL_law 1793 = .ok (.iload 6, 2) := by decide +kernel
theorem dL_law_1795 : decode cL_law 1795 = .ok (.i2l, 1) := by decide +kernel
theorem dL_law_1796 : decode cL_law 1796 = .ok (.lcmp, 1) := by decide +kernel
theorem dL_law_1797 : decode cL_law 1797 = .ok (.ifCond .eq 5, 3) := by decide +kernel
theorem dL_law_1800 : decode cL_law 1800 = .ok (.iconst 0, 1) := by decide +kernel
theorem dL_law_1801 : decode cL_law 1801 = .ok (.ireturn, 1) := by decide +kernel
theorem dL_law_1802 : decode cL_law 1802 = .ok (.goto 1112, 3) := by decide +kernel
theorem dL_law_1805 : decode cL_law 1805 = .ok (.aload_n 1, 1) := by decide +kernel
theorem dL_law_1806 : decode cL_law 1806 = .ok (.aload_n 0, 1) := by decide +kernel
theorem dL_law_1807 : decode cL_law 1807 = .ok (.iload 4, 2) := by decide +kernel
theorem dL_law_1809 : decode cL_law 1809 = .ok (.iconst 1, 1) := by decide +kernel
theorem dL_law_1810 : decode cL_law 1810 = .ok (.iadd, 1) := by decide +kernel
theorem dL_law_1811 : decode cL_law 1811 = .ok (.iaload, 1) := by decide +kernel
theorem dL_law_1812 : decode cL_law 1812 = .ok (.aload_n 3, 1) := by decide +kernel
theorem dL_law_1813 : decode cL_law 1813 = .ok (.invokestatic 285, 3) := by decide +kernel
theorem dL_law_1816 : decode cL_law 1816 = .ok (.istore 5, 2) := by decide +kernel
theorem dL_law_1818 : decode cL_law 1818 = .ok (.aload_n 2, 1) := by decide +kernel
theorem dL_law_1819 : decode cL_law 1819 = .ok (.aload_n 0, 1) := by decide +kernel
theorem dL_law_1820 : decode cL_law 1820 = .ok (.iload 4, 2) := by decide +kernel
theorem dL_law_1822 : decode cL_law 1822 = .ok (.iconst 1, 1) := by decide +kernel
theorem dL_law_1823 : decode cL_law 1823 = .ok (.iadd, 1) := by decide +kernel
theorem dL_law_1824 : decode cL_law 1824 = .ok (.iaload, 1) := by decide +kernel
theorem dL_law_1825 : decode cL_law 1825 = .ok (.invokevirtual 287, 3) := by decide +kernel
theorem dL_law_1828 : decode cL_law 1828 = .ok (.istore 6, 2) := by decide +kernel
theorem dL_law_1830 : decode cL_law 1830 = .ok (.aload_n 2, 1) := by decide +kernel
theorem dL_law_1831 : decode cL_law 1831 = .ok (.invokevirtual 151, 3) := by decide +kernel
theorem dL_law_1834 : decode cL_law 1834 = .ok (.iload 5, 2) := by decide +kernel
theorem dL_law_1836 : decode cL_law 1836 = .ok (.if_icmp .eq 5, 3) := by decide +kernel
theorem dL_law_1839 : decode cL_law 1839 = .ok (.iconst 0, 1) := by decide +kernel
theorem dL_law_1840 : decode cL_law 1840 = .ok (.ireturn, 1) := by decide +kernel
theorem dL_law_1841 : decode cL_law 1841 = .ok (.iload 5, 2) := by decide +kernel
theorem dL_law_1843 : decode cL_law 1843 = .ok (.ifCond .ne 15, 3) := by decide +kernel
theorem dL_law_1846 : decode cL_law 1846 = .ok (.aload_n 3, 1) := by decide +kernel
theorem dL_law_1847 : decode cL_law 1847 = .ok (.iconst 0, 1) := by decide +kernel
theorem dL_law_1848 : decode cL_law 1848 = .ok (.laload, 1) := by decide +kernel
theorem dL_law_1849 : decode cL_law 1849 = .ok (.iload 6, 2) := by decide +kernel
theorem dL_law_1851 : decode cL_law 1851 = .ok (.i2l, 1) := by decide +kernel
theorem dL_law_1852 : decode cL_law 1852 = .ok (.lcmp, 1) := by decide +kernel
theorem dL_law_1853 : decode cL_law 1853 = .ok (.ifCond .eq 5, 3) := by decide +kernel
theorem dL_law_1856 : decode cL_law 1856 = .ok (.iconst 0, 1) := by decide +kernel
theorem dL_law_1857 : decode cL_law 1857 = .ok (.ireturn, 1) := by decide +kernel
theorem dL_law_1858 : decode cL_law 1858 = .ok (.goto 1056, 3) := by decide +kernel
theorem dL_law_1861 : decode cL_law 1861 = .ok (.aload_n 1, 1) := by decide +kernel
theorem dL_law_1862 : decode cL_law 1862 = .ok (.aload_n 0, 1) := by decide +kernel
theorem dL_law_1863 : decode cL_law 1863 = .ok (.iload 4, 2) := by decide +kernel
theorem dL_law_1865 : decode cL_law 1865 = .ok (.iconst 1, 1) := by decide +kernel
theorem dL_law_1866 : decode cL_law 1866 = .ok (.iadd, 1) := by decide +kernel
theorem dL_law_1867 : decode cL_law 1867 = .ok (.iaload, 1) := by decide +kernel
theorem dL_law_1868 : decode cL_law 1868 = .ok (.aload_n 3, 1) := by decide +kernel
theorem dL_law_1869 : decode cL_law 1869 = .ok (.invokestatic 288, 3) := by decide +kernel
theorem dL_law_1872 : decode cL_law 1872 = .ok (.istore 5, 2) := by decide +kernel
theorem dL_law_1874 : decode cL_law 1874 = .ok (.aload_n 2, 1) := by decide +kernel
theorem dL_law_1875 : decode cL_law 1875 = .ok (.aload_n 0, 1) := by decide +kernel
theorem dL_law_1876 : decode cL_law 1876 = .ok (.iload 4, 2) := by decide +kernel
theorem dL_law_1878 : decode cL_law 1878 = .ok (.iconst 1, 1) := by decide +kernel
theorem dL_law_1879 : decode cL_law 1879 = .ok (.iadd, 1) := by decide +kernel
theorem dL_law_1880 : decode cL_law 1880 = .ok (.iaload, 1) := by decide +kernel
theorem dL_law_1881 : decode cL_law 1881 = .ok (.invokevirtual 290, 3) := by decide +kernel
theorem dL_law_1884 : decode cL_law 1884 = .ok (.istore 6, 2) := by decide +kernel
theorem dL_law_1886 : decode cL_law 1886 = .ok (.aload_n 2, 1) := by decide +kernel
theorem dL_law_1887 : decode cL_law 1887 = .ok (.invokevirtual 151, 3) := by decide +kernel
theorem dL_law_1890 : decode cL_law 1890 = .ok (.iload 5, 2) := by decide +kernel
theorem dL_law_1892 : decode cL_law 1892 = .ok (.if_icmp .eq 5, 3) := by decide +kernel
theorem dL_law_1895 : decode cL_law 1895 = .ok (.iconst 0, 1) := by decide +kernel
theorem dL_law_1896 : decode cL_law 1896 = .ok (.ireturn, 1) := by decide +kernel
theorem dL_law_1897 : decode cL_law 1897 = .ok (.iload 5, 2) := by decide +kernel
theorem dL_law_1899 : decode cL_law 1899 = .ok (.ifCond .ne 15, 3) := by decide +kernel
theorem dL_law_1902 : decode cL_law 1902 = .ok (.aload_n 3, 1) := by decide +kernel
theorem dL_law_1903 : decode cL_law 1903 = .ok (.iconst 0, 1) := by decide +kernel
theorem dL_law_1904 : decode cL_law 1904 = .ok (.laload, 1) := by decide +kernel
theorem dL_law_1905 : decode cL_law 1905 = .ok (.iload 6, 2) := by decide +kernel
theorem dL_law_1907 : decode cL_law 1907 = .ok (.i2l, 1) := by decide +kernel
theorem dL_law_1908 : decode cL_law 1908 = .ok (.lcmp, 1) := by decide +kernel
theorem dL_law_1909 : decode cL_law 1909 = .ok (.ifCond .eq 5, 3) := by decide +kernel
theorem dL_law_1912 : decode cL_law 1912 = .ok (.iconst 0, 1) := by decide +kernel
theorem dL_law_1913 : decode cL_law 1913 = .ok (.ireturn, 1) := by decide +kernel
theorem dL_law_1914 : decode cL_law 1914 = .ok (.goto 1000, 3) := by decide +kernel
theorem dL_law_1917 : decode cL_law 1917 = .ok (.aload_n 1, 1) := by decide +kernel
theorem dL_law_1918 : decode cL_law 1918 = .ok (.aload_n 0, 1) := by decide +kernel
theorem dL_law_1919 : decode cL_law 1919 = .ok (.iload 4, 2) := by decide +kernel
theorem dL_law_1921 : decode cL_law 1921 = .ok (.iconst 1, 1) := by decide +kernel
theorem dL_law_1922 : decode cL_law 1922 = .ok (.iadd, 1) := by decide +kernel
theorem dL_law_1923 : decode cL_law 1923 = .ok (.iaload, 1) := by decide +kernel
theorem dL_law_1924 : decode cL_law 1924 = .ok (.aload_n 3, 1) := by decide +kernel
theorem dL_law_1925 : decode cL_law 1925 = .ok (.invokestatic 291, 3) := by decide +kernel
theorem dL_law_1928 : decode cL_law 1928 = .ok (.istore 5, 2) := by decide +kernel
theorem dL_law_1930 : decode cL_law 1930 = .ok (.aload_n 2, 1) := by decide +kernel
theorem dL_law_1931 : decode cL_law 1931 = .ok (.aload_n 0, 1) := by decide +kernel
theorem dL_law_1932 : decode cL_law 1932 = .ok (.iload 4, 2) := by decide +kernel
theorem dL_law_1934 : decode cL_law 1934 = .ok (.iconst 1, 1) := by decide +kernel
theorem dL_law_1935 : decode cL_law 1935 = .ok (.iadd, 1) := by decide +kernel
theorem dL_law_1936 : decode cL_law 1936 = .ok (.iaload, 1) := by decide +kernel
theorem dL_law_1937 : decode cL_law 1937 = .ok (.invokevirtual 293, 3) := by decide +kernel
theorem dL_law_1940 : decode cL_law 1940 = .ok (.istore 6, 2) := by decide +kernel
theorem dL_law_1942 : decode cL_law 1942 = .ok (.aload_n 2, 1) := by decide +kernel
theorem dL_law_1943 : decode cL_law 1943 = .ok (.invokevirtual 151, 3) := by decide +kernel
theorem dL_law_1946 : decode cL_law 1946 = .ok (.iload 5, 2) := by decide +kernel
theorem dL_law_1948 : decode cL_law 1948 = .ok (.if_icmp .eq 5, 3) := by decide +kernel
theorem dL_law_1951 : decode cL_law 1951 = .ok (.iconst 0, 1) := by decide +kernel
theorem dL_law_1952 : decode cL_law 1952 = .ok (.ireturn, 1) := by decide +kernel
theorem dL_law_1953 : decode cL_law 1953 = .ok (.iload 5, 2) := by decide +kernel
theorem dL_law_1955 : decode cL_law 1955 = .ok (.ifCond .ne 22, 3) := by decide +kernel
theorem dL_law_1958 : decode cL_law 1958 = .ok (.aload_n 3, 1) := by decide +kernel
theorem dL_law_1959 : decode cL_law 1959 = .ok (.iconst 0, 1) := by decide +kernel
theorem dL_law_1960 : decode cL_law 1960 = .ok (.laload, 1) := by decide +kernel
theorem dL_law_1961 : decode cL_law 1961 = .ok (.iload 6, 2) := by decide +kernel
theorem dL_law_1963 : decode cL_law 1963 = .ok (.ifCond .eq 7, 3) := by decide +kernel
theorem dL_law_1966 : decode cL_law 1966 = .ok (.lconst 1, 1) := by decide +kernel
theorem dL_law_1967 : decode cL_law 1967 = .ok (.goto 4, 3) := by decide +kernel
theorem dL_law_1970 : decode cL_law 1970 = .ok (.lconst 0, 1) := by decide +kernel
theorem dL_law_1971 : decode cL_law 1971 = .ok (.lcmp, 1) := by decide +kernel
theorem dL_law_1972 : decode cL_law 1972 = .ok (.ifCond .eq 5, 3) := by decide +kernel
theorem dL_law_1975 : decode cL_law 1975 = .ok (.iconst 0, 1) := by decide +kernel
theorem dL_law_1976 : decode cL_law 1976 = .ok (.ireturn, 1) := by decide +kernel
theorem dL_law_1977 : decode cL_law 1977 = .ok (.goto 937, 3) := by decide +kernel
theorem dL_law_1980 : decode cL_law 1980 = .ok (.aload_n 1, 1) := by decide +kernel
theorem dL_law_1981 : decode cL_law 1981 = .ok (.aload_n 0, 1) := by decide +kernel
theorem dL_law_1982 : decode cL_law 1982 = .ok (.iload 4, 2) := by decide +kernel
theorem dL_law_1984 : decode cL_law 1984 = .ok (.iconst 1, 1) := by decide +kernel
theorem dL_law_1985 : decode cL_law 1985 = .ok (.iadd, 1) := by decide +kernel
theorem dL_law_1986 : decode cL_law 1986 = .ok (.iaload, 1) := by decide +kernel
theorem dL_law_1987 : decode cL_law 1987 = .ok (.aload_n 3, 1) := by decide +kernel
theorem dL_law_1988 : decode cL_law 1988 = .ok (.invokestatic 294, 3) := by decide +kernel
theorem dL_law_1991 : decode cL_law 1991 = .ok (.istore 5, 2) := by decide +kernel
theorem dL_law_1993 : decode cL_law 1993 = .ok (.aload_n 2, 1) := by decide +kernel
theorem dL_law_1994 : decode cL_law 1994 = .ok (.aload_n 0, 1) := by decide +kernel
theorem dL_law_1995 : decode cL_law 1995 = .ok (.iload 4, 2) := by decide +kernel
theorem dL_law_1997 : decode cL_law 1997 = .ok (.iconst 1, 1) := by decide +kernel
theorem dL_law_1998 : decode cL_law 1998 = .ok (.iadd, 1) := by decide +kernel
theorem dL_law_1999 : decode cL_law 1999 = .ok (.iaload, 1) := by decide +kernel
theorem dL_law_2000 : decode cL_law 2000 = .ok (.invokevirtual 296, 3) := by decide +kernel
theorem dL_law_2003 : decode cL_law 2003 = .ok (.istore 6, 2) := by decide +kernel
theorem dL_law_2005 : decode cL_law 2005 = .ok (.aload_n 2, 1) := by decide +kernel
theorem dL_law_2006 : decode cL_law 2006 = .ok (.invokevirtual 151, 3) := by decide +kernel
theorem dL_law_2009 : decode cL_law 2009 = .ok (.iload 5, 2) := by decide +kernel
theorem dL_law_2011 : decode cL_law 2011 = .ok (.if_icmp .eq 5, 3) := by decide +kernel
theorem dL_law_2014 : decode cL_law 2014 = .ok (.iconst 0, 1) := by decide +kernel
theorem dL_law_2015 : decode cL_law 2015 = .ok (.ireturn, 1) := by decide +kernel
theorem dL_law_2016 : decode cL_law 2016 = .ok (.iload 5, 2) := by decide +kernel
theorem dL_law_2018 : decode cL_law 2018 = .ok (.ifCond .ne 22, 3) := by decide +kernel
theorem dL_law_2021 : decode cL_law 2021 = .ok (.aload_n 3, 1) := by decide +kernel
theorem dL_law_2022 : decode cL_law 2022 = .ok (.iconst 0, 1) := by decide +kernel
theorem dL_law_2023 : decode cL_law 2023 = .ok (.laload, 1) := by decide +kernel
theorem dL_law_2024 : decode cL_law 2024 = .ok (.iload 6, 2) := by decide +kernel
theorem dL_law_2026 : decode cL_law 2026 = .ok (.ifCond .eq 7, 3) := by decide +kernel
theorem dL_law_2029 : decode cL_law 2029 = .ok (.lconst 1, 1) := by decide +kernel
theorem dL_law_2030 : decode cL_law 2030 = .ok (.goto 4, 3) := by decide +kernel
theorem dL_law_2033 : decode cL_law 2033 = .ok (.lconst 0, 1) := by decide +kernel
theorem dL_law_2034 : decode cL_law 2034 = .ok (.lcmp, 1) := by decide +kernel
theorem dL_law_2035 : decode cL_law 2035 = .ok (.ifCond .eq 5, 3) := by decide +kernel
theorem dL_law_2038 : decode cL_law 2038 = .ok (.iconst 0, 1) := by decide +kernel
theorem dL_law_2039 : decode cL_law 2039 = .ok (.ireturn, 1) := by decide +kernel
theorem dL_law_2040 : decode cL_law 2040 = .ok (.goto 874, 3) := by decide +kernel
theorem dL_law_2043 : decode cL_law 2043 = .ok (.aload_n 1, 1) := by decide +kernel
theorem dL_law_2044 : decode cL_law 2044 = .ok (.aload_n 0, 1) := by decide +kernel
theorem dL_law_2045 : decode cL_law 2045 = .ok (.iload 4, 2) := by decide +kernel
theorem dL_law_2047 : decode cL_law 2047 = .ok (.iconst 1, 1) := by decide +kernel
theorem dL_law_2048 : decode cL_law 2048 = .ok (.iadd, 1) := by decide +kernel
theorem dL_law_2049 : decode cL_law 2049 = .ok (.iaload, 1) := by decide +kernel
