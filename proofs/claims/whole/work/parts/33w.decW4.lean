/-! decode rows of the law -/
theorem d_L_law_1177 : decode code 1177 = .ok (.iconst 0, 1) := by decide +kernel
theorem d_L_law_1178 : decode code 1178 = .ok (.ireturn, 1) := by decide +kernel
theorem d_L_law_1179 : decode code 1179 = .ok (.iload 5, 2) := by decide +kernel
theorem d_L_law_1181 : decode code 1181 = .ok (.ifCond .ne 22, 3) := by decide +kernel
theorem d_L_law_1184 : decode code 1184 = .ok (.aload_n 3, 1) := by decide +kernel
theorem d_L_law_1185 : decode code 1185 = .ok (.iconst 0, 1) := by decide +kernel
theorem d_L_law_1186 : decode code 1186 = .ok (.laload, 1) := by decide +kernel
theorem d_L_law_1187 : decode code 1187 = .ok (.iload 6, 2) := by decide +kernel
theorem d_L_law_1189 : decode code 1189 = .ok (.ifCond .eq 7, 3) := by decide +kernel
theorem d_L_law_1192 : decode code 1192 = .ok (.lconst 1, 1) := by decide +kernel
theorem d_L_law_1193 : decode code 1193 = .ok (.goto 4, 3) := by decide +kernel
theorem d_L_law_1196 : decode code 1196 = .ok (.lconst 0, 1) := by decide +kernel
theorem d_L_law_1197 : decode code 1197 = .ok (.lcmp, 1) := by decide +kernel
theorem d_L_law_1198 : decode code 1198 = .ok (.ifCond .eq 5, 3) := by decide +kernel
theorem d_L_law_1201 : decode code 1201 = .ok (.iconst 0, 1) := by decide +kernel
theorem d_L_law_1202 : decode code 1202 = .ok (.ireturn, 1) := by decide +kernel
theorem d_L_law_1203 : decode code 1203 = .ok (.goto 332, 3) := by decide +kernel
theorem d_L_law_1206 : decode code 1206 = .ok (.aload_n 1, 1) := by decide +kernel
theorem d_L_law_1207 : decode code 1207 = .ok (.aload_n 0, 1) := by decide +kernel
theorem d_L_law_1208 : decode code 1208 = .ok (.iload 4, 2) := by decide +kernel
theorem d_L_law_1210 : decode code 1210 = .ok (.iconst 1, 1) := by decide +kernel
theorem d_L_law_1211 : decode code 1211 = .ok (.iadd, 1) := by decide +kernel
theorem d_L_law_1212 : decode code 1212 = .ok (.iaload, 1) := by decide +kernel
theorem d_L_law_1213 : decode code 1213 = .ok (.aload_n 3, 1) := by decide +kernel
theorem d_L_law_1214 : decode code 1214 = .ok (.invokestatic 160, 3) := by decide +kernel
theorem d_L_law_1217 : decode code 1217 = .ok (.istore 5, 2) := by decide +kernel
theorem d_L_law_1219 : decode code 1219 = .ok (.aload_n 2, 1) := by decide +kernel
theorem d_L_law_1220 : decode code 1220 = .ok (.aload_n 0, 1) := by decide +kernel
theorem d_L_law_1221 : decode code 1221 = .ok (.iload 4, 2) := by decide +kernel
theorem d_L_law_1223 : decode code 1223 = .ok (.iconst 1, 1) := by decide +kernel
theorem d_L_law_1224 : decode code 1224 = .ok (.iadd, 1) := by decide +kernel
theorem d_L_law_1225 : decode code 1225 = .ok (.iaload, 1) := by decide +kernel
theorem d_L_law_1226 : decode code 1226 = .ok (.invokevirtual 162, 3) := by decide +kernel
theorem d_L_law_1229 : decode code 1229 = .ok (.istore 6, 2) := by decide +kernel
theorem d_L_law_1231 : decode code 1231 = .ok (.aload_n 2, 1) := by decide +kernel
theorem d_L_law_1232 : decode code 1232 = .ok (.invokevirtual 102, 3) := by decide +kernel
theorem d_L_law_1235 : decode code 1235 = .ok (.iload 5, 2) := by decide +kernel
theorem d_L_law_1237 : decode code 1237 = .ok (.if_icmp .eq 5, 3) := by decide +kernel
theorem d_L_law_1240 : decode code 1240 = .ok (.iconst 0, 1) := by decide +kernel
theorem d_L_law_1241 : decode code 1241 = .ok (.ireturn, 1) := by decide +kernel
theorem d_L_law_1242 : decode code 1242 = .ok (.iload 5, 2) := by decide +kernel
theorem d_L_law_1244 : decode code 1244 = .ok (.ifCond .ne 15, 3) := by decide +kernel
theorem d_L_law_1247 : decode code 1247 = .ok (.aload_n 3, 1) := by decide +kernel
theorem d_L_law_1248 : decode code 1248 = .ok (.iconst 0, 1) := by decide +kernel
theorem d_L_law_1249 : decode code 1249 = .ok (.laload, 1) := by decide +kernel
theorem d_L_law_1250 : decode code 1250 = .ok (.iload 6, 2) := by decide +kernel
theorem d_L_law_1252 : decode code 1252 = .ok (.i2l, 1) := by decide +kernel
theorem d_L_law_1253 : decode code 1253 = .ok (.lcmp, 1) := by decide +kernel
theorem d_L_law_1254 : decode code 1254 = .ok (.ifCond .eq 5, 3) := by decide +kernel
theorem d_L_law_1257 : decode code 1257 = .ok (.iconst 0, 1) := by decide +kernel
theorem d_L_law_1258 : decode code 1258 = .ok (.ireturn, 1) := by decide +kernel
theorem d_L_law_1259 : decode code 1259 = .ok (.goto 276, 3) := by decide +kernel
theorem d_L_law_1262 : decode code 1262 = .ok (.aload_n 1, 1) := by decide +kernel
theorem d_L_law_1263 : decode code 1263 = .ok (.aload_n 0, 1) := by decide +kernel
theorem d_L_law_1264 : decode code 1264 = .ok (.iload 4, 2) := by decide +kernel
theorem d_L_law_1266 : decode code 1266 = .ok (.iconst 1, 1) := by decide +kernel
theorem d_L_law_1267 : decode code 1267 = .ok (.iadd, 1) := by decide +kernel
theorem d_L_law_1268 : decode code 1268 = .ok (.iaload, 1) := by decide +kernel
theorem d_L_law_1269 : decode code 1269 = .ok (.aload_n 3, 1) := by decide +kernel
theorem d_L_law_1270 : decode code 1270 = .ok (.invokestatic 163, 3) := by decide +kernel
theorem d_L_law_1273 : decode code 1273 = .ok (.istore 5, 2) := by decide +kernel
theorem d_L_law_1275 : decode code 1275 = .ok (.aload_n 2, 1) := by decide +kernel
theorem d_L_law_1276 : decode code 1276 = .ok (.aload_n 0, 1) := by decide +kernel
theorem d_L_law_1277 : decode code 1277 = .ok (.iload 4, 2) := by decide +kernel
theorem d_L_law_1279 : decode code 1279 = .ok (.iconst 1, 1) := by decide +kernel
theorem d_L_law_1280 : decode code 1280 = .ok (.iadd, 1) := by decide +kernel
theorem d_L_law_1281 : decode code 1281 = .ok (.iaload, 1) := by decide +kernel
theorem d_L_law_1282 : decode code 1282 = .ok (.invokevirtual 165, 3) := by decide +kernel
theorem d_L_law_1285 : decode code 1285 = .ok (.istore 6, 2) := by decide +kernel
theorem d_L_law_1287 : decode code 1287 = .ok (.aload_n 2, 1) := by decide +kernel
theorem d_L_law_1288 : decode code 1288 = .ok (.invokevirtual 102, 3) := by decide +kernel
theorem d_L_law_1291 : decode code 1291 = .ok (.iload 5, 2) := by decide +kernel
theorem d_L_law_1293 : decode code 1293 = .ok (.if_icmp .eq 5, 3) := by decide +kernel
theorem d_L_law_1296 : decode code 1296 = .ok (.iconst 0, 1) := by decide +kernel
theorem d_L_law_1297 : decode code 1297 = .ok (.ireturn, 1) := by decide +kernel
theorem d_L_law_1298 : decode code 1298 = .ok (.iload 5, 2) := by decide +kernel
theorem d_L_law_1300 : decode code 1300 = .ok (.ifCond .ne 15, 3) := by decide +kernel
theorem d_L_law_1303 : decode code 1303 = .ok (.aload_n 3, 1) := by decide +kernel
theorem d_L_law_1304 : decode code 1304 = .ok (.iconst 0, 1) := by decide +kernel
theorem d_L_law_1305 : decode code 1305 = .ok (.laload, 1) := by decide +kernel
theorem d_L_law_1306 : decode code 1306 = .ok (.iload 6, 2) := by decide +kernel
theorem d_L_law_1308 : decode code 1308 = .ok (.i2l, 1) := by decide +kernel
theorem d_L_law_1309 : decode code 1309 = .ok (.lcmp, 1) := by decide +kernel
theorem d_L_law_1310 : decode code 1310 = .ok (.ifCond .eq 5, 3) := by decide +kernel
theorem d_L_law_1313 : decode code 1313 = .ok (.iconst 0, 1) := by decide +kernel
theorem d_L_law_1314 : decode code 1314 = .ok (.ireturn, 1) := by decide +kernel
theorem d_L_law_1315 : decode code 1315 = .ok (.goto 220, 3) := by decide +kernel
theorem d_L_law_1318 : decode code 1318 = .ok (.aload_n 1, 1) := by decide +kernel
theorem d_L_law_1319 : decode code 1319 = .ok (.aload_n 0, 1) := by decide +kernel
theorem d_L_law_1320 : decode code 1320 = .ok (.iload 4, 2) := by decide +kernel
theorem d_L_law_1322 : decode code 1322 = .ok (.iconst 1, 1) := by decide +kernel
theorem d_L_law_1323 : decode code 1323 = .ok (.iadd, 1) := by decide +kernel
theorem d_L_law_1324 : decode code 1324 = .ok (.iaload, 1) := by decide +kernel
theorem d_L_law_1325 : decode code 1325 = .ok (.aload_n 3, 1) := by decide +kernel
theorem d_L_law_1326 : decode code 1326 = .ok (.invokestatic 166, 3) := by decide +kernel
theorem d_L_law_1329 : decode code 1329 = .ok (.istore 5, 2) := by decide +kernel
theorem d_L_law_1331 : decode code 1331 = .ok (.aload_n 2, 1) := by decide +kernel
theorem d_L_law_1332 : decode code 1332 = .ok (.aload_n 0, 1) := by decide +kernel
theorem d_L_law_1333 : decode code 1333 = .ok (.iload 4, 2) := by decide +kernel
theorem d_L_law_1335 : decode code 1335 = .ok (.iconst 1, 1) := by decide +kernel
theorem d_L_law_1336 : decode code 1336 = .ok (.iadd, 1) := by decide +kernel
theorem d_L_law_1337 : decode code 1337 = .ok (.iaload, 1) := by decide +kernel
theorem d_L_law_1338 : decode code 1338 = .ok (.invokevirtual 168, 3) := by decide +kernel
theorem d_L_law_1341 : decode code 1341 = .ok (.istore 6, 2) := by decide +kernel
theorem d_L_law_1343 : decode code 1343 = .ok (.aload_n 2, 1) := by decide +kernel
theorem d_L_law_1344 : decode code 1344 = .ok (.invokevirtual 102, 3) := by decide +kernel
theorem d_L_law_1347 : decode code 1347 = .ok (.iload 5, 2) := by decide +kernel
theorem d_L_law_1349 : decode code 1349 = .ok (.if_icmp .eq 5, 3) := by decide +kernel
theorem d_L_law_1352 : decode code 1352 = .ok (.iconst 0, 1) := by decide +kernel
theorem d_L_law_1353 : decode code 1353 = .ok (.ireturn, 1) := by decide +kernel
theorem d_L_law_1354 : decode code 1354 = .ok (.iload 5, 2) := by decide +kernel
theorem d_L_law_1356 : decode code 1356 = .ok (.ifCond .ne 15, 3) := by decide +kernel
theorem d_L_law_1359 : decode code 1359 = .ok (.aload_n 3, 1) := by decide +kernel
theorem d_L_law_1360 : decode code 1360 = .ok (.iconst 0, 1) := by decide +kernel
theorem d_L_law_1361 : decode code 1361 = .ok (.laload, 1) := by decide +kernel
theorem d_L_law_1362 : decode code 1362 = .ok (.iload 6, 2) := by decide +kernel
theorem d_L_law_1364 : decode code 1364 = .ok (.i2l, 1) := by decide +kernel
theorem d_L_law_1365 : decode code 1365 = .ok (.lcmp, 1) := by decide +kernel
theorem d_L_law_1366 : decode code 1366 = .ok (.ifCond .eq 5, 3) := by decide +kernel
theorem d_L_law_1369 : decode code 1369 = .ok (.iconst 0, 1) := by decide +kernel
theorem d_L_law_1370 : decode code 1370 = .ok (.ireturn, 1) := by decide +kernel
theorem d_L_law_1371 : decode code 1371 = .ok (.goto 164, 3) := by decide +kernel
theorem d_L_law_1374 : decode code 1374 = .ok (.aload_n 1, 1) := by decide +kernel
theorem d_L_law_1375 : decode code 1375 = .ok (.aload_n 0, 1) := by decide +kernel
theorem d_L_law_1376 : decode code 1376 = .ok (.iload 4, 2) := by decide +kernel
theorem d_L_law_1378 : decode code 1378 = .ok (.iconst 1, 1) := by decide +kernel
theorem d_L_law_1379 : decode code 1379 = .ok (.iadd, 1) := by decide +kernel
theorem d_L_law_1380 : decode code 1380 = .ok (.iaload, 1) := by decide +kernel
theorem d_L_law_1381 : decode code 1381 = .ok (.aload_n 0, 1) := by decide +kernel
theorem d_L_law_1382 : decode code 1382 = .ok (.iload 4, 2) := by decide +kernel
theorem d_L_law_1384 : decode code 1384 = .ok (.iconst 2, 1) := by decide +kernel
theorem d_L_law_1385 : decode code 1385 = .ok (.iadd, 1) := by decide +kernel
theorem d_L_law_1386 : decode code 1386 = .ok (.iaload, 1) := by decide +kernel
theorem d_L_law_1387 : decode code 1387 = .ok (.aload_n 3, 1) := by decide +kernel
theorem d_L_law_1388 : decode code 1388 = .ok (.invokestatic 169, 3) := by decide +kernel
theorem d_L_law_1391 : decode code 1391 = .ok (.istore 5, 2) := by decide +kernel
theorem d_L_law_1393 : decode code 1393 = .ok (.aload_n 2, 1) := by decide +kernel
theorem d_L_law_1394 : decode code 1394 = .ok (.aload_n 0, 1) := by decide +kernel
theorem d_L_law_1395 : decode code 1395 = .ok (.iload 4, 2) := by decide +kernel
theorem d_L_law_1397 : decode code 1397 = .ok (.iconst 1, 1) := by decide +kernel
theorem d_L_law_1398 : decode code 1398 = .ok (.iadd, 1) := by decide +kernel
theorem d_L_law_1399 : decode code 1399 = .ok (.iaload, 1) := by decide +kernel
theorem d_L_law_1400 : decode code 1400 = .ok (.aload_n 0, 1) := by decide +kernel
theorem d_L_law_1401 : decode code 1401 = .ok (.iload 4, 2) := by decide +kernel
theorem d_L_law_1403 : decode code 1403 = .ok (.iconst 2, 1) := by decide +kernel
theorem d_L_law_1404 : decode code 1404 = .ok (.iadd, 1) := by decide +kernel
theorem d_L_law_1405 : decode code 1405 = .ok (.iaload, 1) := by decide +kernel
theorem d_L_law_1406 : decode code 1406 = .ok (.invokevirtual 172, 3) := by decide +kernel
theorem d_L_law_1409 : decode code 1409 = .ok (.istore 6, 2) := by decide +kernel
theorem d_L_law_1411 : decode code 1411 = .ok (.aload_n 2, 1) := by decide +kernel
theorem d_L_law_1412 : decode code 1412 = .ok (.invokevirtual 102, 3) := by decide +kernel
theorem d_L_law_1415 : decode code 1415 = .ok (.iload 5, 2) := by decide +kernel
theorem d_L_law_1417 : decode code 1417 = .ok (.if_icmp .eq 5, 3) := by decide +kernel
theorem d_L_law_1420 : decode code 1420 = .ok (.iconst 0, 1) := by decide +kernel
theorem d_L_law_1421 : decode code 1421 = .ok (.ireturn, 1) := by decide +kernel
theorem d_L_law_1422 : decode code 1422 = .ok (.iload 5, 2) := by decide +kernel
theorem d_L_law_1424 : decode code 1424 = .ok (.ifCond .ne 15, 3) := by decide +kernel
theorem d_L_law_1427 : decode code 1427 = .ok (.aload_n 3, 1) := by decide +kernel
theorem d_L_law_1428 : decode code 1428 = .ok (.iconst 0, 1) := by decide +kernel
theorem d_L_law_1429 : decode code 1429 = .ok (.laload, 1) := by decide +kernel
theorem d_L_law_1430 : decode code 1430 = .ok (.iload 6, 2) := by decide +kernel
theorem d_L_law_1432 : decode code 1432 = .ok (.i2l, 1) := by decide +kernel
theorem d_L_law_1433 : decode code 1433 = .ok (.lcmp, 1) := by decide +kernel
theorem d_L_law_1434 : decode code 1434 = .ok (.ifCond .eq 5, 3) := by decide +kernel
theorem d_L_law_1437 : decode code 1437 = .ok (.iconst 0, 1) := by decide +kernel
theorem d_L_law_1438 : decode code 1438 = .ok (.ireturn, 1) := by decide +kernel
theorem d_L_law_1439 : decode code 1439 = .ok (.goto 96, 3) := by decide +kernel
theorem d_L_law_1442 : decode code 1442 = .ok (.aload_n 1, 1) := by decide +kernel
theorem d_L_law_1443 : decode code 1443 = .ok (.aload_n 0, 1) := by decide +kernel
theorem d_L_law_1444 : decode code 1444 = .ok (.iload 4, 2) := by decide +kernel
theorem d_L_law_1446 : decode code 1446 = .ok (.iconst 1, 1) := by decide +kernel
theorem d_L_law_1447 : decode code 1447 = .ok (.iadd, 1) := by decide +kernel
theorem d_L_law_1448 : decode code 1448 = .ok (.iaload, 1) := by decide +kernel
theorem d_L_law_1449 : decode code 1449 = .ok (.aload_n 0, 1) := by decide +kernel
theorem d_L_law_1450 : decode code 1450 = .ok (.iload 4, 2) := by decide +kernel
theorem d_L_law_1452 : decode code 1452 = .ok (.iconst 2, 1) := by decide +kernel
theorem d_L_law_1453 : decode code 1453 = .ok (.iadd, 1) := by decide +kernel
theorem d_L_law_1454 : decode code 1454 = .ok (.iaload, 1) := by decide +kernel
theorem d_L_law_1455 : decode code 1455 = .ok (.aload_n 3, 1) := by decide +kernel
theorem d_L_law_1456 : decode code 1456 = .ok (.invokestatic 173, 3) := by decide +kernel
theorem d_L_law_1459 : decode code 1459 = .ok (.istore 5, 2) := by decide +kernel
theorem d_L_law_1461 : decode code 1461 = .ok (.aload_n 2, 1) := by decide +kernel
theorem d_L_law_1462 : decode code 1462 = .ok (.aload_n 0, 1) := by decide +kernel
theorem d_L_law_1463 : decode code 1463 = .ok (.iload 4, 2) := by decide +kernel
theorem d_L_law_1465 : decode code 1465 = .ok (.iconst 1, 1) := by decide +kernel
theorem d_L_law_1466 : decode code 1466 = .ok (.iadd, 1) := by decide +kernel
theorem d_L_law_1467 : decode code 1467 = .ok (.iaload, 1) := by decide +kernel
theorem d_L_law_1468 : decode code 1468 = .ok (.aload_n 0, 1) := by decide +kernel
theorem d_L_law_1469 : decode code 1469 = .ok (.iload 4, 2) := by decide +kernel
theorem d_L_law_1471 : decode code 1471 = .ok (.iconst 2, 1) := by decide +kernel
theorem d_L_law_1472 : decode code 1472 = .ok (.iadd, 1) := by decide +kernel
theorem d_L_law_1473 : decode code 1473 = .ok (.iaload, 1) := by decide +kernel
theorem d_L_law_1474 : decode code 1474 = .ok (.invokevirtual 175, 3) := by decide +kernel
theorem d_L_law_1477 : decode code 1477 = .ok (.istore 6, 2) := by decide +kernel
theorem d_L_law_1479 : decode code 1479 = .ok (.aload_n 2, 1) := by decide +kernel
theorem d_L_law_1480 : decode code 1480 = .ok (.invokevirtual 102, 3) := by decide +kernel
theorem d_L_law_1483 : decode code 1483 = .ok (.iload 5, 2) := by decide +kernel
theorem d_L_law_1485 : decode code 1485 = .ok (.if_icmp .eq 5, 3) := by decide +kernel
theorem d_L_law_1488 : decode code 1488 = .ok (.iconst 0, 1) := by decide +kernel
theorem d_L_law_1489 : decode code 1489 = .ok (.ireturn, 1) := by decide +kernel
theorem d_L_law_1490 : decode code 1490 = .ok (.iload 5, 2) := by decide +kernel
theorem d_L_law_1492 : decode code 1492 = .ok (.ifCond .ne 15, 3) := by decide +kernel
theorem d_L_law_1495 : decode code 1495 = .ok (.aload_n 3, 1) := by decide +kernel
theorem d_L_law_1496 : decode code 1496 = .ok (.iconst 0, 1) := by decide +kernel
theorem d_L_law_1497 : decode code 1497 = .ok (.laload, 1) := by decide +kernel
theorem d_L_law_1498 : decode code 1498 = .ok (.iload 6, 2) := by decide +kernel
theorem d_L_law_1500 : decode code 1500 = .ok (.i2l, 1) := by decide +kernel
theorem d_L_law_1501 : decode code 1501 = .ok (.lcmp, 1) := by decide +kernel
theorem d_L_law_1502 : decode code 1502 = .ok (.ifCond .eq 5, 3) := by decide +kernel
theorem d_L_law_1505 : decode code 1505 = .ok (.iconst 0, 1) := by decide +kernel
theorem d_L_law_1506 : decode code 1506 = .ok (.ireturn, 1) := by decide +kernel
theorem d_L_law_1507 : decode code 1507 = .ok (.goto 28, 3) := by decide +kernel
theorem d_L_law_1510 : decode code 1510 = .ok (.aload_n 1, 1) := by decide +kernel
theorem d_L_law_1511 : decode code 1511 = .ok (.aload_n 0, 1) := by decide +kernel
theorem d_L_law_1512 : decode code 1512 = .ok (.iload 4, 2) := by decide +kernel
theorem d_L_law_1514 : decode code 1514 = .ok (.iconst 1, 1) := by decide +kernel
theorem d_L_law_1515 : decode code 1515 = .ok (.iadd, 1) := by decide +kernel
theorem d_L_law_1516 : decode code 1516 = .ok (.iaload, 1) := by decide +kernel
theorem d_L_law_1517 : decode code 1517 = .ok (.invokevirtual 176, 3) := by decide +kernel
theorem d_L_law_1520 : decode code 1520 = .ok (.aload_n 2, 1) := by decide +kernel
theorem d_L_law_1521 : decode code 1521 = .ok (.aload_n 0, 1) := by decide +kernel
theorem d_L_law_1522 : decode code 1522 = .ok (.iload 4, 2) := by decide +kernel
theorem d_L_law_1524 : decode code 1524 = .ok (.iconst 1, 1) := by decide +kernel
theorem d_L_law_1525 : decode code 1525 = .ok (.iadd, 1) := by decide +kernel
theorem d_L_law_1526 : decode code 1526 = .ok (.iaload, 1) := by decide +kernel
theorem d_L_law_1527 : decode code 1527 = .ok (.invokevirtual 179, 3) := by decide +kernel
theorem d_L_law_1530 : decode code 1530 = .ok (.if_icmp .eq 5, 3) := by decide +kernel
theorem d_L_law_1533 : decode code 1533 = .ok (.iconst 0, 1) := by decide +kernel
theorem d_L_law_1534 : decode code 1534 = .ok (.ireturn, 1) := by decide +kernel
theorem d_L_law_1535 : decode code 1535 = .ok (.iinc 4 6, 3) := by decide +kernel
theorem d_L_law_1538 : decode code 1538 = .ok (.goto (-1515), 3) := by decide +kernel
theorem d_L_law_1541 : decode code 1541 = .ok (.iconst 1, 1) := by decide +kernel
theorem d_L_law_1542 : decode code 1542 = .ok (.ireturn, 1) := by decide +kernel
