theorem d_LW_law_1239 : decode code 1239 = .ok (.iconst 1, 1) := by decide +kernel
theorem d_LW_law_1240 : decode code 1240 = .ok (.iadd, 1) := by decide +kernel
theorem d_LW_law_1241 : decode code 1241 = .ok (.iaload, 1) := by decide +kernel
theorem d_LW_law_1242 : decode code 1242 = .ok (.aload_n 0, 1) := by decide +kernel
theorem d_LW_law_1243 : decode code 1243 = .ok (.iload 4, 2) := by decide +kernel
theorem d_LW_law_1245 : decode code 1245 = .ok (.iconst 2, 1) := by decide +kernel
theorem d_LW_law_1246 : decode code 1246 = .ok (.iadd, 1) := by decide +kernel
theorem d_LW_law_1247 : decode code 1247 = .ok (.iaload, 1) := by decide +kernel
theorem d_LW_law_1248 : decode code 1248 = .ok (.invokevirtual 165, 3) := by decide +kernel
theorem d_LW_law_1251 : decode code 1251 = .ok (.istore 6, 2) := by decide +kernel
theorem d_LW_law_1253 : decode code 1253 = .ok (.aload_n 2, 1) := by decide +kernel
theorem d_LW_law_1254 : decode code 1254 = .ok (.invokevirtual 106, 3) := by decide +kernel
theorem d_LW_law_1257 : decode code 1257 = .ok (.iload 5, 2) := by decide +kernel
theorem d_LW_law_1259 : decode code 1259 = .ok (.if_icmp .eq 5, 3) := by decide +kernel
theorem d_LW_law_1262 : decode code 1262 = .ok (.iconst 0, 1) := by decide +kernel
theorem d_LW_law_1263 : decode code 1263 = .ok (.ireturn, 1) := by decide +kernel
theorem d_LW_law_1264 : decode code 1264 = .ok (.iload 5, 2) := by decide +kernel
theorem d_LW_law_1266 : decode code 1266 = .ok (.ifCond .ne 15, 3) := by decide +kernel
theorem d_LW_law_1269 : decode code 1269 = .ok (.aload_n 3, 1) := by decide +kernel
theorem d_LW_law_1270 : decode code 1270 = .ok (.iconst 0, 1) := by decide +kernel
theorem d_LW_law_1271 : decode code 1271 = .ok (.laload, 1) := by decide +kernel
theorem d_LW_law_1272 : decode code 1272 = .ok (.iload 6, 2) := by decide +kernel
theorem d_LW_law_1274 : decode code 1274 = .ok (.i2l, 1) := by decide +kernel
theorem d_LW_law_1275 : decode code 1275 = .ok (.lcmp, 1) := by decide +kernel
theorem d_LW_law_1276 : decode code 1276 = .ok (.ifCond .eq 5, 3) := by decide +kernel
theorem d_LW_law_1279 : decode code 1279 = .ok (.iconst 0, 1) := by decide +kernel
theorem d_LW_law_1280 : decode code 1280 = .ok (.ireturn, 1) := by decide +kernel
theorem d_LW_law_1281 : decode code 1281 = .ok (.goto 330, 3) := by decide +kernel
theorem d_LW_law_1284 : decode code 1284 = .ok (.aload_n 1, 1) := by decide +kernel
theorem d_LW_law_1285 : decode code 1285 = .ok (.aload_n 0, 1) := by decide +kernel
theorem d_LW_law_1286 : decode code 1286 = .ok (.iload 4, 2) := by decide +kernel
theorem d_LW_law_1288 : decode code 1288 = .ok (.iconst 1, 1) := by decide +kernel
theorem d_LW_law_1289 : decode code 1289 = .ok (.iadd, 1) := by decide +kernel
theorem d_LW_law_1290 : decode code 1290 = .ok (.iaload, 1) := by decide +kernel
theorem d_LW_law_1291 : decode code 1291 = .ok (.aload_n 3, 1) := by decide +kernel
theorem d_LW_law_1292 : decode code 1292 = .ok (.invokestatic 166, 3) := by decide +kernel
theorem d_LW_law_1295 : decode code 1295 = .ok (.istore 5, 2) := by decide +kernel
theorem d_LW_law_1297 : decode code 1297 = .ok (.aload_n 2, 1) := by decide +kernel
theorem d_LW_law_1298 : decode code 1298 = .ok (.aload_n 0, 1) := by decide +kernel
theorem d_LW_law_1299 : decode code 1299 = .ok (.iload 4, 2) := by decide +kernel
theorem d_LW_law_1301 : decode code 1301 = .ok (.iconst 1, 1) := by decide +kernel
theorem d_LW_law_1302 : decode code 1302 = .ok (.iadd, 1) := by decide +kernel
theorem d_LW_law_1303 : decode code 1303 = .ok (.iaload, 1) := by decide +kernel
theorem d_LW_law_1304 : decode code 1304 = .ok (.invokevirtual 168, 3) := by decide +kernel
theorem d_LW_law_1307 : decode code 1307 = .ok (.istore 6, 2) := by decide +kernel
theorem d_LW_law_1309 : decode code 1309 = .ok (.aload_n 2, 1) := by decide +kernel
theorem d_LW_law_1310 : decode code 1310 = .ok (.invokevirtual 106, 3) := by decide +kernel
theorem d_LW_law_1313 : decode code 1313 = .ok (.iload 5, 2) := by decide +kernel
theorem d_LW_law_1315 : decode code 1315 = .ok (.if_icmp .eq 5, 3) := by decide +kernel
theorem d_LW_law_1318 : decode code 1318 = .ok (.iconst 0, 1) := by decide +kernel
theorem d_LW_law_1319 : decode code 1319 = .ok (.ireturn, 1) := by decide +kernel
theorem d_LW_law_1320 : decode code 1320 = .ok (.iload 5, 2) := by decide +kernel
theorem d_LW_law_1322 : decode code 1322 = .ok (.ifCond .ne 15, 3) := by decide +kernel
theorem d_LW_law_1325 : decode code 1325 = .ok (.aload_n 3, 1) := by decide +kernel
theorem d_LW_law_1326 : decode code 1326 = .ok (.iconst 0, 1) := by decide +kernel
theorem d_LW_law_1327 : decode code 1327 = .ok (.laload, 1) := by decide +kernel
theorem d_LW_law_1328 : decode code 1328 = .ok (.iload 6, 2) := by decide +kernel
theorem d_LW_law_1330 : decode code 1330 = .ok (.i2l, 1) := by decide +kernel
theorem d_LW_law_1331 : decode code 1331 = .ok (.lcmp, 1) := by decide +kernel
theorem d_LW_law_1332 : decode code 1332 = .ok (.ifCond .eq 5, 3) := by decide +kernel
theorem d_LW_law_1335 : decode code 1335 = .ok (.iconst 0, 1) := by decide +kernel
theorem d_LW_law_1336 : decode code 1336 = .ok (.ireturn, 1) := by decide +kernel
theorem d_LW_law_1337 : decode code 1337 = .ok (.goto 274, 3) := by decide +kernel
theorem d_LW_law_1340 : decode code 1340 = .ok (.aload_n 1, 1) := by decide +kernel
theorem d_LW_law_1341 : decode code 1341 = .ok (.aload_n 0, 1) := by decide +kernel
theorem d_LW_law_1342 : decode code 1342 = .ok (.iload 4, 2) := by decide +kernel
theorem d_LW_law_1344 : decode code 1344 = .ok (.iconst 1, 1) := by decide +kernel
theorem d_LW_law_1345 : decode code 1345 = .ok (.iadd, 1) := by decide +kernel
theorem d_LW_law_1346 : decode code 1346 = .ok (.iaload, 1) := by decide +kernel
theorem d_LW_law_1347 : decode code 1347 = .ok (.aload_n 0, 1) := by decide +kernel
theorem d_LW_law_1348 : decode code 1348 = .ok (.iload 4, 2) := by decide +kernel
theorem d_LW_law_1350 : decode code 1350 = .ok (.iconst 2, 1) := by decide +kernel
theorem d_LW_law_1351 : decode code 1351 = .ok (.iadd, 1) := by decide +kernel
theorem d_LW_law_1352 : decode code 1352 = .ok (.iaload, 1) := by decide +kernel
theorem d_LW_law_1353 : decode code 1353 = .ok (.aload_n 3, 1) := by decide +kernel
theorem d_LW_law_1354 : decode code 1354 = .ok (.invokestatic 169, 3) := by decide +kernel
theorem d_LW_law_1357 : decode code 1357 = .ok (.istore 5, 2) := by decide +kernel
theorem d_LW_law_1359 : decode code 1359 = .ok (.aload_n 2, 1) := by decide +kernel
theorem d_LW_law_1360 : decode code 1360 = .ok (.aload_n 0, 1) := by decide +kernel
theorem d_LW_law_1361 : decode code 1361 = .ok (.iload 4, 2) := by decide +kernel
theorem d_LW_law_1363 : decode code 1363 = .ok (.iconst 1, 1) := by decide +kernel
theorem d_LW_law_1364 : decode code 1364 = .ok (.iadd, 1) := by decide +kernel
theorem d_LW_law_1365 : decode code 1365 = .ok (.iaload, 1) := by decide +kernel
theorem d_LW_law_1366 : decode code 1366 = .ok (.aload_n 0, 1) := by decide +kernel
theorem d_LW_law_1367 : decode code 1367 = .ok (.iload 4, 2) := by decide +kernel
theorem d_LW_law_1369 : decode code 1369 = .ok (.iconst 2, 1) := by decide +kernel
theorem d_LW_law_1370 : decode code 1370 = .ok (.iadd, 1) := by decide +kernel
theorem d_LW_law_1371 : decode code 1371 = .ok (.iaload, 1) := by decide +kernel
theorem d_LW_law_1372 : decode code 1372 = .ok (.invokevirtual 171, 3) := by decide +kernel
theorem d_LW_law_1375 : decode code 1375 = .ok (.lstore 6, 2) := by decide +kernel
theorem d_LW_law_1377 : decode code 1377 = .ok (.aload_n 2, 1) := by decide +kernel
theorem d_LW_law_1378 : decode code 1378 = .ok (.invokevirtual 106, 3) := by decide +kernel
theorem d_LW_law_1381 : decode code 1381 = .ok (.iload 5, 2) := by decide +kernel
theorem d_LW_law_1383 : decode code 1383 = .ok (.if_icmp .eq 5, 3) := by decide +kernel
theorem d_LW_law_1386 : decode code 1386 = .ok (.iconst 0, 1) := by decide +kernel
theorem d_LW_law_1387 : decode code 1387 = .ok (.ireturn, 1) := by decide +kernel
theorem d_LW_law_1388 : decode code 1388 = .ok (.iload 5, 2) := by decide +kernel
theorem d_LW_law_1390 : decode code 1390 = .ok (.ifCond .ne 14, 3) := by decide +kernel
theorem d_LW_law_1393 : decode code 1393 = .ok (.aload_n 3, 1) := by decide +kernel
theorem d_LW_law_1394 : decode code 1394 = .ok (.iconst 0, 1) := by decide +kernel
theorem d_LW_law_1395 : decode code 1395 = .ok (.laload, 1) := by decide +kernel
theorem d_LW_law_1396 : decode code 1396 = .ok (.lload 6, 2) := by decide +kernel
theorem d_LW_law_1398 : decode code 1398 = .ok (.lcmp, 1) := by decide +kernel
theorem d_LW_law_1399 : decode code 1399 = .ok (.ifCond .eq 5, 3) := by decide +kernel
theorem d_LW_law_1402 : decode code 1402 = .ok (.iconst 0, 1) := by decide +kernel
theorem d_LW_law_1403 : decode code 1403 = .ok (.ireturn, 1) := by decide +kernel
theorem d_LW_law_1404 : decode code 1404 = .ok (.goto 207, 3) := by decide +kernel
theorem d_LW_law_1407 : decode code 1407 = .ok (.aload_n 1, 1) := by decide +kernel
theorem d_LW_law_1408 : decode code 1408 = .ok (.aload_n 0, 1) := by decide +kernel
theorem d_LW_law_1409 : decode code 1409 = .ok (.iload 4, 2) := by decide +kernel
theorem d_LW_law_1411 : decode code 1411 = .ok (.iconst 1, 1) := by decide +kernel
theorem d_LW_law_1412 : decode code 1412 = .ok (.iadd, 1) := by decide +kernel
theorem d_LW_law_1413 : decode code 1413 = .ok (.iaload, 1) := by decide +kernel
theorem d_LW_law_1414 : decode code 1414 = .ok (.aload_n 0, 1) := by decide +kernel
theorem d_LW_law_1415 : decode code 1415 = .ok (.iload 4, 2) := by decide +kernel
theorem d_LW_law_1417 : decode code 1417 = .ok (.iconst 2, 1) := by decide +kernel
theorem d_LW_law_1418 : decode code 1418 = .ok (.iadd, 1) := by decide +kernel
theorem d_LW_law_1419 : decode code 1419 = .ok (.iaload, 1) := by decide +kernel
theorem d_LW_law_1420 : decode code 1420 = .ok (.aload_n 3, 1) := by decide +kernel
theorem d_LW_law_1421 : decode code 1421 = .ok (.invokestatic 172, 3) := by decide +kernel
theorem d_LW_law_1424 : decode code 1424 = .ok (.istore 5, 2) := by decide +kernel
theorem d_LW_law_1426 : decode code 1426 = .ok (.aload_n 2, 1) := by decide +kernel
theorem d_LW_law_1427 : decode code 1427 = .ok (.aload_n 0, 1) := by decide +kernel
theorem d_LW_law_1428 : decode code 1428 = .ok (.iload 4, 2) := by decide +kernel
theorem d_LW_law_1430 : decode code 1430 = .ok (.iconst 1, 1) := by decide +kernel
theorem d_LW_law_1431 : decode code 1431 = .ok (.iadd, 1) := by decide +kernel
theorem d_LW_law_1432 : decode code 1432 = .ok (.iaload, 1) := by decide +kernel
theorem d_LW_law_1433 : decode code 1433 = .ok (.aload_n 0, 1) := by decide +kernel
theorem d_LW_law_1434 : decode code 1434 = .ok (.iload 4, 2) := by decide +kernel
theorem d_LW_law_1436 : decode code 1436 = .ok (.iconst 2, 1) := by decide +kernel
theorem d_LW_law_1437 : decode code 1437 = .ok (.iadd, 1) := by decide +kernel
theorem d_LW_law_1438 : decode code 1438 = .ok (.iaload, 1) := by decide +kernel
theorem d_LW_law_1439 : decode code 1439 = .ok (.invokevirtual 174, 3) := by decide +kernel
theorem d_LW_law_1442 : decode code 1442 = .ok (.istore 6, 2) := by decide +kernel
theorem d_LW_law_1444 : decode code 1444 = .ok (.aload_n 2, 1) := by decide +kernel
theorem d_LW_law_1445 : decode code 1445 = .ok (.invokevirtual 106, 3) := by decide +kernel
theorem d_LW_law_1448 : decode code 1448 = .ok (.iload 5, 2) := by decide +kernel
theorem d_LW_law_1450 : decode code 1450 = .ok (.if_icmp .eq 5, 3) := by decide +kernel
theorem d_LW_law_1453 : decode code 1453 = .ok (.iconst 0, 1) := by decide +kernel
theorem d_LW_law_1454 : decode code 1454 = .ok (.ireturn, 1) := by decide +kernel
theorem d_LW_law_1455 : decode code 1455 = .ok (.iload 5, 2) := by decide +kernel
theorem d_LW_law_1457 : decode code 1457 = .ok (.ifCond .ne 15, 3) := by decide +kernel
theorem d_LW_law_1460 : decode code 1460 = .ok (.aload_n 3, 1) := by decide +kernel
theorem d_LW_law_1461 : decode code 1461 = .ok (.iconst 0, 1) := by decide +kernel
theorem d_LW_law_1462 : decode code 1462 = .ok (.laload, 1) := by decide +kernel
theorem d_LW_law_1463 : decode code 1463 = .ok (.iload 6, 2) := by decide +kernel
theorem d_LW_law_1465 : decode code 1465 = .ok (.i2l, 1) := by decide +kernel
theorem d_LW_law_1466 : decode code 1466 = .ok (.lcmp, 1) := by decide +kernel
theorem d_LW_law_1467 : decode code 1467 = .ok (.ifCond .eq 5, 3) := by decide +kernel
theorem d_LW_law_1470 : decode code 1470 = .ok (.iconst 0, 1) := by decide +kernel
theorem d_LW_law_1471 : decode code 1471 = .ok (.ireturn, 1) := by decide +kernel
theorem d_LW_law_1472 : decode code 1472 = .ok (.goto 139, 3) := by decide +kernel
theorem d_LW_law_1475 : decode code 1475 = .ok (.aload_n 1, 1) := by decide +kernel
theorem d_LW_law_1476 : decode code 1476 = .ok (.aload_n 0, 1) := by decide +kernel
theorem d_LW_law_1477 : decode code 1477 = .ok (.iload 4, 2) := by decide +kernel
theorem d_LW_law_1479 : decode code 1479 = .ok (.iconst 1, 1) := by decide +kernel
theorem d_LW_law_1480 : decode code 1480 = .ok (.iadd, 1) := by decide +kernel
theorem d_LW_law_1481 : decode code 1481 = .ok (.iaload, 1) := by decide +kernel
theorem d_LW_law_1482 : decode code 1482 = .ok (.aload_n 0, 1) := by decide +kernel
theorem d_LW_law_1483 : decode code 1483 = .ok (.iload 4, 2) := by decide +kernel
theorem d_LW_law_1485 : decode code 1485 = .ok (.iconst 2, 1) := by decide +kernel
theorem d_LW_law_1486 : decode code 1486 = .ok (.iadd, 1) := by decide +kernel
theorem d_LW_law_1487 : decode code 1487 = .ok (.iaload, 1) := by decide +kernel
theorem d_LW_law_1488 : decode code 1488 = .ok (.aload_n 0, 1) := by decide +kernel
theorem d_LW_law_1489 : decode code 1489 = .ok (.iload 4, 2) := by decide +kernel
theorem d_LW_law_1491 : decode code 1491 = .ok (.iconst 3, 1) := by decide +kernel
theorem d_LW_law_1492 : decode code 1492 = .ok (.iadd, 1) := by decide +kernel
theorem d_LW_law_1493 : decode code 1493 = .ok (.iaload, 1) := by decide +kernel
theorem d_LW_law_1494 : decode code 1494 = .ok (.aload_n 3, 1) := by decide +kernel
theorem d_LW_law_1495 : decode code 1495 = .ok (.invokestatic 175, 3) := by decide +kernel
theorem d_LW_law_1498 : decode code 1498 = .ok (.istore 5, 2) := by decide +kernel
theorem d_LW_law_1500 : decode code 1500 = .ok (.aload_n 2, 1) := by decide +kernel
theorem d_LW_law_1501 : decode code 1501 = .ok (.aload_n 0, 1) := by decide +kernel
theorem d_LW_law_1502 : decode code 1502 = .ok (.iload 4, 2) := by decide +kernel
theorem d_LW_law_1504 : decode code 1504 = .ok (.iconst 1, 1) := by decide +kernel
theorem d_LW_law_1505 : decode code 1505 = .ok (.iadd, 1) := by decide +kernel
theorem d_LW_law_1506 : decode code 1506 = .ok (.iaload, 1) := by decide +kernel
theorem d_LW_law_1507 : decode code 1507 = .ok (.aload_n 0, 1) := by decide +kernel
theorem d_LW_law_1508 : decode code 1508 = .ok (.iload 4, 2) := by decide +kernel
theorem d_LW_law_1510 : decode code 1510 = .ok (.iconst 2, 1) := by decide +kernel
theorem d_LW_law_1511 : decode code 1511 = .ok (.iadd, 1) := by decide +kernel
theorem d_LW_law_1512 : decode code 1512 = .ok (.iaload, 1) := by decide +kernel
theorem d_LW_law_1513 : decode code 1513 = .ok (.aload_n 0, 1) := by decide +kernel
theorem d_LW_law_1514 : decode code 1514 = .ok (.iload 4, 2) := by decide +kernel
theorem d_LW_law_1516 : decode code 1516 = .ok (.iconst 3, 1) := by decide +kernel
theorem d_LW_law_1517 : decode code 1517 = .ok (.iadd, 1) := by decide +kernel
theorem d_LW_law_1518 : decode code 1518 = .ok (.iaload, 1) := by decide +kernel
theorem d_LW_law_1519 : decode code 1519 = .ok (.invokevirtual 178, 3) := by decide +kernel
theorem d_LW_law_1522 : decode code 1522 = .ok (.istore 6, 2) := by decide +kernel
theorem d_LW_law_1524 : decode code 1524 = .ok (.aload_n 2, 1) := by decide +kernel
theorem d_LW_law_1525 : decode code 1525 = .ok (.invokevirtual 106, 3) := by decide +kernel
theorem d_LW_law_1528 : decode code 1528 = .ok (.iload 5, 2) := by decide +kernel
theorem d_LW_law_1530 : decode code 1530 = .ok (.if_icmp .eq 5, 3) := by decide +kernel
theorem d_LW_law_1533 : decode code 1533 = .ok (.iconst 0, 1) := by decide +kernel
theorem d_LW_law_1534 : decode code 1534 = .ok (.ireturn, 1) := by decide +kernel
theorem d_LW_law_1535 : decode code 1535 = .ok (.iload 5, 2) := by decide +kernel
theorem d_LW_law_1537 : decode code 1537 = .ok (.ifCond .ne 15, 3) := by decide +kernel
theorem d_LW_law_1540 : decode code 1540 = .ok (.aload_n 3, 1) := by decide +kernel
theorem d_LW_law_1541 : decode code 1541 = .ok (.iconst 0, 1) := by decide +kernel
theorem d_LW_law_1542 : decode code 1542 = .ok (.laload, 1) := by decide +kernel
theorem d_LW_law_1543 : decode code 1543 = .ok (.iload 6, 2) := by decide +kernel
theorem d_LW_law_1545 : decode code 1545 = .ok (.i2l, 1) := by decide +kernel
theorem d_LW_law_1546 : decode code 1546 = .ok (.lcmp, 1) := by decide +kernel
theorem d_LW_law_1547 : decode code 1547 = .ok (.ifCond .eq 5, 3) := by decide +kernel
theorem d_LW_law_1550 : decode code 1550 = .ok (.iconst 0, 1) := by decide +kernel
theorem d_LW_law_1551 : decode code 1551 = .ok (.ireturn, 1) := by decide +kernel
theorem d_LW_law_1552 : decode code 1552 = .ok (.goto 59, 3) := by decide +kernel
theorem d_LW_law_1555 : decode code 1555 = .ok (.aload_n 1, 1) := by decide +kernel
theorem d_LW_law_1556 : decode code 1556 = .ok (.aload_n 0, 1) := by decide +kernel
theorem d_LW_law_1557 : decode code 1557 = .ok (.iload 4, 2) := by decide +kernel
theorem d_LW_law_1559 : decode code 1559 = .ok (.iconst 1, 1) := by decide +kernel
theorem d_LW_law_1560 : decode code 1560 = .ok (.iadd, 1) := by decide +kernel
theorem d_LW_law_1561 : decode code 1561 = .ok (.iaload, 1) := by decide +kernel
theorem d_LW_law_1562 : decode code 1562 = .ok (.aload_n 3, 1) := by decide +kernel
theorem d_LW_law_1563 : decode code 1563 = .ok (.invokestatic 179, 3) := by decide +kernel
theorem d_LW_law_1566 : decode code 1566 = .ok (.istore 5, 2) := by decide +kernel
theorem d_LW_law_1568 : decode code 1568 = .ok (.aload_n 2, 1) := by decide +kernel
theorem d_LW_law_1569 : decode code 1569 = .ok (.aload_n 0, 1) := by decide +kernel
theorem d_LW_law_1570 : decode code 1570 = .ok (.iload 4, 2) := by decide +kernel
theorem d_LW_law_1572 : decode code 1572 = .ok (.iconst 1, 1) := by decide +kernel
theorem d_LW_law_1573 : decode code 1573 = .ok (.iadd, 1) := by decide +kernel
theorem d_LW_law_1574 : decode code 1574 = .ok (.iaload, 1) := by decide +kernel
theorem d_LW_law_1575 : decode code 1575 = .ok (.invokevirtual 181, 3) := by decide +kernel
theorem d_LW_law_1578 : decode code 1578 = .ok (.istore 6, 2) := by decide +kernel
theorem d_LW_law_1580 : decode code 1580 = .ok (.aload_n 2, 1) := by decide +kernel
theorem d_LW_law_1581 : decode code 1581 = .ok (.invokevirtual 106, 3) := by decide +kernel
theorem d_LW_law_1584 : decode code 1584 = .ok (.iload 5, 2) := by decide +kernel
theorem d_LW_law_1586 : decode code 1586 = .ok (.if_icmp .eq 5, 3) := by decide +kernel
theorem d_LW_law_1589 : decode code 1589 = .ok (.iconst 0, 1) := by decide +kernel
theorem d_LW_law_1590 : decode code 1590 = .ok (.ireturn, 1) := by decide +kernel
theorem d_LW_law_1591 : decode code 1591 = .ok (.iload 5, 2) := by decide +kernel
theorem d_LW_law_1593 : decode code 1593 = .ok (.ifCond .ne 15, 3) := by decide +kernel
theorem d_LW_law_1596 : decode code 1596 = .ok (.aload_n 3, 1) := by decide +kernel
theorem d_LW_law_1597 : decode code 1597 = .ok (.iconst 0, 1) := by decide +kernel
theorem d_LW_law_1598 : decode code 1598 = .ok (.laload, 1) := by decide +kernel
theorem d_LW_law_1599 : decode code 1599 = .ok (.iload 6, 2) := by decide +kernel
theorem d_LW_law_1601 : decode code 1601 = .ok (.i2l, 1) := by decide +kernel
theorem d_LW_law_1602 : decode code 1602 = .ok (.lcmp, 1) := by decide +kernel
theorem d_LW_law_1603 : decode code 1603 = .ok (.ifCond .eq 5, 3) := by decide +kernel
theorem d_LW_law_1606 : decode code 1606 = .ok (.iconst 0, 1) := by decide +kernel
theorem d_LW_law_1607 : decode code 1607 = .ok (.ireturn, 1) := by decide +kernel
theorem d_LW_law_1608 : decode code 1608 = .ok (.goto 3, 3) := by decide +kernel
theorem d_LW_law_1611 : decode code 1611 = .ok (.iinc 4 6, 3) := by decide +kernel
theorem d_LW_law_1614 : decode code 1614 = .ok (.goto (-1591), 3) := by decide +kernel
theorem d_LW_law_1617 : decode code 1617 = .ok (.iconst 1, 1) := by decide +kernel
theorem d_LW_law_1618 : decode code 1618 = .ok (.ireturn, 1) := by decide +kernel
