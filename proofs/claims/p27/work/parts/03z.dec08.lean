theorem dL_law_1274 : decode cL_law 1274 = .ok (.iload 20, 2) := by decide +kernel
theorem dL_law_1276 : decode cL_law 1276 = .ok (.i2l, 1) := by decide +kernel
theorem dL_law_1277 : decode cL_law 1277 = .ok (.lmul, 1) := by decide +kernel
theorem dL_law_1278 : decode cL_law 1278 = .ok (.ladd, 1) := by decide +kernel
theorem dL_law_1279 : decode cL_law 1279 = .ok (.lcmp, 1) := by decide +kernel
theorem dL_law_1280 : decode cL_law 1280 = .ok (.ifCond .ne 34, 3) := by decide +kernel
theorem dL_law_1283 : decode cL_law 1283 = .ok (.iload 21, 2) := by decide +kernel
theorem dL_law_1285 : decode cL_law 1285 = .ok (.ifCond .lt 29, 3) := by decide +kernel
theorem dL_law_1288 : decode cL_law 1288 = .ok (.iload 11, 2) := by decide +kernel
theorem dL_law_1290 : decode cL_law 1290 = .ok (.ifCond .eq 20, 3) := by decide +kernel
theorem dL_law_1293 : decode cL_law 1293 = .ok (.iload 26, 2) := by decide +kernel
theorem dL_law_1295 : decode cL_law 1295 = .ok (.ifCond .ne 15, 3) := by decide +kernel
theorem dL_law_1298 : decode cL_law 1298 = .ok (.aload_n 1, 1) := by decide +kernel
theorem dL_law_1299 : decode cL_law 1299 = .ok (.iload 18, 2) := by decide +kernel
theorem dL_law_1301 : decode cL_law 1301 = .ok (.invokevirtual 91, 3) := by decide +kernel
theorem dL_law_1304 : decode cL_law 1304 = .ok (.lload 24, 2) := by decide +kernel
theorem dL_law_1306 : decode cL_law 1306 = .ok (.lcmp, 1) := by decide +kernel
theorem dL_law_1307 : decode cL_law 1307 = .ok (.ifCond .ne 7, 3) := by decide +kernel
theorem dL_law_1310 : decode cL_law 1310 = .ok (.iconst 1, 1) := by decide +kernel
theorem dL_law_1311 : decode cL_law 1311 = .ok (.goto 4, 3) := by decide +kernel
theorem dL_law_1314 : decode cL_law 1314 = .ok (.iconst 0, 1) := by decide +kernel
theorem dL_law_1315 : decode cL_law 1315 = .ok (.istore 12, 2) := by decide +kernel
theorem dL_law_1317 : decode cL_law 1317 = .ok (.goto 118, 3) := by decide +kernel
theorem dL_law_1320 : decode cL_law 1320 = .ok (.iconst 0, 1) := by decide +kernel
theorem dL_law_1321 : decode cL_law 1321 = .ok (.istore 20, 2) := by decide +kernel
theorem dL_law_1323 : decode cL_law 1323 = .ok (.iconst 0, 1) := by decide +kernel
theorem dL_law_1324 : decode cL_law 1324 = .ok (.istore 21, 2) := by decide +kernel
theorem dL_law_1326 : decode cL_law 1326 = .ok (.aload_n 1, 1) := by decide +kernel
theorem dL_law_1327 : decode cL_law 1327 = .ok (.iload 19, 2) := by decide +kernel
theorem dL_law_1329 : decode cL_law 1329 = .ok (.invokevirtual 94, 3) := by decide +kernel
theorem dL_law_1332 : decode cL_law 1332 = .ok (.istore 22, 2) := by decide +kernel
theorem dL_law_1334 : decode cL_law 1334 = .ok (.iconst 0, 1) := by decide +kernel
theorem dL_law_1335 : decode cL_law 1335 = .ok (.istore 23, 2) := by decide +kernel
theorem dL_law_1337 : decode cL_law 1337 = .ok (.iload 23, 2) := by decide +kernel
theorem dL_law_1339 : decode cL_law 1339 = .ok (.bipush 6, 2) := by decide +kernel
theorem dL_law_1341 : decode cL_law 1341 = .ok (.if_icmp .ge 20, 3) := by decide +kernel
theorem dL_law_1344 : decode cL_law 1344 = .ok (.iload 20, 2) := by decide +kernel
theorem dL_law_1346 : decode cL_law 1346 = .ok (.aload_n 1, 1) := by decide +kernel
theorem dL_law_1347 : decode cL_law 1347 = .ok (.iload 23, 2) := by decide +kernel
theorem dL_law_1349 : decode cL_law 1349 = .ok (.invokevirtual 100, 3) := by decide +kernel
theorem dL_law_1352 : decode cL_law 1352 = .ok (.iadd, 1) := by decide +kernel
theorem dL_law_1353 : decode cL_law 1353 = .ok (.istore 20, 2) := by decide +kernel
theorem dL_law_1355 : decode cL_law 1355 = .ok (.iinc 23 1, 3) := by decide +kernel
theorem dL_law_1358 : decode cL_law 1358 = .ok (.goto (-21), 3) := by decide +kernel
theorem dL_law_1361 : decode cL_law 1361 = .ok (.aload_n 1, 1) := by decide +kernel
theorem dL_law_1362 : decode cL_law 1362 = .ok (.iload 19, 2) := by decide +kernel
theorem dL_law_1364 : decode cL_law 1364 = .ok (.invokevirtual 103, 3) := by decide +kernel
theorem dL_law_1367 : decode cL_law 1367 = .ok (.istore 23, 2) := by decide +kernel
theorem dL_law_1369 : decode cL_law 1369 = .ok (.iconst 0, 1) := by decide +kernel
theorem dL_law_1370 : decode cL_law 1370 = .ok (.istore 24, 2) := by decide +kernel
theorem dL_law_1372 : decode cL_law 1372 = .ok (.iload 24, 2) := by decide +kernel
theorem dL_law_1374 : decode cL_law 1374 = .ok (.bipush 6, 2) := by decide +kernel
theorem dL_law_1376 : decode cL_law 1376 = .ok (.if_icmp .ge 20, 3) := by decide +kernel
theorem dL_law_1379 : decode cL_law 1379 = .ok (.iload 21, 2) := by decide +kernel
theorem dL_law_1381 : decode cL_law 1381 = .ok (.aload_n 1, 1) := by decide +kernel
theorem dL_law_1382 : decode cL_law 1382 = .ok (.iload 24, 2) := by decide +kernel
theorem dL_law_1384 : decode cL_law 1384 = .ok (.invokevirtual 100, 3) := by decide +kernel
theorem dL_law_1387 : decode cL_law 1387 = .ok (.iadd, 1) := by decide +kernel
theorem dL_law_1388 : decode cL_law 1388 = .ok (.istore 21, 2) := by decide +kernel
theorem dL_law_1390 : decode cL_law 1390 = .ok (.iinc 24 1, 3) := by decide +kernel
theorem dL_law_1393 : decode cL_law 1393 = .ok (.goto (-21), 3) := by decide +kernel
theorem dL_law_1396 : decode cL_law 1396 = .ok (.iload 23, 2) := by decide +kernel
theorem dL_law_1398 : decode cL_law 1398 = .ok (.ifCond .lt 34, 3) := by decide +kernel
theorem dL_law_1401 : decode cL_law 1401 = .ok (.iload 23, 2) := by decide +kernel
theorem dL_law_1403 : decode cL_law 1403 = .ok (.bipush 7, 2) := by decide +kernel
theorem dL_law_1405 : decode cL_law 1405 = .ok (.if_icmp .ge 27, 3) := by decide +kernel
theorem dL_law_1408 : decode cL_law 1408 = .ok (.iload 21, 2) := by decide +kernel
theorem dL_law_1410 : decode cL_law 1410 = .ok (.iload 20, 2) := by decide +kernel
theorem dL_law_1412 : decode cL_law 1412 = .ok (.iload 23, 2) := by decide +kernel
theorem dL_law_1414 : decode cL_law 1414 = .ok (.iadd, 1) := by decide +kernel
theorem dL_law_1415 : decode cL_law 1415 = .ok (.if_icmp .ne 17, 3) := by decide +kernel
theorem dL_law_1418 : decode cL_law 1418 = .ok (.iload 22, 2) := by decide +kernel
theorem dL_law_1420 : decode cL_law 1420 = .ok (.ifCond .gt 8, 3) := by decide +kernel
theorem dL_law_1423 : decode cL_law 1423 = .ok (.iload 23, 2) := by decide +kernel
theorem dL_law_1425 : decode cL_law 1425 = .ok (.ifCond .ne 7, 3) := by decide +kernel
theorem dL_law_1428 : decode cL_law 1428 = .ok (.iconst 1, 1) := by decide +kernel
theorem dL_law_1429 : decode cL_law 1429 = .ok (.goto 4, 3) := by decide +kernel
theorem dL_law_1432 : decode cL_law 1432 = .ok (.iconst 0, 1) := by decide +kernel
theorem dL_law_1433 : decode cL_law 1433 = .ok (.istore 12, 2) := by decide +kernel
theorem dL_law_1435 : decode cL_law 1435 = .ok (.iload 12, 2) := by decide +kernel
theorem dL_law_1437 : decode cL_law 1437 = .ok (.ifCond .eq 76, 3) := by decide +kernel
theorem dL_law_1440 : decode cL_law 1440 = .ok (.iload 14, 2) := by decide +kernel
theorem dL_law_1442 : decode cL_law 1442 = .ok (.iconst 4, 1) := by decide +kernel
theorem dL_law_1443 : decode cL_law 1443 = .ok (.irem, 1) := by decide +kernel
theorem dL_law_1444 : decode cL_law 1444 = .ok (.ifCond .gt 20, 3) := by decide +kernel
theorem dL_law_1447 : decode cL_law 1447 = .ok (.aload_n 1, 1) := by decide +kernel
theorem dL_law_1448 : decode cL_law 1448 = .ok (.aload_n 2, 1) := by decide +kernel
theorem dL_law_1449 : decode cL_law 1449 = .ok (.aload_n 3, 1) := by decide +kernel
theorem dL_law_1450 : decode cL_law 1450 = .ok (.aload 4, 2) := by decide +kernel
theorem dL_law_1452 : decode cL_law 1452 = .ok (.aload 6, 2) := by decide +kernel
theorem dL_law_1454 : decode cL_law 1454 = .ok (.bipush 14, 2) := by decide +kernel
theorem dL_law_1456 : decode cL_law 1456 = .ok (.iload 11, 2) := by decide +kernel
theorem dL_law_1458 : decode cL_law 1458 = .ok (.invokestatic 106, 3) := by decide +kernel
theorem dL_law_1461 : decode cL_law 1461 = .ok (.ifCond .eq 52, 3) := by decide +kernel
theorem dL_law_1464 : decode cL_law 1464 = .ok (.iload 11, 2) := by decide +kernel
theorem dL_law_1466 : decode cL_law 1466 = .ok (.ifCond .eq 18, 3) := by decide +kernel
theorem dL_law_1469 : decode cL_law 1469 = .ok (.aload_n 1, 1) := by decide +kernel
theorem dL_law_1470 : decode cL_law 1470 = .ok (.aload 6, 2) := by decide +kernel
theorem dL_law_1472 : decode cL_law 1472 = .ok (.aload 7, 2) := by decide +kernel
theorem dL_law_1474 : decode cL_law 1474 = .ok (.iload 18, 2) := by decide +kernel
theorem dL_law_1476 : decode cL_law 1476 = .ok (.iload 11, 2) := by decide +kernel
theorem dL_law_1478 : decode cL_law 1478 = .ok (.invokestatic 110, 3) := by decide +kernel
theorem dL_law_1481 : decode cL_law 1481 = .ok (.ifCond .eq 32, 3) := by decide +kernel
theorem dL_law_1484 : decode cL_law 1484 = .ok (.aload_n 1, 1) := by decide +kernel
theorem dL_law_1485 : decode cL_law 1485 = .ok (.aload 6, 2) := by decide +kernel
theorem dL_law_1487 : decode cL_law 1487 = .ok (.iload 16, 2) := by decide +kernel
theorem dL_law_1489 : decode cL_law 1489 = .ok (.bipush 14, 2) := by decide +kernel
theorem dL_law_1491 : decode cL_law 1491 = .ok (.irem, 1) := by decide +kernel
theorem dL_law_1492 : decode cL_law 1492 = .ok (.bipush 8, 2) := by decide +kernel
theorem dL_law_1494 : decode cL_law 1494 = .ok (.iload 16, 2) := by decide +kernel
theorem dL_law_1496 : decode cL_law 1496 = .ok (.iconst 4, 1) := by decide +kernel
theorem dL_law_1497 : decode cL_law 1497 = .ok (.ishr, 1) := by decide +kernel
theorem dL_law_1498 : decode cL_law 1498 = .ok (.iconst 2, 1) := by decide +kernel
theorem dL_law_1499 : decode cL_law 1499 = .ok (.irem, 1) := by decide +kernel
theorem dL_law_1500 : decode cL_law 1500 = .ok (.iadd, 1) := by decide +kernel
theorem dL_law_1501 : decode cL_law 1501 = .ok (.iload 11, 2) := by decide +kernel
theorem dL_law_1503 : decode cL_law 1503 = .ok (.invokestatic 114, 3) := by decide +kernel
theorem dL_law_1506 : decode cL_law 1506 = .ok (.ifCond .eq 7, 3) := by decide +kernel
theorem dL_law_1509 : decode cL_law 1509 = .ok (.iconst 1, 1) := by decide +kernel
theorem dL_law_1510 : decode cL_law 1510 = .ok (.goto 4, 3) := by decide +kernel
theorem dL_law_1513 : decode cL_law 1513 = .ok (.iconst 0, 1) := by decide +kernel
theorem dL_law_1514 : decode cL_law 1514 = .ok (.istore 12, 2) := by decide +kernel
theorem dL_law_1516 : decode cL_law 1516 = .ok (.iload 12, 2) := by decide +kernel
theorem dL_law_1518 : decode cL_law 1518 = .ok (.ifCond .eq 99, 3) := by decide +kernel
theorem dL_law_1521 : decode cL_law 1521 = .ok (.iload 14, 2) := by decide +kernel
theorem dL_law_1523 : decode cL_law 1523 = .ok (.bipush 40, 2) := by decide +kernel
theorem dL_law_1525 : decode cL_law 1525 = .ok (.irem, 1) := by decide +kernel
theorem dL_law_1526 : decode cL_law 1526 = .ok (.bipush 27, 2) := by decide +kernel
theorem dL_law_1528 : decode cL_law 1528 = .ok (.if_icmp .ne 89, 3) := by decide +kernel
theorem dL_law_1531 : decode cL_law 1531 = .ok (.lconst 0, 1) := by decide +kernel
theorem dL_law_1532 : decode cL_law 1532 = .ok (.lstore 20, 2) := by decide +kernel
theorem dL_law_1534 : decode cL_law 1534 = .ok (.iload 16, 2) := by decide +kernel
theorem dL_law_1536 : decode cL_law 1536 = .ok (.bipush 6, 2) := by decide +kernel
theorem dL_law_1538 : decode cL_law 1538 = .ok (.irem, 1) := by decide +kernel
theorem dL_law_1539 : decode cL_law 1539 = .ok (.istore 22, 2) := by decide +kernel
theorem dL_law_1541 : decode cL_law 1541 = .ok (.iconst 0, 1) := by decide +kernel
theorem dL_law_1542 : decode cL_law 1542 = .ok (.istore 23, 2) := by decide +kernel
theorem dL_law_1544 : decode cL_law 1544 = .ok (.iload 23, 2) := by decide +kernel
theorem dL_law_1546 : decode cL_law 1546 = .ok (.iload 11, 2) := by decide +kernel
theorem dL_law_1548 : decode cL_law 1548 = .ok (.if_icmp .ge 34, 3) := by decide +kernel
theorem dL_law_1551 : decode cL_law 1551 = .ok (.lload 20, 2) := by decide +kernel
theorem dL_law_1553 : decode cL_law 1553 = .ok (.aload 8, 2) := by decide +kernel
theorem dL_law_1555 : decode cL_law 1555 = .ok (.iload 23, 2) := by decide +kernel
theorem dL_law_1557 : decode cL_law 1557 = .ok (.iaload, 1) := by decide +kernel
theorem dL_law_1558 : decode cL_law 1558 = .ok (.iload 22, 2) := by decide +kernel
theorem dL_law_1560 : decode cL_law 1560 = .ok (.if_icmp .ne 12, 3) := by decide +kernel
theorem dL_law_1563 : decode cL_law 1563 = .ok (.aload_n 1, 1) := by decide +kernel
theorem dL_law_1564 : decode cL_law 1564 = .ok (.iload 23, 2) := by decide +kernel
theorem dL_law_1566 : decode cL_law 1566 = .ok (.invokevirtual 91, 3) := by decide +kernel
theorem dL_law_1569 : decode cL_law 1569 = .ok (.goto 4, 3) := by decide +kernel
theorem dL_law_1572 : decode cL_law 1572 = .ok (.lconst 0, 1) := by decide +kernel
theorem dL_law_1573 : decode cL_law 1573 = .ok (.ladd, 1) := by decide +kernel
theorem dL_law_1574 : decode cL_law 1574 = .ok (.lstore 20, 2) := by decide +kernel
theorem dL_law_1576 : decode cL_law 1576 = .ok (.iinc 23 1, 3) := by decide +kernel
theorem dL_law_1579 : decode cL_law 1579 = .ok (.goto (-35), 3) := by decide +kernel
theorem dL_law_1582 : decode cL_law 1582 = .ok (.aload_n 1, 1) := by decide +kernel
theorem dL_law_1583 : decode cL_law 1583 = .ok (.iload 22, 2) := by decide +kernel
theorem dL_law_1585 : decode cL_law 1585 = .ok (.invokevirtual 118, 3) := by decide +kernel
theorem dL_law_1588 : decode cL_law 1588 = .ok (.lload 20, 2) := by decide +kernel
theorem dL_law_1590 : decode cL_law 1590 = .ok (.lcmp, 1) := by decide +kernel
theorem dL_law_1591 : decode cL_law 1591 = .ok (.ifCond .ne 23, 3) := by decide +kernel
theorem dL_law_1594 : decode cL_law 1594 = .ok (.aload_n 1, 1) := by decide +kernel
theorem dL_law_1595 : decode cL_law 1595 = .ok (.iload 19, 2) := by decide +kernel
theorem dL_law_1597 : decode cL_law 1597 = .ok (.invokevirtual 121, 3) := by decide +kernel
theorem dL_law_1600 : decode cL_law 1600 = .ok (.aload_n 1, 1) := by decide +kernel
theorem dL_law_1601 : decode cL_law 1601 = .ok (.iload 19, 2) := by decide +kernel
theorem dL_law_1603 : decode cL_law 1603 = .ok (.invokevirtual 97, 3) := by decide +kernel
theorem dL_law_1606 : decode cL_law 1606 = .ok (.lcmp, 1) := by decide +kernel
theorem dL_law_1607 : decode cL_law 1607 = .ok (.ifCond .ne 7, 3) := by decide +kernel
theorem dL_law_1610 : decode cL_law 1610 = .ok (.iconst 1, 1) := by decide +kernel
theorem dL_law_1611 : decode cL_law 1611 = .ok (.goto 4, 3) := by decide +kernel
theorem dL_law_1614 : decode cL_law 1614 = .ok (.iconst 0, 1) := by decide +kernel
theorem dL_law_1615 : decode cL_law 1615 = .ok (.istore 12, 2) := by decide +kernel
theorem dL_law_1617 : decode cL_law 1617 = .ok (.iinc 14 1, 3) := by decide +kernel
theorem dL_law_1620 : decode cL_law 1620 = .ok (.goto (-1228), 3) := by decide +kernel
theorem dL_law_1623 : decode cL_law 1623 = .ok (.iload 12, 2) := by decide +kernel
theorem dL_law_1625 : decode cL_law 1625 = .ok (.ireturn, 1) := by decide +kernel
