/-! the law's instructions -/
theorem dLa_law_1265 : decode code 1265 = .ok (.iaload, 1) := by decide +kernel
theorem dLa_law_1266 : decode code 1266 = .ok (.ifCond .eq 7, 3) := by decide +kernel
theorem dLa_law_1269 : decode code 1269 = .ok (.iconst 1, 1) := by decide +kernel
theorem dLa_law_1270 : decode code 1270 = .ok (.goto 4, 3) := by decide +kernel
theorem dLa_law_1273 : decode code 1273 = .ok (.iconst 0, 1) := by decide +kernel
theorem dLa_law_1274 : decode code 1274 = .ok (.aload_n 3, 1) := by decide +kernel
theorem dLa_law_1275 : decode code 1275 = .ok (.invokestatic 134, 3) := by decide +kernel
theorem dLa_law_1278 : decode code 1278 = .ok (.istore 5, 2) := by decide +kernel
theorem dLa_law_1280 : decode code 1280 = .ok (.aload_n 2, 1) := by decide +kernel
theorem dLa_law_1281 : decode code 1281 = .ok (.aload_n 0, 1) := by decide +kernel
theorem dLa_law_1282 : decode code 1282 = .ok (.iload 4, 2) := by decide +kernel
theorem dLa_law_1284 : decode code 1284 = .ok (.iconst 1, 1) := by decide +kernel
theorem dLa_law_1285 : decode code 1285 = .ok (.iadd, 1) := by decide +kernel
theorem dLa_law_1286 : decode code 1286 = .ok (.iaload, 1) := by decide +kernel
theorem dLa_law_1287 : decode code 1287 = .ok (.aload_n 0, 1) := by decide +kernel
theorem dLa_law_1288 : decode code 1288 = .ok (.iload 4, 2) := by decide +kernel
theorem dLa_law_1290 : decode code 1290 = .ok (.iconst 2, 1) := by decide +kernel
theorem dLa_law_1291 : decode code 1291 = .ok (.iadd, 1) := by decide +kernel
theorem dLa_law_1292 : decode code 1292 = .ok (.iaload, 1) := by decide +kernel
theorem dLa_law_1293 : decode code 1293 = .ok (.aload_n 0, 1) := by decide +kernel
theorem dLa_law_1294 : decode code 1294 = .ok (.iload 4, 2) := by decide +kernel
theorem dLa_law_1296 : decode code 1296 = .ok (.iconst 3, 1) := by decide +kernel
theorem dLa_law_1297 : decode code 1297 = .ok (.iadd, 1) := by decide +kernel
theorem dLa_law_1298 : decode code 1298 = .ok (.iaload, 1) := by decide +kernel
theorem dLa_law_1299 : decode code 1299 = .ok (.ifCond .eq 7, 3) := by decide +kernel
theorem dLa_law_1302 : decode code 1302 = .ok (.iconst 1, 1) := by decide +kernel
theorem dLa_law_1303 : decode code 1303 = .ok (.goto 4, 3) := by decide +kernel
theorem dLa_law_1306 : decode code 1306 = .ok (.iconst 0, 1) := by decide +kernel
theorem dLa_law_1307 : decode code 1307 = .ok (.invokevirtual 136, 3) := by decide +kernel
theorem dLa_law_1310 : decode code 1310 = .ok (.istore 6, 2) := by decide +kernel
theorem dLa_law_1312 : decode code 1312 = .ok (.aload_n 2, 1) := by decide +kernel
theorem dLa_law_1313 : decode code 1313 = .ok (.invokevirtual 88, 3) := by decide +kernel
theorem dLa_law_1316 : decode code 1316 = .ok (.iload 5, 2) := by decide +kernel
theorem dLa_law_1318 : decode code 1318 = .ok (.if_icmp .eq 5, 3) := by decide +kernel
theorem dLa_law_1321 : decode code 1321 = .ok (.iconst 0, 1) := by decide +kernel
theorem dLa_law_1322 : decode code 1322 = .ok (.ireturn, 1) := by decide +kernel
theorem dLa_law_1323 : decode code 1323 = .ok (.iload 5, 2) := by decide +kernel
theorem dLa_law_1325 : decode code 1325 = .ok (.ifCond .ne 15, 3) := by decide +kernel
theorem dLa_law_1328 : decode code 1328 = .ok (.aload_n 3, 1) := by decide +kernel
theorem dLa_law_1329 : decode code 1329 = .ok (.iconst 0, 1) := by decide +kernel
theorem dLa_law_1330 : decode code 1330 = .ok (.laload, 1) := by decide +kernel
theorem dLa_law_1331 : decode code 1331 = .ok (.iload 6, 2) := by decide +kernel
theorem dLa_law_1333 : decode code 1333 = .ok (.i2l, 1) := by decide +kernel
theorem dLa_law_1334 : decode code 1334 = .ok (.lcmp, 1) := by decide +kernel
theorem dLa_law_1335 : decode code 1335 = .ok (.ifCond .eq 5, 3) := by decide +kernel
theorem dLa_law_1338 : decode code 1338 = .ok (.iconst 0, 1) := by decide +kernel
theorem dLa_law_1339 : decode code 1339 = .ok (.ireturn, 1) := by decide +kernel
theorem dLa_law_1340 : decode code 1340 = .ok (.goto 301, 3) := by decide +kernel
theorem dLa_law_1343 : decode code 1343 = .ok (.aload_n 1, 1) := by decide +kernel
theorem dLa_law_1344 : decode code 1344 = .ok (.aload_n 0, 1) := by decide +kernel
theorem dLa_law_1345 : decode code 1345 = .ok (.iload 4, 2) := by decide +kernel
theorem dLa_law_1347 : decode code 1347 = .ok (.iconst 1, 1) := by decide +kernel
theorem dLa_law_1348 : decode code 1348 = .ok (.iadd, 1) := by decide +kernel
theorem dLa_law_1349 : decode code 1349 = .ok (.iaload, 1) := by decide +kernel
theorem dLa_law_1350 : decode code 1350 = .ok (.aload_n 0, 1) := by decide +kernel
theorem dLa_law_1351 : decode code 1351 = .ok (.iload 4, 2) := by decide +kernel
theorem dLa_law_1353 : decode code 1353 = .ok (.iconst 2, 1) := by decide +kernel
theorem dLa_law_1354 : decode code 1354 = .ok (.iadd, 1) := by decide +kernel
theorem dLa_law_1355 : decode code 1355 = .ok (.iaload, 1) := by decide +kernel
theorem dLa_law_1356 : decode code 1356 = .ok (.aload_n 0, 1) := by decide +kernel
theorem dLa_law_1357 : decode code 1357 = .ok (.iload 4, 2) := by decide +kernel
theorem dLa_law_1359 : decode code 1359 = .ok (.iconst 3, 1) := by decide +kernel
theorem dLa_law_1360 : decode code 1360 = .ok (.iadd, 1) := by decide +kernel
theorem dLa_law_1361 : decode code 1361 = .ok (.iaload, 1) := by decide +kernel
theorem dLa_law_1362 : decode code 1362 = .ok (.aload_n 3, 1) := by decide +kernel
theorem dLa_law_1363 : decode code 1363 = .ok (.invokestatic 137, 3) := by decide +kernel
theorem dLa_law_1366 : decode code 1366 = .ok (.istore 5, 2) := by decide +kernel
theorem dLa_law_1368 : decode code 1368 = .ok (.aload_n 2, 1) := by decide +kernel
theorem dLa_law_1369 : decode code 1369 = .ok (.aload_n 0, 1) := by decide +kernel
theorem dLa_law_1370 : decode code 1370 = .ok (.iload 4, 2) := by decide +kernel
theorem dLa_law_1372 : decode code 1372 = .ok (.iconst 1, 1) := by decide +kernel
theorem dLa_law_1373 : decode code 1373 = .ok (.iadd, 1) := by decide +kernel
theorem dLa_law_1374 : decode code 1374 = .ok (.iaload, 1) := by decide +kernel
theorem dLa_law_1375 : decode code 1375 = .ok (.aload_n 0, 1) := by decide +kernel
theorem dLa_law_1376 : decode code 1376 = .ok (.iload 4, 2) := by decide +kernel
theorem dLa_law_1378 : decode code 1378 = .ok (.iconst 2, 1) := by decide +kernel
theorem dLa_law_1379 : decode code 1379 = .ok (.iadd, 1) := by decide +kernel
theorem dLa_law_1380 : decode code 1380 = .ok (.iaload, 1) := by decide +kernel
theorem dLa_law_1381 : decode code 1381 = .ok (.aload_n 0, 1) := by decide +kernel
theorem dLa_law_1382 : decode code 1382 = .ok (.iload 4, 2) := by decide +kernel
theorem dLa_law_1384 : decode code 1384 = .ok (.iconst 3, 1) := by decide +kernel
theorem dLa_law_1385 : decode code 1385 = .ok (.iadd, 1) := by decide +kernel
theorem dLa_law_1386 : decode code 1386 = .ok (.iaload, 1) := by decide +kernel
theorem dLa_law_1387 : decode code 1387 = .ok (.invokevirtual 140, 3) := by decide +kernel
theorem dLa_law_1390 : decode code 1390 = .ok (.lstore 6, 2) := by decide +kernel
theorem dLa_law_1392 : decode code 1392 = .ok (.aload_n 2, 1) := by decide +kernel
theorem dLa_law_1393 : decode code 1393 = .ok (.invokevirtual 88, 3) := by decide +kernel
theorem dLa_law_1396 : decode code 1396 = .ok (.iload 5, 2) := by decide +kernel
theorem dLa_law_1398 : decode code 1398 = .ok (.if_icmp .eq 5, 3) := by decide +kernel
theorem dLa_law_1401 : decode code 1401 = .ok (.iconst 0, 1) := by decide +kernel
theorem dLa_law_1402 : decode code 1402 = .ok (.ireturn, 1) := by decide +kernel
theorem dLa_law_1403 : decode code 1403 = .ok (.iload 5, 2) := by decide +kernel
theorem dLa_law_1405 : decode code 1405 = .ok (.ifCond .ne 14, 3) := by decide +kernel
theorem dLa_law_1408 : decode code 1408 = .ok (.aload_n 3, 1) := by decide +kernel
theorem dLa_law_1409 : decode code 1409 = .ok (.iconst 0, 1) := by decide +kernel
theorem dLa_law_1410 : decode code 1410 = .ok (.laload, 1) := by decide +kernel
theorem dLa_law_1411 : decode code 1411 = .ok (.lload 6, 2) := by decide +kernel
theorem dLa_law_1413 : decode code 1413 = .ok (.lcmp, 1) := by decide +kernel
theorem dLa_law_1414 : decode code 1414 = .ok (.ifCond .eq 5, 3) := by decide +kernel
theorem dLa_law_1417 : decode code 1417 = .ok (.iconst 0, 1) := by decide +kernel
theorem dLa_law_1418 : decode code 1418 = .ok (.ireturn, 1) := by decide +kernel
theorem dLa_law_1419 : decode code 1419 = .ok (.goto 222, 3) := by decide +kernel
theorem dLa_law_1422 : decode code 1422 = .ok (.aload_n 1, 1) := by decide +kernel
theorem dLa_law_1423 : decode code 1423 = .ok (.aload_n 0, 1) := by decide +kernel
theorem dLa_law_1424 : decode code 1424 = .ok (.iload 4, 2) := by decide +kernel
theorem dLa_law_1426 : decode code 1426 = .ok (.iconst 1, 1) := by decide +kernel
theorem dLa_law_1427 : decode code 1427 = .ok (.iadd, 1) := by decide +kernel
theorem dLa_law_1428 : decode code 1428 = .ok (.iaload, 1) := by decide +kernel
theorem dLa_law_1429 : decode code 1429 = .ok (.aload_n 0, 1) := by decide +kernel
theorem dLa_law_1430 : decode code 1430 = .ok (.iload 4, 2) := by decide +kernel
theorem dLa_law_1432 : decode code 1432 = .ok (.iconst 2, 1) := by decide +kernel
theorem dLa_law_1433 : decode code 1433 = .ok (.iadd, 1) := by decide +kernel
theorem dLa_law_1434 : decode code 1434 = .ok (.iaload, 1) := by decide +kernel
theorem dLa_law_1435 : decode code 1435 = .ok (.aload_n 3, 1) := by decide +kernel
theorem dLa_law_1436 : decode code 1436 = .ok (.invokestatic 141, 3) := by decide +kernel
theorem dLa_law_1439 : decode code 1439 = .ok (.istore 5, 2) := by decide +kernel
theorem dLa_law_1441 : decode code 1441 = .ok (.aload_n 2, 1) := by decide +kernel
theorem dLa_law_1442 : decode code 1442 = .ok (.aload_n 0, 1) := by decide +kernel
theorem dLa_law_1443 : decode code 1443 = .ok (.iload 4, 2) := by decide +kernel
theorem dLa_law_1445 : decode code 1445 = .ok (.iconst 1, 1) := by decide +kernel
theorem dLa_law_1446 : decode code 1446 = .ok (.iadd, 1) := by decide +kernel
theorem dLa_law_1447 : decode code 1447 = .ok (.iaload, 1) := by decide +kernel
theorem dLa_law_1448 : decode code 1448 = .ok (.aload_n 0, 1) := by decide +kernel
theorem dLa_law_1449 : decode code 1449 = .ok (.iload 4, 2) := by decide +kernel
theorem dLa_law_1451 : decode code 1451 = .ok (.iconst 2, 1) := by decide +kernel
theorem dLa_law_1452 : decode code 1452 = .ok (.iadd, 1) := by decide +kernel
theorem dLa_law_1453 : decode code 1453 = .ok (.iaload, 1) := by decide +kernel
theorem dLa_law_1454 : decode code 1454 = .ok (.invokevirtual 143, 3) := by decide +kernel
theorem dLa_law_1457 : decode code 1457 = .ok (.istore 6, 2) := by decide +kernel
theorem dLa_law_1459 : decode code 1459 = .ok (.aload_n 2, 1) := by decide +kernel
theorem dLa_law_1460 : decode code 1460 = .ok (.invokevirtual 88, 3) := by decide +kernel
theorem dLa_law_1463 : decode code 1463 = .ok (.iload 5, 2) := by decide +kernel
theorem dLa_law_1465 : decode code 1465 = .ok (.if_icmp .eq 5, 3) := by decide +kernel
theorem dLa_law_1468 : decode code 1468 = .ok (.iconst 0, 1) := by decide +kernel
theorem dLa_law_1469 : decode code 1469 = .ok (.ireturn, 1) := by decide +kernel
theorem dLa_law_1470 : decode code 1470 = .ok (.iload 5, 2) := by decide +kernel
theorem dLa_law_1472 : decode code 1472 = .ok (.ifCond .ne 15, 3) := by decide +kernel
theorem dLa_law_1475 : decode code 1475 = .ok (.aload_n 3, 1) := by decide +kernel
theorem dLa_law_1476 : decode code 1476 = .ok (.iconst 0, 1) := by decide +kernel
theorem dLa_law_1477 : decode code 1477 = .ok (.laload, 1) := by decide +kernel
theorem dLa_law_1478 : decode code 1478 = .ok (.iload 6, 2) := by decide +kernel
theorem dLa_law_1480 : decode code 1480 = .ok (.i2l, 1) := by decide +kernel
theorem dLa_law_1481 : decode code 1481 = .ok (.lcmp, 1) := by decide +kernel
theorem dLa_law_1482 : decode code 1482 = .ok (.ifCond .eq 5, 3) := by decide +kernel
theorem dLa_law_1485 : decode code 1485 = .ok (.iconst 0, 1) := by decide +kernel
theorem dLa_law_1486 : decode code 1486 = .ok (.ireturn, 1) := by decide +kernel
theorem dLa_law_1487 : decode code 1487 = .ok (.goto 154, 3) := by decide +kernel
theorem dLa_law_1490 : decode code 1490 = .ok (.aload_n 1, 1) := by decide +kernel
theorem dLa_law_1491 : decode code 1491 = .ok (.aload_n 0, 1) := by decide +kernel
theorem dLa_law_1492 : decode code 1492 = .ok (.iload 4, 2) := by decide +kernel
theorem dLa_law_1494 : decode code 1494 = .ok (.iconst 1, 1) := by decide +kernel
theorem dLa_law_1495 : decode code 1495 = .ok (.iadd, 1) := by decide +kernel
theorem dLa_law_1496 : decode code 1496 = .ok (.iaload, 1) := by decide +kernel
theorem dLa_law_1497 : decode code 1497 = .ok (.aload_n 0, 1) := by decide +kernel
theorem dLa_law_1498 : decode code 1498 = .ok (.iload 4, 2) := by decide +kernel
theorem dLa_law_1500 : decode code 1500 = .ok (.iconst 2, 1) := by decide +kernel
theorem dLa_law_1501 : decode code 1501 = .ok (.iadd, 1) := by decide +kernel
theorem dLa_law_1502 : decode code 1502 = .ok (.iaload, 1) := by decide +kernel
theorem dLa_law_1503 : decode code 1503 = .ok (.aload_n 0, 1) := by decide +kernel
theorem dLa_law_1504 : decode code 1504 = .ok (.iload 4, 2) := by decide +kernel
theorem dLa_law_1506 : decode code 1506 = .ok (.iconst 3, 1) := by decide +kernel
theorem dLa_law_1507 : decode code 1507 = .ok (.iadd, 1) := by decide +kernel
theorem dLa_law_1508 : decode code 1508 = .ok (.iaload, 1) := by decide +kernel
theorem dLa_law_1509 : decode code 1509 = .ok (.ifCond .eq 7, 3) := by decide +kernel
theorem dLa_law_1512 : decode code 1512 = .ok (.iconst 1, 1) := by decide +kernel
theorem dLa_law_1513 : decode code 1513 = .ok (.goto 4, 3) := by decide +kernel
theorem dLa_law_1516 : decode code 1516 = .ok (.iconst 0, 1) := by decide +kernel
theorem dLa_law_1517 : decode code 1517 = .ok (.aload_n 3, 1) := by decide +kernel
theorem dLa_law_1518 : decode code 1518 = .ok (.invokestatic 144, 3) := by decide +kernel
theorem dLa_law_1521 : decode code 1521 = .ok (.istore 5, 2) := by decide +kernel
theorem dLa_law_1523 : decode code 1523 = .ok (.aload_n 2, 1) := by decide +kernel
theorem dLa_law_1524 : decode code 1524 = .ok (.aload_n 0, 1) := by decide +kernel
theorem dLa_law_1525 : decode code 1525 = .ok (.iload 4, 2) := by decide +kernel
theorem dLa_law_1527 : decode code 1527 = .ok (.iconst 1, 1) := by decide +kernel
theorem dLa_law_1528 : decode code 1528 = .ok (.iadd, 1) := by decide +kernel
theorem dLa_law_1529 : decode code 1529 = .ok (.iaload, 1) := by decide +kernel
theorem dLa_law_1530 : decode code 1530 = .ok (.aload_n 0, 1) := by decide +kernel
theorem dLa_law_1531 : decode code 1531 = .ok (.iload 4, 2) := by decide +kernel
theorem dLa_law_1533 : decode code 1533 = .ok (.iconst 2, 1) := by decide +kernel
theorem dLa_law_1534 : decode code 1534 = .ok (.iadd, 1) := by decide +kernel
theorem dLa_law_1535 : decode code 1535 = .ok (.iaload, 1) := by decide +kernel
theorem dLa_law_1536 : decode code 1536 = .ok (.aload_n 0, 1) := by decide +kernel
theorem dLa_law_1537 : decode code 1537 = .ok (.iload 4, 2) := by decide +kernel
theorem dLa_law_1539 : decode code 1539 = .ok (.iconst 3, 1) := by decide +kernel
theorem dLa_law_1540 : decode code 1540 = .ok (.iadd, 1) := by decide +kernel
theorem dLa_law_1541 : decode code 1541 = .ok (.iaload, 1) := by decide +kernel
theorem dLa_law_1542 : decode code 1542 = .ok (.ifCond .eq 7, 3) := by decide +kernel
theorem dLa_law_1545 : decode code 1545 = .ok (.iconst 1, 1) := by decide +kernel
theorem dLa_law_1546 : decode code 1546 = .ok (.goto 4, 3) := by decide +kernel
theorem dLa_law_1549 : decode code 1549 = .ok (.iconst 0, 1) := by decide +kernel
theorem dLa_law_1550 : decode code 1550 = .ok (.invokevirtual 146, 3) := by decide +kernel
theorem dLa_law_1553 : decode code 1553 = .ok (.lstore 6, 2) := by decide +kernel
theorem dLa_law_1555 : decode code 1555 = .ok (.aload_n 2, 1) := by decide +kernel
theorem dLa_law_1556 : decode code 1556 = .ok (.invokevirtual 88, 3) := by decide +kernel
theorem dLa_law_1559 : decode code 1559 = .ok (.iload 5, 2) := by decide +kernel
theorem dLa_law_1561 : decode code 1561 = .ok (.if_icmp .eq 5, 3) := by decide +kernel
theorem dLa_law_1564 : decode code 1564 = .ok (.iconst 0, 1) := by decide +kernel
theorem dLa_law_1565 : decode code 1565 = .ok (.ireturn, 1) := by decide +kernel
theorem dLa_law_1566 : decode code 1566 = .ok (.iload 5, 2) := by decide +kernel
theorem dLa_law_1568 : decode code 1568 = .ok (.ifCond .ne 14, 3) := by decide +kernel
theorem dLa_law_1571 : decode code 1571 = .ok (.aload_n 3, 1) := by decide +kernel
theorem dLa_law_1572 : decode code 1572 = .ok (.iconst 0, 1) := by decide +kernel
theorem dLa_law_1573 : decode code 1573 = .ok (.laload, 1) := by decide +kernel
theorem dLa_law_1574 : decode code 1574 = .ok (.lload 6, 2) := by decide +kernel
theorem dLa_law_1576 : decode code 1576 = .ok (.lcmp, 1) := by decide +kernel
theorem dLa_law_1577 : decode code 1577 = .ok (.ifCond .eq 5, 3) := by decide +kernel
theorem dLa_law_1580 : decode code 1580 = .ok (.iconst 0, 1) := by decide +kernel
theorem dLa_law_1581 : decode code 1581 = .ok (.ireturn, 1) := by decide +kernel
theorem dLa_law_1582 : decode code 1582 = .ok (.goto 59, 3) := by decide +kernel
theorem dLa_law_1585 : decode code 1585 = .ok (.aload_n 1, 1) := by decide +kernel
theorem dLa_law_1586 : decode code 1586 = .ok (.aload_n 0, 1) := by decide +kernel
theorem dLa_law_1587 : decode code 1587 = .ok (.iload 4, 2) := by decide +kernel
theorem dLa_law_1589 : decode code 1589 = .ok (.iconst 1, 1) := by decide +kernel
theorem dLa_law_1590 : decode code 1590 = .ok (.iadd, 1) := by decide +kernel
theorem dLa_law_1591 : decode code 1591 = .ok (.iaload, 1) := by decide +kernel
theorem dLa_law_1592 : decode code 1592 = .ok (.aload_n 3, 1) := by decide +kernel
theorem dLa_law_1593 : decode code 1593 = .ok (.invokestatic 147, 3) := by decide +kernel
theorem dLa_law_1596 : decode code 1596 = .ok (.istore 5, 2) := by decide +kernel
theorem dLa_law_1598 : decode code 1598 = .ok (.aload_n 2, 1) := by decide +kernel
theorem dLa_law_1599 : decode code 1599 = .ok (.aload_n 0, 1) := by decide +kernel
theorem dLa_law_1600 : decode code 1600 = .ok (.iload 4, 2) := by decide +kernel
theorem dLa_law_1602 : decode code 1602 = .ok (.iconst 1, 1) := by decide +kernel
theorem dLa_law_1603 : decode code 1603 = .ok (.iadd, 1) := by decide +kernel
theorem dLa_law_1604 : decode code 1604 = .ok (.iaload, 1) := by decide +kernel
theorem dLa_law_1605 : decode code 1605 = .ok (.invokevirtual 149, 3) := by decide +kernel
theorem dLa_law_1608 : decode code 1608 = .ok (.istore 6, 2) := by decide +kernel
theorem dLa_law_1610 : decode code 1610 = .ok (.aload_n 2, 1) := by decide +kernel
theorem dLa_law_1611 : decode code 1611 = .ok (.invokevirtual 88, 3) := by decide +kernel
theorem dLa_law_1614 : decode code 1614 = .ok (.iload 5, 2) := by decide +kernel
theorem dLa_law_1616 : decode code 1616 = .ok (.if_icmp .eq 5, 3) := by decide +kernel
theorem dLa_law_1619 : decode code 1619 = .ok (.iconst 0, 1) := by decide +kernel
theorem dLa_law_1620 : decode code 1620 = .ok (.ireturn, 1) := by decide +kernel
theorem dLa_law_1621 : decode code 1621 = .ok (.iload 5, 2) := by decide +kernel
theorem dLa_law_1623 : decode code 1623 = .ok (.ifCond .ne 15, 3) := by decide +kernel
theorem dLa_law_1626 : decode code 1626 = .ok (.aload_n 3, 1) := by decide +kernel
theorem dLa_law_1627 : decode code 1627 = .ok (.iconst 0, 1) := by decide +kernel
theorem dLa_law_1628 : decode code 1628 = .ok (.laload, 1) := by decide +kernel
theorem dLa_law_1629 : decode code 1629 = .ok (.iload 6, 2) := by decide +kernel
theorem dLa_law_1631 : decode code 1631 = .ok (.i2l, 1) := by decide +kernel
theorem dLa_law_1632 : decode code 1632 = .ok (.lcmp, 1) := by decide +kernel
theorem dLa_law_1633 : decode code 1633 = .ok (.ifCond .eq 5, 3) := by decide +kernel
theorem dLa_law_1636 : decode code 1636 = .ok (.iconst 0, 1) := by decide +kernel
theorem dLa_law_1637 : decode code 1637 = .ok (.ireturn, 1) := by decide +kernel
theorem dLa_law_1638 : decode code 1638 = .ok (.goto 3, 3) := by decide +kernel
theorem dLa_law_1641 : decode code 1641 = .ok (.iinc 4 9, 3) := by decide +kernel
theorem dLa_law_1644 : decode code 1644 = .ok (.goto (-1621), 3) := by decide +kernel
theorem dLa_law_1647 : decode code 1647 = .ok (.iconst 1, 1) := by decide +kernel
theorem dLa_law_1648 : decode code 1648 = .ok (.ireturn, 1) := by decide +kernel
