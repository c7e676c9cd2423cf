theorem dL_law_1326 : decode cL_law 1326 = .ok (.ifCond .eq 7, 3) := by decide +kernel
theorem dL_law_1329 : decode cL_law 1329 = .ok (.iconst 1, 1) := by decide +kernel
theorem dL_law_1330 : decode cL_law 1330 = .ok (.goto 4, 3) := by decide +kernel
theorem dL_law_1333 : decode cL_law 1333 = .ok (.iconst (-1), 1) := by decide +kernel
theorem dL_law_1334 : decode cL_law 1334 = .ok (.iastore, 1) := by decide +kernel
theorem dL_law_1335 : decode cL_law 1335 = .ok (.aload 31, 2) := by decide +kernel
theorem dL_law_1337 : decode cL_law 1337 = .ok (.iload 33, 2) := by decide +kernel
theorem dL_law_1339 : decode cL_law 1339 = .ok (.iaload, 1) := by decide +kernel
theorem dL_law_1340 : decode cL_law 1340 = .ok (.ifCond .lt 19, 3) := by decide +kernel
theorem dL_law_1343 : decode cL_law 1343 = .ok (.aload 32, 2) := by decide +kernel
theorem dL_law_1345 : decode cL_law 1345 = .ok (.aload 31, 2) := by decide +kernel
theorem dL_law_1347 : decode cL_law 1347 = .ok (.iload 33, 2) := by decide +kernel
theorem dL_law_1349 : decode cL_law 1349 = .ok (.iaload, 1) := by decide +kernel
theorem dL_law_1350 : decode cL_law 1350 = .ok (.dup2, 1) := by decide +kernel
theorem dL_law_1351 : decode cL_law 1351 = .ok (.iaload, 1) := by decide +kernel
theorem dL_law_1352 : decode cL_law 1352 = .ok (.aload 19, 2) := by decide +kernel
theorem dL_law_1354 : decode cL_law 1354 = .ok (.iload 33, 2) := by decide +kernel
theorem dL_law_1356 : decode cL_law 1356 = .ok (.iaload, 1) := by decide +kernel
theorem dL_law_1357 : decode cL_law 1357 = .ok (.iadd, 1) := by decide +kernel
theorem dL_law_1358 : decode cL_law 1358 = .ok (.iastore, 1) := by decide +kernel
theorem dL_law_1359 : decode cL_law 1359 = .ok (.iinc 33 1, 3) := by decide +kernel
theorem dL_law_1362 : decode cL_law 1362 = .ok (.goto (-349), 3) := by decide +kernel
theorem dL_law_1365 : decode cL_law 1365 = .ok (.iload_n 2, 1) := by decide +kernel
theorem dL_law_1366 : decode cL_law 1366 = .ok (.aload_n 1, 1) := by decide +kernel
theorem dL_law_1367 : decode cL_law 1367 = .ok (.iconst 1, 1) := by decide +kernel
theorem dL_law_1368 : decode cL_law 1368 = .ok (.invokestatic 181, 3) := by decide +kernel
theorem dL_law_1371 : decode cL_law 1371 = .ok (.iload 24, 2) := by decide +kernel
theorem dL_law_1373 : decode cL_law 1373 = .ok (.iconst 1, 1) := by decide +kernel
theorem dL_law_1374 : decode cL_law 1374 = .ok (.iadd, 1) := by decide +kernel
theorem dL_law_1375 : decode cL_law 1375 = .ok (.if_icmp .ne 7, 3) := by decide +kernel
theorem dL_law_1378 : decode cL_law 1378 = .ok (.iconst 1, 1) := by decide +kernel
theorem dL_law_1379 : decode cL_law 1379 = .ok (.goto 4, 3) := by decide +kernel
theorem dL_law_1382 : decode cL_law 1382 = .ok (.iconst 0, 1) := by decide +kernel
theorem dL_law_1383 : decode cL_law 1383 = .ok (.iand, 1) := by decide +kernel
theorem dL_law_1384 : decode cL_law 1384 = .ok (.istore_n 2, 1) := by decide +kernel
theorem dL_law_1385 : decode cL_law 1385 = .ok (.iconst 0, 1) := by decide +kernel
theorem dL_law_1386 : decode cL_law 1386 = .ok (.istore 33, 2) := by decide +kernel
theorem dL_law_1388 : decode cL_law 1388 = .ok (.iload 33, 2) := by decide +kernel
theorem dL_law_1390 : decode cL_law 1390 = .ok (.iconst 3, 1) := by decide +kernel
theorem dL_law_1391 : decode cL_law 1391 = .ok (.if_icmp .ge 31, 3) := by decide +kernel
theorem dL_law_1394 : decode cL_law 1394 = .ok (.iload_n 2, 1) := by decide +kernel
theorem dL_law_1395 : decode cL_law 1395 = .ok (.aload_n 1, 1) := by decide +kernel
theorem dL_law_1396 : decode cL_law 1396 = .ok (.iload 33, 2) := by decide +kernel
theorem dL_law_1398 : decode cL_law 1398 = .ok (.invokestatic 175, 3) := by decide +kernel
theorem dL_law_1401 : decode cL_law 1401 = .ok (.aload 31, 2) := by decide +kernel
theorem dL_law_1403 : decode cL_law 1403 = .ok (.iload 33, 2) := by decide +kernel
theorem dL_law_1405 : decode cL_law 1405 = .ok (.iaload, 1) := by decide +kernel
theorem dL_law_1406 : decode cL_law 1406 = .ok (.if_icmp .ne 7, 3) := by decide +kernel
theorem dL_law_1409 : decode cL_law 1409 = .ok (.iconst 1, 1) := by decide +kernel
theorem dL_law_1410 : decode cL_law 1410 = .ok (.goto 4, 3) := by decide +kernel
theorem dL_law_1413 : decode cL_law 1413 = .ok (.iconst 0, 1) := by decide +kernel
theorem dL_law_1414 : decode cL_law 1414 = .ok (.iand, 1) := by decide +kernel
theorem dL_law_1415 : decode cL_law 1415 = .ok (.istore_n 2, 1) := by decide +kernel
theorem dL_law_1416 : decode cL_law 1416 = .ok (.iinc 33 1, 3) := by decide +kernel
theorem dL_law_1419 : decode cL_law 1419 = .ok (.goto (-31), 3) := by decide +kernel
theorem dL_law_1422 : decode cL_law 1422 = .ok (.iconst 0, 1) := by decide +kernel
theorem dL_law_1423 : decode cL_law 1423 = .ok (.istore 33, 2) := by decide +kernel
theorem dL_law_1425 : decode cL_law 1425 = .ok (.iload 33, 2) := by decide +kernel
theorem dL_law_1427 : decode cL_law 1427 = .ok (.iconst 2, 1) := by decide +kernel
theorem dL_law_1428 : decode cL_law 1428 = .ok (.if_icmp .ge 520, 3) := by decide +kernel
theorem dL_law_1431 : decode cL_law 1431 = .ok (.aload 28, 2) := by decide +kernel
theorem dL_law_1433 : decode cL_law 1433 = .ok (.iload 33, 2) := by decide +kernel
theorem dL_law_1435 : decode cL_law 1435 = .ok (.baload, 1) := by decide +kernel
theorem dL_law_1436 : decode cL_law 1436 = .ok (.ifCond .eq 15, 3) := by decide +kernel
theorem dL_law_1439 : decode cL_law 1439 = .ok (.aload 11, 2) := by decide +kernel
theorem dL_law_1441 : decode cL_law 1441 = .ok (.iload 33, 2) := by decide +kernel
theorem dL_law_1443 : decode cL_law 1443 = .ok (.iaload, 1) := by decide +kernel
theorem dL_law_1444 : decode cL_law 1444 = .ok (.ifCond .le 7, 3) := by decide +kernel
theorem dL_law_1447 : decode cL_law 1447 = .ok (.iconst 1, 1) := by decide +kernel
theorem dL_law_1448 : decode cL_law 1448 = .ok (.goto 4, 3) := by decide +kernel
theorem dL_law_1451 : decode cL_law 1451 = .ok (.iconst 0, 1) := by decide +kernel
theorem dL_law_1452 : decode cL_law 1452 = .ok (.istore 34, 2) := by decide +kernel
theorem dL_law_1454 : decode cL_law 1454 = .ok (.aload 11, 2) := by decide +kernel
theorem dL_law_1456 : decode cL_law 1456 = .ok (.iload 33, 2) := by decide +kernel
theorem dL_law_1458 : decode cL_law 1458 = .ok (.dup2, 1) := by decide +kernel
theorem dL_law_1459 : decode cL_law 1459 = .ok (.iaload, 1) := by decide +kernel
theorem dL_law_1460 : decode cL_law 1460 = .ok (.iload 34, 2) := by decide +kernel
theorem dL_law_1462 : decode cL_law 1462 = .ok (.ifCond .eq 7, 3) := by decide +kernel
theorem dL_law_1465 : decode cL_law 1465 = .ok (.iconst 1, 1) := by decide +kernel
theorem dL_law_1466 : decode cL_law 1466 = .ok (.goto 4, 3) := by decide +kernel
theorem dL_law_1469 : decode cL_law 1469 = .ok (.iconst 0, 1) := by decide +kernel
theorem dL_law_1470 : decode cL_law 1470 = .ok (.isub, 1) := by decide +kernel
theorem dL_law_1471 : decode cL_law 1471 = .ok (.iastore, 1) := by decide +kernel
theorem dL_law_1472 : decode cL_law 1472 = .ok (.aload 10, 2) := by decide +kernel
theorem dL_law_1474 : decode cL_law 1474 = .ok (.iload 33, 2) := by decide +kernel
theorem dL_law_1476 : decode cL_law 1476 = .ok (.dup2, 1) := by decide +kernel
theorem dL_law_1477 : decode cL_law 1477 = .ok (.iaload, 1) := by decide +kernel
theorem dL_law_1478 : decode cL_law 1478 = .ok (.iload 34, 2) := by decide +kernel
theorem dL_law_1480 : decode cL_law 1480 = .ok (.ifCond .eq 14, 3) := by decide +kernel
theorem dL_law_1483 : decode cL_law 1483 = .ok (.aload 32, 2) := by decide +kernel
theorem dL_law_1485 : decode cL_law 1485 = .ok (.iload 33, 2) := by decide +kernel
theorem dL_law_1487 : decode cL_law 1487 = .ok (.iaload, 1) := by decide +kernel
theorem dL_law_1488 : decode cL_law 1488 = .ok (.bipush 10, 2) := by decide +kernel
theorem dL_law_1490 : decode cL_law 1490 = .ok (.idiv, 1) := by decide +kernel
theorem dL_law_1491 : decode cL_law 1491 = .ok (.goto 4, 3) := by decide +kernel
theorem dL_law_1494 : decode cL_law 1494 = .ok (.iconst 0, 1) := by decide +kernel
theorem dL_law_1495 : decode cL_law 1495 = .ok (.iadd, 1) := by decide +kernel
theorem dL_law_1496 : decode cL_law 1496 = .ok (.iastore, 1) := by decide +kernel
theorem dL_law_1497 : decode cL_law 1497 = .ok (.aload 9, 2) := by decide +kernel
theorem dL_law_1499 : decode cL_law 1499 = .ok (.iload 33, 2) := by decide +kernel
theorem dL_law_1501 : decode cL_law 1501 = .ok (.aload 7, 2) := by decide +kernel
theorem dL_law_1503 : decode cL_law 1503 = .ok (.iload 33, 2) := by decide +kernel
theorem dL_law_1505 : decode cL_law 1505 = .ok (.iaload, 1) := by decide +kernel
theorem dL_law_1506 : decode cL_law 1506 = .ok (.iconst 1, 1) := by decide +kernel
theorem dL_law_1507 : decode cL_law 1507 = .ok (.if_icmp .ge 13, 3) := by decide +kernel
theorem dL_law_1510 : decode cL_law 1510 = .ok (.aload 9, 2) := by decide +kernel
theorem dL_law_1512 : decode cL_law 1512 = .ok (.iload 33, 2) := by decide +kernel
theorem dL_law_1514 : decode cL_law 1514 = .ok (.iaload, 1) := by decide +kernel
theorem dL_law_1515 : decode cL_law 1515 = .ok (.iconst 1, 1) := by decide +kernel
theorem dL_law_1516 : decode cL_law 1516 = .ok (.iadd, 1) := by decide +kernel
theorem dL_law_1517 : decode cL_law 1517 = .ok (.goto 4, 3) := by decide +kernel
theorem dL_law_1520 : decode cL_law 1520 = .ok (.iconst 0, 1) := by decide +kernel
theorem dL_law_1521 : decode cL_law 1521 = .ok (.iastore, 1) := by decide +kernel
theorem dL_law_1522 : decode cL_law 1522 = .ok (.aload 7, 2) := by decide +kernel
theorem dL_law_1524 : decode cL_law 1524 = .ok (.iload 33, 2) := by decide +kernel
theorem dL_law_1526 : decode cL_law 1526 = .ok (.dup2, 1) := by decide +kernel
theorem dL_law_1527 : decode cL_law 1527 = .ok (.iaload, 1) := by decide +kernel
theorem dL_law_1528 : decode cL_law 1528 = .ok (.aload 7, 2) := by decide +kernel
theorem dL_law_1530 : decode cL_law 1530 = .ok (.iload 33, 2) := by decide +kernel
theorem dL_law_1532 : decode cL_law 1532 = .ok (.iaload, 1) := by decide +kernel
theorem dL_law_1533 : decode cL_law 1533 = .ok (.iconst 1, 1) := by decide +kernel
theorem dL_law_1534 : decode cL_law 1534 = .ok (.if_icmp .ge 7, 3) := by decide +kernel
theorem dL_law_1537 : decode cL_law 1537 = .ok (.iconst 0, 1) := by decide +kernel
theorem dL_law_1538 : decode cL_law 1538 = .ok (.goto 4, 3) := by decide +kernel
theorem dL_law_1541 : decode cL_law 1541 = .ok (.iconst 1, 1) := by decide +kernel
theorem dL_law_1542 : decode cL_law 1542 = .ok (.isub, 1) := by decide +kernel
theorem dL_law_1543 : decode cL_law 1543 = .ok (.iastore, 1) := by decide +kernel
theorem dL_law_1544 : decode cL_law 1544 = .ok (.aload 13, 2) := by decide +kernel
theorem dL_law_1546 : decode cL_law 1546 = .ok (.iload 33, 2) := by decide +kernel
theorem dL_law_1548 : decode cL_law 1548 = .ok (.dup2, 1) := by decide +kernel
theorem dL_law_1549 : decode cL_law 1549 = .ok (.baload, 1) := by decide +kernel
theorem dL_law_1550 : decode cL_law 1550 = .ok (.aload 9, 2) := by decide +kernel
theorem dL_law_1552 : decode cL_law 1552 = .ok (.iload 33, 2) := by decide +kernel
theorem dL_law_1554 : decode cL_law 1554 = .ok (.iaload, 1) := by decide +kernel
theorem dL_law_1555 : decode cL_law 1555 = .ok (.bipush 24, 2) := by decide +kernel
theorem dL_law_1557 : decode cL_law 1557 = .ok (.if_icmp .lt 7, 3) := by decide +kernel
theorem dL_law_1560 : decode cL_law 1560 = .ok (.iconst 1, 1) := by decide +kernel
theorem dL_law_1561 : decode cL_law 1561 = .ok (.goto 4, 3) := by decide +kernel
theorem dL_law_1564 : decode cL_law 1564 = .ok (.iconst 0, 1) := by decide +kernel
theorem dL_law_1565 : decode cL_law 1565 = .ok (.ior, 1) := by decide +kernel
theorem dL_law_1566 : decode cL_law 1566 = .ok (.bastore, 1) := by decide +kernel
theorem dL_law_1567 : decode cL_law 1567 = .ok (.aload 23, 2) := by decide +kernel
theorem dL_law_1569 : decode cL_law 1569 = .ok (.iload 33, 2) := by decide +kernel
theorem dL_law_1571 : decode cL_law 1571 = .ok (.dup2, 1) := by decide +kernel
theorem dL_law_1572 : decode cL_law 1572 = .ok (.iaload, 1) := by decide +kernel
theorem dL_law_1573 : decode cL_law 1573 = .ok (.iload 26, 2) := by decide +kernel
theorem dL_law_1575 : decode cL_law 1575 = .ok (.bipush 7, 2) := by decide +kernel
theorem dL_law_1577 : decode cL_law 1577 = .ok (.if_icmp .lt 17, 3) := by decide +kernel
theorem dL_law_1580 : decode cL_law 1580 = .ok (.aload 23, 2) := by decide +kernel
theorem dL_law_1582 : decode cL_law 1582 = .ok (.iload 33, 2) := by decide +kernel
theorem dL_law_1584 : decode cL_law 1584 = .ok (.iaload, 1) := by decide +kernel
theorem dL_law_1585 : decode cL_law 1585 = .ok (.bipush 8, 2) := by decide +kernel
theorem dL_law_1587 : decode cL_law 1587 = .ok (.if_icmp .ge 7, 3) := by decide +kernel
theorem dL_law_1590 : decode cL_law 1590 = .ok (.iconst 1, 1) := by decide +kernel
theorem dL_law_1591 : decode cL_law 1591 = .ok (.goto 4, 3) := by decide +kernel
theorem dL_law_1594 : decode cL_law 1594 = .ok (.iconst 0, 1) := by decide +kernel
theorem dL_law_1595 : decode cL_law 1595 = .ok (.iadd, 1) := by decide +kernel
theorem dL_law_1596 : decode cL_law 1596 = .ok (.iastore, 1) := by decide +kernel
theorem dL_law_1597 : decode cL_law 1597 = .ok (.bipush 8, 2) := by decide +kernel
theorem dL_law_1599 : decode cL_law 1599 = .ok (.iconst 2, 1) := by decide +kernel
theorem dL_law_1600 : decode cL_law 1600 = .ok (.aload 12, 2) := by decide +kernel
theorem dL_law_1602 : decode cL_law 1602 = .ok (.iload 33, 2) := by decide +kernel
theorem dL_law_1604 : decode cL_law 1604 = .ok (.iaload, 1) := by decide +kernel
theorem dL_law_1605 : decode cL_law 1605 = .ok (.imul, 1) := by decide +kernel
theorem dL_law_1606 : decode cL_law 1606 = .ok (.isub, 1) := by decide +kernel
theorem dL_law_1607 : decode cL_law 1607 = .ok (.istore 35, 2) := by decide +kernel
theorem dL_law_1609 : decode cL_law 1609 = .ok (.aload 12, 2) := by decide +kernel
theorem dL_law_1611 : decode cL_law 1611 = .ok (.iload 33, 2) := by decide +kernel
theorem dL_law_1613 : decode cL_law 1613 = .ok (.iaload, 1) := by decide +kernel
theorem dL_law_1614 : decode cL_law 1614 = .ok (.iconst 3, 1) := by decide +kernel
theorem dL_law_1615 : decode cL_law 1615 = .ok (.if_icmp .ne 10, 3) := by decide +kernel
theorem dL_law_1618 : decode cL_law 1618 = .ok (.iload 26, 2) := by decide +kernel
theorem dL_law_1620 : decode cL_law 1620 = .ok (.iconst 2, 1) := by decide +kernel
theorem dL_law_1621 : decode cL_law 1621 = .ok (.idiv, 1) := by decide +kernel
theorem dL_law_1622 : decode cL_law 1622 = .ok (.goto 19, 3) := by decide +kernel
theorem dL_law_1625 : decode cL_law 1625 = .ok (.iload 26, 2) := by decide +kernel
theorem dL_law_1627 : decode cL_law 1627 = .ok (.iload 35, 2) := by decide +kernel
theorem dL_law_1629 : decode cL_law 1629 = .ok (.if_icmp .le 11, 3) := by decide +kernel
theorem dL_law_1632 : decode cL_law 1632 = .ok (.iload 26, 2) := by decide +kernel
theorem dL_law_1634 : decode cL_law 1634 = .ok (.iload 35, 2) := by decide +kernel
theorem dL_law_1636 : decode cL_law 1636 = .ok (.isub, 1) := by decide +kernel
theorem dL_law_1637 : decode cL_law 1637 = .ok (.goto 4, 3) := by decide +kernel
theorem dL_law_1640 : decode cL_law 1640 = .ok (.iconst 0, 1) := by decide +kernel
theorem dL_law_1641 : decode cL_law 1641 = .ok (.istore 36, 2) := by decide +kernel
theorem dL_law_1643 : decode cL_law 1643 = .ok (.aload 12, 2) := by decide +kernel
theorem dL_law_1645 : decode cL_law 1645 = .ok (.iload 33, 2) := by decide +kernel
theorem dL_law_1647 : decode cL_law 1647 = .ok (.iaload, 1) := by decide +kernel
theorem dL_law_1648 : decode cL_law 1648 = .ok (.iconst 3, 1) := by decide +kernel
theorem dL_law_1649 : decode cL_law 1649 = .ok (.if_icmp .ge 7, 3) := by decide +kernel
theorem dL_law_1652 : decode cL_law 1652 = .ok (.iconst 0, 1) := by decide +kernel
theorem dL_law_1653 : decode cL_law 1653 = .ok (.goto 29, 3) := by decide +kernel
theorem dL_law_1656 : decode cL_law 1656 = .ok (.iload 29, 2) := by decide +kernel
theorem dL_law_1658 : decode cL_law 1658 = .ok (.bipush 6, 2) := by decide +kernel
theorem dL_law_1660 : decode cL_law 1660 = .ok (.if_icmp .lt 10, 3) := by decide +kernel
theorem dL_law_1663 : decode cL_law 1663 = .ok (.iload 29, 2) := by decide +kernel
theorem dL_law_1665 : decode cL_law 1665 = .ok (.bipush 12, 2) := by decide +kernel
theorem dL_law_1667 : decode cL_law 1667 = .ok (.if_icmp .lt 10, 3) := by decide +kernel
theorem dL_law_1670 : decode cL_law 1670 = .ok (.iload 29, 2) := by decide +kernel
theorem dL_law_1672 : decode cL_law 1672 = .ok (.bipush 18, 2) := by decide +kernel
theorem dL_law_1674 : decode cL_law 1674 = .ok (.if_icmp .lt 7, 3) := by decide +kernel
theorem dL_law_1677 : decode cL_law 1677 = .ok (.iconst (-1), 1) := by decide +kernel
theorem dL_law_1678 : decode cL_law 1678 = .ok (.goto 4, 3) := by decide +kernel
theorem dL_law_1681 : decode cL_law 1681 = .ok (.iconst 1, 1) := by decide +kernel
theorem dL_law_1682 : decode cL_law 1682 = .ok (.istore 37, 2) := by decide +kernel
theorem dL_law_1684 : decode cL_law 1684 = .ok (.aload_n 3, 1) := by decide +kernel
theorem dL_law_1685 : decode cL_law 1685 = .ok (.iload 33, 2) := by decide +kernel
theorem dL_law_1687 : decode cL_law 1687 = .ok (.dup2, 1) := by decide +kernel
theorem dL_law_1688 : decode cL_law 1688 = .ok (.iaload, 1) := by decide +kernel
theorem dL_law_1689 : decode cL_law 1689 = .ok (.iload 27, 2) := by decide +kernel
theorem dL_law_1691 : decode cL_law 1691 = .ok (.iconst 1, 1) := by decide +kernel
theorem dL_law_1692 : decode cL_law 1692 = .ok (.if_icmp .ne 8, 3) := by decide +kernel
theorem dL_law_1695 : decode cL_law 1695 = .ok (.iload 36, 2) := by decide +kernel
theorem dL_law_1697 : decode cL_law 1697 = .ok (.goto 16, 3) := by decide +kernel
theorem dL_law_1700 : decode cL_law 1700 = .ok (.iload 27, 2) := by decide +kernel
theorem dL_law_1702 : decode cL_law 1702 = .ok (.iconst 3, 1) := by decide +kernel
theorem dL_law_1703 : decode cL_law 1703 = .ok (.if_icmp .ne 9, 3) := by decide +kernel
theorem dL_law_1706 : decode cL_law 1706 = .ok (.iload 36, 2) := by decide +kernel
theorem dL_law_1708 : decode cL_law 1708 = .ok (.ineg, 1) := by decide +kernel
theorem dL_law_1709 : decode cL_law 1709 = .ok (.goto 4, 3) := by decide +kernel
theorem dL_law_1712 : decode cL_law 1712 = .ok (.iconst 0, 1) := by decide +kernel
theorem dL_law_1713 : decode cL_law 1713 = .ok (.iload 37, 2) := by decide +kernel
theorem dL_law_1715 : decode cL_law 1715 = .ok (.iload 20, 2) := by decide +kernel
theorem dL_law_1717 : decode cL_law 1717 = .ok (.imul, 1) := by decide +kernel
theorem dL_law_1718 : decode cL_law 1718 = .ok (.iadd, 1) := by decide +kernel
theorem dL_law_1719 : decode cL_law 1719 = .ok (.iadd, 1) := by decide +kernel
theorem dL_law_1720 : decode cL_law 1720 = .ok (.iastore, 1) := by decide +kernel
theorem dL_law_1721 : decode cL_law 1721 = .ok (.aload 4, 2) := by decide +kernel
theorem dL_law_1723 : decode cL_law 1723 = .ok (.iload 33, 2) := by decide +kernel
theorem dL_law_1725 : decode cL_law 1725 = .ok (.dup2, 1) := by decide +kernel
theorem dL_law_1726 : decode cL_law 1726 = .ok (.iaload, 1) := by decide +kernel
theorem dL_law_1727 : decode cL_law 1727 = .ok (.iload 27, 2) := by decide +kernel
theorem dL_law_1729 : decode cL_law 1729 = .ok (.ifCond .ne 8, 3) := by decide +kernel
theorem dL_law_1732 : decode cL_law 1732 = .ok (.iload 36, 2) := by decide +kernel
theorem dL_law_1734 : decode cL_law 1734 = .ok (.goto 16, 3) := by decide +kernel
theorem dL_law_1737 : decode cL_law 1737 = .ok (.iload 27, 2) := by decide +kernel
theorem dL_law_1739 : decode cL_law 1739 = .ok (.iconst 2, 1) := by decide +kernel
theorem dL_law_1740 : decode cL_law 1740 = .ok (.if_icmp .ne 9, 3) := by decide +kernel
theorem dL_law_1743 : decode cL_law 1743 = .ok (.iload 36, 2) := by decide +kernel
theorem dL_law_1745 : decode cL_law 1745 = .ok (.ineg, 1) := by decide +kernel
theorem dL_law_1746 : decode cL_law 1746 = .ok (.goto 4, 3) := by decide +kernel
theorem dL_law_1749 : decode cL_law 1749 = .ok (.iconst 0, 1) := by decide +kernel
theorem dL_law_1750 : decode cL_law 1750 = .ok (.iload 37, 2) := by decide +kernel
theorem dL_law_1752 : decode cL_law 1752 = .ok (.iload 21, 2) := by decide +kernel
theorem dL_law_1754 : decode cL_law 1754 = .ok (.imul, 1) := by decide +kernel
theorem dL_law_1755 : decode cL_law 1755 = .ok (.iadd, 1) := by decide +kernel
theorem dL_law_1756 : decode cL_law 1756 = .ok (.iadd, 1) := by decide +kernel
theorem dL_law_1757 : decode cL_law 1757 = .ok (.iastore, 1) := by decide +kernel
theorem dL_law_1758 : decode cL_law 1758 = .ok (.iload_n 2, 1) := by decide +kernel
theorem dL_law_1759 : decode cL_law 1759 = .ok (.aload_n 1, 1) := by decide +kernel
theorem dL_law_1760 : decode cL_law 1760 = .ok (.iload 33, 2) := by decide +kernel
theorem dL_law_1762 : decode cL_law 1762 = .ok (.invokestatic 187, 3) := by decide +kernel
theorem dL_law_1765 : decode cL_law 1765 = .ok (.aload 28, 2) := by decide +kernel
theorem dL_law_1767 : decode cL_law 1767 = .ok (.iload 33, 2) := by decide +kernel
theorem dL_law_1769 : decode cL_law 1769 = .ok (.baload, 1) := by decide +kernel
theorem dL_law_1770 : decode cL_law 1770 = .ok (.ifCond .eq 7, 3) := by decide +kernel
theorem dL_law_1773 : decode cL_law 1773 = .ok (.iconst 1, 1) := by decide +kernel
theorem dL_law_1774 : decode cL_law 1774 = .ok (.goto 4, 3) := by decide +kernel
theorem dL_law_1777 : decode cL_law 1777 = .ok (.iconst 0, 1) := by decide +kernel
theorem dL_law_1778 : decode cL_law 1778 = .ok (.if_icmp .ne 128, 3) := by decide +kernel
theorem dL_law_1781 : decode cL_law 1781 = .ok (.aload_n 1, 1) := by decide +kernel
theorem dL_law_1782 : decode cL_law 1782 = .ok (.iload 33, 2) := by decide +kernel
theorem dL_law_1784 : decode cL_law 1784 = .ok (.invokestatic 156, 3) := by decide +kernel
theorem dL_law_1787 : decode cL_law 1787 = .ok (.aload 6, 2) := by decide +kernel
theorem dL_law_1789 : decode cL_law 1789 = .ok (.iload 33, 2) := by decide +kernel
theorem dL_law_1791 : decode cL_law 1791 = .ok (.iaload, 1) := by decide +kernel
theorem dL_law_1792 : decode cL_law 1792 = .ok (.if_icmp .ne 114, 3) := by decide +kernel
theorem dL_law_1795 : decode cL_law 1795 = .ok (.aload_n 1, 1) := by decide +kernel
theorem dL_law_1796 : decode cL_law 1796 = .ok (.iload 33, 2) := by decide +kernel
theorem dL_law_1798 : decode cL_law 1798 = .ok (.invokestatic 159, 3) := by decide +kernel
theorem dL_law_1801 : decode cL_law 1801 = .ok (.aload 7, 2) := by decide +kernel
theorem dL_law_1803 : decode cL_law 1803 = .ok (.iload 33, 2) := by decide +kernel
theorem dL_law_1805 : decode cL_law 1805 = .ok (.iaload, 1) := by decide +kernel
theorem dL_law_1806 : decode cL_law 1806 = .ok (.if_icmp .ne 100, 3) := by decide +kernel
theorem dL_law_1809 : decode cL_law 1809 = .ok (.aload_n 1, 1) := by decide +kernel
theorem dL_law_1810 : decode cL_law 1810 = .ok (.iload 33, 2) := by decide +kernel
theorem dL_law_1812 : decode cL_law 1812 = .ok (.invokestatic 189, 3) := by decide +kernel
theorem dL_law_1815 : decode cL_law 1815 = .ok (.aload 23, 2) := by decide +kernel
theorem dL_law_1817 : decode cL_law 1817 = .ok (.iload 33, 2) := by decide +kernel
theorem dL_law_1819 : decode cL_law 1819 = .ok (.iaload, 1) := by decide +kernel
theorem dL_law_1820 : decode cL_law 1820 = .ok (.if_icmp .ne 86, 3) := by decide +kernel
theorem dL_law_1823 : decode cL_law 1823 = .ok (.aload_n 1, 1) := by decide +kernel
theorem dL_law_1824 : decode cL_law 1824 = .ok (.iload 33, 2) := by decide +kernel
theorem dL_law_1826 : decode cL_law 1826 = .ok (.invokestatic 191, 3) := by decide +kernel
theorem dL_law_1829 : decode cL_law 1829 = .ok (.aload 10, 2) := by decide +kernel
theorem dL_law_1831 : decode cL_law 1831 = .ok (.iload 33, 2) := by decide +kernel
theorem dL_law_1833 : decode cL_law 1833 = .ok (.iaload, 1) := by decide +kernel
theorem dL_law_1834 : decode cL_law 1834 = .ok (.if_icmp .ne 72, 3) := by decide +kernel
theorem dL_law_1837 : decode cL_law 1837 = .ok (.aload_n 1, 1) := by decide +kernel
theorem dL_law_1838 : decode cL_law 1838 = .ok (.iload 33, 2) := by decide +kernel
theorem dL_law_1840 : decode cL_law 1840 = .ok (.invokestatic 193, 3) := by decide +kernel
theorem dL_law_1843 : decode cL_law 1843 = .ok (.aload 32, 2) := by decide +kernel
theorem dL_law_1845 : decode cL_law 1845 = .ok (.iload 33, 2) := by decide +kernel
theorem dL_law_1847 : decode cL_law 1847 = .ok (.iaload, 1) := by decide +kernel
theorem dL_law_1848 : decode cL_law 1848 = .ok (.if_icmp .ne 58, 3) := by decide +kernel
theorem dL_law_1851 : decode cL_law 1851 = .ok (.aload_n 1, 1) := by decide +kernel
theorem dL_law_1852 : decode cL_law 1852 = .ok (.iload 33, 2) := by decide +kernel
theorem dL_law_1854 : decode cL_law 1854 = .ok (.invokestatic 195, 3) := by decide +kernel
theorem dL_law_1857 : decode cL_law 1857 = .ok (.aload 13, 2) := by decide +kernel
theorem dL_law_1859 : decode cL_law 1859 = .ok (.iload 33, 2) := by decide +kernel
theorem dL_law_1861 : decode cL_law 1861 = .ok (.baload, 1) := by decide +kernel
theorem dL_law_1862 : decode cL_law 1862 = .ok (.ifCond .eq 7, 3) := by decide +kernel
theorem dL_law_1865 : decode cL_law 1865 = .ok (.iconst 1, 1) := by decide +kernel
theorem dL_law_1866 : decode cL_law 1866 = .ok (.goto 4, 3) := by decide +kernel
theorem dL_law_1869 : decode cL_law 1869 = .ok (.iconst 0, 1) := by decide +kernel
theorem dL_law_1870 : decode cL_law 1870 = .ok (.if_icmp .ne 36, 3) := by decide +kernel
theorem dL_law_1873 : decode cL_law 1873 = .ok (.aload_n 1, 1) := by decide +kernel
theorem dL_law_1874 : decode cL_law 1874 = .ok (.iload 33, 2) := by decide +kernel
theorem dL_law_1876 : decode cL_law 1876 = .ok (.iconst 1, 1) := by decide +kernel
theorem dL_law_1877 : decode cL_law 1877 = .ok (.invokestatic 197, 3) := by decide +kernel
theorem dL_law_1880 : decode cL_law 1880 = .ok (.aload_n 3, 1) := by decide +kernel
theorem dL_law_1881 : decode cL_law 1881 = .ok (.iload 33, 2) := by decide +kernel
theorem dL_law_1883 : decode cL_law 1883 = .ok (.iaload, 1) := by decide +kernel
theorem dL_law_1884 : decode cL_law 1884 = .ok (.if_icmp .ne 22, 3) := by decide +kernel
theorem dL_law_1887 : decode cL_law 1887 = .ok (.aload_n 1, 1) := by decide +kernel
theorem dL_law_1888 : decode cL_law 1888 = .ok (.iload 33, 2) := by decide +kernel
theorem dL_law_1890 : decode cL_law 1890 = .ok (.iconst 0, 1) := by decide +kernel
theorem dL_law_1891 : decode cL_law 1891 = .ok (.invokestatic 197, 3) := by decide +kernel
theorem dL_law_1894 : decode cL_law 1894 = .ok (.aload 4, 2) := by decide +kernel
theorem dL_law_1896 : decode cL_law 1896 = .ok (.iload 33, 2) := by decide +kernel
theorem dL_law_1898 : decode cL_law 1898 = .ok (.iaload, 1) := by decide +kernel
theorem dL_law_1899 : decode cL_law 1899 = .ok (.if_icmp .ne 7, 3) := by decide +kernel
theorem dL_law_1902 : decode cL_law 1902 = .ok (.iconst 1, 1) := by decide +kernel
theorem dL_law_1903 : decode cL_law 1903 = .ok (.goto 4, 3) := by decide +kernel
theorem dL_law_1906 : decode cL_law 1906 = .ok (.iconst 0, 1) := by decide +kernel
theorem dL_law_1907 : decode cL_law 1907 = .ok (.iand, 1) := by decide +kernel
theorem dL_law_1908 : decode cL_law 1908 = .ok (.istore_n 2, 1) := by decide +kernel
theorem dL_law_1909 : decode cL_law 1909 = .ok (.iload_n 2, 1) := by decide +kernel
theorem dL_law_1910 : decode cL_law 1910 = .ok (.aload_n 1, 1) := by decide +kernel
theorem dL_law_1911 : decode cL_law 1911 = .ok (.iload 33, 2) := by decide +kernel
theorem dL_law_1913 : decode cL_law 1913 = .ok (.invokestatic 200, 3) := by decide +kernel
theorem dL_law_1916 : decode cL_law 1916 = .ok (.aload 28, 2) := by decide +kernel
theorem dL_law_1918 : decode cL_law 1918 = .ok (.iload 33, 2) := by decide +kernel
theorem dL_law_1920 : decode cL_law 1920 = .ok (.baload, 1) := by decide +kernel
theorem dL_law_1921 : decode cL_law 1921 = .ok (.ifCond .eq 9, 3) := by decide +kernel
theorem dL_law_1924 : decode cL_law 1924 = .ok (.sipush 200, 3) := by decide +kernel
theorem dL_law_1927 : decode cL_law 1927 = .ok (.goto 5, 3) := by decide +kernel
theorem dL_law_1930 : decode cL_law 1930 = .ok (.ldc 20, 2) := by decide +kernel
theorem dL_law_1932 : decode cL_law 1932 = .ok (.if_icmp .ne 7, 3) := by decide +kernel
theorem dL_law_1935 : decode cL_law 1935 = .ok (.iconst 1, 1) := by decide +kernel
theorem dL_law_1936 : decode cL_law 1936 = .ok (.goto 4, 3) := by decide +kernel
theorem dL_law_1939 : decode cL_law 1939 = .ok (.iconst 0, 1) := by decide +kernel
theorem dL_law_1940 : decode cL_law 1940 = .ok (.iand, 1) := by decide +kernel
theorem dL_law_1941 : decode cL_law 1941 = .ok (.istore_n 2, 1) := by decide +kernel
theorem dL_law_1942 : decode cL_law 1942 = .ok (.iinc 33 1, 3) := by decide +kernel
theorem dL_law_1945 : decode cL_law 1945 = .ok (.goto (-520), 3) := by decide +kernel
theorem dL_law_1948 : decode cL_law 1948 = .ok (.iinc 24 1, 3) := by decide +kernel
theorem dL_law_1951 : decode cL_law 1951 = .ok (.iinc 25 1, 3) := by decide +kernel
theorem dL_law_1954 : decode cL_law 1954 = .ok (.goto (-1180), 3) := by decide +kernel
theorem dL_law_1957 : decode cL_law 1957 = .ok (.aload_n 1, 1) := by decide +kernel
theorem dL_law_1958 : decode cL_law 1958 = .ok (.invokevirtual 202, 3) := by decide +kernel
theorem dL_law_1961 : decode cL_law 1961 = .ok (.istore 25, 2) := by decide +kernel
theorem dL_law_1963 : decode cL_law 1963 = .ok (.iload_n 2, 1) := by decide +kernel
theorem dL_law_1964 : decode cL_law 1964 = .ok (.ifCond .eq 104, 3) := by decide +kernel
theorem dL_law_1967 : decode cL_law 1967 = .ok (.aload_n 1, 1) := by decide +kernel
theorem dL_law_1968 : decode cL_law 1968 = .ok (.iconst 0, 1) := by decide +kernel
theorem dL_law_1969 : decode cL_law 1969 = .ok (.invokestatic 206, 3) := by decide +kernel
theorem dL_law_1972 : decode cL_law 1972 = .ok (.iload 25, 2) := by decide +kernel
theorem dL_law_1974 : decode cL_law 1974 = .ok (.aload 10, 2) := by decide +kernel
theorem dL_law_1976 : decode cL_law 1976 = .ok (.iconst 0, 1) := by decide +kernel
theorem dL_law_1977 : decode cL_law 1977 = .ok (.iaload, 1) := by decide +kernel
theorem dL_law_1978 : decode cL_law 1978 = .ok (.iadd, 1) := by decide +kernel
theorem dL_law_1979 : decode cL_law 1979 = .ok (.if_icmp .ne 89, 3) := by decide +kernel
theorem dL_law_1982 : decode cL_law 1982 = .ok (.aload_n 1, 1) := by decide +kernel
theorem dL_law_1983 : decode cL_law 1983 = .ok (.iconst 1, 1) := by decide +kernel
