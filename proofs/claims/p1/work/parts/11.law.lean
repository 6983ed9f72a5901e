theorem dL_law_1324 : decode cL_law 1324 = .ok (.aload_n 1, 1) := by decide +kernel
theorem dL_law_1325 : decode cL_law 1325 = .ok (.aload_n 0, 1) := by decide +kernel
theorem dL_law_1326 : decode cL_law 1326 = .ok (.iload 5, 2) := by decide +kernel
theorem dL_law_1328 : decode cL_law 1328 = .ok (.iconst 1, 1) := by decide +kernel
theorem dL_law_1329 : decode cL_law 1329 = .ok (.iadd, 1) := by decide +kernel
theorem dL_law_1330 : decode cL_law 1330 = .ok (.iaload, 1) := by decide +kernel
theorem dL_law_1331 : decode cL_law 1331 = .ok (.aload_n 0, 1) := by decide +kernel
theorem dL_law_1332 : decode cL_law 1332 = .ok (.iload 5, 2) := by decide +kernel
theorem dL_law_1334 : decode cL_law 1334 = .ok (.iconst 2, 1) := by decide +kernel
theorem dL_law_1335 : decode cL_law 1335 = .ok (.iadd, 1) := by decide +kernel
theorem dL_law_1336 : decode cL_law 1336 = .ok (.iaload, 1) := by decide +kernel
theorem dL_law_1337 : decode cL_law 1337 = .ok (.aload_n 3, 1) := by decide +kernel
theorem dL_law_1338 : decode cL_law 1338 = .ok (.invokestatic 266, 3) := by decide +kernel
theorem dL_law_1341 : decode cL_law 1341 = .ok (.istore 6, 2) := by decide +kernel
theorem dL_law_1343 : decode cL_law 1343 = .ok (.aload_n 2, 1) := by decide +kernel
theorem dL_law_1344 : decode cL_law 1344 = .ok (.aload_n 0, 1) := by decide +kernel
theorem dL_law_1345 : decode cL_law 1345 = .ok (.iload 5, 2) := by decide +kernel
theorem dL_law_1347 : decode cL_law 1347 = .ok (.iconst 1, 1) := by decide +kernel
theorem dL_law_1348 : decode cL_law 1348 = .ok (.iadd, 1) := by decide +kernel
theorem dL_law_1349 : decode cL_law 1349 = .ok (.iaload, 1) := by decide +kernel
theorem dL_law_1350 : decode cL_law 1350 = .ok (.aload_n 0, 1) := by decide +kernel
theorem dL_law_1351 : decode cL_law 1351 = .ok (.iload 5, 2) := by decide +kernel
theorem dL_law_1353 : decode cL_law 1353 = .ok (.iconst 2, 1) := by decide +kernel
theorem dL_law_1354 : decode cL_law 1354 = .ok (.iadd, 1) := by decide +kernel
theorem dL_law_1355 : decode cL_law 1355 = .ok (.iaload, 1) := by decide +kernel
theorem dL_law_1356 : decode cL_law 1356 = .ok (.invokevirtual 268, 3) := by decide +kernel
theorem dL_law_1359 : decode cL_law 1359 = .ok (.istore 7, 2) := by decide +kernel
theorem dL_law_1361 : decode cL_law 1361 = .ok (.aload_n 2, 1) := by decide +kernel
theorem dL_law_1362 : decode cL_law 1362 = .ok (.invokevirtual 218, 3) := by decide +kernel
theorem dL_law_1365 : decode cL_law 1365 = .ok (.iload 6, 2) := by decide +kernel
theorem dL_law_1367 : decode cL_law 1367 = .ok (.if_icmp .eq 5, 3) := by decide +kernel
theorem dL_law_1372 : decode cL_law 1372 = .ok (.iload 6, 2) := by decide +kernel
theorem dL_law_1374 : decode cL_law 1374 = .ok (.ifCond .ne 15, 3) := by decide +kernel
theorem dL_law_1389 : decode cL_law 1389 = .ok (.goto 2868, 3) := by decide +kernel
theorem dL_law_1392 : decode cL_law 1392 = .ok (.aload_n 1, 1) := by decide +kernel
theorem dL_law_1393 : decode cL_law 1393 = .ok (.aload_n 0, 1) := by decide +kernel
theorem dL_law_1394 : decode cL_law 1394 = .ok (.iload 5, 2) := by decide +kernel
theorem dL_law_1396 : decode cL_law 1396 = .ok (.iconst 1, 1) := by decide +kernel
theorem dL_law_1397 : decode cL_law 1397 = .ok (.iadd, 1) := by decide +kernel
theorem dL_law_1398 : decode cL_law 1398 = .ok (.iaload, 1) := by decide +kernel
theorem dL_law_1399 : decode cL_law 1399 = .ok (.aload_n 0, 1) := by decide +kernel
theorem dL_law_1400 : decode cL_law 1400 = .ok (.iload 5, 2) := by decide +kernel
theorem dL_law_1402 : decode cL_law 1402 = .ok (.iconst 2, 1) := by decide +kernel
theorem dL_law_1403 : decode cL_law 1403 = .ok (.iadd, 1) := by decide +kernel
theorem dL_law_1404 : decode cL_law 1404 = .ok (.iaload, 1) := by decide +kernel
theorem dL_law_1405 : decode cL_law 1405 = .ok (.aload_n 3, 1) := by decide +kernel
theorem dL_law_1406 : decode cL_law 1406 = .ok (.invokestatic 269, 3) := by decide +kernel
theorem dL_law_1409 : decode cL_law 1409 = .ok (.istore 6, 2) := by decide +kernel
theorem dL_law_1411 : decode cL_law 1411 = .ok (.aload_n 2, 1) := by decide +kernel
theorem dL_law_1412 : decode cL_law 1412 = .ok (.aload_n 0, 1) := by decide +kernel
theorem dL_law_1413 : decode cL_law 1413 = .ok (.iload 5, 2) := by decide +kernel
theorem dL_law_1415 : decode cL_law 1415 = .ok (.iconst 1, 1) := by decide +kernel
theorem dL_law_1416 : decode cL_law 1416 = .ok (.iadd, 1) := by decide +kernel
theorem dL_law_1417 : decode cL_law 1417 = .ok (.iaload, 1) := by decide +kernel
theorem dL_law_1418 : decode cL_law 1418 = .ok (.aload_n 0, 1) := by decide +kernel
theorem dL_law_1419 : decode cL_law 1419 = .ok (.iload 5, 2) := by decide +kernel
theorem dL_law_1421 : decode cL_law 1421 = .ok (.iconst 2, 1) := by decide +kernel
theorem dL_law_1422 : decode cL_law 1422 = .ok (.iadd, 1) := by decide +kernel
theorem dL_law_1423 : decode cL_law 1423 = .ok (.iaload, 1) := by decide +kernel
theorem dL_law_1424 : decode cL_law 1424 = .ok (.invokevirtual 271, 3) := by decide +kernel
theorem dL_law_1427 : decode cL_law 1427 = .ok (.istore 7, 2) := by decide +kernel
theorem dL_law_1429 : decode cL_law 1429 = .ok (.aload_n 2, 1) := by decide +kernel
theorem dL_law_1430 : decode cL_law 1430 = .ok (.invokevirtual 218, 3) := by decide +kernel
theorem dL_law_1433 : decode cL_law 1433 = .ok (.iload 6, 2) := by decide +kernel
theorem dL_law_1435 : decode cL_law 1435 = .ok (.if_icmp .eq 5, 3) := by decide +kernel
theorem dL_law_1440 : decode cL_law 1440 = .ok (.iload 6, 2) := by decide +kernel
theorem dL_law_1442 : decode cL_law 1442 = .ok (.ifCond .ne 15, 3) := by decide +kernel
theorem dL_law_1457 : decode cL_law 1457 = .ok (.goto 2800, 3) := by decide +kernel
theorem dL_law_1460 : decode cL_law 1460 = .ok (.aload_n 1, 1) := by decide +kernel
theorem dL_law_1461 : decode cL_law 1461 = .ok (.aload_n 0, 1) := by decide +kernel
theorem dL_law_1462 : decode cL_law 1462 = .ok (.iload 5, 2) := by decide +kernel
theorem dL_law_1464 : decode cL_law 1464 = .ok (.iconst 1, 1) := by decide +kernel
theorem dL_law_1465 : decode cL_law 1465 = .ok (.iadd, 1) := by decide +kernel
theorem dL_law_1466 : decode cL_law 1466 = .ok (.iaload, 1) := by decide +kernel
theorem dL_law_1467 : decode cL_law 1467 = .ok (.aload_n 0, 1) := by decide +kernel
theorem dL_law_1468 : decode cL_law 1468 = .ok (.iload 5, 2) := by decide +kernel
theorem dL_law_1470 : decode cL_law 1470 = .ok (.iconst 2, 1) := by decide +kernel
theorem dL_law_1471 : decode cL_law 1471 = .ok (.iadd, 1) := by decide +kernel
theorem dL_law_1472 : decode cL_law 1472 = .ok (.iaload, 1) := by decide +kernel
theorem dL_law_1473 : decode cL_law 1473 = .ok (.aload_n 0, 1) := by decide +kernel
theorem dL_law_1474 : decode cL_law 1474 = .ok (.iload 5, 2) := by decide +kernel
theorem dL_law_1476 : decode cL_law 1476 = .ok (.iconst 3, 1) := by decide +kernel
theorem dL_law_1477 : decode cL_law 1477 = .ok (.iadd, 1) := by decide +kernel
theorem dL_law_1478 : decode cL_law 1478 = .ok (.iaload, 1) := by decide +kernel
theorem dL_law_1479 : decode cL_law 1479 = .ok (.ifCond .eq 7, 3) := by decide +kernel
theorem dL_law_1486 : decode cL_law 1486 = .ok (.iconst 0, 1) := by decide +kernel
theorem dL_law_1487 : decode cL_law 1487 = .ok (.aload_n 3, 1) := by decide +kernel
theorem dL_law_1488 : decode cL_law 1488 = .ok (.invokestatic 272, 3) := by decide +kernel
theorem dL_law_1491 : decode cL_law 1491 = .ok (.istore 6, 2) := by decide +kernel
theorem dL_law_1493 : decode cL_law 1493 = .ok (.aload_n 2, 1) := by decide +kernel
theorem dL_law_1494 : decode cL_law 1494 = .ok (.aload_n 0, 1) := by decide +kernel
theorem dL_law_1495 : decode cL_law 1495 = .ok (.iload 5, 2) := by decide +kernel
theorem dL_law_1497 : decode cL_law 1497 = .ok (.iconst 1, 1) := by decide +kernel
theorem dL_law_1498 : decode cL_law 1498 = .ok (.iadd, 1) := by decide +kernel
theorem dL_law_1499 : decode cL_law 1499 = .ok (.iaload, 1) := by decide +kernel
theorem dL_law_1500 : decode cL_law 1500 = .ok (.aload_n 0, 1) := by decide +kernel
theorem dL_law_1501 : decode cL_law 1501 = .ok (.iload 5, 2) := by decide +kernel
theorem dL_law_1503 : decode cL_law 1503 = .ok (.iconst 2, 1) := by decide +kernel
theorem dL_law_1504 : decode cL_law 1504 = .ok (.iadd, 1) := by decide +kernel
theorem dL_law_1505 : decode cL_law 1505 = .ok (.iaload, 1) := by decide +kernel
theorem dL_law_1506 : decode cL_law 1506 = .ok (.aload_n 0, 1) := by decide +kernel
theorem dL_law_1507 : decode cL_law 1507 = .ok (.iload 5, 2) := by decide +kernel
theorem dL_law_1509 : decode cL_law 1509 = .ok (.iconst 3, 1) := by decide +kernel
theorem dL_law_1510 : decode cL_law 1510 = .ok (.iadd, 1) := by decide +kernel
theorem dL_law_1511 : decode cL_law 1511 = .ok (.iaload, 1) := by decide +kernel
theorem dL_law_1512 : decode cL_law 1512 = .ok (.ifCond .eq 7, 3) := by decide +kernel
theorem dL_law_1519 : decode cL_law 1519 = .ok (.iconst 0, 1) := by decide +kernel
theorem dL_law_1520 : decode cL_law 1520 = .ok (.invokevirtual 275, 3) := by decide +kernel
theorem dL_law_1523 : decode cL_law 1523 = .ok (.istore 7, 2) := by decide +kernel
theorem dL_law_1525 : decode cL_law 1525 = .ok (.aload_n 2, 1) := by decide +kernel
theorem dL_law_1526 : decode cL_law 1526 = .ok (.invokevirtual 218, 3) := by decide +kernel
theorem dL_law_1529 : decode cL_law 1529 = .ok (.iload 6, 2) := by decide +kernel
theorem dL_law_1531 : decode cL_law 1531 = .ok (.if_icmp .eq 5, 3) := by decide +kernel
theorem dL_law_1536 : decode cL_law 1536 = .ok (.iload 6, 2) := by decide +kernel
theorem dL_law_1538 : decode cL_law 1538 = .ok (.ifCond .ne 15, 3) := by decide +kernel
theorem dL_law_1553 : decode cL_law 1553 = .ok (.goto 2704, 3) := by decide +kernel
theorem dL_law_1482 : decode cL_law 1482 = .ok (.iconst 1, 1) := by decide +kernel
theorem dL_law_1483 : decode cL_law 1483 = .ok (.goto 4, 3) := by decide +kernel
theorem dL_law_1515 : decode cL_law 1515 = .ok (.iconst 1, 1) := by decide +kernel
theorem dL_law_1516 : decode cL_law 1516 = .ok (.goto 4, 3) := by decide +kernel
theorem dL_law_1556 : decode cL_law 1556 = .ok (.aload_n 1, 1) := by decide +kernel
theorem dL_law_1557 : decode cL_law 1557 = .ok (.aload_n 0, 1) := by decide +kernel
theorem dL_law_1558 : decode cL_law 1558 = .ok (.iload 5, 2) := by decide +kernel
theorem dL_law_1560 : decode cL_law 1560 = .ok (.iconst 1, 1) := by decide +kernel
theorem dL_law_1561 : decode cL_law 1561 = .ok (.iadd, 1) := by decide +kernel
theorem dL_law_1562 : decode cL_law 1562 = .ok (.iaload, 1) := by decide +kernel
theorem dL_law_1563 : decode cL_law 1563 = .ok (.aload_n 0, 1) := by decide +kernel
theorem dL_law_1564 : decode cL_law 1564 = .ok (.iload 5, 2) := by decide +kernel
theorem dL_law_1566 : decode cL_law 1566 = .ok (.iconst 2, 1) := by decide +kernel
theorem dL_law_1567 : decode cL_law 1567 = .ok (.iadd, 1) := by decide +kernel
theorem dL_law_1568 : decode cL_law 1568 = .ok (.iaload, 1) := by decide +kernel
theorem dL_law_1569 : decode cL_law 1569 = .ok (.aload_n 0, 1) := by decide +kernel
theorem dL_law_1570 : decode cL_law 1570 = .ok (.iload 5, 2) := by decide +kernel
theorem dL_law_1572 : decode cL_law 1572 = .ok (.iconst 3, 1) := by decide +kernel
theorem dL_law_1573 : decode cL_law 1573 = .ok (.iadd, 1) := by decide +kernel
theorem dL_law_1574 : decode cL_law 1574 = .ok (.iaload, 1) := by decide +kernel
theorem dL_law_1575 : decode cL_law 1575 = .ok (.aload_n 0, 1) := by decide +kernel
theorem dL_law_1576 : decode cL_law 1576 = .ok (.iload 5, 2) := by decide +kernel
theorem dL_law_1578 : decode cL_law 1578 = .ok (.iconst 4, 1) := by decide +kernel
theorem dL_law_1579 : decode cL_law 1579 = .ok (.iadd, 1) := by decide +kernel
theorem dL_law_1580 : decode cL_law 1580 = .ok (.iaload, 1) := by decide +kernel
theorem dL_law_1581 : decode cL_law 1581 = .ok (.aload_n 0, 1) := by decide +kernel
theorem dL_law_1582 : decode cL_law 1582 = .ok (.iload 5, 2) := by decide +kernel
theorem dL_law_1584 : decode cL_law 1584 = .ok (.iconst 5, 1) := by decide +kernel
theorem dL_law_1585 : decode cL_law 1585 = .ok (.iadd, 1) := by decide +kernel
theorem dL_law_1586 : decode cL_law 1586 = .ok (.iaload, 1) := by decide +kernel
theorem dL_law_1587 : decode cL_law 1587 = .ok (.ifCond .eq 7, 3) := by decide +kernel
theorem dL_law_1594 : decode cL_law 1594 = .ok (.iconst 0, 1) := by decide +kernel
theorem dL_law_1595 : decode cL_law 1595 = .ok (.aload_n 3, 1) := by decide +kernel
theorem dL_law_1596 : decode cL_law 1596 = .ok (.invokestatic 276, 3) := by decide +kernel
theorem dL_law_1599 : decode cL_law 1599 = .ok (.istore 6, 2) := by decide +kernel
theorem dL_law_1601 : decode cL_law 1601 = .ok (.aload_n 2, 1) := by decide +kernel
theorem dL_law_1602 : decode cL_law 1602 = .ok (.aload_n 0, 1) := by decide +kernel
theorem dL_law_1603 : decode cL_law 1603 = .ok (.iload 5, 2) := by decide +kernel
theorem dL_law_1605 : decode cL_law 1605 = .ok (.iconst 1, 1) := by decide +kernel
theorem dL_law_1606 : decode cL_law 1606 = .ok (.iadd, 1) := by decide +kernel
theorem dL_law_1607 : decode cL_law 1607 = .ok (.iaload, 1) := by decide +kernel
theorem dL_law_1608 : decode cL_law 1608 = .ok (.aload_n 0, 1) := by decide +kernel
theorem dL_law_1609 : decode cL_law 1609 = .ok (.iload 5, 2) := by decide +kernel
theorem dL_law_1611 : decode cL_law 1611 = .ok (.iconst 2, 1) := by decide +kernel
theorem dL_law_1612 : decode cL_law 1612 = .ok (.iadd, 1) := by decide +kernel
theorem dL_law_1613 : decode cL_law 1613 = .ok (.iaload, 1) := by decide +kernel
theorem dL_law_1614 : decode cL_law 1614 = .ok (.aload_n 0, 1) := by decide +kernel
theorem dL_law_1615 : decode cL_law 1615 = .ok (.iload 5, 2) := by decide +kernel
theorem dL_law_1617 : decode cL_law 1617 = .ok (.iconst 3, 1) := by decide +kernel
theorem dL_law_1618 : decode cL_law 1618 = .ok (.iadd, 1) := by decide +kernel
theorem dL_law_1619 : decode cL_law 1619 = .ok (.iaload, 1) := by decide +kernel
theorem dL_law_1620 : decode cL_law 1620 = .ok (.aload_n 0, 1) := by decide +kernel
theorem dL_law_1621 : decode cL_law 1621 = .ok (.iload 5, 2) := by decide +kernel
theorem dL_law_1623 : decode cL_law 1623 = .ok (.iconst 4, 1) := by decide +kernel
theorem dL_law_1624 : decode cL_law 1624 = .ok (.iadd, 1) := by decide +kernel
theorem dL_law_1625 : decode cL_law 1625 = .ok (.iaload, 1) := by decide +kernel
theorem dL_law_1626 : decode cL_law 1626 = .ok (.aload_n 0, 1) := by decide +kernel
theorem dL_law_1627 : decode cL_law 1627 = .ok (.iload 5, 2) := by decide +kernel
theorem dL_law_1629 : decode cL_law 1629 = .ok (.iconst 5, 1) := by decide +kernel
theorem dL_law_1630 : decode cL_law 1630 = .ok (.iadd, 1) := by decide +kernel
theorem dL_law_1631 : decode cL_law 1631 = .ok (.iaload, 1) := by decide +kernel
theorem dL_law_1632 : decode cL_law 1632 = .ok (.ifCond .eq 7, 3) := by decide +kernel
theorem dL_law_1639 : decode cL_law 1639 = .ok (.iconst 0, 1) := by decide +kernel
theorem dL_law_1640 : decode cL_law 1640 = .ok (.invokevirtual 279, 3) := by decide +kernel
theorem dL_law_1643 : decode cL_law 1643 = .ok (.istore 7, 2) := by decide +kernel
theorem dL_law_1645 : decode cL_law 1645 = .ok (.aload_n 2, 1) := by decide +kernel
theorem dL_law_1646 : decode cL_law 1646 = .ok (.invokevirtual 218, 3) := by decide +kernel
theorem dL_law_1649 : decode cL_law 1649 = .ok (.iload 6, 2) := by decide +kernel
theorem dL_law_1651 : decode cL_law 1651 = .ok (.if_icmp .eq 5, 3) := by decide +kernel
theorem dL_law_1656 : decode cL_law 1656 = .ok (.iload 6, 2) := by decide +kernel
theorem dL_law_1658 : decode cL_law 1658 = .ok (.ifCond .ne 15, 3) := by decide +kernel
theorem dL_law_1673 : decode cL_law 1673 = .ok (.goto 2584, 3) := by decide +kernel
theorem dL_law_1590 : decode cL_law 1590 = .ok (.iconst 1, 1) := by decide +kernel
theorem dL_law_1591 : decode cL_law 1591 = .ok (.goto 4, 3) := by decide +kernel
theorem dL_law_1635 : decode cL_law 1635 = .ok (.iconst 1, 1) := by decide +kernel
theorem dL_law_1636 : decode cL_law 1636 = .ok (.goto 4, 3) := by decide +kernel
theorem dL_law_1676 : decode cL_law 1676 = .ok (.aload_n 1, 1) := by decide +kernel
theorem dL_law_1677 : decode cL_law 1677 = .ok (.aload_n 0, 1) := by decide +kernel
theorem dL_law_1678 : decode cL_law 1678 = .ok (.iload 5, 2) := by decide +kernel
theorem dL_law_1680 : decode cL_law 1680 = .ok (.iconst 1, 1) := by decide +kernel
theorem dL_law_1681 : decode cL_law 1681 = .ok (.iadd, 1) := by decide +kernel
theorem dL_law_1682 : decode cL_law 1682 = .ok (.iaload, 1) := by decide +kernel
theorem dL_law_1683 : decode cL_law 1683 = .ok (.aload_n 0, 1) := by decide +kernel
theorem dL_law_1684 : decode cL_law 1684 = .ok (.iload 5, 2) := by decide +kernel
theorem dL_law_1686 : decode cL_law 1686 = .ok (.iconst 2, 1) := by decide +kernel
theorem dL_law_1687 : decode cL_law 1687 = .ok (.iadd, 1) := by decide +kernel
theorem dL_law_1688 : decode cL_law 1688 = .ok (.iaload, 1) := by decide +kernel
theorem dL_law_1689 : decode cL_law 1689 = .ok (.aload_n 3, 1) := by decide +kernel
theorem dL_law_1690 : decode cL_law 1690 = .ok (.invokestatic 280, 3) := by decide +kernel
theorem dL_law_1693 : decode cL_law 1693 = .ok (.istore 6, 2) := by decide +kernel
theorem dL_law_1695 : decode cL_law 1695 = .ok (.aload_n 2, 1) := by decide +kernel
theorem dL_law_1696 : decode cL_law 1696 = .ok (.aload_n 0, 1) := by decide +kernel
theorem dL_law_1697 : decode cL_law 1697 = .ok (.iload 5, 2) := by decide +kernel
theorem dL_law_1699 : decode cL_law 1699 = .ok (.iconst 1, 1) := by decide +kernel
theorem dL_law_1700 : decode cL_law 1700 = .ok (.iadd, 1) := by decide +kernel
theorem dL_law_1701 : decode cL_law 1701 = .ok (.iaload, 1) := by decide +kernel
theorem dL_law_1702 : decode cL_law 1702 = .ok (.aload_n 0, 1) := by decide +kernel
theorem dL_law_1703 : decode cL_law 1703 = .ok (.iload 5, 2) := by decide +kernel
theorem dL_law_1705 : decode cL_law 1705 = .ok (.iconst 2, 1) := by decide +kernel
theorem dL_law_1706 : decode cL_law 1706 = .ok (.iadd, 1) := by decide +kernel
theorem dL_law_1707 : decode cL_law 1707 = .ok (.iaload, 1) := by decide +kernel
theorem dL_law_1708 : decode cL_law 1708 = .ok (.invokevirtual 282, 3) := by decide +kernel
theorem dL_law_1711 : decode cL_law 1711 = .ok (.istore 7, 2) := by decide +kernel
theorem dL_law_1713 : decode cL_law 1713 = .ok (.aload_n 2, 1) := by decide +kernel
theorem dL_law_1714 : decode cL_law 1714 = .ok (.invokevirtual 218, 3) := by decide +kernel
theorem dL_law_1717 : decode cL_law 1717 = .ok (.iload 6, 2) := by decide +kernel
theorem dL_law_1719 : decode cL_law 1719 = .ok (.if_icmp .eq 5, 3) := by decide +kernel
theorem dL_law_1724 : decode cL_law 1724 = .ok (.iload 6, 2) := by decide +kernel
theorem dL_law_1726 : decode cL_law 1726 = .ok (.ifCond .ne 15, 3) := by decide +kernel
theorem dL_law_1741 : decode cL_law 1741 = .ok (.goto 2516, 3) := by decide +kernel
theorem dL_law_1744 : decode cL_law 1744 = .ok (.aload_n 1, 1) := by decide +kernel
theorem dL_law_1745 : decode cL_law 1745 = .ok (.aload_n 0, 1) := by decide +kernel
theorem dL_law_1746 : decode cL_law 1746 = .ok (.iload 5, 2) := by decide +kernel
theorem dL_law_1748 : decode cL_law 1748 = .ok (.iconst 1, 1) := by decide +kernel
theorem dL_law_1749 : decode cL_law 1749 = .ok (.iadd, 1) := by decide +kernel
theorem dL_law_1750 : decode cL_law 1750 = .ok (.iaload, 1) := by decide +kernel
theorem dL_law_1751 : decode cL_law 1751 = .ok (.aload_n 0, 1) := by decide +kernel
theorem dL_law_1752 : decode cL_law 1752 = .ok (.iload 5, 2) := by decide +kernel
theorem dL_law_1754 : decode cL_law 1754 = .ok (.iconst 2, 1) := by decide +kernel
theorem dL_law_1755 : decode cL_law 1755 = .ok (.iadd, 1) := by decide +kernel
theorem dL_law_1756 : decode cL_law 1756 = .ok (.iaload, 1) := by decide +kernel
theorem dL_law_1757 : decode cL_law 1757 = .ok (.aload_n 0, 1) := by decide +kernel
theorem dL_law_1758 : decode cL_law 1758 = .ok (.iload 5, 2) := by decide +kernel
theorem dL_law_1760 : decode cL_law 1760 = .ok (.iconst 3, 1) := by decide +kernel
theorem dL_law_1761 : decode cL_law 1761 = .ok (.iadd, 1) := by decide +kernel
theorem dL_law_1762 : decode cL_law 1762 = .ok (.iaload, 1) := by decide +kernel
theorem dL_law_1763 : decode cL_law 1763 = .ok (.aload_n 3, 1) := by decide +kernel
theorem dL_law_1764 : decode cL_law 1764 = .ok (.invokestatic 283, 3) := by decide +kernel
theorem dL_law_1767 : decode cL_law 1767 = .ok (.istore 6, 2) := by decide +kernel
theorem dL_law_1769 : decode cL_law 1769 = .ok (.aload_n 2, 1) := by decide +kernel
theorem dL_law_1770 : decode cL_law 1770 = .ok (.aload_n 0, 1) := by decide +kernel
theorem dL_law_1771 : decode cL_law 1771 = .ok (.iload 5, 2) := by decide +kernel
theorem dL_law_1773 : decode cL_law 1773 = .ok (.iconst 1, 1) := by decide +kernel
theorem dL_law_1774 : decode cL_law 1774 = .ok (.iadd, 1) := by decide +kernel
theorem dL_law_1775 : decode cL_law 1775 = .ok (.iaload, 1) := by decide +kernel
theorem dL_law_1776 : decode cL_law 1776 = .ok (.aload_n 0, 1) := by decide +kernel
theorem dL_law_1777 : decode cL_law 1777 = .ok (.iload 5, 2) := by decide +kernel
theorem dL_law_1779 : decode cL_law 1779 = .ok (.iconst 2, 1) := by decide +kernel
theorem dL_law_1780 : decode cL_law 1780 = .ok (.iadd, 1) := by decide +kernel
theorem dL_law_1781 : decode cL_law 1781 = .ok (.iaload, 1) := by decide +kernel
theorem dL_law_1782 : decode cL_law 1782 = .ok (.aload_n 0, 1) := by decide +kernel
theorem dL_law_1783 : decode cL_law 1783 = .ok (.iload 5, 2) := by decide +kernel
theorem dL_law_1785 : decode cL_law 1785 = .ok (.iconst 3, 1) := by decide +kernel
theorem dL_law_1786 : decode cL_law 1786 = .ok (.iadd, 1) := by decide +kernel
theorem dL_law_1787 : decode cL_law 1787 = .ok (.iaload, 1) := by decide +kernel
theorem dL_law_1788 : decode cL_law 1788 = .ok (.invokevirtual 285, 3) := by decide +kernel
theorem dL_law_1791 : decode cL_law 1791 = .ok (.istore 7, 2) := by decide +kernel
theorem dL_law_1793 : decode cL_law 1793 = .ok (.aload_n 2, 1) := by decide +kernel
theorem dL_law_1794 : decode cL_law 1794 = .ok (.invokevirtual 218, 3) := by decide +kernel
theorem dL_law_1797 : decode cL_law 1797 = .ok (.iload 6, 2) := by decide +kernel
theorem dL_law_1799 : decode cL_law 1799 = .ok (.if_icmp .eq 5, 3) := by decide +kernel
theorem dL_law_1804 : decode cL_law 1804 = .ok (.iload 6, 2) := by decide +kernel
theorem dL_law_1806 : decode cL_law 1806 = .ok (.ifCond .ne 15, 3) := by decide +kernel
theorem dL_law_1821 : decode cL_law 1821 = .ok (.goto 2436, 3) := by decide +kernel
theorem dL_law_1824 : decode cL_law 1824 = .ok (.aload_n 1, 1) := by decide +kernel
theorem dL_law_1825 : decode cL_law 1825 = .ok (.aload_n 0, 1) := by decide +kernel
theorem dL_law_1826 : decode cL_law 1826 = .ok (.iload 5, 2) := by decide +kernel
theorem dL_law_1828 : decode cL_law 1828 = .ok (.iconst 1, 1) := by decide +kernel
theorem dL_law_1829 : decode cL_law 1829 = .ok (.iadd, 1) := by decide +kernel
theorem dL_law_1830 : decode cL_law 1830 = .ok (.iaload, 1) := by decide +kernel
theorem dL_law_1831 : decode cL_law 1831 = .ok (.aload_n 3, 1) := by decide +kernel
theorem dL_law_1832 : decode cL_law 1832 = .ok (.invokestatic 286, 3) := by decide +kernel
theorem dL_law_1835 : decode cL_law 1835 = .ok (.istore 6, 2) := by decide +kernel
theorem dL_law_1837 : decode cL_law 1837 = .ok (.aload_n 2, 1) := by decide +kernel
theorem dL_law_1838 : decode cL_law 1838 = .ok (.aload_n 0, 1) := by decide +kernel
theorem dL_law_1839 : decode cL_law 1839 = .ok (.iload 5, 2) := by decide +kernel
theorem dL_law_1841 : decode cL_law 1841 = .ok (.iconst 1, 1) := by decide +kernel
theorem dL_law_1842 : decode cL_law 1842 = .ok (.iadd, 1) := by decide +kernel
theorem dL_law_1843 : decode cL_law 1843 = .ok (.iaload, 1) := by decide +kernel
theorem dL_law_1844 : decode cL_law 1844 = .ok (.invokevirtual 288, 3) := by decide +kernel
theorem dL_law_1847 : decode cL_law 1847 = .ok (.istore 7, 2) := by decide +kernel
theorem dL_law_1849 : decode cL_law 1849 = .ok (.aload_n 2, 1) := by decide +kernel
theorem dL_law_1850 : decode cL_law 1850 = .ok (.invokevirtual 218, 3) := by decide +kernel
theorem dL_law_1853 : decode cL_law 1853 = .ok (.iload 6, 2) := by decide +kernel
theorem dL_law_1855 : decode cL_law 1855 = .ok (.if_icmp .eq 5, 3) := by decide +kernel
theorem dL_law_1860 : decode cL_law 1860 = .ok (.iload 6, 2) := by decide +kernel
theorem dL_law_1862 : decode cL_law 1862 = .ok (.ifCond .ne 15, 3) := by decide +kernel
theorem dL_law_1877 : decode cL_law 1877 = .ok (.goto 2380, 3) := by decide +kernel
theorem dL_law_1880 : decode cL_law 1880 = .ok (.aload_n 1, 1) := by decide +kernel
theorem dL_law_1881 : decode cL_law 1881 = .ok (.aload_n 0, 1) := by decide +kernel
theorem dL_law_1882 : decode cL_law 1882 = .ok (.iload 5, 2) := by decide +kernel
theorem dL_law_1884 : decode cL_law 1884 = .ok (.iconst 1, 1) := by decide +kernel
theorem dL_law_1885 : decode cL_law 1885 = .ok (.iadd, 1) := by decide +kernel
theorem dL_law_1886 : decode cL_law 1886 = .ok (.iaload, 1) := by decide +kernel
theorem dL_law_1887 : decode cL_law 1887 = .ok (.aload_n 3, 1) := by decide +kernel
theorem dL_law_1888 : decode cL_law 1888 = .ok (.invokestatic 289, 3) := by decide +kernel
theorem dL_law_1891 : decode cL_law 1891 = .ok (.istore 6, 2) := by decide +kernel
theorem dL_law_1893 : decode cL_law 1893 = .ok (.aload_n 2, 1) := by decide +kernel
theorem dL_law_1894 : decode cL_law 1894 = .ok (.aload_n 0, 1) := by decide +kernel
theorem dL_law_1895 : decode cL_law 1895 = .ok (.iload 5, 2) := by decide +kernel
theorem dL_law_1897 : decode cL_law 1897 = .ok (.iconst 1, 1) := by decide +kernel
theorem dL_law_1898 : decode cL_law 1898 = .ok (.iadd, 1) := by decide +kernel
theorem dL_law_1899 : decode cL_law 1899 = .ok (.iaload, 1) := by decide +kernel
theorem dL_law_1900 : decode cL_law 1900 = .ok (.invokevirtual 291, 3) := by decide +kernel
theorem dL_law_1903 : decode cL_law 1903 = .ok (.istore 7, 2) := by decide +kernel
theorem dL_law_1905 : decode cL_law 1905 = .ok (.aload_n 2, 1) := by decide +kernel
theorem dL_law_1906 : decode cL_law 1906 = .ok (.invokevirtual 218, 3) := by decide +kernel
theorem dL_law_1909 : decode cL_law 1909 = .ok (.iload 6, 2) := by decide +kernel
theorem dL_law_1911 : decode cL_law 1911 = .ok (.if_icmp .eq 5, 3) := by decide +kernel
theorem dL_law_1916 : decode cL_law 1916 = .ok (.iload 6, 2) := by decide +kernel
theorem dL_law_1918 : decode cL_law 1918 = .ok (.ifCond .ne 15, 3) := by decide +kernel
theorem dL_law_1933 : decode cL_law 1933 = .ok (.goto 2324, 3) := by decide +kernel
theorem dL_law_1936 : decode cL_law 1936 = .ok (.aload_n 1, 1) := by decide +kernel
theorem dL_law_1937 : decode cL_law 1937 = .ok (.aload_n 0, 1) := by decide +kernel
theorem dL_law_1938 : decode cL_law 1938 = .ok (.iload 5, 2) := by decide +kernel
theorem dL_law_1940 : decode cL_law 1940 = .ok (.iconst 1, 1) := by decide +kernel
theorem dL_law_1941 : decode cL_law 1941 = .ok (.iadd, 1) := by decide +kernel
theorem dL_law_1942 : decode cL_law 1942 = .ok (.iaload, 1) := by decide +kernel
theorem dL_law_1943 : decode cL_law 1943 = .ok (.aload_n 3, 1) := by decide +kernel
theorem dL_law_1944 : decode cL_law 1944 = .ok (.invokestatic 292, 3) := by decide +kernel
theorem dL_law_1947 : decode cL_law 1947 = .ok (.istore 6, 2) := by decide +kernel
theorem dL_law_1949 : decode cL_law 1949 = .ok (.aload_n 2, 1) := by decide +kernel
theorem dL_law_1950 : decode cL_law 1950 = .ok (.aload_n 0, 1) := by decide +kernel
theorem dL_law_1951 : decode cL_law 1951 = .ok (.iload 5, 2) := by decide +kernel
theorem dL_law_1953 : decode cL_law 1953 = .ok (.iconst 1, 1) := by decide +kernel
theorem dL_law_1954 : decode cL_law 1954 = .ok (.iadd, 1) := by decide +kernel
theorem dL_law_1955 : decode cL_law 1955 = .ok (.iaload, 1) := by decide +kernel
theorem dL_law_1956 : decode cL_law 1956 = .ok (.invokevirtual 294, 3) := by decide +kernel
theorem dL_law_1959 : decode cL_law 1959 = .ok (.istore 7, 2) := by decide +kernel
theorem dL_law_1961 : decode cL_law 1961 = .ok (.aload_n 2, 1) := by decide +kernel
theorem dL_law_1962 : decode cL_law 1962 = .ok (.invokevirtual 218, 3) := by decide +kernel
theorem dL_law_1965 : decode cL_law 1965 = .ok (.iload 6, 2) := by decide +kernel
theorem dL_law_1967 : decode cL_law 1967 = .ok (.if_icmp .eq 5, 3) := by decide +kernel
theorem dL_law_1972 : decode cL_law 1972 = .ok (.iload 6, 2) := by decide +kernel
theorem dL_law_1974 : decode cL_law 1974 = .ok (.ifCond .ne 15, 3) := by decide +kernel
theorem dL_law_1989 : decode cL_law 1989 = .ok (.goto 2268, 3) := by decide +kernel
theorem dL_law_1992 : decode cL_law 1992 = .ok (.aload_n 1, 1) := by decide +kernel
theorem dL_law_1993 : decode cL_law 1993 = .ok (.aload_n 0, 1) := by decide +kernel
theorem dL_law_1994 : decode cL_law 1994 = .ok (.iload 5, 2) := by decide +kernel
theorem dL_law_1996 : decode cL_law 1996 = .ok (.iconst 1, 1) := by decide +kernel
theorem dL_law_1997 : decode cL_law 1997 = .ok (.iadd, 1) := by decide +kernel
theorem dL_law_1998 : decode cL_law 1998 = .ok (.iaload, 1) := by decide +kernel
theorem dL_law_1999 : decode cL_law 1999 = .ok (.aload_n 0, 1) := by decide +kernel
theorem dL_law_2000 : decode cL_law 2000 = .ok (.iload 5, 2) := by decide +kernel
theorem dL_law_2002 : decode cL_law 2002 = .ok (.iconst 2, 1) := by decide +kernel
theorem dL_law_2003 : decode cL_law 2003 = .ok (.iadd, 1) := by decide +kernel
theorem dL_law_2004 : decode cL_law 2004 = .ok (.iaload, 1) := by decide +kernel
theorem dL_law_2005 : decode cL_law 2005 = .ok (.aload_n 3, 1) := by decide +kernel
theorem dL_law_2006 : decode cL_law 2006 = .ok (.invokestatic 295, 3) := by decide +kernel
theorem dL_law_2009 : decode cL_law 2009 = .ok (.istore 6, 2) := by decide +kernel
theorem dL_law_2011 : decode cL_law 2011 = .ok (.aload_n 2, 1) := by decide +kernel
theorem dL_law_2012 : decode cL_law 2012 = .ok (.aload_n 0, 1) := by decide +kernel
theorem dL_law_2013 : decode cL_law 2013 = .ok (.iload 5, 2) := by decide +kernel
theorem dL_law_2015 : decode cL_law 2015 = .ok (.iconst 1, 1) := by decide +kernel
theorem dL_law_2016 : decode cL_law 2016 = .ok (.iadd, 1) := by decide +kernel
theorem dL_law_2017 : decode cL_law 2017 = .ok (.iaload, 1) := by decide +kernel
theorem dL_law_2018 : decode cL_law 2018 = .ok (.aload_n 0, 1) := by decide +kernel
theorem dL_law_2019 : decode cL_law 2019 = .ok (.iload 5, 2) := by decide +kernel
theorem dL_law_2021 : decode cL_law 2021 = .ok (.iconst 2, 1) := by decide +kernel
theorem dL_law_2022 : decode cL_law 2022 = .ok (.iadd, 1) := by decide +kernel
theorem dL_law_2023 : decode cL_law 2023 = .ok (.iaload, 1) := by decide +kernel
theorem dL_law_2024 : decode cL_law 2024 = .ok (.invokevirtual 297, 3) := by decide +kernel
theorem dL_law_2027 : decode cL_law 2027 = .ok (.istore 7, 2) := by decide +kernel
theorem dL_law_2029 : decode cL_law 2029 = .ok (.aload_n 2, 1) := by decide +kernel
theorem dL_law_2030 : decode cL_law 2030 = .ok (.invokevirtual 218, 3) := by decide +kernel
theorem dL_law_2033 : decode cL_law 2033 = .ok (.iload 6, 2) := by decide +kernel
theorem dL_law_2035 : decode cL_law 2035 = .ok (.if_icmp .eq 5, 3) := by decide +kernel
theorem dL_law_2040 : decode cL_law 2040 = .ok (.iload 6, 2) := by decide +kernel
theorem dL_law_2042 : decode cL_law 2042 = .ok (.ifCond .ne 15, 3) := by decide +kernel
theorem dL_law_2057 : decode cL_law 2057 = .ok (.goto 2200, 3) := by decide +kernel
theorem dL_law_2060 : decode cL_law 2060 = .ok (.aload_n 1, 1) := by decide +kernel
theorem dL_law_2061 : decode cL_law 2061 = .ok (.aload_n 0, 1) := by decide +kernel
theorem dL_law_2062 : decode cL_law 2062 = .ok (.iload 5, 2) := by decide +kernel
theorem dL_law_2064 : decode cL_law 2064 = .ok (.iconst 1, 1) := by decide +kernel
theorem dL_law_2065 : decode cL_law 2065 = .ok (.iadd, 1) := by decide +kernel
theorem dL_law_2066 : decode cL_law 2066 = .ok (.iaload, 1) := by decide +kernel
theorem dL_law_2067 : decode cL_law 2067 = .ok (.aload_n 3, 1) := by decide +kernel
theorem dL_law_2068 : decode cL_law 2068 = .ok (.invokestatic 298, 3) := by decide +kernel
theorem dL_law_2071 : decode cL_law 2071 = .ok (.istore 6, 2) := by decide +kernel
theorem dL_law_2073 : decode cL_law 2073 = .ok (.aload_n 2, 1) := by decide +kernel
theorem dL_law_2074 : decode cL_law 2074 = .ok (.aload_n 0, 1) := by decide +kernel
theorem dL_law_2075 : decode cL_law 2075 = .ok (.iload 5, 2) := by decide +kernel
theorem dL_law_2077 : decode cL_law 2077 = .ok (.iconst 1, 1) := by decide +kernel
theorem dL_law_2078 : decode cL_law 2078 = .ok (.iadd, 1) := by decide +kernel
theorem dL_law_2079 : decode cL_law 2079 = .ok (.iaload, 1) := by decide +kernel
theorem dL_law_2080 : decode cL_law 2080 = .ok (.invokevirtual 300, 3) := by decide +kernel
theorem dL_law_2083 : decode cL_law 2083 = .ok (.istore 7, 2) := by decide +kernel
theorem dL_law_2085 : decode cL_law 2085 = .ok (.aload_n 2, 1) := by decide +kernel
theorem dL_law_2086 : decode cL_law 2086 = .ok (.invokevirtual 218, 3) := by decide +kernel
theorem dL_law_2089 : decode cL_law 2089 = .ok (.iload 6, 2) := by decide +kernel
theorem dL_law_2091 : decode cL_law 2091 = .ok (.if_icmp .eq 5, 3) := by decide +kernel
theorem dL_law_2096 : decode cL_law 2096 = .ok (.iload 6, 2) := by decide +kernel
theorem dL_law_2098 : decode cL_law 2098 = .ok (.ifCond .ne 15, 3) := by decide +kernel
theorem dL_law_2113 : decode cL_law 2113 = .ok (.goto 2144, 3) := by decide +kernel
theorem dL_law_2116 : decode cL_law 2116 = .ok (.aload_n 1, 1) := by decide +kernel
theorem dL_law_2117 : decode cL_law 2117 = .ok (.aload_n 0, 1) := by decide +kernel
theorem dL_law_2118 : decode cL_law 2118 = .ok (.iload 5, 2) := by decide +kernel
theorem dL_law_2120 : decode cL_law 2120 = .ok (.iconst 1, 1) := by decide +kernel
theorem dL_law_2121 : decode cL_law 2121 = .ok (.iadd, 1) := by decide +kernel
theorem dL_law_2122 : decode cL_law 2122 = .ok (.iaload, 1) := by decide +kernel
theorem dL_law_2123 : decode cL_law 2123 = .ok (.aload_n 3, 1) := by decide +kernel
theorem dL_law_2124 : decode cL_law 2124 = .ok (.invokestatic 301, 3) := by decide +kernel
theorem dL_law_2127 : decode cL_law 2127 = .ok (.istore 6, 2) := by decide +kernel
theorem dL_law_2129 : decode cL_law 2129 = .ok (.aload_n 2, 1) := by decide +kernel
theorem dL_law_2130 : decode cL_law 2130 = .ok (.aload_n 0, 1) := by decide +kernel
theorem dL_law_2131 : decode cL_law 2131 = .ok (.iload 5, 2) := by decide +kernel
theorem dL_law_2133 : decode cL_law 2133 = .ok (.iconst 1, 1) := by decide +kernel
theorem dL_law_2134 : decode cL_law 2134 = .ok (.iadd, 1) := by decide +kernel
theorem dL_law_2135 : decode cL_law 2135 = .ok (.iaload, 1) := by decide +kernel
theorem dL_law_2136 : decode cL_law 2136 = .ok (.invokevirtual 303, 3) := by decide +kernel
theorem dL_law_2139 : decode cL_law 2139 = .ok (.istore 7, 2) := by decide +kernel
theorem dL_law_2141 : decode cL_law 2141 = .ok (.aload_n 2, 1) := by decide +kernel
theorem dL_law_2142 : decode cL_law 2142 = .ok (.invokevirtual 218, 3) := by decide +kernel
theorem dL_law_2145 : decode cL_law 2145 = .ok (.iload 6, 2) := by decide +kernel
theorem dL_law_2147 : decode cL_law 2147 = .ok (.if_icmp .eq 5, 3) := by decide +kernel
theorem dL_law_2152 : decode cL_law 2152 = .ok (.iload 6, 2) := by decide +kernel
theorem dL_law_2154 : decode cL_law 2154 = .ok (.ifCond .ne 15, 3) := by decide +kernel
theorem dL_law_2169 : decode cL_law 2169 = .ok (.goto 2088, 3) := by decide +kernel
theorem dL_law_2172 : decode cL_law 2172 = .ok (.aload_n 1, 1) := by decide +kernel
theorem dL_law_2173 : decode cL_law 2173 = .ok (.aload_n 0, 1) := by decide +kernel
theorem dL_law_2174 : decode cL_law 2174 = .ok (.iload 5, 2) := by decide +kernel
theorem dL_law_2176 : decode cL_law 2176 = .ok (.iconst 1, 1) := by decide +kernel
theorem dL_law_2177 : decode cL_law 2177 = .ok (.iadd, 1) := by decide +kernel
theorem dL_law_2178 : decode cL_law 2178 = .ok (.iaload, 1) := by decide +kernel
theorem dL_law_2179 : decode cL_law 2179 = .ok (.aload_n 0, 1) := by decide +kernel
theorem dL_law_2180 : decode cL_law 2180 = .ok (.iload 5, 2) := by decide +kernel
theorem dL_law_2182 : decode cL_law 2182 = .ok (.iconst 2, 1) := by decide +kernel
theorem dL_law_2183 : decode cL_law 2183 = .ok (.iadd, 1) := by decide +kernel
theorem dL_law_2184 : decode cL_law 2184 = .ok (.iaload, 1) := by decide +kernel
theorem dL_law_2185 : decode cL_law 2185 = .ok (.aload_n 3, 1) := by decide +kernel
theorem dL_law_2186 : decode cL_law 2186 = .ok (.invokestatic 304, 3) := by decide +kernel
theorem dL_law_2189 : decode cL_law 2189 = .ok (.istore 6, 2) := by decide +kernel
theorem dL_law_2191 : decode cL_law 2191 = .ok (.aload_n 2, 1) := by decide +kernel
theorem dL_law_2192 : decode cL_law 2192 = .ok (.aload_n 0, 1) := by decide +kernel
theorem dL_law_2193 : decode cL_law 2193 = .ok (.iload 5, 2) := by decide +kernel
theorem dL_law_2195 : decode cL_law 2195 = .ok (.iconst 1, 1) := by decide +kernel
theorem dL_law_2196 : decode cL_law 2196 = .ok (.iadd, 1) := by decide +kernel
theorem dL_law_2197 : decode cL_law 2197 = .ok (.iaload, 1) := by decide +kernel
theorem dL_law_2198 : decode cL_law 2198 = .ok (.aload_n 0, 1) := by decide +kernel
theorem dL_law_2199 : decode cL_law 2199 = .ok (.iload 5, 2) := by decide +kernel
theorem dL_law_2201 : decode cL_law 2201 = .ok (.iconst 2, 1) := by decide +kernel
theorem dL_law_2202 : decode cL_law 2202 = .ok (.iadd, 1) := by decide +kernel
theorem dL_law_2203 : decode cL_law 2203 = .ok (.iaload, 1) := by decide +kernel
theorem dL_law_2204 : decode cL_law 2204 = .ok (.invokevirtual 306, 3) := by decide +kernel
theorem dL_law_2207 : decode cL_law 2207 = .ok (.istore 7, 2) := by decide +kernel
theorem dL_law_2209 : decode cL_law 2209 = .ok (.aload_n 2, 1) := by decide +kernel
theorem dL_law_2210 : decode cL_law 2210 = .ok (.invokevirtual 218, 3) := by decide +kernel
theorem dL_law_2213 : decode cL_law 2213 = .ok (.iload 6, 2) := by decide +kernel
theorem dL_law_2215 : decode cL_law 2215 = .ok (.if_icmp .eq 5, 3) := by decide +kernel
theorem dL_law_2220 : decode cL_law 2220 = .ok (.iload 6, 2) := by decide +kernel
theorem dL_law_2222 : decode cL_law 2222 = .ok (.ifCond .ne 15, 3) := by decide +kernel
theorem dL_law_2237 : decode cL_law 2237 = .ok (.goto 2020, 3) := by decide +kernel
theorem dL_law_2240 : decode cL_law 2240 = .ok (.aload_n 1, 1) := by decide +kernel
theorem dL_law_2241 : decode cL_law 2241 = .ok (.aload_n 0, 1) := by decide +kernel
theorem dL_law_2242 : decode cL_law 2242 = .ok (.iload 5, 2) := by decide +kernel
theorem dL_law_2244 : decode cL_law 2244 = .ok (.iconst 1, 1) := by decide +kernel
theorem dL_law_2245 : decode cL_law 2245 = .ok (.iadd, 1) := by decide +kernel
theorem dL_law_2246 : decode cL_law 2246 = .ok (.iaload, 1) := by decide +kernel
theorem dL_law_2247 : decode cL_law 2247 = .ok (.aload_n 3, 1) := by decide +kernel
theorem dL_law_2248 : decode cL_law 2248 = .ok (.invokestatic 307, 3) := by decide +kernel
theorem dL_law_2251 : decode cL_law 2251 = .ok (.istore 6, 2) := by decide +kernel
theorem dL_law_2253 : decode cL_law 2253 = .ok (.aload_n 2, 1) := by decide +kernel
theorem dL_law_2254 : decode cL_law 2254 = .ok (.aload_n 0, 1) := by decide +kernel
theorem dL_law_2255 : decode cL_law 2255 = .ok (.iload 5, 2) := by decide +kernel
theorem dL_law_2257 : decode cL_law 2257 = .ok (.iconst 1, 1) := by decide +kernel
theorem dL_law_2258 : decode cL_law 2258 = .ok (.iadd, 1) := by decide +kernel
theorem dL_law_2259 : decode cL_law 2259 = .ok (.iaload, 1) := by decide +kernel
theorem dL_law_2260 : decode cL_law 2260 = .ok (.invokevirtual 309, 3) := by decide +kernel
theorem dL_law_2263 : decode cL_law 2263 = .ok (.istore 7, 2) := by decide +kernel
theorem dL_law_2265 : decode cL_law 2265 = .ok (.aload_n 2, 1) := by decide +kernel
theorem dL_law_2266 : decode cL_law 2266 = .ok (.invokevirtual 218, 3) := by decide +kernel
theorem dL_law_2269 : decode cL_law 2269 = .ok (.iload 6, 2) := by decide +kernel
theorem dL_law_2271 : decode cL_law 2271 = .ok (.if_icmp .eq 5, 3) := by decide +kernel
theorem dL_law_2276 : decode cL_law 2276 = .ok (.iload 6, 2) := by decide +kernel
theorem dL_law_2278 : decode cL_law 2278 = .ok (.ifCond .ne 15, 3) := by decide +kernel
theorem dL_law_2293 : decode cL_law 2293 = .ok (.goto 1964, 3) := by decide +kernel
theorem dL_law_2296 : decode cL_law 2296 = .ok (.aload_n 1, 1) := by decide +kernel
theorem dL_law_2297 : decode cL_law 2297 = .ok (.aload_n 0, 1) := by decide +kernel
theorem dL_law_2298 : decode cL_law 2298 = .ok (.iload 5, 2) := by decide +kernel
theorem dL_law_2300 : decode cL_law 2300 = .ok (.iconst 1, 1) := by decide +kernel
theorem dL_law_2301 : decode cL_law 2301 = .ok (.iadd, 1) := by decide +kernel
theorem dL_law_2302 : decode cL_law 2302 = .ok (.iaload, 1) := by decide +kernel
theorem dL_law_2303 : decode cL_law 2303 = .ok (.aload_n 0, 1) := by decide +kernel
theorem dL_law_2304 : decode cL_law 2304 = .ok (.iload 5, 2) := by decide +kernel
theorem dL_law_2306 : decode cL_law 2306 = .ok (.iconst 2, 1) := by decide +kernel
theorem dL_law_2307 : decode cL_law 2307 = .ok (.iadd, 1) := by decide +kernel
theorem dL_law_2308 : decode cL_law 2308 = .ok (.iaload, 1) := by decide +kernel
theorem dL_law_2309 : decode cL_law 2309 = .ok (.aload_n 3, 1) := by decide +kernel
theorem dL_law_2310 : decode cL_law 2310 = .ok (.invokestatic 310, 3) := by decide +kernel
theorem dL_law_2313 : decode cL_law 2313 = .ok (.istore 6, 2) := by decide +kernel
theorem dL_law_2315 : decode cL_law 2315 = .ok (.aload_n 2, 1) := by decide +kernel
theorem dL_law_2316 : decode cL_law 2316 = .ok (.aload_n 0, 1) := by decide +kernel
theorem dL_law_2317 : decode cL_law 2317 = .ok (.iload 5, 2) := by decide +kernel
theorem dL_law_2319 : decode cL_law 2319 = .ok (.iconst 1, 1) := by decide +kernel
theorem dL_law_2320 : decode cL_law 2320 = .ok (.iadd, 1) := by decide +kernel
theorem dL_law_2321 : decode cL_law 2321 = .ok (.iaload, 1) := by decide +kernel
theorem dL_law_2322 : decode cL_law 2322 = .ok (.aload_n 0, 1) := by decide +kernel
theorem dL_law_2323 : decode cL_law 2323 = .ok (.iload 5, 2) := by decide +kernel
theorem dL_law_2325 : decode cL_law 2325 = .ok (.iconst 2, 1) := by decide +kernel
theorem dL_law_2326 : decode cL_law 2326 = .ok (.iadd, 1) := by decide +kernel
theorem dL_law_2327 : decode cL_law 2327 = .ok (.iaload, 1) := by decide +kernel
theorem dL_law_2328 : decode cL_law 2328 = .ok (.invokevirtual 312, 3) := by decide +kernel
theorem dL_law_2331 : decode cL_law 2331 = .ok (.istore 7, 2) := by decide +kernel
theorem dL_law_2333 : decode cL_law 2333 = .ok (.aload_n 2, 1) := by decide +kernel
theorem dL_law_2334 : decode cL_law 2334 = .ok (.invokevirtual 218, 3) := by decide +kernel
theorem dL_law_2337 : decode cL_law 2337 = .ok (.iload 6, 2) := by decide +kernel
theorem dL_law_2339 : decode cL_law 2339 = .ok (.if_icmp .eq 5, 3) := by decide +kernel
theorem dL_law_2344 : decode cL_law 2344 = .ok (.iload 6, 2) := by decide +kernel
theorem dL_law_2346 : decode cL_law 2346 = .ok (.ifCond .ne 15, 3) := by decide +kernel
theorem dL_law_2361 : decode cL_law 2361 = .ok (.goto 1896, 3) := by decide +kernel
theorem mm_980 : (.methodLink RL 266 yL_invite : Cond) ∈ zx_G := zx_wi 980 (by decide +kernel) (by decide +kernel)
theorem mm_981 : (.static yL_invite : Cond) ∈ zx_G := zx_wi 981 (by decide +kernel) (by decide +kernel)
theorem mm_982 : (.codeWith yL_invite cL_invite 5 (some .int) [(0, 10, 13, 21), (0, 10, 17, 13), (0, 10, 21, 45)] : Cond) ∈ zx_G := zx_wi 982 (by decide +kernel) (by decide +kernel)
theorem mm_1016 : (.methodLink RL 269 yL_invitation : Cond) ∈ zx_G := zx_wi 1016 (by decide +kernel) (by decide +kernel)
theorem mm_1017 : (.static yL_invitation : Cond) ∈ zx_G := zx_wi 1017 (by decide +kernel) (by decide +kernel)
theorem mm_1018 : (.codeWith yL_invitation cL_invitation 5 (some .int) [(0, 10, 13, 21)] : Cond) ∈ zx_G := zx_wi 1018 (by decide +kernel) (by decide +kernel)
theorem mm_1023 : (.methodLink RL 272 yL_answer : Cond) ∈ zx_G := zx_wi 1023 (by decide +kernel) (by decide +kernel)
theorem mm_1024 : (.static yL_answer : Cond) ∈ zx_G := zx_wi 1024 (by decide +kernel) (by decide +kernel)
theorem mm_1025 : (.codeWith yL_answer cL_answer 6 (some .int) [(0, 12, 15, 21), (0, 12, 19, 45)] : Cond) ∈ zx_G := zx_wi 1025 (by decide +kernel) (by decide +kernel)
theorem mm_1034 : (.methodLink RL 276 yL_report : Cond) ∈ zx_G := zx_wi 1034 (by decide +kernel) (by decide +kernel)
theorem mm_1035 : (.static yL_report : Cond) ∈ zx_G := zx_wi 1035 (by decide +kernel) (by decide +kernel)
theorem mm_1036 : (.codeWith yL_report cL_report 8 (some .int) [(0, 16, 19, 21), (0, 16, 23, 13), (0, 16, 27, 45)] : Cond) ∈ zx_G := zx_wi 1036 (by decide +kernel) (by decide +kernel)
theorem mm_1092 : (.methodLink RL 280 yL_evened : Cond) ∈ zx_G := zx_wi 1092 (by decide +kernel) (by decide +kernel)
theorem mm_1093 : (.static yL_evened : Cond) ∈ zx_G := zx_wi 1093 (by decide +kernel) (by decide +kernel)
theorem mm_1094 : (.codeWith yL_evened cL_evened 5 (some .int) [(0, 10, 13, 21), (0, 10, 17, 64)] : Cond) ∈ zx_G := zx_wi 1094 (by decide +kernel) (by decide +kernel)
theorem mm_1107 : (.methodLink RL 283 yL_meet : Cond) ∈ zx_G := zx_wi 1107 (by decide +kernel) (by decide +kernel)
theorem mm_1108 : (.static yL_meet : Cond) ∈ zx_G := zx_wi 1108 (by decide +kernel) (by decide +kernel)
theorem mm_1109 : (.codeWith yL_meet cL_meet 6 (some .int) [(0, 12, 15, 21), (0, 12, 19, 45), (0, 12, 23, 64)] : Cond) ∈ zx_G := zx_wi 1109 (by decide +kernel) (by decide +kernel)
theorem mm_1124 : (.methodLink RL 286 yL_openPoints : Cond) ∈ zx_G := zx_wi 1124 (by decide +kernel) (by decide +kernel)
theorem mm_1125 : (.static yL_openPoints : Cond) ∈ zx_G := zx_wi 1125 (by decide +kernel) (by decide +kernel)
theorem mm_1126 : (.codeWith yL_openPoints cL_openPoints 4 (some .int) [(0, 9, 12, 21)] : Cond) ∈ zx_G := zx_wi 1126 (by decide +kernel) (by decide +kernel)
theorem mm_1131 : (.methodLink RL 289 yL_decide : Cond) ∈ zx_G := zx_wi 1131 (by decide +kernel) (by decide +kernel)
theorem mm_1132 : (.static yL_decide : Cond) ∈ zx_G := zx_wi 1132 (by decide +kernel) (by decide +kernel)
theorem mm_1133 : (.codeWith yL_decide cL_decide 4 (some .int) [(0, 9, 12, 21), (0, 9, 15, 45)] : Cond) ∈ zx_G := zx_wi 1133 (by decide +kernel) (by decide +kernel)
theorem mm_1184 : (.methodLink RL 292 yL_appeal : Cond) ∈ zx_G := zx_wi 1184 (by decide +kernel) (by decide +kernel)
theorem mm_1185 : (.static yL_appeal : Cond) ∈ zx_G := zx_wi 1185 (by decide +kernel) (by decide +kernel)
theorem mm_1186 : (.codeWith yL_appeal cL_appeal 4 (some .int) [(0, 9, 12, 21), (0, 9, 15, 45)] : Cond) ∈ zx_G := zx_wi 1186 (by decide +kernel) (by decide +kernel)
theorem mm_1195 : (.methodLink RL 295 yL_transfer : Cond) ∈ zx_G := zx_wi 1195 (by decide +kernel) (by decide +kernel)
theorem mm_1196 : (.static yL_transfer : Cond) ∈ zx_G := zx_wi 1196 (by decide +kernel) (by decide +kernel)
theorem mm_1197 : (.codeWith yL_transfer cL_transfer 5 (some .int) [(0, 10, 13, 21), (0, 10, 17, 13), (0, 10, 21, 45)] : Cond) ∈ zx_G := zx_wi 1197 (by decide +kernel) (by decide +kernel)
theorem mm_1202 : (.methodLink RL 298 yL_showAhead : Cond) ∈ zx_G := zx_wi 1202 (by decide +kernel) (by decide +kernel)
theorem mm_1203 : (.static yL_showAhead : Cond) ∈ zx_G := zx_wi 1203 (by decide +kernel) (by decide +kernel)
theorem mm_1204 : (.codeWith yL_showAhead cL_showAhead 4 (some .int) [(0, 9, 12, 21), (0, 9, 15, 45)] : Cond) ∈ zx_G := zx_wi 1204 (by decide +kernel) (by decide +kernel)
theorem mm_1209 : (.methodLink RL 301 yL_priority : Cond) ∈ zx_G := zx_wi 1209 (by decide +kernel) (by decide +kernel)
theorem mm_1210 : (.static yL_priority : Cond) ∈ zx_G := zx_wi 1210 (by decide +kernel) (by decide +kernel)
theorem mm_1211 : (.codeWith yL_priority cL_priority 4 (some .int) [(0, 9, 12, 21), (0, 9, 15, 64)] : Cond) ∈ zx_G := zx_wi 1211 (by decide +kernel) (by decide +kernel)
theorem mm_1216 : (.methodLink RL 304 yL_embargo : Cond) ∈ zx_G := zx_wi 1216 (by decide +kernel) (by decide +kernel)
theorem mm_1217 : (.static yL_embargo : Cond) ∈ zx_G := zx_wi 1217 (by decide +kernel) (by decide +kernel)
theorem mm_1218 : (.codeWith yL_embargo cL_embargo 5 (some .int) [(0, 10, 13, 21), (0, 10, 17, 13), (0, 10, 21, 45)] : Cond) ∈ zx_G := zx_wi 1218 (by decide +kernel) (by decide +kernel)
theorem mm_1223 : (.methodLink RL 307 yL_publish : Cond) ∈ zx_G := zx_wi 1223 (by decide +kernel) (by decide +kernel)
theorem mm_1224 : (.static yL_publish : Cond) ∈ zx_G := zx_wi 1224 (by decide +kernel) (by decide +kernel)
theorem mm_1225 : (.codeWith yL_publish cL_publish 4 (some .int) [(0, 9, 12, 21), (0, 9, 15, 45)] : Cond) ∈ zx_G := zx_wi 1225 (by decide +kernel) (by decide +kernel)
theorem mm_1237 : (.methodLink RL 310 yL_cite : Cond) ∈ zx_G := zx_wi 1237 (by decide +kernel) (by decide +kernel)
theorem mm_1238 : (.static yL_cite : Cond) ∈ zx_G := zx_wi 1238 (by decide +kernel) (by decide +kernel)
theorem mm_1239 : (.codeWith yL_cite cL_cite 5 (some .int) [(0, 10, 13, 21), (0, 10, 17, 13), (0, 10, 21, 45)] : Cond) ∈ zx_G := zx_wi 1239 (by decide +kernel) (by decide +kernel)
theorem mm_2109 : (.methodLink RL 268 yX15_invite : Cond) ∈ zx_G := zx_wi 2109 (by decide +kernel) (by decide +kernel)
theorem mm_2110 : (.instanceMethod yX15_invite : Cond) ∈ zx_G := zx_wi 2110 (by decide +kernel) (by decide +kernel)
theorem mm_2111 : (.selects RX15 yX15_invite yX15_invite : Cond) ∈ zx_G := zx_wi 2111 (by decide +kernel) (by decide +kernel)
theorem mm_2112 : (.code yX15_invite cX15_invite 8 (some .int) : Cond) ∈ zx_G := zx_wi 2112 (by decide +kernel) (by decide +kernel)
theorem mm_2146 : (.methodLink RL 271 yX15_invitation : Cond) ∈ zx_G := zx_wi 2146 (by decide +kernel) (by decide +kernel)
theorem mm_2147 : (.instanceMethod yX15_invitation : Cond) ∈ zx_G := zx_wi 2147 (by decide +kernel) (by decide +kernel)
theorem mm_2148 : (.selects RX15 yX15_invitation yX15_invitation : Cond) ∈ zx_G := zx_wi 2148 (by decide +kernel) (by decide +kernel)
theorem mm_2149 : (.code yX15_invitation cX15_invitation 4 (some .char) : Cond) ∈ zx_G := zx_wi 2149 (by decide +kernel) (by decide +kernel)
theorem mm_2150 : (.methodLink RL 275 yX15_answer : Cond) ∈ zx_G := zx_wi 2150 (by decide +kernel) (by decide +kernel)
theorem mm_2151 : (.instanceMethod yX15_answer : Cond) ∈ zx_G := zx_wi 2151 (by decide +kernel) (by decide +kernel)
theorem mm_2152 : (.selects RX15 yX15_answer yX15_answer : Cond) ∈ zx_G := zx_wi 2152 (by decide +kernel) (by decide +kernel)
theorem mm_2153 : (.code yX15_answer cX15_answer 9 (some .int) : Cond) ∈ zx_G := zx_wi 2153 (by decide +kernel) (by decide +kernel)
theorem mm_2154 : (.methodLink RL 279 yX15_report : Cond) ∈ zx_G := zx_wi 2154 (by decide +kernel) (by decide +kernel)
theorem mm_2155 : (.instanceMethod yX15_report : Cond) ∈ zx_G := zx_wi 2155 (by decide +kernel) (by decide +kernel)
theorem mm_2156 : (.selects RX15 yX15_report yX15_report : Cond) ∈ zx_G := zx_wi 2156 (by decide +kernel) (by decide +kernel)
theorem mm_2157 : (.code yX15_report cX15_report 8 (some .int) : Cond) ∈ zx_G := zx_wi 2157 (by decide +kernel) (by decide +kernel)
theorem mm_2202 : (.methodLink RL 282 yX15_evened : Cond) ∈ zx_G := zx_wi 2202 (by decide +kernel) (by decide +kernel)
theorem mm_2203 : (.instanceMethod yX15_evened : Cond) ∈ zx_G := zx_wi 2203 (by decide +kernel) (by decide +kernel)
theorem mm_2204 : (.selects RX15 yX15_evened yX15_evened : Cond) ∈ zx_G := zx_wi 2204 (by decide +kernel) (by decide +kernel)
theorem mm_2205 : (.code yX15_evened cX15_evened 4 (some .int) : Cond) ∈ zx_G := zx_wi 2205 (by decide +kernel) (by decide +kernel)
theorem mm_2218 : (.methodLink RL 285 yX15_meet : Cond) ∈ zx_G := zx_wi 2218 (by decide +kernel) (by decide +kernel)
theorem mm_2219 : (.instanceMethod yX15_meet : Cond) ∈ zx_G := zx_wi 2219 (by decide +kernel) (by decide +kernel)
theorem mm_2220 : (.selects RX15 yX15_meet yX15_meet : Cond) ∈ zx_G := zx_wi 2220 (by decide +kernel) (by decide +kernel)
theorem mm_2221 : (.code yX15_meet cX15_meet 6 (some .int) : Cond) ∈ zx_G := zx_wi 2221 (by decide +kernel) (by decide +kernel)
theorem mm_2231 : (.methodLink RL 288 yX15_openPoints : Cond) ∈ zx_G := zx_wi 2231 (by decide +kernel) (by decide +kernel)
theorem mm_2232 : (.instanceMethod yX15_openPoints : Cond) ∈ zx_G := zx_wi 2232 (by decide +kernel) (by decide +kernel)
theorem mm_2233 : (.selects RX15 yX15_openPoints yX15_openPoints : Cond) ∈ zx_G := zx_wi 2233 (by decide +kernel) (by decide +kernel)
theorem mm_2234 : (.code yX15_openPoints cX15_openPoints 2 (some .int) : Cond) ∈ zx_G := zx_wi 2234 (by decide +kernel) (by decide +kernel)
theorem mm_2255 : (.methodLink RL 291 yX15_decide : Cond) ∈ zx_G := zx_wi 2255 (by decide +kernel) (by decide +kernel)
theorem mm_2256 : (.instanceMethod yX15_decide : Cond) ∈ zx_G := zx_wi 2256 (by decide +kernel) (by decide +kernel)
theorem mm_2257 : (.selects RX15 yX15_decide yX15_decide : Cond) ∈ zx_G := zx_wi 2257 (by decide +kernel) (by decide +kernel)
theorem mm_2258 : (.code yX15_decide cX15_decide 11 (some .char) : Cond) ∈ zx_G := zx_wi 2258 (by decide +kernel) (by decide +kernel)
theorem mm_2261 : (.methodLink RL 294 yX15_appeal : Cond) ∈ zx_G := zx_wi 2261 (by decide +kernel) (by decide +kernel)
theorem mm_2262 : (.instanceMethod yX15_appeal : Cond) ∈ zx_G := zx_wi 2262 (by decide +kernel) (by decide +kernel)
theorem mm_2263 : (.selects RX15 yX15_appeal yX15_appeal : Cond) ∈ zx_G := zx_wi 2263 (by decide +kernel) (by decide +kernel)
theorem mm_2264 : (.code yX15_appeal cX15_appeal 6 (some .int) : Cond) ∈ zx_G := zx_wi 2264 (by decide +kernel) (by decide +kernel)
theorem mm_2269 : (.methodLink RL 297 yX15_transfer : Cond) ∈ zx_G := zx_wi 2269 (by decide +kernel) (by decide +kernel)
theorem mm_2270 : (.instanceMethod yX15_transfer : Cond) ∈ zx_G := zx_wi 2270 (by decide +kernel) (by decide +kernel)
theorem mm_2271 : (.selects RX15 yX15_transfer yX15_transfer : Cond) ∈ zx_G := zx_wi 2271 (by decide +kernel) (by decide +kernel)
theorem mm_2272 : (.code yX15_transfer cX15_transfer 6 (some .int) : Cond) ∈ zx_G := zx_wi 2272 (by decide +kernel) (by decide +kernel)
theorem mm_2297 : (.methodLink RL 300 yX15_showAhead : Cond) ∈ zx_G := zx_wi 2297 (by decide +kernel) (by decide +kernel)
theorem mm_2298 : (.instanceMethod yX15_showAhead : Cond) ∈ zx_G := zx_wi 2298 (by decide +kernel) (by decide +kernel)
theorem mm_2299 : (.selects RX15 yX15_showAhead yX15_showAhead : Cond) ∈ zx_G := zx_wi 2299 (by decide +kernel) (by decide +kernel)
theorem mm_2300 : (.code yX15_showAhead cX15_showAhead 3 (some .int) : Cond) ∈ zx_G := zx_wi 2300 (by decide +kernel) (by decide +kernel)
theorem mm_2301 : (.methodLink RL 303 yX15_priority : Cond) ∈ zx_G := zx_wi 2301 (by decide +kernel) (by decide +kernel)
theorem mm_2302 : (.instanceMethod yX15_priority : Cond) ∈ zx_G := zx_wi 2302 (by decide +kernel) (by decide +kernel)
theorem mm_2303 : (.selects RX15 yX15_priority yX15_priority : Cond) ∈ zx_G := zx_wi 2303 (by decide +kernel) (by decide +kernel)
theorem mm_2304 : (.code yX15_priority cX15_priority 2 (some .int) : Cond) ∈ zx_G := zx_wi 2304 (by decide +kernel) (by decide +kernel)
theorem mm_2305 : (.methodLink RL 306 yX15_embargo : Cond) ∈ zx_G := zx_wi 2305 (by decide +kernel) (by decide +kernel)
theorem mm_2306 : (.instanceMethod yX15_embargo : Cond) ∈ zx_G := zx_wi 2306 (by decide +kernel) (by decide +kernel)
theorem mm_2307 : (.selects RX15 yX15_embargo yX15_embargo : Cond) ∈ zx_G := zx_wi 2307 (by decide +kernel) (by decide +kernel)
theorem mm_2308 : (.code yX15_embargo cX15_embargo 4 (some .int) : Cond) ∈ zx_G := zx_wi 2308 (by decide +kernel) (by decide +kernel)
theorem mm_2309 : (.methodLink RL 309 yX15_publish : Cond) ∈ zx_G := zx_wi 2309 (by decide +kernel) (by decide +kernel)
theorem mm_2310 : (.instanceMethod yX15_publish : Cond) ∈ zx_G := zx_wi 2310 (by decide +kernel) (by decide +kernel)
theorem mm_2311 : (.selects RX15 yX15_publish yX15_publish : Cond) ∈ zx_G := zx_wi 2311 (by decide +kernel) (by decide +kernel)
theorem mm_2312 : (.code yX15_publish cX15_publish 3 (some .int) : Cond) ∈ zx_G := zx_wi 2312 (by decide +kernel) (by decide +kernel)
theorem mm_2321 : (.methodLink RL 312 yX15_cite : Cond) ∈ zx_G := zx_wi 2321 (by decide +kernel) (by decide +kernel)
theorem mm_2322 : (.instanceMethod yX15_cite : Cond) ∈ zx_G := zx_wi 2322 (by decide +kernel) (by decide +kernel)
theorem mm_2323 : (.selects RX15 yX15_cite yX15_cite : Cond) ∈ zx_G := zx_wi 2323 (by decide +kernel) (by decide +kernel)
theorem mm_2324 : (.code yX15_cite cX15_cite 4 (some .int) : Cond) ∈ zx_G := zx_wi 2324 (by decide +kernel) (by decide +kernel)
set_option maxHeartbeats 4000000 in
set_option maxRecDepth 100000 in
theorem law_case_15 {p : Program} {l : Launch} {e : Env} {s : State} {m : MethodId} {below : List Frame} {meth : Method} {c : Code} {D : va_G} {cy : Nat → ClassId} {ed b : Nat} {xs : Nat → Int32} {A : Nat → Prop} {Q : State → Prop} (C0 : zx_LW p l s m c D cy ed b xs A)
    {h pe ne pa ro a1 a2 a3 a4 a5 a6 a7 a8 a9 n1 n2 n3 n4 n5 m0 mp b1 b2 b3 b4 b5 mq oa od : Nat} {f2 f3 f4 f5 g2 g3 g4 g5 : Nat → Int32} (hf5 : ∀ j, j < 8 → f5 j = 115) (hg5 : ∀ j, j < 8 → g5 j = 115) {H : Heap} {locs : List Loc} {ls : Array Slot}
    (hP : va_P D vwCl [(h, .inr (13, [.ref pe, .ref ne, .ref pa, .ref ro, .int 0])), (pe, .inr (9, [.int 0, .ref a1, .ref a2, .ref a3, .ref a4, .ref a5, .ref a6, .ref a7, .ref a8, .ref a9])), (a1, .inl (cy 0, 20, .inl (fun _ => 0))), (a2, .inl (cy 0, 20, .inl (fun _ => 0))), (ne, .inr (6, [.ref n1, .ref n2, .ref n3, .ref n4, .ref n5])), (n1, .inl (cy 0, 8, .inl (fun _ => 0))), (n2, .inl (cy 0, 8, .inl f2)), (n3, .inl (cy 0, 8, .inl f3)), (n4, .inl (cy 0, 8, .inl f4)), (n5, .inl (cy 1, 8, .inl f5)), (pa, .inr (4, [.int 0, .ref ed, .int 0])), (ro, .inl (cy 0, 20, .inl (fun _ => 0))), (m0, .inr (20, [.int 0, .ref mp, .int 0, .ref b1, .ref b2, .ref b3, .ref b4, .ref b5, .ref mq])), (b1, .inl (cy 0, 8, .inl (fun _ => 0))), (b2, .inl (cy 0, 8, .inl g2)), (b3, .inl (cy 0, 8, .inl g3)), (b4, .inl (cy 0, 8, .inl g4)), (b5, .inl (cy 1, 8, .inl g5)), (mp, .inr (4, [.int 0, .ref ed, .int 0])), (mq, .inr (4, [.int 0, .ref ed, .int 0])), (oa, .inl (cy 3, 1, .inr (.inl (fun _ => 0)))), (od, .inl (cy 4, 1, .inr (.inr (.inr (.inl (fun _ => 0))))))] H) (hD : va_D A [(h, .inr (13, [.ref pe, .ref ne, .ref pa, .ref ro, .int 0])), (pe, .inr (9, [.int 0, .ref a1, .ref a2, .ref a3, .ref a4, .ref a5, .ref a6, .ref a7, .ref a8, .ref a9])), (a1, .inl (cy 0, 20, .inl (fun _ => 0))), (a2, .inl (cy 0, 20, .inl (fun _ => 0))), (ne, .inr (6, [.ref n1, .ref n2, .ref n3, .ref n4, .ref n5])), (n1, .inl (cy 0, 8, .inl (fun _ => 0))), (n2, .inl (cy 0, 8, .inl f2)), (n3, .inl (cy 0, 8, .inl f3)), (n4, .inl (cy 0, 8, .inl f4)), (n5, .inl (cy 1, 8, .inl f5)), (pa, .inr (4, [.int 0, .ref ed, .int 0])), (ro, .inl (cy 0, 20, .inl (fun _ => 0))), (m0, .inr (20, [.int 0, .ref mp, .int 0, .ref b1, .ref b2, .ref b3, .ref b4, .ref b5, .ref mq])), (b1, .inl (cy 0, 8, .inl (fun _ => 0))), (b2, .inl (cy 0, 8, .inl g2)), (b3, .inl (cy 0, 8, .inl g3)), (b4, .inl (cy 0, 8, .inl g4)), (b5, .inl (cy 1, 8, .inl g5)), (mp, .inr (4, [.int 0, .ref ed, .int 0])), (mq, .inr (4, [.int 0, .ref ed, .int 0])), (oa, .inl (cy 3, 1, .inr (.inl (fun _ => 0)))), (od, .inl (cy 4, 1, .inr (.inr (.inr (.inl (fun _ => 0))))))]) (hS : va_S A s.heap H locs) (hl : lv_has ls 9 [(5, .int 0), (4, .ref od), (3, .ref oa), (2, .ref m0), (1, .ref h), (0, .ref b)])
    (hend : ∀ (H : Heap) (locs : List Loc) (ls : Array Slot), va_S A s.heap H locs → lv_has ls 9 [(0, .ref b), (5, .int 0)] → W p l e room_1 s m #[Value.ref b] below meth c H locs 60 1200 Q (F0 m 4257 ls [])) :
    W p l e room_1 s m #[Value.ref b] below meth c H locs 29 880 Q (F0 m 1324 ls []) := by
  obtain ⟨hx, hb, hml, hst, hown, hts, hX, hbl, hbA, hA, hK, hZ, hN⟩ := C0
  refine lv_aload_n hx hb dL_law_1324 rfl (lv_at hl 4 rfl) ?_
  refine lv_aload_n hx hb dL_law_1325 rfl (lv_at hl 5 rfl) ?_
  refine lv_iload hx hb dL_law_1326 (lv_at hl 0 rfl) ?_
  refine lv_iconst (v := 1) hx hb dL_law_1328 (by decide) ?_
  refine lv_iadd hx hb dL_law_1329 ?_
  refine lv_topi (fun y9 ey9 => ?_)
  obtain rfl : y9 = 1 := by rw [ey9] <;> decide
  refine va_sld hx hb hX hbl hbA hS (zx_bn (by decide)) dL_law_1330 ?_
  refine lv_aload_n hx hb dL_law_1331 rfl (lv_at hl 5 rfl) ?_
  refine lv_iload hx hb dL_law_1332 (lv_at hl 0 rfl) ?_
  refine lv_iconst (v := 2) hx hb dL_law_1334 (by decide) ?_
  refine lv_iadd hx hb dL_law_1335 ?_
  refine lv_topi (fun y9 ey9 => ?_)
  obtain rfl : y9 = 2 := by rw [ey9] <;> decide
  refine va_sld hx hb hX hbl hbA hS (zx_bn (by decide)) dL_law_1336 ?_
  refine lv_aload_n hx hb dL_law_1337 rfl (lv_at hl 2 rfl) ?_
  have hPc := hP.sub (ws' := [(h, .inr (13, [.ref pe, .ref ne, .ref pa, .ref ro, .int 0])), (pa, .inr (4, [.int 0, .ref ed, .int 0])), (oa, .inl (cy 3, 1, .inr (.inl (fun _ => 0))))]) [0, 10, 20] rfl
  have hDc := hD.sub (ws' := [(h, .inr (13, [.ref pe, .ref ne, .ref pa, .ref ro, .int 0])), (pa, .inr (4, [.int 0, .ref ed, .int 0])), (oa, .inl (cy 3, 1, .inr (.inl (fun _ => 0))))]) [0, 10, 20] (by decide) rfl
  have hFc := va_free (wc := [(h, .inr (13, [.ref pe, .ref ne, .ref pa, .ref ro, .int 0])), (pa, .inr (4, [.int 0, .ref ed, .int 0])), (oa, .inl (cy 3, 1, .inr (.inl (fun _ => 0))))]) hD hS hA [0, 10, 20] rfl
  refine vx_calli (vx_runSX (As := [.ref h, .int (xs (1 : Int32).toNatClampNeg), .int (xs (2 : Int32).toNatClampNeg), .ref oa]) (rest := []) ⟨hx, hb, hml, hown, hts⟩ (c_L_invite l hst D cy ed H.size h pe ne pa ro 0 0 ed oa (fun _ => 0) (xs (1 : Int32).toNatClampNeg) (xs (2 : Int32).toNatClampNeg)) (vx_cwSW 4 hts (zx_GS mm_980 mm_981 mm_70 mm_982) rfl rfl rfl (by decide +kernel) ⟨(Nat.le_of_ble_eq_true rfl), (Nat.le_of_ble_eq_true rfl)⟩) ⟨zx_blind, zx_give hPc hK hDc hS hFc hZ hN⟩ rfl rfl hl.1 rfl (lv_room (Nat.le_of_ble_eq_true rfl)) dL_law_1338 ⟨(Nat.le_of_ble_eq_true rfl), (Nat.le_of_ble_eq_true rfl)⟩) hS (fun q _ h => hFc q h) hFc (fun q _ h => hFc q h) (fun E9 ce9 q9 _ t H locs ht hvm _ hBX hz1 hk1 hS hce hcv hcl => ?_) (fun r9 u t H locs ht hvm hw hB hz1 hk1 hS => ?_)
  · exact hBX.elim
  ·
    obtain rfl : r9 = 1 := hw
    obtain ⟨hP, hD⟩ := zx_join (wr := [(pe, .inr (9, [.int 0, .ref a1, .ref a2, .ref a3, .ref a4, .ref a5, .ref a6, .ref a7, .ref a8, .ref a9])), (a1, .inl (cy 0, 20, .inl (fun _ => 0))), (a2, .inl (cy 0, 20, .inl (fun _ => 0))), (ne, .inr (6, [.ref n1, .ref n2, .ref n3, .ref n4, .ref n5])), (n1, .inl (cy 0, 8, .inl (fun _ => 0))), (n2, .inl (cy 0, 8, .inl f2)), (n3, .inl (cy 0, 8, .inl f3)), (n4, .inl (cy 0, 8, .inl f4)), (n5, .inl (cy 1, 8, .inl f5)), (ro, .inl (cy 0, 20, .inl (fun _ => 0))), (m0, .inr (20, [.int 0, .ref mp, .int 0, .ref b1, .ref b2, .ref b3, .ref b4, .ref b5, .ref mq])), (b1, .inl (cy 0, 8, .inl (fun _ => 0))), (b2, .inl (cy 0, 8, .inl g2)), (b3, .inl (cy 0, 8, .inl g3)), (b4, .inl (cy 0, 8, .inl g4)), (b5, .inl (cy 1, 8, .inl g5)), (mp, .inr (4, [.int 0, .ref ed, .int 0])), (mq, .inr (4, [.int 0, .ref ed, .int 0])), (od, .inl (cy 4, 1, .inr (.inr (.inr (.inl (fun _ => 0))))))]) (w1 := []) [0, 10, 20] [1, 2, 3, 4, 5, 6, 7, 8, 9, 11, 12, 13, 14, 15, 16, 17, 18, 19, 21] rfl rfl (by decide) (by decide) hP hD hk1 hFc hB ht
    have hP : va_P D vwCl [(pe, .inr (9, [.int 0, .ref a1, .ref a2, .ref a3, .ref a4, .ref a5, .ref a6, .ref a7, .ref a8, .ref a9])), (a1, .inl (cy 0, 20, .inl (fun _ => 0))), (a2, .inl (cy 0, 20, .inl (fun _ => 0))), (ne, .inr (6, [.ref n1, .ref n2, .ref n3, .ref n4, .ref n5])), (n1, .inl (cy 0, 8, .inl (fun _ => 0))), (n2, .inl (cy 0, 8, .inl f2)), (n3, .inl (cy 0, 8, .inl f3)), (n4, .inl (cy 0, 8, .inl f4)), (n5, .inl (cy 1, 8, .inl f5)), (ro, .inl (cy 0, 20, .inl (fun _ => 0))), (m0, .inr (20, [.int 0, .ref mp, .int 0, .ref b1, .ref b2, .ref b3, .ref b4, .ref b5, .ref mq])), (b1, .inl (cy 0, 8, .inl (fun _ => 0))), (b2, .inl (cy 0, 8, .inl g2)), (b3, .inl (cy 0, 8, .inl g3)), (b4, .inl (cy 0, 8, .inl g4)), (b5, .inl (cy 1, 8, .inl g5)), (mp, .inr (4, [.int 0, .ref ed, .int 0])), (mq, .inr (4, [.int 0, .ref ed, .int 0])), (od, .inl (cy 4, 1, .inr (.inr (.inr (.inl (fun _ => 0))))))] H := hP
    have hD : va_D A [(pe, .inr (9, [.int 0, .ref a1, .ref a2, .ref a3, .ref a4, .ref a5, .ref a6, .ref a7, .ref a8, .ref a9])), (a1, .inl (cy 0, 20, .inl (fun _ => 0))), (a2, .inl (cy 0, 20, .inl (fun _ => 0))), (ne, .inr (6, [.ref n1, .ref n2, .ref n3, .ref n4, .ref n5])), (n1, .inl (cy 0, 8, .inl (fun _ => 0))), (n2, .inl (cy 0, 8, .inl f2)), (n3, .inl (cy 0, 8, .inl f3)), (n4, .inl (cy 0, 8, .inl f4)), (n5, .inl (cy 1, 8, .inl f5)), (ro, .inl (cy 0, 20, .inl (fun _ => 0))), (m0, .inr (20, [.int 0, .ref mp, .int 0, .ref b1, .ref b2, .ref b3, .ref b4, .ref b5, .ref mq])), (b1, .inl (cy 0, 8, .inl (fun _ => 0))), (b2, .inl (cy 0, 8, .inl g2)), (b3, .inl (cy 0, 8, .inl g3)), (b4, .inl (cy 0, 8, .inl g4)), (b5, .inl (cy 1, 8, .inl g5)), (mp, .inr (4, [.int 0, .ref ed, .int 0])), (mq, .inr (4, [.int 0, .ref ed, .int 0])), (od, .inl (cy 4, 1, .inr (.inr (.inr (.inl (fun _ => 0))))))] := hD
    refine W.widen (k := 30) (n := 886) (Nat.le_of_ble_eq_true rfl) (Nat.le_of_ble_eq_true rfl) ?_
    refine lv_istore (lv' := [(6, .int 1), (5, .int 0), (4, .ref od), (3, .ref oa), (2, .ref m0), (1, .ref h), (0, .ref b)]) hx hb dL_law_1341 hl (by decide) rfl (fun ls hl => ?_)
    refine lv_aload_n hx hb dL_law_1343 rfl (lv_at hl 4 rfl) ?_
    refine lv_aload_n hx hb dL_law_1344 rfl (lv_at hl 6 rfl) ?_
    refine lv_iload hx hb dL_law_1345 (lv_at hl 1 rfl) ?_
    refine lv_iconst (v := 1) hx hb dL_law_1347 (by decide) ?_
    refine lv_iadd hx hb dL_law_1348 ?_
    refine lv_topi (fun y9 ey9 => ?_)
    obtain rfl : y9 = 1 := by rw [ey9] <;> decide
    refine va_sld hx hb hX hbl hbA hS (zx_bn (by decide)) dL_law_1349 ?_
    refine lv_aload_n hx hb dL_law_1350 rfl (lv_at hl 6 rfl) ?_
    refine lv_iload hx hb dL_law_1351 (lv_at hl 1 rfl) ?_
    refine lv_iconst (v := 2) hx hb dL_law_1353 (by decide) ?_
    refine lv_iadd hx hb dL_law_1354 ?_
    refine lv_topi (fun y9 ey9 => ?_)
    obtain rfl : y9 = 2 := by rw [ey9] <;> decide
    refine va_sld hx hb hX hbl hbA hS (zx_bn (by decide)) dL_law_1355 ?_
    have hPc := hP.sub (ws' := [(m0, .inr (20, [.int 0, .ref mp, .int 0, .ref b1, .ref b2, .ref b3, .ref b4, .ref b5, .ref mq])), (mp, .inr (4, [.int 0, .ref ed, .int 0])), (mq, .inr (4, [.int 0, .ref ed, .int 0]))]) [10, 16, 17] rfl
    have hDc := hD.sub (ws' := [(m0, .inr (20, [.int 0, .ref mp, .int 0, .ref b1, .ref b2, .ref b3, .ref b4, .ref b5, .ref mq])), (mp, .inr (4, [.int 0, .ref ed, .int 0])), (mq, .inr (4, [.int 0, .ref ed, .int 0]))]) [10, 16, 17] (by decide) rfl
    have hFc := va_free (wc := [(m0, .inr (20, [.int 0, .ref mp, .int 0, .ref b1, .ref b2, .ref b3, .ref b4, .ref b5, .ref mq])), (mp, .inr (4, [.int 0, .ref ed, .int 0])), (mq, .inr (4, [.int 0, .ref ed, .int 0]))]) hD hS hA [10, 16, 17] rfl
    refine va_calli (va_runV (As := [.int (xs (1 : Int32).toNatClampNeg), .int (xs (2 : Int32).toNatClampNeg)]) (rest := []) ⟨hx, hb, hml, hown, hts⟩ (c_X15_invite l hst D cy ed H.size m0 mp mq b1 b2 b3 b4 b5 0 0 0 ed 0 ed (xs (1 : Int32).toNatClampNeg) (xs (2 : Int32).toNatClampNeg)) (cwV 2 hts (zx_GV mm_2109 mm_2110 mm_2111 mm_78 mm_2112) rfl rfl rfl (by decide +kernel) ⟨(Nat.le_of_ble_eq_true rfl), (Nat.le_of_ble_eq_true rfl)⟩) ⟨zx_blind, va_recv hK hPc (ci := 20) (q0 := 0) rfl rfl, zx_give hPc hK hDc hS hFc hZ hN⟩ rfl rfl hl.1 rfl (lv_room (Nat.le_of_ble_eq_true rfl)) dL_law_1356 ⟨(Nat.le_of_ble_eq_true rfl), (Nat.le_of_ble_eq_true rfl)⟩) hS (fun q _ h => hFc q h) hFc (fun r9 u t H1 locs ht hvm hw hB hz1 hk1 hS => ?_)
    obtain ⟨r_626, rfl⟩ : ∃ z9, z9 = r9 := ⟨_, rfl⟩
    have h_627 := hw
    obtain ⟨hP, hD⟩ := zx_join (wr := [(pe, .inr (9, [.int 0, .ref a1, .ref a2, .ref a3, .ref a4, .ref a5, .ref a6, .ref a7, .ref a8, .ref a9])), (a1, .inl (cy 0, 20, .inl (fun _ => 0))), (a2, .inl (cy 0, 20, .inl (fun _ => 0))), (ne, .inr (6, [.ref n1, .ref n2, .ref n3, .ref n4, .ref n5])), (n1, .inl (cy 0, 8, .inl (fun _ => 0))), (n2, .inl (cy 0, 8, .inl f2)), (n3, .inl (cy 0, 8, .inl f3)), (n4, .inl (cy 0, 8, .inl f4)), (n5, .inl (cy 1, 8, .inl f5)), (ro, .inl (cy 0, 20, .inl (fun _ => 0))), (b1, .inl (cy 0, 8, .inl (fun _ => 0))), (b2, .inl (cy 0, 8, .inl g2)), (b3, .inl (cy 0, 8, .inl g3)), (b4, .inl (cy 0, 8, .inl g4)), (b5, .inl (cy 1, 8, .inl g5)), (od, .inl (cy 4, 1, .inr (.inr (.inr (.inl (fun _ => 0))))))]) (w1 := [(m0, .inr (20, [.int 1, .ref mp, .int 0, .ref b1, .ref b2, .ref b3, .ref b4, .ref b5, .ref mq]))]) [10, 16, 17] [0, 1, 2, 3, 4, 5, 6, 7, 8, 9, 11, 12, 13, 14, 15, 18] rfl rfl (by decide) (by decide) hP hD hk1 hFc hB ht
    generalize H1 = H at hP hS ⊢
    have hP : va_P D vwCl [(pe, .inr (9, [.int 0, .ref a1, .ref a2, .ref a3, .ref a4, .ref a5, .ref a6, .ref a7, .ref a8, .ref a9])), (a1, .inl (cy 0, 20, .inl (fun _ => 0))), (a2, .inl (cy 0, 20, .inl (fun _ => 0))), (ne, .inr (6, [.ref n1, .ref n2, .ref n3, .ref n4, .ref n5])), (n1, .inl (cy 0, 8, .inl (fun _ => 0))), (n2, .inl (cy 0, 8, .inl f2)), (n3, .inl (cy 0, 8, .inl f3)), (n4, .inl (cy 0, 8, .inl f4)), (n5, .inl (cy 1, 8, .inl f5)), (ro, .inl (cy 0, 20, .inl (fun _ => 0))), (b1, .inl (cy 0, 8, .inl (fun _ => 0))), (b2, .inl (cy 0, 8, .inl g2)), (b3, .inl (cy 0, 8, .inl g3)), (b4, .inl (cy 0, 8, .inl g4)), (b5, .inl (cy 1, 8, .inl g5)), (od, .inl (cy 4, 1, .inr (.inr (.inr (.inl (fun _ => 0)))))), (m0, .inr (20, [.int 1, .ref mp, .int 0, .ref b1, .ref b2, .ref b3, .ref b4, .ref b5, .ref mq]))] H := hP
    have hD : va_D A [(pe, .inr (9, [.int 0, .ref a1, .ref a2, .ref a3, .ref a4, .ref a5, .ref a6, .ref a7, .ref a8, .ref a9])), (a1, .inl (cy 0, 20, .inl (fun _ => 0))), (a2, .inl (cy 0, 20, .inl (fun _ => 0))), (ne, .inr (6, [.ref n1, .ref n2, .ref n3, .ref n4, .ref n5])), (n1, .inl (cy 0, 8, .inl (fun _ => 0))), (n2, .inl (cy 0, 8, .inl f2)), (n3, .inl (cy 0, 8, .inl f3)), (n4, .inl (cy 0, 8, .inl f4)), (n5, .inl (cy 1, 8, .inl f5)), (ro, .inl (cy 0, 20, .inl (fun _ => 0))), (b1, .inl (cy 0, 8, .inl (fun _ => 0))), (b2, .inl (cy 0, 8, .inl g2)), (b3, .inl (cy 0, 8, .inl g3)), (b4, .inl (cy 0, 8, .inl g4)), (b5, .inl (cy 1, 8, .inl g5)), (od, .inl (cy 4, 1, .inr (.inr (.inr (.inl (fun _ => 0)))))), (m0, .inr (20, [.int 1, .ref mp, .int 0, .ref b1, .ref b2, .ref b3, .ref b4, .ref b5, .ref mq]))] := hD
    refine W.widen (k := 30) (n := 886) (Nat.le_of_ble_eq_true rfl) (Nat.le_of_ble_eq_true rfl) ?_
    refine lv_istore (lv' := [(7, .int r_626), (6, .int 1), (5, .int 0), (4, .ref od), (3, .ref oa), (2, .ref m0), (1, .ref h), (0, .ref b)]) hx hb dL_law_1359 hl (by decide) rfl (fun ls hl => ?_)
    refine lv_aload_n hx hb dL_law_1361 rfl (lv_at hl 5 rfl) ?_
    have hPc := hP.sub (ws' := [(m0, .inr (20, [.int 1, .ref mp, .int 0, .ref b1, .ref b2, .ref b3, .ref b4, .ref b5, .ref mq]))]) [16] rfl
    have hDc := hD.sub (ws' := [(m0, .inr (20, [.int 1, .ref mp, .int 0, .ref b1, .ref b2, .ref b3, .ref b4, .ref b5, .ref mq]))]) [16] (by decide) rfl
    have hFc := va_free (wc := [(m0, .inr (20, [.int 1, .ref mp, .int 0, .ref b1, .ref b2, .ref b3, .ref b4, .ref b5, .ref mq]))]) hD hS hA [16] rfl
    refine va_calli (va_runV (As := []) (rest := []) ⟨hx, hb, hml, hown, hts⟩ (c_X15_thrown l hst D cy ed H.size m0 mp mq b1 b2 b3 b4 b5 1 0) (cwV 0 hts (zx_GV mm_1599 mm_1600 mm_1601 mm_78 mm_1602) rfl rfl rfl (by decide +kernel) ⟨(Nat.le_of_ble_eq_true rfl), (Nat.le_of_ble_eq_true rfl)⟩) ⟨zx_blind, va_recv hK hPc (ci := 20) (q0 := 0) rfl rfl, zx_give hPc hK hDc hS hFc hZ hN⟩ rfl rfl hl.1 rfl (lv_room (Nat.le_of_ble_eq_true rfl)) dL_law_1362 ⟨(Nat.le_of_ble_eq_true rfl), (Nat.le_of_ble_eq_true rfl)⟩) hS (fun q _ h => hFc q h) hFc (fun r9 u t H1 locs ht hvm hw hB hz1 hk1 hS => ?_)
    obtain rfl : r9 = 1 := hw
    obtain ⟨hP, hD⟩ := zx_join (wr := [(pe, .inr (9, [.int 0, .ref a1, .ref a2, .ref a3, .ref a4, .ref a5, .ref a6, .ref a7, .ref a8, .ref a9])), (a1, .inl (cy 0, 20, .inl (fun _ => 0))), (a2, .inl (cy 0, 20, .inl (fun _ => 0))), (ne, .inr (6, [.ref n1, .ref n2, .ref n3, .ref n4, .ref n5])), (n1, .inl (cy 0, 8, .inl (fun _ => 0))), (n2, .inl (cy 0, 8, .inl f2)), (n3, .inl (cy 0, 8, .inl f3)), (n4, .inl (cy 0, 8, .inl f4)), (n5, .inl (cy 1, 8, .inl f5)), (ro, .inl (cy 0, 20, .inl (fun _ => 0))), (b1, .inl (cy 0, 8, .inl (fun _ => 0))), (b2, .inl (cy 0, 8, .inl g2)), (b3, .inl (cy 0, 8, .inl g3)), (b4, .inl (cy 0, 8, .inl g4)), (b5, .inl (cy 1, 8, .inl g5)), (od, .inl (cy 4, 1, .inr (.inr (.inr (.inl (fun _ => 0))))))]) (w1 := [(m0, .inr (20, [.int 1, .ref mp, .int 0, .ref b1, .ref b2, .ref b3, .ref b4, .ref b5, .ref mq]))]) [16] [0, 1, 2, 3, 4, 5, 6, 7, 8, 9, 10, 11, 12, 13, 14, 15] rfl rfl (by decide) (by decide) hP hD hk1 hFc hB ht
    generalize H1 = H at hP hS ⊢
    have hP : va_P D vwCl [(pe, .inr (9, [.int 0, .ref a1, .ref a2, .ref a3, .ref a4, .ref a5, .ref a6, .ref a7, .ref a8, .ref a9])), (a1, .inl (cy 0, 20, .inl (fun _ => 0))), (a2, .inl (cy 0, 20, .inl (fun _ => 0))), (ne, .inr (6, [.ref n1, .ref n2, .ref n3, .ref n4, .ref n5])), (n1, .inl (cy 0, 8, .inl (fun _ => 0))), (n2, .inl (cy 0, 8, .inl f2)), (n3, .inl (cy 0, 8, .inl f3)), (n4, .inl (cy 0, 8, .inl f4)), (n5, .inl (cy 1, 8, .inl f5)), (ro, .inl (cy 0, 20, .inl (fun _ => 0))), (b1, .inl (cy 0, 8, .inl (fun _ => 0))), (b2, .inl (cy 0, 8, .inl g2)), (b3, .inl (cy 0, 8, .inl g3)), (b4, .inl (cy 0, 8, .inl g4)), (b5, .inl (cy 1, 8, .inl g5)), (od, .inl (cy 4, 1, .inr (.inr (.inr (.inl (fun _ => 0)))))), (m0, .inr (20, [.int 1, .ref mp, .int 0, .ref b1, .ref b2, .ref b3, .ref b4, .ref b5, .ref mq]))] H := hP
    have hD : va_D A [(pe, .inr (9, [.int 0, .ref a1, .ref a2, .ref a3, .ref a4, .ref a5, .ref a6, .ref a7, .ref a8, .ref a9])), (a1, .inl (cy 0, 20, .inl (fun _ => 0))), (a2, .inl (cy 0, 20, .inl (fun _ => 0))), (ne, .inr (6, [.ref n1, .ref n2, .ref n3, .ref n4, .ref n5])), (n1, .inl (cy 0, 8, .inl (fun _ => 0))), (n2, .inl (cy 0, 8, .inl f2)), (n3, .inl (cy 0, 8, .inl f3)), (n4, .inl (cy 0, 8, .inl f4)), (n5, .inl (cy 1, 8, .inl f5)), (ro, .inl (cy 0, 20, .inl (fun _ => 0))), (b1, .inl (cy 0, 8, .inl (fun _ => 0))), (b2, .inl (cy 0, 8, .inl g2)), (b3, .inl (cy 0, 8, .inl g3)), (b4, .inl (cy 0, 8, .inl g4)), (b5, .inl (cy 1, 8, .inl g5)), (od, .inl (cy 4, 1, .inr (.inr (.inr (.inl (fun _ => 0)))))), (m0, .inr (20, [.int 1, .ref mp, .int 0, .ref b1, .ref b2, .ref b3, .ref b4, .ref b5, .ref mq]))] := hD
    refine W.widen (k := 30) (n := 886) (Nat.le_of_ble_eq_true rfl) (Nat.le_of_ble_eq_true rfl) ?_
    refine lv_iload hx hb dL_law_1365 (lv_at hl 1 rfl) ?_
    refine lv_icmp_eq (tgt := 1372) hx hb dL_law_1367 (by decide) (fun _ => ?_) (fun c_628 => absurd (by decide) c_628)
    refine lv_iload hx hb dL_law_1372 (lv_at hl 1 rfl) ?_
    refine lv_if_ne (tgt := 1389) hx hb dL_law_1374 (by decide) (fun _ => ?_) (fun c_629 => absurd c_629 (by decide))
    refine lv_goto (tgt := 4257) hx hb dL_law_1389 (by decide) ?_
    refine W.widen (k := 60) (n := 1200) (Nat.le_of_ble_eq_true rfl) (Nat.le_of_ble_eq_true rfl) ?_
    exact hend _ _ _ hS (lv_sub hl [7, 2] rfl)
set_option maxHeartbeats 4000000 in
set_option maxRecDepth 100000 in
theorem law_case_16 {p : Program} {l : Launch} {e : Env} {s : State} {m : MethodId} {below : List Frame} {meth : Method} {c : Code} {D : va_G} {cy : Nat → ClassId} {ed b : Nat} {xs : Nat → Int32} {A : Nat → Prop} {Q : State → Prop} (C0 : zx_LW p l s m c D cy ed b xs A)
    {h pe ne pa ro a1 a2 a3 a4 a5 a6 a7 a8 a9 n1 n2 n3 n4 n5 m0 mp b1 b2 b3 b4 b5 mq oa od : Nat} {f2 f3 f4 f5 g2 g3 g4 g5 : Nat → Int32} (hf5 : ∀ j, j < 8 → f5 j = 115) (hg5 : ∀ j, j < 8 → g5 j = 115) {H : Heap} {locs : List Loc} {ls : Array Slot}
    (hP : va_P D vwCl [(h, .inr (13, [.ref pe, .ref ne, .ref pa, .ref ro, .int 0])), (pe, .inr (9, [.int 0, .ref a1, .ref a2, .ref a3, .ref a4, .ref a5, .ref a6, .ref a7, .ref a8, .ref a9])), (a1, .inl (cy 0, 20, .inl (fun _ => 0))), (a2, .inl (cy 0, 20, .inl (fun _ => 0))), (ne, .inr (6, [.ref n1, .ref n2, .ref n3, .ref n4, .ref n5])), (n1, .inl (cy 0, 8, .inl (fun _ => 0))), (n2, .inl (cy 0, 8, .inl f2)), (n3, .inl (cy 0, 8, .inl f3)), (n4, .inl (cy 0, 8, .inl f4)), (n5, .inl (cy 1, 8, .inl f5)), (pa, .inr (4, [.int 0, .ref ed, .int 0])), (ro, .inl (cy 0, 20, .inl (fun _ => 0))), (m0, .inr (20, [.int 0, .ref mp, .int 0, .ref b1, .ref b2, .ref b3, .ref b4, .ref b5, .ref mq])), (b1, .inl (cy 0, 8, .inl (fun _ => 0))), (b2, .inl (cy 0, 8, .inl g2)), (b3, .inl (cy 0, 8, .inl g3)), (b4, .inl (cy 0, 8, .inl g4)), (b5, .inl (cy 1, 8, .inl g5)), (mp, .inr (4, [.int 0, .ref ed, .int 0])), (mq, .inr (4, [.int 0, .ref ed, .int 0])), (oa, .inl (cy 3, 1, .inr (.inl (fun _ => 0)))), (od, .inl (cy 4, 1, .inr (.inr (.inr (.inl (fun _ => 0))))))] H) (hD : va_D A [(h, .inr (13, [.ref pe, .ref ne, .ref pa, .ref ro, .int 0])), (pe, .inr (9, [.int 0, .ref a1, .ref a2, .ref a3, .ref a4, .ref a5, .ref a6, .ref a7, .ref a8, .ref a9])), (a1, .inl (cy 0, 20, .inl (fun _ => 0))), (a2, .inl (cy 0, 20, .inl (fun _ => 0))), (ne, .inr (6, [.ref n1, .ref n2, .ref n3, .ref n4, .ref n5])), (n1, .inl (cy 0, 8, .inl (fun _ => 0))), (n2, .inl (cy 0, 8, .inl f2)), (n3, .inl (cy 0, 8, .inl f3)), (n4, .inl (cy 0, 8, .inl f4)), (n5, .inl (cy 1, 8, .inl f5)), (pa, .inr (4, [.int 0, .ref ed, .int 0])), (ro, .inl (cy 0, 20, .inl (fun _ => 0))), (m0, .inr (20, [.int 0, .ref mp, .int 0, .ref b1, .ref b2, .ref b3, .ref b4, .ref b5, .ref mq])), (b1, .inl (cy 0, 8, .inl (fun _ => 0))), (b2, .inl (cy 0, 8, .inl g2)), (b3, .inl (cy 0, 8, .inl g3)), (b4, .inl (cy 0, 8, .inl g4)), (b5, .inl (cy 1, 8, .inl g5)), (mp, .inr (4, [.int 0, .ref ed, .int 0])), (mq, .inr (4, [.int 0, .ref ed, .int 0])), (oa, .inl (cy 3, 1, .inr (.inl (fun _ => 0)))), (od, .inl (cy 4, 1, .inr (.inr (.inr (.inl (fun _ => 0))))))]) (hS : va_S A s.heap H locs) (hl : lv_has ls 9 [(5, .int 0), (4, .ref od), (3, .ref oa), (2, .ref m0), (1, .ref h), (0, .ref b)])
    (hend : ∀ (H : Heap) (locs : List Loc) (ls : Array Slot), va_S A s.heap H locs → lv_has ls 9 [(0, .ref b), (5, .int 0)] → W p l e room_1 s m #[Value.ref b] below meth c H locs 60 1200 Q (F0 m 4257 ls [])) :
    W p l e room_1 s m #[Value.ref b] below meth c H locs 29 880 Q (F0 m 1392 ls []) := by
  obtain ⟨hx, hb, hml, hst, hown, hts, hX, hbl, hbA, hA, hK, hZ, hN⟩ := C0
  refine lv_aload_n hx hb dL_law_1392 rfl (lv_at hl 4 rfl) ?_
  refine lv_aload_n hx hb dL_law_1393 rfl (lv_at hl 5 rfl) ?_
  refine lv_iload hx hb dL_law_1394 (lv_at hl 0 rfl) ?_
  refine lv_iconst (v := 1) hx hb dL_law_1396 (by decide) ?_
  refine lv_iadd hx hb dL_law_1397 ?_
  refine lv_topi (fun y9 ey9 => ?_)
  obtain rfl : y9 = 1 := by rw [ey9] <;> decide
  refine va_sld hx hb hX hbl hbA hS (zx_bn (by decide)) dL_law_1398 ?_
  refine lv_aload_n hx hb dL_law_1399 rfl (lv_at hl 5 rfl) ?_
  refine lv_iload hx hb dL_law_1400 (lv_at hl 0 rfl) ?_
  refine lv_iconst (v := 2) hx hb dL_law_1402 (by decide) ?_
  refine lv_iadd hx hb dL_law_1403 ?_
  refine lv_topi (fun y9 ey9 => ?_)
  obtain rfl : y9 = 2 := by rw [ey9] <;> decide
  refine va_sld hx hb hX hbl hbA hS (zx_bn (by decide)) dL_law_1404 ?_
  refine lv_aload_n hx hb dL_law_1405 rfl (lv_at hl 2 rfl) ?_
  have hPc := hP.sub (ws' := [(h, .inr (13, [.ref pe, .ref ne, .ref pa, .ref ro, .int 0])), (pa, .inr (4, [.int 0, .ref ed, .int 0])), (oa, .inl (cy 3, 1, .inr (.inl (fun _ => 0))))]) [0, 10, 20] rfl
  have hDc := hD.sub (ws' := [(h, .inr (13, [.ref pe, .ref ne, .ref pa, .ref ro, .int 0])), (pa, .inr (4, [.int 0, .ref ed, .int 0])), (oa, .inl (cy 3, 1, .inr (.inl (fun _ => 0))))]) [0, 10, 20] (by decide) rfl
  have hFc := va_free (wc := [(h, .inr (13, [.ref pe, .ref ne, .ref pa, .ref ro, .int 0])), (pa, .inr (4, [.int 0, .ref ed, .int 0])), (oa, .inl (cy 3, 1, .inr (.inl (fun _ => 0))))]) hD hS hA [0, 10, 20] rfl
  refine vx_calli (vx_runSX (As := [.ref h, .int (xs (1 : Int32).toNatClampNeg), .int (xs (2 : Int32).toNatClampNeg), .ref oa]) (rest := []) ⟨hx, hb, hml, hown, hts⟩ (c_L_invitation l hst D cy ed H.size h pe ne pa ro 0 0 ed oa (fun _ => 0) (xs (1 : Int32).toNatClampNeg) (xs (2 : Int32).toNatClampNeg)) (vx_cwSW 4 hts (zx_GS mm_1016 mm_1017 mm_70 mm_1018) rfl rfl rfl (by decide +kernel) ⟨(Nat.le_of_ble_eq_true rfl), (Nat.le_of_ble_eq_true rfl)⟩) ⟨zx_blind, zx_give hPc hK hDc hS hFc hZ hN⟩ rfl rfl hl.1 rfl (lv_room (Nat.le_of_ble_eq_true rfl)) dL_law_1406 ⟨(Nat.le_of_ble_eq_true rfl), (Nat.le_of_ble_eq_true rfl)⟩) hS (fun q _ h => hFc q h) hFc (fun q _ h => hFc q h) (fun E9 ce9 q9 _ t H locs ht hvm _ hBX hz1 hk1 hS hce hcv hcl => ?_) (fun r9 u t H locs ht hvm hw hB hz1 hk1 hS => ?_)
  · exact hBX.elim
  ·
    obtain rfl : r9 = 1 := hw
    obtain ⟨hP, hD⟩ := zx_join (wr := [(pe, .inr (9, [.int 0, .ref a1, .ref a2, .ref a3, .ref a4, .ref a5, .ref a6, .ref a7, .ref a8, .ref a9])), (a1, .inl (cy 0, 20, .inl (fun _ => 0))), (a2, .inl (cy 0, 20, .inl (fun _ => 0))), (ne, .inr (6, [.ref n1, .ref n2, .ref n3, .ref n4, .ref n5])), (n1, .inl (cy 0, 8, .inl (fun _ => 0))), (n2, .inl (cy 0, 8, .inl f2)), (n3, .inl (cy 0, 8, .inl f3)), (n4, .inl (cy 0, 8, .inl f4)), (n5, .inl (cy 1, 8, .inl f5)), (ro, .inl (cy 0, 20, .inl (fun _ => 0))), (m0, .inr (20, [.int 0, .ref mp, .int 0, .ref b1, .ref b2, .ref b3, .ref b4, .ref b5, .ref mq])), (b1, .inl (cy 0, 8, .inl (fun _ => 0))), (b2, .inl (cy 0, 8, .inl g2)), (b3, .inl (cy 0, 8, .inl g3)), (b4, .inl (cy 0, 8, .inl g4)), (b5, .inl (cy 1, 8, .inl g5)), (mp, .inr (4, [.int 0, .ref ed, .int 0])), (mq, .inr (4, [.int 0, .ref ed, .int 0])), (od, .inl (cy 4, 1, .inr (.inr (.inr (.inl (fun _ => 0))))))]) (w1 := []) [0, 10, 20] [1, 2, 3, 4, 5, 6, 7, 8, 9, 11, 12, 13, 14, 15, 16, 17, 18, 19, 21] rfl rfl (by decide) (by decide) hP hD hk1 hFc hB ht
    have hP : va_P D vwCl [(pe, .inr (9, [.int 0, .ref a1, .ref a2, .ref a3, .ref a4, .ref a5, .ref a6, .ref a7, .ref a8, .ref a9])), (a1, .inl (cy 0, 20, .inl (fun _ => 0))), (a2, .inl (cy 0, 20, .inl (fun _ => 0))), (ne, .inr (6, [.ref n1, .ref n2, .ref n3, .ref n4, .ref n5])), (n1, .inl (cy 0, 8, .inl (fun _ => 0))), (n2, .inl (cy 0, 8, .inl f2)), (n3, .inl (cy 0, 8, .inl f3)), (n4, .inl (cy 0, 8, .inl f4)), (n5, .inl (cy 1, 8, .inl f5)), (ro, .inl (cy 0, 20, .inl (fun _ => 0))), (m0, .inr (20, [.int 0, .ref mp, .int 0, .ref b1, .ref b2, .ref b3, .ref b4, .ref b5, .ref mq])), (b1, .inl (cy 0, 8, .inl (fun _ => 0))), (b2, .inl (cy 0, 8, .inl g2)), (b3, .inl (cy 0, 8, .inl g3)), (b4, .inl (cy 0, 8, .inl g4)), (b5, .inl (cy 1, 8, .inl g5)), (mp, .inr (4, [.int 0, .ref ed, .int 0])), (mq, .inr (4, [.int 0, .ref ed, .int 0])), (od, .inl (cy 4, 1, .inr (.inr (.inr (.inl (fun _ => 0))))))] H := hP
    have hD : va_D A [(pe, .inr (9, [.int 0, .ref a1, .ref a2, .ref a3, .ref a4, .ref a5, .ref a6, .ref a7, .ref a8, .ref a9])), (a1, .inl (cy 0, 20, .inl (fun _ => 0))), (a2, .inl (cy 0, 20, .inl (fun _ => 0))), (ne, .inr (6, [.ref n1, .ref n2, .ref n3, .ref n4, .ref n5])), (n1, .inl (cy 0, 8, .inl (fun _ => 0))), (n2, .inl (cy 0, 8, .inl f2)), (n3, .inl (cy 0, 8, .inl f3)), (n4, .inl (cy 0, 8, .inl f4)), (n5, .inl (cy 1, 8, .inl f5)), (ro, .inl (cy 0, 20, .inl (fun _ => 0))), (m0, .inr (20, [.int 0, .ref mp, .int 0, .ref b1, .ref b2, .ref b3, .ref b4, .ref b5, .ref mq])), (b1, .inl (cy 0, 8, .inl (fun _ => 0))), (b2, .inl (cy 0, 8, .inl g2)), (b3, .inl (cy 0, 8, .inl g3)), (b4, .inl (cy 0, 8, .inl g4)), (b5, .inl (cy 1, 8, .inl g5)), (mp, .inr (4, [.int 0, .ref ed, .int 0])), (mq, .inr (4, [.int 0, .ref ed, .int 0])), (od, .inl (cy 4, 1, .inr (.inr (.inr (.inl (fun _ => 0))))))] := hD
    refine W.widen (k := 30) (n := 886) (Nat.le_of_ble_eq_true rfl) (Nat.le_of_ble_eq_true rfl) ?_
    refine lv_istore (lv' := [(6, .int 1), (5, .int 0), (4, .ref od), (3, .ref oa), (2, .ref m0), (1, .ref h), (0, .ref b)]) hx hb dL_law_1409 hl (by decide) rfl (fun ls hl => ?_)
    refine lv_aload_n hx hb dL_law_1411 rfl (lv_at hl 4 rfl) ?_
    refine lv_aload_n hx hb dL_law_1412 rfl (lv_at hl 6 rfl) ?_
    refine lv_iload hx hb dL_law_1413 (lv_at hl 1 rfl) ?_
    refine lv_iconst (v := 1) hx hb dL_law_1415 (by decide) ?_
    refine lv_iadd hx hb dL_law_1416 ?_
    refine lv_topi (fun y9 ey9 => ?_)
    obtain rfl : y9 = 1 := by rw [ey9] <;> decide
    refine va_sld hx hb hX hbl hbA hS (zx_bn (by decide)) dL_law_1417 ?_
    refine lv_aload_n hx hb dL_law_1418 rfl (lv_at hl 6 rfl) ?_
    refine lv_iload hx hb dL_law_1419 (lv_at hl 1 rfl) ?_
    refine lv_iconst (v := 2) hx hb dL_law_1421 (by decide) ?_
    refine lv_iadd hx hb dL_law_1422 ?_
    refine lv_topi (fun y9 ey9 => ?_)
    obtain rfl : y9 = 2 := by rw [ey9] <;> decide
    refine va_sld hx hb hX hbl hbA hS (zx_bn (by decide)) dL_law_1423 ?_
    have hPc := hP.sub (ws' := [(m0, .inr (20, [.int 0, .ref mp, .int 0, .ref b1, .ref b2, .ref b3, .ref b4, .ref b5, .ref mq])), (mp, .inr (4, [.int 0, .ref ed, .int 0])), (mq, .inr (4, [.int 0, .ref ed, .int 0]))]) [10, 16, 17] rfl
    have hDc := hD.sub (ws' := [(m0, .inr (20, [.int 0, .ref mp, .int 0, .ref b1, .ref b2, .ref b3, .ref b4, .ref b5, .ref mq])), (mp, .inr (4, [.int 0, .ref ed, .int 0])), (mq, .inr (4, [.int 0, .ref ed, .int 0]))]) [10, 16, 17] (by decide) rfl
    have hFc := va_free (wc := [(m0, .inr (20, [.int 0, .ref mp, .int 0, .ref b1, .ref b2, .ref b3, .ref b4, .ref b5, .ref mq])), (mp, .inr (4, [.int 0, .ref ed, .int 0])), (mq, .inr (4, [.int 0, .ref ed, .int 0]))]) hD hS hA [10, 16, 17] rfl
    refine va_calli (va_runV (As := [.int (xs (1 : Int32).toNatClampNeg), .int (xs (2 : Int32).toNatClampNeg)]) (rest := []) ⟨hx, hb, hml, hown, hts⟩ (c_X15_invitation l hst D cy ed H.size m0 mp mq b1 b2 b3 b4 b5 0 0 0 ed 0 ed (xs (1 : Int32).toNatClampNeg) (xs (2 : Int32).toNatClampNeg)) (cwV 2 hts (zx_GV mm_2146 mm_2147 mm_2148 mm_78 mm_2149) rfl rfl rfl (by decide +kernel) ⟨(Nat.le_of_ble_eq_true rfl), (Nat.le_of_ble_eq_true rfl)⟩) ⟨zx_blind, va_recv hK hPc (ci := 20) (q0 := 0) rfl rfl, zx_give hPc hK hDc hS hFc hZ hN⟩ rfl rfl hl.1 rfl (lv_room (Nat.le_of_ble_eq_true rfl)) dL_law_1424 ⟨(Nat.le_of_ble_eq_true rfl), (Nat.le_of_ble_eq_true rfl)⟩) hS (fun q _ h => hFc q h) hFc (fun r9 u t H1 locs ht hvm hw hB hz1 hk1 hS => ?_)
    obtain ⟨r_630, rfl⟩ : ∃ z9, z9 = r9 := ⟨_, rfl⟩
    have h_631 := hw
    obtain ⟨hP, hD⟩ := zx_join (wr := [(pe, .inr (9, [.int 0, .ref a1, .ref a2, .ref a3, .ref a4, .ref a5, .ref a6, .ref a7, .ref a8, .ref a9])), (a1, .inl (cy 0, 20, .inl (fun _ => 0))), (a2, .inl (cy 0, 20, .inl (fun _ => 0))), (ne, .inr (6, [.ref n1, .ref n2, .ref n3, .ref n4, .ref n5])), (n1, .inl (cy 0, 8, .inl (fun _ => 0))), (n2, .inl (cy 0, 8, .inl f2)), (n3, .inl (cy 0, 8, .inl f3)), (n4, .inl (cy 0, 8, .inl f4)), (n5, .inl (cy 1, 8, .inl f5)), (ro, .inl (cy 0, 20, .inl (fun _ => 0))), (b1, .inl (cy 0, 8, .inl (fun _ => 0))), (b2, .inl (cy 0, 8, .inl g2)), (b3, .inl (cy 0, 8, .inl g3)), (b4, .inl (cy 0, 8, .inl g4)), (b5, .inl (cy 1, 8, .inl g5)), (od, .inl (cy 4, 1, .inr (.inr (.inr (.inl (fun _ => 0))))))]) (w1 := [(m0, .inr (20, [.int 1, .ref mp, .int 0, .ref b1, .ref b2, .ref b3, .ref b4, .ref b5, .ref mq]))]) [10, 16, 17] [0, 1, 2, 3, 4, 5, 6, 7, 8, 9, 11, 12, 13, 14, 15, 18] rfl rfl (by decide) (by decide) hP hD hk1 hFc hB ht
    generalize H1 = H at hP hS ⊢
    have hP : va_P D vwCl [(pe, .inr (9, [.int 0, .ref a1, .ref a2, .ref a3, .ref a4, .ref a5, .ref a6, .ref a7, .ref a8, .ref a9])), (a1, .inl (cy 0, 20, .inl (fun _ => 0))), (a2, .inl (cy 0, 20, .inl (fun _ => 0))), (ne, .inr (6, [.ref n1, .ref n2, .ref n3, .ref n4, .ref n5])), (n1, .inl (cy 0, 8, .inl (fun _ => 0))), (n2, .inl (cy 0, 8, .inl f2)), (n3, .inl (cy 0, 8, .inl f3)), (n4, .inl (cy 0, 8, .inl f4)), (n5, .inl (cy 1, 8, .inl f5)), (ro, .inl (cy 0, 20, .inl (fun _ => 0))), (b1, .inl (cy 0, 8, .inl (fun _ => 0))), (b2, .inl (cy 0, 8, .inl g2)), (b3, .inl (cy 0, 8, .inl g3)), (b4, .inl (cy 0, 8, .inl g4)), (b5, .inl (cy 1, 8, .inl g5)), (od, .inl (cy 4, 1, .inr (.inr (.inr (.inl (fun _ => 0)))))), (m0, .inr (20, [.int 1, .ref mp, .int 0, .ref b1, .ref b2, .ref b3, .ref b4, .ref b5, .ref mq]))] H := hP
    have hD : va_D A [(pe, .inr (9, [.int 0, .ref a1, .ref a2, .ref a3, .ref a4, .ref a5, .ref a6, .ref a7, .ref a8, .ref a9])), (a1, .inl (cy 0, 20, .inl (fun _ => 0))), (a2, .inl (cy 0, 20, .inl (fun _ => 0))), (ne, .inr (6, [.ref n1, .ref n2, .ref n3, .ref n4, .ref n5])), (n1, .inl (cy 0, 8, .inl (fun _ => 0))), (n2, .inl (cy 0, 8, .inl f2)), (n3, .inl (cy 0, 8, .inl f3)), (n4, .inl (cy 0, 8, .inl f4)), (n5, .inl (cy 1, 8, .inl f5)), (ro, .inl (cy 0, 20, .inl (fun _ => 0))), (b1, .inl (cy 0, 8, .inl (fun _ => 0))), (b2, .inl (cy 0, 8, .inl g2)), (b3, .inl (cy 0, 8, .inl g3)), (b4, .inl (cy 0, 8, .inl g4)), (b5, .inl (cy 1, 8, .inl g5)), (od, .inl (cy 4, 1, .inr (.inr (.inr (.inl (fun _ => 0)))))), (m0, .inr (20, [.int 1, .ref mp, .int 0, .ref b1, .ref b2, .ref b3, .ref b4, .ref b5, .ref mq]))] := hD
    refine W.widen (k := 30) (n := 886) (Nat.le_of_ble_eq_true rfl) (Nat.le_of_ble_eq_true rfl) ?_
    refine lv_istore (lv' := [(7, .int r_630), (6, .int 1), (5, .int 0), (4, .ref od), (3, .ref oa), (2, .ref m0), (1, .ref h), (0, .ref b)]) hx hb dL_law_1427 hl (by decide) rfl (fun ls hl => ?_)
    refine lv_aload_n hx hb dL_law_1429 rfl (lv_at hl 5 rfl) ?_
    have hPc := hP.sub (ws' := [(m0, .inr (20, [.int 1, .ref mp, .int 0, .ref b1, .ref b2, .ref b3, .ref b4, .ref b5, .ref mq]))]) [16] rfl
    have hDc := hD.sub (ws' := [(m0, .inr (20, [.int 1, .ref mp, .int 0, .ref b1, .ref b2, .ref b3, .ref b4, .ref b5, .ref mq]))]) [16] (by decide) rfl
    have hFc := va_free (wc := [(m0, .inr (20, [.int 1, .ref mp, .int 0, .ref b1, .ref b2, .ref b3, .ref b4, .ref b5, .ref mq]))]) hD hS hA [16] rfl
    refine va_calli (va_runV (As := []) (rest := []) ⟨hx, hb, hml, hown, hts⟩ (c_X15_thrown l hst D cy ed H.size m0 mp mq b1 b2 b3 b4 b5 1 0) (cwV 0 hts (zx_GV mm_1599 mm_1600 mm_1601 mm_78 mm_1602) rfl rfl rfl (by decide +kernel) ⟨(Nat.le_of_ble_eq_true rfl), (Nat.le_of_ble_eq_true rfl)⟩) ⟨zx_blind, va_recv hK hPc (ci := 20) (q0 := 0) rfl rfl, zx_give hPc hK hDc hS hFc hZ hN⟩ rfl rfl hl.1 rfl (lv_room (Nat.le_of_ble_eq_true rfl)) dL_law_1430 ⟨(Nat.le_of_ble_eq_true rfl), (Nat.le_of_ble_eq_true rfl)⟩) hS (fun q _ h => hFc q h) hFc (fun r9 u t H1 locs ht hvm hw hB hz1 hk1 hS => ?_)
    obtain rfl : r9 = 1 := hw
    obtain ⟨hP, hD⟩ := zx_join (wr := [(pe, .inr (9, [.int 0, .ref a1, .ref a2, .ref a3, .ref a4, .ref a5, .ref a6, .ref a7, .ref a8, .ref a9])), (a1, .inl (cy 0, 20, .inl (fun _ => 0))), (a2, .inl (cy 0, 20, .inl (fun _ => 0))), (ne, .inr (6, [.ref n1, .ref n2, .ref n3, .ref n4, .ref n5])), (n1, .inl (cy 0, 8, .inl (fun _ => 0))), (n2, .inl (cy 0, 8, .inl f2)), (n3, .inl (cy 0, 8, .inl f3)), (n4, .inl (cy 0, 8, .inl f4)), (n5, .inl (cy 1, 8, .inl f5)), (ro, .inl (cy 0, 20, .inl (fun _ => 0))), (b1, .inl (cy 0, 8, .inl (fun _ => 0))), (b2, .inl (cy 0, 8, .inl g2)), (b3, .inl (cy 0, 8, .inl g3)), (b4, .inl (cy 0, 8, .inl g4)), (b5, .inl (cy 1, 8, .inl g5)), (od, .inl (cy 4, 1, .inr (.inr (.inr (.inl (fun _ => 0))))))]) (w1 := [(m0, .inr (20, [.int 1, .ref mp, .int 0, .ref b1, .ref b2, .ref b3, .ref b4, .ref b5, .ref mq]))]) [16] [0, 1, 2, 3, 4, 5, 6, 7, 8, 9, 10, 11, 12, 13, 14, 15] rfl rfl (by decide) (by decide) hP hD hk1 hFc hB ht
    generalize H1 = H at hP hS ⊢
    have hP : va_P D vwCl [(pe, .inr (9, [.int 0, .ref a1, .ref a2, .ref a3, .ref a4, .ref a5, .ref a6, .ref a7, .ref a8, .ref a9])), (a1, .inl (cy 0, 20, .inl (fun _ => 0))), (a2, .inl (cy 0, 20, .inl (fun _ => 0))), (ne, .inr (6, [.ref n1, .ref n2, .ref n3, .ref n4, .ref n5])), (n1, .inl (cy 0, 8, .inl (fun _ => 0))), (n2, .inl (cy 0, 8, .inl f2)), (n3, .inl (cy 0, 8, .inl f3)), (n4, .inl (cy 0, 8, .inl f4)), (n5, .inl (cy 1, 8, .inl f5)), (ro, .inl (cy 0, 20, .inl (fun _ => 0))), (b1, .inl (cy 0, 8, .inl (fun _ => 0))), (b2, .inl (cy 0, 8, .inl g2)), (b3, .inl (cy 0, 8, .inl g3)), (b4, .inl (cy 0, 8, .inl g4)), (b5, .inl (cy 1, 8, .inl g5)), (od, .inl (cy 4, 1, .inr (.inr (.inr (.inl (fun _ => 0)))))), (m0, .inr (20, [.int 1, .ref mp, .int 0, .ref b1, .ref b2, .ref b3, .ref b4, .ref b5, .ref mq]))] H := hP
    have hD : va_D A [(pe, .inr (9, [.int 0, .ref a1, .ref a2, .ref a3, .ref a4, .ref a5, .ref a6, .ref a7, .ref a8, .ref a9])), (a1, .inl (cy 0, 20, .inl (fun _ => 0))), (a2, .inl (cy 0, 20, .inl (fun _ => 0))), (ne, .inr (6, [.ref n1, .ref n2, .ref n3, .ref n4, .ref n5])), (n1, .inl (cy 0, 8, .inl (fun _ => 0))), (n2, .inl (cy 0, 8, .inl f2)), (n3, .inl (cy 0, 8, .inl f3)), (n4, .inl (cy 0, 8, .inl f4)), (n5, .inl (cy 1, 8, .inl f5)), (ro, .inl (cy 0, 20, .inl (fun _ => 0))), (b1, .inl (cy 0, 8, .inl (fun _ => 0))), (b2, .inl (cy 0, 8, .inl g2)), (b3, .inl (cy 0, 8, .inl g3)), (b4, .inl (cy 0, 8, .inl g4)), (b5, .inl (cy 1, 8, .inl g5)), (od, .inl (cy 4, 1, .inr (.inr (.inr (.inl (fun _ => 0)))))), (m0, .inr (20, [.int 1, .ref mp, .int 0, .ref b1, .ref b2, .ref b3, .ref b4, .ref b5, .ref mq]))] := hD
    refine W.widen (k := 30) (n := 886) (Nat.le_of_ble_eq_true rfl) (Nat.le_of_ble_eq_true rfl) ?_
    refine lv_iload hx hb dL_law_1433 (lv_at hl 1 rfl) ?_
    refine lv_icmp_eq (tgt := 1440) hx hb dL_law_1435 (by decide) (fun _ => ?_) (fun c_632 => absurd (by decide) c_632)
    refine lv_iload hx hb dL_law_1440 (lv_at hl 1 rfl) ?_
    refine lv_if_ne (tgt := 1457) hx hb dL_law_1442 (by decide) (fun _ => ?_) (fun c_633 => absurd c_633 (by decide))
    refine lv_goto (tgt := 4257) hx hb dL_law_1457 (by decide) ?_
    refine W.widen (k := 60) (n := 1200) (Nat.le_of_ble_eq_true rfl) (Nat.le_of_ble_eq_true rfl) ?_
    exact hend _ _ _ hS (lv_sub hl [7, 2] rfl)
set_option maxHeartbeats 4000000 in
set_option maxRecDepth 100000 in
theorem law_case_17 {p : Program} {l : Launch} {e : Env} {s : State} {m : MethodId} {below : List Frame} {meth : Method} {c : Code} {D : va_G} {cy : Nat → ClassId} {ed b : Nat} {xs : Nat → Int32} {A : Nat → Prop} {Q : State → Prop} (C0 : zx_LW p l s m c D cy ed b xs A)
    {h pe ne pa ro a1 a2 a3 a4 a5 a6 a7 a8 a9 n1 n2 n3 n4 n5 m0 mp b1 b2 b3 b4 b5 mq oa od : Nat} {f2 f3 f4 f5 g2 g3 g4 g5 : Nat → Int32} (hf5 : ∀ j, j < 8 → f5 j = 115) (hg5 : ∀ j, j < 8 → g5 j = 115) {H : Heap} {locs : List Loc} {ls : Array Slot}
    (hP : va_P D vwCl [(h, .inr (13, [.ref pe, .ref ne, .ref pa, .ref ro, .int 0])), (pe, .inr (9, [.int 0, .ref a1, .ref a2, .ref a3, .ref a4, .ref a5, .ref a6, .ref a7, .ref a8, .ref a9])), (a1, .inl (cy 0, 20, .inl (fun _ => 0))), (a2, .inl (cy 0, 20, .inl (fun _ => 0))), (ne, .inr (6, [.ref n1, .ref n2, .ref n3, .ref n4, .ref n5])), (n1, .inl (cy 0, 8, .inl (fun _ => 0))), (n2, .inl (cy 0, 8, .inl f2)), (n3, .inl (cy 0, 8, .inl f3)), (n4, .inl (cy 0, 8, .inl f4)), (n5, .inl (cy 1, 8, .inl f5)), (pa, .inr (4, [.int 0, .ref ed, .int 0])), (ro, .inl (cy 0, 20, .inl (fun _ => 0))), (m0, .inr (20, [.int 0, .ref mp, .int 0, .ref b1, .ref b2, .ref b3, .ref b4, .ref b5, .ref mq])), (b1, .inl (cy 0, 8, .inl (fun _ => 0))), (b2, .inl (cy 0, 8, .inl g2)), (b3, .inl (cy 0, 8, .inl g3)), (b4, .inl (cy 0, 8, .inl g4)), (b5, .inl (cy 1, 8, .inl g5)), (mp, .inr (4, [.int 0, .ref ed, .int 0])), (mq, .inr (4, [.int 0, .ref ed, .int 0])), (oa, .inl (cy 3, 1, .inr (.inl (fun _ => 0)))), (od, .inl (cy 4, 1, .inr (.inr (.inr (.inl (fun _ => 0))))))] H) (hD : va_D A [(h, .inr (13, [.ref pe, .ref ne, .ref pa, .ref ro, .int 0])), (pe, .inr (9, [.int 0, .ref a1, .ref a2, .ref a3, .ref a4, .ref a5, .ref a6, .ref a7, .ref a8, .ref a9])), (a1, .inl (cy 0, 20, .inl (fun _ => 0))), (a2, .inl (cy 0, 20, .inl (fun _ => 0))), (ne, .inr (6, [.ref n1, .ref n2, .ref n3, .ref n4, .ref n5])), (n1, .inl (cy 0, 8, .inl (fun _ => 0))), (n2, .inl (cy 0, 8, .inl f2)), (n3, .inl (cy 0, 8, .inl f3)), (n4, .inl (cy 0, 8, .inl f4)), (n5, .inl (cy 1, 8, .inl f5)), (pa, .inr (4, [.int 0, .ref ed, .int 0])), (ro, .inl (cy 0, 20, .inl (fun _ => 0))), (m0, .inr (20, [.int 0, .ref mp, .int 0, .ref b1, .ref b2, .ref b3, .ref b4, .ref b5, .ref mq])), (b1, .inl (cy 0, 8, .inl (fun _ => 0))), (b2, .inl (cy 0, 8, .inl g2)), (b3, .inl (cy 0, 8, .inl g3)), (b4, .inl (cy 0, 8, .inl g4)), (b5, .inl (cy 1, 8, .inl g5)), (mp, .inr (4, [.int 0, .ref ed, .int 0])), (mq, .inr (4, [.int 0, .ref ed, .int 0])), (oa, .inl (cy 3, 1, .inr (.inl (fun _ => 0)))), (od, .inl (cy 4, 1, .inr (.inr (.inr (.inl (fun _ => 0))))))]) (hS : va_S A s.heap H locs) (hl : lv_has ls 9 [(5, .int 0), (4, .ref od), (3, .ref oa), (2, .ref m0), (1, .ref h), (0, .ref b)])
    (hend : ∀ (H : Heap) (locs : List Loc) (ls : Array Slot), va_S A s.heap H locs → lv_has ls 9 [(0, .ref b), (5, .int 0)] → W p l e room_1 s m #[Value.ref b] below meth c H locs 60 1200 Q (F0 m 4257 ls [])) :
    W p l e room_1 s m #[Value.ref b] below meth c H locs 29 880 Q (F0 m 1460 ls []) := by
  obtain ⟨hx, hb, hml, hst, hown, hts, hX, hbl, hbA, hA, hK, hZ, hN⟩ := C0
  refine lv_aload_n hx hb dL_law_1460 rfl (lv_at hl 4 rfl) ?_
  refine lv_aload_n hx hb dL_law_1461 rfl (lv_at hl 5 rfl) ?_
  refine lv_iload hx hb dL_law_1462 (lv_at hl 0 rfl) ?_
  refine lv_iconst (v := 1) hx hb dL_law_1464 (by decide) ?_
  refine lv_iadd hx hb dL_law_1465 ?_
  refine lv_topi (fun y9 ey9 => ?_)
  obtain rfl : y9 = 1 := by rw [ey9] <;> decide
  refine va_sld hx hb hX hbl hbA hS (zx_bn (by decide)) dL_law_1466 ?_
  refine lv_aload_n hx hb dL_law_1467 rfl (lv_at hl 5 rfl) ?_
  refine lv_iload hx hb dL_law_1468 (lv_at hl 0 rfl) ?_
  refine lv_iconst (v := 2) hx hb dL_law_1470 (by decide) ?_
  refine lv_iadd hx hb dL_law_1471 ?_
  refine lv_topi (fun y9 ey9 => ?_)
  obtain rfl : y9 = 2 := by rw [ey9] <;> decide
  refine va_sld hx hb hX hbl hbA hS (zx_bn (by decide)) dL_law_1472 ?_
  refine lv_aload_n hx hb dL_law_1473 rfl (lv_at hl 5 rfl) ?_
  refine lv_iload hx hb dL_law_1474 (lv_at hl 0 rfl) ?_
  refine lv_iconst (v := 3) hx hb dL_law_1476 (by decide) ?_
  refine lv_iadd hx hb dL_law_1477 ?_
  refine lv_topi (fun y9 ey9 => ?_)
  obtain rfl : y9 = 3 := by rw [ey9] <;> decide
  refine va_sld hx hb hX hbl hbA hS (zx_bn (by decide)) dL_law_1478 ?_
  refine lv_if_eq (tgt := 1486) hx hb dL_law_1479 (by decide) (fun c_634 => ?_) (fun c_634 => ?_)
  ·
    refine lv_iconst (v := 0) hx hb dL_law_1486 (by decide) ?_
    refine lv_aload_n hx hb dL_law_1487 rfl (lv_at hl 2 rfl) ?_
    have hPc := hP.sub (ws' := [(h, .inr (13, [.ref pe, .ref ne, .ref pa, .ref ro, .int 0])), (pa, .inr (4, [.int 0, .ref ed, .int 0])), (oa, .inl (cy 3, 1, .inr (.inl (fun _ => 0))))]) [0, 10, 20] rfl
    have hDc := hD.sub (ws' := [(h, .inr (13, [.ref pe, .ref ne, .ref pa, .ref ro, .int 0])), (pa, .inr (4, [.int 0, .ref ed, .int 0])), (oa, .inl (cy 3, 1, .inr (.inl (fun _ => 0))))]) [0, 10, 20] (by decide) rfl
    have hFc := va_free (wc := [(h, .inr (13, [.ref pe, .ref ne, .ref pa, .ref ro, .int 0])), (pa, .inr (4, [.int 0, .ref ed, .int 0])), (oa, .inl (cy 3, 1, .inr (.inl (fun _ => 0))))]) hD hS hA [0, 10, 20] rfl
    refine vx_calli (vx_runSX (As := [.ref h, .int (xs (1 : Int32).toNatClampNeg), .int (xs (2 : Int32).toNatClampNeg), .int 0, .ref oa]) (rest := []) ⟨hx, hb, hml, hown, hts⟩ (c_L_answer l hst D cy ed H.size h pe ne pa ro 0 0 ed oa (fun _ => 0) (xs (1 : Int32).toNatClampNeg) (xs (2 : Int32).toNatClampNeg) 0) (vx_cwSW 5 hts (zx_GS mm_1023 mm_1024 mm_70 mm_1025) rfl rfl rfl (by decide +kernel) ⟨(Nat.le_of_ble_eq_true rfl), (Nat.le_of_ble_eq_true rfl)⟩) ⟨zx_blind, zx_give hPc hK hDc hS hFc hZ hN⟩ rfl rfl hl.1 rfl (lv_room (Nat.le_of_ble_eq_true rfl)) dL_law_1488 ⟨(Nat.le_of_ble_eq_true rfl), (Nat.le_of_ble_eq_true rfl)⟩) hS (fun q _ h => hFc q h) hFc (fun q _ h => hFc q h) (fun E9 ce9 q9 _ t H locs ht hvm _ hBX hz1 hk1 hS hce hcv hcl => ?_) (fun r9 u t H locs ht hvm hw hB hz1 hk1 hS => ?_)
    · exact hBX.elim
    ·
      obtain rfl : r9 = 1 := hw
      obtain ⟨hP, hD⟩ := zx_join (wr := [(pe, .inr (9, [.int 0, .ref a1, .ref a2, .ref a3, .ref a4, .ref a5, .ref a6, .ref a7, .ref a8, .ref a9])), (a1, .inl (cy 0, 20, .inl (fun _ => 0))), (a2, .inl (cy 0, 20, .inl (fun _ => 0))), (ne, .inr (6, [.ref n1, .ref n2, .ref n3, .ref n4, .ref n5])), (n1, .inl (cy 0, 8, .inl (fun _ => 0))), (n2, .inl (cy 0, 8, .inl f2)), (n3, .inl (cy 0, 8, .inl f3)), (n4, .inl (cy 0, 8, .inl f4)), (n5, .inl (cy 1, 8, .inl f5)), (ro, .inl (cy 0, 20, .inl (fun _ => 0))), (m0, .inr (20, [.int 0, .ref mp, .int 0, .ref b1, .ref b2, .ref b3, .ref b4, .ref b5, .ref mq])), (b1, .inl (cy 0, 8, .inl (fun _ => 0))), (b2, .inl (cy 0, 8, .inl g2)), (b3, .inl (cy 0, 8, .inl g3)), (b4, .inl (cy 0, 8, .inl g4)), (b5, .inl (cy 1, 8, .inl g5)), (mp, .inr (4, [.int 0, .ref ed, .int 0])), (mq, .inr (4, [.int 0, .ref ed, .int 0])), (od, .inl (cy 4, 1, .inr (.inr (.inr (.inl (fun _ => 0))))))]) (w1 := []) [0, 10, 20] [1, 2, 3, 4, 5, 6, 7, 8, 9, 11, 12, 13, 14, 15, 16, 17, 18, 19, 21] rfl rfl (by decide) (by decide) hP hD hk1 hFc hB ht
      have hP : va_P D vwCl [(pe, .inr (9, [.int 0, .ref a1, .ref a2, .ref a3, .ref a4, .ref a5, .ref a6, .ref a7, .ref a8, .ref a9])), (a1, .inl (cy 0, 20, .inl (fun _ => 0))), (a2, .inl (cy 0, 20, .inl (fun _ => 0))), (ne, .inr (6, [.ref n1, .ref n2, .ref n3, .ref n4, .ref n5])), (n1, .inl (cy 0, 8, .inl (fun _ => 0))), (n2, .inl (cy 0, 8, .inl f2)), (n3, .inl (cy 0, 8, .inl f3)), (n4, .inl (cy 0, 8, .inl f4)), (n5, .inl (cy 1, 8, .inl f5)), (ro, .inl (cy 0, 20, .inl (fun _ => 0))), (m0, .inr (20, [.int 0, .ref mp, .int 0, .ref b1, .ref b2, .ref b3, .ref b4, .ref b5, .ref mq])), (b1, .inl (cy 0, 8, .inl (fun _ => 0))), (b2, .inl (cy 0, 8, .inl g2)), (b3, .inl (cy 0, 8, .inl g3)), (b4, .inl (cy 0, 8, .inl g4)), (b5, .inl (cy 1, 8, .inl g5)), (mp, .inr (4, [.int 0, .ref ed, .int 0])), (mq, .inr (4, [.int 0, .ref ed, .int 0])), (od, .inl (cy 4, 1, .inr (.inr (.inr (.inl (fun _ => 0))))))] H := hP
      have hD : va_D A [(pe, .inr (9, [.int 0, .ref a1, .ref a2, .ref a3, .ref a4, .ref a5, .ref a6, .ref a7, .ref a8, .ref a9])), (a1, .inl (cy 0, 20, .inl (fun _ => 0))), (a2, .inl (cy 0, 20, .inl (fun _ => 0))), (ne, .inr (6, [.ref n1, .ref n2, .ref n3, .ref n4, .ref n5])), (n1, .inl (cy 0, 8, .inl (fun _ => 0))), (n2, .inl (cy 0, 8, .inl f2)), (n3, .inl (cy 0, 8, .inl f3)), (n4, .inl (cy 0, 8, .inl f4)), (n5, .inl (cy 1, 8, .inl f5)), (ro, .inl (cy 0, 20, .inl (fun _ => 0))), (m0, .inr (20, [.int 0, .ref mp, .int 0, .ref b1, .ref b2, .ref b3, .ref b4, .ref b5, .ref mq])), (b1, .inl (cy 0, 8, .inl (fun _ => 0))), (b2, .inl (cy 0, 8, .inl g2)), (b3, .inl (cy 0, 8, .inl g3)), (b4, .inl (cy 0, 8, .inl g4)), (b5, .inl (cy 1, 8, .inl g5)), (mp, .inr (4, [.int 0, .ref ed, .int 0])), (mq, .inr (4, [.int 0, .ref ed, .int 0])), (od, .inl (cy 4, 1, .inr (.inr (.inr (.inl (fun _ => 0))))))] := hD
      refine W.widen (k := 30) (n := 886) (Nat.le_of_ble_eq_true rfl) (Nat.le_of_ble_eq_true rfl) ?_
      refine lv_istore (lv' := [(6, .int 1), (5, .int 0), (4, .ref od), (3, .ref oa), (2, .ref m0), (1, .ref h), (0, .ref b)]) hx hb dL_law_1491 hl (by decide) rfl (fun ls hl => ?_)
      refine lv_aload_n hx hb dL_law_1493 rfl (lv_at hl 4 rfl) ?_
      refine lv_aload_n hx hb dL_law_1494 rfl (lv_at hl 6 rfl) ?_
      refine lv_iload hx hb dL_law_1495 (lv_at hl 1 rfl) ?_
      refine lv_iconst (v := 1) hx hb dL_law_1497 (by decide) ?_
      refine lv_iadd hx hb dL_law_1498 ?_
      refine lv_topi (fun y9 ey9 => ?_)
      obtain rfl : y9 = 1 := by rw [ey9] <;> decide
      refine va_sld hx hb hX hbl hbA hS (zx_bn (by decide)) dL_law_1499 ?_
      refine lv_aload_n hx hb dL_law_1500 rfl (lv_at hl 6 rfl) ?_
      refine lv_iload hx hb dL_law_1501 (lv_at hl 1 rfl) ?_
      refine lv_iconst (v := 2) hx hb dL_law_1503 (by decide) ?_
      refine lv_iadd hx hb dL_law_1504 ?_
      refine lv_topi (fun y9 ey9 => ?_)
      obtain rfl : y9 = 2 := by rw [ey9] <;> decide
      refine va_sld hx hb hX hbl hbA hS (zx_bn (by decide)) dL_law_1505 ?_
      refine lv_aload_n hx hb dL_law_1506 rfl (lv_at hl 6 rfl) ?_
      refine lv_iload hx hb dL_law_1507 (lv_at hl 1 rfl) ?_
      refine lv_iconst (v := 3) hx hb dL_law_1509 (by decide) ?_
      refine lv_iadd hx hb dL_law_1510 ?_
      refine lv_topi (fun y9 ey9 => ?_)
      obtain rfl : y9 = 3 := by rw [ey9] <;> decide
      refine va_sld hx hb hX hbl hbA hS (zx_bn (by decide)) dL_law_1511 ?_
      refine lv_if_eq (tgt := 1519) hx hb dL_law_1512 (by decide) (fun c_635 => ?_) (fun c_635 => ?_)
      ·
        refine lv_iconst (v := 0) hx hb dL_law_1519 (by decide) ?_
        have hPc := hP.sub (ws' := [(m0, .inr (20, [.int 0, .ref mp, .int 0, .ref b1, .ref b2, .ref b3, .ref b4, .ref b5, .ref mq])), (mp, .inr (4, [.int 0, .ref ed, .int 0])), (mq, .inr (4, [.int 0, .ref ed, .int 0]))]) [10, 16, 17] rfl
        have hDc := hD.sub (ws' := [(m0, .inr (20, [.int 0, .ref mp, .int 0, .ref b1, .ref b2, .ref b3, .ref b4, .ref b5, .ref mq])), (mp, .inr (4, [.int 0, .ref ed, .int 0])), (mq, .inr (4, [.int 0, .ref ed, .int 0]))]) [10, 16, 17] (by decide) rfl
        have hFc := va_free (wc := [(m0, .inr (20, [.int 0, .ref mp, .int 0, .ref b1, .ref b2, .ref b3, .ref b4, .ref b5, .ref mq])), (mp, .inr (4, [.int 0, .ref ed, .int 0])), (mq, .inr (4, [.int 0, .ref ed, .int 0]))]) hD hS hA [10, 16, 17] rfl
        refine va_calli (va_runV (As := [.int (xs (1 : Int32).toNatClampNeg), .int (xs (2 : Int32).toNatClampNeg), .int 0]) (rest := []) ⟨hx, hb, hml, hown, hts⟩ (c_X15_answer l hst D cy ed H.size m0 mp mq b1 b2 b3 b4 b5 0 0 0 ed 0 ed (xs (1 : Int32).toNatClampNeg) (xs (2 : Int32).toNatClampNeg) 0) (cwV 3 hts (zx_GV mm_2150 mm_2151 mm_2152 mm_78 mm_2153) rfl rfl rfl (by decide +kernel) ⟨(Nat.le_of_ble_eq_true rfl), (Nat.le_of_ble_eq_true rfl)⟩) ⟨zx_blind, va_recv hK hPc (ci := 20) (q0 := 0) rfl rfl, zx_give hPc hK hDc hS hFc hZ hN⟩ rfl rfl hl.1 rfl (lv_room (Nat.le_of_ble_eq_true rfl)) dL_law_1520 ⟨(Nat.le_of_ble_eq_true rfl), (Nat.le_of_ble_eq_true rfl)⟩) hS (fun q _ h => hFc q h) hFc (fun r9 u t H1 locs ht hvm hw hB hz1 hk1 hS => ?_)
        obtain ⟨r_636, rfl⟩ : ∃ z9, z9 = r9 := ⟨_, rfl⟩
        have h_637 := hw
        obtain ⟨hP, hD⟩ := zx_join (wr := [(pe, .inr (9, [.int 0, .ref a1, .ref a2, .ref a3, .ref a4, .ref a5, .ref a6, .ref a7, .ref a8, .ref a9])), (a1, .inl (cy 0, 20, .inl (fun _ => 0))), (a2, .inl (cy 0, 20, .inl (fun _ => 0))), (ne, .inr (6, [.ref n1, .ref n2, .ref n3, .ref n4, .ref n5])), (n1, .inl (cy 0, 8, .inl (fun _ => 0))), (n2, .inl (cy 0, 8, .inl f2)), (n3, .inl (cy 0, 8, .inl f3)), (n4, .inl (cy 0, 8, .inl f4)), (n5, .inl (cy 1, 8, .inl f5)), (ro, .inl (cy 0, 20, .inl (fun _ => 0))), (b1, .inl (cy 0, 8, .inl (fun _ => 0))), (b2, .inl (cy 0, 8, .inl g2)), (b3, .inl (cy 0, 8, .inl g3)), (b4, .inl (cy 0, 8, .inl g4)), (b5, .inl (cy 1, 8, .inl g5)), (od, .inl (cy 4, 1, .inr (.inr (.inr (.inl (fun _ => 0))))))]) (w1 := [(m0, .inr (20, [.int 1, .ref mp, .int 0, .ref b1, .ref b2, .ref b3, .ref b4, .ref b5, .ref mq]))]) [10, 16, 17] [0, 1, 2, 3, 4, 5, 6, 7, 8, 9, 11, 12, 13, 14, 15, 18] rfl rfl (by decide) (by decide) hP hD hk1 hFc hB ht
        generalize H1 = H at hP hS ⊢
        have hP : va_P D vwCl [(pe, .inr (9, [.int 0, .ref a1, .ref a2, .ref a3, .ref a4, .ref a5, .ref a6, .ref a7, .ref a8, .ref a9])), (a1, .inl (cy 0, 20, .inl (fun _ => 0))), (a2, .inl (cy 0, 20, .inl (fun _ => 0))), (ne, .inr (6, [.ref n1, .ref n2, .ref n3, .ref n4, .ref n5])), (n1, .inl (cy 0, 8, .inl (fun _ => 0))), (n2, .inl (cy 0, 8, .inl f2)), (n3, .inl (cy 0, 8, .inl f3)), (n4, .inl (cy 0, 8, .inl f4)), (n5, .inl (cy 1, 8, .inl f5)), (ro, .inl (cy 0, 20, .inl (fun _ => 0))), (b1, .inl (cy 0, 8, .inl (fun _ => 0))), (b2, .inl (cy 0, 8, .inl g2)), (b3, .inl (cy 0, 8, .inl g3)), (b4, .inl (cy 0, 8, .inl g4)), (b5, .inl (cy 1, 8, .inl g5)), (od, .inl (cy 4, 1, .inr (.inr (.inr (.inl (fun _ => 0)))))), (m0, .inr (20, [.int 1, .ref mp, .int 0, .ref b1, .ref b2, .ref b3, .ref b4, .ref b5, .ref mq]))] H := hP
        have hD : va_D A [(pe, .inr (9, [.int 0, .ref a1, .ref a2, .ref a3, .ref a4, .ref a5, .ref a6, .ref a7, .ref a8, .ref a9])), (a1, .inl (cy 0, 20, .inl (fun _ => 0))), (a2, .inl (cy 0, 20, .inl (fun _ => 0))), (ne, .inr (6, [.ref n1, .ref n2, .ref n3, .ref n4, .ref n5])), (n1, .inl (cy 0, 8, .inl (fun _ => 0))), (n2, .inl (cy 0, 8, .inl f2)), (n3, .inl (cy 0, 8, .inl f3)), (n4, .inl (cy 0, 8, .inl f4)), (n5, .inl (cy 1, 8, .inl f5)), (ro, .inl (cy 0, 20, .inl (fun _ => 0))), (b1, .inl (cy 0, 8, .inl (fun _ => 0))), (b2, .inl (cy 0, 8, .inl g2)), (b3, .inl (cy 0, 8, .inl g3)), (b4, .inl (cy 0, 8, .inl g4)), (b5, .inl (cy 1, 8, .inl g5)), (od, .inl (cy 4, 1, .inr (.inr (.inr (.inl (fun _ => 0)))))), (m0, .inr (20, [.int 1, .ref mp, .int 0, .ref b1, .ref b2, .ref b3, .ref b4, .ref b5, .ref mq]))] := hD
        refine W.widen (k := 30) (n := 886) (Nat.le_of_ble_eq_true rfl) (Nat.le_of_ble_eq_true rfl) ?_
        refine lv_istore (lv' := [(7, .int r_636), (6, .int 1), (5, .int 0), (4, .ref od), (3, .ref oa), (2, .ref m0), (1, .ref h), (0, .ref b)]) hx hb dL_law_1523 hl (by decide) rfl (fun ls hl => ?_)
        refine lv_aload_n hx hb dL_law_1525 rfl (lv_at hl 5 rfl) ?_
        have hPc := hP.sub (ws' := [(m0, .inr (20, [.int 1, .ref mp, .int 0, .ref b1, .ref b2, .ref b3, .ref b4, .ref b5, .ref mq]))]) [16] rfl
        have hDc := hD.sub (ws' := [(m0, .inr (20, [.int 1, .ref mp, .int 0, .ref b1, .ref b2, .ref b3, .ref b4, .ref b5, .ref mq]))]) [16] (by decide) rfl
        have hFc := va_free (wc := [(m0, .inr (20, [.int 1, .ref mp, .int 0, .ref b1, .ref b2, .ref b3, .ref b4, .ref b5, .ref mq]))]) hD hS hA [16] rfl
        refine va_calli (va_runV (As := []) (rest := []) ⟨hx, hb, hml, hown, hts⟩ (c_X15_thrown l hst D cy ed H.size m0 mp mq b1 b2 b3 b4 b5 1 0) (cwV 0 hts (zx_GV mm_1599 mm_1600 mm_1601 mm_78 mm_1602) rfl rfl rfl (by decide +kernel) ⟨(Nat.le_of_ble_eq_true rfl), (Nat.le_of_ble_eq_true rfl)⟩) ⟨zx_blind, va_recv hK hPc (ci := 20) (q0 := 0) rfl rfl, zx_give hPc hK hDc hS hFc hZ hN⟩ rfl rfl hl.1 rfl (lv_room (Nat.le_of_ble_eq_true rfl)) dL_law_1526 ⟨(Nat.le_of_ble_eq_true rfl), (Nat.le_of_ble_eq_true rfl)⟩) hS (fun q _ h => hFc q h) hFc (fun r9 u t H1 locs ht hvm hw hB hz1 hk1 hS => ?_)
        obtain rfl : r9 = 1 := hw
        obtain ⟨hP, hD⟩ := zx_join (wr := [(pe, .inr (9, [.int 0, .ref a1, .ref a2, .ref a3, .ref a4, .ref a5, .ref a6, .ref a7, .ref a8, .ref a9])), (a1, .inl (cy 0, 20, .inl (fun _ => 0))), (a2, .inl (cy 0, 20, .inl (fun _ => 0))), (ne, .inr (6, [.ref n1, .ref n2, .ref n3, .ref n4, .ref n5])), (n1, .inl (cy 0, 8, .inl (fun _ => 0))), (n2, .inl (cy 0, 8, .inl f2)), (n3, .inl (cy 0, 8, .inl f3)), (n4, .inl (cy 0, 8, .inl f4)), (n5, .inl (cy 1, 8, .inl f5)), (ro, .inl (cy 0, 20, .inl (fun _ => 0))), (b1, .inl (cy 0, 8, .inl (fun _ => 0))), (b2, .inl (cy 0, 8, .inl g2)), (b3, .inl (cy 0, 8, .inl g3)), (b4, .inl (cy 0, 8, .inl g4)), (b5, .inl (cy 1, 8, .inl g5)), (od, .inl (cy 4, 1, .inr (.inr (.inr (.inl (fun _ => 0))))))]) (w1 := [(m0, .inr (20, [.int 1, .ref mp, .int 0, .ref b1, .ref b2, .ref b3, .ref b4, .ref b5, .ref mq]))]) [16] [0, 1, 2, 3, 4, 5, 6, 7, 8, 9, 10, 11, 12, 13, 14, 15] rfl rfl (by decide) (by decide) hP hD hk1 hFc hB ht
        generalize H1 = H at hP hS ⊢
        have hP : va_P D vwCl [(pe, .inr (9, [.int 0, .ref a1, .ref a2, .ref a3, .ref a4, .ref a5, .ref a6, .ref a7, .ref a8, .ref a9])), (a1, .inl (cy 0, 20, .inl (fun _ => 0))), (a2, .inl (cy 0, 20, .inl (fun _ => 0))), (ne, .inr (6, [.ref n1, .ref n2, .ref n3, .ref n4, .ref n5])), (n1, .inl (cy 0, 8, .inl (fun _ => 0))), (n2, .inl (cy 0, 8, .inl f2)), (n3, .inl (cy 0, 8, .inl f3)), (n4, .inl (cy 0, 8, .inl f4)), (n5, .inl (cy 1, 8, .inl f5)), (ro, .inl (cy 0, 20, .inl (fun _ => 0))), (b1, .inl (cy 0, 8, .inl (fun _ => 0))), (b2, .inl (cy 0, 8, .inl g2)), (b3, .inl (cy 0, 8, .inl g3)), (b4, .inl (cy 0, 8, .inl g4)), (b5, .inl (cy 1, 8, .inl g5)), (od, .inl (cy 4, 1, .inr (.inr (.inr (.inl (fun _ => 0)))))), (m0, .inr (20, [.int 1, .ref mp, .int 0, .ref b1, .ref b2, .ref b3, .ref b4, .ref b5, .ref mq]))] H := hP
        have hD : va_D A [(pe, .inr (9, [.int 0, .ref a1, .ref a2, .ref a3, .ref a4, .ref a5, .ref a6, .ref a7, .ref a8, .ref a9])), (a1, .inl (cy 0, 20, .inl (fun _ => 0))), (a2, .inl (cy 0, 20, .inl (fun _ => 0))), (ne, .inr (6, [.ref n1, .ref n2, .ref n3, .ref n4, .ref n5])), (n1, .inl (cy 0, 8, .inl (fun _ => 0))), (n2, .inl (cy 0, 8, .inl f2)), (n3, .inl (cy 0, 8, .inl f3)), (n4, .inl (cy 0, 8, .inl f4)), (n5, .inl (cy 1, 8, .inl f5)), (ro, .inl (cy 0, 20, .inl (fun _ => 0))), (b1, .inl (cy 0, 8, .inl (fun _ => 0))), (b2, .inl (cy 0, 8, .inl g2)), (b3, .inl (cy 0, 8, .inl g3)), (b4, .inl (cy 0, 8, .inl g4)), (b5, .inl (cy 1, 8, .inl g5)), (od, .inl (cy 4, 1, .inr (.inr (.inr (.inl (fun _ => 0)))))), (m0, .inr (20, [.int 1, .ref mp, .int 0, .ref b1, .ref b2, .ref b3, .ref b4, .ref b5, .ref mq]))] := hD
        refine W.widen (k := 30) (n := 886) (Nat.le_of_ble_eq_true rfl) (Nat.le_of_ble_eq_true rfl) ?_
        refine lv_iload hx hb dL_law_1529 (lv_at hl 1 rfl) ?_
        refine lv_icmp_eq (tgt := 1536) hx hb dL_law_1531 (by decide) (fun _ => ?_) (fun c_638 => absurd (by decide) c_638)
        refine lv_iload hx hb dL_law_1536 (lv_at hl 1 rfl) ?_
        refine lv_if_ne (tgt := 1553) hx hb dL_law_1538 (by decide) (fun _ => ?_) (fun c_639 => absurd c_639 (by decide))
        refine lv_goto (tgt := 4257) hx hb dL_law_1553 (by decide) ?_
        refine W.widen (k := 60) (n := 1200) (Nat.le_of_ble_eq_true rfl) (Nat.le_of_ble_eq_true rfl) ?_
        exact hend _ _ _ hS (lv_sub hl [7, 2] rfl)
      ·
        exact absurd c_634 c_635
  ·
    refine lv_iconst (v := 1) hx hb dL_law_1482 (by decide) ?_
    refine lv_goto (tgt := 1487) hx hb dL_law_1483 (by decide) ?_
    refine lv_aload_n hx hb dL_law_1487 rfl (lv_at hl 2 rfl) ?_
    have hPc := hP.sub (ws' := [(h, .inr (13, [.ref pe, .ref ne, .ref pa, .ref ro, .int 0])), (pa, .inr (4, [.int 0, .ref ed, .int 0])), (oa, .inl (cy 3, 1, .inr (.inl (fun _ => 0))))]) [0, 10, 20] rfl
    have hDc := hD.sub (ws' := [(h, .inr (13, [.ref pe, .ref ne, .ref pa, .ref ro, .int 0])), (pa, .inr (4, [.int 0, .ref ed, .int 0])), (oa, .inl (cy 3, 1, .inr (.inl (fun _ => 0))))]) [0, 10, 20] (by decide) rfl
    have hFc := va_free (wc := [(h, .inr (13, [.ref pe, .ref ne, .ref pa, .ref ro, .int 0])), (pa, .inr (4, [.int 0, .ref ed, .int 0])), (oa, .inl (cy 3, 1, .inr (.inl (fun _ => 0))))]) hD hS hA [0, 10, 20] rfl
    refine vx_calli (vx_runSX (As := [.ref h, .int (xs (1 : Int32).toNatClampNeg), .int (xs (2 : Int32).toNatClampNeg), .int 1, .ref oa]) (rest := []) ⟨hx, hb, hml, hown, hts⟩ (c_L_answer l hst D cy ed H.size h pe ne pa ro 0 0 ed oa (fun _ => 0) (xs (1 : Int32).toNatClampNeg) (xs (2 : Int32).toNatClampNeg) 1) (vx_cwSW 5 hts (zx_GS mm_1023 mm_1024 mm_70 mm_1025) rfl rfl rfl (by decide +kernel) ⟨(Nat.le_of_ble_eq_true rfl), (Nat.le_of_ble_eq_true rfl)⟩) ⟨zx_blind, zx_give hPc hK hDc hS hFc hZ hN⟩ rfl rfl hl.1 rfl (lv_room (Nat.le_of_ble_eq_true rfl)) dL_law_1488 ⟨(Nat.le_of_ble_eq_true rfl), (Nat.le_of_ble_eq_true rfl)⟩) hS (fun q _ h => hFc q h) hFc (fun q _ h => hFc q h) (fun E9 ce9 q9 _ t H locs ht hvm _ hBX hz1 hk1 hS hce hcv hcl => ?_) (fun r9 u t H locs ht hvm hw hB hz1 hk1 hS => ?_)
    · exact hBX.elim
    ·
      obtain rfl : r9 = 1 := hw
      obtain ⟨hP, hD⟩ := zx_join (wr := [(pe, .inr (9, [.int 0, .ref a1, .ref a2, .ref a3, .ref a4, .ref a5, .ref a6, .ref a7, .ref a8, .ref a9])), (a1, .inl (cy 0, 20, .inl (fun _ => 0))), (a2, .inl (cy 0, 20, .inl (fun _ => 0))), (ne, .inr (6, [.ref n1, .ref n2, .ref n3, .ref n4, .ref n5])), (n1, .inl (cy 0, 8, .inl (fun _ => 0))), (n2, .inl (cy 0, 8, .inl f2)), (n3, .inl (cy 0, 8, .inl f3)), (n4, .inl (cy 0, 8, .inl f4)), (n5, .inl (cy 1, 8, .inl f5)), (ro, .inl (cy 0, 20, .inl (fun _ => 0))), (m0, .inr (20, [.int 0, .ref mp, .int 0, .ref b1, .ref b2, .ref b3, .ref b4, .ref b5, .ref mq])), (b1, .inl (cy 0, 8, .inl (fun _ => 0))), (b2, .inl (cy 0, 8, .inl g2)), (b3, .inl (cy 0, 8, .inl g3)), (b4, .inl (cy 0, 8, .inl g4)), (b5, .inl (cy 1, 8, .inl g5)), (mp, .inr (4, [.int 0, .ref ed, .int 0])), (mq, .inr (4, [.int 0, .ref ed, .int 0])), (od, .inl (cy 4, 1, .inr (.inr (.inr (.inl (fun _ => 0))))))]) (w1 := []) [0, 10, 20] [1, 2, 3, 4, 5, 6, 7, 8, 9, 11, 12, 13, 14, 15, 16, 17, 18, 19, 21] rfl rfl (by decide) (by decide) hP hD hk1 hFc hB ht
      have hP : va_P D vwCl [(pe, .inr (9, [.int 0, .ref a1, .ref a2, .ref a3, .ref a4, .ref a5, .ref a6, .ref a7, .ref a8, .ref a9])), (a1, .inl (cy 0, 20, .inl (fun _ => 0))), (a2, .inl (cy 0, 20, .inl (fun _ => 0))), (ne, .inr (6, [.ref n1, .ref n2, .ref n3, .ref n4, .ref n5])), (n1, .inl (cy 0, 8, .inl (fun _ => 0))), (n2, .inl (cy 0, 8, .inl f2)), (n3, .inl (cy 0, 8, .inl f3)), (n4, .inl (cy 0, 8, .inl f4)), (n5, .inl (cy 1, 8, .inl f5)), (ro, .inl (cy 0, 20, .inl (fun _ => 0))), (m0, .inr (20, [.int 0, .ref mp, .int 0, .ref b1, .ref b2, .ref b3, .ref b4, .ref b5, .ref mq])), (b1, .inl (cy 0, 8, .inl (fun _ => 0))), (b2, .inl (cy 0, 8, .inl g2)), (b3, .inl (cy 0, 8, .inl g3)), (b4, .inl (cy 0, 8, .inl g4)), (b5, .inl (cy 1, 8, .inl g5)), (mp, .inr (4, [.int 0, .ref ed, .int 0])), (mq, .inr (4, [.int 0, .ref ed, .int 0])), (od, .inl (cy 4, 1, .inr (.inr (.inr (.inl (fun _ => 0))))))] H := hP
      have hD : va_D A [(pe, .inr (9, [.int 0, .ref a1, .ref a2, .ref a3, .ref a4, .ref a5, .ref a6, .ref a7, .ref a8, .ref a9])), (a1, .inl (cy 0, 20, .inl (fun _ => 0))), (a2, .inl (cy 0, 20, .inl (fun _ => 0))), (ne, .inr (6, [.ref n1, .ref n2, .ref n3, .ref n4, .ref n5])), (n1, .inl (cy 0, 8, .inl (fun _ => 0))), (n2, .inl (cy 0, 8, .inl f2)), (n3, .inl (cy 0, 8, .inl f3)), (n4, .inl (cy 0, 8, .inl f4)), (n5, .inl (cy 1, 8, .inl f5)), (ro, .inl (cy 0, 20, .inl (fun _ => 0))), (m0, .inr (20, [.int 0, .ref mp, .int 0, .ref b1, .ref b2, .ref b3, .ref b4, .ref b5, .ref mq])), (b1, .inl (cy 0, 8, .inl (fun _ => 0))), (b2, .inl (cy 0, 8, .inl g2)), (b3, .inl (cy 0, 8, .inl g3)), (b4, .inl (cy 0, 8, .inl g4)), (b5, .inl (cy 1, 8, .inl g5)), (mp, .inr (4, [.int 0, .ref ed, .int 0])), (mq, .inr (4, [.int 0, .ref ed, .int 0])), (od, .inl (cy 4, 1, .inr (.inr (.inr (.inl (fun _ => 0))))))] := hD
      refine W.widen (k := 30) (n := 886) (Nat.le_of_ble_eq_true rfl) (Nat.le_of_ble_eq_true rfl) ?_
      refine lv_istore (lv' := [(6, .int 1), (5, .int 0), (4, .ref od), (3, .ref oa), (2, .ref m0), (1, .ref h), (0, .ref b)]) hx hb dL_law_1491 hl (by decide) rfl (fun ls hl => ?_)
      refine lv_aload_n hx hb dL_law_1493 rfl (lv_at hl 4 rfl) ?_
      refine lv_aload_n hx hb dL_law_1494 rfl (lv_at hl 6 rfl) ?_
      refine lv_iload hx hb dL_law_1495 (lv_at hl 1 rfl) ?_
      refine lv_iconst (v := 1) hx hb dL_law_1497 (by decide) ?_
      refine lv_iadd hx hb dL_law_1498 ?_
      refine lv_topi (fun y9 ey9 => ?_)
      obtain rfl : y9 = 1 := by rw [ey9] <;> decide
      refine va_sld hx hb hX hbl hbA hS (zx_bn (by decide)) dL_law_1499 ?_
      refine lv_aload_n hx hb dL_law_1500 rfl (lv_at hl 6 rfl) ?_
      refine lv_iload hx hb dL_law_1501 (lv_at hl 1 rfl) ?_
      refine lv_iconst (v := 2) hx hb dL_law_1503 (by decide) ?_
      refine lv_iadd hx hb dL_law_1504 ?_
      refine lv_topi (fun y9 ey9 => ?_)
      obtain rfl : y9 = 2 := by rw [ey9] <;> decide
      refine va_sld hx hb hX hbl hbA hS (zx_bn (by decide)) dL_law_1505 ?_
      refine lv_aload_n hx hb dL_law_1506 rfl (lv_at hl 6 rfl) ?_
      refine lv_iload hx hb dL_law_1507 (lv_at hl 1 rfl) ?_
      refine lv_iconst (v := 3) hx hb dL_law_1509 (by decide) ?_
      refine lv_iadd hx hb dL_law_1510 ?_
      refine lv_topi (fun y9 ey9 => ?_)
      obtain rfl : y9 = 3 := by rw [ey9] <;> decide
      refine va_sld hx hb hX hbl hbA hS (zx_bn (by decide)) dL_law_1511 ?_
      refine lv_if_eq (tgt := 1519) hx hb dL_law_1512 (by decide) (fun c_640 => ?_) (fun c_640 => ?_)
      ·
        exact absurd c_640 c_634
      ·
        refine lv_iconst (v := 1) hx hb dL_law_1515 (by decide) ?_
        refine lv_goto (tgt := 1520) hx hb dL_law_1516 (by decide) ?_
        have hPc := hP.sub (ws' := [(m0, .inr (20, [.int 0, .ref mp, .int 0, .ref b1, .ref b2, .ref b3, .ref b4, .ref b5, .ref mq])), (mp, .inr (4, [.int 0, .ref ed, .int 0])), (mq, .inr (4, [.int 0, .ref ed, .int 0]))]) [10, 16, 17] rfl
        have hDc := hD.sub (ws' := [(m0, .inr (20, [.int 0, .ref mp, .int 0, .ref b1, .ref b2, .ref b3, .ref b4, .ref b5, .ref mq])), (mp, .inr (4, [.int 0, .ref ed, .int 0])), (mq, .inr (4, [.int 0, .ref ed, .int 0]))]) [10, 16, 17] (by decide) rfl
        have hFc := va_free (wc := [(m0, .inr (20, [.int 0, .ref mp, .int 0, .ref b1, .ref b2, .ref b3, .ref b4, .ref b5, .ref mq])), (mp, .inr (4, [.int 0, .ref ed, .int 0])), (mq, .inr (4, [.int 0, .ref ed, .int 0]))]) hD hS hA [10, 16, 17] rfl
        refine va_calli (va_runV (As := [.int (xs (1 : Int32).toNatClampNeg), .int (xs (2 : Int32).toNatClampNeg), .int 1]) (rest := []) ⟨hx, hb, hml, hown, hts⟩ (c_X15_answer l hst D cy ed H.size m0 mp mq b1 b2 b3 b4 b5 0 0 0 ed 0 ed (xs (1 : Int32).toNatClampNeg) (xs (2 : Int32).toNatClampNeg) 1) (cwV 3 hts (zx_GV mm_2150 mm_2151 mm_2152 mm_78 mm_2153) rfl rfl rfl (by decide +kernel) ⟨(Nat.le_of_ble_eq_true rfl), (Nat.le_of_ble_eq_true rfl)⟩) ⟨zx_blind, va_recv hK hPc (ci := 20) (q0 := 0) rfl rfl, zx_give hPc hK hDc hS hFc hZ hN⟩ rfl rfl hl.1 rfl (lv_room (Nat.le_of_ble_eq_true rfl)) dL_law_1520 ⟨(Nat.le_of_ble_eq_true rfl), (Nat.le_of_ble_eq_true rfl)⟩) hS (fun q _ h => hFc q h) hFc (fun r9 u t H1 locs ht hvm hw hB hz1 hk1 hS => ?_)
        obtain ⟨r_641, rfl⟩ : ∃ z9, z9 = r9 := ⟨_, rfl⟩
        have h_642 := hw
        obtain ⟨hP, hD⟩ := zx_join (wr := [(pe, .inr (9, [.int 0, .ref a1, .ref a2, .ref a3, .ref a4, .ref a5, .ref a6, .ref a7, .ref a8, .ref a9])), (a1, .inl (cy 0, 20, .inl (fun _ => 0))), (a2, .inl (cy 0, 20, .inl (fun _ => 0))), (ne, .inr (6, [.ref n1, .ref n2, .ref n3, .ref n4, .ref n5])), (n1, .inl (cy 0, 8, .inl (fun _ => 0))), (n2, .inl (cy 0, 8, .inl f2)), (n3, .inl (cy 0, 8, .inl f3)), (n4, .inl (cy 0, 8, .inl f4)), (n5, .inl (cy 1, 8, .inl f5)), (ro, .inl (cy 0, 20, .inl (fun _ => 0))), (b1, .inl (cy 0, 8, .inl (fun _ => 0))), (b2, .inl (cy 0, 8, .inl g2)), (b3, .inl (cy 0, 8, .inl g3)), (b4, .inl (cy 0, 8, .inl g4)), (b5, .inl (cy 1, 8, .inl g5)), (od, .inl (cy 4, 1, .inr (.inr (.inr (.inl (fun _ => 0))))))]) (w1 := [(m0, .inr (20, [.int 1, .ref mp, .int 0, .ref b1, .ref b2, .ref b3, .ref b4, .ref b5, .ref mq]))]) [10, 16, 17] [0, 1, 2, 3, 4, 5, 6, 7, 8, 9, 11, 12, 13, 14, 15, 18] rfl rfl (by decide) (by decide) hP hD hk1 hFc hB ht
        generalize H1 = H at hP hS ⊢
        have hP : va_P D vwCl [(pe, .inr (9, [.int 0, .ref a1, .ref a2, .ref a3, .ref a4, .ref a5, .ref a6, .ref a7, .ref a8, .ref a9])), (a1, .inl (cy 0, 20, .inl (fun _ => 0))), (a2, .inl (cy 0, 20, .inl (fun _ => 0))), (ne, .inr (6, [.ref n1, .ref n2, .ref n3, .ref n4, .ref n5])), (n1, .inl (cy 0, 8, .inl (fun _ => 0))), (n2, .inl (cy 0, 8, .inl f2)), (n3, .inl (cy 0, 8, .inl f3)), (n4, .inl (cy 0, 8, .inl f4)), (n5, .inl (cy 1, 8, .inl f5)), (ro, .inl (cy 0, 20, .inl (fun _ => 0))), (b1, .inl (cy 0, 8, .inl (fun _ => 0))), (b2, .inl (cy 0, 8, .inl g2)), (b3, .inl (cy 0, 8, .inl g3)), (b4, .inl (cy 0, 8, .inl g4)), (b5, .inl (cy 1, 8, .inl g5)), (od, .inl (cy 4, 1, .inr (.inr (.inr (.inl (fun _ => 0)))))), (m0, .inr (20, [.int 1, .ref mp, .int 0, .ref b1, .ref b2, .ref b3, .ref b4, .ref b5, .ref mq]))] H := hP
        have hD : va_D A [(pe, .inr (9, [.int 0, .ref a1, .ref a2, .ref a3, .ref a4, .ref a5, .ref a6, .ref a7, .ref a8, .ref a9])), (a1, .inl (cy 0, 20, .inl (fun _ => 0))), (a2, .inl (cy 0, 20, .inl (fun _ => 0))), (ne, .inr (6, [.ref n1, .ref n2, .ref n3, .ref n4, .ref n5])), (n1, .inl (cy 0, 8, .inl (fun _ => 0))), (n2, .inl (cy 0, 8, .inl f2)), (n3, .inl (cy 0, 8, .inl f3)), (n4, .inl (cy 0, 8, .inl f4)), (n5, .inl (cy 1, 8, .inl f5)), (ro, .inl (cy 0, 20, .inl (fun _ => 0))), (b1, .inl (cy 0, 8, .inl (fun _ => 0))), (b2, .inl (cy 0, 8, .inl g2)), (b3, .inl (cy 0, 8, .inl g3)), (b4, .inl (cy 0, 8, .inl g4)), (b5, .inl (cy 1, 8, .inl g5)), (od, .inl (cy 4, 1, .inr (.inr (.inr (.inl (fun _ => 0)))))), (m0, .inr (20, [.int 1, .ref mp, .int 0, .ref b1, .ref b2, .ref b3, .ref b4, .ref b5, .ref mq]))] := hD
        refine W.widen (k := 30) (n := 886) (Nat.le_of_ble_eq_true rfl) (Nat.le_of_ble_eq_true rfl) ?_
        refine lv_istore (lv' := [(7, .int r_641), (6, .int 1), (5, .int 0), (4, .ref od), (3, .ref oa), (2, .ref m0), (1, .ref h), (0, .ref b)]) hx hb dL_law_1523 hl (by decide) rfl (fun ls hl => ?_)
        refine lv_aload_n hx hb dL_law_1525 rfl (lv_at hl 5 rfl) ?_
        have hPc := hP.sub (ws' := [(m0, .inr (20, [.int 1, .ref mp, .int 0, .ref b1, .ref b2, .ref b3, .ref b4, .ref b5, .ref mq]))]) [16] rfl
        have hDc := hD.sub (ws' := [(m0, .inr (20, [.int 1, .ref mp, .int 0, .ref b1, .ref b2, .ref b3, .ref b4, .ref b5, .ref mq]))]) [16] (by decide) rfl
        have hFc := va_free (wc := [(m0, .inr (20, [.int 1, .ref mp, .int 0, .ref b1, .ref b2, .ref b3, .ref b4, .ref b5, .ref mq]))]) hD hS hA [16] rfl
        refine va_calli (va_runV (As := []) (rest := []) ⟨hx, hb, hml, hown, hts⟩ (c_X15_thrown l hst D cy ed H.size m0 mp mq b1 b2 b3 b4 b5 1 0) (cwV 0 hts (zx_GV mm_1599 mm_1600 mm_1601 mm_78 mm_1602) rfl rfl rfl (by decide +kernel) ⟨(Nat.le_of_ble_eq_true rfl), (Nat.le_of_ble_eq_true rfl)⟩) ⟨zx_blind, va_recv hK hPc (ci := 20) (q0 := 0) rfl rfl, zx_give hPc hK hDc hS hFc hZ hN⟩ rfl rfl hl.1 rfl (lv_room (Nat.le_of_ble_eq_true rfl)) dL_law_1526 ⟨(Nat.le_of_ble_eq_true rfl), (Nat.le_of_ble_eq_true rfl)⟩) hS (fun q _ h => hFc q h) hFc (fun r9 u t H1 locs ht hvm hw hB hz1 hk1 hS => ?_)
        obtain rfl : r9 = 1 := hw
        obtain ⟨hP, hD⟩ := zx_join (wr := [(pe, .inr (9, [.int 0, .ref a1, .ref a2, .ref a3, .ref a4, .ref a5, .ref a6, .ref a7, .ref a8, .ref a9])), (a1, .inl (cy 0, 20, .inl (fun _ => 0))), (a2, .inl (cy 0, 20, .inl (fun _ => 0))), (ne, .inr (6, [.ref n1, .ref n2, .ref n3, .ref n4, .ref n5])), (n1, .inl (cy 0, 8, .inl (fun _ => 0))), (n2, .inl (cy 0, 8, .inl f2)), (n3, .inl (cy 0, 8, .inl f3)), (n4, .inl (cy 0, 8, .inl f4)), (n5, .inl (cy 1, 8, .inl f5)), (ro, .inl (cy 0, 20, .inl (fun _ => 0))), (b1, .inl (cy 0, 8, .inl (fun _ => 0))), (b2, .inl (cy 0, 8, .inl g2)), (b3, .inl (cy 0, 8, .inl g3)), (b4, .inl (cy 0, 8, .inl g4)), (b5, .inl (cy 1, 8, .inl g5)), (od, .inl (cy 4, 1, .inr (.inr (.inr (.inl (fun _ => 0))))))]) (w1 := [(m0, .inr (20, [.int 1, .ref mp, .int 0, .ref b1, .ref b2, .ref b3, .ref b4, .ref b5, .ref mq]))]) [16] [0, 1, 2, 3, 4, 5, 6, 7, 8, 9, 10, 11, 12, 13, 14, 15] rfl rfl (by decide) (by decide) hP hD hk1 hFc hB ht
        generalize H1 = H at hP hS ⊢
        have hP : va_P D vwCl [(pe, .inr (9, [.int 0, .ref a1, .ref a2, .ref a3, .ref a4, .ref a5, .ref a6, .ref a7, .ref a8, .ref a9])), (a1, .inl (cy 0, 20, .inl (fun _ => 0))), (a2, .inl (cy 0, 20, .inl (fun _ => 0))), (ne, .inr (6, [.ref n1, .ref n2, .ref n3, .ref n4, .ref n5])), (n1, .inl (cy 0, 8, .inl (fun _ => 0))), (n2, .inl (cy 0, 8, .inl f2)), (n3, .inl (cy 0, 8, .inl f3)), (n4, .inl (cy 0, 8, .inl f4)), (n5, .inl (cy 1, 8, .inl f5)), (ro, .inl (cy 0, 20, .inl (fun _ => 0))), (b1, .inl (cy 0, 8, .inl (fun _ => 0))), (b2, .inl (cy 0, 8, .inl g2)), (b3, .inl (cy 0, 8, .inl g3)), (b4, .inl (cy 0, 8, .inl g4)), (b5, .inl (cy 1, 8, .inl g5)), (od, .inl (cy 4, 1, .inr (.inr (.inr (.inl (fun _ => 0)))))), (m0, .inr (20, [.int 1, .ref mp, .int 0, .ref b1, .ref b2, .ref b3, .ref b4, .ref b5, .ref mq]))] H := hP
        have hD : va_D A [(pe, .inr (9, [.int 0, .ref a1, .ref a2, .ref a3, .ref a4, .ref a5, .ref a6, .ref a7, .ref a8, .ref a9])), (a1, .inl (cy 0, 20, .inl (fun _ => 0))), (a2, .inl (cy 0, 20, .inl (fun _ => 0))), (ne, .inr (6, [.ref n1, .ref n2, .ref n3, .ref n4, .ref n5])), (n1, .inl (cy 0, 8, .inl (fun _ => 0))), (n2, .inl (cy 0, 8, .inl f2)), (n3, .inl (cy 0, 8, .inl f3)), (n4, .inl (cy 0, 8, .inl f4)), (n5, .inl (cy 1, 8, .inl f5)), (ro, .inl (cy 0, 20, .inl (fun _ => 0))), (b1, .inl (cy 0, 8, .inl (fun _ => 0))), (b2, .inl (cy 0, 8, .inl g2)), (b3, .inl (cy 0, 8, .inl g3)), (b4, .inl (cy 0, 8, .inl g4)), (b5, .inl (cy 1, 8, .inl g5)), (od, .inl (cy 4, 1, .inr (.inr (.inr (.inl (fun _ => 0)))))), (m0, .inr (20, [.int 1, .ref mp, .int 0, .ref b1, .ref b2, .ref b3, .ref b4, .ref b5, .ref mq]))] := hD
        refine W.widen (k := 30) (n := 886) (Nat.le_of_ble_eq_true rfl) (Nat.le_of_ble_eq_true rfl) ?_
        refine lv_iload hx hb dL_law_1529 (lv_at hl 1 rfl) ?_
        refine lv_icmp_eq (tgt := 1536) hx hb dL_law_1531 (by decide) (fun _ => ?_) (fun c_643 => absurd (by decide) c_643)
        refine lv_iload hx hb dL_law_1536 (lv_at hl 1 rfl) ?_
        refine lv_if_ne (tgt := 1553) hx hb dL_law_1538 (by decide) (fun _ => ?_) (fun c_644 => absurd c_644 (by decide))
        refine lv_goto (tgt := 4257) hx hb dL_law_1553 (by decide) ?_
        refine W.widen (k := 60) (n := 1200) (Nat.le_of_ble_eq_true rfl) (Nat.le_of_ble_eq_true rfl) ?_
        exact hend _ _ _ hS (lv_sub hl [7, 2] rfl)
set_option maxHeartbeats 4000000 in
set_option maxRecDepth 100000 in
theorem law_case_18 {p : Program} {l : Launch} {e : Env} {s : State} {m : MethodId} {below : List Frame} {meth : Method} {c : Code} {D : va_G} {cy : Nat → ClassId} {ed b : Nat} {xs : Nat → Int32} {A : Nat → Prop} {Q : State → Prop} (C0 : zx_LW p l s m c D cy ed b xs A)
    {h pe ne pa ro a1 a2 a3 a4 a5 a6 a7 a8 a9 n1 n2 n3 n4 n5 m0 mp b1 b2 b3 b4 b5 mq oa od : Nat} {f2 f3 f4 f5 g2 g3 g4 g5 : Nat → Int32} (hf5 : ∀ j, j < 8 → f5 j = 115) (hg5 : ∀ j, j < 8 → g5 j = 115) {H : Heap} {locs : List Loc} {ls : Array Slot}
    (hP : va_P D vwCl [(h, .inr (13, [.ref pe, .ref ne, .ref pa, .ref ro, .int 0])), (pe, .inr (9, [.int 0, .ref a1, .ref a2, .ref a3, .ref a4, .ref a5, .ref a6, .ref a7, .ref a8, .ref a9])), (a1, .inl (cy 0, 20, .inl (fun _ => 0))), (a2, .inl (cy 0, 20, .inl (fun _ => 0))), (ne, .inr (6, [.ref n1, .ref n2, .ref n3, .ref n4, .ref n5])), (n1, .inl (cy 0, 8, .inl (fun _ => 0))), (n2, .inl (cy 0, 8, .inl f2)), (n3, .inl (cy 0, 8, .inl f3)), (n4, .inl (cy 0, 8, .inl f4)), (n5, .inl (cy 1, 8, .inl f5)), (pa, .inr (4, [.int 0, .ref ed, .int 0])), (ro, .inl (cy 0, 20, .inl (fun _ => 0))), (m0, .inr (20, [.int 0, .ref mp, .int 0, .ref b1, .ref b2, .ref b3, .ref b4, .ref b5, .ref mq])), (b1, .inl (cy 0, 8, .inl (fun _ => 0))), (b2, .inl (cy 0, 8, .inl g2)), (b3, .inl (cy 0, 8, .inl g3)), (b4, .inl (cy 0, 8, .inl g4)), (b5, .inl (cy 1, 8, .inl g5)), (mp, .inr (4, [.int 0, .ref ed, .int 0])), (mq, .inr (4, [.int 0, .ref ed, .int 0])), (oa, .inl (cy 3, 1, .inr (.inl (fun _ => 0)))), (od, .inl (cy 4, 1, .inr (.inr (.inr (.inl (fun _ => 0))))))] H) (hD : va_D A [(h, .inr (13, [.ref pe, .ref ne, .ref pa, .ref ro, .int 0])), (pe, .inr (9, [.int 0, .ref a1, .ref a2, .ref a3, .ref a4, .ref a5, .ref a6, .ref a7, .ref a8, .ref a9])), (a1, .inl (cy 0, 20, .inl (fun _ => 0))), (a2, .inl (cy 0, 20, .inl (fun _ => 0))), (ne, .inr (6, [.ref n1, .ref n2, .ref n3, .ref n4, .ref n5])), (n1, .inl (cy 0, 8, .inl (fun _ => 0))), (n2, .inl (cy 0, 8, .inl f2)), (n3, .inl (cy 0, 8, .inl f3)), (n4, .inl (cy 0, 8, .inl f4)), (n5, .inl (cy 1, 8, .inl f5)), (pa, .inr (4, [.int 0, .ref ed, .int 0])), (ro, .inl (cy 0, 20, .inl (fun _ => 0))), (m0, .inr (20, [.int 0, .ref mp, .int 0, .ref b1, .ref b2, .ref b3, .ref b4, .ref b5, .ref mq])), (b1, .inl (cy 0, 8, .inl (fun _ => 0))), (b2, .inl (cy 0, 8, .inl g2)), (b3, .inl (cy 0, 8, .inl g3)), (b4, .inl (cy 0, 8, .inl g4)), (b5, .inl (cy 1, 8, .inl g5)), (mp, .inr (4, [.int 0, .ref ed, .int 0])), (mq, .inr (4, [.int 0, .ref ed, .int 0])), (oa, .inl (cy 3, 1, .inr (.inl (fun _ => 0)))), (od, .inl (cy 4, 1, .inr (.inr (.inr (.inl (fun _ => 0))))))]) (hS : va_S A s.heap H locs) (hl : lv_has ls 9 [(5, .int 0), (4, .ref od), (3, .ref oa), (2, .ref m0), (1, .ref h), (0, .ref b)])
    (hend : ∀ (H : Heap) (locs : List Loc) (ls : Array Slot), va_S A s.heap H locs → lv_has ls 9 [(0, .ref b), (5, .int 0)] → W p l e room_1 s m #[Value.ref b] below meth c H locs 60 1200 Q (F0 m 4257 ls [])) :
    W p l e room_1 s m #[Value.ref b] below meth c H locs 29 880 Q (F0 m 1556 ls []) := by
  obtain ⟨hx, hb, hml, hst, hown, hts, hX, hbl, hbA, hA, hK, hZ, hN⟩ := C0
  refine lv_aload_n hx hb dL_law_1556 rfl (lv_at hl 4 rfl) ?_
  refine lv_aload_n hx hb dL_law_1557 rfl (lv_at hl 5 rfl) ?_
  refine lv_iload hx hb dL_law_1558 (lv_at hl 0 rfl) ?_
  refine lv_iconst (v := 1) hx hb dL_law_1560 (by decide) ?_
  refine lv_iadd hx hb dL_law_1561 ?_
  refine lv_topi (fun y9 ey9 => ?_)
  obtain rfl : y9 = 1 := by rw [ey9] <;> decide
  refine va_sld hx hb hX hbl hbA hS (zx_bn (by decide)) dL_law_1562 ?_
  refine lv_aload_n hx hb dL_law_1563 rfl (lv_at hl 5 rfl) ?_
  refine lv_iload hx hb dL_law_1564 (lv_at hl 0 rfl) ?_
  refine lv_iconst (v := 2) hx hb dL_law_1566 (by decide) ?_
  refine lv_iadd hx hb dL_law_1567 ?_
  refine lv_topi (fun y9 ey9 => ?_)
  obtain rfl : y9 = 2 := by rw [ey9] <;> decide
  refine va_sld hx hb hX hbl hbA hS (zx_bn (by decide)) dL_law_1568 ?_
  refine lv_aload_n hx hb dL_law_1569 rfl (lv_at hl 5 rfl) ?_
  refine lv_iload hx hb dL_law_1570 (lv_at hl 0 rfl) ?_
  refine lv_iconst (v := 3) hx hb dL_law_1572 (by decide) ?_
  refine lv_iadd hx hb dL_law_1573 ?_
  refine lv_topi (fun y9 ey9 => ?_)
  obtain rfl : y9 = 3 := by rw [ey9] <;> decide
  refine va_sld hx hb hX hbl hbA hS (zx_bn (by decide)) dL_law_1574 ?_
  refine lv_aload_n hx hb dL_law_1575 rfl (lv_at hl 5 rfl) ?_
  refine lv_iload hx hb dL_law_1576 (lv_at hl 0 rfl) ?_
  refine lv_iconst (v := 4) hx hb dL_law_1578 (by decide) ?_
  refine lv_iadd hx hb dL_law_1579 ?_
  refine lv_topi (fun y9 ey9 => ?_)
  obtain rfl : y9 = 4 := by rw [ey9] <;> decide
  refine va_sld hx hb hX hbl hbA hS (zx_bn (by decide)) dL_law_1580 ?_
  refine lv_aload_n hx hb dL_law_1581 rfl (lv_at hl 5 rfl) ?_
  refine lv_iload hx hb dL_law_1582 (lv_at hl 0 rfl) ?_
  refine lv_iconst (v := 5) hx hb dL_law_1584 (by decide) ?_
  refine lv_iadd hx hb dL_law_1585 ?_
  refine lv_topi (fun y9 ey9 => ?_)
  obtain rfl : y9 = 5 := by rw [ey9] <;> decide
  refine va_sld hx hb hX hbl hbA hS (zx_bn (by decide)) dL_law_1586 ?_
  refine lv_if_eq (tgt := 1594) hx hb dL_law_1587 (by decide) (fun c_645 => ?_) (fun c_645 => ?_)
  ·
    refine lv_iconst (v := 0) hx hb dL_law_1594 (by decide) ?_
    refine lv_aload_n hx hb dL_law_1595 rfl (lv_at hl 2 rfl) ?_
    have hPc := hP.sub (ws' := [(h, .inr (13, [.ref pe, .ref ne, .ref pa, .ref ro, .int 0])), (pa, .inr (4, [.int 0, .ref ed, .int 0])), (oa, .inl (cy 3, 1, .inr (.inl (fun _ => 0))))]) [0, 10, 20] rfl
    have hDc := hD.sub (ws' := [(h, .inr (13, [.ref pe, .ref ne, .ref pa, .ref ro, .int 0])), (pa, .inr (4, [.int 0, .ref ed, .int 0])), (oa, .inl (cy 3, 1, .inr (.inl (fun _ => 0))))]) [0, 10, 20] (by decide) rfl
    have hFc := va_free (wc := [(h, .inr (13, [.ref pe, .ref ne, .ref pa, .ref ro, .int 0])), (pa, .inr (4, [.int 0, .ref ed, .int 0])), (oa, .inl (cy 3, 1, .inr (.inl (fun _ => 0))))]) hD hS hA [0, 10, 20] rfl
    refine vx_calli (vx_runSX (As := [.ref h, .int (xs (1 : Int32).toNatClampNeg), .int (xs (2 : Int32).toNatClampNeg), .int (xs (3 : Int32).toNatClampNeg), .int (xs (4 : Int32).toNatClampNeg), .int 0, .ref oa]) (rest := []) ⟨hx, hb, hml, hown, hts⟩ (c_L_report l hst D cy ed H.size h pe ne pa ro 0 0 ed oa (fun _ => 0) (xs (1 : Int32).toNatClampNeg) (xs (2 : Int32).toNatClampNeg) (xs (3 : Int32).toNatClampNeg) (xs (4 : Int32).toNatClampNeg) 0) (vx_cwSW 7 hts (zx_GS mm_1034 mm_1035 mm_70 mm_1036) rfl rfl rfl (by decide +kernel) ⟨(Nat.le_of_ble_eq_true rfl), (Nat.le_of_ble_eq_true rfl)⟩) ⟨zx_blind, zx_give hPc hK hDc hS hFc hZ hN⟩ rfl rfl hl.1 rfl (lv_room (Nat.le_of_ble_eq_true rfl)) dL_law_1596 ⟨(Nat.le_of_ble_eq_true rfl), (Nat.le_of_ble_eq_true rfl)⟩) hS (fun q _ h => hFc q h) hFc (fun q _ h => hFc q h) (fun E9 ce9 q9 _ t H locs ht hvm _ hBX hz1 hk1 hS hce hcv hcl => ?_) (fun r9 u t H locs ht hvm hw hB hz1 hk1 hS => ?_)
    · exact hBX.elim
    ·
      obtain rfl : r9 = 1 := hw
      obtain ⟨hP, hD⟩ := zx_join (wr := [(pe, .inr (9, [.int 0, .ref a1, .ref a2, .ref a3, .ref a4, .ref a5, .ref a6, .ref a7, .ref a8, .ref a9])), (a1, .inl (cy 0, 20, .inl (fun _ => 0))), (a2, .inl (cy 0, 20, .inl (fun _ => 0))), (ne, .inr (6, [.ref n1, .ref n2, .ref n3, .ref n4, .ref n5])), (n1, .inl (cy 0, 8, .inl (fun _ => 0))), (n2, .inl (cy 0, 8, .inl f2)), (n3, .inl (cy 0, 8, .inl f3)), (n4, .inl (cy 0, 8, .inl f4)), (n5, .inl (cy 1, 8, .inl f5)), (ro, .inl (cy 0, 20, .inl (fun _ => 0))), (m0, .inr (20, [.int 0, .ref mp, .int 0, .ref b1, .ref b2, .ref b3, .ref b4, .ref b5, .ref mq])), (b1, .inl (cy 0, 8, .inl (fun _ => 0))), (b2, .inl (cy 0, 8, .inl g2)), (b3, .inl (cy 0, 8, .inl g3)), (b4, .inl (cy 0, 8, .inl g4)), (b5, .inl (cy 1, 8, .inl g5)), (mp, .inr (4, [.int 0, .ref ed, .int 0])), (mq, .inr (4, [.int 0, .ref ed, .int 0])), (od, .inl (cy 4, 1, .inr (.inr (.inr (.inl (fun _ => 0))))))]) (w1 := []) [0, 10, 20] [1, 2, 3, 4, 5, 6, 7, 8, 9, 11, 12, 13, 14, 15, 16, 17, 18, 19, 21] rfl rfl (by decide) (by decide) hP hD hk1 hFc hB ht
      have hP : va_P D vwCl [(pe, .inr (9, [.int 0, .ref a1, .ref a2, .ref a3, .ref a4, .ref a5, .ref a6, .ref a7, .ref a8, .ref a9])), (a1, .inl (cy 0, 20, .inl (fun _ => 0))), (a2, .inl (cy 0, 20, .inl (fun _ => 0))), (ne, .inr (6, [.ref n1, .ref n2, .ref n3, .ref n4, .ref n5])), (n1, .inl (cy 0, 8, .inl (fun _ => 0))), (n2, .inl (cy 0, 8, .inl f2)), (n3, .inl (cy 0, 8, .inl f3)), (n4, .inl (cy 0, 8, .inl f4)), (n5, .inl (cy 1, 8, .inl f5)), (ro, .inl (cy 0, 20, .inl (fun _ => 0))), (m0, .inr (20, [.int 0, .ref mp, .int 0, .ref b1, .ref b2, .ref b3, .ref b4, .ref b5, .ref mq])), (b1, .inl (cy 0, 8, .inl (fun _ => 0))), (b2, .inl (cy 0, 8, .inl g2)), (b3, .inl (cy 0, 8, .inl g3)), (b4, .inl (cy 0, 8, .inl g4)), (b5, .inl (cy 1, 8, .inl g5)), (mp, .inr (4, [.int 0, .ref ed, .int 0])), (mq, .inr (4, [.int 0, .ref ed, .int 0])), (od, .inl (cy 4, 1, .inr (.inr (.inr (.inl (fun _ => 0))))))] H := hP
      have hD : va_D A [(pe, .inr (9, [.int 0, .ref a1, .ref a2, .ref a3, .ref a4, .ref a5, .ref a6, .ref a7, .ref a8, .ref a9])), (a1, .inl (cy 0, 20, .inl (fun _ => 0))), (a2, .inl (cy 0, 20, .inl (fun _ => 0))), (ne, .inr (6, [.ref n1, .ref n2, .ref n3, .ref n4, .ref n5])), (n1, .inl (cy 0, 8, .inl (fun _ => 0))), (n2, .inl (cy 0, 8, .inl f2)), (n3, .inl (cy 0, 8, .inl f3)), (n4, .inl (cy 0, 8, .inl f4)), (n5, .inl (cy 1, 8, .inl f5)), (ro, .inl (cy 0, 20, .inl (fun _ => 0))), (m0, .inr (20, [.int 0, .ref mp, .int 0, .ref b1, .ref b2, .ref b3, .ref b4, .ref b5, .ref mq])), (b1, .inl (cy 0, 8, .inl (fun _ => 0))), (b2, .inl (cy 0, 8, .inl g2)), (b3, .inl (cy 0, 8, .inl g3)), (b4, .inl (cy 0, 8, .inl g4)), (b5, .inl (cy 1, 8, .inl g5)), (mp, .inr (4, [.int 0, .ref ed, .int 0])), (mq, .inr (4, [.int 0, .ref ed, .int 0])), (od, .inl (cy 4, 1, .inr (.inr (.inr (.inl (fun _ => 0))))))] := hD
      refine W.widen (k := 30) (n := 886) (Nat.le_of_ble_eq_true rfl) (Nat.le_of_ble_eq_true rfl) ?_
      refine lv_istore (lv' := [(6, .int 1), (5, .int 0), (4, .ref od), (3, .ref oa), (2, .ref m0), (1, .ref h), (0, .ref b)]) hx hb dL_law_1599 hl (by decide) rfl (fun ls hl => ?_)
      refine lv_aload_n hx hb dL_law_1601 rfl (lv_at hl 4 rfl) ?_
      refine lv_aload_n hx hb dL_law_1602 rfl (lv_at hl 6 rfl) ?_
      refine lv_iload hx hb dL_law_1603 (lv_at hl 1 rfl) ?_
      refine lv_iconst (v := 1) hx hb dL_law_1605 (by decide) ?_
      refine lv_iadd hx hb dL_law_1606 ?_
      refine lv_topi (fun y9 ey9 => ?_)
      obtain rfl : y9 = 1 := by rw [ey9] <;> decide
      refine va_sld hx hb hX hbl hbA hS (zx_bn (by decide)) dL_law_1607 ?_
      refine lv_aload_n hx hb dL_law_1608 rfl (lv_at hl 6 rfl) ?_
      refine lv_iload hx hb dL_law_1609 (lv_at hl 1 rfl) ?_
      refine lv_iconst (v := 2) hx hb dL_law_1611 (by decide) ?_
      refine lv_iadd hx hb dL_law_1612 ?_
      refine lv_topi (fun y9 ey9 => ?_)
      obtain rfl : y9 = 2 := by rw [ey9] <;> decide
      refine va_sld hx hb hX hbl hbA hS (zx_bn (by decide)) dL_law_1613 ?_
      refine lv_aload_n hx hb dL_law_1614 rfl (lv_at hl 6 rfl) ?_
      refine lv_iload hx hb dL_law_1615 (lv_at hl 1 rfl) ?_
      refine lv_iconst (v := 3) hx hb dL_law_1617 (by decide) ?_
      refine lv_iadd hx hb dL_law_1618 ?_
      refine lv_topi (fun y9 ey9 => ?_)
      obtain rfl : y9 = 3 := by rw [ey9] <;> decide
      refine va_sld hx hb hX hbl hbA hS (zx_bn (by decide)) dL_law_1619 ?_
      refine lv_aload_n hx hb dL_law_1620 rfl (lv_at hl 6 rfl) ?_
      refine lv_iload hx hb dL_law_1621 (lv_at hl 1 rfl) ?_
      refine lv_iconst (v := 4) hx hb dL_law_1623 (by decide) ?_
      refine lv_iadd hx hb dL_law_1624 ?_
      refine lv_topi (fun y9 ey9 => ?_)
      obtain rfl : y9 = 4 := by rw [ey9] <;> decide
      refine va_sld hx hb hX hbl hbA hS (zx_bn (by decide)) dL_law_1625 ?_
      refine lv_aload_n hx hb dL_law_1626 rfl (lv_at hl 6 rfl) ?_
      refine lv_iload hx hb dL_law_1627 (lv_at hl 1 rfl) ?_
      refine lv_iconst (v := 5) hx hb dL_law_1629 (by decide) ?_
      refine lv_iadd hx hb dL_law_1630 ?_
      refine lv_topi (fun y9 ey9 => ?_)
      obtain rfl : y9 = 5 := by rw [ey9] <;> decide
      refine va_sld hx hb hX hbl hbA hS (zx_bn (by decide)) dL_law_1631 ?_
      refine lv_if_eq (tgt := 1639) hx hb dL_law_1632 (by decide) (fun c_646 => ?_) (fun c_646 => ?_)
      ·
        refine lv_iconst (v := 0) hx hb dL_law_1639 (by decide) ?_
        have hPc := hP.sub (ws' := [(m0, .inr (20, [.int 0, .ref mp, .int 0, .ref b1, .ref b2, .ref b3, .ref b4, .ref b5, .ref mq])), (mp, .inr (4, [.int 0, .ref ed, .int 0])), (mq, .inr (4, [.int 0, .ref ed, .int 0]))]) [10, 16, 17] rfl
        have hDc := hD.sub (ws' := [(m0, .inr (20, [.int 0, .ref mp, .int 0, .ref b1, .ref b2, .ref b3, .ref b4, .ref b5, .ref mq])), (mp, .inr (4, [.int 0, .ref ed, .int 0])), (mq, .inr (4, [.int 0, .ref ed, .int 0]))]) [10, 16, 17] (by decide) rfl
        have hFc := va_free (wc := [(m0, .inr (20, [.int 0, .ref mp, .int 0, .ref b1, .ref b2, .ref b3, .ref b4, .ref b5, .ref mq])), (mp, .inr (4, [.int 0, .ref ed, .int 0])), (mq, .inr (4, [.int 0, .ref ed, .int 0]))]) hD hS hA [10, 16, 17] rfl
        refine va_calli (va_runV (As := [.int (xs (1 : Int32).toNatClampNeg), .int (xs (2 : Int32).toNatClampNeg), .int (xs (3 : Int32).toNatClampNeg), .int (xs (4 : Int32).toNatClampNeg), .int 0]) (rest := []) ⟨hx, hb, hml, hown, hts⟩ (c_X15_report l hst D cy ed H.size m0 mp mq b1 b2 b3 b4 b5 0 0 0 ed 0 ed (xs (1 : Int32).toNatClampNeg) (xs (2 : Int32).toNatClampNeg) (xs (3 : Int32).toNatClampNeg) (xs (4 : Int32).toNatClampNeg) 0) (cwV 5 hts (zx_GV mm_2154 mm_2155 mm_2156 mm_78 mm_2157) rfl rfl rfl (by decide +kernel) ⟨(Nat.le_of_ble_eq_true rfl), (Nat.le_of_ble_eq_true rfl)⟩) ⟨zx_blind, va_recv hK hPc (ci := 20) (q0 := 0) rfl rfl, zx_give hPc hK hDc hS hFc hZ hN⟩ rfl rfl hl.1 rfl (lv_room (Nat.le_of_ble_eq_true rfl)) dL_law_1640 ⟨(Nat.le_of_ble_eq_true rfl), (Nat.le_of_ble_eq_true rfl)⟩) hS (fun q _ h => hFc q h) hFc (fun r9 u t H1 locs ht hvm hw hB hz1 hk1 hS => ?_)
        obtain ⟨r_647, rfl⟩ : ∃ z9, z9 = r9 := ⟨_, rfl⟩
        have h_648 := hw
        obtain ⟨hP, hD⟩ := zx_join (wr := [(pe, .inr (9, [.int 0, .ref a1, .ref a2, .ref a3, .ref a4, .ref a5, .ref a6, .ref a7, .ref a8, .ref a9])), (a1, .inl (cy 0, 20, .inl (fun _ => 0))), (a2, .inl (cy 0, 20, .inl (fun _ => 0))), (ne, .inr (6, [.ref n1, .ref n2, .ref n3, .ref n4, .ref n5])), (n1, .inl (cy 0, 8, .inl (fun _ => 0))), (n2, .inl (cy 0, 8, .inl f2)), (n3, .inl (cy 0, 8, .inl f3)), (n4, .inl (cy 0, 8, .inl f4)), (n5, .inl (cy 1, 8, .inl f5)), (ro, .inl (cy 0, 20, .inl (fun _ => 0))), (b1, .inl (cy 0, 8, .inl (fun _ => 0))), (b2, .inl (cy 0, 8, .inl g2)), (b3, .inl (cy 0, 8, .inl g3)), (b4, .inl (cy 0, 8, .inl g4)), (b5, .inl (cy 1, 8, .inl g5)), (od, .inl (cy 4, 1, .inr (.inr (.inr (.inl (fun _ => 0))))))]) (w1 := [(m0, .inr (20, [.int 1, .ref mp, .int 0, .ref b1, .ref b2, .ref b3, .ref b4, .ref b5, .ref mq]))]) [10, 16, 17] [0, 1, 2, 3, 4, 5, 6, 7, 8, 9, 11, 12, 13, 14, 15, 18] rfl rfl (by decide) (by decide) hP hD hk1 hFc hB ht
        generalize H1 = H at hP hS ⊢
        have hP : va_P D vwCl [(pe, .inr (9, [.int 0, .ref a1, .ref a2, .ref a3, .ref a4, .ref a5, .ref a6, .ref a7, .ref a8, .ref a9])), (a1, .inl (cy 0, 20, .inl (fun _ => 0))), (a2, .inl (cy 0, 20, .inl (fun _ => 0))), (ne, .inr (6, [.ref n1, .ref n2, .ref n3, .ref n4, .ref n5])), (n1, .inl (cy 0, 8, .inl (fun _ => 0))), (n2, .inl (cy 0, 8, .inl f2)), (n3, .inl (cy 0, 8, .inl f3)), (n4, .inl (cy 0, 8, .inl f4)), (n5, .inl (cy 1, 8, .inl f5)), (ro, .inl (cy 0, 20, .inl (fun _ => 0))), (b1, .inl (cy 0, 8, .inl (fun _ => 0))), (b2, .inl (cy 0, 8, .inl g2)), (b3, .inl (cy 0, 8, .inl g3)), (b4, .inl (cy 0, 8, .inl g4)), (b5, .inl (cy 1, 8, .inl g5)), (od, .inl (cy 4, 1, .inr (.inr (.inr (.inl (fun _ => 0)))))), (m0, .inr (20, [.int 1, .ref mp, .int 0, .ref b1, .ref b2, .ref b3, .ref b4, .ref b5, .ref mq]))] H := hP
        have hD : va_D A [(pe, .inr (9, [.int 0, .ref a1, .ref a2, .ref a3, .ref a4, .ref a5, .ref a6, .ref a7, .ref a8, .ref a9])), (a1, .inl (cy 0, 20, .inl (fun _ => 0))), (a2, .inl (cy 0, 20, .inl (fun _ => 0))), (ne, .inr (6, [.ref n1, .ref n2, .ref n3, .ref n4, .ref n5])), (n1, .inl (cy 0, 8, .inl (fun _ => 0))), (n2, .inl (cy 0, 8, .inl f2)), (n3, .inl (cy 0, 8, .inl f3)), (n4, .inl (cy 0, 8, .inl f4)), (n5, .inl (cy 1, 8, .inl f5)), (ro, .inl (cy 0, 20, .inl (fun _ => 0))), (b1, .inl (cy 0, 8, .inl (fun _ => 0))), (b2, .inl (cy 0, 8, .inl g2)), (b3, .inl (cy 0, 8, .inl g3)), (b4, .inl (cy 0, 8, .inl g4)), (b5, .inl (cy 1, 8, .inl g5)), (od, .inl (cy 4, 1, .inr (.inr (.inr (.inl (fun _ => 0)))))), (m0, .inr (20, [.int 1, .ref mp, .int 0, .ref b1, .ref b2, .ref b3, .ref b4, .ref b5, .ref mq]))] := hD
        refine W.widen (k := 30) (n := 886) (Nat.le_of_ble_eq_true rfl) (Nat.le_of_ble_eq_true rfl) ?_
        refine lv_istore (lv' := [(7, .int r_647), (6, .int 1), (5, .int 0), (4, .ref od), (3, .ref oa), (2, .ref m0), (1, .ref h), (0, .ref b)]) hx hb dL_law_1643 hl (by decide) rfl (fun ls hl => ?_)
        refine lv_aload_n hx hb dL_law_1645 rfl (lv_at hl 5 rfl) ?_
        have hPc := hP.sub (ws' := [(m0, .inr (20, [.int 1, .ref mp, .int 0, .ref b1, .ref b2, .ref b3, .ref b4, .ref b5, .ref mq]))]) [16] rfl
        have hDc := hD.sub (ws' := [(m0, .inr (20, [.int 1, .ref mp, .int 0, .ref b1, .ref b2, .ref b3, .ref b4, .ref b5, .ref mq]))]) [16] (by decide) rfl
        have hFc := va_free (wc := [(m0, .inr (20, [.int 1, .ref mp, .int 0, .ref b1, .ref b2, .ref b3, .ref b4, .ref b5, .ref mq]))]) hD hS hA [16] rfl
        refine va_calli (va_runV (As := []) (rest := []) ⟨hx, hb, hml, hown, hts⟩ (c_X15_thrown l hst D cy ed H.size m0 mp mq b1 b2 b3 b4 b5 1 0) (cwV 0 hts (zx_GV mm_1599 mm_1600 mm_1601 mm_78 mm_1602) rfl rfl rfl (by decide +kernel) ⟨(Nat.le_of_ble_eq_true rfl), (Nat.le_of_ble_eq_true rfl)⟩) ⟨zx_blind, va_recv hK hPc (ci := 20) (q0 := 0) rfl rfl, zx_give hPc hK hDc hS hFc hZ hN⟩ rfl rfl hl.1 rfl (lv_room (Nat.le_of_ble_eq_true rfl)) dL_law_1646 ⟨(Nat.le_of_ble_eq_true rfl), (Nat.le_of_ble_eq_true rfl)⟩) hS (fun q _ h => hFc q h) hFc (fun r9 u t H1 locs ht hvm hw hB hz1 hk1 hS => ?_)
        obtain rfl : r9 = 1 := hw
        obtain ⟨hP, hD⟩ := zx_join (wr := [(pe, .inr (9, [.int 0, .ref a1, .ref a2, .ref a3, .ref a4, .ref a5, .ref a6, .ref a7, .ref a8, .ref a9])), (a1, .inl (cy 0, 20, .inl (fun _ => 0))), (a2, .inl (cy 0, 20, .inl (fun _ => 0))), (ne, .inr (6, [.ref n1, .ref n2, .ref n3, .ref n4, .ref n5])), (n1, .inl (cy 0, 8, .inl (fun _ => 0))), (n2, .inl (cy 0, 8, .inl f2)), (n3, .inl (cy 0, 8, .inl f3)), (n4, .inl (cy 0, 8, .inl f4)), (n5, .inl (cy 1, 8, .inl f5)), (ro, .inl (cy 0, 20, .inl (fun _ => 0))), (b1, .inl (cy 0, 8, .inl (fun _ => 0))), (b2, .inl (cy 0, 8, .inl g2)), (b3, .inl (cy 0, 8, .inl g3)), (b4, .inl (cy 0, 8, .inl g4)), (b5, .inl (cy 1, 8, .inl g5)), (od, .inl (cy 4, 1, .inr (.inr (.inr (.inl (fun _ => 0))))))]) (w1 := [(m0, .inr (20, [.int 1, .ref mp, .int 0, .ref b1, .ref b2, .ref b3, .ref b4, .ref b5, .ref mq]))]) [16] [0, 1, 2, 3, 4, 5, 6, 7, 8, 9, 10, 11, 12, 13, 14, 15] rfl rfl (by decide) (by decide) hP hD hk1 hFc hB ht
        generalize H1 = H at hP hS ⊢
        have hP : va_P D vwCl [(pe, .inr (9, [.int 0, .ref a1, .ref a2, .ref a3, .ref a4, .ref a5, .ref a6, .ref a7, .ref a8, .ref a9])), (a1, .inl (cy 0, 20, .inl (fun _ => 0))), (a2, .inl (cy 0, 20, .inl (fun _ => 0))), (ne, .inr (6, [.ref n1, .ref n2, .ref n3, .ref n4, .ref n5])), (n1, .inl (cy 0, 8, .inl (fun _ => 0))), (n2, .inl (cy 0, 8, .inl f2)), (n3, .inl (cy 0, 8, .inl f3)), (n4, .inl (cy 0, 8, .inl f4)), (n5, .inl (cy 1, 8, .inl f5)), (ro, .inl (cy 0, 20, .inl (fun _ => 0))), (b1, .inl (cy 0, 8, .inl (fun _ => 0))), (b2, .inl (cy 0, 8, .inl g2)), (b3, .inl (cy 0, 8, .inl g3)), (b4, .inl (cy 0, 8, .inl g4)), (b5, .inl (cy 1, 8, .inl g5)), (od, .inl (cy 4, 1, .inr (.inr (.inr (.inl (fun _ => 0)))))), (m0, .inr (20, [.int 1, .ref mp, .int 0, .ref b1, .ref b2, .ref b3, .ref b4, .ref b5, .ref mq]))] H := hP
        have hD : va_D A [(pe, .inr (9, [.int 0, .ref a1, .ref a2, .ref a3, .ref a4, .ref a5, .ref a6, .ref a7, .ref a8, .ref a9])), (a1, .inl (cy 0, 20, .inl (fun _ => 0))), (a2, .inl (cy 0, 20, .inl (fun _ => 0))), (ne, .inr (6, [.ref n1, .ref n2, .ref n3, .ref n4, .ref n5])), (n1, .inl (cy 0, 8, .inl (fun _ => 0))), (n2, .inl (cy 0, 8, .inl f2)), (n3, .inl (cy 0, 8, .inl f3)), (n4, .inl (cy 0, 8, .inl f4)), (n5, .inl (cy 1, 8, .inl f5)), (ro, .inl (cy 0, 20, .inl (fun _ => 0))), (b1, .inl (cy 0, 8, .inl (fun _ => 0))), (b2, .inl (cy 0, 8, .inl g2)), (b3, .inl (cy 0, 8, .inl g3)), (b4, .inl (cy 0, 8, .inl g4)), (b5, .inl (cy 1, 8, .inl g5)), (od, .inl (cy 4, 1, .inr (.inr (.inr (.inl (fun _ => 0)))))), (m0, .inr (20, [.int 1, .ref mp, .int 0, .ref b1, .ref b2, .ref b3, .ref b4, .ref b5, .ref mq]))] := hD
        refine W.widen (k := 30) (n := 886) (Nat.le_of_ble_eq_true rfl) (Nat.le_of_ble_eq_true rfl) ?_
        refine lv_iload hx hb dL_law_1649 (lv_at hl 1 rfl) ?_
        refine lv_icmp_eq (tgt := 1656) hx hb dL_law_1651 (by decide) (fun _ => ?_) (fun c_649 => absurd (by decide) c_649)
        refine lv_iload hx hb dL_law_1656 (lv_at hl 1 rfl) ?_
        refine lv_if_ne (tgt := 1673) hx hb dL_law_1658 (by decide) (fun _ => ?_) (fun c_650 => absurd c_650 (by decide))
        refine lv_goto (tgt := 4257) hx hb dL_law_1673 (by decide) ?_
        refine W.widen (k := 60) (n := 1200) (Nat.le_of_ble_eq_true rfl) (Nat.le_of_ble_eq_true rfl) ?_
        exact hend _ _ _ hS (lv_sub hl [7, 2] rfl)
      ·
        exact absurd c_645 c_646
  ·
    refine lv_iconst (v := 1) hx hb dL_law_1590 (by decide) ?_
    refine lv_goto (tgt := 1595) hx hb dL_law_1591 (by decide) ?_
    refine lv_aload_n hx hb dL_law_1595 rfl (lv_at hl 2 rfl) ?_
    have hPc := hP.sub (ws' := [(h, .inr (13, [.ref pe, .ref ne, .ref pa, .ref ro, .int 0])), (pa, .inr (4, [.int 0, .ref ed, .int 0])), (oa, .inl (cy 3, 1, .inr (.inl (fun _ => 0))))]) [0, 10, 20] rfl
    have hDc := hD.sub (ws' := [(h, .inr (13, [.ref pe, .ref ne, .ref pa, .ref ro, .int 0])), (pa, .inr (4, [.int 0, .ref ed, .int 0])), (oa, .inl (cy 3, 1, .inr (.inl (fun _ => 0))))]) [0, 10, 20] (by decide) rfl
    have hFc := va_free (wc := [(h, .inr (13, [.ref pe, .ref ne, .ref pa, .ref ro, .int 0])), (pa, .inr (4, [.int 0, .ref ed, .int 0])), (oa, .inl (cy 3, 1, .inr (.inl (fun _ => 0))))]) hD hS hA [0, 10, 20] rfl
    refine vx_calli (vx_runSX (As := [.ref h, .int (xs (1 : Int32).toNatClampNeg), .int (xs (2 : Int32).toNatClampNeg), .int (xs (3 : Int32).toNatClampNeg), .int (xs (4 : Int32).toNatClampNeg), .int 1, .ref oa]) (rest := []) ⟨hx, hb, hml, hown, hts⟩ (c_L_report l hst D cy ed H.size h pe ne pa ro 0 0 ed oa (fun _ => 0) (xs (1 : Int32).toNatClampNeg) (xs (2 : Int32).toNatClampNeg) (xs (3 : Int32).toNatClampNeg) (xs (4 : Int32).toNatClampNeg) 1) (vx_cwSW 7 hts (zx_GS mm_1034 mm_1035 mm_70 mm_1036) rfl rfl rfl (by decide +kernel) ⟨(Nat.le_of_ble_eq_true rfl), (Nat.le_of_ble_eq_true rfl)⟩) ⟨zx_blind, zx_give hPc hK hDc hS hFc hZ hN⟩ rfl rfl hl.1 rfl (lv_room (Nat.le_of_ble_eq_true rfl)) dL_law_1596 ⟨(Nat.le_of_ble_eq_true rfl), (Nat.le_of_ble_eq_true rfl)⟩) hS (fun q _ h => hFc q h) hFc (fun q _ h => hFc q h) (fun E9 ce9 q9 _ t H locs ht hvm _ hBX hz1 hk1 hS hce hcv hcl => ?_) (fun r9 u t H locs ht hvm hw hB hz1 hk1 hS => ?_)
    · exact hBX.elim
    ·
      obtain rfl : r9 = 1 := hw
      obtain ⟨hP, hD⟩ := zx_join (wr := [(pe, .inr (9, [.int 0, .ref a1, .ref a2, .ref a3, .ref a4, .ref a5, .ref a6, .ref a7, .ref a8, .ref a9])), (a1, .inl (cy 0, 20, .inl (fun _ => 0))), (a2, .inl (cy 0, 20, .inl (fun _ => 0))), (ne, .inr (6, [.ref n1, .ref n2, .ref n3, .ref n4, .ref n5])), (n1, .inl (cy 0, 8, .inl (fun _ => 0))), (n2, .inl (cy 0, 8, .inl f2)), (n3, .inl (cy 0, 8, .inl f3)), (n4, .inl (cy 0, 8, .inl f4)), (n5, .inl (cy 1, 8, .inl f5)), (ro, .inl (cy 0, 20, .inl (fun _ => 0))), (m0, .inr (20, [.int 0, .ref mp, .int 0, .ref b1, .ref b2, .ref b3, .ref b4, .ref b5, .ref mq])), (b1, .inl (cy 0, 8, .inl (fun _ => 0))), (b2, .inl (cy 0, 8, .inl g2)), (b3, .inl (cy 0, 8, .inl g3)), (b4, .inl (cy 0, 8, .inl g4)), (b5, .inl (cy 1, 8, .inl g5)), (mp, .inr (4, [.int 0, .ref ed, .int 0])), (mq, .inr (4, [.int 0, .ref ed, .int 0])), (od, .inl (cy 4, 1, .inr (.inr (.inr (.inl (fun _ => 0))))))]) (w1 := []) [0, 10, 20] [1, 2, 3, 4, 5, 6, 7, 8, 9, 11, 12, 13, 14, 15, 16, 17, 18, 19, 21] rfl rfl (by decide) (by decide) hP hD hk1 hFc hB ht
      have hP : va_P D vwCl [(pe, .inr (9, [.int 0, .ref a1, .ref a2, .ref a3, .ref a4, .ref a5, .ref a6, .ref a7, .ref a8, .ref a9])), (a1, .inl (cy 0, 20, .inl (fun _ => 0))), (a2, .inl (cy 0, 20, .inl (fun _ => 0))), (ne, .inr (6, [.ref n1, .ref n2, .ref n3, .ref n4, .ref n5])), (n1, .inl (cy 0, 8, .inl (fun _ => 0))), (n2, .inl (cy 0, 8, .inl f2)), (n3, .inl (cy 0, 8, .inl f3)), (n4, .inl (cy 0, 8, .inl f4)), (n5, .inl (cy 1, 8, .inl f5)), (ro, .inl (cy 0, 20, .inl (fun _ => 0))), (m0, .inr (20, [.int 0, .ref mp, .int 0, .ref b1, .ref b2, .ref b3, .ref b4, .ref b5, .ref mq])), (b1, .inl (cy 0, 8, .inl (fun _ => 0))), (b2, .inl (cy 0, 8, .inl g2)), (b3, .inl (cy 0, 8, .inl g3)), (b4, .inl (cy 0, 8, .inl g4)), (b5, .inl (cy 1, 8, .inl g5)), (mp, .inr (4, [.int 0, .ref ed, .int 0])), (mq, .inr (4, [.int 0, .ref ed, .int 0])), (od, .inl (cy 4, 1, .inr (.inr (.inr (.inl (fun _ => 0))))))] H := hP
      have hD : va_D A [(pe, .inr (9, [.int 0, .ref a1, .ref a2, .ref a3, .ref a4, .ref a5, .ref a6, .ref a7, .ref a8, .ref a9])), (a1, .inl (cy 0, 20, .inl (fun _ => 0))), (a2, .inl (cy 0, 20, .inl (fun _ => 0))), (ne, .inr (6, [.ref n1, .ref n2, .ref n3, .ref n4, .ref n5])), (n1, .inl (cy 0, 8, .inl (fun _ => 0))), (n2, .inl (cy 0, 8, .inl f2)), (n3, .inl (cy 0, 8, .inl f3)), (n4, .inl (cy 0, 8, .inl f4)), (n5, .inl (cy 1, 8, .inl f5)), (ro, .inl (cy 0, 20, .inl (fun _ => 0))), (m0, .inr (20, [.int 0, .ref mp, .int 0, .ref b1, .ref b2, .ref b3, .ref b4, .ref b5, .ref mq])), (b1, .inl (cy 0, 8, .inl (fun _ => 0))), (b2, .inl (cy 0, 8, .inl g2)), (b3, .inl (cy 0, 8, .inl g3)), (b4, .inl (cy 0, 8, .inl g4)), (b5, .inl (cy 1, 8, .inl g5)), (mp, .inr (4, [.int 0, .ref ed, .int 0])), (mq, .inr (4, [.int 0, .ref ed, .int 0])), (od, .inl (cy 4, 1, .inr (.inr (.inr (.inl (fun _ => 0))))))] := hD
      refine W.widen (k := 30) (n := 886) (Nat.le_of_ble_eq_true rfl) (Nat.le_of_ble_eq_true rfl) ?_
      refine lv_istore (lv' := [(6, .int 1), (5, .int 0), (4, .ref od), (3, .ref oa), (2, .ref m0), (1, .ref h), (0, .ref b)]) hx hb dL_law_1599 hl (by decide) rfl (fun ls hl => ?_)
      refine lv_aload_n hx hb dL_law_1601 rfl (lv_at hl 4 rfl) ?_
      refine lv_aload_n hx hb dL_law_1602 rfl (lv_at hl 6 rfl) ?_
      refine lv_iload hx hb dL_law_1603 (lv_at hl 1 rfl) ?_
      refine lv_iconst (v := 1) hx hb dL_law_1605 (by decide) ?_
      refine lv_iadd hx hb dL_law_1606 ?_
      refine lv_topi (fun y9 ey9 => ?_)
      obtain rfl : y9 = 1 := by rw [ey9] <;> decide
      refine va_sld hx hb hX hbl hbA hS (zx_bn (by decide)) dL_law_1607 ?_
      refine lv_aload_n hx hb dL_law_1608 rfl (lv_at hl 6 rfl) ?_
      refine lv_iload hx hb dL_law_1609 (lv_at hl 1 rfl) ?_
      refine lv_iconst (v := 2) hx hb dL_law_1611 (by decide) ?_
      refine lv_iadd hx hb dL_law_1612 ?_
      refine lv_topi (fun y9 ey9 => ?_)
      obtain rfl : y9 = 2 := by rw [ey9] <;> decide
      refine va_sld hx hb hX hbl hbA hS (zx_bn (by decide)) dL_law_1613 ?_
      refine lv_aload_n hx hb dL_law_1614 rfl (lv_at hl 6 rfl) ?_
      refine lv_iload hx hb dL_law_1615 (lv_at hl 1 rfl) ?_
      refine lv_iconst (v := 3) hx hb dL_law_1617 (by decide) ?_
      refine lv_iadd hx hb dL_law_1618 ?_
      refine lv_topi (fun y9 ey9 => ?_)
      obtain rfl : y9 = 3 := by rw [ey9] <;> decide
      refine va_sld hx hb hX hbl hbA hS (zx_bn (by decide)) dL_law_1619 ?_
      refine lv_aload_n hx hb dL_law_1620 rfl (lv_at hl 6 rfl) ?_
      refine lv_iload hx hb dL_law_1621 (lv_at hl 1 rfl) ?_
      refine lv_iconst (v := 4) hx hb dL_law_1623 (by decide) ?_
      refine lv_iadd hx hb dL_law_1624 ?_
      refine lv_topi (fun y9 ey9 => ?_)
      obtain rfl : y9 = 4 := by rw [ey9] <;> decide
      refine va_sld hx hb hX hbl hbA hS (zx_bn (by decide)) dL_law_1625 ?_
      refine lv_aload_n hx hb dL_law_1626 rfl (lv_at hl 6 rfl) ?_
      refine lv_iload hx hb dL_law_1627 (lv_at hl 1 rfl) ?_
      refine lv_iconst (v := 5) hx hb dL_law_1629 (by decide) ?_
      refine lv_iadd hx hb dL_law_1630 ?_
      refine lv_topi (fun y9 ey9 => ?_)
      obtain rfl : y9 = 5 := by rw [ey9] <;> decide
      refine va_sld hx hb hX hbl hbA hS (zx_bn (by decide)) dL_law_1631 ?_
      refine lv_if_eq (tgt := 1639) hx hb dL_law_1632 (by decide) (fun c_651 => ?_) (fun c_651 => ?_)
      ·
        exact absurd c_651 c_645
      ·
        refine lv_iconst (v := 1) hx hb dL_law_1635 (by decide) ?_
        refine lv_goto (tgt := 1640) hx hb dL_law_1636 (by decide) ?_
        have hPc := hP.sub (ws' := [(m0, .inr (20, [.int 0, .ref mp, .int 0, .ref b1, .ref b2, .ref b3, .ref b4, .ref b5, .ref mq])), (mp, .inr (4, [.int 0, .ref ed, .int 0])), (mq, .inr (4, [.int 0, .ref ed, .int 0]))]) [10, 16, 17] rfl
        have hDc := hD.sub (ws' := [(m0, .inr (20, [.int 0, .ref mp, .int 0, .ref b1, .ref b2, .ref b3, .ref b4, .ref b5, .ref mq])), (mp, .inr (4, [.int 0, .ref ed, .int 0])), (mq, .inr (4, [.int 0, .ref ed, .int 0]))]) [10, 16, 17] (by decide) rfl
        have hFc := va_free (wc := [(m0, .inr (20, [.int 0, .ref mp, .int 0, .ref b1, .ref b2, .ref b3, .ref b4, .ref b5, .ref mq])), (mp, .inr (4, [.int 0, .ref ed, .int 0])), (mq, .inr (4, [.int 0, .ref ed, .int 0]))]) hD hS hA [10, 16, 17] rfl
        refine va_calli (va_runV (As := [.int (xs (1 : Int32).toNatClampNeg), .int (xs (2 : Int32).toNatClampNeg), .int (xs (3 : Int32).toNatClampNeg), .int (xs (4 : Int32).toNatClampNeg), .int 1]) (rest := []) ⟨hx, hb, hml, hown, hts⟩ (c_X15_report l hst D cy ed H.size m0 mp mq b1 b2 b3 b4 b5 0 0 0 ed 0 ed (xs (1 : Int32).toNatClampNeg) (xs (2 : Int32).toNatClampNeg) (xs (3 : Int32).toNatClampNeg) (xs (4 : Int32).toNatClampNeg) 1) (cwV 5 hts (zx_GV mm_2154 mm_2155 mm_2156 mm_78 mm_2157) rfl rfl rfl (by decide +kernel) ⟨(Nat.le_of_ble_eq_true rfl), (Nat.le_of_ble_eq_true rfl)⟩) ⟨zx_blind, va_recv hK hPc (ci := 20) (q0 := 0) rfl rfl, zx_give hPc hK hDc hS hFc hZ hN⟩ rfl rfl hl.1 rfl (lv_room (Nat.le_of_ble_eq_true rfl)) dL_law_1640 ⟨(Nat.le_of_ble_eq_true rfl), (Nat.le_of_ble_eq_true rfl)⟩) hS (fun q _ h => hFc q h) hFc (fun r9 u t H1 locs ht hvm hw hB hz1 hk1 hS => ?_)
        obtain ⟨r_652, rfl⟩ : ∃ z9, z9 = r9 := ⟨_, rfl⟩
        have h_653 := hw
        obtain ⟨hP, hD⟩ := zx_join (wr := [(pe, .inr (9, [.int 0, .ref a1, .ref a2, .ref a3, .ref a4, .ref a5, .ref a6, .ref a7, .ref a8, .ref a9])), (a1, .inl (cy 0, 20, .inl (fun _ => 0))), (a2, .inl (cy 0, 20, .inl (fun _ => 0))), (ne, .inr (6, [.ref n1, .ref n2, .ref n3, .ref n4, .ref n5])), (n1, .inl (cy 0, 8, .inl (fun _ => 0))), (n2, .inl (cy 0, 8, .inl f2)), (n3, .inl (cy 0, 8, .inl f3)), (n4, .inl (cy 0, 8, .inl f4)), (n5, .inl (cy 1, 8, .inl f5)), (ro, .inl (cy 0, 20, .inl (fun _ => 0))), (b1, .inl (cy 0, 8, .inl (fun _ => 0))), (b2, .inl (cy 0, 8, .inl g2)), (b3, .inl (cy 0, 8, .inl g3)), (b4, .inl (cy 0, 8, .inl g4)), (b5, .inl (cy 1, 8, .inl g5)), (od, .inl (cy 4, 1, .inr (.inr (.inr (.inl (fun _ => 0))))))]) (w1 := [(m0, .inr (20, [.int 1, .ref mp, .int 0, .ref b1, .ref b2, .ref b3, .ref b4, .ref b5, .ref mq]))]) [10, 16, 17] [0, 1, 2, 3, 4, 5, 6, 7, 8, 9, 11, 12, 13, 14, 15, 18] rfl rfl (by decide) (by decide) hP hD hk1 hFc hB ht
        generalize H1 = H at hP hS ⊢
        have hP : va_P D vwCl [(pe, .inr (9, [.int 0, .ref a1, .ref a2, .ref a3, .ref a4, .ref a5, .ref a6, .ref a7, .ref a8, .ref a9])), (a1, .inl (cy 0, 20, .inl (fun _ => 0))), (a2, .inl (cy 0, 20, .inl (fun _ => 0))), (ne, .inr (6, [.ref n1, .ref n2, .ref n3, .ref n4, .ref n5])), (n1, .inl (cy 0, 8, .inl (fun _ => 0))), (n2, .inl (cy 0, 8, .inl f2)), (n3, .inl (cy 0, 8, .inl f3)), (n4, .inl (cy 0, 8, .inl f4)), (n5, .inl (cy 1, 8, .inl f5)), (ro, .inl (cy 0, 20, .inl (fun _ => 0))), (b1, .inl (cy 0, 8, .inl (fun _ => 0))), (b2, .inl (cy 0, 8, .inl g2)), (b3, .inl (cy 0, 8, .inl g3)), (b4, .inl (cy 0, 8, .inl g4)), (b5, .inl (cy 1, 8, .inl g5)), (od, .inl (cy 4, 1, .inr (.inr (.inr (.inl (fun _ => 0)))))), (m0, .inr (20, [.int 1, .ref mp, .int 0, .ref b1, .ref b2, .ref b3, .ref b4, .ref b5, .ref mq]))] H := hP
        have hD : va_D A [(pe, .inr (9, [.int 0, .ref a1, .ref a2, .ref a3, .ref a4, .ref a5, .ref a6, .ref a7, .ref a8, .ref a9])), (a1, .inl (cy 0, 20, .inl (fun _ => 0))), (a2, .inl (cy 0, 20, .inl (fun _ => 0))), (ne, .inr (6, [.ref n1, .ref n2, .ref n3, .ref n4, .ref n5])), (n1, .inl (cy 0, 8, .inl (fun _ => 0))), (n2, .inl (cy 0, 8, .inl f2)), (n3, .inl (cy 0, 8, .inl f3)), (n4, .inl (cy 0, 8, .inl f4)), (n5, .inl (cy 1, 8, .inl f5)), (ro, .inl (cy 0, 20, .inl (fun _ => 0))), (b1, .inl (cy 0, 8, .inl (fun _ => 0))), (b2, .inl (cy 0, 8, .inl g2)), (b3, .inl (cy 0, 8, .inl g3)), (b4, .inl (cy 0, 8, .inl g4)), (b5, .inl (cy 1, 8, .inl g5)), (od, .inl (cy 4, 1, .inr (.inr (.inr (.inl (fun _ => 0)))))), (m0, .inr (20, [.int 1, .ref mp, .int 0, .ref b1, .ref b2, .ref b3, .ref b4, .ref b5, .ref mq]))] := hD
        refine W.widen (k := 30) (n := 886) (Nat.le_of_ble_eq_true rfl) (Nat.le_of_ble_eq_true rfl) ?_
        refine lv_istore (lv' := [(7, .int r_652), (6, .int 1), (5, .int 0), (4, .ref od), (3, .ref oa), (2, .ref m0), (1, .ref h), (0, .ref b)]) hx hb dL_law_1643 hl (by decide) rfl (fun ls hl => ?_)
        refine lv_aload_n hx hb dL_law_1645 rfl (lv_at hl 5 rfl) ?_
        have hPc := hP.sub (ws' := [(m0, .inr (20, [.int 1, .ref mp, .int 0, .ref b1, .ref b2, .ref b3, .ref b4, .ref b5, .ref mq]))]) [16] rfl
        have hDc := hD.sub (ws' := [(m0, .inr (20, [.int 1, .ref mp, .int 0, .ref b1, .ref b2, .ref b3, .ref b4, .ref b5, .ref mq]))]) [16] (by decide) rfl
        have hFc := va_free (wc := [(m0, .inr (20, [.int 1, .ref mp, .int 0, .ref b1, .ref b2, .ref b3, .ref b4, .ref b5, .ref mq]))]) hD hS hA [16] rfl
        refine va_calli (va_runV (As := []) (rest := []) ⟨hx, hb, hml, hown, hts⟩ (c_X15_thrown l hst D cy ed H.size m0 mp mq b1 b2 b3 b4 b5 1 0) (cwV 0 hts (zx_GV mm_1599 mm_1600 mm_1601 mm_78 mm_1602) rfl rfl rfl (by decide +kernel) ⟨(Nat.le_of_ble_eq_true rfl), (Nat.le_of_ble_eq_true rfl)⟩) ⟨zx_blind, va_recv hK hPc (ci := 20) (q0 := 0) rfl rfl, zx_give hPc hK hDc hS hFc hZ hN⟩ rfl rfl hl.1 rfl (lv_room (Nat.le_of_ble_eq_true rfl)) dL_law_1646 ⟨(Nat.le_of_ble_eq_true rfl), (Nat.le_of_ble_eq_true rfl)⟩) hS (fun q _ h => hFc q h) hFc (fun r9 u t H1 locs ht hvm hw hB hz1 hk1 hS => ?_)
        obtain rfl : r9 = 1 := hw
        obtain ⟨hP, hD⟩ := zx_join (wr := [(pe, .inr (9, [.int 0, .ref a1, .ref a2, .ref a3, .ref a4, .ref a5, .ref a6, .ref a7, .ref a8, .ref a9])), (a1, .inl (cy 0, 20, .inl (fun _ => 0))), (a2, .inl (cy 0, 20, .inl (fun _ => 0))), (ne, .inr (6, [.ref n1, .ref n2, .ref n3, .ref n4, .ref n5])), (n1, .inl (cy 0, 8, .inl (fun _ => 0))), (n2, .inl (cy 0, 8, .inl f2)), (n3, .inl (cy 0, 8, .inl f3)), (n4, .inl (cy 0, 8, .inl f4)), (n5, .inl (cy 1, 8, .inl f5)), (ro, .inl (cy 0, 20, .inl (fun _ => 0))), (b1, .inl (cy 0, 8, .inl (fun _ => 0))), (b2, .inl (cy 0, 8, .inl g2)), (b3, .inl (cy 0, 8, .inl g3)), (b4, .inl (cy 0, 8, .inl g4)), (b5, .inl (cy 1, 8, .inl g5)), (od, .inl (cy 4, 1, .inr (.inr (.inr (.inl (fun _ => 0))))))]) (w1 := [(m0, .inr (20, [.int 1, .ref mp, .int 0, .ref b1, .ref b2, .ref b3, .ref b4, .ref b5, .ref mq]))]) [16] [0, 1, 2, 3, 4, 5, 6, 7, 8, 9, 10, 11, 12, 13, 14, 15] rfl rfl (by decide) (by decide) hP hD hk1 hFc hB ht
        generalize H1 = H at hP hS ⊢
        have hP : va_P D vwCl [(pe, .inr (9, [.int 0, .ref a1, .ref a2, .ref a3, .ref a4, .ref a5, .ref a6, .ref a7, .ref a8, .ref a9])), (a1, .inl (cy 0, 20, .inl (fun _ => 0))), (a2, .inl (cy 0, 20, .inl (fun _ => 0))), (ne, .inr (6, [.ref n1, .ref n2, .ref n3, .ref n4, .ref n5])), (n1, .inl (cy 0, 8, .inl (fun _ => 0))), (n2, .inl (cy 0, 8, .inl f2)), (n3, .inl (cy 0, 8, .inl f3)), (n4, .inl (cy 0, 8, .inl f4)), (n5, .inl (cy 1, 8, .inl f5)), (ro, .inl (cy 0, 20, .inl (fun _ => 0))), (b1, .inl (cy 0, 8, .inl (fun _ => 0))), (b2, .inl (cy 0, 8, .inl g2)), (b3, .inl (cy 0, 8, .inl g3)), (b4, .inl (cy 0, 8, .inl g4)), (b5, .inl (cy 1, 8, .inl g5)), (od, .inl (cy 4, 1, .inr (.inr (.inr (.inl (fun _ => 0)))))), (m0, .inr (20, [.int 1, .ref mp, .int 0, .ref b1, .ref b2, .ref b3, .ref b4, .ref b5, .ref mq]))] H := hP
        have hD : va_D A [(pe, .inr (9, [.int 0, .ref a1, .ref a2, .ref a3, .ref a4, .ref a5, .ref a6, .ref a7, .ref a8, .ref a9])), (a1, .inl (cy 0, 20, .inl (fun _ => 0))), (a2, .inl (cy 0, 20, .inl (fun _ => 0))), (ne, .inr (6, [.ref n1, .ref n2, .ref n3, .ref n4, .ref n5])), (n1, .inl (cy 0, 8, .inl (fun _ => 0))), (n2, .inl (cy 0, 8, .inl f2)), (n3, .inl (cy 0, 8, .inl f3)), (n4, .inl (cy 0, 8, .inl f4)), (n5, .inl (cy 1, 8, .inl f5)), (ro, .inl (cy 0, 20, .inl (fun _ => 0))), (b1, .inl (cy 0, 8, .inl (fun _ => 0))), (b2, .inl (cy 0, 8, .inl g2)), (b3, .inl (cy 0, 8, .inl g3)), (b4, .inl (cy 0, 8, .inl g4)), (b5, .inl (cy 1, 8, .inl g5)), (od, .inl (cy 4, 1, .inr (.inr (.inr (.inl (fun _ => 0)))))), (m0, .inr (20, [.int 1, .ref mp, .int 0, .ref b1, .ref b2, .ref b3, .ref b4, .ref b5, .ref mq]))] := hD
        refine W.widen (k := 30) (n := 886) (Nat.le_of_ble_eq_true rfl) (Nat.le_of_ble_eq_true rfl) ?_
        refine lv_iload hx hb dL_law_1649 (lv_at hl 1 rfl) ?_
        refine lv_icmp_eq (tgt := 1656) hx hb dL_law_1651 (by decide) (fun _ => ?_) (fun c_654 => absurd (by decide) c_654)
        refine lv_iload hx hb dL_law_1656 (lv_at hl 1 rfl) ?_
        refine lv_if_ne (tgt := 1673) hx hb dL_law_1658 (by decide) (fun _ => ?_) (fun c_655 => absurd c_655 (by decide))
        refine lv_goto (tgt := 4257) hx hb dL_law_1673 (by decide) ?_
        refine W.widen (k := 60) (n := 1200) (Nat.le_of_ble_eq_true rfl) (Nat.le_of_ble_eq_true rfl) ?_
        exact hend _ _ _ hS (lv_sub hl [7, 2] rfl)
set_option maxHeartbeats 4000000 in
set_option maxRecDepth 100000 in
theorem law_case_19 {p : Program} {l : Launch} {e : Env} {s : State} {m : MethodId} {below : List Frame} {meth : Method} {c : Code} {D : va_G} {cy : Nat → ClassId} {ed b : Nat} {xs : Nat → Int32} {A : Nat → Prop} {Q : State → Prop} (C0 : zx_LW p l s m c D cy ed b xs A)
    {h pe ne pa ro a1 a2 a3 a4 a5 a6 a7 a8 a9 n1 n2 n3 n4 n5 m0 mp b1 b2 b3 b4 b5 mq oa od : Nat} {f2 f3 f4 f5 g2 g3 g4 g5 : Nat → Int32} (hf5 : ∀ j, j < 8 → f5 j = 115) (hg5 : ∀ j, j < 8 → g5 j = 115) {H : Heap} {locs : List Loc} {ls : Array Slot}
    (hP : va_P D vwCl [(h, .inr (13, [.ref pe, .ref ne, .ref pa, .ref ro, .int 0])), (pe, .inr (9, [.int 0, .ref a1, .ref a2, .ref a3, .ref a4, .ref a5, .ref a6, .ref a7, .ref a8, .ref a9])), (a1, .inl (cy 0, 20, .inl (fun _ => 0))), (a2, .inl (cy 0, 20, .inl (fun _ => 0))), (ne, .inr (6, [.ref n1, .ref n2, .ref n3, .ref n4, .ref n5])), (n1, .inl (cy 0, 8, .inl (fun _ => 0))), (n2, .inl (cy 0, 8, .inl f2)), (n3, .inl (cy 0, 8, .inl f3)), (n4, .inl (cy 0, 8, .inl f4)), (n5, .inl (cy 1, 8, .inl f5)), (pa, .inr (4, [.int 0, .ref ed, .int 0])), (ro, .inl (cy 0, 20, .inl (fun _ => 0))), (m0, .inr (20, [.int 0, .ref mp, .int 0, .ref b1, .ref b2, .ref b3, .ref b4, .ref b5, .ref mq])), (b1, .inl (cy 0, 8, .inl (fun _ => 0))), (b2, .inl (cy 0, 8, .inl g2)), (b3, .inl (cy 0, 8, .inl g3)), (b4, .inl (cy 0, 8, .inl g4)), (b5, .inl (cy 1, 8, .inl g5)), (mp, .inr (4, [.int 0, .ref ed, .int 0])), (mq, .inr (4, [.int 0, .ref ed, .int 0])), (oa, .inl (cy 3, 1, .inr (.inl (fun _ => 0)))), (od, .inl (cy 4, 1, .inr (.inr (.inr (.inl (fun _ => 0))))))] H) (hD : va_D A [(h, .inr (13, [.ref pe, .ref ne, .ref pa, .ref ro, .int 0])), (pe, .inr (9, [.int 0, .ref a1, .ref a2, .ref a3, .ref a4, .ref a5, .ref a6, .ref a7, .ref a8, .ref a9])), (a1, .inl (cy 0, 20, .inl (fun _ => 0))), (a2, .inl (cy 0, 20, .inl (fun _ => 0))), (ne, .inr (6, [.ref n1, .ref n2, .ref n3, .ref n4, .ref n5])), (n1, .inl (cy 0, 8, .inl (fun _ => 0))), (n2, .inl (cy 0, 8, .inl f2)), (n3, .inl (cy 0, 8, .inl f3)), (n4, .inl (cy 0, 8, .inl f4)), (n5, .inl (cy 1, 8, .inl f5)), (pa, .inr (4, [.int 0, .ref ed, .int 0])), (ro, .inl (cy 0, 20, .inl (fun _ => 0))), (m0, .inr (20, [.int 0, .ref mp, .int 0, .ref b1, .ref b2, .ref b3, .ref b4, .ref b5, .ref mq])), (b1, .inl (cy 0, 8, .inl (fun _ => 0))), (b2, .inl (cy 0, 8, .inl g2)), (b3, .inl (cy 0, 8, .inl g3)), (b4, .inl (cy 0, 8, .inl g4)), (b5, .inl (cy 1, 8, .inl g5)), (mp, .inr (4, [.int 0, .ref ed, .int 0])), (mq, .inr (4, [.int 0, .ref ed, .int 0])), (oa, .inl (cy 3, 1, .inr (.inl (fun _ => 0)))), (od, .inl (cy 4, 1, .inr (.inr (.inr (.inl (fun _ => 0))))))]) (hS : va_S A s.heap H locs) (hl : lv_has ls 9 [(5, .int 0), (4, .ref od), (3, .ref oa), (2, .ref m0), (1, .ref h), (0, .ref b)])
    (hend : ∀ (H : Heap) (locs : List Loc) (ls : Array Slot), va_S A s.heap H locs → lv_has ls 9 [(0, .ref b), (5, .int 0)] → W p l e room_1 s m #[Value.ref b] below meth c H locs 60 1200 Q (F0 m 4257 ls [])) :
    W p l e room_1 s m #[Value.ref b] below meth c H locs 29 880 Q (F0 m 1676 ls []) := by
  obtain ⟨hx, hb, hml, hst, hown, hts, hX, hbl, hbA, hA, hK, hZ, hN⟩ := C0
  refine lv_aload_n hx hb dL_law_1676 rfl (lv_at hl 4 rfl) ?_
  refine lv_aload_n hx hb dL_law_1677 rfl (lv_at hl 5 rfl) ?_
  refine lv_iload hx hb dL_law_1678 (lv_at hl 0 rfl) ?_
  refine lv_iconst (v := 1) hx hb dL_law_1680 (by decide) ?_
  refine lv_iadd hx hb dL_law_1681 ?_
  refine lv_topi (fun y9 ey9 => ?_)
  obtain rfl : y9 = 1 := by rw [ey9] <;> decide
  refine va_sld hx hb hX hbl hbA hS (zx_bn (by decide)) dL_law_1682 ?_
  refine lv_aload_n hx hb dL_law_1683 rfl (lv_at hl 5 rfl) ?_
  refine lv_iload hx hb dL_law_1684 (lv_at hl 0 rfl) ?_
  refine lv_iconst (v := 2) hx hb dL_law_1686 (by decide) ?_
  refine lv_iadd hx hb dL_law_1687 ?_
  refine lv_topi (fun y9 ey9 => ?_)
  obtain rfl : y9 = 2 := by rw [ey9] <;> decide
  refine va_sld hx hb hX hbl hbA hS (zx_bn (by decide)) dL_law_1688 ?_
  refine lv_aload_n hx hb dL_law_1689 rfl (lv_at hl 2 rfl) ?_
  have hPc := hP.sub (ws' := [(h, .inr (13, [.ref pe, .ref ne, .ref pa, .ref ro, .int 0])), (pa, .inr (4, [.int 0, .ref ed, .int 0])), (oa, .inl (cy 3, 1, .inr (.inl (fun _ => 0))))]) [0, 10, 20] rfl
  have hDc := hD.sub (ws' := [(h, .inr (13, [.ref pe, .ref ne, .ref pa, .ref ro, .int 0])), (pa, .inr (4, [.int 0, .ref ed, .int 0])), (oa, .inl (cy 3, 1, .inr (.inl (fun _ => 0))))]) [0, 10, 20] (by decide) rfl
  have hFc := va_free (wc := [(h, .inr (13, [.ref pe, .ref ne, .ref pa, .ref ro, .int 0])), (pa, .inr (4, [.int 0, .ref ed, .int 0])), (oa, .inl (cy 3, 1, .inr (.inl (fun _ => 0))))]) hD hS hA [0, 10, 20] rfl
  refine vx_calli (vx_runSX (As := [.ref h, .int (xs (1 : Int32).toNatClampNeg), .int (xs (2 : Int32).toNatClampNeg), .ref oa]) (rest := []) ⟨hx, hb, hml, hown, hts⟩ (c_L_evened l hst D cy ed H.size h pe ne pa ro 0 0 ed oa (fun _ => 0) (xs (1 : Int32).toNatClampNeg) (xs (2 : Int32).toNatClampNeg)) (vx_cwSW 4 hts (zx_GS mm_1092 mm_1093 mm_70 mm_1094) rfl rfl rfl (by decide +kernel) ⟨(Nat.le_of_ble_eq_true rfl), (Nat.le_of_ble_eq_true rfl)⟩) ⟨zx_blind, zx_give hPc hK hDc hS hFc hZ hN⟩ rfl rfl hl.1 rfl (lv_room (Nat.le_of_ble_eq_true rfl)) dL_law_1690 ⟨(Nat.le_of_ble_eq_true rfl), (Nat.le_of_ble_eq_true rfl)⟩) hS (fun q _ h => hFc q h) hFc (fun q _ h => hFc q h) (fun E9 ce9 q9 _ t H locs ht hvm _ hBX hz1 hk1 hS hce hcv hcl => ?_) (fun r9 u t H locs ht hvm hw hB hz1 hk1 hS => ?_)
  · exact hBX.elim
  ·
    obtain rfl : r9 = 1 := hw
    obtain ⟨hP, hD⟩ := zx_join (wr := [(pe, .inr (9, [.int 0, .ref a1, .ref a2, .ref a3, .ref a4, .ref a5, .ref a6, .ref a7, .ref a8, .ref a9])), (a1, .inl (cy 0, 20, .inl (fun _ => 0))), (a2, .inl (cy 0, 20, .inl (fun _ => 0))), (ne, .inr (6, [.ref n1, .ref n2, .ref n3, .ref n4, .ref n5])), (n1, .inl (cy 0, 8, .inl (fun _ => 0))), (n2, .inl (cy 0, 8, .inl f2)), (n3, .inl (cy 0, 8, .inl f3)), (n4, .inl (cy 0, 8, .inl f4)), (n5, .inl (cy 1, 8, .inl f5)), (ro, .inl (cy 0, 20, .inl (fun _ => 0))), (m0, .inr (20, [.int 0, .ref mp, .int 0, .ref b1, .ref b2, .ref b3, .ref b4, .ref b5, .ref mq])), (b1, .inl (cy 0, 8, .inl (fun _ => 0))), (b2, .inl (cy 0, 8, .inl g2)), (b3, .inl (cy 0, 8, .inl g3)), (b4, .inl (cy 0, 8, .inl g4)), (b5, .inl (cy 1, 8, .inl g5)), (mp, .inr (4, [.int 0, .ref ed, .int 0])), (mq, .inr (4, [.int 0, .ref ed, .int 0])), (od, .inl (cy 4, 1, .inr (.inr (.inr (.inl (fun _ => 0))))))]) (w1 := []) [0, 10, 20] [1, 2, 3, 4, 5, 6, 7, 8, 9, 11, 12, 13, 14, 15, 16, 17, 18, 19, 21] rfl rfl (by decide) (by decide) hP hD hk1 hFc hB ht
    have hP : va_P D vwCl [(pe, .inr (9, [.int 0, .ref a1, .ref a2, .ref a3, .ref a4, .ref a5, .ref a6, .ref a7, .ref a8, .ref a9])), (a1, .inl (cy 0, 20, .inl (fun _ => 0))), (a2, .inl (cy 0, 20, .inl (fun _ => 0))), (ne, .inr (6, [.ref n1, .ref n2, .ref n3, .ref n4, .ref n5])), (n1, .inl (cy 0, 8, .inl (fun _ => 0))), (n2, .inl (cy 0, 8, .inl f2)), (n3, .inl (cy 0, 8, .inl f3)), (n4, .inl (cy 0, 8, .inl f4)), (n5, .inl (cy 1, 8, .inl f5)), (ro, .inl (cy 0, 20, .inl (fun _ => 0))), (m0, .inr (20, [.int 0, .ref mp, .int 0, .ref b1, .ref b2, .ref b3, .ref b4, .ref b5, .ref mq])), (b1, .inl (cy 0, 8, .inl (fun _ => 0))), (b2, .inl (cy 0, 8, .inl g2)), (b3, .inl (cy 0, 8, .inl g3)), (b4, .inl (cy 0, 8, .inl g4)), (b5, .inl (cy 1, 8, .inl g5)), (mp, .inr (4, [.int 0, .ref ed, .int 0])), (mq, .inr (4, [.int 0, .ref ed, .int 0])), (od, .inl (cy 4, 1, .inr (.inr (.inr (.inl (fun _ => 0))))))] H := hP
    have hD : va_D A [(pe, .inr (9, [.int 0, .ref a1, .ref a2, .ref a3, .ref a4, .ref a5, .ref a6, .ref a7, .ref a8, .ref a9])), (a1, .inl (cy 0, 20, .inl (fun _ => 0))), (a2, .inl (cy 0, 20, .inl (fun _ => 0))), (ne, .inr (6, [.ref n1, .ref n2, .ref n3, .ref n4, .ref n5])), (n1, .inl (cy 0, 8, .inl (fun _ => 0))), (n2, .inl (cy 0, 8, .inl f2)), (n3, .inl (cy 0, 8, .inl f3)), (n4, .inl (cy 0, 8, .inl f4)), (n5, .inl (cy 1, 8, .inl f5)), (ro, .inl (cy 0, 20, .inl (fun _ => 0))), (m0, .inr (20, [.int 0, .ref mp, .int 0, .ref b1, .ref b2, .ref b3, .ref b4, .ref b5, .ref mq])), (b1, .inl (cy 0, 8, .inl (fun _ => 0))), (b2, .inl (cy 0, 8, .inl g2)), (b3, .inl (cy 0, 8, .inl g3)), (b4, .inl (cy 0, 8, .inl g4)), (b5, .inl (cy 1, 8, .inl g5)), (mp, .inr (4, [.int 0, .ref ed, .int 0])), (mq, .inr (4, [.int 0, .ref ed, .int 0])), (od, .inl (cy 4, 1, .inr (.inr (.inr (.inl (fun _ => 0))))))] := hD
    refine W.widen (k := 30) (n := 886) (Nat.le_of_ble_eq_true rfl) (Nat.le_of_ble_eq_true rfl) ?_
    refine lv_istore (lv' := [(6, .int 1), (5, .int 0), (4, .ref od), (3, .ref oa), (2, .ref m0), (1, .ref h), (0, .ref b)]) hx hb dL_law_1693 hl (by decide) rfl (fun ls hl => ?_)
    refine lv_aload_n hx hb dL_law_1695 rfl (lv_at hl 4 rfl) ?_
    refine lv_aload_n hx hb dL_law_1696 rfl (lv_at hl 6 rfl) ?_
    refine lv_iload hx hb dL_law_1697 (lv_at hl 1 rfl) ?_
    refine lv_iconst (v := 1) hx hb dL_law_1699 (by decide) ?_
    refine lv_iadd hx hb dL_law_1700 ?_
    refine lv_topi (fun y9 ey9 => ?_)
    obtain rfl : y9 = 1 := by rw [ey9] <;> decide
    refine va_sld hx hb hX hbl hbA hS (zx_bn (by decide)) dL_law_1701 ?_
    refine lv_aload_n hx hb dL_law_1702 rfl (lv_at hl 6 rfl) ?_
    refine lv_iload hx hb dL_law_1703 (lv_at hl 1 rfl) ?_
    refine lv_iconst (v := 2) hx hb dL_law_1705 (by decide) ?_
    refine lv_iadd hx hb dL_law_1706 ?_
    refine lv_topi (fun y9 ey9 => ?_)
    obtain rfl : y9 = 2 := by rw [ey9] <;> decide
    refine va_sld hx hb hX hbl hbA hS (zx_bn (by decide)) dL_law_1707 ?_
    have hPc := hP.sub (ws' := [(m0, .inr (20, [.int 0, .ref mp, .int 0, .ref b1, .ref b2, .ref b3, .ref b4, .ref b5, .ref mq])), (mp, .inr (4, [.int 0, .ref ed, .int 0])), (mq, .inr (4, [.int 0, .ref ed, .int 0]))]) [10, 16, 17] rfl
    have hDc := hD.sub (ws' := [(m0, .inr (20, [.int 0, .ref mp, .int 0, .ref b1, .ref b2, .ref b3, .ref b4, .ref b5, .ref mq])), (mp, .inr (4, [.int 0, .ref ed, .int 0])), (mq, .inr (4, [.int 0, .ref ed, .int 0]))]) [10, 16, 17] (by decide) rfl
    have hFc := va_free (wc := [(m0, .inr (20, [.int 0, .ref mp, .int 0, .ref b1, .ref b2, .ref b3, .ref b4, .ref b5, .ref mq])), (mp, .inr (4, [.int 0, .ref ed, .int 0])), (mq, .inr (4, [.int 0, .ref ed, .int 0]))]) hD hS hA [10, 16, 17] rfl
    refine va_calli (va_runV (As := [.int (xs (1 : Int32).toNatClampNeg), .int (xs (2 : Int32).toNatClampNeg)]) (rest := []) ⟨hx, hb, hml, hown, hts⟩ (c_X15_evened l hst D cy ed H.size m0 mp mq b1 b2 b3 b4 b5 0 0 0 ed 0 ed (xs (1 : Int32).toNatClampNeg) (xs (2 : Int32).toNatClampNeg)) (cwV 2 hts (zx_GV mm_2202 mm_2203 mm_2204 mm_78 mm_2205) rfl rfl rfl (by decide +kernel) ⟨(Nat.le_of_ble_eq_true rfl), (Nat.le_of_ble_eq_true rfl)⟩) ⟨zx_blind, va_recv hK hPc (ci := 20) (q0 := 0) rfl rfl, zx_give hPc hK hDc hS hFc hZ hN⟩ rfl rfl hl.1 rfl (lv_room (Nat.le_of_ble_eq_true rfl)) dL_law_1708 ⟨(Nat.le_of_ble_eq_true rfl), (Nat.le_of_ble_eq_true rfl)⟩) hS (fun q _ h => hFc q h) hFc (fun r9 u t H1 locs ht hvm hw hB hz1 hk1 hS => ?_)
    obtain ⟨r_656, rfl⟩ : ∃ z9, z9 = r9 := ⟨_, rfl⟩
    have h_657 := hw
    obtain ⟨hP, hD⟩ := zx_join (wr := [(pe, .inr (9, [.int 0, .ref a1, .ref a2, .ref a3, .ref a4, .ref a5, .ref a6, .ref a7, .ref a8, .ref a9])), (a1, .inl (cy 0, 20, .inl (fun _ => 0))), (a2, .inl (cy 0, 20, .inl (fun _ => 0))), (ne, .inr (6, [.ref n1, .ref n2, .ref n3, .ref n4, .ref n5])), (n1, .inl (cy 0, 8, .inl (fun _ => 0))), (n2, .inl (cy 0, 8, .inl f2)), (n3, .inl (cy 0, 8, .inl f3)), (n4, .inl (cy 0, 8, .inl f4)), (n5, .inl (cy 1, 8, .inl f5)), (ro, .inl (cy 0, 20, .inl (fun _ => 0))), (b1, .inl (cy 0, 8, .inl (fun _ => 0))), (b2, .inl (cy 0, 8, .inl g2)), (b3, .inl (cy 0, 8, .inl g3)), (b4, .inl (cy 0, 8, .inl g4)), (b5, .inl (cy 1, 8, .inl g5)), (od, .inl (cy 4, 1, .inr (.inr (.inr (.inl (fun _ => 0))))))]) (w1 := [(m0, .inr (20, [.int 1, .ref mp, .int 0, .ref b1, .ref b2, .ref b3, .ref b4, .ref b5, .ref mq]))]) [10, 16, 17] [0, 1, 2, 3, 4, 5, 6, 7, 8, 9, 11, 12, 13, 14, 15, 18] rfl rfl (by decide) (by decide) hP hD hk1 hFc hB ht
    generalize H1 = H at hP hS ⊢
    have hP : va_P D vwCl [(pe, .inr (9, [.int 0, .ref a1, .ref a2, .ref a3, .ref a4, .ref a5, .ref a6, .ref a7, .ref a8, .ref a9])), (a1, .inl (cy 0, 20, .inl (fun _ => 0))), (a2, .inl (cy 0, 20, .inl (fun _ => 0))), (ne, .inr (6, [.ref n1, .ref n2, .ref n3, .ref n4, .ref n5])), (n1, .inl (cy 0, 8, .inl (fun _ => 0))), (n2, .inl (cy 0, 8, .inl f2)), (n3, .inl (cy 0, 8, .inl f3)), (n4, .inl (cy 0, 8, .inl f4)), (n5, .inl (cy 1, 8, .inl f5)), (ro, .inl (cy 0, 20, .inl (fun _ => 0))), (b1, .inl (cy 0, 8, .inl (fun _ => 0))), (b2, .inl (cy 0, 8, .inl g2)), (b3, .inl (cy 0, 8, .inl g3)), (b4, .inl (cy 0, 8, .inl g4)), (b5, .inl (cy 1, 8, .inl g5)), (od, .inl (cy 4, 1, .inr (.inr (.inr (.inl (fun _ => 0)))))), (m0, .inr (20, [.int 1, .ref mp, .int 0, .ref b1, .ref b2, .ref b3, .ref b4, .ref b5, .ref mq]))] H := hP
    have hD : va_D A [(pe, .inr (9, [.int 0, .ref a1, .ref a2, .ref a3, .ref a4, .ref a5, .ref a6, .ref a7, .ref a8, .ref a9])), (a1, .inl (cy 0, 20, .inl (fun _ => 0))), (a2, .inl (cy 0, 20, .inl (fun _ => 0))), (ne, .inr (6, [.ref n1, .ref n2, .ref n3, .ref n4, .ref n5])), (n1, .inl (cy 0, 8, .inl (fun _ => 0))), (n2, .inl (cy 0, 8, .inl f2)), (n3, .inl (cy 0, 8, .inl f3)), (n4, .inl (cy 0, 8, .inl f4)), (n5, .inl (cy 1, 8, .inl f5)), (ro, .inl (cy 0, 20, .inl (fun _ => 0))), (b1, .inl (cy 0, 8, .inl (fun _ => 0))), (b2, .inl (cy 0, 8, .inl g2)), (b3, .inl (cy 0, 8, .inl g3)), (b4, .inl (cy 0, 8, .inl g4)), (b5, .inl (cy 1, 8, .inl g5)), (od, .inl (cy 4, 1, .inr (.inr (.inr (.inl (fun _ => 0)))))), (m0, .inr (20, [.int 1, .ref mp, .int 0, .ref b1, .ref b2, .ref b3, .ref b4, .ref b5, .ref mq]))] := hD
    refine W.widen (k := 30) (n := 886) (Nat.le_of_ble_eq_true rfl) (Nat.le_of_ble_eq_true rfl) ?_
    refine lv_istore (lv' := [(7, .int r_656), (6, .int 1), (5, .int 0), (4, .ref od), (3, .ref oa), (2, .ref m0), (1, .ref h), (0, .ref b)]) hx hb dL_law_1711 hl (by decide) rfl (fun ls hl => ?_)
    refine lv_aload_n hx hb dL_law_1713 rfl (lv_at hl 5 rfl) ?_
    have hPc := hP.sub (ws' := [(m0, .inr (20, [.int 1, .ref mp, .int 0, .ref b1, .ref b2, .ref b3, .ref b4, .ref b5, .ref mq]))]) [16] rfl
    have hDc := hD.sub (ws' := [(m0, .inr (20, [.int 1, .ref mp, .int 0, .ref b1, .ref b2, .ref b3, .ref b4, .ref b5, .ref mq]))]) [16] (by decide) rfl
    have hFc := va_free (wc := [(m0, .inr (20, [.int 1, .ref mp, .int 0, .ref b1, .ref b2, .ref b3, .ref b4, .ref b5, .ref mq]))]) hD hS hA [16] rfl
    refine va_calli (va_runV (As := []) (rest := []) ⟨hx, hb, hml, hown, hts⟩ (c_X15_thrown l hst D cy ed H.size m0 mp mq b1 b2 b3 b4 b5 1 0) (cwV 0 hts (zx_GV mm_1599 mm_1600 mm_1601 mm_78 mm_1602) rfl rfl rfl (by decide +kernel) ⟨(Nat.le_of_ble_eq_true rfl), (Nat.le_of_ble_eq_true rfl)⟩) ⟨zx_blind, va_recv hK hPc (ci := 20) (q0 := 0) rfl rfl, zx_give hPc hK hDc hS hFc hZ hN⟩ rfl rfl hl.1 rfl (lv_room (Nat.le_of_ble_eq_true rfl)) dL_law_1714 ⟨(Nat.le_of_ble_eq_true rfl), (Nat.le_of_ble_eq_true rfl)⟩) hS (fun q _ h => hFc q h) hFc (fun r9 u t H1 locs ht hvm hw hB hz1 hk1 hS => ?_)
    obtain rfl : r9 = 1 := hw
    obtain ⟨hP, hD⟩ := zx_join (wr := [(pe, .inr (9, [.int 0, .ref a1, .ref a2, .ref a3, .ref a4, .ref a5, .ref a6, .ref a7, .ref a8, .ref a9])), (a1, .inl (cy 0, 20, .inl (fun _ => 0))), (a2, .inl (cy 0, 20, .inl (fun _ => 0))), (ne, .inr (6, [.ref n1, .ref n2, .ref n3, .ref n4, .ref n5])), (n1, .inl (cy 0, 8, .inl (fun _ => 0))), (n2, .inl (cy 0, 8, .inl f2)), (n3, .inl (cy 0, 8, .inl f3)), (n4, .inl (cy 0, 8, .inl f4)), (n5, .inl (cy 1, 8, .inl f5)), (ro, .inl (cy 0, 20, .inl (fun _ => 0))), (b1, .inl (cy 0, 8, .inl (fun _ => 0))), (b2, .inl (cy 0, 8, .inl g2)), (b3, .inl (cy 0, 8, .inl g3)), (b4, .inl (cy 0, 8, .inl g4)), (b5, .inl (cy 1, 8, .inl g5)), (od, .inl (cy 4, 1, .inr (.inr (.inr (.inl (fun _ => 0))))))]) (w1 := [(m0, .inr (20, [.int 1, .ref mp, .int 0, .ref b1, .ref b2, .ref b3, .ref b4, .ref b5, .ref mq]))]) [16] [0, 1, 2, 3, 4, 5, 6, 7, 8, 9, 10, 11, 12, 13, 14, 15] rfl rfl (by decide) (by decide) hP hD hk1 hFc hB ht
    generalize H1 = H at hP hS ⊢
    have hP : va_P D vwCl [(pe, .inr (9, [.int 0, .ref a1, .ref a2, .ref a3, .ref a4, .ref a5, .ref a6, .ref a7, .ref a8, .ref a9])), (a1, .inl (cy 0, 20, .inl (fun _ => 0))), (a2, .inl (cy 0, 20, .inl (fun _ => 0))), (ne, .inr (6, [.ref n1, .ref n2, .ref n3, .ref n4, .ref n5])), (n1, .inl (cy 0, 8, .inl (fun _ => 0))), (n2, .inl (cy 0, 8, .inl f2)), (n3, .inl (cy 0, 8, .inl f3)), (n4, .inl (cy 0, 8, .inl f4)), (n5, .inl (cy 1, 8, .inl f5)), (ro, .inl (cy 0, 20, .inl (fun _ => 0))), (b1, .inl (cy 0, 8, .inl (fun _ => 0))), (b2, .inl (cy 0, 8, .inl g2)), (b3, .inl (cy 0, 8, .inl g3)), (b4, .inl (cy 0, 8, .inl g4)), (b5, .inl (cy 1, 8, .inl g5)), (od, .inl (cy 4, 1, .inr (.inr (.inr (.inl (fun _ => 0)))))), (m0, .inr (20, [.int 1, .ref mp, .int 0, .ref b1, .ref b2, .ref b3, .ref b4, .ref b5, .ref mq]))] H := hP
    have hD : va_D A [(pe, .inr (9, [.int 0, .ref a1, .ref a2, .ref a3, .ref a4, .ref a5, .ref a6, .ref a7, .ref a8, .ref a9])), (a1, .inl (cy 0, 20, .inl (fun _ => 0))), (a2, .inl (cy 0, 20, .inl (fun _ => 0))), (ne, .inr (6, [.ref n1, .ref n2, .ref n3, .ref n4, .ref n5])), (n1, .inl (cy 0, 8, .inl (fun _ => 0))), (n2, .inl (cy 0, 8, .inl f2)), (n3, .inl (cy 0, 8, .inl f3)), (n4, .inl (cy 0, 8, .inl f4)), (n5, .inl (cy 1, 8, .inl f5)), (ro, .inl (cy 0, 20, .inl (fun _ => 0))), (b1, .inl (cy 0, 8, .inl (fun _ => 0))), (b2, .inl (cy 0, 8, .inl g2)), (b3, .inl (cy 0, 8, .inl g3)), (b4, .inl (cy 0, 8, .inl g4)), (b5, .inl (cy 1, 8, .inl g5)), (od, .inl (cy 4, 1, .inr (.inr (.inr (.inl (fun _ => 0)))))), (m0, .inr (20, [.int 1, .ref mp, .int 0, .ref b1, .ref b2, .ref b3, .ref b4, .ref b5, .ref mq]))] := hD
    refine W.widen (k := 30) (n := 886) (Nat.le_of_ble_eq_true rfl) (Nat.le_of_ble_eq_true rfl) ?_
    refine lv_iload hx hb dL_law_1717 (lv_at hl 1 rfl) ?_
    refine lv_icmp_eq (tgt := 1724) hx hb dL_law_1719 (by decide) (fun _ => ?_) (fun c_658 => absurd (by decide) c_658)
    refine lv_iload hx hb dL_law_1724 (lv_at hl 1 rfl) ?_
    refine lv_if_ne (tgt := 1741) hx hb dL_law_1726 (by decide) (fun _ => ?_) (fun c_659 => absurd c_659 (by decide))
    refine lv_goto (tgt := 4257) hx hb dL_law_1741 (by decide) ?_
    refine W.widen (k := 60) (n := 1200) (Nat.le_of_ble_eq_true rfl) (Nat.le_of_ble_eq_true rfl) ?_
    exact hend _ _ _ hS (lv_sub hl [7, 2] rfl)
set_option maxHeartbeats 4000000 in
set_option maxRecDepth 100000 in
theorem law_case_20 {p : Program} {l : Launch} {e : Env} {s : State} {m : MethodId} {below : List Frame} {meth : Method} {c : Code} {D : va_G} {cy : Nat → ClassId} {ed b : Nat} {xs : Nat → Int32} {A : Nat → Prop} {Q : State → Prop} (C0 : zx_LW p l s m c D cy ed b xs A)
    {h pe ne pa ro a1 a2 a3 a4 a5 a6 a7 a8 a9 n1 n2 n3 n4 n5 m0 mp b1 b2 b3 b4 b5 mq oa od : Nat} {f2 f3 f4 f5 g2 g3 g4 g5 : Nat → Int32} (hf5 : ∀ j, j < 8 → f5 j = 115) (hg5 : ∀ j, j < 8 → g5 j = 115) {H : Heap} {locs : List Loc} {ls : Array Slot}
    (hP : va_P D vwCl [(h, .inr (13, [.ref pe, .ref ne, .ref pa, .ref ro, .int 0])), (pe, .inr (9, [.int 0, .ref a1, .ref a2, .ref a3, .ref a4, .ref a5, .ref a6, .ref a7, .ref a8, .ref a9])), (a1, .inl (cy 0, 20, .inl (fun _ => 0))), (a2, .inl (cy 0, 20, .inl (fun _ => 0))), (ne, .inr (6, [.ref n1, .ref n2, .ref n3, .ref n4, .ref n5])), (n1, .inl (cy 0, 8, .inl (fun _ => 0))), (n2, .inl (cy 0, 8, .inl f2)), (n3, .inl (cy 0, 8, .inl f3)), (n4, .inl (cy 0, 8, .inl f4)), (n5, .inl (cy 1, 8, .inl f5)), (pa, .inr (4, [.int 0, .ref ed, .int 0])), (ro, .inl (cy 0, 20, .inl (fun _ => 0))), (m0, .inr (20, [.int 0, .ref mp, .int 0, .ref b1, .ref b2, .ref b3, .ref b4, .ref b5, .ref mq])), (b1, .inl (cy 0, 8, .inl (fun _ => 0))), (b2, .inl (cy 0, 8, .inl g2)), (b3, .inl (cy 0, 8, .inl g3)), (b4, .inl (cy 0, 8, .inl g4)), (b5, .inl (cy 1, 8, .inl g5)), (mp, .inr (4, [.int 0, .ref ed, .int 0])), (mq, .inr (4, [.int 0, .ref ed, .int 0])), (oa, .inl (cy 3, 1, .inr (.inl (fun _ => 0)))), (od, .inl (cy 4, 1, .inr (.inr (.inr (.inl (fun _ => 0))))))] H) (hD : va_D A [(h, .inr (13, [.ref pe, .ref ne, .ref pa, .ref ro, .int 0])), (pe, .inr (9, [.int 0, .ref a1, .ref a2, .ref a3, .ref a4, .ref a5, .ref a6, .ref a7, .ref a8, .ref a9])), (a1, .inl (cy 0, 20, .inl (fun _ => 0))), (a2, .inl (cy 0, 20, .inl (fun _ => 0))), (ne, .inr (6, [.ref n1, .ref n2, .ref n3, .ref n4, .ref n5])), (n1, .inl (cy 0, 8, .inl (fun _ => 0))), (n2, .inl (cy 0, 8, .inl f2)), (n3, .inl (cy 0, 8, .inl f3)), (n4, .inl (cy 0, 8, .inl f4)), (n5, .inl (cy 1, 8, .inl f5)), (pa, .inr (4, [.int 0, .ref ed, .int 0])), (ro, .inl (cy 0, 20, .inl (fun _ => 0))), (m0, .inr (20, [.int 0, .ref mp, .int 0, .ref b1, .ref b2, .ref b3, .ref b4, .ref b5, .ref mq])), (b1, .inl (cy 0, 8, .inl (fun _ => 0))), (b2, .inl (cy 0, 8, .inl g2)), (b3, .inl (cy 0, 8, .inl g3)), (b4, .inl (cy 0, 8, .inl g4)), (b5, .inl (cy 1, 8, .inl g5)), (mp, .inr (4, [.int 0, .ref ed, .int 0])), (mq, .inr (4, [.int 0, .ref ed, .int 0])), (oa, .inl (cy 3, 1, .inr (.inl (fun _ => 0)))), (od, .inl (cy 4, 1, .inr (.inr (.inr (.inl (fun _ => 0))))))]) (hS : va_S A s.heap H locs) (hl : lv_has ls 9 [(5, .int 0), (4, .ref od), (3, .ref oa), (2, .ref m0), (1, .ref h), (0, .ref b)])
    (hend : ∀ (H : Heap) (locs : List Loc) (ls : Array Slot), va_S A s.heap H locs → lv_has ls 9 [(0, .ref b), (5, .int 0)] → W p l e room_1 s m #[Value.ref b] below meth c H locs 60 1200 Q (F0 m 4257 ls [])) :
    W p l e room_1 s m #[Value.ref b] below meth c H locs 29 880 Q (F0 m 1744 ls []) := by
  obtain ⟨hx, hb, hml, hst, hown, hts, hX, hbl, hbA, hA, hK, hZ, hN⟩ := C0
  refine lv_aload_n hx hb dL_law_1744 rfl (lv_at hl 4 rfl) ?_
  refine lv_aload_n hx hb dL_law_1745 rfl (lv_at hl 5 rfl) ?_
  refine lv_iload hx hb dL_law_1746 (lv_at hl 0 rfl) ?_
  refine lv_iconst (v := 1) hx hb dL_law_1748 (by decide) ?_
  refine lv_iadd hx hb dL_law_1749 ?_
  refine lv_topi (fun y9 ey9 => ?_)
  obtain rfl : y9 = 1 := by rw [ey9] <;> decide
  refine va_sld hx hb hX hbl hbA hS (zx_bn (by decide)) dL_law_1750 ?_
  refine lv_aload_n hx hb dL_law_1751 rfl (lv_at hl 5 rfl) ?_
  refine lv_iload hx hb dL_law_1752 (lv_at hl 0 rfl) ?_
  refine lv_iconst (v := 2) hx hb dL_law_1754 (by decide) ?_
  refine lv_iadd hx hb dL_law_1755 ?_
  refine lv_topi (fun y9 ey9 => ?_)
  obtain rfl : y9 = 2 := by rw [ey9] <;> decide
  refine va_sld hx hb hX hbl hbA hS (zx_bn (by decide)) dL_law_1756 ?_
  refine lv_aload_n hx hb dL_law_1757 rfl (lv_at hl 5 rfl) ?_
  refine lv_iload hx hb dL_law_1758 (lv_at hl 0 rfl) ?_
  refine lv_iconst (v := 3) hx hb dL_law_1760 (by decide) ?_
  refine lv_iadd hx hb dL_law_1761 ?_
  refine lv_topi (fun y9 ey9 => ?_)
  obtain rfl : y9 = 3 := by rw [ey9] <;> decide
  refine va_sld hx hb hX hbl hbA hS (zx_bn (by decide)) dL_law_1762 ?_
  refine lv_aload_n hx hb dL_law_1763 rfl (lv_at hl 2 rfl) ?_
  have hPc := hP.sub (ws' := [(h, .inr (13, [.ref pe, .ref ne, .ref pa, .ref ro, .int 0])), (pa, .inr (4, [.int 0, .ref ed, .int 0])), (oa, .inl (cy 3, 1, .inr (.inl (fun _ => 0))))]) [0, 10, 20] rfl
  have hDc := hD.sub (ws' := [(h, .inr (13, [.ref pe, .ref ne, .ref pa, .ref ro, .int 0])), (pa, .inr (4, [.int 0, .ref ed, .int 0])), (oa, .inl (cy 3, 1, .inr (.inl (fun _ => 0))))]) [0, 10, 20] (by decide) rfl
  have hFc := va_free (wc := [(h, .inr (13, [.ref pe, .ref ne, .ref pa, .ref ro, .int 0])), (pa, .inr (4, [.int 0, .ref ed, .int 0])), (oa, .inl (cy 3, 1, .inr (.inl (fun _ => 0))))]) hD hS hA [0, 10, 20] rfl
  refine vx_calli (vx_runSX (As := [.ref h, .int (xs (1 : Int32).toNatClampNeg), .int (xs (2 : Int32).toNatClampNeg), .int (xs (3 : Int32).toNatClampNeg), .ref oa]) (rest := []) ⟨hx, hb, hml, hown, hts⟩ (c_L_meet l hst D cy ed H.size h pe ne pa ro 0 0 ed oa (fun _ => 0) (xs (1 : Int32).toNatClampNeg) (xs (2 : Int32).toNatClampNeg) (xs (3 : Int32).toNatClampNeg)) (vx_cwSW 5 hts (zx_GS mm_1107 mm_1108 mm_70 mm_1109) rfl rfl rfl (by decide +kernel) ⟨(Nat.le_of_ble_eq_true rfl), (Nat.le_of_ble_eq_true rfl)⟩) ⟨zx_blind, zx_give hPc hK hDc hS hFc hZ hN⟩ rfl rfl hl.1 rfl (lv_room (Nat.le_of_ble_eq_true rfl)) dL_law_1764 ⟨(Nat.le_of_ble_eq_true rfl), (Nat.le_of_ble_eq_true rfl)⟩) hS (fun q _ h => hFc q h) hFc (fun q _ h => hFc q h) (fun E9 ce9 q9 _ t H locs ht hvm _ hBX hz1 hk1 hS hce hcv hcl => ?_) (fun r9 u t H locs ht hvm hw hB hz1 hk1 hS => ?_)
  · exact hBX.elim
  ·
    obtain rfl : r9 = 1 := hw
    obtain ⟨hP, hD⟩ := zx_join (wr := [(pe, .inr (9, [.int 0, .ref a1, .ref a2, .ref a3, .ref a4, .ref a5, .ref a6, .ref a7, .ref a8, .ref a9])), (a1, .inl (cy 0, 20, .inl (fun _ => 0))), (a2, .inl (cy 0, 20, .inl (fun _ => 0))), (ne, .inr (6, [.ref n1, .ref n2, .ref n3, .ref n4, .ref n5])), (n1, .inl (cy 0, 8, .inl (fun _ => 0))), (n2, .inl (cy 0, 8, .inl f2)), (n3, .inl (cy 0, 8, .inl f3)), (n4, .inl (cy 0, 8, .inl f4)), (n5, .inl (cy 1, 8, .inl f5)), (ro, .inl (cy 0, 20, .inl (fun _ => 0))), (m0, .inr (20, [.int 0, .ref mp, .int 0, .ref b1, .ref b2, .ref b3, .ref b4, .ref b5, .ref mq])), (b1, .inl (cy 0, 8, .inl (fun _ => 0))), (b2, .inl (cy 0, 8, .inl g2)), (b3, .inl (cy 0, 8, .inl g3)), (b4, .inl (cy 0, 8, .inl g4)), (b5, .inl (cy 1, 8, .inl g5)), (mp, .inr (4, [.int 0, .ref ed, .int 0])), (mq, .inr (4, [.int 0, .ref ed, .int 0])), (od, .inl (cy 4, 1, .inr (.inr (.inr (.inl (fun _ => 0))))))]) (w1 := []) [0, 10, 20] [1, 2, 3, 4, 5, 6, 7, 8, 9, 11, 12, 13, 14, 15, 16, 17, 18, 19, 21] rfl rfl (by decide) (by decide) hP hD hk1 hFc hB ht
    have hP : va_P D vwCl [(pe, .inr (9, [.int 0, .ref a1, .ref a2, .ref a3, .ref a4, .ref a5, .ref a6, .ref a7, .ref a8, .ref a9])), (a1, .inl (cy 0, 20, .inl (fun _ => 0))), (a2, .inl (cy 0, 20, .inl (fun _ => 0))), (ne, .inr (6, [.ref n1, .ref n2, .ref n3, .ref n4, .ref n5])), (n1, .inl (cy 0, 8, .inl (fun _ => 0))), (n2, .inl (cy 0, 8, .inl f2)), (n3, .inl (cy 0, 8, .inl f3)), (n4, .inl (cy 0, 8, .inl f4)), (n5, .inl (cy 1, 8, .inl f5)), (ro, .inl (cy 0, 20, .inl (fun _ => 0))), (m0, .inr (20, [.int 0, .ref mp, .int 0, .ref b1, .ref b2, .ref b3, .ref b4, .ref b5, .ref mq])), (b1, .inl (cy 0, 8, .inl (fun _ => 0))), (b2, .inl (cy 0, 8, .inl g2)), (b3, .inl (cy 0, 8, .inl g3)), (b4, .inl (cy 0, 8, .inl g4)), (b5, .inl (cy 1, 8, .inl g5)), (mp, .inr (4, [.int 0, .ref ed, .int 0])), (mq, .inr (4, [.int 0, .ref ed, .int 0])), (od, .inl (cy 4, 1, .inr (.inr (.inr (.inl (fun _ => 0))))))] H := hP
    have hD : va_D A [(pe, .inr (9, [.int 0, .ref a1, .ref a2, .ref a3, .ref a4, .ref a5, .ref a6, .ref a7, .ref a8, .ref a9])), (a1, .inl (cy 0, 20, .inl (fun _ => 0))), (a2, .inl (cy 0, 20, .inl (fun _ => 0))), (ne, .inr (6, [.ref n1, .ref n2, .ref n3, .ref n4, .ref n5])), (n1, .inl (cy 0, 8, .inl (fun _ => 0))), (n2, .inl (cy 0, 8, .inl f2)), (n3, .inl (cy 0, 8, .inl f3)), (n4, .inl (cy 0, 8, .inl f4)), (n5, .inl (cy 1, 8, .inl f5)), (ro, .inl (cy 0, 20, .inl (fun _ => 0))), (m0, .inr (20, [.int 0, .ref mp, .int 0, .ref b1, .ref b2, .ref b3, .ref b4, .ref b5, .ref mq])), (b1, .inl (cy 0, 8, .inl (fun _ => 0))), (b2, .inl (cy 0, 8, .inl g2)), (b3, .inl (cy 0, 8, .inl g3)), (b4, .inl (cy 0, 8, .inl g4)), (b5, .inl (cy 1, 8, .inl g5)), (mp, .inr (4, [.int 0, .ref ed, .int 0])), (mq, .inr (4, [.int 0, .ref ed, .int 0])), (od, .inl (cy 4, 1, .inr (.inr (.inr (.inl (fun _ => 0))))))] := hD
    refine W.widen (k := 30) (n := 886) (Nat.le_of_ble_eq_true rfl) (Nat.le_of_ble_eq_true rfl) ?_
    refine lv_istore (lv' := [(6, .int 1), (5, .int 0), (4, .ref od), (3, .ref oa), (2, .ref m0), (1, .ref h), (0, .ref b)]) hx hb dL_law_1767 hl (by decide) rfl (fun ls hl => ?_)
    refine lv_aload_n hx hb dL_law_1769 rfl (lv_at hl 4 rfl) ?_
    refine lv_aload_n hx hb dL_law_1770 rfl (lv_at hl 6 rfl) ?_
    refine lv_iload hx hb dL_law_1771 (lv_at hl 1 rfl) ?_
    refine lv_iconst (v := 1) hx hb dL_law_1773 (by decide) ?_
    refine lv_iadd hx hb dL_law_1774 ?_
    refine lv_topi (fun y9 ey9 => ?_)
    obtain rfl : y9 = 1 := by rw [ey9] <;> decide
    refine va_sld hx hb hX hbl hbA hS (zx_bn (by decide)) dL_law_1775 ?_
    refine lv_aload_n hx hb dL_law_1776 rfl (lv_at hl 6 rfl) ?_
    refine lv_iload hx hb dL_law_1777 (lv_at hl 1 rfl) ?_
    refine lv_iconst (v := 2) hx hb dL_law_1779 (by decide) ?_
    refine lv_iadd hx hb dL_law_1780 ?_
    refine lv_topi (fun y9 ey9 => ?_)
    obtain rfl : y9 = 2 := by rw [ey9] <;> decide
    refine va_sld hx hb hX hbl hbA hS (zx_bn (by decide)) dL_law_1781 ?_
    refine lv_aload_n hx hb dL_law_1782 rfl (lv_at hl 6 rfl) ?_
    refine lv_iload hx hb dL_law_1783 (lv_at hl 1 rfl) ?_
    refine lv_iconst (v := 3) hx hb dL_law_1785 (by decide) ?_
    refine lv_iadd hx hb dL_law_1786 ?_
    refine lv_topi (fun y9 ey9 => ?_)
    obtain rfl : y9 = 3 := by rw [ey9] <;> decide
    refine va_sld hx hb hX hbl hbA hS (zx_bn (by decide)) dL_law_1787 ?_
    have hPc := hP.sub (ws' := [(m0, .inr (20, [.int 0, .ref mp, .int 0, .ref b1, .ref b2, .ref b3, .ref b4, .ref b5, .ref mq])), (mp, .inr (4, [.int 0, .ref ed, .int 0])), (mq, .inr (4, [.int 0, .ref ed, .int 0]))]) [10, 16, 17] rfl
    have hDc := hD.sub (ws' := [(m0, .inr (20, [.int 0, .ref mp, .int 0, .ref b1, .ref b2, .ref b3, .ref b4, .ref b5, .ref mq])), (mp, .inr (4, [.int 0, .ref ed, .int 0])), (mq, .inr (4, [.int 0, .ref ed, .int 0]))]) [10, 16, 17] (by decide) rfl
    have hFc := va_free (wc := [(m0, .inr (20, [.int 0, .ref mp, .int 0, .ref b1, .ref b2, .ref b3, .ref b4, .ref b5, .ref mq])), (mp, .inr (4, [.int 0, .ref ed, .int 0])), (mq, .inr (4, [.int 0, .ref ed, .int 0]))]) hD hS hA [10, 16, 17] rfl
    refine va_calli (va_runV (As := [.int (xs (1 : Int32).toNatClampNeg), .int (xs (2 : Int32).toNatClampNeg), .int (xs (3 : Int32).toNatClampNeg)]) (rest := []) ⟨hx, hb, hml, hown, hts⟩ (c_X15_meet l hst D cy ed H.size m0 mp mq b1 b2 b3 b4 b5 0 0 0 ed 0 ed (xs (1 : Int32).toNatClampNeg) (xs (2 : Int32).toNatClampNeg) (xs (3 : Int32).toNatClampNeg)) (cwV 3 hts (zx_GV mm_2218 mm_2219 mm_2220 mm_78 mm_2221) rfl rfl rfl (by decide +kernel) ⟨(Nat.le_of_ble_eq_true rfl), (Nat.le_of_ble_eq_true rfl)⟩) ⟨zx_blind, va_recv hK hPc (ci := 20) (q0 := 0) rfl rfl, zx_give hPc hK hDc hS hFc hZ hN⟩ rfl rfl hl.1 rfl (lv_room (Nat.le_of_ble_eq_true rfl)) dL_law_1788 ⟨(Nat.le_of_ble_eq_true rfl), (Nat.le_of_ble_eq_true rfl)⟩) hS (fun q _ h => hFc q h) hFc (fun r9 u t H1 locs ht hvm hw hB hz1 hk1 hS => ?_)
    obtain ⟨r_660, rfl⟩ : ∃ z9, z9 = r9 := ⟨_, rfl⟩
    have h_661 := hw
    obtain ⟨hP, hD⟩ := zx_join (wr := [(pe, .inr (9, [.int 0, .ref a1, .ref a2, .ref a3, .ref a4, .ref a5, .ref a6, .ref a7, .ref a8, .ref a9])), (a1, .inl (cy 0, 20, .inl (fun _ => 0))), (a2, .inl (cy 0, 20, .inl (fun _ => 0))), (ne, .inr (6, [.ref n1, .ref n2, .ref n3, .ref n4, .ref n5])), (n1, .inl (cy 0, 8, .inl (fun _ => 0))), (n2, .inl (cy 0, 8, .inl f2)), (n3, .inl (cy 0, 8, .inl f3)), (n4, .inl (cy 0, 8, .inl f4)), (n5, .inl (cy 1, 8, .inl f5)), (ro, .inl (cy 0, 20, .inl (fun _ => 0))), (b1, .inl (cy 0, 8, .inl (fun _ => 0))), (b2, .inl (cy 0, 8, .inl g2)), (b3, .inl (cy 0, 8, .inl g3)), (b4, .inl (cy 0, 8, .inl g4)), (b5, .inl (cy 1, 8, .inl g5)), (od, .inl (cy 4, 1, .inr (.inr (.inr (.inl (fun _ => 0))))))]) (w1 := [(m0, .inr (20, [.int 1, .ref mp, .int 0, .ref b1, .ref b2, .ref b3, .ref b4, .ref b5, .ref mq]))]) [10, 16, 17] [0, 1, 2, 3, 4, 5, 6, 7, 8, 9, 11, 12, 13, 14, 15, 18] rfl rfl (by decide) (by decide) hP hD hk1 hFc hB ht
    generalize H1 = H at hP hS ⊢
    have hP : va_P D vwCl [(pe, .inr (9, [.int 0, .ref a1, .ref a2, .ref a3, .ref a4, .ref a5, .ref a6, .ref a7, .ref a8, .ref a9])), (a1, .inl (cy 0, 20, .inl (fun _ => 0))), (a2, .inl (cy 0, 20, .inl (fun _ => 0))), (ne, .inr (6, [.ref n1, .ref n2, .ref n3, .ref n4, .ref n5])), (n1, .inl (cy 0, 8, .inl (fun _ => 0))), (n2, .inl (cy 0, 8, .inl f2)), (n3, .inl (cy 0, 8, .inl f3)), (n4, .inl (cy 0, 8, .inl f4)), (n5, .inl (cy 1, 8, .inl f5)), (ro, .inl (cy 0, 20, .inl (fun _ => 0))), (b1, .inl (cy 0, 8, .inl (fun _ => 0))), (b2, .inl (cy 0, 8, .inl g2)), (b3, .inl (cy 0, 8, .inl g3)), (b4, .inl (cy 0, 8, .inl g4)), (b5, .inl (cy 1, 8, .inl g5)), (od, .inl (cy 4, 1, .inr (.inr (.inr (.inl (fun _ => 0)))))), (m0, .inr (20, [.int 1, .ref mp, .int 0, .ref b1, .ref b2, .ref b3, .ref b4, .ref b5, .ref mq]))] H := hP
    have hD : va_D A [(pe, .inr (9, [.int 0, .ref a1, .ref a2, .ref a3, .ref a4, .ref a5, .ref a6, .ref a7, .ref a8, .ref a9])), (a1, .inl (cy 0, 20, .inl (fun _ => 0))), (a2, .inl (cy 0, 20, .inl (fun _ => 0))), (ne, .inr (6, [.ref n1, .ref n2, .ref n3, .ref n4, .ref n5])), (n1, .inl (cy 0, 8, .inl (fun _ => 0))), (n2, .inl (cy 0, 8, .inl f2)), (n3, .inl (cy 0, 8, .inl f3)), (n4, .inl (cy 0, 8, .inl f4)), (n5, .inl (cy 1, 8, .inl f5)), (ro, .inl (cy 0, 20, .inl (fun _ => 0))), (b1, .inl (cy 0, 8, .inl (fun _ => 0))), (b2, .inl (cy 0, 8, .inl g2)), (b3, .inl (cy 0, 8, .inl g3)), (b4, .inl (cy 0, 8, .inl g4)), (b5, .inl (cy 1, 8, .inl g5)), (od, .inl (cy 4, 1, .inr (.inr (.inr (.inl (fun _ => 0)))))), (m0, .inr (20, [.int 1, .ref mp, .int 0, .ref b1, .ref b2, .ref b3, .ref b4, .ref b5, .ref mq]))] := hD
    refine W.widen (k := 30) (n := 886) (Nat.le_of_ble_eq_true rfl) (Nat.le_of_ble_eq_true rfl) ?_
    refine lv_istore (lv' := [(7, .int r_660), (6, .int 1), (5, .int 0), (4, .ref od), (3, .ref oa), (2, .ref m0), (1, .ref h), (0, .ref b)]) hx hb dL_law_1791 hl (by decide) rfl (fun ls hl => ?_)
    refine lv_aload_n hx hb dL_law_1793 rfl (lv_at hl 5 rfl) ?_
    have hPc := hP.sub (ws' := [(m0, .inr (20, [.int 1, .ref mp, .int 0, .ref b1, .ref b2, .ref b3, .ref b4, .ref b5, .ref mq]))]) [16] rfl
    have hDc := hD.sub (ws' := [(m0, .inr (20, [.int 1, .ref mp, .int 0, .ref b1, .ref b2, .ref b3, .ref b4, .ref b5, .ref mq]))]) [16] (by decide) rfl
    have hFc := va_free (wc := [(m0, .inr (20, [.int 1, .ref mp, .int 0, .ref b1, .ref b2, .ref b3, .ref b4, .ref b5, .ref mq]))]) hD hS hA [16] rfl
    refine va_calli (va_runV (As := []) (rest := []) ⟨hx, hb, hml, hown, hts⟩ (c_X15_thrown l hst D cy ed H.size m0 mp mq b1 b2 b3 b4 b5 1 0) (cwV 0 hts (zx_GV mm_1599 mm_1600 mm_1601 mm_78 mm_1602) rfl rfl rfl (by decide +kernel) ⟨(Nat.le_of_ble_eq_true rfl), (Nat.le_of_ble_eq_true rfl)⟩) ⟨zx_blind, va_recv hK hPc (ci := 20) (q0 := 0) rfl rfl, zx_give hPc hK hDc hS hFc hZ hN⟩ rfl rfl hl.1 rfl (lv_room (Nat.le_of_ble_eq_true rfl)) dL_law_1794 ⟨(Nat.le_of_ble_eq_true rfl), (Nat.le_of_ble_eq_true rfl)⟩) hS (fun q _ h => hFc q h) hFc (fun r9 u t H1 locs ht hvm hw hB hz1 hk1 hS => ?_)
    obtain rfl : r9 = 1 := hw
    obtain ⟨hP, hD⟩ := zx_join (wr := [(pe, .inr (9, [.int 0, .ref a1, .ref a2, .ref a3, .ref a4, .ref a5, .ref a6, .ref a7, .ref a8, .ref a9])), (a1, .inl (cy 0, 20, .inl (fun _ => 0))), (a2, .inl (cy 0, 20, .inl (fun _ => 0))), (ne, .inr (6, [.ref n1, .ref n2, .ref n3, .ref n4, .ref n5])), (n1, .inl (cy 0, 8, .inl (fun _ => 0))), (n2, .inl (cy 0, 8, .inl f2)), (n3, .inl (cy 0, 8, .inl f3)), (n4, .inl (cy 0, 8, .inl f4)), (n5, .inl (cy 1, 8, .inl f5)), (ro, .inl (cy 0, 20, .inl (fun _ => 0))), (b1, .inl (cy 0, 8, .inl (fun _ => 0))), (b2, .inl (cy 0, 8, .inl g2)), (b3, .inl (cy 0, 8, .inl g3)), (b4, .inl (cy 0, 8, .inl g4)), (b5, .inl (cy 1, 8, .inl g5)), (od, .inl (cy 4, 1, .inr (.inr (.inr (.inl (fun _ => 0))))))]) (w1 := [(m0, .inr (20, [.int 1, .ref mp, .int 0, .ref b1, .ref b2, .ref b3, .ref b4, .ref b5, .ref mq]))]) [16] [0, 1, 2, 3, 4, 5, 6, 7, 8, 9, 10, 11, 12, 13, 14, 15] rfl rfl (by decide) (by decide) hP hD hk1 hFc hB ht
    generalize H1 = H at hP hS ⊢
    have hP : va_P D vwCl [(pe, .inr (9, [.int 0, .ref a1, .ref a2, .ref a3, .ref a4, .ref a5, .ref a6, .ref a7, .ref a8, .ref a9])), (a1, .inl (cy 0, 20, .inl (fun _ => 0))), (a2, .inl (cy 0, 20, .inl (fun _ => 0))), (ne, .inr (6, [.ref n1, .ref n2, .ref n3, .ref n4, .ref n5])), (n1, .inl (cy 0, 8, .inl (fun _ => 0))), (n2, .inl (cy 0, 8, .inl f2)), (n3, .inl (cy 0, 8, .inl f3)), (n4, .inl (cy 0, 8, .inl f4)), (n5, .inl (cy 1, 8, .inl f5)), (ro, .inl (cy 0, 20, .inl (fun _ => 0))), (b1, .inl (cy 0, 8, .inl (fun _ => 0))), (b2, .inl (cy 0, 8, .inl g2)), (b3, .inl (cy 0, 8, .inl g3)), (b4, .inl (cy 0, 8, .inl g4)), (b5, .inl (cy 1, 8, .inl g5)), (od, .inl (cy 4, 1, .inr (.inr (.inr (.inl (fun _ => 0)))))), (m0, .inr (20, [.int 1, .ref mp, .int 0, .ref b1, .ref b2, .ref b3, .ref b4, .ref b5, .ref mq]))] H := hP
    have hD : va_D A [(pe, .inr (9, [.int 0, .ref a1, .ref a2, .ref a3, .ref a4, .ref a5, .ref a6, .ref a7, .ref a8, .ref a9])), (a1, .inl (cy 0, 20, .inl (fun _ => 0))), (a2, .inl (cy 0, 20, .inl (fun _ => 0))), (ne, .inr (6, [.ref n1, .ref n2, .ref n3, .ref n4, .ref n5])), (n1, .inl (cy 0, 8, .inl (fun _ => 0))), (n2, .inl (cy 0, 8, .inl f2)), (n3, .inl (cy 0, 8, .inl f3)), (n4, .inl (cy 0, 8, .inl f4)), (n5, .inl (cy 1, 8, .inl f5)), (ro, .inl (cy 0, 20, .inl (fun _ => 0))), (b1, .inl (cy 0, 8, .inl (fun _ => 0))), (b2, .inl (cy 0, 8, .inl g2)), (b3, .inl (cy 0, 8, .inl g3)), (b4, .inl (cy 0, 8, .inl g4)), (b5, .inl (cy 1, 8, .inl g5)), (od, .inl (cy 4, 1, .inr (.inr (.inr (.inl (fun _ => 0)))))), (m0, .inr (20, [.int 1, .ref mp, .int 0, .ref b1, .ref b2, .ref b3, .ref b4, .ref b5, .ref mq]))] := hD
    refine W.widen (k := 30) (n := 886) (Nat.le_of_ble_eq_true rfl) (Nat.le_of_ble_eq_true rfl) ?_
    refine lv_iload hx hb dL_law_1797 (lv_at hl 1 rfl) ?_
    refine lv_icmp_eq (tgt := 1804) hx hb dL_law_1799 (by decide) (fun _ => ?_) (fun c_662 => absurd (by decide) c_662)
    refine lv_iload hx hb dL_law_1804 (lv_at hl 1 rfl) ?_
    refine lv_if_ne (tgt := 1821) hx hb dL_law_1806 (by decide) (fun _ => ?_) (fun c_663 => absurd c_663 (by decide))
    refine lv_goto (tgt := 4257) hx hb dL_law_1821 (by decide) ?_
    refine W.widen (k := 60) (n := 1200) (Nat.le_of_ble_eq_true rfl) (Nat.le_of_ble_eq_true rfl) ?_
    exact hend _ _ _ hS (lv_sub hl [7, 2] rfl)
set_option maxHeartbeats 4000000 in
set_option maxRecDepth 100000 in
theorem law_case_21 {p : Program} {l : Launch} {e : Env} {s : State} {m : MethodId} {below : List Frame} {meth : Method} {c : Code} {D : va_G} {cy : Nat → ClassId} {ed b : Nat} {xs : Nat → Int32} {A : Nat → Prop} {Q : State → Prop} (C0 : zx_LW p l s m c D cy ed b xs A)
    {h pe ne pa ro a1 a2 a3 a4 a5 a6 a7 a8 a9 n1 n2 n3 n4 n5 m0 mp b1 b2 b3 b4 b5 mq oa od : Nat} {f2 f3 f4 f5 g2 g3 g4 g5 : Nat → Int32} (hf5 : ∀ j, j < 8 → f5 j = 115) (hg5 : ∀ j, j < 8 → g5 j = 115) {H : Heap} {locs : List Loc} {ls : Array Slot}
    (hP : va_P D vwCl [(h, .inr (13, [.ref pe, .ref ne, .ref pa, .ref ro, .int 0])), (pe, .inr (9, [.int 0, .ref a1, .ref a2, .ref a3, .ref a4, .ref a5, .ref a6, .ref a7, .ref a8, .ref a9])), (a1, .inl (cy 0, 20, .inl (fun _ => 0))), (a2, .inl (cy 0, 20, .inl (fun _ => 0))), (ne, .inr (6, [.ref n1, .ref n2, .ref n3, .ref n4, .ref n5])), (n1, .inl (cy 0, 8, .inl (fun _ => 0))), (n2, .inl (cy 0, 8, .inl f2)), (n3, .inl (cy 0, 8, .inl f3)), (n4, .inl (cy 0, 8, .inl f4)), (n5, .inl (cy 1, 8, .inl f5)), (pa, .inr (4, [.int 0, .ref ed, .int 0])), (ro, .inl (cy 0, 20, .inl (fun _ => 0))), (m0, .inr (20, [.int 0, .ref mp, .int 0, .ref b1, .ref b2, .ref b3, .ref b4, .ref b5, .ref mq])), (b1, .inl (cy 0, 8, .inl (fun _ => 0))), (b2, .inl (cy 0, 8, .inl g2)), (b3, .inl (cy 0, 8, .inl g3)), (b4, .inl (cy 0, 8, .inl g4)), (b5, .inl (cy 1, 8, .inl g5)), (mp, .inr (4, [.int 0, .ref ed, .int 0])), (mq, .inr (4, [.int 0, .ref ed, .int 0])), (oa, .inl (cy 3, 1, .inr (.inl (fun _ => 0)))), (od, .inl (cy 4, 1, .inr (.inr (.inr (.inl (fun _ => 0))))))] H) (hD : va_D A [(h, .inr (13, [.ref pe, .ref ne, .ref pa, .ref ro, .int 0])), (pe, .inr (9, [.int 0, .ref a1, .ref a2, .ref a3, .ref a4, .ref a5, .ref a6, .ref a7, .ref a8, .ref a9])), (a1, .inl (cy 0, 20, .inl (fun _ => 0))), (a2, .inl (cy 0, 20, .inl (fun _ => 0))), (ne, .inr (6, [.ref n1, .ref n2, .ref n3, .ref n4, .ref n5])), (n1, .inl (cy 0, 8, .inl (fun _ => 0))), (n2, .inl (cy 0, 8, .inl f2)), (n3, .inl (cy 0, 8, .inl f3)), (n4, .inl (cy 0, 8, .inl f4)), (n5, .inl (cy 1, 8, .inl f5)), (pa, .inr (4, [.int 0, .ref ed, .int 0])), (ro, .inl (cy 0, 20, .inl (fun _ => 0))), (m0, .inr (20, [.int 0, .ref mp, .int 0, .ref b1, .ref b2, .ref b3, .ref b4, .ref b5, .ref mq])), (b1, .inl (cy 0, 8, .inl (fun _ => 0))), (b2, .inl (cy 0, 8, .inl g2)), (b3, .inl (cy 0, 8, .inl g3)), (b4, .inl (cy 0, 8, .inl g4)), (b5, .inl (cy 1, 8, .inl g5)), (mp, .inr (4, [.int 0, .ref ed, .int 0])), (mq, .inr (4, [.int 0, .ref ed, .int 0])), (oa, .inl (cy 3, 1, .inr (.inl (fun _ => 0)))), (od, .inl (cy 4, 1, .inr (.inr (.inr (.inl (fun _ => 0))))))]) (hS : va_S A s.heap H locs) (hl : lv_has ls 9 [(5, .int 0), (4, .ref od), (3, .ref oa), (2, .ref m0), (1, .ref h), (0, .ref b)])
    (hend : ∀ (H : Heap) (locs : List Loc) (ls : Array Slot), va_S A s.heap H locs → lv_has ls 9 [(0, .ref b), (5, .int 0)] → W p l e room_1 s m #[Value.ref b] below meth c H locs 60 1200 Q (F0 m 4257 ls [])) :
    W p l e room_1 s m #[Value.ref b] below meth c H locs 29 880 Q (F0 m 1824 ls []) := by
  obtain ⟨hx, hb, hml, hst, hown, hts, hX, hbl, hbA, hA, hK, hZ, hN⟩ := C0
  refine lv_aload_n hx hb dL_law_1824 rfl (lv_at hl 4 rfl) ?_
  refine lv_aload_n hx hb dL_law_1825 rfl (lv_at hl 5 rfl) ?_
  refine lv_iload hx hb dL_law_1826 (lv_at hl 0 rfl) ?_
  refine lv_iconst (v := 1) hx hb dL_law_1828 (by decide) ?_
  refine lv_iadd hx hb dL_law_1829 ?_
  refine lv_topi (fun y9 ey9 => ?_)
  obtain rfl : y9 = 1 := by rw [ey9] <;> decide
  refine va_sld hx hb hX hbl hbA hS (zx_bn (by decide)) dL_law_1830 ?_
  refine lv_aload_n hx hb dL_law_1831 rfl (lv_at hl 2 rfl) ?_
  have hPc := hP.sub (ws' := [(h, .inr (13, [.ref pe, .ref ne, .ref pa, .ref ro, .int 0])), (pa, .inr (4, [.int 0, .ref ed, .int 0])), (oa, .inl (cy 3, 1, .inr (.inl (fun _ => 0))))]) [0, 10, 20] rfl
  have hDc := hD.sub (ws' := [(h, .inr (13, [.ref pe, .ref ne, .ref pa, .ref ro, .int 0])), (pa, .inr (4, [.int 0, .ref ed, .int 0])), (oa, .inl (cy 3, 1, .inr (.inl (fun _ => 0))))]) [0, 10, 20] (by decide) rfl
  have hFc := va_free (wc := [(h, .inr (13, [.ref pe, .ref ne, .ref pa, .ref ro, .int 0])), (pa, .inr (4, [.int 0, .ref ed, .int 0])), (oa, .inl (cy 3, 1, .inr (.inl (fun _ => 0))))]) hD hS hA [0, 10, 20] rfl
  refine vx_calli (vx_runSX (As := [.ref h, .int (xs (1 : Int32).toNatClampNeg), .ref oa]) (rest := []) ⟨hx, hb, hml, hown, hts⟩ (c_L_openPoints l hst D cy ed H.size h pe ne pa ro 0 0 ed oa (fun _ => 0) (xs (1 : Int32).toNatClampNeg)) (vx_cwSW 3 hts (zx_GS mm_1124 mm_1125 mm_70 mm_1126) rfl rfl rfl (by decide +kernel) ⟨(Nat.le_of_ble_eq_true rfl), (Nat.le_of_ble_eq_true rfl)⟩) ⟨zx_blind, zx_give hPc hK hDc hS hFc hZ hN⟩ rfl rfl hl.1 rfl (lv_room (Nat.le_of_ble_eq_true rfl)) dL_law_1832 ⟨(Nat.le_of_ble_eq_true rfl), (Nat.le_of_ble_eq_true rfl)⟩) hS (fun q _ h => hFc q h) hFc (fun q _ h => hFc q h) (fun E9 ce9 q9 _ t H locs ht hvm _ hBX hz1 hk1 hS hce hcv hcl => ?_) (fun r9 u t H locs ht hvm hw hB hz1 hk1 hS => ?_)
  · exact hBX.elim
  ·
    obtain rfl : r9 = 1 := hw
    obtain ⟨hP, hD⟩ := zx_join (wr := [(pe, .inr (9, [.int 0, .ref a1, .ref a2, .ref a3, .ref a4, .ref a5, .ref a6, .ref a7, .ref a8, .ref a9])), (a1, .inl (cy 0, 20, .inl (fun _ => 0))), (a2, .inl (cy 0, 20, .inl (fun _ => 0))), (ne, .inr (6, [.ref n1, .ref n2, .ref n3, .ref n4, .ref n5])), (n1, .inl (cy 0, 8, .inl (fun _ => 0))), (n2, .inl (cy 0, 8, .inl f2)), (n3, .inl (cy 0, 8, .inl f3)), (n4, .inl (cy 0, 8, .inl f4)), (n5, .inl (cy 1, 8, .inl f5)), (ro, .inl (cy 0, 20, .inl (fun _ => 0))), (m0, .inr (20, [.int 0, .ref mp, .int 0, .ref b1, .ref b2, .ref b3, .ref b4, .ref b5, .ref mq])), (b1, .inl (cy 0, 8, .inl (fun _ => 0))), (b2, .inl (cy 0, 8, .inl g2)), (b3, .inl (cy 0, 8, .inl g3)), (b4, .inl (cy 0, 8, .inl g4)), (b5, .inl (cy 1, 8, .inl g5)), (mp, .inr (4, [.int 0, .ref ed, .int 0])), (mq, .inr (4, [.int 0, .ref ed, .int 0])), (od, .inl (cy 4, 1, .inr (.inr (.inr (.inl (fun _ => 0))))))]) (w1 := []) [0, 10, 20] [1, 2, 3, 4, 5, 6, 7, 8, 9, 11, 12, 13, 14, 15, 16, 17, 18, 19, 21] rfl rfl (by decide) (by decide) hP hD hk1 hFc hB ht
    have hP : va_P D vwCl [(pe, .inr (9, [.int 0, .ref a1, .ref a2, .ref a3, .ref a4, .ref a5, .ref a6, .ref a7, .ref a8, .ref a9])), (a1, .inl (cy 0, 20, .inl (fun _ => 0))), (a2, .inl (cy 0, 20, .inl (fun _ => 0))), (ne, .inr (6, [.ref n1, .ref n2, .ref n3, .ref n4, .ref n5])), (n1, .inl (cy 0, 8, .inl (fun _ => 0))), (n2, .inl (cy 0, 8, .inl f2)), (n3, .inl (cy 0, 8, .inl f3)), (n4, .inl (cy 0, 8, .inl f4)), (n5, .inl (cy 1, 8, .inl f5)), (ro, .inl (cy 0, 20, .inl (fun _ => 0))), (m0, .inr (20, [.int 0, .ref mp, .int 0, .ref b1, .ref b2, .ref b3, .ref b4, .ref b5, .ref mq])), (b1, .inl (cy 0, 8, .inl (fun _ => 0))), (b2, .inl (cy 0, 8, .inl g2)), (b3, .inl (cy 0, 8, .inl g3)), (b4, .inl (cy 0, 8, .inl g4)), (b5, .inl (cy 1, 8, .inl g5)), (mp, .inr (4, [.int 0, .ref ed, .int 0])), (mq, .inr (4, [.int 0, .ref ed, .int 0])), (od, .inl (cy 4, 1, .inr (.inr (.inr (.inl (fun _ => 0))))))] H := hP
    have hD : va_D A [(pe, .inr (9, [.int 0, .ref a1, .ref a2, .ref a3, .ref a4, .ref a5, .ref a6, .ref a7, .ref a8, .ref a9])), (a1, .inl (cy 0, 20, .inl (fun _ => 0))), (a2, .inl (cy 0, 20, .inl (fun _ => 0))), (ne, .inr (6, [.ref n1, .ref n2, .ref n3, .ref n4, .ref n5])), (n1, .inl (cy 0, 8, .inl (fun _ => 0))), (n2, .inl (cy 0, 8, .inl f2)), (n3, .inl (cy 0, 8, .inl f3)), (n4, .inl (cy 0, 8, .inl f4)), (n5, .inl (cy 1, 8, .inl f5)), (ro, .inl (cy 0, 20, .inl (fun _ => 0))), (m0, .inr (20, [.int 0, .ref mp, .int 0, .ref b1, .ref b2, .ref b3, .ref b4, .ref b5, .ref mq])), (b1, .inl (cy 0, 8, .inl (fun _ => 0))), (b2, .inl (cy 0, 8, .inl g2)), (b3, .inl (cy 0, 8, .inl g3)), (b4, .inl (cy 0, 8, .inl g4)), (b5, .inl (cy 1, 8, .inl g5)), (mp, .inr (4, [.int 0, .ref ed, .int 0])), (mq, .inr (4, [.int 0, .ref ed, .int 0])), (od, .inl (cy 4, 1, .inr (.inr (.inr (.inl (fun _ => 0))))))] := hD
    refine W.widen (k := 30) (n := 886) (Nat.le_of_ble_eq_true rfl) (Nat.le_of_ble_eq_true rfl) ?_
    refine lv_istore (lv' := [(6, .int 1), (5, .int 0), (4, .ref od), (3, .ref oa), (2, .ref m0), (1, .ref h), (0, .ref b)]) hx hb dL_law_1835 hl (by decide) rfl (fun ls hl => ?_)
    refine lv_aload_n hx hb dL_law_1837 rfl (lv_at hl 4 rfl) ?_
    refine lv_aload_n hx hb dL_law_1838 rfl (lv_at hl 6 rfl) ?_
    refine lv_iload hx hb dL_law_1839 (lv_at hl 1 rfl) ?_
    refine lv_iconst (v := 1) hx hb dL_law_1841 (by decide) ?_
    refine lv_iadd hx hb dL_law_1842 ?_
    refine lv_topi (fun y9 ey9 => ?_)
    obtain rfl : y9 = 1 := by rw [ey9] <;> decide
    refine va_sld hx hb hX hbl hbA hS (zx_bn (by decide)) dL_law_1843 ?_
    have hPc := hP.sub (ws' := [(m0, .inr (20, [.int 0, .ref mp, .int 0, .ref b1, .ref b2, .ref b3, .ref b4, .ref b5, .ref mq])), (mp, .inr (4, [.int 0, .ref ed, .int 0])), (mq, .inr (4, [.int 0, .ref ed, .int 0]))]) [10, 16, 17] rfl
    have hDc := hD.sub (ws' := [(m0, .inr (20, [.int 0, .ref mp, .int 0, .ref b1, .ref b2, .ref b3, .ref b4, .ref b5, .ref mq])), (mp, .inr (4, [.int 0, .ref ed, .int 0])), (mq, .inr (4, [.int 0, .ref ed, .int 0]))]) [10, 16, 17] (by decide) rfl
    have hFc := va_free (wc := [(m0, .inr (20, [.int 0, .ref mp, .int 0, .ref b1, .ref b2, .ref b3, .ref b4, .ref b5, .ref mq])), (mp, .inr (4, [.int 0, .ref ed, .int 0])), (mq, .inr (4, [.int 0, .ref ed, .int 0]))]) hD hS hA [10, 16, 17] rfl
    refine va_calli (va_runV (As := [.int (xs (1 : Int32).toNatClampNeg)]) (rest := []) ⟨hx, hb, hml, hown, hts⟩ (c_X15_openPoints l hst D cy ed H.size m0 mp mq b1 b2 b3 b4 b5 0 0 0 ed 0 ed (xs (1 : Int32).toNatClampNeg)) (cwV 1 hts (zx_GV mm_2231 mm_2232 mm_2233 mm_78 mm_2234) rfl rfl rfl (by decide +kernel) ⟨(Nat.le_of_ble_eq_true rfl), (Nat.le_of_ble_eq_true rfl)⟩) ⟨zx_blind, va_recv hK hPc (ci := 20) (q0 := 0) rfl rfl, zx_give hPc hK hDc hS hFc hZ hN⟩ rfl rfl hl.1 rfl (lv_room (Nat.le_of_ble_eq_true rfl)) dL_law_1844 ⟨(Nat.le_of_ble_eq_true rfl), (Nat.le_of_ble_eq_true rfl)⟩) hS (fun q _ h => hFc q h) hFc (fun r9 u t H1 locs ht hvm hw hB hz1 hk1 hS => ?_)
    obtain ⟨r_664, rfl⟩ : ∃ z9, z9 = r9 := ⟨_, rfl⟩
    have h_665 := hw
    obtain ⟨hP, hD⟩ := zx_join (wr := [(pe, .inr (9, [.int 0, .ref a1, .ref a2, .ref a3, .ref a4, .ref a5, .ref a6, .ref a7, .ref a8, .ref a9])), (a1, .inl (cy 0, 20, .inl (fun _ => 0))), (a2, .inl (cy 0, 20, .inl (fun _ => 0))), (ne, .inr (6, [.ref n1, .ref n2, .ref n3, .ref n4, .ref n5])), (n1, .inl (cy 0, 8, .inl (fun _ => 0))), (n2, .inl (cy 0, 8, .inl f2)), (n3, .inl (cy 0, 8, .inl f3)), (n4, .inl (cy 0, 8, .inl f4)), (n5, .inl (cy 1, 8, .inl f5)), (ro, .inl (cy 0, 20, .inl (fun _ => 0))), (b1, .inl (cy 0, 8, .inl (fun _ => 0))), (b2, .inl (cy 0, 8, .inl g2)), (b3, .inl (cy 0, 8, .inl g3)), (b4, .inl (cy 0, 8, .inl g4)), (b5, .inl (cy 1, 8, .inl g5)), (od, .inl (cy 4, 1, .inr (.inr (.inr (.inl (fun _ => 0))))))]) (w1 := [(m0, .inr (20, [.int 1, .ref mp, .int 0, .ref b1, .ref b2, .ref b3, .ref b4, .ref b5, .ref mq]))]) [10, 16, 17] [0, 1, 2, 3, 4, 5, 6, 7, 8, 9, 11, 12, 13, 14, 15, 18] rfl rfl (by decide) (by decide) hP hD hk1 hFc hB ht
    generalize H1 = H at hP hS ⊢
    have hP : va_P D vwCl [(pe, .inr (9, [.int 0, .ref a1, .ref a2, .ref a3, .ref a4, .ref a5, .ref a6, .ref a7, .ref a8, .ref a9])), (a1, .inl (cy 0, 20, .inl (fun _ => 0))), (a2, .inl (cy 0, 20, .inl (fun _ => 0))), (ne, .inr (6, [.ref n1, .ref n2, .ref n3, .ref n4, .ref n5])), (n1, .inl (cy 0, 8, .inl (fun _ => 0))), (n2, .inl (cy 0, 8, .inl f2)), (n3, .inl (cy 0, 8, .inl f3)), (n4, .inl (cy 0, 8, .inl f4)), (n5, .inl (cy 1, 8, .inl f5)), (ro, .inl (cy 0, 20, .inl (fun _ => 0))), (b1, .inl (cy 0, 8, .inl (fun _ => 0))), (b2, .inl (cy 0, 8, .inl g2)), (b3, .inl (cy 0, 8, .inl g3)), (b4, .inl (cy 0, 8, .inl g4)), (b5, .inl (cy 1, 8, .inl g5)), (od, .inl (cy 4, 1, .inr (.inr (.inr (.inl (fun _ => 0)))))), (m0, .inr (20, [.int 1, .ref mp, .int 0, .ref b1, .ref b2, .ref b3, .ref b4, .ref b5, .ref mq]))] H := hP
    have hD : va_D A [(pe, .inr (9, [.int 0, .ref a1, .ref a2, .ref a3, .ref a4, .ref a5, .ref a6, .ref a7, .ref a8, .ref a9])), (a1, .inl (cy 0, 20, .inl (fun _ => 0))), (a2, .inl (cy 0, 20, .inl (fun _ => 0))), (ne, .inr (6, [.ref n1, .ref n2, .ref n3, .ref n4, .ref n5])), (n1, .inl (cy 0, 8, .inl (fun _ => 0))), (n2, .inl (cy 0, 8, .inl f2)), (n3, .inl (cy 0, 8, .inl f3)), (n4, .inl (cy 0, 8, .inl f4)), (n5, .inl (cy 1, 8, .inl f5)), (ro, .inl (cy 0, 20, .inl (fun _ => 0))), (b1, .inl (cy 0, 8, .inl (fun _ => 0))), (b2, .inl (cy 0, 8, .inl g2)), (b3, .inl (cy 0, 8, .inl g3)), (b4, .inl (cy 0, 8, .inl g4)), (b5, .inl (cy 1, 8, .inl g5)), (od, .inl (cy 4, 1, .inr (.inr (.inr (.inl (fun _ => 0)))))), (m0, .inr (20, [.int 1, .ref mp, .int 0, .ref b1, .ref b2, .ref b3, .ref b4, .ref b5, .ref mq]))] := hD
    refine W.widen (k := 30) (n := 886) (Nat.le_of_ble_eq_true rfl) (Nat.le_of_ble_eq_true rfl) ?_
    refine lv_istore (lv' := [(7, .int r_664), (6, .int 1), (5, .int 0), (4, .ref od), (3, .ref oa), (2, .ref m0), (1, .ref h), (0, .ref b)]) hx hb dL_law_1847 hl (by decide) rfl (fun ls hl => ?_)
    refine lv_aload_n hx hb dL_law_1849 rfl (lv_at hl 5 rfl) ?_
    have hPc := hP.sub (ws' := [(m0, .inr (20, [.int 1, .ref mp, .int 0, .ref b1, .ref b2, .ref b3, .ref b4, .ref b5, .ref mq]))]) [16] rfl
    have hDc := hD.sub (ws' := [(m0, .inr (20, [.int 1, .ref mp, .int 0, .ref b1, .ref b2, .ref b3, .ref b4, .ref b5, .ref mq]))]) [16] (by decide) rfl
    have hFc := va_free (wc := [(m0, .inr (20, [.int 1, .ref mp, .int 0, .ref b1, .ref b2, .ref b3, .ref b4, .ref b5, .ref mq]))]) hD hS hA [16] rfl
    refine va_calli (va_runV (As := []) (rest := []) ⟨hx, hb, hml, hown, hts⟩ (c_X15_thrown l hst D cy ed H.size m0 mp mq b1 b2 b3 b4 b5 1 0) (cwV 0 hts (zx_GV mm_1599 mm_1600 mm_1601 mm_78 mm_1602) rfl rfl rfl (by decide +kernel) ⟨(Nat.le_of_ble_eq_true rfl), (Nat.le_of_ble_eq_true rfl)⟩) ⟨zx_blind, va_recv hK hPc (ci := 20) (q0 := 0) rfl rfl, zx_give hPc hK hDc hS hFc hZ hN⟩ rfl rfl hl.1 rfl (lv_room (Nat.le_of_ble_eq_true rfl)) dL_law_1850 ⟨(Nat.le_of_ble_eq_true rfl), (Nat.le_of_ble_eq_true rfl)⟩) hS (fun q _ h => hFc q h) hFc (fun r9 u t H1 locs ht hvm hw hB hz1 hk1 hS => ?_)
    obtain rfl : r9 = 1 := hw
    obtain ⟨hP, hD⟩ := zx_join (wr := [(pe, .inr (9, [.int 0, .ref a1, .ref a2, .ref a3, .ref a4, .ref a5, .ref a6, .ref a7, .ref a8, .ref a9])), (a1, .inl (cy 0, 20, .inl (fun _ => 0))), (a2, .inl (cy 0, 20, .inl (fun _ => 0))), (ne, .inr (6, [.ref n1, .ref n2, .ref n3, .ref n4, .ref n5])), (n1, .inl (cy 0, 8, .inl (fun _ => 0))), (n2, .inl (cy 0, 8, .inl f2)), (n3, .inl (cy 0, 8, .inl f3)), (n4, .inl (cy 0, 8, .inl f4)), (n5, .inl (cy 1, 8, .inl f5)), (ro, .inl (cy 0, 20, .inl (fun _ => 0))), (b1, .inl (cy 0, 8, .inl (fun _ => 0))), (b2, .inl (cy 0, 8, .inl g2)), (b3, .inl (cy 0, 8, .inl g3)), (b4, .inl (cy 0, 8, .inl g4)), (b5, .inl (cy 1, 8, .inl g5)), (od, .inl (cy 4, 1, .inr (.inr (.inr (.inl (fun _ => 0))))))]) (w1 := [(m0, .inr (20, [.int 1, .ref mp, .int 0, .ref b1, .ref b2, .ref b3, .ref b4, .ref b5, .ref mq]))]) [16] [0, 1, 2, 3, 4, 5, 6, 7, 8, 9, 10, 11, 12, 13, 14, 15] rfl rfl (by decide) (by decide) hP hD hk1 hFc hB ht
    generalize H1 = H at hP hS ⊢
    have hP : va_P D vwCl [(pe, .inr (9, [.int 0, .ref a1, .ref a2, .ref a3, .ref a4, .ref a5, .ref a6, .ref a7, .ref a8, .ref a9])), (a1, .inl (cy 0, 20, .inl (fun _ => 0))), (a2, .inl (cy 0, 20, .inl (fun _ => 0))), (ne, .inr (6, [.ref n1, .ref n2, .ref n3, .ref n4, .ref n5])), (n1, .inl (cy 0, 8, .inl (fun _ => 0))), (n2, .inl (cy 0, 8, .inl f2)), (n3, .inl (cy 0, 8, .inl f3)), (n4, .inl (cy 0, 8, .inl f4)), (n5, .inl (cy 1, 8, .inl f5)), (ro, .inl (cy 0, 20, .inl (fun _ => 0))), (b1, .inl (cy 0, 8, .inl (fun _ => 0))), (b2, .inl (cy 0, 8, .inl g2)), (b3, .inl (cy 0, 8, .inl g3)), (b4, .inl (cy 0, 8, .inl g4)), (b5, .inl (cy 1, 8, .inl g5)), (od, .inl (cy 4, 1, .inr (.inr (.inr (.inl (fun _ => 0)))))), (m0, .inr (20, [.int 1, .ref mp, .int 0, .ref b1, .ref b2, .ref b3, .ref b4, .ref b5, .ref mq]))] H := hP
    have hD : va_D A [(pe, .inr (9, [.int 0, .ref a1, .ref a2, .ref a3, .ref a4, .ref a5, .ref a6, .ref a7, .ref a8, .ref a9])), (a1, .inl (cy 0, 20, .inl (fun _ => 0))), (a2, .inl (cy 0, 20, .inl (fun _ => 0))), (ne, .inr (6, [.ref n1, .ref n2, .ref n3, .ref n4, .ref n5])), (n1, .inl (cy 0, 8, .inl (fun _ => 0))), (n2, .inl (cy 0, 8, .inl f2)), (n3, .inl (cy 0, 8, .inl f3)), (n4, .inl (cy 0, 8, .inl f4)), (n5, .inl (cy 1, 8, .inl f5)), (ro, .inl (cy 0, 20, .inl (fun _ => 0))), (b1, .inl (cy 0, 8, .inl (fun _ => 0))), (b2, .inl (cy 0, 8, .inl g2)), (b3, .inl (cy 0, 8, .inl g3)), (b4, .inl (cy 0, 8, .inl g4)), (b5, .inl (cy 1, 8, .inl g5)), (od, .inl (cy 4, 1, .inr (.inr (.inr (.inl (fun _ => 0)))))), (m0, .inr (20, [.int 1, .ref mp, .int 0, .ref b1, .ref b2, .ref b3, .ref b4, .ref b5, .ref mq]))] := hD
    refine W.widen (k := 30) (n := 886) (Nat.le_of_ble_eq_true rfl) (Nat.le_of_ble_eq_true rfl) ?_
    refine lv_iload hx hb dL_law_1853 (lv_at hl 1 rfl) ?_
    refine lv_icmp_eq (tgt := 1860) hx hb dL_law_1855 (by decide) (fun _ => ?_) (fun c_666 => absurd (by decide) c_666)
    refine lv_iload hx hb dL_law_1860 (lv_at hl 1 rfl) ?_
    refine lv_if_ne (tgt := 1877) hx hb dL_law_1862 (by decide) (fun _ => ?_) (fun c_667 => absurd c_667 (by decide))
    refine lv_goto (tgt := 4257) hx hb dL_law_1877 (by decide) ?_
    refine W.widen (k := 60) (n := 1200) (Nat.le_of_ble_eq_true rfl) (Nat.le_of_ble_eq_true rfl) ?_
    exact hend _ _ _ hS (lv_sub hl [7, 2] rfl)
set_option maxHeartbeats 4000000 in
set_option maxRecDepth 100000 in
theorem law_case_22 {p : Program} {l : Launch} {e : Env} {s : State} {m : MethodId} {below : List Frame} {meth : Method} {c : Code} {D : va_G} {cy : Nat → ClassId} {ed b : Nat} {xs : Nat → Int32} {A : Nat → Prop} {Q : State → Prop} (C0 : zx_LW p l s m c D cy ed b xs A)
    {h pe ne pa ro a1 a2 a3 a4 a5 a6 a7 a8 a9 n1 n2 n3 n4 n5 m0 mp b1 b2 b3 b4 b5 mq oa od : Nat} {f2 f3 f4 f5 g2 g3 g4 g5 : Nat → Int32} (hf5 : ∀ j, j < 8 → f5 j = 115) (hg5 : ∀ j, j < 8 → g5 j = 115) {H : Heap} {locs : List Loc} {ls : Array Slot}
    (hP : va_P D vwCl [(h, .inr (13, [.ref pe, .ref ne, .ref pa, .ref ro, .int 0])), (pe, .inr (9, [.int 0, .ref a1, .ref a2, .ref a3, .ref a4, .ref a5, .ref a6, .ref a7, .ref a8, .ref a9])), (a1, .inl (cy 0, 20, .inl (fun _ => 0))), (a2, .inl (cy 0, 20, .inl (fun _ => 0))), (ne, .inr (6, [.ref n1, .ref n2, .ref n3, .ref n4, .ref n5])), (n1, .inl (cy 0, 8, .inl (fun _ => 0))), (n2, .inl (cy 0, 8, .inl f2)), (n3, .inl (cy 0, 8, .inl f3)), (n4, .inl (cy 0, 8, .inl f4)), (n5, .inl (cy 1, 8, .inl f5)), (pa, .inr (4, [.int 0, .ref ed, .int 0])), (ro, .inl (cy 0, 20, .inl (fun _ => 0))), (m0, .inr (20, [.int 0, .ref mp, .int 0, .ref b1, .ref b2, .ref b3, .ref b4, .ref b5, .ref mq])), (b1, .inl (cy 0, 8, .inl (fun _ => 0))), (b2, .inl (cy 0, 8, .inl g2)), (b3, .inl (cy 0, 8, .inl g3)), (b4, .inl (cy 0, 8, .inl g4)), (b5, .inl (cy 1, 8, .inl g5)), (mp, .inr (4, [.int 0, .ref ed, .int 0])), (mq, .inr (4, [.int 0, .ref ed, .int 0])), (oa, .inl (cy 3, 1, .inr (.inl (fun _ => 0)))), (od, .inl (cy 4, 1, .inr (.inr (.inr (.inl (fun _ => 0))))))] H) (hD : va_D A [(h, .inr (13, [.ref pe, .ref ne, .ref pa, .ref ro, .int 0])), (pe, .inr (9, [.int 0, .ref a1, .ref a2, .ref a3, .ref a4, .ref a5, .ref a6, .ref a7, .ref a8, .ref a9])), (a1, .inl (cy 0, 20, .inl (fun _ => 0))), (a2, .inl (cy 0, 20, .inl (fun _ => 0))), (ne, .inr (6, [.ref n1, .ref n2, .ref n3, .ref n4, .ref n5])), (n1, .inl (cy 0, 8, .inl (fun _ => 0))), (n2, .inl (cy 0, 8, .inl f2)), (n3, .inl (cy 0, 8, .inl f3)), (n4, .inl (cy 0, 8, .inl f4)), (n5, .inl (cy 1, 8, .inl f5)), (pa, .inr (4, [.int 0, .ref ed, .int 0])), (ro, .inl (cy 0, 20, .inl (fun _ => 0))), (m0, .inr (20, [.int 0, .ref mp, .int 0, .ref b1, .ref b2, .ref b3, .ref b4, .ref b5, .ref mq])), (b1, .inl (cy 0, 8, .inl (fun _ => 0))), (b2, .inl (cy 0, 8, .inl g2)), (b3, .inl (cy 0, 8, .inl g3)), (b4, .inl (cy 0, 8, .inl g4)), (b5, .inl (cy 1, 8, .inl g5)), (mp, .inr (4, [.int 0, .ref ed, .int 0])), (mq, .inr (4, [.int 0, .ref ed, .int 0])), (oa, .inl (cy 3, 1, .inr (.inl (fun _ => 0)))), (od, .inl (cy 4, 1, .inr (.inr (.inr (.inl (fun _ => 0))))))]) (hS : va_S A s.heap H locs) (hl : lv_has ls 9 [(5, .int 0), (4, .ref od), (3, .ref oa), (2, .ref m0), (1, .ref h), (0, .ref b)])
    (hend : ∀ (H : Heap) (locs : List Loc) (ls : Array Slot), va_S A s.heap H locs → lv_has ls 9 [(0, .ref b), (5, .int 0)] → W p l e room_1 s m #[Value.ref b] below meth c H locs 60 1200 Q (F0 m 4257 ls [])) :
    W p l e room_1 s m #[Value.ref b] below meth c H locs 29 880 Q (F0 m 1880 ls []) := by
  obtain ⟨hx, hb, hml, hst, hown, hts, hX, hbl, hbA, hA, hK, hZ, hN⟩ := C0
  refine lv_aload_n hx hb dL_law_1880 rfl (lv_at hl 4 rfl) ?_
  refine lv_aload_n hx hb dL_law_1881 rfl (lv_at hl 5 rfl) ?_
  refine lv_iload hx hb dL_law_1882 (lv_at hl 0 rfl) ?_
  refine lv_iconst (v := 1) hx hb dL_law_1884 (by decide) ?_
  refine lv_iadd hx hb dL_law_1885 ?_
  refine lv_topi (fun y9 ey9 => ?_)
  obtain rfl : y9 = 1 := by rw [ey9] <;> decide
  refine va_sld hx hb hX hbl hbA hS (zx_bn (by decide)) dL_law_1886 ?_
  refine lv_aload_n hx hb dL_law_1887 rfl (lv_at hl 2 rfl) ?_
  have hPc := hP.sub (ws' := [(h, .inr (13, [.ref pe, .ref ne, .ref pa, .ref ro, .int 0])), (pa, .inr (4, [.int 0, .ref ed, .int 0])), (oa, .inl (cy 3, 1, .inr (.inl (fun _ => 0))))]) [0, 10, 20] rfl
  have hDc := hD.sub (ws' := [(h, .inr (13, [.ref pe, .ref ne, .ref pa, .ref ro, .int 0])), (pa, .inr (4, [.int 0, .ref ed, .int 0])), (oa, .inl (cy 3, 1, .inr (.inl (fun _ => 0))))]) [0, 10, 20] (by decide) rfl
  have hFc := va_free (wc := [(h, .inr (13, [.ref pe, .ref ne, .ref pa, .ref ro, .int 0])), (pa, .inr (4, [.int 0, .ref ed, .int 0])), (oa, .inl (cy 3, 1, .inr (.inl (fun _ => 0))))]) hD hS hA [0, 10, 20] rfl
  refine vx_calli (vx_runSX (As := [.ref h, .int (xs (1 : Int32).toNatClampNeg), .ref oa]) (rest := []) ⟨hx, hb, hml, hown, hts⟩ (c_L_decide l hst D cy ed H.size h pe ne pa ro 0 0 ed oa (fun _ => 0) (xs (1 : Int32).toNatClampNeg)) (vx_cwSW 3 hts (zx_GS mm_1131 mm_1132 mm_70 mm_1133) rfl rfl rfl (by decide +kernel) ⟨(Nat.le_of_ble_eq_true rfl), (Nat.le_of_ble_eq_true rfl)⟩) ⟨zx_blind, zx_give hPc hK hDc hS hFc hZ hN⟩ rfl rfl hl.1 rfl (lv_room (Nat.le_of_ble_eq_true rfl)) dL_law_1888 ⟨(Nat.le_of_ble_eq_true rfl), (Nat.le_of_ble_eq_true rfl)⟩) hS (fun q _ h => hFc q h) hFc (fun q _ h => hFc q h) (fun E9 ce9 q9 _ t H locs ht hvm _ hBX hz1 hk1 hS hce hcv hcl => ?_) (fun r9 u t H locs ht hvm hw hB hz1 hk1 hS => ?_)
  · exact hBX.elim
  ·
    obtain rfl : r9 = 1 := hw
    obtain ⟨hP, hD⟩ := zx_join (wr := [(pe, .inr (9, [.int 0, .ref a1, .ref a2, .ref a3, .ref a4, .ref a5, .ref a6, .ref a7, .ref a8, .ref a9])), (a1, .inl (cy 0, 20, .inl (fun _ => 0))), (a2, .inl (cy 0, 20, .inl (fun _ => 0))), (ne, .inr (6, [.ref n1, .ref n2, .ref n3, .ref n4, .ref n5])), (n1, .inl (cy 0, 8, .inl (fun _ => 0))), (n2, .inl (cy 0, 8, .inl f2)), (n3, .inl (cy 0, 8, .inl f3)), (n4, .inl (cy 0, 8, .inl f4)), (n5, .inl (cy 1, 8, .inl f5)), (ro, .inl (cy 0, 20, .inl (fun _ => 0))), (m0, .inr (20, [.int 0, .ref mp, .int 0, .ref b1, .ref b2, .ref b3, .ref b4, .ref b5, .ref mq])), (b1, .inl (cy 0, 8, .inl (fun _ => 0))), (b2, .inl (cy 0, 8, .inl g2)), (b3, .inl (cy 0, 8, .inl g3)), (b4, .inl (cy 0, 8, .inl g4)), (b5, .inl (cy 1, 8, .inl g5)), (mp, .inr (4, [.int 0, .ref ed, .int 0])), (mq, .inr (4, [.int 0, .ref ed, .int 0])), (od, .inl (cy 4, 1, .inr (.inr (.inr (.inl (fun _ => 0))))))]) (w1 := []) [0, 10, 20] [1, 2, 3, 4, 5, 6, 7, 8, 9, 11, 12, 13, 14, 15, 16, 17, 18, 19, 21] rfl rfl (by decide) (by decide) hP hD hk1 hFc hB ht
    have hP : va_P D vwCl [(pe, .inr (9, [.int 0, .ref a1, .ref a2, .ref a3, .ref a4, .ref a5, .ref a6, .ref a7, .ref a8, .ref a9])), (a1, .inl (cy 0, 20, .inl (fun _ => 0))), (a2, .inl (cy 0, 20, .inl (fun _ => 0))), (ne, .inr (6, [.ref n1, .ref n2, .ref n3, .ref n4, .ref n5])), (n1, .inl (cy 0, 8, .inl (fun _ => 0))), (n2, .inl (cy 0, 8, .inl f2)), (n3, .inl (cy 0, 8, .inl f3)), (n4, .inl (cy 0, 8, .inl f4)), (n5, .inl (cy 1, 8, .inl f5)), (ro, .inl (cy 0, 20, .inl (fun _ => 0))), (m0, .inr (20, [.int 0, .ref mp, .int 0, .ref b1, .ref b2, .ref b3, .ref b4, .ref b5, .ref mq])), (b1, .inl (cy 0, 8, .inl (fun _ => 0))), (b2, .inl (cy 0, 8, .inl g2)), (b3, .inl (cy 0, 8, .inl g3)), (b4, .inl (cy 0, 8, .inl g4)), (b5, .inl (cy 1, 8, .inl g5)), (mp, .inr (4, [.int 0, .ref ed, .int 0])), (mq, .inr (4, [.int 0, .ref ed, .int 0])), (od, .inl (cy 4, 1, .inr (.inr (.inr (.inl (fun _ => 0))))))] H := hP
    have hD : va_D A [(pe, .inr (9, [.int 0, .ref a1, .ref a2, .ref a3, .ref a4, .ref a5, .ref a6, .ref a7, .ref a8, .ref a9])), (a1, .inl (cy 0, 20, .inl (fun _ => 0))), (a2, .inl (cy 0, 20, .inl (fun _ => 0))), (ne, .inr (6, [.ref n1, .ref n2, .ref n3, .ref n4, .ref n5])), (n1, .inl (cy 0, 8, .inl (fun _ => 0))), (n2, .inl (cy 0, 8, .inl f2)), (n3, .inl (cy 0, 8, .inl f3)), (n4, .inl (cy 0, 8, .inl f4)), (n5, .inl (cy 1, 8, .inl f5)), (ro, .inl (cy 0, 20, .inl (fun _ => 0))), (m0, .inr (20, [.int 0, .ref mp, .int 0, .ref b1, .ref b2, .ref b3, .ref b4, .ref b5, .ref mq])), (b1, .inl (cy 0, 8, .inl (fun _ => 0))), (b2, .inl (cy 0, 8, .inl g2)), (b3, .inl (cy 0, 8, .inl g3)), (b4, .inl (cy 0, 8, .inl g4)), (b5, .inl (cy 1, 8, .inl g5)), (mp, .inr (4, [.int 0, .ref ed, .int 0])), (mq, .inr (4, [.int 0, .ref ed, .int 0])), (od, .inl (cy 4, 1, .inr (.inr (.inr (.inl (fun _ => 0))))))] := hD
    refine W.widen (k := 30) (n := 886) (Nat.le_of_ble_eq_true rfl) (Nat.le_of_ble_eq_true rfl) ?_
    refine lv_istore (lv' := [(6, .int 1), (5, .int 0), (4, .ref od), (3, .ref oa), (2, .ref m0), (1, .ref h), (0, .ref b)]) hx hb dL_law_1891 hl (by decide) rfl (fun ls hl => ?_)
    refine lv_aload_n hx hb dL_law_1893 rfl (lv_at hl 4 rfl) ?_
    refine lv_aload_n hx hb dL_law_1894 rfl (lv_at hl 6 rfl) ?_
    refine lv_iload hx hb dL_law_1895 (lv_at hl 1 rfl) ?_
    refine lv_iconst (v := 1) hx hb dL_law_1897 (by decide) ?_
    refine lv_iadd hx hb dL_law_1898 ?_
    refine lv_topi (fun y9 ey9 => ?_)
    obtain rfl : y9 = 1 := by rw [ey9] <;> decide
    refine va_sld hx hb hX hbl hbA hS (zx_bn (by decide)) dL_law_1899 ?_
    have hPc := hP.sub (ws' := [(m0, .inr (20, [.int 0, .ref mp, .int 0, .ref b1, .ref b2, .ref b3, .ref b4, .ref b5, .ref mq])), (mp, .inr (4, [.int 0, .ref ed, .int 0])), (mq, .inr (4, [.int 0, .ref ed, .int 0]))]) [10, 16, 17] rfl
    have hDc := hD.sub (ws' := [(m0, .inr (20, [.int 0, .ref mp, .int 0, .ref b1, .ref b2, .ref b3, .ref b4, .ref b5, .ref mq])), (mp, .inr (4, [.int 0, .ref ed, .int 0])), (mq, .inr (4, [.int 0, .ref ed, .int 0]))]) [10, 16, 17] (by decide) rfl
    have hFc := va_free (wc := [(m0, .inr (20, [.int 0, .ref mp, .int 0, .ref b1, .ref b2, .ref b3, .ref b4, .ref b5, .ref mq])), (mp, .inr (4, [.int 0, .ref ed, .int 0])), (mq, .inr (4, [.int 0, .ref ed, .int 0]))]) hD hS hA [10, 16, 17] rfl
    refine va_calli (va_runV (As := [.int (xs (1 : Int32).toNatClampNeg)]) (rest := []) ⟨hx, hb, hml, hown, hts⟩ (c_X15_decide l hst D cy ed H.size m0 mp mq b1 b2 b3 b4 b5 0 0 0 ed 0 ed (xs (1 : Int32).toNatClampNeg)) (cwV 1 hts (zx_GV mm_2255 mm_2256 mm_2257 mm_78 mm_2258) rfl rfl rfl (by decide +kernel) ⟨(Nat.le_of_ble_eq_true rfl), (Nat.le_of_ble_eq_true rfl)⟩) ⟨zx_blind, va_recv hK hPc (ci := 20) (q0 := 0) rfl rfl, zx_give hPc hK hDc hS hFc hZ hN⟩ rfl rfl hl.1 rfl (lv_room (Nat.le_of_ble_eq_true rfl)) dL_law_1900 ⟨(Nat.le_of_ble_eq_true rfl), (Nat.le_of_ble_eq_true rfl)⟩) hS (fun q _ h => hFc q h) hFc (fun r9 u t H1 locs ht hvm hw hB hz1 hk1 hS => ?_)
    obtain ⟨r_668, rfl⟩ : ∃ z9, z9 = r9 := ⟨_, rfl⟩
    have h_669 := hw
    obtain ⟨hP, hD⟩ := zx_join (wr := [(pe, .inr (9, [.int 0, .ref a1, .ref a2, .ref a3, .ref a4, .ref a5, .ref a6, .ref a7, .ref a8, .ref a9])), (a1, .inl (cy 0, 20, .inl (fun _ => 0))), (a2, .inl (cy 0, 20, .inl (fun _ => 0))), (ne, .inr (6, [.ref n1, .ref n2, .ref n3, .ref n4, .ref n5])), (n1, .inl (cy 0, 8, .inl (fun _ => 0))), (n2, .inl (cy 0, 8, .inl f2)), (n3, .inl (cy 0, 8, .inl f3)), (n4, .inl (cy 0, 8, .inl f4)), (n5, .inl (cy 1, 8, .inl f5)), (ro, .inl (cy 0, 20, .inl (fun _ => 0))), (b1, .inl (cy 0, 8, .inl (fun _ => 0))), (b2, .inl (cy 0, 8, .inl g2)), (b3, .inl (cy 0, 8, .inl g3)), (b4, .inl (cy 0, 8, .inl g4)), (b5, .inl (cy 1, 8, .inl g5)), (od, .inl (cy 4, 1, .inr (.inr (.inr (.inl (fun _ => 0))))))]) (w1 := [(m0, .inr (20, [.int 1, .ref mp, .int 0, .ref b1, .ref b2, .ref b3, .ref b4, .ref b5, .ref mq]))]) [10, 16, 17] [0, 1, 2, 3, 4, 5, 6, 7, 8, 9, 11, 12, 13, 14, 15, 18] rfl rfl (by decide) (by decide) hP hD hk1 hFc hB ht
    generalize H1 = H at hP hS ⊢
    have hP : va_P D vwCl [(pe, .inr (9, [.int 0, .ref a1, .ref a2, .ref a3, .ref a4, .ref a5, .ref a6, .ref a7, .ref a8, .ref a9])), (a1, .inl (cy 0, 20, .inl (fun _ => 0))), (a2, .inl (cy 0, 20, .inl (fun _ => 0))), (ne, .inr (6, [.ref n1, .ref n2, .ref n3, .ref n4, .ref n5])), (n1, .inl (cy 0, 8, .inl (fun _ => 0))), (n2, .inl (cy 0, 8, .inl f2)), (n3, .inl (cy 0, 8, .inl f3)), (n4, .inl (cy 0, 8, .inl f4)), (n5, .inl (cy 1, 8, .inl f5)), (ro, .inl (cy 0, 20, .inl (fun _ => 0))), (b1, .inl (cy 0, 8, .inl (fun _ => 0))), (b2, .inl (cy 0, 8, .inl g2)), (b3, .inl (cy 0, 8, .inl g3)), (b4, .inl (cy 0, 8, .inl g4)), (b5, .inl (cy 1, 8, .inl g5)), (od, .inl (cy 4, 1, .inr (.inr (.inr (.inl (fun _ => 0)))))), (m0, .inr (20, [.int 1, .ref mp, .int 0, .ref b1, .ref b2, .ref b3, .ref b4, .ref b5, .ref mq]))] H := hP
    have hD : va_D A [(pe, .inr (9, [.int 0, .ref a1, .ref a2, .ref a3, .ref a4, .ref a5, .ref a6, .ref a7, .ref a8, .ref a9])), (a1, .inl (cy 0, 20, .inl (fun _ => 0))), (a2, .inl (cy 0, 20, .inl (fun _ => 0))), (ne, .inr (6, [.ref n1, .ref n2, .ref n3, .ref n4, .ref n5])), (n1, .inl (cy 0, 8, .inl (fun _ => 0))), (n2, .inl (cy 0, 8, .inl f2)), (n3, .inl (cy 0, 8, .inl f3)), (n4, .inl (cy 0, 8, .inl f4)), (n5, .inl (cy 1, 8, .inl f5)), (ro, .inl (cy 0, 20, .inl (fun _ => 0))), (b1, .inl (cy 0, 8, .inl (fun _ => 0))), (b2, .inl (cy 0, 8, .inl g2)), (b3, .inl (cy 0, 8, .inl g3)), (b4, .inl (cy 0, 8, .inl g4)), (b5, .inl (cy 1, 8, .inl g5)), (od, .inl (cy 4, 1, .inr (.inr (.inr (.inl (fun _ => 0)))))), (m0, .inr (20, [.int 1, .ref mp, .int 0, .ref b1, .ref b2, .ref b3, .ref b4, .ref b5, .ref mq]))] := hD
    refine W.widen (k := 30) (n := 886) (Nat.le_of_ble_eq_true rfl) (Nat.le_of_ble_eq_true rfl) ?_
    refine lv_istore (lv' := [(7, .int r_668), (6, .int 1), (5, .int 0), (4, .ref od), (3, .ref oa), (2, .ref m0), (1, .ref h), (0, .ref b)]) hx hb dL_law_1903 hl (by decide) rfl (fun ls hl => ?_)
    refine lv_aload_n hx hb dL_law_1905 rfl (lv_at hl 5 rfl) ?_
    have hPc := hP.sub (ws' := [(m0, .inr (20, [.int 1, .ref mp, .int 0, .ref b1, .ref b2, .ref b3, .ref b4, .ref b5, .ref mq]))]) [16] rfl
    have hDc := hD.sub (ws' := [(m0, .inr (20, [.int 1, .ref mp, .int 0, .ref b1, .ref b2, .ref b3, .ref b4, .ref b5, .ref mq]))]) [16] (by decide) rfl
    have hFc := va_free (wc := [(m0, .inr (20, [.int 1, .ref mp, .int 0, .ref b1, .ref b2, .ref b3, .ref b4, .ref b5, .ref mq]))]) hD hS hA [16] rfl
    refine va_calli (va_runV (As := []) (rest := []) ⟨hx, hb, hml, hown, hts⟩ (c_X15_thrown l hst D cy ed H.size m0 mp mq b1 b2 b3 b4 b5 1 0) (cwV 0 hts (zx_GV mm_1599 mm_1600 mm_1601 mm_78 mm_1602) rfl rfl rfl (by decide +kernel) ⟨(Nat.le_of_ble_eq_true rfl), (Nat.le_of_ble_eq_true rfl)⟩) ⟨zx_blind, va_recv hK hPc (ci := 20) (q0 := 0) rfl rfl, zx_give hPc hK hDc hS hFc hZ hN⟩ rfl rfl hl.1 rfl (lv_room (Nat.le_of_ble_eq_true rfl)) dL_law_1906 ⟨(Nat.le_of_ble_eq_true rfl), (Nat.le_of_ble_eq_true rfl)⟩) hS (fun q _ h => hFc q h) hFc (fun r9 u t H1 locs ht hvm hw hB hz1 hk1 hS => ?_)
    obtain rfl : r9 = 1 := hw
    obtain ⟨hP, hD⟩ := zx_join (wr := [(pe, .inr (9, [.int 0, .ref a1, .ref a2, .ref a3, .ref a4, .ref a5, .ref a6, .ref a7, .ref a8, .ref a9])), (a1, .inl (cy 0, 20, .inl (fun _ => 0))), (a2, .inl (cy 0, 20, .inl (fun _ => 0))), (ne, .inr (6, [.ref n1, .ref n2, .ref n3, .ref n4, .ref n5])), (n1, .inl (cy 0, 8, .inl (fun _ => 0))), (n2, .inl (cy 0, 8, .inl f2)), (n3, .inl (cy 0, 8, .inl f3)), (n4, .inl (cy 0, 8, .inl f4)), (n5, .inl (cy 1, 8, .inl f5)), (ro, .inl (cy 0, 20, .inl (fun _ => 0))), (b1, .inl (cy 0, 8, .inl (fun _ => 0))), (b2, .inl (cy 0, 8, .inl g2)), (b3, .inl (cy 0, 8, .inl g3)), (b4, .inl (cy 0, 8, .inl g4)), (b5, .inl (cy 1, 8, .inl g5)), (od, .inl (cy 4, 1, .inr (.inr (.inr (.inl (fun _ => 0))))))]) (w1 := [(m0, .inr (20, [.int 1, .ref mp, .int 0, .ref b1, .ref b2, .ref b3, .ref b4, .ref b5, .ref mq]))]) [16] [0, 1, 2, 3, 4, 5, 6, 7, 8, 9, 10, 11, 12, 13, 14, 15] rfl rfl (by decide) (by decide) hP hD hk1 hFc hB ht
    generalize H1 = H at hP hS ⊢
    have hP : va_P D vwCl [(pe, .inr (9, [.int 0, .ref a1, .ref a2, .ref a3, .ref a4, .ref a5, .ref a6, .ref a7, .ref a8, .ref a9])), (a1, .inl (cy 0, 20, .inl (fun _ => 0))), (a2, .inl (cy 0, 20, .inl (fun _ => 0))), (ne, .inr (6, [.ref n1, .ref n2, .ref n3, .ref n4, .ref n5])), (n1, .inl (cy 0, 8, .inl (fun _ => 0))), (n2, .inl (cy 0, 8, .inl f2)), (n3, .inl (cy 0, 8, .inl f3)), (n4, .inl (cy 0, 8, .inl f4)), (n5, .inl (cy 1, 8, .inl f5)), (ro, .inl (cy 0, 20, .inl (fun _ => 0))), (b1, .inl (cy 0, 8, .inl (fun _ => 0))), (b2, .inl (cy 0, 8, .inl g2)), (b3, .inl (cy 0, 8, .inl g3)), (b4, .inl (cy 0, 8, .inl g4)), (b5, .inl (cy 1, 8, .inl g5)), (od, .inl (cy 4, 1, .inr (.inr (.inr (.inl (fun _ => 0)))))), (m0, .inr (20, [.int 1, .ref mp, .int 0, .ref b1, .ref b2, .ref b3, .ref b4, .ref b5, .ref mq]))] H := hP
    have hD : va_D A [(pe, .inr (9, [.int 0, .ref a1, .ref a2, .ref a3, .ref a4, .ref a5, .ref a6, .ref a7, .ref a8, .ref a9])), (a1, .inl (cy 0, 20, .inl (fun _ => 0))), (a2, .inl (cy 0, 20, .inl (fun _ => 0))), (ne, .inr (6, [.ref n1, .ref n2, .ref n3, .ref n4, .ref n5])), (n1, .inl (cy 0, 8, .inl (fun _ => 0))), (n2, .inl (cy 0, 8, .inl f2)), (n3, .inl (cy 0, 8, .inl f3)), (n4, .inl (cy 0, 8, .inl f4)), (n5, .inl (cy 1, 8, .inl f5)), (ro, .inl (cy 0, 20, .inl (fun _ => 0))), (b1, .inl (cy 0, 8, .inl (fun _ => 0))), (b2, .inl (cy 0, 8, .inl g2)), (b3, .inl (cy 0, 8, .inl g3)), (b4, .inl (cy 0, 8, .inl g4)), (b5, .inl (cy 1, 8, .inl g5)), (od, .inl (cy 4, 1, .inr (.inr (.inr (.inl (fun _ => 0)))))), (m0, .inr (20, [.int 1, .ref mp, .int 0, .ref b1, .ref b2, .ref b3, .ref b4, .ref b5, .ref mq]))] := hD
    refine W.widen (k := 30) (n := 886) (Nat.le_of_ble_eq_true rfl) (Nat.le_of_ble_eq_true rfl) ?_
    refine lv_iload hx hb dL_law_1909 (lv_at hl 1 rfl) ?_
    refine lv_icmp_eq (tgt := 1916) hx hb dL_law_1911 (by decide) (fun _ => ?_) (fun c_670 => absurd (by decide) c_670)
    refine lv_iload hx hb dL_law_1916 (lv_at hl 1 rfl) ?_
    refine lv_if_ne (tgt := 1933) hx hb dL_law_1918 (by decide) (fun _ => ?_) (fun c_671 => absurd c_671 (by decide))
    refine lv_goto (tgt := 4257) hx hb dL_law_1933 (by decide) ?_
    refine W.widen (k := 60) (n := 1200) (Nat.le_of_ble_eq_true rfl) (Nat.le_of_ble_eq_true rfl) ?_
    exact hend _ _ _ hS (lv_sub hl [7, 2] rfl)
set_option maxHeartbeats 4000000 in
set_option maxRecDepth 100000 in
theorem law_case_23 {p : Program} {l : Launch} {e : Env} {s : State} {m : MethodId} {below : List Frame} {meth : Method} {c : Code} {D : va_G} {cy : Nat → ClassId} {ed b : Nat} {xs : Nat → Int32} {A : Nat → Prop} {Q : State → Prop} (C0 : zx_LW p l s m c D cy ed b xs A)
    {h pe ne pa ro a1 a2 a3 a4 a5 a6 a7 a8 a9 n1 n2 n3 n4 n5 m0 mp b1 b2 b3 b4 b5 mq oa od : Nat} {f2 f3 f4 f5 g2 g3 g4 g5 : Nat → Int32} (hf5 : ∀ j, j < 8 → f5 j = 115) (hg5 : ∀ j, j < 8 → g5 j = 115) {H : Heap} {locs : List Loc} {ls : Array Slot}
    (hP : va_P D vwCl [(h, .inr (13, [.ref pe, .ref ne, .ref pa, .ref ro, .int 0])), (pe, .inr (9, [.int 0, .ref a1, .ref a2, .ref a3, .ref a4, .ref a5, .ref a6, .ref a7, .ref a8, .ref a9])), (a1, .inl (cy 0, 20, .inl (fun _ => 0))), (a2, .inl (cy 0, 20, .inl (fun _ => 0))), (ne, .inr (6, [.ref n1, .ref n2, .ref n3, .ref n4, .ref n5])), (n1, .inl (cy 0, 8, .inl (fun _ => 0))), (n2, .inl (cy 0, 8, .inl f2)), (n3, .inl (cy 0, 8, .inl f3)), (n4, .inl (cy 0, 8, .inl f4)), (n5, .inl (cy 1, 8, .inl f5)), (pa, .inr (4, [.int 0, .ref ed, .int 0])), (ro, .inl (cy 0, 20, .inl (fun _ => 0))), (m0, .inr (20, [.int 0, .ref mp, .int 0, .ref b1, .ref b2, .ref b3, .ref b4, .ref b5, .ref mq])), (b1, .inl (cy 0, 8, .inl (fun _ => 0))), (b2, .inl (cy 0, 8, .inl g2)), (b3, .inl (cy 0, 8, .inl g3)), (b4, .inl (cy 0, 8, .inl g4)), (b5, .inl (cy 1, 8, .inl g5)), (mp, .inr (4, [.int 0, .ref ed, .int 0])), (mq, .inr (4, [.int 0, .ref ed, .int 0])), (oa, .inl (cy 3, 1, .inr (.inl (fun _ => 0)))), (od, .inl (cy 4, 1, .inr (.inr (.inr (.inl (fun _ => 0))))))] H) (hD : va_D A [(h, .inr (13, [.ref pe, .ref ne, .ref pa, .ref ro, .int 0])), (pe, .inr (9, [.int 0, .ref a1, .ref a2, .ref a3, .ref a4, .ref a5, .ref a6, .ref a7, .ref a8, .ref a9])), (a1, .inl (cy 0, 20, .inl (fun _ => 0))), (a2, .inl (cy 0, 20, .inl (fun _ => 0))), (ne, .inr (6, [.ref n1, .ref n2, .ref n3, .ref n4, .ref n5])), (n1, .inl (cy 0, 8, .inl (fun _ => 0))), (n2, .inl (cy 0, 8, .inl f2)), (n3, .inl (cy 0, 8, .inl f3)), (n4, .inl (cy 0, 8, .inl f4)), (n5, .inl (cy 1, 8, .inl f5)), (pa, .inr (4, [.int 0, .ref ed, .int 0])), (ro, .inl (cy 0, 20, .inl (fun _ => 0))), (m0, .inr (20, [.int 0, .ref mp, .int 0, .ref b1, .ref b2, .ref b3, .ref b4, .ref b5, .ref mq])), (b1, .inl (cy 0, 8, .inl (fun _ => 0))), (b2, .inl (cy 0, 8, .inl g2)), (b3, .inl (cy 0, 8, .inl g3)), (b4, .inl (cy 0, 8, .inl g4)), (b5, .inl (cy 1, 8, .inl g5)), (mp, .inr (4, [.int 0, .ref ed, .int 0])), (mq, .inr (4, [.int 0, .ref ed, .int 0])), (oa, .inl (cy 3, 1, .inr (.inl (fun _ => 0)))), (od, .inl (cy 4, 1, .inr (.inr (.inr (.inl (fun _ => 0))))))]) (hS : va_S A s.heap H locs) (hl : lv_has ls 9 [(5, .int 0), (4, .ref od), (3, .ref oa), (2, .ref m0), (1, .ref h), (0, .ref b)])
    (hend : ∀ (H : Heap) (locs : List Loc) (ls : Array Slot), va_S A s.heap H locs → lv_has ls 9 [(0, .ref b), (5, .int 0)] → W p l e room_1 s m #[Value.ref b] below meth c H locs 60 1200 Q (F0 m 4257 ls [])) :
    W p l e room_1 s m #[Value.ref b] below meth c H locs 29 880 Q (F0 m 1936 ls []) := by
  obtain ⟨hx, hb, hml, hst, hown, hts, hX, hbl, hbA, hA, hK, hZ, hN⟩ := C0
  refine lv_aload_n hx hb dL_law_1936 rfl (lv_at hl 4 rfl) ?_
  refine lv_aload_n hx hb dL_law_1937 rfl (lv_at hl 5 rfl) ?_
  refine lv_iload hx hb dL_law_1938 (lv_at hl 0 rfl) ?_
  refine lv_iconst (v := 1) hx hb dL_law_1940 (by decide) ?_
  refine lv_iadd hx hb dL_law_1941 ?_
  refine lv_topi (fun y9 ey9 => ?_)
  obtain rfl : y9 = 1 := by rw [ey9] <;> decide
  refine va_sld hx hb hX hbl hbA hS (zx_bn (by decide)) dL_law_1942 ?_
  refine lv_aload_n hx hb dL_law_1943 rfl (lv_at hl 2 rfl) ?_
  have hPc := hP.sub (ws' := [(h, .inr (13, [.ref pe, .ref ne, .ref pa, .ref ro, .int 0])), (pa, .inr (4, [.int 0, .ref ed, .int 0])), (oa, .inl (cy 3, 1, .inr (.inl (fun _ => 0))))]) [0, 10, 20] rfl
  have hDc := hD.sub (ws' := [(h, .inr (13, [.ref pe, .ref ne, .ref pa, .ref ro, .int 0])), (pa, .inr (4, [.int 0, .ref ed, .int 0])), (oa, .inl (cy 3, 1, .inr (.inl (fun _ => 0))))]) [0, 10, 20] (by decide) rfl
  have hFc := va_free (wc := [(h, .inr (13, [.ref pe, .ref ne, .ref pa, .ref ro, .int 0])), (pa, .inr (4, [.int 0, .ref ed, .int 0])), (oa, .inl (cy 3, 1, .inr (.inl (fun _ => 0))))]) hD hS hA [0, 10, 20] rfl
  refine vx_calli (vx_runSX (As := [.ref h, .int (xs (1 : Int32).toNatClampNeg), .ref oa]) (rest := []) ⟨hx, hb, hml, hown, hts⟩ (c_L_appeal l hst D cy ed H.size h pe ne pa ro 0 0 ed oa (fun _ => 0) (xs (1 : Int32).toNatClampNeg)) (vx_cwSW 3 hts (zx_GS mm_1184 mm_1185 mm_70 mm_1186) rfl rfl rfl (by decide +kernel) ⟨(Nat.le_of_ble_eq_true rfl), (Nat.le_of_ble_eq_true rfl)⟩) ⟨zx_blind, zx_give hPc hK hDc hS hFc hZ hN⟩ rfl rfl hl.1 rfl (lv_room (Nat.le_of_ble_eq_true rfl)) dL_law_1944 ⟨(Nat.le_of_ble_eq_true rfl), (Nat.le_of_ble_eq_true rfl)⟩) hS (fun q _ h => hFc q h) hFc (fun q _ h => hFc q h) (fun E9 ce9 q9 _ t H locs ht hvm _ hBX hz1 hk1 hS hce hcv hcl => ?_) (fun r9 u t H locs ht hvm hw hB hz1 hk1 hS => ?_)
  · exact hBX.elim
  ·
    obtain rfl : r9 = 1 := hw
    obtain ⟨hP, hD⟩ := zx_join (wr := [(pe, .inr (9, [.int 0, .ref a1, .ref a2, .ref a3, .ref a4, .ref a5, .ref a6, .ref a7, .ref a8, .ref a9])), (a1, .inl (cy 0, 20, .inl (fun _ => 0))), (a2, .inl (cy 0, 20, .inl (fun _ => 0))), (ne, .inr (6, [.ref n1, .ref n2, .ref n3, .ref n4, .ref n5])), (n1, .inl (cy 0, 8, .inl (fun _ => 0))), (n2, .inl (cy 0, 8, .inl f2)), (n3, .inl (cy 0, 8, .inl f3)), (n4, .inl (cy 0, 8, .inl f4)), (n5, .inl (cy 1, 8, .inl f5)), (ro, .inl (cy 0, 20, .inl (fun _ => 0))), (m0, .inr (20, [.int 0, .ref mp, .int 0, .ref b1, .ref b2, .ref b3, .ref b4, .ref b5, .ref mq])), (b1, .inl (cy 0, 8, .inl (fun _ => 0))), (b2, .inl (cy 0, 8, .inl g2)), (b3, .inl (cy 0, 8, .inl g3)), (b4, .inl (cy 0, 8, .inl g4)), (b5, .inl (cy 1, 8, .inl g5)), (mp, .inr (4, [.int 0, .ref ed, .int 0])), (mq, .inr (4, [.int 0, .ref ed, .int 0])), (od, .inl (cy 4, 1, .inr (.inr (.inr (.inl (fun _ => 0))))))]) (w1 := []) [0, 10, 20] [1, 2, 3, 4, 5, 6, 7, 8, 9, 11, 12, 13, 14, 15, 16, 17, 18, 19, 21] rfl rfl (by decide) (by decide) hP hD hk1 hFc hB ht
    have hP : va_P D vwCl [(pe, .inr (9, [.int 0, .ref a1, .ref a2, .ref a3, .ref a4, .ref a5, .ref a6, .ref a7, .ref a8, .ref a9])), (a1, .inl (cy 0, 20, .inl (fun _ => 0))), (a2, .inl (cy 0, 20, .inl (fun _ => 0))), (ne, .inr (6, [.ref n1, .ref n2, .ref n3, .ref n4, .ref n5])), (n1, .inl (cy 0, 8, .inl (fun _ => 0))), (n2, .inl (cy 0, 8, .inl f2)), (n3, .inl (cy 0, 8, .inl f3)), (n4, .inl (cy 0, 8, .inl f4)), (n5, .inl (cy 1, 8, .inl f5)), (ro, .inl (cy 0, 20, .inl (fun _ => 0))), (m0, .inr (20, [.int 0, .ref mp, .int 0, .ref b1, .ref b2, .ref b3, .ref b4, .ref b5, .ref mq])), (b1, .inl (cy 0, 8, .inl (fun _ => 0))), (b2, .inl (cy 0, 8, .inl g2)), (b3, .inl (cy 0, 8, .inl g3)), (b4, .inl (cy 0, 8, .inl g4)), (b5, .inl (cy 1, 8, .inl g5)), (mp, .inr (4, [.int 0, .ref ed, .int 0])), (mq, .inr (4, [.int 0, .ref ed, .int 0])), (od, .inl (cy 4, 1, .inr (.inr (.inr (.inl (fun _ => 0))))))] H := hP
    have hD : va_D A [(pe, .inr (9, [.int 0, .ref a1, .ref a2, .ref a3, .ref a4, .ref a5, .ref a6, .ref a7, .ref a8, .ref a9])), (a1, .inl (cy 0, 20, .inl (fun _ => 0))), (a2, .inl (cy 0, 20, .inl (fun _ => 0))), (ne, .inr (6, [.ref n1, .ref n2, .ref n3, .ref n4, .ref n5])), (n1, .inl (cy 0, 8, .inl (fun _ => 0))), (n2, .inl (cy 0, 8, .inl f2)), (n3, .inl (cy 0, 8, .inl f3)), (n4, .inl (cy 0, 8, .inl f4)), (n5, .inl (cy 1, 8, .inl f5)), (ro, .inl (cy 0, 20, .inl (fun _ => 0))), (m0, .inr (20, [.int 0, .ref mp, .int 0, .ref b1, .ref b2, .ref b3, .ref b4, .ref b5, .ref mq])), (b1, .inl (cy 0, 8, .inl (fun _ => 0))), (b2, .inl (cy 0, 8, .inl g2)), (b3, .inl (cy 0, 8, .inl g3)), (b4, .inl (cy 0, 8, .inl g4)), (b5, .inl (cy 1, 8, .inl g5)), (mp, .inr (4, [.int 0, .ref ed, .int 0])), (mq, .inr (4, [.int 0, .ref ed, .int 0])), (od, .inl (cy 4, 1, .inr (.inr (.inr (.inl (fun _ => 0))))))] := hD
    refine W.widen (k := 30) (n := 886) (Nat.le_of_ble_eq_true rfl) (Nat.le_of_ble_eq_true rfl) ?_
    refine lv_istore (lv' := [(6, .int 1), (5, .int 0), (4, .ref od), (3, .ref oa), (2, .ref m0), (1, .ref h), (0, .ref b)]) hx hb dL_law_1947 hl (by decide) rfl (fun ls hl => ?_)
    refine lv_aload_n hx hb dL_law_1949 rfl (lv_at hl 4 rfl) ?_
    refine lv_aload_n hx hb dL_law_1950 rfl (lv_at hl 6 rfl) ?_
    refine lv_iload hx hb dL_law_1951 (lv_at hl 1 rfl) ?_
    refine lv_iconst (v := 1) hx hb dL_law_1953 (by decide) ?_
    refine lv_iadd hx hb dL_law_1954 ?_
    refine lv_topi (fun y9 ey9 => ?_)
    obtain rfl : y9 = 1 := by rw [ey9] <;> decide
    refine va_sld hx hb hX hbl hbA hS (zx_bn (by decide)) dL_law_1955 ?_
    have hPc := hP.sub (ws' := [(m0, .inr (20, [.int 0, .ref mp, .int 0, .ref b1, .ref b2, .ref b3, .ref b4, .ref b5, .ref mq])), (mp, .inr (4, [.int 0, .ref ed, .int 0])), (mq, .inr (4, [.int 0, .ref ed, .int 0]))]) [10, 16, 17] rfl
    have hDc := hD.sub (ws' := [(m0, .inr (20, [.int 0, .ref mp, .int 0, .ref b1, .ref b2, .ref b3, .ref b4, .ref b5, .ref mq])), (mp, .inr (4, [.int 0, .ref ed, .int 0])), (mq, .inr (4, [.int 0, .ref ed, .int 0]))]) [10, 16, 17] (by decide) rfl
    have hFc := va_free (wc := [(m0, .inr (20, [.int 0, .ref mp, .int 0, .ref b1, .ref b2, .ref b3, .ref b4, .ref b5, .ref mq])), (mp, .inr (4, [.int 0, .ref ed, .int 0])), (mq, .inr (4, [.int 0, .ref ed, .int 0]))]) hD hS hA [10, 16, 17] rfl
    refine va_calli (va_runV (As := [.int (xs (1 : Int32).toNatClampNeg)]) (rest := []) ⟨hx, hb, hml, hown, hts⟩ (c_X15_appeal l hst D cy ed H.size m0 mp mq b1 b2 b3 b4 b5 0 0 0 ed 0 ed (xs (1 : Int32).toNatClampNeg)) (cwV 1 hts (zx_GV mm_2261 mm_2262 mm_2263 mm_78 mm_2264) rfl rfl rfl (by decide +kernel) ⟨(Nat.le_of_ble_eq_true rfl), (Nat.le_of_ble_eq_true rfl)⟩) ⟨zx_blind, va_recv hK hPc (ci := 20) (q0 := 0) rfl rfl, zx_give hPc hK hDc hS hFc hZ hN⟩ rfl rfl hl.1 rfl (lv_room (Nat.le_of_ble_eq_true rfl)) dL_law_1956 ⟨(Nat.le_of_ble_eq_true rfl), (Nat.le_of_ble_eq_true rfl)⟩) hS (fun q _ h => hFc q h) hFc (fun r9 u t H1 locs ht hvm hw hB hz1 hk1 hS => ?_)
    obtain ⟨r_672, rfl⟩ : ∃ z9, z9 = r9 := ⟨_, rfl⟩
    have h_673 := hw
    obtain ⟨hP, hD⟩ := zx_join (wr := [(pe, .inr (9, [.int 0, .ref a1, .ref a2, .ref a3, .ref a4, .ref a5, .ref a6, .ref a7, .ref a8, .ref a9])), (a1, .inl (cy 0, 20, .inl (fun _ => 0))), (a2, .inl (cy 0, 20, .inl (fun _ => 0))), (ne, .inr (6, [.ref n1, .ref n2, .ref n3, .ref n4, .ref n5])), (n1, .inl (cy 0, 8, .inl (fun _ => 0))), (n2, .inl (cy 0, 8, .inl f2)), (n3, .inl (cy 0, 8, .inl f3)), (n4, .inl (cy 0, 8, .inl f4)), (n5, .inl (cy 1, 8, .inl f5)), (ro, .inl (cy 0, 20, .inl (fun _ => 0))), (b1, .inl (cy 0, 8, .inl (fun _ => 0))), (b2, .inl (cy 0, 8, .inl g2)), (b3, .inl (cy 0, 8, .inl g3)), (b4, .inl (cy 0, 8, .inl g4)), (b5, .inl (cy 1, 8, .inl g5)), (od, .inl (cy 4, 1, .inr (.inr (.inr (.inl (fun _ => 0))))))]) (w1 := [(m0, .inr (20, [.int 1, .ref mp, .int 0, .ref b1, .ref b2, .ref b3, .ref b4, .ref b5, .ref mq]))]) [10, 16, 17] [0, 1, 2, 3, 4, 5, 6, 7, 8, 9, 11, 12, 13, 14, 15, 18] rfl rfl (by decide) (by decide) hP hD hk1 hFc hB ht
    generalize H1 = H at hP hS ⊢
    have hP : va_P D vwCl [(pe, .inr (9, [.int 0, .ref a1, .ref a2, .ref a3, .ref a4, .ref a5, .ref a6, .ref a7, .ref a8, .ref a9])), (a1, .inl (cy 0, 20, .inl (fun _ => 0))), (a2, .inl (cy 0, 20, .inl (fun _ => 0))), (ne, .inr (6, [.ref n1, .ref n2, .ref n3, .ref n4, .ref n5])), (n1, .inl (cy 0, 8, .inl (fun _ => 0))), (n2, .inl (cy 0, 8, .inl f2)), (n3, .inl (cy 0, 8, .inl f3)), (n4, .inl (cy 0, 8, .inl f4)), (n5, .inl (cy 1, 8, .inl f5)), (ro, .inl (cy 0, 20, .inl (fun _ => 0))), (b1, .inl (cy 0, 8, .inl (fun _ => 0))), (b2, .inl (cy 0, 8, .inl g2)), (b3, .inl (cy 0, 8, .inl g3)), (b4, .inl (cy 0, 8, .inl g4)), (b5, .inl (cy 1, 8, .inl g5)), (od, .inl (cy 4, 1, .inr (.inr (.inr (.inl (fun _ => 0)))))), (m0, .inr (20, [.int 1, .ref mp, .int 0, .ref b1, .ref b2, .ref b3, .ref b4, .ref b5, .ref mq]))] H := hP
    have hD : va_D A [(pe, .inr (9, [.int 0, .ref a1, .ref a2, .ref a3, .ref a4, .ref a5, .ref a6, .ref a7, .ref a8, .ref a9])), (a1, .inl (cy 0, 20, .inl (fun _ => 0))), (a2, .inl (cy 0, 20, .inl (fun _ => 0))), (ne, .inr (6, [.ref n1, .ref n2, .ref n3, .ref n4, .ref n5])), (n1, .inl (cy 0, 8, .inl (fun _ => 0))), (n2, .inl (cy 0, 8, .inl f2)), (n3, .inl (cy 0, 8, .inl f3)), (n4, .inl (cy 0, 8, .inl f4)), (n5, .inl (cy 1, 8, .inl f5)), (ro, .inl (cy 0, 20, .inl (fun _ => 0))), (b1, .inl (cy 0, 8, .inl (fun _ => 0))), (b2, .inl (cy 0, 8, .inl g2)), (b3, .inl (cy 0, 8, .inl g3)), (b4, .inl (cy 0, 8, .inl g4)), (b5, .inl (cy 1, 8, .inl g5)), (od, .inl (cy 4, 1, .inr (.inr (.inr (.inl (fun _ => 0)))))), (m0, .inr (20, [.int 1, .ref mp, .int 0, .ref b1, .ref b2, .ref b3, .ref b4, .ref b5, .ref mq]))] := hD
    refine W.widen (k := 30) (n := 886) (Nat.le_of_ble_eq_true rfl) (Nat.le_of_ble_eq_true rfl) ?_
    refine lv_istore (lv' := [(7, .int r_672), (6, .int 1), (5, .int 0), (4, .ref od), (3, .ref oa), (2, .ref m0), (1, .ref h), (0, .ref b)]) hx hb dL_law_1959 hl (by decide) rfl (fun ls hl => ?_)
    refine lv_aload_n hx hb dL_law_1961 rfl (lv_at hl 5 rfl) ?_
    have hPc := hP.sub (ws' := [(m0, .inr (20, [.int 1, .ref mp, .int 0, .ref b1, .ref b2, .ref b3, .ref b4, .ref b5, .ref mq]))]) [16] rfl
    have hDc := hD.sub (ws' := [(m0, .inr (20, [.int 1, .ref mp, .int 0, .ref b1, .ref b2, .ref b3, .ref b4, .ref b5, .ref mq]))]) [16] (by decide) rfl
    have hFc := va_free (wc := [(m0, .inr (20, [.int 1, .ref mp, .int 0, .ref b1, .ref b2, .ref b3, .ref b4, .ref b5, .ref mq]))]) hD hS hA [16] rfl
    refine va_calli (va_runV (As := []) (rest := []) ⟨hx, hb, hml, hown, hts⟩ (c_X15_thrown l hst D cy ed H.size m0 mp mq b1 b2 b3 b4 b5 1 0) (cwV 0 hts (zx_GV mm_1599 mm_1600 mm_1601 mm_78 mm_1602) rfl rfl rfl (by decide +kernel) ⟨(Nat.le_of_ble_eq_true rfl), (Nat.le_of_ble_eq_true rfl)⟩) ⟨zx_blind, va_recv hK hPc (ci := 20) (q0 := 0) rfl rfl, zx_give hPc hK hDc hS hFc hZ hN⟩ rfl rfl hl.1 rfl (lv_room (Nat.le_of_ble_eq_true rfl)) dL_law_1962 ⟨(Nat.le_of_ble_eq_true rfl), (Nat.le_of_ble_eq_true rfl)⟩) hS (fun q _ h => hFc q h) hFc (fun r9 u t H1 locs ht hvm hw hB hz1 hk1 hS => ?_)
    obtain rfl : r9 = 1 := hw
    obtain ⟨hP, hD⟩ := zx_join (wr := [(pe, .inr (9, [.int 0, .ref a1, .ref a2, .ref a3, .ref a4, .ref a5, .ref a6, .ref a7, .ref a8, .ref a9])), (a1, .inl (cy 0, 20, .inl (fun _ => 0))), (a2, .inl (cy 0, 20, .inl (fun _ => 0))), (ne, .inr (6, [.ref n1, .ref n2, .ref n3, .ref n4, .ref n5])), (n1, .inl (cy 0, 8, .inl (fun _ => 0))), (n2, .inl (cy 0, 8, .inl f2)), (n3, .inl (cy 0, 8, .inl f3)), (n4, .inl (cy 0, 8, .inl f4)), (n5, .inl (cy 1, 8, .inl f5)), (ro, .inl (cy 0, 20, .inl (fun _ => 0))), (b1, .inl (cy 0, 8, .inl (fun _ => 0))), (b2, .inl (cy 0, 8, .inl g2)), (b3, .inl (cy 0, 8, .inl g3)), (b4, .inl (cy 0, 8, .inl g4)), (b5, .inl (cy 1, 8, .inl g5)), (od, .inl (cy 4, 1, .inr (.inr (.inr (.inl (fun _ => 0))))))]) (w1 := [(m0, .inr (20, [.int 1, .ref mp, .int 0, .ref b1, .ref b2, .ref b3, .ref b4, .ref b5, .ref mq]))]) [16] [0, 1, 2, 3, 4, 5, 6, 7, 8, 9, 10, 11, 12, 13, 14, 15] rfl rfl (by decide) (by decide) hP hD hk1 hFc hB ht
    generalize H1 = H at hP hS ⊢
    have hP : va_P D vwCl [(pe, .inr (9, [.int 0, .ref a1, .ref a2, .ref a3, .ref a4, .ref a5, .ref a6, .ref a7, .ref a8, .ref a9])), (a1, .inl (cy 0, 20, .inl (fun _ => 0))), (a2, .inl (cy 0, 20, .inl (fun _ => 0))), (ne, .inr (6, [.ref n1, .ref n2, .ref n3, .ref n4, .ref n5])), (n1, .inl (cy 0, 8, .inl (fun _ => 0))), (n2, .inl (cy 0, 8, .inl f2)), (n3, .inl (cy 0, 8, .inl f3)), (n4, .inl (cy 0, 8, .inl f4)), (n5, .inl (cy 1, 8, .inl f5)), (ro, .inl (cy 0, 20, .inl (fun _ => 0))), (b1, .inl (cy 0, 8, .inl (fun _ => 0))), (b2, .inl (cy 0, 8, .inl g2)), (b3, .inl (cy 0, 8, .inl g3)), (b4, .inl (cy 0, 8, .inl g4)), (b5, .inl (cy 1, 8, .inl g5)), (od, .inl (cy 4, 1, .inr (.inr (.inr (.inl (fun _ => 0)))))), (m0, .inr (20, [.int 1, .ref mp, .int 0, .ref b1, .ref b2, .ref b3, .ref b4, .ref b5, .ref mq]))] H := hP
    have hD : va_D A [(pe, .inr (9, [.int 0, .ref a1, .ref a2, .ref a3, .ref a4, .ref a5, .ref a6, .ref a7, .ref a8, .ref a9])), (a1, .inl (cy 0, 20, .inl (fun _ => 0))), (a2, .inl (cy 0, 20, .inl (fun _ => 0))), (ne, .inr (6, [.ref n1, .ref n2, .ref n3, .ref n4, .ref n5])), (n1, .inl (cy 0, 8, .inl (fun _ => 0))), (n2, .inl (cy 0, 8, .inl f2)), (n3, .inl (cy 0, 8, .inl f3)), (n4, .inl (cy 0, 8, .inl f4)), (n5, .inl (cy 1, 8, .inl f5)), (ro, .inl (cy 0, 20, .inl (fun _ => 0))), (b1, .inl (cy 0, 8, .inl (fun _ => 0))), (b2, .inl (cy 0, 8, .inl g2)), (b3, .inl (cy 0, 8, .inl g3)), (b4, .inl (cy 0, 8, .inl g4)), (b5, .inl (cy 1, 8, .inl g5)), (od, .inl (cy 4, 1, .inr (.inr (.inr (.inl (fun _ => 0)))))), (m0, .inr (20, [.int 1, .ref mp, .int 0, .ref b1, .ref b2, .ref b3, .ref b4, .ref b5, .ref mq]))] := hD
    refine W.widen (k := 30) (n := 886) (Nat.le_of_ble_eq_true rfl) (Nat.le_of_ble_eq_true rfl) ?_
    refine lv_iload hx hb dL_law_1965 (lv_at hl 1 rfl) ?_
    refine lv_icmp_eq (tgt := 1972) hx hb dL_law_1967 (by decide) (fun _ => ?_) (fun c_674 => absurd (by decide) c_674)
    refine lv_iload hx hb dL_law_1972 (lv_at hl 1 rfl) ?_
    refine lv_if_ne (tgt := 1989) hx hb dL_law_1974 (by decide) (fun _ => ?_) (fun c_675 => absurd c_675 (by decide))
    refine lv_goto (tgt := 4257) hx hb dL_law_1989 (by decide) ?_
    refine W.widen (k := 60) (n := 1200) (Nat.le_of_ble_eq_true rfl) (Nat.le_of_ble_eq_true rfl) ?_
    exact hend _ _ _ hS (lv_sub hl [7, 2] rfl)
set_option maxHeartbeats 4000000 in
set_option maxRecDepth 100000 in
theorem law_case_24 {p : Program} {l : Launch} {e : Env} {s : State} {m : MethodId} {below : List Frame} {meth : Method} {c : Code} {D : va_G} {cy : Nat → ClassId} {ed b : Nat} {xs : Nat → Int32} {A : Nat → Prop} {Q : State → Prop} (C0 : zx_LW p l s m c D cy ed b xs A)
    {h pe ne pa ro a1 a2 a3 a4 a5 a6 a7 a8 a9 n1 n2 n3 n4 n5 m0 mp b1 b2 b3 b4 b5 mq oa od : Nat} {f2 f3 f4 f5 g2 g3 g4 g5 : Nat → Int32} (hf5 : ∀ j, j < 8 → f5 j = 115) (hg5 : ∀ j, j < 8 → g5 j = 115) {H : Heap} {locs : List Loc} {ls : Array Slot}
    (hP : va_P D vwCl [(h, .inr (13, [.ref pe, .ref ne, .ref pa, .ref ro, .int 0])), (pe, .inr (9, [.int 0, .ref a1, .ref a2, .ref a3, .ref a4, .ref a5, .ref a6, .ref a7, .ref a8, .ref a9])), (a1, .inl (cy 0, 20, .inl (fun _ => 0))), (a2, .inl (cy 0, 20, .inl (fun _ => 0))), (ne, .inr (6, [.ref n1, .ref n2, .ref n3, .ref n4, .ref n5])), (n1, .inl (cy 0, 8, .inl (fun _ => 0))), (n2, .inl (cy 0, 8, .inl f2)), (n3, .inl (cy 0, 8, .inl f3)), (n4, .inl (cy 0, 8, .inl f4)), (n5, .inl (cy 1, 8, .inl f5)), (pa, .inr (4, [.int 0, .ref ed, .int 0])), (ro, .inl (cy 0, 20, .inl (fun _ => 0))), (m0, .inr (20, [.int 0, .ref mp, .int 0, .ref b1, .ref b2, .ref b3, .ref b4, .ref b5, .ref mq])), (b1, .inl (cy 0, 8, .inl (fun _ => 0))), (b2, .inl (cy 0, 8, .inl g2)), (b3, .inl (cy 0, 8, .inl g3)), (b4, .inl (cy 0, 8, .inl g4)), (b5, .inl (cy 1, 8, .inl g5)), (mp, .inr (4, [.int 0, .ref ed, .int 0])), (mq, .inr (4, [.int 0, .ref ed, .int 0])), (oa, .inl (cy 3, 1, .inr (.inl (fun _ => 0)))), (od, .inl (cy 4, 1, .inr (.inr (.inr (.inl (fun _ => 0))))))] H) (hD : va_D A [(h, .inr (13, [.ref pe, .ref ne, .ref pa, .ref ro, .int 0])), (pe, .inr (9, [.int 0, .ref a1, .ref a2, .ref a3, .ref a4, .ref a5, .ref a6, .ref a7, .ref a8, .ref a9])), (a1, .inl (cy 0, 20, .inl (fun _ => 0))), (a2, .inl (cy 0, 20, .inl (fun _ => 0))), (ne, .inr (6, [.ref n1, .ref n2, .ref n3, .ref n4, .ref n5])), (n1, .inl (cy 0, 8, .inl (fun _ => 0))), (n2, .inl (cy 0, 8, .inl f2)), (n3, .inl (cy 0, 8, .inl f3)), (n4, .inl (cy 0, 8, .inl f4)), (n5, .inl (cy 1, 8, .inl f5)), (pa, .inr (4, [.int 0, .ref ed, .int 0])), (ro, .inl (cy 0, 20, .inl (fun _ => 0))), (m0, .inr (20, [.int 0, .ref mp, .int 0, .ref b1, .ref b2, .ref b3, .ref b4, .ref b5, .ref mq])), (b1, .inl (cy 0, 8, .inl (fun _ => 0))), (b2, .inl (cy 0, 8, .inl g2)), (b3, .inl (cy 0, 8, .inl g3)), (b4, .inl (cy 0, 8, .inl g4)), (b5, .inl (cy 1, 8, .inl g5)), (mp, .inr (4, [.int 0, .ref ed, .int 0])), (mq, .inr (4, [.int 0, .ref ed, .int 0])), (oa, .inl (cy 3, 1, .inr (.inl (fun _ => 0)))), (od, .inl (cy 4, 1, .inr (.inr (.inr (.inl (fun _ => 0))))))]) (hS : va_S A s.heap H locs) (hl : lv_has ls 9 [(5, .int 0), (4, .ref od), (3, .ref oa), (2, .ref m0), (1, .ref h), (0, .ref b)])
    (hend : ∀ (H : Heap) (locs : List Loc) (ls : Array Slot), va_S A s.heap H locs → lv_has ls 9 [(0, .ref b), (5, .int 0)] → W p l e room_1 s m #[Value.ref b] below meth c H locs 60 1200 Q (F0 m 4257 ls [])) :
    W p l e room_1 s m #[Value.ref b] below meth c H locs 29 880 Q (F0 m 1992 ls []) := by
  obtain ⟨hx, hb, hml, hst, hown, hts, hX, hbl, hbA, hA, hK, hZ, hN⟩ := C0
  refine lv_aload_n hx hb dL_law_1992 rfl (lv_at hl 4 rfl) ?_
  refine lv_aload_n hx hb dL_law_1993 rfl (lv_at hl 5 rfl) ?_
  refine lv_iload hx hb dL_law_1994 (lv_at hl 0 rfl) ?_
  refine lv_iconst (v := 1) hx hb dL_law_1996 (by decide) ?_
  refine lv_iadd hx hb dL_law_1997 ?_
  refine lv_topi (fun y9 ey9 => ?_)
  obtain rfl : y9 = 1 := by rw [ey9] <;> decide
  refine va_sld hx hb hX hbl hbA hS (zx_bn (by decide)) dL_law_1998 ?_
  refine lv_aload_n hx hb dL_law_1999 rfl (lv_at hl 5 rfl) ?_
  refine lv_iload hx hb dL_law_2000 (lv_at hl 0 rfl) ?_
  refine lv_iconst (v := 2) hx hb dL_law_2002 (by decide) ?_
  refine lv_iadd hx hb dL_law_2003 ?_
  refine lv_topi (fun y9 ey9 => ?_)
  obtain rfl : y9 = 2 := by rw [ey9] <;> decide
  refine va_sld hx hb hX hbl hbA hS (zx_bn (by decide)) dL_law_2004 ?_
  refine lv_aload_n hx hb dL_law_2005 rfl (lv_at hl 2 rfl) ?_
  have hPc := hP.sub (ws' := [(h, .inr (13, [.ref pe, .ref ne, .ref pa, .ref ro, .int 0])), (pa, .inr (4, [.int 0, .ref ed, .int 0])), (oa, .inl (cy 3, 1, .inr (.inl (fun _ => 0))))]) [0, 10, 20] rfl
  have hDc := hD.sub (ws' := [(h, .inr (13, [.ref pe, .ref ne, .ref pa, .ref ro, .int 0])), (pa, .inr (4, [.int 0, .ref ed, .int 0])), (oa, .inl (cy 3, 1, .inr (.inl (fun _ => 0))))]) [0, 10, 20] (by decide) rfl
  have hFc := va_free (wc := [(h, .inr (13, [.ref pe, .ref ne, .ref pa, .ref ro, .int 0])), (pa, .inr (4, [.int 0, .ref ed, .int 0])), (oa, .inl (cy 3, 1, .inr (.inl (fun _ => 0))))]) hD hS hA [0, 10, 20] rfl
  refine vx_calli (vx_runSX (As := [.ref h, .int (xs (1 : Int32).toNatClampNeg), .int (xs (2 : Int32).toNatClampNeg), .ref oa]) (rest := []) ⟨hx, hb, hml, hown, hts⟩ (c_L_transfer l hst D cy ed H.size h pe ne pa ro 0 0 ed oa (fun _ => 0) (xs (1 : Int32).toNatClampNeg) (xs (2 : Int32).toNatClampNeg)) (vx_cwSW 4 hts (zx_GS mm_1195 mm_1196 mm_70 mm_1197) rfl rfl rfl (by decide +kernel) ⟨(Nat.le_of_ble_eq_true rfl), (Nat.le_of_ble_eq_true rfl)⟩) ⟨zx_blind, zx_give hPc hK hDc hS hFc hZ hN⟩ rfl rfl hl.1 rfl (lv_room (Nat.le_of_ble_eq_true rfl)) dL_law_2006 ⟨(Nat.le_of_ble_eq_true rfl), (Nat.le_of_ble_eq_true rfl)⟩) hS (fun q _ h => hFc q h) hFc (fun q _ h => hFc q h) (fun E9 ce9 q9 _ t H locs ht hvm _ hBX hz1 hk1 hS hce hcv hcl => ?_) (fun r9 u t H locs ht hvm hw hB hz1 hk1 hS => ?_)
  · exact hBX.elim
  ·
    obtain rfl : r9 = 1 := hw
    obtain ⟨hP, hD⟩ := zx_join (wr := [(pe, .inr (9, [.int 0, .ref a1, .ref a2, .ref a3, .ref a4, .ref a5, .ref a6, .ref a7, .ref a8, .ref a9])), (a1, .inl (cy 0, 20, .inl (fun _ => 0))), (a2, .inl (cy 0, 20, .inl (fun _ => 0))), (ne, .inr (6, [.ref n1, .ref n2, .ref n3, .ref n4, .ref n5])), (n1, .inl (cy 0, 8, .inl (fun _ => 0))), (n2, .inl (cy 0, 8, .inl f2)), (n3, .inl (cy 0, 8, .inl f3)), (n4, .inl (cy 0, 8, .inl f4)), (n5, .inl (cy 1, 8, .inl f5)), (ro, .inl (cy 0, 20, .inl (fun _ => 0))), (m0, .inr (20, [.int 0, .ref mp, .int 0, .ref b1, .ref b2, .ref b3, .ref b4, .ref b5, .ref mq])), (b1, .inl (cy 0, 8, .inl (fun _ => 0))), (b2, .inl (cy 0, 8, .inl g2)), (b3, .inl (cy 0, 8, .inl g3)), (b4, .inl (cy 0, 8, .inl g4)), (b5, .inl (cy 1, 8, .inl g5)), (mp, .inr (4, [.int 0, .ref ed, .int 0])), (mq, .inr (4, [.int 0, .ref ed, .int 0])), (od, .inl (cy 4, 1, .inr (.inr (.inr (.inl (fun _ => 0))))))]) (w1 := []) [0, 10, 20] [1, 2, 3, 4, 5, 6, 7, 8, 9, 11, 12, 13, 14, 15, 16, 17, 18, 19, 21] rfl rfl (by decide) (by decide) hP hD hk1 hFc hB ht
    have hP : va_P D vwCl [(pe, .inr (9, [.int 0, .ref a1, .ref a2, .ref a3, .ref a4, .ref a5, .ref a6, .ref a7, .ref a8, .ref a9])), (a1, .inl (cy 0, 20, .inl (fun _ => 0))), (a2, .inl (cy 0, 20, .inl (fun _ => 0))), (ne, .inr (6, [.ref n1, .ref n2, .ref n3, .ref n4, .ref n5])), (n1, .inl (cy 0, 8, .inl (fun _ => 0))), (n2, .inl (cy 0, 8, .inl f2)), (n3, .inl (cy 0, 8, .inl f3)), (n4, .inl (cy 0, 8, .inl f4)), (n5, .inl (cy 1, 8, .inl f5)), (ro, .inl (cy 0, 20, .inl (fun _ => 0))), (m0, .inr (20, [.int 0, .ref mp, .int 0, .ref b1, .ref b2, .ref b3, .ref b4, .ref b5, .ref mq])), (b1, .inl (cy 0, 8, .inl (fun _ => 0))), (b2, .inl (cy 0, 8, .inl g2)), (b3, .inl (cy 0, 8, .inl g3)), (b4, .inl (cy 0, 8, .inl g4)), (b5, .inl (cy 1, 8, .inl g5)), (mp, .inr (4, [.int 0, .ref ed, .int 0])), (mq, .inr (4, [.int 0, .ref ed, .int 0])), (od, .inl (cy 4, 1, .inr (.inr (.inr (.inl (fun _ => 0))))))] H := hP
    have hD : va_D A [(pe, .inr (9, [.int 0, .ref a1, .ref a2, .ref a3, .ref a4, .ref a5, .ref a6, .ref a7, .ref a8, .ref a9])), (a1, .inl (cy 0, 20, .inl (fun _ => 0))), (a2, .inl (cy 0, 20, .inl (fun _ => 0))), (ne, .inr (6, [.ref n1, .ref n2, .ref n3, .ref n4, .ref n5])), (n1, .inl (cy 0, 8, .inl (fun _ => 0))), (n2, .inl (cy 0, 8, .inl f2)), (n3, .inl (cy 0, 8, .inl f3)), (n4, .inl (cy 0, 8, .inl f4)), (n5, .inl (cy 1, 8, .inl f5)), (ro, .inl (cy 0, 20, .inl (fun _ => 0))), (m0, .inr (20, [.int 0, .ref mp, .int 0, .ref b1, .ref b2, .ref b3, .ref b4, .ref b5, .ref mq])), (b1, .inl (cy 0, 8, .inl (fun _ => 0))), (b2, .inl (cy 0, 8, .inl g2)), (b3, .inl (cy 0, 8, .inl g3)), (b4, .inl (cy 0, 8, .inl g4)), (b5, .inl (cy 1, 8, .inl g5)), (mp, .inr (4, [.int 0, .ref ed, .int 0])), (mq, .inr (4, [.int 0, .ref ed, .int 0])), (od, .inl (cy 4, 1, .inr (.inr (.inr (.inl (fun _ => 0))))))] := hD
    refine W.widen (k := 30) (n := 886) (Nat.le_of_ble_eq_true rfl) (Nat.le_of_ble_eq_true rfl) ?_
    refine lv_istore (lv' := [(6, .int 1), (5, .int 0), (4, .ref od), (3, .ref oa), (2, .ref m0), (1, .ref h), (0, .ref b)]) hx hb dL_law_2009 hl (by decide) rfl (fun ls hl => ?_)
    refine lv_aload_n hx hb dL_law_2011 rfl (lv_at hl 4 rfl) ?_
    refine lv_aload_n hx hb dL_law_2012 rfl (lv_at hl 6 rfl) ?_
    refine lv_iload hx hb dL_law_2013 (lv_at hl 1 rfl) ?_
    refine lv_iconst (v := 1) hx hb dL_law_2015 (by decide) ?_
    refine lv_iadd hx hb dL_law_2016 ?_
    refine lv_topi (fun y9 ey9 => ?_)
    obtain rfl : y9 = 1 := by rw [ey9] <;> decide
    refine va_sld hx hb hX hbl hbA hS (zx_bn (by decide)) dL_law_2017 ?_
    refine lv_aload_n hx hb dL_law_2018 rfl (lv_at hl 6 rfl) ?_
    refine lv_iload hx hb dL_law_2019 (lv_at hl 1 rfl) ?_
    refine lv_iconst (v := 2) hx hb dL_law_2021 (by decide) ?_
    refine lv_iadd hx hb dL_law_2022 ?_
    refine lv_topi (fun y9 ey9 => ?_)
    obtain rfl : y9 = 2 := by rw [ey9] <;> decide
    refine va_sld hx hb hX hbl hbA hS (zx_bn (by decide)) dL_law_2023 ?_
    have hPc := hP.sub (ws' := [(m0, .inr (20, [.int 0, .ref mp, .int 0, .ref b1, .ref b2, .ref b3, .ref b4, .ref b5, .ref mq])), (mp, .inr (4, [.int 0, .ref ed, .int 0])), (mq, .inr (4, [.int 0, .ref ed, .int 0]))]) [10, 16, 17] rfl
    have hDc := hD.sub (ws' := [(m0, .inr (20, [.int 0, .ref mp, .int 0, .ref b1, .ref b2, .ref b3, .ref b4, .ref b5, .ref mq])), (mp, .inr (4, [.int 0, .ref ed, .int 0])), (mq, .inr (4, [.int 0, .ref ed, .int 0]))]) [10, 16, 17] (by decide) rfl
    have hFc := va_free (wc := [(m0, .inr (20, [.int 0, .ref mp, .int 0, .ref b1, .ref b2, .ref b3, .ref b4, .ref b5, .ref mq])), (mp, .inr (4, [.int 0, .ref ed, .int 0])), (mq, .inr (4, [.int 0, .ref ed, .int 0]))]) hD hS hA [10, 16, 17] rfl
    refine va_calli (va_runV (As := [.int (xs (1 : Int32).toNatClampNeg), .int (xs (2 : Int32).toNatClampNeg)]) (rest := []) ⟨hx, hb, hml, hown, hts⟩ (c_X15_transfer l hst D cy ed H.size m0 mp mq b1 b2 b3 b4 b5 0 0 0 ed 0 ed (xs (1 : Int32).toNatClampNeg) (xs (2 : Int32).toNatClampNeg)) (cwV 2 hts (zx_GV mm_2269 mm_2270 mm_2271 mm_78 mm_2272) rfl rfl rfl (by decide +kernel) ⟨(Nat.le_of_ble_eq_true rfl), (Nat.le_of_ble_eq_true rfl)⟩) ⟨zx_blind, va_recv hK hPc (ci := 20) (q0 := 0) rfl rfl, zx_give hPc hK hDc hS hFc hZ hN⟩ rfl rfl hl.1 rfl (lv_room (Nat.le_of_ble_eq_true rfl)) dL_law_2024 ⟨(Nat.le_of_ble_eq_true rfl), (Nat.le_of_ble_eq_true rfl)⟩) hS (fun q _ h => hFc q h) hFc (fun r9 u t H1 locs ht hvm hw hB hz1 hk1 hS => ?_)
    obtain ⟨r_676, rfl⟩ : ∃ z9, z9 = r9 := ⟨_, rfl⟩
    have h_677 := hw
    obtain ⟨hP, hD⟩ := zx_join (wr := [(pe, .inr (9, [.int 0, .ref a1, .ref a2, .ref a3, .ref a4, .ref a5, .ref a6, .ref a7, .ref a8, .ref a9])), (a1, .inl (cy 0, 20, .inl (fun _ => 0))), (a2, .inl (cy 0, 20, .inl (fun _ => 0))), (ne, .inr (6, [.ref n1, .ref n2, .ref n3, .ref n4, .ref n5])), (n1, .inl (cy 0, 8, .inl (fun _ => 0))), (n2, .inl (cy 0, 8, .inl f2)), (n3, .inl (cy 0, 8, .inl f3)), (n4, .inl (cy 0, 8, .inl f4)), (n5, .inl (cy 1, 8, .inl f5)), (ro, .inl (cy 0, 20, .inl (fun _ => 0))), (b1, .inl (cy 0, 8, .inl (fun _ => 0))), (b2, .inl (cy 0, 8, .inl g2)), (b3, .inl (cy 0, 8, .inl g3)), (b4, .inl (cy 0, 8, .inl g4)), (b5, .inl (cy 1, 8, .inl g5)), (od, .inl (cy 4, 1, .inr (.inr (.inr (.inl (fun _ => 0))))))]) (w1 := [(m0, .inr (20, [.int 1, .ref mp, .int 0, .ref b1, .ref b2, .ref b3, .ref b4, .ref b5, .ref mq]))]) [10, 16, 17] [0, 1, 2, 3, 4, 5, 6, 7, 8, 9, 11, 12, 13, 14, 15, 18] rfl rfl (by decide) (by decide) hP hD hk1 hFc hB ht
    generalize H1 = H at hP hS ⊢
    have hP : va_P D vwCl [(pe, .inr (9, [.int 0, .ref a1, .ref a2, .ref a3, .ref a4, .ref a5, .ref a6, .ref a7, .ref a8, .ref a9])), (a1, .inl (cy 0, 20, .inl (fun _ => 0))), (a2, .inl (cy 0, 20, .inl (fun _ => 0))), (ne, .inr (6, [.ref n1, .ref n2, .ref n3, .ref n4, .ref n5])), (n1, .inl (cy 0, 8, .inl (fun _ => 0))), (n2, .inl (cy 0, 8, .inl f2)), (n3, .inl (cy 0, 8, .inl f3)), (n4, .inl (cy 0, 8, .inl f4)), (n5, .inl (cy 1, 8, .inl f5)), (ro, .inl (cy 0, 20, .inl (fun _ => 0))), (b1, .inl (cy 0, 8, .inl (fun _ => 0))), (b2, .inl (cy 0, 8, .inl g2)), (b3, .inl (cy 0, 8, .inl g3)), (b4, .inl (cy 0, 8, .inl g4)), (b5, .inl (cy 1, 8, .inl g5)), (od, .inl (cy 4, 1, .inr (.inr (.inr (.inl (fun _ => 0)))))), (m0, .inr (20, [.int 1, .ref mp, .int 0, .ref b1, .ref b2, .ref b3, .ref b4, .ref b5, .ref mq]))] H := hP
    have hD : va_D A [(pe, .inr (9, [.int 0, .ref a1, .ref a2, .ref a3, .ref a4, .ref a5, .ref a6, .ref a7, .ref a8, .ref a9])), (a1, .inl (cy 0, 20, .inl (fun _ => 0))), (a2, .inl (cy 0, 20, .inl (fun _ => 0))), (ne, .inr (6, [.ref n1, .ref n2, .ref n3, .ref n4, .ref n5])), (n1, .inl (cy 0, 8, .inl (fun _ => 0))), (n2, .inl (cy 0, 8, .inl f2)), (n3, .inl (cy 0, 8, .inl f3)), (n4, .inl (cy 0, 8, .inl f4)), (n5, .inl (cy 1, 8, .inl f5)), (ro, .inl (cy 0, 20, .inl (fun _ => 0))), (b1, .inl (cy 0, 8, .inl (fun _ => 0))), (b2, .inl (cy 0, 8, .inl g2)), (b3, .inl (cy 0, 8, .inl g3)), (b4, .inl (cy 0, 8, .inl g4)), (b5, .inl (cy 1, 8, .inl g5)), (od, .inl (cy 4, 1, .inr (.inr (.inr (.inl (fun _ => 0)))))), (m0, .inr (20, [.int 1, .ref mp, .int 0, .ref b1, .ref b2, .ref b3, .ref b4, .ref b5, .ref mq]))] := hD
    refine W.widen (k := 30) (n := 886) (Nat.le_of_ble_eq_true rfl) (Nat.le_of_ble_eq_true rfl) ?_
    refine lv_istore (lv' := [(7, .int r_676), (6, .int 1), (5, .int 0), (4, .ref od), (3, .ref oa), (2, .ref m0), (1, .ref h), (0, .ref b)]) hx hb dL_law_2027 hl (by decide) rfl (fun ls hl => ?_)
    refine lv_aload_n hx hb dL_law_2029 rfl (lv_at hl 5 rfl) ?_
    have hPc := hP.sub (ws' := [(m0, .inr (20, [.int 1, .ref mp, .int 0, .ref b1, .ref b2, .ref b3, .ref b4, .ref b5, .ref mq]))]) [16] rfl
    have hDc := hD.sub (ws' := [(m0, .inr (20, [.int 1, .ref mp, .int 0, .ref b1, .ref b2, .ref b3, .ref b4, .ref b5, .ref mq]))]) [16] (by decide) rfl
    have hFc := va_free (wc := [(m0, .inr (20, [.int 1, .ref mp, .int 0, .ref b1, .ref b2, .ref b3, .ref b4, .ref b5, .ref mq]))]) hD hS hA [16] rfl
    refine va_calli (va_runV (As := []) (rest := []) ⟨hx, hb, hml, hown, hts⟩ (c_X15_thrown l hst D cy ed H.size m0 mp mq b1 b2 b3 b4 b5 1 0) (cwV 0 hts (zx_GV mm_1599 mm_1600 mm_1601 mm_78 mm_1602) rfl rfl rfl (by decide +kernel) ⟨(Nat.le_of_ble_eq_true rfl), (Nat.le_of_ble_eq_true rfl)⟩) ⟨zx_blind, va_recv hK hPc (ci := 20) (q0 := 0) rfl rfl, zx_give hPc hK hDc hS hFc hZ hN⟩ rfl rfl hl.1 rfl (lv_room (Nat.le_of_ble_eq_true rfl)) dL_law_2030 ⟨(Nat.le_of_ble_eq_true rfl), (Nat.le_of_ble_eq_true rfl)⟩) hS (fun q _ h => hFc q h) hFc (fun r9 u t H1 locs ht hvm hw hB hz1 hk1 hS => ?_)
    obtain rfl : r9 = 1 := hw
    obtain ⟨hP, hD⟩ := zx_join (wr := [(pe, .inr (9, [.int 0, .ref a1, .ref a2, .ref a3, .ref a4, .ref a5, .ref a6, .ref a7, .ref a8, .ref a9])), (a1, .inl (cy 0, 20, .inl (fun _ => 0))), (a2, .inl (cy 0, 20, .inl (fun _ => 0))), (ne, .inr (6, [.ref n1, .ref n2, .ref n3, .ref n4, .ref n5])), (n1, .inl (cy 0, 8, .inl (fun _ => 0))), (n2, .inl (cy 0, 8, .inl f2)), (n3, .inl (cy 0, 8, .inl f3)), (n4, .inl (cy 0, 8, .inl f4)), (n5, .inl (cy 1, 8, .inl f5)), (ro, .inl (cy 0, 20, .inl (fun _ => 0))), (b1, .inl (cy 0, 8, .inl (fun _ => 0))), (b2, .inl (cy 0, 8, .inl g2)), (b3, .inl (cy 0, 8, .inl g3)), (b4, .inl (cy 0, 8, .inl g4)), (b5, .inl (cy 1, 8, .inl g5)), (od, .inl (cy 4, 1, .inr (.inr (.inr (.inl (fun _ => 0))))))]) (w1 := [(m0, .inr (20, [.int 1, .ref mp, .int 0, .ref b1, .ref b2, .ref b3, .ref b4, .ref b5, .ref mq]))]) [16] [0, 1, 2, 3, 4, 5, 6, 7, 8, 9, 10, 11, 12, 13, 14, 15] rfl rfl (by decide) (by decide) hP hD hk1 hFc hB ht
    generalize H1 = H at hP hS ⊢
    have hP : va_P D vwCl [(pe, .inr (9, [.int 0, .ref a1, .ref a2, .ref a3, .ref a4, .ref a5, .ref a6, .ref a7, .ref a8, .ref a9])), (a1, .inl (cy 0, 20, .inl (fun _ => 0))), (a2, .inl (cy 0, 20, .inl (fun _ => 0))), (ne, .inr (6, [.ref n1, .ref n2, .ref n3, .ref n4, .ref n5])), (n1, .inl (cy 0, 8, .inl (fun _ => 0))), (n2, .inl (cy 0, 8, .inl f2)), (n3, .inl (cy 0, 8, .inl f3)), (n4, .inl (cy 0, 8, .inl f4)), (n5, .inl (cy 1, 8, .inl f5)), (ro, .inl (cy 0, 20, .inl (fun _ => 0))), (b1, .inl (cy 0, 8, .inl (fun _ => 0))), (b2, .inl (cy 0, 8, .inl g2)), (b3, .inl (cy 0, 8, .inl g3)), (b4, .inl (cy 0, 8, .inl g4)), (b5, .inl (cy 1, 8, .inl g5)), (od, .inl (cy 4, 1, .inr (.inr (.inr (.inl (fun _ => 0)))))), (m0, .inr (20, [.int 1, .ref mp, .int 0, .ref b1, .ref b2, .ref b3, .ref b4, .ref b5, .ref mq]))] H := hP
    have hD : va_D A [(pe, .inr (9, [.int 0, .ref a1, .ref a2, .ref a3, .ref a4, .ref a5, .ref a6, .ref a7, .ref a8, .ref a9])), (a1, .inl (cy 0, 20, .inl (fun _ => 0))), (a2, .inl (cy 0, 20, .inl (fun _ => 0))), (ne, .inr (6, [.ref n1, .ref n2, .ref n3, .ref n4, .ref n5])), (n1, .inl (cy 0, 8, .inl (fun _ => 0))), (n2, .inl (cy 0, 8, .inl f2)), (n3, .inl (cy 0, 8, .inl f3)), (n4, .inl (cy 0, 8, .inl f4)), (n5, .inl (cy 1, 8, .inl f5)), (ro, .inl (cy 0, 20, .inl (fun _ => 0))), (b1, .inl (cy 0, 8, .inl (fun _ => 0))), (b2, .inl (cy 0, 8, .inl g2)), (b3, .inl (cy 0, 8, .inl g3)), (b4, .inl (cy 0, 8, .inl g4)), (b5, .inl (cy 1, 8, .inl g5)), (od, .inl (cy 4, 1, .inr (.inr (.inr (.inl (fun _ => 0)))))), (m0, .inr (20, [.int 1, .ref mp, .int 0, .ref b1, .ref b2, .ref b3, .ref b4, .ref b5, .ref mq]))] := hD
    refine W.widen (k := 30) (n := 886) (Nat.le_of_ble_eq_true rfl) (Nat.le_of_ble_eq_true rfl) ?_
    refine lv_iload hx hb dL_law_2033 (lv_at hl 1 rfl) ?_
    refine lv_icmp_eq (tgt := 2040) hx hb dL_law_2035 (by decide) (fun _ => ?_) (fun c_678 => absurd (by decide) c_678)
    refine lv_iload hx hb dL_law_2040 (lv_at hl 1 rfl) ?_
    refine lv_if_ne (tgt := 2057) hx hb dL_law_2042 (by decide) (fun _ => ?_) (fun c_679 => absurd c_679 (by decide))
    refine lv_goto (tgt := 4257) hx hb dL_law_2057 (by decide) ?_
    refine W.widen (k := 60) (n := 1200) (Nat.le_of_ble_eq_true rfl) (Nat.le_of_ble_eq_true rfl) ?_
    exact hend _ _ _ hS (lv_sub hl [7, 2] rfl)
set_option maxHeartbeats 4000000 in
set_option maxRecDepth 100000 in
theorem law_case_25 {p : Program} {l : Launch} {e : Env} {s : State} {m : MethodId} {below : List Frame} {meth : Method} {c : Code} {D : va_G} {cy : Nat → ClassId} {ed b : Nat} {xs : Nat → Int32} {A : Nat → Prop} {Q : State → Prop} (C0 : zx_LW p l s m c D cy ed b xs A)
    {h pe ne pa ro a1 a2 a3 a4 a5 a6 a7 a8 a9 n1 n2 n3 n4 n5 m0 mp b1 b2 b3 b4 b5 mq oa od : Nat} {f2 f3 f4 f5 g2 g3 g4 g5 : Nat → Int32} (hf5 : ∀ j, j < 8 → f5 j = 115) (hg5 : ∀ j, j < 8 → g5 j = 115) {H : Heap} {locs : List Loc} {ls : Array Slot}
    (hP : va_P D vwCl [(h, .inr (13, [.ref pe, .ref ne, .ref pa, .ref ro, .int 0])), (pe, .inr (9, [.int 0, .ref a1, .ref a2, .ref a3, .ref a4, .ref a5, .ref a6, .ref a7, .ref a8, .ref a9])), (a1, .inl (cy 0, 20, .inl (fun _ => 0))), (a2, .inl (cy 0, 20, .inl (fun _ => 0))), (ne, .inr (6, [.ref n1, .ref n2, .ref n3, .ref n4, .ref n5])), (n1, .inl (cy 0, 8, .inl (fun _ => 0))), (n2, .inl (cy 0, 8, .inl f2)), (n3, .inl (cy 0, 8, .inl f3)), (n4, .inl (cy 0, 8, .inl f4)), (n5, .inl (cy 1, 8, .inl f5)), (pa, .inr (4, [.int 0, .ref ed, .int 0])), (ro, .inl (cy 0, 20, .inl (fun _ => 0))), (m0, .inr (20, [.int 0, .ref mp, .int 0, .ref b1, .ref b2, .ref b3, .ref b4, .ref b5, .ref mq])), (b1, .inl (cy 0, 8, .inl (fun _ => 0))), (b2, .inl (cy 0, 8, .inl g2)), (b3, .inl (cy 0, 8, .inl g3)), (b4, .inl (cy 0, 8, .inl g4)), (b5, .inl (cy 1, 8, .inl g5)), (mp, .inr (4, [.int 0, .ref ed, .int 0])), (mq, .inr (4, [.int 0, .ref ed, .int 0])), (oa, .inl (cy 3, 1, .inr (.inl (fun _ => 0)))), (od, .inl (cy 4, 1, .inr (.inr (.inr (.inl (fun _ => 0))))))] H) (hD : va_D A [(h, .inr (13, [.ref pe, .ref ne, .ref pa, .ref ro, .int 0])), (pe, .inr (9, [.int 0, .ref a1, .ref a2, .ref a3, .ref a4, .ref a5, .ref a6, .ref a7, .ref a8, .ref a9])), (a1, .inl (cy 0, 20, .inl (fun _ => 0))), (a2, .inl (cy 0, 20, .inl (fun _ => 0))), (ne, .inr (6, [.ref n1, .ref n2, .ref n3, .ref n4, .ref n5])), (n1, .inl (cy 0, 8, .inl (fun _ => 0))), (n2, .inl (cy 0, 8, .inl f2)), (n3, .inl (cy 0, 8, .inl f3)), (n4, .inl (cy 0, 8, .inl f4)), (n5, .inl (cy 1, 8, .inl f5)), (pa, .inr (4, [.int 0, .ref ed, .int 0])), (ro, .inl (cy 0, 20, .inl (fun _ => 0))), (m0, .inr (20, [.int 0, .ref mp, .int 0, .ref b1, .ref b2, .ref b3, .ref b4, .ref b5, .ref mq])), (b1, .inl (cy 0, 8, .inl (fun _ => 0))), (b2, .inl (cy 0, 8, .inl g2)), (b3, .inl (cy 0, 8, .inl g3)), (b4, .inl (cy 0, 8, .inl g4)), (b5, .inl (cy 1, 8, .inl g5)), (mp, .inr (4, [.int 0, .ref ed, .int 0])), (mq, .inr (4, [.int 0, .ref ed, .int 0])), (oa, .inl (cy 3, 1, .inr (.inl (fun _ => 0)))), (od, .inl (cy 4, 1, .inr (.inr (.inr (.inl (fun _ => 0))))))]) (hS : va_S A s.heap H locs) (hl : lv_has ls 9 [(5, .int 0), (4, .ref od), (3, .ref oa), (2, .ref m0), (1, .ref h), (0, .ref b)])
    (hend : ∀ (H : Heap) (locs : List Loc) (ls : Array Slot), va_S A s.heap H locs → lv_has ls 9 [(0, .ref b), (5, .int 0)] → W p l e room_1 s m #[Value.ref b] below meth c H locs 60 1200 Q (F0 m 4257 ls [])) :
    W p l e room_1 s m #[Value.ref b] below meth c H locs 29 880 Q (F0 m 2060 ls []) := by
  obtain ⟨hx, hb, hml, hst, hown, hts, hX, hbl, hbA, hA, hK, hZ, hN⟩ := C0
  refine lv_aload_n hx hb dL_law_2060 rfl (lv_at hl 4 rfl) ?_
  refine lv_aload_n hx hb dL_law_2061 rfl (lv_at hl 5 rfl) ?_
  refine lv_iload hx hb dL_law_2062 (lv_at hl 0 rfl) ?_
  refine lv_iconst (v := 1) hx hb dL_law_2064 (by decide) ?_
  refine lv_iadd hx hb dL_law_2065 ?_
  refine lv_topi (fun y9 ey9 => ?_)
  obtain rfl : y9 = 1 := by rw [ey9] <;> decide
  refine va_sld hx hb hX hbl hbA hS (zx_bn (by decide)) dL_law_2066 ?_
  refine lv_aload_n hx hb dL_law_2067 rfl (lv_at hl 2 rfl) ?_
  have hPc := hP.sub (ws' := [(h, .inr (13, [.ref pe, .ref ne, .ref pa, .ref ro, .int 0])), (pa, .inr (4, [.int 0, .ref ed, .int 0])), (oa, .inl (cy 3, 1, .inr (.inl (fun _ => 0))))]) [0, 10, 20] rfl
  have hDc := hD.sub (ws' := [(h, .inr (13, [.ref pe, .ref ne, .ref pa, .ref ro, .int 0])), (pa, .inr (4, [.int 0, .ref ed, .int 0])), (oa, .inl (cy 3, 1, .inr (.inl (fun _ => 0))))]) [0, 10, 20] (by decide) rfl
  have hFc := va_free (wc := [(h, .inr (13, [.ref pe, .ref ne, .ref pa, .ref ro, .int 0])), (pa, .inr (4, [.int 0, .ref ed, .int 0])), (oa, .inl (cy 3, 1, .inr (.inl (fun _ => 0))))]) hD hS hA [0, 10, 20] rfl
  refine vx_calli (vx_runSX (As := [.ref h, .int (xs (1 : Int32).toNatClampNeg), .ref oa]) (rest := []) ⟨hx, hb, hml, hown, hts⟩ (c_L_showAhead l hst D cy ed H.size h pe ne pa ro 0 0 ed oa (fun _ => 0) (xs (1 : Int32).toNatClampNeg)) (vx_cwSW 3 hts (zx_GS mm_1202 mm_1203 mm_70 mm_1204) rfl rfl rfl (by decide +kernel) ⟨(Nat.le_of_ble_eq_true rfl), (Nat.le_of_ble_eq_true rfl)⟩) ⟨zx_blind, zx_give hPc hK hDc hS hFc hZ hN⟩ rfl rfl hl.1 rfl (lv_room (Nat.le_of_ble_eq_true rfl)) dL_law_2068 ⟨(Nat.le_of_ble_eq_true rfl), (Nat.le_of_ble_eq_true rfl)⟩) hS (fun q _ h => hFc q h) hFc (fun q _ h => hFc q h) (fun E9 ce9 q9 _ t H locs ht hvm _ hBX hz1 hk1 hS hce hcv hcl => ?_) (fun r9 u t H locs ht hvm hw hB hz1 hk1 hS => ?_)
  · exact hBX.elim
  ·
    obtain rfl : r9 = 1 := hw
    obtain ⟨hP, hD⟩ := zx_join (wr := [(pe, .inr (9, [.int 0, .ref a1, .ref a2, .ref a3, .ref a4, .ref a5, .ref a6, .ref a7, .ref a8, .ref a9])), (a1, .inl (cy 0, 20, .inl (fun _ => 0))), (a2, .inl (cy 0, 20, .inl (fun _ => 0))), (ne, .inr (6, [.ref n1, .ref n2, .ref n3, .ref n4, .ref n5])), (n1, .inl (cy 0, 8, .inl (fun _ => 0))), (n2, .inl (cy 0, 8, .inl f2)), (n3, .inl (cy 0, 8, .inl f3)), (n4, .inl (cy 0, 8, .inl f4)), (n5, .inl (cy 1, 8, .inl f5)), (ro, .inl (cy 0, 20, .inl (fun _ => 0))), (m0, .inr (20, [.int 0, .ref mp, .int 0, .ref b1, .ref b2, .ref b3, .ref b4, .ref b5, .ref mq])), (b1, .inl (cy 0, 8, .inl (fun _ => 0))), (b2, .inl (cy 0, 8, .inl g2)), (b3, .inl (cy 0, 8, .inl g3)), (b4, .inl (cy 0, 8, .inl g4)), (b5, .inl (cy 1, 8, .inl g5)), (mp, .inr (4, [.int 0, .ref ed, .int 0])), (mq, .inr (4, [.int 0, .ref ed, .int 0])), (od, .inl (cy 4, 1, .inr (.inr (.inr (.inl (fun _ => 0))))))]) (w1 := []) [0, 10, 20] [1, 2, 3, 4, 5, 6, 7, 8, 9, 11, 12, 13, 14, 15, 16, 17, 18, 19, 21] rfl rfl (by decide) (by decide) hP hD hk1 hFc hB ht
    have hP : va_P D vwCl [(pe, .inr (9, [.int 0, .ref a1, .ref a2, .ref a3, .ref a4, .ref a5, .ref a6, .ref a7, .ref a8, .ref a9])), (a1, .inl (cy 0, 20, .inl (fun _ => 0))), (a2, .inl (cy 0, 20, .inl (fun _ => 0))), (ne, .inr (6, [.ref n1, .ref n2, .ref n3, .ref n4, .ref n5])), (n1, .inl (cy 0, 8, .inl (fun _ => 0))), (n2, .inl (cy 0, 8, .inl f2)), (n3, .inl (cy 0, 8, .inl f3)), (n4, .inl (cy 0, 8, .inl f4)), (n5, .inl (cy 1, 8, .inl f5)), (ro, .inl (cy 0, 20, .inl (fun _ => 0))), (m0, .inr (20, [.int 0, .ref mp, .int 0, .ref b1, .ref b2, .ref b3, .ref b4, .ref b5, .ref mq])), (b1, .inl (cy 0, 8, .inl (fun _ => 0))), (b2, .inl (cy 0, 8, .inl g2)), (b3, .inl (cy 0, 8, .inl g3)), (b4, .inl (cy 0, 8, .inl g4)), (b5, .inl (cy 1, 8, .inl g5)), (mp, .inr (4, [.int 0, .ref ed, .int 0])), (mq, .inr (4, [.int 0, .ref ed, .int 0])), (od, .inl (cy 4, 1, .inr (.inr (.inr (.inl (fun _ => 0))))))] H := hP
    have hD : va_D A [(pe, .inr (9, [.int 0, .ref a1, .ref a2, .ref a3, .ref a4, .ref a5, .ref a6, .ref a7, .ref a8, .ref a9])), (a1, .inl (cy 0, 20, .inl (fun _ => 0))), (a2, .inl (cy 0, 20, .inl (fun _ => 0))), (ne, .inr (6, [.ref n1, .ref n2, .ref n3, .ref n4, .ref n5])), (n1, .inl (cy 0, 8, .inl (fun _ => 0))), (n2, .inl (cy 0, 8, .inl f2)), (n3, .inl (cy 0, 8, .inl f3)), (n4, .inl (cy 0, 8, .inl f4)), (n5, .inl (cy 1, 8, .inl f5)), (ro, .inl (cy 0, 20, .inl (fun _ => 0))), (m0, .inr (20, [.int 0, .ref mp, .int 0, .ref b1, .ref b2, .ref b3, .ref b4, .ref b5, .ref mq])), (b1, .inl (cy 0, 8, .inl (fun _ => 0))), (b2, .inl (cy 0, 8, .inl g2)), (b3, .inl (cy 0, 8, .inl g3)), (b4, .inl (cy 0, 8, .inl g4)), (b5, .inl (cy 1, 8, .inl g5)), (mp, .inr (4, [.int 0, .ref ed, .int 0])), (mq, .inr (4, [.int 0, .ref ed, .int 0])), (od, .inl (cy 4, 1, .inr (.inr (.inr (.inl (fun _ => 0))))))] := hD
    refine W.widen (k := 30) (n := 886) (Nat.le_of_ble_eq_true rfl) (Nat.le_of_ble_eq_true rfl) ?_
    refine lv_istore (lv' := [(6, .int 1), (5, .int 0), (4, .ref od), (3, .ref oa), (2, .ref m0), (1, .ref h), (0, .ref b)]) hx hb dL_law_2071 hl (by decide) rfl (fun ls hl => ?_)
    refine lv_aload_n hx hb dL_law_2073 rfl (lv_at hl 4 rfl) ?_
    refine lv_aload_n hx hb dL_law_2074 rfl (lv_at hl 6 rfl) ?_
    refine lv_iload hx hb dL_law_2075 (lv_at hl 1 rfl) ?_
    refine lv_iconst (v := 1) hx hb dL_law_2077 (by decide) ?_
    refine lv_iadd hx hb dL_law_2078 ?_
    refine lv_topi (fun y9 ey9 => ?_)
    obtain rfl : y9 = 1 := by rw [ey9] <;> decide
    refine va_sld hx hb hX hbl hbA hS (zx_bn (by decide)) dL_law_2079 ?_
    have hPc := hP.sub (ws' := [(m0, .inr (20, [.int 0, .ref mp, .int 0, .ref b1, .ref b2, .ref b3, .ref b4, .ref b5, .ref mq])), (mp, .inr (4, [.int 0, .ref ed, .int 0])), (mq, .inr (4, [.int 0, .ref ed, .int 0]))]) [10, 16, 17] rfl
    have hDc := hD.sub (ws' := [(m0, .inr (20, [.int 0, .ref mp, .int 0, .ref b1, .ref b2, .ref b3, .ref b4, .ref b5, .ref mq])), (mp, .inr (4, [.int 0, .ref ed, .int 0])), (mq, .inr (4, [.int 0, .ref ed, .int 0]))]) [10, 16, 17] (by decide) rfl
    have hFc := va_free (wc := [(m0, .inr (20, [.int 0, .ref mp, .int 0, .ref b1, .ref b2, .ref b3, .ref b4, .ref b5, .ref mq])), (mp, .inr (4, [.int 0, .ref ed, .int 0])), (mq, .inr (4, [.int 0, .ref ed, .int 0]))]) hD hS hA [10, 16, 17] rfl
    refine va_calli (va_runV (As := [.int (xs (1 : Int32).toNatClampNeg)]) (rest := []) ⟨hx, hb, hml, hown, hts⟩ (c_X15_showAhead l hst D cy ed H.size m0 mp mq b1 b2 b3 b4 b5 0 0 0 ed 0 ed (xs (1 : Int32).toNatClampNeg)) (cwV 1 hts (zx_GV mm_2297 mm_2298 mm_2299 mm_78 mm_2300) rfl rfl rfl (by decide +kernel) ⟨(Nat.le_of_ble_eq_true rfl), (Nat.le_of_ble_eq_true rfl)⟩) ⟨zx_blind, va_recv hK hPc (ci := 20) (q0 := 0) rfl rfl, zx_give hPc hK hDc hS hFc hZ hN⟩ rfl rfl hl.1 rfl (lv_room (Nat.le_of_ble_eq_true rfl)) dL_law_2080 ⟨(Nat.le_of_ble_eq_true rfl), (Nat.le_of_ble_eq_true rfl)⟩) hS (fun q _ h => hFc q h) hFc (fun r9 u t H1 locs ht hvm hw hB hz1 hk1 hS => ?_)
    obtain ⟨r_680, rfl⟩ : ∃ z9, z9 = r9 := ⟨_, rfl⟩
    have h_681 := hw
    obtain ⟨hP, hD⟩ := zx_join (wr := [(pe, .inr (9, [.int 0, .ref a1, .ref a2, .ref a3, .ref a4, .ref a5, .ref a6, .ref a7, .ref a8, .ref a9])), (a1, .inl (cy 0, 20, .inl (fun _ => 0))), (a2, .inl (cy 0, 20, .inl (fun _ => 0))), (ne, .inr (6, [.ref n1, .ref n2, .ref n3, .ref n4, .ref n5])), (n1, .inl (cy 0, 8, .inl (fun _ => 0))), (n2, .inl (cy 0, 8, .inl f2)), (n3, .inl (cy 0, 8, .inl f3)), (n4, .inl (cy 0, 8, .inl f4)), (n5, .inl (cy 1, 8, .inl f5)), (ro, .inl (cy 0, 20, .inl (fun _ => 0))), (b1, .inl (cy 0, 8, .inl (fun _ => 0))), (b2, .inl (cy 0, 8, .inl g2)), (b3, .inl (cy 0, 8, .inl g3)), (b4, .inl (cy 0, 8, .inl g4)), (b5, .inl (cy 1, 8, .inl g5)), (od, .inl (cy 4, 1, .inr (.inr (.inr (.inl (fun _ => 0))))))]) (w1 := [(m0, .inr (20, [.int 1, .ref mp, .int 0, .ref b1, .ref b2, .ref b3, .ref b4, .ref b5, .ref mq]))]) [10, 16, 17] [0, 1, 2, 3, 4, 5, 6, 7, 8, 9, 11, 12, 13, 14, 15, 18] rfl rfl (by decide) (by decide) hP hD hk1 hFc hB ht
    generalize H1 = H at hP hS ⊢
    have hP : va_P D vwCl [(pe, .inr (9, [.int 0, .ref a1, .ref a2, .ref a3, .ref a4, .ref a5, .ref a6, .ref a7, .ref a8, .ref a9])), (a1, .inl (cy 0, 20, .inl (fun _ => 0))), (a2, .inl (cy 0, 20, .inl (fun _ => 0))), (ne, .inr (6, [.ref n1, .ref n2, .ref n3, .ref n4, .ref n5])), (n1, .inl (cy 0, 8, .inl (fun _ => 0))), (n2, .inl (cy 0, 8, .inl f2)), (n3, .inl (cy 0, 8, .inl f3)), (n4, .inl (cy 0, 8, .inl f4)), (n5, .inl (cy 1, 8, .inl f5)), (ro, .inl (cy 0, 20, .inl (fun _ => 0))), (b1, .inl (cy 0, 8, .inl (fun _ => 0))), (b2, .inl (cy 0, 8, .inl g2)), (b3, .inl (cy 0, 8, .inl g3)), (b4, .inl (cy 0, 8, .inl g4)), (b5, .inl (cy 1, 8, .inl g5)), (od, .inl (cy 4, 1, .inr (.inr (.inr (.inl (fun _ => 0)))))), (m0, .inr (20, [.int 1, .ref mp, .int 0, .ref b1, .ref b2, .ref b3, .ref b4, .ref b5, .ref mq]))] H := hP
    have hD : va_D A [(pe, .inr (9, [.int 0, .ref a1, .ref a2, .ref a3, .ref a4, .ref a5, .ref a6, .ref a7, .ref a8, .ref a9])), (a1, .inl (cy 0, 20, .inl (fun _ => 0))), (a2, .inl (cy 0, 20, .inl (fun _ => 0))), (ne, .inr (6, [.ref n1, .ref n2, .ref n3, .ref n4, .ref n5])), (n1, .inl (cy 0, 8, .inl (fun _ => 0))), (n2, .inl (cy 0, 8, .inl f2)), (n3, .inl (cy 0, 8, .inl f3)), (n4, .inl (cy 0, 8, .inl f4)), (n5, .inl (cy 1, 8, .inl f5)), (ro, .inl (cy 0, 20, .inl (fun _ => 0))), (b1, .inl (cy 0, 8, .inl (fun _ => 0))), (b2, .inl (cy 0, 8, .inl g2)), (b3, .inl (cy 0, 8, .inl g3)), (b4, .inl (cy 0, 8, .inl g4)), (b5, .inl (cy 1, 8, .inl g5)), (od, .inl (cy 4, 1, .inr (.inr (.inr (.inl (fun _ => 0)))))), (m0, .inr (20, [.int 1, .ref mp, .int 0, .ref b1, .ref b2, .ref b3, .ref b4, .ref b5, .ref mq]))] := hD
    refine W.widen (k := 30) (n := 886) (Nat.le_of_ble_eq_true rfl) (Nat.le_of_ble_eq_true rfl) ?_
    refine lv_istore (lv' := [(7, .int r_680), (6, .int 1), (5, .int 0), (4, .ref od), (3, .ref oa), (2, .ref m0), (1, .ref h), (0, .ref b)]) hx hb dL_law_2083 hl (by decide) rfl (fun ls hl => ?_)
    refine lv_aload_n hx hb dL_law_2085 rfl (lv_at hl 5 rfl) ?_
    have hPc := hP.sub (ws' := [(m0, .inr (20, [.int 1, .ref mp, .int 0, .ref b1, .ref b2, .ref b3, .ref b4, .ref b5, .ref mq]))]) [16] rfl
    have hDc := hD.sub (ws' := [(m0, .inr (20, [.int 1, .ref mp, .int 0, .ref b1, .ref b2, .ref b3, .ref b4, .ref b5, .ref mq]))]) [16] (by decide) rfl
    have hFc := va_free (wc := [(m0, .inr (20, [.int 1, .ref mp, .int 0, .ref b1, .ref b2, .ref b3, .ref b4, .ref b5, .ref mq]))]) hD hS hA [16] rfl
    refine va_calli (va_runV (As := []) (rest := []) ⟨hx, hb, hml, hown, hts⟩ (c_X15_thrown l hst D cy ed H.size m0 mp mq b1 b2 b3 b4 b5 1 0) (cwV 0 hts (zx_GV mm_1599 mm_1600 mm_1601 mm_78 mm_1602) rfl rfl rfl (by decide +kernel) ⟨(Nat.le_of_ble_eq_true rfl), (Nat.le_of_ble_eq_true rfl)⟩) ⟨zx_blind, va_recv hK hPc (ci := 20) (q0 := 0) rfl rfl, zx_give hPc hK hDc hS hFc hZ hN⟩ rfl rfl hl.1 rfl (lv_room (Nat.le_of_ble_eq_true rfl)) dL_law_2086 ⟨(Nat.le_of_ble_eq_true rfl), (Nat.le_of_ble_eq_true rfl)⟩) hS (fun q _ h => hFc q h) hFc (fun r9 u t H1 locs ht hvm hw hB hz1 hk1 hS => ?_)
    obtain rfl : r9 = 1 := hw
    obtain ⟨hP, hD⟩ := zx_join (wr := [(pe, .inr (9, [.int 0, .ref a1, .ref a2, .ref a3, .ref a4, .ref a5, .ref a6, .ref a7, .ref a8, .ref a9])), (a1, .inl (cy 0, 20, .inl (fun _ => 0))), (a2, .inl (cy 0, 20, .inl (fun _ => 0))), (ne, .inr (6, [.ref n1, .ref n2, .ref n3, .ref n4, .ref n5])), (n1, .inl (cy 0, 8, .inl (fun _ => 0))), (n2, .inl (cy 0, 8, .inl f2)), (n3, .inl (cy 0, 8, .inl f3)), (n4, .inl (cy 0, 8, .inl f4)), (n5, .inl (cy 1, 8, .inl f5)), (ro, .inl (cy 0, 20, .inl (fun _ => 0))), (b1, .inl (cy 0, 8, .inl (fun _ => 0))), (b2, .inl (cy 0, 8, .inl g2)), (b3, .inl (cy 0, 8, .inl g3)), (b4, .inl (cy 0, 8, .inl g4)), (b5, .inl (cy 1, 8, .inl g5)), (od, .inl (cy 4, 1, .inr (.inr (.inr (.inl (fun _ => 0))))))]) (w1 := [(m0, .inr (20, [.int 1, .ref mp, .int 0, .ref b1, .ref b2, .ref b3, .ref b4, .ref b5, .ref mq]))]) [16] [0, 1, 2, 3, 4, 5, 6, 7, 8, 9, 10, 11, 12, 13, 14, 15] rfl rfl (by decide) (by decide) hP hD hk1 hFc hB ht
    generalize H1 = H at hP hS ⊢
    have hP : va_P D vwCl [(pe, .inr (9, [.int 0, .ref a1, .ref a2, .ref a3, .ref a4, .ref a5, .ref a6, .ref a7, .ref a8, .ref a9])), (a1, .inl (cy 0, 20, .inl (fun _ => 0))), (a2, .inl (cy 0, 20, .inl (fun _ => 0))), (ne, .inr (6, [.ref n1, .ref n2, .ref n3, .ref n4, .ref n5])), (n1, .inl (cy 0, 8, .inl (fun _ => 0))), (n2, .inl (cy 0, 8, .inl f2)), (n3, .inl (cy 0, 8, .inl f3)), (n4, .inl (cy 0, 8, .inl f4)), (n5, .inl (cy 1, 8, .inl f5)), (ro, .inl (cy 0, 20, .inl (fun _ => 0))), (b1, .inl (cy 0, 8, .inl (fun _ => 0))), (b2, .inl (cy 0, 8, .inl g2)), (b3, .inl (cy 0, 8, .inl g3)), (b4, .inl (cy 0, 8, .inl g4)), (b5, .inl (cy 1, 8, .inl g5)), (od, .inl (cy 4, 1, .inr (.inr (.inr (.inl (fun _ => 0)))))), (m0, .inr (20, [.int 1, .ref mp, .int 0, .ref b1, .ref b2, .ref b3, .ref b4, .ref b5, .ref mq]))] H := hP
    have hD : va_D A [(pe, .inr (9, [.int 0, .ref a1, .ref a2, .ref a3, .ref a4, .ref a5, .ref a6, .ref a7, .ref a8, .ref a9])), (a1, .inl (cy 0, 20, .inl (fun _ => 0))), (a2, .inl (cy 0, 20, .inl (fun _ => 0))), (ne, .inr (6, [.ref n1, .ref n2, .ref n3, .ref n4, .ref n5])), (n1, .inl (cy 0, 8, .inl (fun _ => 0))), (n2, .inl (cy 0, 8, .inl f2)), (n3, .inl (cy 0, 8, .inl f3)), (n4, .inl (cy 0, 8, .inl f4)), (n5, .inl (cy 1, 8, .inl f5)), (ro, .inl (cy 0, 20, .inl (fun _ => 0))), (b1, .inl (cy 0, 8, .inl (fun _ => 0))), (b2, .inl (cy 0, 8, .inl g2)), (b3, .inl (cy 0, 8, .inl g3)), (b4, .inl (cy 0, 8, .inl g4)), (b5, .inl (cy 1, 8, .inl g5)), (od, .inl (cy 4, 1, .inr (.inr (.inr (.inl (fun _ => 0)))))), (m0, .inr (20, [.int 1, .ref mp, .int 0, .ref b1, .ref b2, .ref b3, .ref b4, .ref b5, .ref mq]))] := hD
    refine W.widen (k := 30) (n := 886) (Nat.le_of_ble_eq_true rfl) (Nat.le_of_ble_eq_true rfl) ?_
    refine lv_iload hx hb dL_law_2089 (lv_at hl 1 rfl) ?_
    refine lv_icmp_eq (tgt := 2096) hx hb dL_law_2091 (by decide) (fun _ => ?_) (fun c_682 => absurd (by decide) c_682)
    refine lv_iload hx hb dL_law_2096 (lv_at hl 1 rfl) ?_
    refine lv_if_ne (tgt := 2113) hx hb dL_law_2098 (by decide) (fun _ => ?_) (fun c_683 => absurd c_683 (by decide))
    refine lv_goto (tgt := 4257) hx hb dL_law_2113 (by decide) ?_
    refine W.widen (k := 60) (n := 1200) (Nat.le_of_ble_eq_true rfl) (Nat.le_of_ble_eq_true rfl) ?_
    exact hend _ _ _ hS (lv_sub hl [7, 2] rfl)
set_option maxHeartbeats 4000000 in
set_option maxRecDepth 100000 in
theorem law_case_26 {p : Program} {l : Launch} {e : Env} {s : State} {m : MethodId} {below : List Frame} {meth : Method} {c : Code} {D : va_G} {cy : Nat → ClassId} {ed b : Nat} {xs : Nat → Int32} {A : Nat → Prop} {Q : State → Prop} (C0 : zx_LW p l s m c D cy ed b xs A)
    {h pe ne pa ro a1 a2 a3 a4 a5 a6 a7 a8 a9 n1 n2 n3 n4 n5 m0 mp b1 b2 b3 b4 b5 mq oa od : Nat} {f2 f3 f4 f5 g2 g3 g4 g5 : Nat → Int32} (hf5 : ∀ j, j < 8 → f5 j = 115) (hg5 : ∀ j, j < 8 → g5 j = 115) {H : Heap} {locs : List Loc} {ls : Array Slot}
    (hP : va_P D vwCl [(h, .inr (13, [.ref pe, .ref ne, .ref pa, .ref ro, .int 0])), (pe, .inr (9, [.int 0, .ref a1, .ref a2, .ref a3, .ref a4, .ref a5, .ref a6, .ref a7, .ref a8, .ref a9])), (a1, .inl (cy 0, 20, .inl (fun _ => 0))), (a2, .inl (cy 0, 20, .inl (fun _ => 0))), (ne, .inr (6, [.ref n1, .ref n2, .ref n3, .ref n4, .ref n5])), (n1, .inl (cy 0, 8, .inl (fun _ => 0))), (n2, .inl (cy 0, 8, .inl f2)), (n3, .inl (cy 0, 8, .inl f3)), (n4, .inl (cy 0, 8, .inl f4)), (n5, .inl (cy 1, 8, .inl f5)), (pa, .inr (4, [.int 0, .ref ed, .int 0])), (ro, .inl (cy 0, 20, .inl (fun _ => 0))), (m0, .inr (20, [.int 0, .ref mp, .int 0, .ref b1, .ref b2, .ref b3, .ref b4, .ref b5, .ref mq])), (b1, .inl (cy 0, 8, .inl (fun _ => 0))), (b2, .inl (cy 0, 8, .inl g2)), (b3, .inl (cy 0, 8, .inl g3)), (b4, .inl (cy 0, 8, .inl g4)), (b5, .inl (cy 1, 8, .inl g5)), (mp, .inr (4, [.int 0, .ref ed, .int 0])), (mq, .inr (4, [.int 0, .ref ed, .int 0])), (oa, .inl (cy 3, 1, .inr (.inl (fun _ => 0)))), (od, .inl (cy 4, 1, .inr (.inr (.inr (.inl (fun _ => 0))))))] H) (hD : va_D A [(h, .inr (13, [.ref pe, .ref ne, .ref pa, .ref ro, .int 0])), (pe, .inr (9, [.int 0, .ref a1, .ref a2, .ref a3, .ref a4, .ref a5, .ref a6, .ref a7, .ref a8, .ref a9])), (a1, .inl (cy 0, 20, .inl (fun _ => 0))), (a2, .inl (cy 0, 20, .inl (fun _ => 0))), (ne, .inr (6, [.ref n1, .ref n2, .ref n3, .ref n4, .ref n5])), (n1, .inl (cy 0, 8, .inl (fun _ => 0))), (n2, .inl (cy 0, 8, .inl f2)), (n3, .inl (cy 0, 8, .inl f3)), (n4, .inl (cy 0, 8, .inl f4)), (n5, .inl (cy 1, 8, .inl f5)), (pa, .inr (4, [.int 0, .ref ed, .int 0])), (ro, .inl (cy 0, 20, .inl (fun _ => 0))), (m0, .inr (20, [.int 0, .ref mp, .int 0, .ref b1, .ref b2, .ref b3, .ref b4, .ref b5, .ref mq])), (b1, .inl (cy 0, 8, .inl (fun _ => 0))), (b2, .inl (cy 0, 8, .inl g2)), (b3, .inl (cy 0, 8, .inl g3)), (b4, .inl (cy 0, 8, .inl g4)), (b5, .inl (cy 1, 8, .inl g5)), (mp, .inr (4, [.int 0, .ref ed, .int 0])), (mq, .inr (4, [.int 0, .ref ed, .int 0])), (oa, .inl (cy 3, 1, .inr (.inl (fun _ => 0)))), (od, .inl (cy 4, 1, .inr (.inr (.inr (.inl (fun _ => 0))))))]) (hS : va_S A s.heap H locs) (hl : lv_has ls 9 [(5, .int 0), (4, .ref od), (3, .ref oa), (2, .ref m0), (1, .ref h), (0, .ref b)])
    (hend : ∀ (H : Heap) (locs : List Loc) (ls : Array Slot), va_S A s.heap H locs → lv_has ls 9 [(0, .ref b), (5, .int 0)] → W p l e room_1 s m #[Value.ref b] below meth c H locs 60 1200 Q (F0 m 4257 ls [])) :
    W p l e room_1 s m #[Value.ref b] below meth c H locs 29 880 Q (F0 m 2116 ls []) := by
  obtain ⟨hx, hb, hml, hst, hown, hts, hX, hbl, hbA, hA, hK, hZ, hN⟩ := C0
  refine lv_aload_n hx hb dL_law_2116 rfl (lv_at hl 4 rfl) ?_
  refine lv_aload_n hx hb dL_law_2117 rfl (lv_at hl 5 rfl) ?_
  refine lv_iload hx hb dL_law_2118 (lv_at hl 0 rfl) ?_
  refine lv_iconst (v := 1) hx hb dL_law_2120 (by decide) ?_
  refine lv_iadd hx hb dL_law_2121 ?_
  refine lv_topi (fun y9 ey9 => ?_)
  obtain rfl : y9 = 1 := by rw [ey9] <;> decide
  refine va_sld hx hb hX hbl hbA hS (zx_bn (by decide)) dL_law_2122 ?_
  refine lv_aload_n hx hb dL_law_2123 rfl (lv_at hl 2 rfl) ?_
  have hPc := hP.sub (ws' := [(h, .inr (13, [.ref pe, .ref ne, .ref pa, .ref ro, .int 0])), (pa, .inr (4, [.int 0, .ref ed, .int 0])), (oa, .inl (cy 3, 1, .inr (.inl (fun _ => 0))))]) [0, 10, 20] rfl
  have hDc := hD.sub (ws' := [(h, .inr (13, [.ref pe, .ref ne, .ref pa, .ref ro, .int 0])), (pa, .inr (4, [.int 0, .ref ed, .int 0])), (oa, .inl (cy 3, 1, .inr (.inl (fun _ => 0))))]) [0, 10, 20] (by decide) rfl
  have hFc := va_free (wc := [(h, .inr (13, [.ref pe, .ref ne, .ref pa, .ref ro, .int 0])), (pa, .inr (4, [.int 0, .ref ed, .int 0])), (oa, .inl (cy 3, 1, .inr (.inl (fun _ => 0))))]) hD hS hA [0, 10, 20] rfl
  refine vx_calli (vx_runSX (As := [.ref h, .int (xs (1 : Int32).toNatClampNeg), .ref oa]) (rest := []) ⟨hx, hb, hml, hown, hts⟩ (c_L_priority l hst D cy ed H.size h pe ne pa ro 0 0 ed oa (fun _ => 0) (xs (1 : Int32).toNatClampNeg)) (vx_cwSW 3 hts (zx_GS mm_1209 mm_1210 mm_70 mm_1211) rfl rfl rfl (by decide +kernel) ⟨(Nat.le_of_ble_eq_true rfl), (Nat.le_of_ble_eq_true rfl)⟩) ⟨zx_blind, zx_give hPc hK hDc hS hFc hZ hN⟩ rfl rfl hl.1 rfl (lv_room (Nat.le_of_ble_eq_true rfl)) dL_law_2124 ⟨(Nat.le_of_ble_eq_true rfl), (Nat.le_of_ble_eq_true rfl)⟩) hS (fun q _ h => hFc q h) hFc (fun q _ h => hFc q h) (fun E9 ce9 q9 _ t H locs ht hvm _ hBX hz1 hk1 hS hce hcv hcl => ?_) (fun r9 u t H locs ht hvm hw hB hz1 hk1 hS => ?_)
  · exact hBX.elim
  ·
    obtain rfl : r9 = 1 := hw
    obtain ⟨hP, hD⟩ := zx_join (wr := [(pe, .inr (9, [.int 0, .ref a1, .ref a2, .ref a3, .ref a4, .ref a5, .ref a6, .ref a7, .ref a8, .ref a9])), (a1, .inl (cy 0, 20, .inl (fun _ => 0))), (a2, .inl (cy 0, 20, .inl (fun _ => 0))), (ne, .inr (6, [.ref n1, .ref n2, .ref n3, .ref n4, .ref n5])), (n1, .inl (cy 0, 8, .inl (fun _ => 0))), (n2, .inl (cy 0, 8, .inl f2)), (n3, .inl (cy 0, 8, .inl f3)), (n4, .inl (cy 0, 8, .inl f4)), (n5, .inl (cy 1, 8, .inl f5)), (ro, .inl (cy 0, 20, .inl (fun _ => 0))), (m0, .inr (20, [.int 0, .ref mp, .int 0, .ref b1, .ref b2, .ref b3, .ref b4, .ref b5, .ref mq])), (b1, .inl (cy 0, 8, .inl (fun _ => 0))), (b2, .inl (cy 0, 8, .inl g2)), (b3, .inl (cy 0, 8, .inl g3)), (b4, .inl (cy 0, 8, .inl g4)), (b5, .inl (cy 1, 8, .inl g5)), (mp, .inr (4, [.int 0, .ref ed, .int 0])), (mq, .inr (4, [.int 0, .ref ed, .int 0])), (od, .inl (cy 4, 1, .inr (.inr (.inr (.inl (fun _ => 0))))))]) (w1 := []) [0, 10, 20] [1, 2, 3, 4, 5, 6, 7, 8, 9, 11, 12, 13, 14, 15, 16, 17, 18, 19, 21] rfl rfl (by decide) (by decide) hP hD hk1 hFc hB ht
    have hP : va_P D vwCl [(pe, .inr (9, [.int 0, .ref a1, .ref a2, .ref a3, .ref a4, .ref a5, .ref a6, .ref a7, .ref a8, .ref a9])), (a1, .inl (cy 0, 20, .inl (fun _ => 0))), (a2, .inl (cy 0, 20, .inl (fun _ => 0))), (ne, .inr (6, [.ref n1, .ref n2, .ref n3, .ref n4, .ref n5])), (n1, .inl (cy 0, 8, .inl (fun _ => 0))), (n2, .inl (cy 0, 8, .inl f2)), (n3, .inl (cy 0, 8, .inl f3)), (n4, .inl (cy 0, 8, .inl f4)), (n5, .inl (cy 1, 8, .inl f5)), (ro, .inl (cy 0, 20, .inl (fun _ => 0))), (m0, .inr (20, [.int 0, .ref mp, .int 0, .ref b1, .ref b2, .ref b3, .ref b4, .ref b5, .ref mq])), (b1, .inl (cy 0, 8, .inl (fun _ => 0))), (b2, .inl (cy 0, 8, .inl g2)), (b3, .inl (cy 0, 8, .inl g3)), (b4, .inl (cy 0, 8, .inl g4)), (b5, .inl (cy 1, 8, .inl g5)), (mp, .inr (4, [.int 0, .ref ed, .int 0])), (mq, .inr (4, [.int 0, .ref ed, .int 0])), (od, .inl (cy 4, 1, .inr (.inr (.inr (.inl (fun _ => 0))))))] H := hP
    have hD : va_D A [(pe, .inr (9, [.int 0, .ref a1, .ref a2, .ref a3, .ref a4, .ref a5, .ref a6, .ref a7, .ref a8, .ref a9])), (a1, .inl (cy 0, 20, .inl (fun _ => 0))), (a2, .inl (cy 0, 20, .inl (fun _ => 0))), (ne, .inr (6, [.ref n1, .ref n2, .ref n3, .ref n4, .ref n5])), (n1, .inl (cy 0, 8, .inl (fun _ => 0))), (n2, .inl (cy 0, 8, .inl f2)), (n3, .inl (cy 0, 8, .inl f3)), (n4, .inl (cy 0, 8, .inl f4)), (n5, .inl (cy 1, 8, .inl f5)), (ro, .inl (cy 0, 20, .inl (fun _ => 0))), (m0, .inr (20, [.int 0, .ref mp, .int 0, .ref b1, .ref b2, .ref b3, .ref b4, .ref b5, .ref mq])), (b1, .inl (cy 0, 8, .inl (fun _ => 0))), (b2, .inl (cy 0, 8, .inl g2)), (b3, .inl (cy 0, 8, .inl g3)), (b4, .inl (cy 0, 8, .inl g4)), (b5, .inl (cy 1, 8, .inl g5)), (mp, .inr (4, [.int 0, .ref ed, .int 0])), (mq, .inr (4, [.int 0, .ref ed, .int 0])), (od, .inl (cy 4, 1, .inr (.inr (.inr (.inl (fun _ => 0))))))] := hD
    refine W.widen (k := 30) (n := 886) (Nat.le_of_ble_eq_true rfl) (Nat.le_of_ble_eq_true rfl) ?_
    refine lv_istore (lv' := [(6, .int 1), (5, .int 0), (4, .ref od), (3, .ref oa), (2, .ref m0), (1, .ref h), (0, .ref b)]) hx hb dL_law_2127 hl (by decide) rfl (fun ls hl => ?_)
    refine lv_aload_n hx hb dL_law_2129 rfl (lv_at hl 4 rfl) ?_
    refine lv_aload_n hx hb dL_law_2130 rfl (lv_at hl 6 rfl) ?_
    refine lv_iload hx hb dL_law_2131 (lv_at hl 1 rfl) ?_
    refine lv_iconst (v := 1) hx hb dL_law_2133 (by decide) ?_
    refine lv_iadd hx hb dL_law_2134 ?_
    refine lv_topi (fun y9 ey9 => ?_)
    obtain rfl : y9 = 1 := by rw [ey9] <;> decide
    refine va_sld hx hb hX hbl hbA hS (zx_bn (by decide)) dL_law_2135 ?_
    have hPc := hP.sub (ws' := [(m0, .inr (20, [.int 0, .ref mp, .int 0, .ref b1, .ref b2, .ref b3, .ref b4, .ref b5, .ref mq])), (mp, .inr (4, [.int 0, .ref ed, .int 0])), (mq, .inr (4, [.int 0, .ref ed, .int 0]))]) [10, 16, 17] rfl
    have hDc := hD.sub (ws' := [(m0, .inr (20, [.int 0, .ref mp, .int 0, .ref b1, .ref b2, .ref b3, .ref b4, .ref b5, .ref mq])), (mp, .inr (4, [.int 0, .ref ed, .int 0])), (mq, .inr (4, [.int 0, .ref ed, .int 0]))]) [10, 16, 17] (by decide) rfl
    have hFc := va_free (wc := [(m0, .inr (20, [.int 0, .ref mp, .int 0, .ref b1, .ref b2, .ref b3, .ref b4, .ref b5, .ref mq])), (mp, .inr (4, [.int 0, .ref ed, .int 0])), (mq, .inr (4, [.int 0, .ref ed, .int 0]))]) hD hS hA [10, 16, 17] rfl
    refine va_calli (va_runV (As := [.int (xs (1 : Int32).toNatClampNeg)]) (rest := []) ⟨hx, hb, hml, hown, hts⟩ (c_X15_priority l hst D cy ed H.size m0 mp mq b1 b2 b3 b4 b5 0 0 0 ed 0 ed (xs (1 : Int32).toNatClampNeg)) (cwV 1 hts (zx_GV mm_2301 mm_2302 mm_2303 mm_78 mm_2304) rfl rfl rfl (by decide +kernel) ⟨(Nat.le_of_ble_eq_true rfl), (Nat.le_of_ble_eq_true rfl)⟩) ⟨zx_blind, va_recv hK hPc (ci := 20) (q0 := 0) rfl rfl, zx_give hPc hK hDc hS hFc hZ hN⟩ rfl rfl hl.1 rfl (lv_room (Nat.le_of_ble_eq_true rfl)) dL_law_2136 ⟨(Nat.le_of_ble_eq_true rfl), (Nat.le_of_ble_eq_true rfl)⟩) hS (fun q _ h => hFc q h) hFc (fun r9 u t H1 locs ht hvm hw hB hz1 hk1 hS => ?_)
    obtain ⟨r_684, rfl⟩ : ∃ z9, z9 = r9 := ⟨_, rfl⟩
    have h_685 := hw
    obtain ⟨hP, hD⟩ := zx_join (wr := [(pe, .inr (9, [.int 0, .ref a1, .ref a2, .ref a3, .ref a4, .ref a5, .ref a6, .ref a7, .ref a8, .ref a9])), (a1, .inl (cy 0, 20, .inl (fun _ => 0))), (a2, .inl (cy 0, 20, .inl (fun _ => 0))), (ne, .inr (6, [.ref n1, .ref n2, .ref n3, .ref n4, .ref n5])), (n1, .inl (cy 0, 8, .inl (fun _ => 0))), (n2, .inl (cy 0, 8, .inl f2)), (n3, .inl (cy 0, 8, .inl f3)), (n4, .inl (cy 0, 8, .inl f4)), (n5, .inl (cy 1, 8, .inl f5)), (ro, .inl (cy 0, 20, .inl (fun _ => 0))), (b1, .inl (cy 0, 8, .inl (fun _ => 0))), (b2, .inl (cy 0, 8, .inl g2)), (b3, .inl (cy 0, 8, .inl g3)), (b4, .inl (cy 0, 8, .inl g4)), (b5, .inl (cy 1, 8, .inl g5)), (od, .inl (cy 4, 1, .inr (.inr (.inr (.inl (fun _ => 0))))))]) (w1 := [(m0, .inr (20, [.int 1, .ref mp, .int 0, .ref b1, .ref b2, .ref b3, .ref b4, .ref b5, .ref mq]))]) [10, 16, 17] [0, 1, 2, 3, 4, 5, 6, 7, 8, 9, 11, 12, 13, 14, 15, 18] rfl rfl (by decide) (by decide) hP hD hk1 hFc hB ht
    generalize H1 = H at hP hS ⊢
    have hP : va_P D vwCl [(pe, .inr (9, [.int 0, .ref a1, .ref a2, .ref a3, .ref a4, .ref a5, .ref a6, .ref a7, .ref a8, .ref a9])), (a1, .inl (cy 0, 20, .inl (fun _ => 0))), (a2, .inl (cy 0, 20, .inl (fun _ => 0))), (ne, .inr (6, [.ref n1, .ref n2, .ref n3, .ref n4, .ref n5])), (n1, .inl (cy 0, 8, .inl (fun _ => 0))), (n2, .inl (cy 0, 8, .inl f2)), (n3, .inl (cy 0, 8, .inl f3)), (n4, .inl (cy 0, 8, .inl f4)), (n5, .inl (cy 1, 8, .inl f5)), (ro, .inl (cy 0, 20, .inl (fun _ => 0))), (b1, .inl (cy 0, 8, .inl (fun _ => 0))), (b2, .inl (cy 0, 8, .inl g2)), (b3, .inl (cy 0, 8, .inl g3)), (b4, .inl (cy 0, 8, .inl g4)), (b5, .inl (cy 1, 8, .inl g5)), (od, .inl (cy 4, 1, .inr (.inr (.inr (.inl (fun _ => 0)))))), (m0, .inr (20, [.int 1, .ref mp, .int 0, .ref b1, .ref b2, .ref b3, .ref b4, .ref b5, .ref mq]))] H := hP
    have hD : va_D A [(pe, .inr (9, [.int 0, .ref a1, .ref a2, .ref a3, .ref a4, .ref a5, .ref a6, .ref a7, .ref a8, .ref a9])), (a1, .inl (cy 0, 20, .inl (fun _ => 0))), (a2, .inl (cy 0, 20, .inl (fun _ => 0))), (ne, .inr (6, [.ref n1, .ref n2, .ref n3, .ref n4, .ref n5])), (n1, .inl (cy 0, 8, .inl (fun _ => 0))), (n2, .inl (cy 0, 8, .inl f2)), (n3, .inl (cy 0, 8, .inl f3)), (n4, .inl (cy 0, 8, .inl f4)), (n5, .inl (cy 1, 8, .inl f5)), (ro, .inl (cy 0, 20, .inl (fun _ => 0))), (b1, .inl (cy 0, 8, .inl (fun _ => 0))), (b2, .inl (cy 0, 8, .inl g2)), (b3, .inl (cy 0, 8, .inl g3)), (b4, .inl (cy 0, 8, .inl g4)), (b5, .inl (cy 1, 8, .inl g5)), (od, .inl (cy 4, 1, .inr (.inr (.inr (.inl (fun _ => 0)))))), (m0, .inr (20, [.int 1, .ref mp, .int 0, .ref b1, .ref b2, .ref b3, .ref b4, .ref b5, .ref mq]))] := hD
    refine W.widen (k := 30) (n := 886) (Nat.le_of_ble_eq_true rfl) (Nat.le_of_ble_eq_true rfl) ?_
    refine lv_istore (lv' := [(7, .int r_684), (6, .int 1), (5, .int 0), (4, .ref od), (3, .ref oa), (2, .ref m0), (1, .ref h), (0, .ref b)]) hx hb dL_law_2139 hl (by decide) rfl (fun ls hl => ?_)
    refine lv_aload_n hx hb dL_law_2141 rfl (lv_at hl 5 rfl) ?_
    have hPc := hP.sub (ws' := [(m0, .inr (20, [.int 1, .ref mp, .int 0, .ref b1, .ref b2, .ref b3, .ref b4, .ref b5, .ref mq]))]) [16] rfl
    have hDc := hD.sub (ws' := [(m0, .inr (20, [.int 1, .ref mp, .int 0, .ref b1, .ref b2, .ref b3, .ref b4, .ref b5, .ref mq]))]) [16] (by decide) rfl
    have hFc := va_free (wc := [(m0, .inr (20, [.int 1, .ref mp, .int 0, .ref b1, .ref b2, .ref b3, .ref b4, .ref b5, .ref mq]))]) hD hS hA [16] rfl
    refine va_calli (va_runV (As := []) (rest := []) ⟨hx, hb, hml, hown, hts⟩ (c_X15_thrown l hst D cy ed H.size m0 mp mq b1 b2 b3 b4 b5 1 0) (cwV 0 hts (zx_GV mm_1599 mm_1600 mm_1601 mm_78 mm_1602) rfl rfl rfl (by decide +kernel) ⟨(Nat.le_of_ble_eq_true rfl), (Nat.le_of_ble_eq_true rfl)⟩) ⟨zx_blind, va_recv hK hPc (ci := 20) (q0 := 0) rfl rfl, zx_give hPc hK hDc hS hFc hZ hN⟩ rfl rfl hl.1 rfl (lv_room (Nat.le_of_ble_eq_true rfl)) dL_law_2142 ⟨(Nat.le_of_ble_eq_true rfl), (Nat.le_of_ble_eq_true rfl)⟩) hS (fun q _ h => hFc q h) hFc (fun r9 u t H1 locs ht hvm hw hB hz1 hk1 hS => ?_)
    obtain rfl : r9 = 1 := hw
    obtain ⟨hP, hD⟩ := zx_join (wr := [(pe, .inr (9, [.int 0, .ref a1, .ref a2, .ref a3, .ref a4, .ref a5, .ref a6, .ref a7, .ref a8, .ref a9])), (a1, .inl (cy 0, 20, .inl (fun _ => 0))), (a2, .inl (cy 0, 20, .inl (fun _ => 0))), (ne, .inr (6, [.ref n1, .ref n2, .ref n3, .ref n4, .ref n5])), (n1, .inl (cy 0, 8, .inl (fun _ => 0))), (n2, .inl (cy 0, 8, .inl f2)), (n3, .inl (cy 0, 8, .inl f3)), (n4, .inl (cy 0, 8, .inl f4)), (n5, .inl (cy 1, 8, .inl f5)), (ro, .inl (cy 0, 20, .inl (fun _ => 0))), (b1, .inl (cy 0, 8, .inl (fun _ => 0))), (b2, .inl (cy 0, 8, .inl g2)), (b3, .inl (cy 0, 8, .inl g3)), (b4, .inl (cy 0, 8, .inl g4)), (b5, .inl (cy 1, 8, .inl g5)), (od, .inl (cy 4, 1, .inr (.inr (.inr (.inl (fun _ => 0))))))]) (w1 := [(m0, .inr (20, [.int 1, .ref mp, .int 0, .ref b1, .ref b2, .ref b3, .ref b4, .ref b5, .ref mq]))]) [16] [0, 1, 2, 3, 4, 5, 6, 7, 8, 9, 10, 11, 12, 13, 14, 15] rfl rfl (by decide) (by decide) hP hD hk1 hFc hB ht
    generalize H1 = H at hP hS ⊢
    have hP : va_P D vwCl [(pe, .inr (9, [.int 0, .ref a1, .ref a2, .ref a3, .ref a4, .ref a5, .ref a6, .ref a7, .ref a8, .ref a9])), (a1, .inl (cy 0, 20, .inl (fun _ => 0))), (a2, .inl (cy 0, 20, .inl (fun _ => 0))), (ne, .inr (6, [.ref n1, .ref n2, .ref n3, .ref n4, .ref n5])), (n1, .inl (cy 0, 8, .inl (fun _ => 0))), (n2, .inl (cy 0, 8, .inl f2)), (n3, .inl (cy 0, 8, .inl f3)), (n4, .inl (cy 0, 8, .inl f4)), (n5, .inl (cy 1, 8, .inl f5)), (ro, .inl (cy 0, 20, .inl (fun _ => 0))), (b1, .inl (cy 0, 8, .inl (fun _ => 0))), (b2, .inl (cy 0, 8, .inl g2)), (b3, .inl (cy 0, 8, .inl g3)), (b4, .inl (cy 0, 8, .inl g4)), (b5, .inl (cy 1, 8, .inl g5)), (od, .inl (cy 4, 1, .inr (.inr (.inr (.inl (fun _ => 0)))))), (m0, .inr (20, [.int 1, .ref mp, .int 0, .ref b1, .ref b2, .ref b3, .ref b4, .ref b5, .ref mq]))] H := hP
    have hD : va_D A [(pe, .inr (9, [.int 0, .ref a1, .ref a2, .ref a3, .ref a4, .ref a5, .ref a6, .ref a7, .ref a8, .ref a9])), (a1, .inl (cy 0, 20, .inl (fun _ => 0))), (a2, .inl (cy 0, 20, .inl (fun _ => 0))), (ne, .inr (6, [.ref n1, .ref n2, .ref n3, .ref n4, .ref n5])), (n1, .inl (cy 0, 8, .inl (fun _ => 0))), (n2, .inl (cy 0, 8, .inl f2)), (n3, .inl (cy 0, 8, .inl f3)), (n4, .inl (cy 0, 8, .inl f4)), (n5, .inl (cy 1, 8, .inl f5)), (ro, .inl (cy 0, 20, .inl (fun _ => 0))), (b1, .inl (cy 0, 8, .inl (fun _ => 0))), (b2, .inl (cy 0, 8, .inl g2)), (b3, .inl (cy 0, 8, .inl g3)), (b4, .inl (cy 0, 8, .inl g4)), (b5, .inl (cy 1, 8, .inl g5)), (od, .inl (cy 4, 1, .inr (.inr (.inr (.inl (fun _ => 0)))))), (m0, .inr (20, [.int 1, .ref mp, .int 0, .ref b1, .ref b2, .ref b3, .ref b4, .ref b5, .ref mq]))] := hD
    refine W.widen (k := 30) (n := 886) (Nat.le_of_ble_eq_true rfl) (Nat.le_of_ble_eq_true rfl) ?_
    refine lv_iload hx hb dL_law_2145 (lv_at hl 1 rfl) ?_
    refine lv_icmp_eq (tgt := 2152) hx hb dL_law_2147 (by decide) (fun _ => ?_) (fun c_686 => absurd (by decide) c_686)
    refine lv_iload hx hb dL_law_2152 (lv_at hl 1 rfl) ?_
    refine lv_if_ne (tgt := 2169) hx hb dL_law_2154 (by decide) (fun _ => ?_) (fun c_687 => absurd c_687 (by decide))
    refine lv_goto (tgt := 4257) hx hb dL_law_2169 (by decide) ?_
    refine W.widen (k := 60) (n := 1200) (Nat.le_of_ble_eq_true rfl) (Nat.le_of_ble_eq_true rfl) ?_
    exact hend _ _ _ hS (lv_sub hl [7, 2] rfl)
set_option maxHeartbeats 4000000 in
set_option maxRecDepth 100000 in
theorem law_case_27 {p : Program} {l : Launch} {e : Env} {s : State} {m : MethodId} {below : List Frame} {meth : Method} {c : Code} {D : va_G} {cy : Nat → ClassId} {ed b : Nat} {xs : Nat → Int32} {A : Nat → Prop} {Q : State → Prop} (C0 : zx_LW p l s m c D cy ed b xs A)
    {h pe ne pa ro a1 a2 a3 a4 a5 a6 a7 a8 a9 n1 n2 n3 n4 n5 m0 mp b1 b2 b3 b4 b5 mq oa od : Nat} {f2 f3 f4 f5 g2 g3 g4 g5 : Nat → Int32} (hf5 : ∀ j, j < 8 → f5 j = 115) (hg5 : ∀ j, j < 8 → g5 j = 115) {H : Heap} {locs : List Loc} {ls : Array Slot}
    (hP : va_P D vwCl [(h, .inr (13, [.ref pe, .ref ne, .ref pa, .ref ro, .int 0])), (pe, .inr (9, [.int 0, .ref a1, .ref a2, .ref a3, .ref a4, .ref a5, .ref a6, .ref a7, .ref a8, .ref a9])), (a1, .inl (cy 0, 20, .inl (fun _ => 0))), (a2, .inl (cy 0, 20, .inl (fun _ => 0))), (ne, .inr (6, [.ref n1, .ref n2, .ref n3, .ref n4, .ref n5])), (n1, .inl (cy 0, 8, .inl (fun _ => 0))), (n2, .inl (cy 0, 8, .inl f2)), (n3, .inl (cy 0, 8, .inl f3)), (n4, .inl (cy 0, 8, .inl f4)), (n5, .inl (cy 1, 8, .inl f5)), (pa, .inr (4, [.int 0, .ref ed, .int 0])), (ro, .inl (cy 0, 20, .inl (fun _ => 0))), (m0, .inr (20, [.int 0, .ref mp, .int 0, .ref b1, .ref b2, .ref b3, .ref b4, .ref b5, .ref mq])), (b1, .inl (cy 0, 8, .inl (fun _ => 0))), (b2, .inl (cy 0, 8, .inl g2)), (b3, .inl (cy 0, 8, .inl g3)), (b4, .inl (cy 0, 8, .inl g4)), (b5, .inl (cy 1, 8, .inl g5)), (mp, .inr (4, [.int 0, .ref ed, .int 0])), (mq, .inr (4, [.int 0, .ref ed, .int 0])), (oa, .inl (cy 3, 1, .inr (.inl (fun _ => 0)))), (od, .inl (cy 4, 1, .inr (.inr (.inr (.inl (fun _ => 0))))))] H) (hD : va_D A [(h, .inr (13, [.ref pe, .ref ne, .ref pa, .ref ro, .int 0])), (pe, .inr (9, [.int 0, .ref a1, .ref a2, .ref a3, .ref a4, .ref a5, .ref a6, .ref a7, .ref a8, .ref a9])), (a1, .inl (cy 0, 20, .inl (fun _ => 0))), (a2, .inl (cy 0, 20, .inl (fun _ => 0))), (ne, .inr (6, [.ref n1, .ref n2, .ref n3, .ref n4, .ref n5])), (n1, .inl (cy 0, 8, .inl (fun _ => 0))), (n2, .inl (cy 0, 8, .inl f2)), (n3, .inl (cy 0, 8, .inl f3)), (n4, .inl (cy 0, 8, .inl f4)), (n5, .inl (cy 1, 8, .inl f5)), (pa, .inr (4, [.int 0, .ref ed, .int 0])), (ro, .inl (cy 0, 20, .inl (fun _ => 0))), (m0, .inr (20, [.int 0, .ref mp, .int 0, .ref b1, .ref b2, .ref b3, .ref b4, .ref b5, .ref mq])), (b1, .inl (cy 0, 8, .inl (fun _ => 0))), (b2, .inl (cy 0, 8, .inl g2)), (b3, .inl (cy 0, 8, .inl g3)), (b4, .inl (cy 0, 8, .inl g4)), (b5, .inl (cy 1, 8, .inl g5)), (mp, .inr (4, [.int 0, .ref ed, .int 0])), (mq, .inr (4, [.int 0, .ref ed, .int 0])), (oa, .inl (cy 3, 1, .inr (.inl (fun _ => 0)))), (od, .inl (cy 4, 1, .inr (.inr (.inr (.inl (fun _ => 0))))))]) (hS : va_S A s.heap H locs) (hl : lv_has ls 9 [(5, .int 0), (4, .ref od), (3, .ref oa), (2, .ref m0), (1, .ref h), (0, .ref b)])
    (hend : ∀ (H : Heap) (locs : List Loc) (ls : Array Slot), va_S A s.heap H locs → lv_has ls 9 [(0, .ref b), (5, .int 0)] → W p l e room_1 s m #[Value.ref b] below meth c H locs 60 1200 Q (F0 m 4257 ls [])) :
    W p l e room_1 s m #[Value.ref b] below meth c H locs 29 880 Q (F0 m 2172 ls []) := by
  obtain ⟨hx, hb, hml, hst, hown, hts, hX, hbl, hbA, hA, hK, hZ, hN⟩ := C0
  refine lv_aload_n hx hb dL_law_2172 rfl (lv_at hl 4 rfl) ?_
  refine lv_aload_n hx hb dL_law_2173 rfl (lv_at hl 5 rfl) ?_
  refine lv_iload hx hb dL_law_2174 (lv_at hl 0 rfl) ?_
  refine lv_iconst (v := 1) hx hb dL_law_2176 (by decide) ?_
  refine lv_iadd hx hb dL_law_2177 ?_
  refine lv_topi (fun y9 ey9 => ?_)
  obtain rfl : y9 = 1 := by rw [ey9] <;> decide
  refine va_sld hx hb hX hbl hbA hS (zx_bn (by decide)) dL_law_2178 ?_
  refine lv_aload_n hx hb dL_law_2179 rfl (lv_at hl 5 rfl) ?_
  refine lv_iload hx hb dL_law_2180 (lv_at hl 0 rfl) ?_
  refine lv_iconst (v := 2) hx hb dL_law_2182 (by decide) ?_
  refine lv_iadd hx hb dL_law_2183 ?_
  refine lv_topi (fun y9 ey9 => ?_)
  obtain rfl : y9 = 2 := by rw [ey9] <;> decide
  refine va_sld hx hb hX hbl hbA hS (zx_bn (by decide)) dL_law_2184 ?_
  refine lv_aload_n hx hb dL_law_2185 rfl (lv_at hl 2 rfl) ?_
  have hPc := hP.sub (ws' := [(h, .inr (13, [.ref pe, .ref ne, .ref pa, .ref ro, .int 0])), (pa, .inr (4, [.int 0, .ref ed, .int 0])), (oa, .inl (cy 3, 1, .inr (.inl (fun _ => 0))))]) [0, 10, 20] rfl
  have hDc := hD.sub (ws' := [(h, .inr (13, [.ref pe, .ref ne, .ref pa, .ref ro, .int 0])), (pa, .inr (4, [.int 0, .ref ed, .int 0])), (oa, .inl (cy 3, 1, .inr (.inl (fun _ => 0))))]) [0, 10, 20] (by decide) rfl
  have hFc := va_free (wc := [(h, .inr (13, [.ref pe, .ref ne, .ref pa, .ref ro, .int 0])), (pa, .inr (4, [.int 0, .ref ed, .int 0])), (oa, .inl (cy 3, 1, .inr (.inl (fun _ => 0))))]) hD hS hA [0, 10, 20] rfl
  refine vx_calli (vx_runSX (As := [.ref h, .int (xs (1 : Int32).toNatClampNeg), .int (xs (2 : Int32).toNatClampNeg), .ref oa]) (rest := []) ⟨hx, hb, hml, hown, hts⟩ (c_L_embargo l hst D cy ed H.size h pe ne pa ro 0 0 ed oa (fun _ => 0) (xs (1 : Int32).toNatClampNeg) (xs (2 : Int32).toNatClampNeg)) (vx_cwSW 4 hts (zx_GS mm_1216 mm_1217 mm_70 mm_1218) rfl rfl rfl (by decide +kernel) ⟨(Nat.le_of_ble_eq_true rfl), (Nat.le_of_ble_eq_true rfl)⟩) ⟨zx_blind, zx_give hPc hK hDc hS hFc hZ hN⟩ rfl rfl hl.1 rfl (lv_room (Nat.le_of_ble_eq_true rfl)) dL_law_2186 ⟨(Nat.le_of_ble_eq_true rfl), (Nat.le_of_ble_eq_true rfl)⟩) hS (fun q _ h => hFc q h) hFc (fun q _ h => hFc q h) (fun E9 ce9 q9 _ t H locs ht hvm _ hBX hz1 hk1 hS hce hcv hcl => ?_) (fun r9 u t H locs ht hvm hw hB hz1 hk1 hS => ?_)
  · exact hBX.elim
  ·
    obtain rfl : r9 = 1 := hw
    obtain ⟨hP, hD⟩ := zx_join (wr := [(pe, .inr (9, [.int 0, .ref a1, .ref a2, .ref a3, .ref a4, .ref a5, .ref a6, .ref a7, .ref a8, .ref a9])), (a1, .inl (cy 0, 20, .inl (fun _ => 0))), (a2, .inl (cy 0, 20, .inl (fun _ => 0))), (ne, .inr (6, [.ref n1, .ref n2, .ref n3, .ref n4, .ref n5])), (n1, .inl (cy 0, 8, .inl (fun _ => 0))), (n2, .inl (cy 0, 8, .inl f2)), (n3, .inl (cy 0, 8, .inl f3)), (n4, .inl (cy 0, 8, .inl f4)), (n5, .inl (cy 1, 8, .inl f5)), (ro, .inl (cy 0, 20, .inl (fun _ => 0))), (m0, .inr (20, [.int 0, .ref mp, .int 0, .ref b1, .ref b2, .ref b3, .ref b4, .ref b5, .ref mq])), (b1, .inl (cy 0, 8, .inl (fun _ => 0))), (b2, .inl (cy 0, 8, .inl g2)), (b3, .inl (cy 0, 8, .inl g3)), (b4, .inl (cy 0, 8, .inl g4)), (b5, .inl (cy 1, 8, .inl g5)), (mp, .inr (4, [.int 0, .ref ed, .int 0])), (mq, .inr (4, [.int 0, .ref ed, .int 0])), (od, .inl (cy 4, 1, .inr (.inr (.inr (.inl (fun _ => 0))))))]) (w1 := []) [0, 10, 20] [1, 2, 3, 4, 5, 6, 7, 8, 9, 11, 12, 13, 14, 15, 16, 17, 18, 19, 21] rfl rfl (by decide) (by decide) hP hD hk1 hFc hB ht
    have hP : va_P D vwCl [(pe, .inr (9, [.int 0, .ref a1, .ref a2, .ref a3, .ref a4, .ref a5, .ref a6, .ref a7, .ref a8, .ref a9])), (a1, .inl (cy 0, 20, .inl (fun _ => 0))), (a2, .inl (cy 0, 20, .inl (fun _ => 0))), (ne, .inr (6, [.ref n1, .ref n2, .ref n3, .ref n4, .ref n5])), (n1, .inl (cy 0, 8, .inl (fun _ => 0))), (n2, .inl (cy 0, 8, .inl f2)), (n3, .inl (cy 0, 8, .inl f3)), (n4, .inl (cy 0, 8, .inl f4)), (n5, .inl (cy 1, 8, .inl f5)), (ro, .inl (cy 0, 20, .inl (fun _ => 0))), (m0, .inr (20, [.int 0, .ref mp, .int 0, .ref b1, .ref b2, .ref b3, .ref b4, .ref b5, .ref mq])), (b1, .inl (cy 0, 8, .inl (fun _ => 0))), (b2, .inl (cy 0, 8, .inl g2)), (b3, .inl (cy 0, 8, .inl g3)), (b4, .inl (cy 0, 8, .inl g4)), (b5, .inl (cy 1, 8, .inl g5)), (mp, .inr (4, [.int 0, .ref ed, .int 0])), (mq, .inr (4, [.int 0, .ref ed, .int 0])), (od, .inl (cy 4, 1, .inr (.inr (.inr (.inl (fun _ => 0))))))] H := hP
    have hD : va_D A [(pe, .inr (9, [.int 0, .ref a1, .ref a2, .ref a3, .ref a4, .ref a5, .ref a6, .ref a7, .ref a8, .ref a9])), (a1, .inl (cy 0, 20, .inl (fun _ => 0))), (a2, .inl (cy 0, 20, .inl (fun _ => 0))), (ne, .inr (6, [.ref n1, .ref n2, .ref n3, .ref n4, .ref n5])), (n1, .inl (cy 0, 8, .inl (fun _ => 0))), (n2, .inl (cy 0, 8, .inl f2)), (n3, .inl (cy 0, 8, .inl f3)), (n4, .inl (cy 0, 8, .inl f4)), (n5, .inl (cy 1, 8, .inl f5)), (ro, .inl (cy 0, 20, .inl (fun _ => 0))), (m0, .inr (20, [.int 0, .ref mp, .int 0, .ref b1, .ref b2, .ref b3, .ref b4, .ref b5, .ref mq])), (b1, .inl (cy 0, 8, .inl (fun _ => 0))), (b2, .inl (cy 0, 8, .inl g2)), (b3, .inl (cy 0, 8, .inl g3)), (b4, .inl (cy 0, 8, .inl g4)), (b5, .inl (cy 1, 8, .inl g5)), (mp, .inr (4, [.int 0, .ref ed, .int 0])), (mq, .inr (4, [.int 0, .ref ed, .int 0])), (od, .inl (cy 4, 1, .inr (.inr (.inr (.inl (fun _ => 0))))))] := hD
    refine W.widen (k := 30) (n := 886) (Nat.le_of_ble_eq_true rfl) (Nat.le_of_ble_eq_true rfl) ?_
    refine lv_istore (lv' := [(6, .int 1), (5, .int 0), (4, .ref od), (3, .ref oa), (2, .ref m0), (1, .ref h), (0, .ref b)]) hx hb dL_law_2189 hl (by decide) rfl (fun ls hl => ?_)
    refine lv_aload_n hx hb dL_law_2191 rfl (lv_at hl 4 rfl) ?_
    refine lv_aload_n hx hb dL_law_2192 rfl (lv_at hl 6 rfl) ?_
    refine lv_iload hx hb dL_law_2193 (lv_at hl 1 rfl) ?_
    refine lv_iconst (v := 1) hx hb dL_law_2195 (by decide) ?_
    refine lv_iadd hx hb dL_law_2196 ?_
    refine lv_topi (fun y9 ey9 => ?_)
    obtain rfl : y9 = 1 := by rw [ey9] <;> decide
    refine va_sld hx hb hX hbl hbA hS (zx_bn (by decide)) dL_law_2197 ?_
    refine lv_aload_n hx hb dL_law_2198 rfl (lv_at hl 6 rfl) ?_
    refine lv_iload hx hb dL_law_2199 (lv_at hl 1 rfl) ?_
    refine lv_iconst (v := 2) hx hb dL_law_2201 (by decide) ?_
    refine lv_iadd hx hb dL_law_2202 ?_
    refine lv_topi (fun y9 ey9 => ?_)
    obtain rfl : y9 = 2 := by rw [ey9] <;> decide
    refine va_sld hx hb hX hbl hbA hS (zx_bn (by decide)) dL_law_2203 ?_
    have hPc := hP.sub (ws' := [(m0, .inr (20, [.int 0, .ref mp, .int 0, .ref b1, .ref b2, .ref b3, .ref b4, .ref b5, .ref mq])), (mp, .inr (4, [.int 0, .ref ed, .int 0])), (mq, .inr (4, [.int 0, .ref ed, .int 0]))]) [10, 16, 17] rfl
    have hDc := hD.sub (ws' := [(m0, .inr (20, [.int 0, .ref mp, .int 0, .ref b1, .ref b2, .ref b3, .ref b4, .ref b5, .ref mq])), (mp, .inr (4, [.int 0, .ref ed, .int 0])), (mq, .inr (4, [.int 0, .ref ed, .int 0]))]) [10, 16, 17] (by decide) rfl
    have hFc := va_free (wc := [(m0, .inr (20, [.int 0, .ref mp, .int 0, .ref b1, .ref b2, .ref b3, .ref b4, .ref b5, .ref mq])), (mp, .inr (4, [.int 0, .ref ed, .int 0])), (mq, .inr (4, [.int 0, .ref ed, .int 0]))]) hD hS hA [10, 16, 17] rfl
    refine va_calli (va_runV (As := [.int (xs (1 : Int32).toNatClampNeg), .int (xs (2 : Int32).toNatClampNeg)]) (rest := []) ⟨hx, hb, hml, hown, hts⟩ (c_X15_embargo l hst D cy ed H.size m0 mp mq b1 b2 b3 b4 b5 0 0 0 ed 0 ed (xs (1 : Int32).toNatClampNeg) (xs (2 : Int32).toNatClampNeg)) (cwV 2 hts (zx_GV mm_2305 mm_2306 mm_2307 mm_78 mm_2308) rfl rfl rfl (by decide +kernel) ⟨(Nat.le_of_ble_eq_true rfl), (Nat.le_of_ble_eq_true rfl)⟩) ⟨zx_blind, va_recv hK hPc (ci := 20) (q0 := 0) rfl rfl, zx_give hPc hK hDc hS hFc hZ hN⟩ rfl rfl hl.1 rfl (lv_room (Nat.le_of_ble_eq_true rfl)) dL_law_2204 ⟨(Nat.le_of_ble_eq_true rfl), (Nat.le_of_ble_eq_true rfl)⟩) hS (fun q _ h => hFc q h) hFc (fun r9 u t H1 locs ht hvm hw hB hz1 hk1 hS => ?_)
    obtain ⟨r_688, rfl⟩ : ∃ z9, z9 = r9 := ⟨_, rfl⟩
    have h_689 := hw
    obtain ⟨hP, hD⟩ := zx_join (wr := [(pe, .inr (9, [.int 0, .ref a1, .ref a2, .ref a3, .ref a4, .ref a5, .ref a6, .ref a7, .ref a8, .ref a9])), (a1, .inl (cy 0, 20, .inl (fun _ => 0))), (a2, .inl (cy 0, 20, .inl (fun _ => 0))), (ne, .inr (6, [.ref n1, .ref n2, .ref n3, .ref n4, .ref n5])), (n1, .inl (cy 0, 8, .inl (fun _ => 0))), (n2, .inl (cy 0, 8, .inl f2)), (n3, .inl (cy 0, 8, .inl f3)), (n4, .inl (cy 0, 8, .inl f4)), (n5, .inl (cy 1, 8, .inl f5)), (ro, .inl (cy 0, 20, .inl (fun _ => 0))), (b1, .inl (cy 0, 8, .inl (fun _ => 0))), (b2, .inl (cy 0, 8, .inl g2)), (b3, .inl (cy 0, 8, .inl g3)), (b4, .inl (cy 0, 8, .inl g4)), (b5, .inl (cy 1, 8, .inl g5)), (od, .inl (cy 4, 1, .inr (.inr (.inr (.inl (fun _ => 0))))))]) (w1 := [(m0, .inr (20, [.int 1, .ref mp, .int 0, .ref b1, .ref b2, .ref b3, .ref b4, .ref b5, .ref mq]))]) [10, 16, 17] [0, 1, 2, 3, 4, 5, 6, 7, 8, 9, 11, 12, 13, 14, 15, 18] rfl rfl (by decide) (by decide) hP hD hk1 hFc hB ht
    generalize H1 = H at hP hS ⊢
    have hP : va_P D vwCl [(pe, .inr (9, [.int 0, .ref a1, .ref a2, .ref a3, .ref a4, .ref a5, .ref a6, .ref a7, .ref a8, .ref a9])), (a1, .inl (cy 0, 20, .inl (fun _ => 0))), (a2, .inl (cy 0, 20, .inl (fun _ => 0))), (ne, .inr (6, [.ref n1, .ref n2, .ref n3, .ref n4, .ref n5])), (n1, .inl (cy 0, 8, .inl (fun _ => 0))), (n2, .inl (cy 0, 8, .inl f2)), (n3, .inl (cy 0, 8, .inl f3)), (n4, .inl (cy 0, 8, .inl f4)), (n5, .inl (cy 1, 8, .inl f5)), (ro, .inl (cy 0, 20, .inl (fun _ => 0))), (b1, .inl (cy 0, 8, .inl (fun _ => 0))), (b2, .inl (cy 0, 8, .inl g2)), (b3, .inl (cy 0, 8, .inl g3)), (b4, .inl (cy 0, 8, .inl g4)), (b5, .inl (cy 1, 8, .inl g5)), (od, .inl (cy 4, 1, .inr (.inr (.inr (.inl (fun _ => 0)))))), (m0, .inr (20, [.int 1, .ref mp, .int 0, .ref b1, .ref b2, .ref b3, .ref b4, .ref b5, .ref mq]))] H := hP
    have hD : va_D A [(pe, .inr (9, [.int 0, .ref a1, .ref a2, .ref a3, .ref a4, .ref a5, .ref a6, .ref a7, .ref a8, .ref a9])), (a1, .inl (cy 0, 20, .inl (fun _ => 0))), (a2, .inl (cy 0, 20, .inl (fun _ => 0))), (ne, .inr (6, [.ref n1, .ref n2, .ref n3, .ref n4, .ref n5])), (n1, .inl (cy 0, 8, .inl (fun _ => 0))), (n2, .inl (cy 0, 8, .inl f2)), (n3, .inl (cy 0, 8, .inl f3)), (n4, .inl (cy 0, 8, .inl f4)), (n5, .inl (cy 1, 8, .inl f5)), (ro, .inl (cy 0, 20, .inl (fun _ => 0))), (b1, .inl (cy 0, 8, .inl (fun _ => 0))), (b2, .inl (cy 0, 8, .inl g2)), (b3, .inl (cy 0, 8, .inl g3)), (b4, .inl (cy 0, 8, .inl g4)), (b5, .inl (cy 1, 8, .inl g5)), (od, .inl (cy 4, 1, .inr (.inr (.inr (.inl (fun _ => 0)))))), (m0, .inr (20, [.int 1, .ref mp, .int 0, .ref b1, .ref b2, .ref b3, .ref b4, .ref b5, .ref mq]))] := hD
    refine W.widen (k := 30) (n := 886) (Nat.le_of_ble_eq_true rfl) (Nat.le_of_ble_eq_true rfl) ?_
    refine lv_istore (lv' := [(7, .int r_688), (6, .int 1), (5, .int 0), (4, .ref od), (3, .ref oa), (2, .ref m0), (1, .ref h), (0, .ref b)]) hx hb dL_law_2207 hl (by decide) rfl (fun ls hl => ?_)
    refine lv_aload_n hx hb dL_law_2209 rfl (lv_at hl 5 rfl) ?_
    have hPc := hP.sub (ws' := [(m0, .inr (20, [.int 1, .ref mp, .int 0, .ref b1, .ref b2, .ref b3, .ref b4, .ref b5, .ref mq]))]) [16] rfl
    have hDc := hD.sub (ws' := [(m0, .inr (20, [.int 1, .ref mp, .int 0, .ref b1, .ref b2, .ref b3, .ref b4, .ref b5, .ref mq]))]) [16] (by decide) rfl
    have hFc := va_free (wc := [(m0, .inr (20, [.int 1, .ref mp, .int 0, .ref b1, .ref b2, .ref b3, .ref b4, .ref b5, .ref mq]))]) hD hS hA [16] rfl
    refine va_calli (va_runV (As := []) (rest := []) ⟨hx, hb, hml, hown, hts⟩ (c_X15_thrown l hst D cy ed H.size m0 mp mq b1 b2 b3 b4 b5 1 0) (cwV 0 hts (zx_GV mm_1599 mm_1600 mm_1601 mm_78 mm_1602) rfl rfl rfl (by decide +kernel) ⟨(Nat.le_of_ble_eq_true rfl), (Nat.le_of_ble_eq_true rfl)⟩) ⟨zx_blind, va_recv hK hPc (ci := 20) (q0 := 0) rfl rfl, zx_give hPc hK hDc hS hFc hZ hN⟩ rfl rfl hl.1 rfl (lv_room (Nat.le_of_ble_eq_true rfl)) dL_law_2210 ⟨(Nat.le_of_ble_eq_true rfl), (Nat.le_of_ble_eq_true rfl)⟩) hS (fun q _ h => hFc q h) hFc (fun r9 u t H1 locs ht hvm hw hB hz1 hk1 hS => ?_)
    obtain rfl : r9 = 1 := hw
    obtain ⟨hP, hD⟩ := zx_join (wr := [(pe, .inr (9, [.int 0, .ref a1, .ref a2, .ref a3, .ref a4, .ref a5, .ref a6, .ref a7, .ref a8, .ref a9])), (a1, .inl (cy 0, 20, .inl (fun _ => 0))), (a2, .inl (cy 0, 20, .inl (fun _ => 0))), (ne, .inr (6, [.ref n1, .ref n2, .ref n3, .ref n4, .ref n5])), (n1, .inl (cy 0, 8, .inl (fun _ => 0))), (n2, .inl (cy 0, 8, .inl f2)), (n3, .inl (cy 0, 8, .inl f3)), (n4, .inl (cy 0, 8, .inl f4)), (n5, .inl (cy 1, 8, .inl f5)), (ro, .inl (cy 0, 20, .inl (fun _ => 0))), (b1, .inl (cy 0, 8, .inl (fun _ => 0))), (b2, .inl (cy 0, 8, .inl g2)), (b3, .inl (cy 0, 8, .inl g3)), (b4, .inl (cy 0, 8, .inl g4)), (b5, .inl (cy 1, 8, .inl g5)), (od, .inl (cy 4, 1, .inr (.inr (.inr (.inl (fun _ => 0))))))]) (w1 := [(m0, .inr (20, [.int 1, .ref mp, .int 0, .ref b1, .ref b2, .ref b3, .ref b4, .ref b5, .ref mq]))]) [16] [0, 1, 2, 3, 4, 5, 6, 7, 8, 9, 10, 11, 12, 13, 14, 15] rfl rfl (by decide) (by decide) hP hD hk1 hFc hB ht
    generalize H1 = H at hP hS ⊢
    have hP : va_P D vwCl [(pe, .inr (9, [.int 0, .ref a1, .ref a2, .ref a3, .ref a4, .ref a5, .ref a6, .ref a7, .ref a8, .ref a9])), (a1, .inl (cy 0, 20, .inl (fun _ => 0))), (a2, .inl (cy 0, 20, .inl (fun _ => 0))), (ne, .inr (6, [.ref n1, .ref n2, .ref n3, .ref n4, .ref n5])), (n1, .inl (cy 0, 8, .inl (fun _ => 0))), (n2, .inl (cy 0, 8, .inl f2)), (n3, .inl (cy 0, 8, .inl f3)), (n4, .inl (cy 0, 8, .inl f4)), (n5, .inl (cy 1, 8, .inl f5)), (ro, .inl (cy 0, 20, .inl (fun _ => 0))), (b1, .inl (cy 0, 8, .inl (fun _ => 0))), (b2, .inl (cy 0, 8, .inl g2)), (b3, .inl (cy 0, 8, .inl g3)), (b4, .inl (cy 0, 8, .inl g4)), (b5, .inl (cy 1, 8, .inl g5)), (od, .inl (cy 4, 1, .inr (.inr (.inr (.inl (fun _ => 0)))))), (m0, .inr (20, [.int 1, .ref mp, .int 0, .ref b1, .ref b2, .ref b3, .ref b4, .ref b5, .ref mq]))] H := hP
    have hD : va_D A [(pe, .inr (9, [.int 0, .ref a1, .ref a2, .ref a3, .ref a4, .ref a5, .ref a6, .ref a7, .ref a8, .ref a9])), (a1, .inl (cy 0, 20, .inl (fun _ => 0))), (a2, .inl (cy 0, 20, .inl (fun _ => 0))), (ne, .inr (6, [.ref n1, .ref n2, .ref n3, .ref n4, .ref n5])), (n1, .inl (cy 0, 8, .inl (fun _ => 0))), (n2, .inl (cy 0, 8, .inl f2)), (n3, .inl (cy 0, 8, .inl f3)), (n4, .inl (cy 0, 8, .inl f4)), (n5, .inl (cy 1, 8, .inl f5)), (ro, .inl (cy 0, 20, .inl (fun _ => 0))), (b1, .inl (cy 0, 8, .inl (fun _ => 0))), (b2, .inl (cy 0, 8, .inl g2)), (b3, .inl (cy 0, 8, .inl g3)), (b4, .inl (cy 0, 8, .inl g4)), (b5, .inl (cy 1, 8, .inl g5)), (od, .inl (cy 4, 1, .inr (.inr (.inr (.inl (fun _ => 0)))))), (m0, .inr (20, [.int 1, .ref mp, .int 0, .ref b1, .ref b2, .ref b3, .ref b4, .ref b5, .ref mq]))] := hD
    refine W.widen (k := 30) (n := 886) (Nat.le_of_ble_eq_true rfl) (Nat.le_of_ble_eq_true rfl) ?_
    refine lv_iload hx hb dL_law_2213 (lv_at hl 1 rfl) ?_
    refine lv_icmp_eq (tgt := 2220) hx hb dL_law_2215 (by decide) (fun _ => ?_) (fun c_690 => absurd (by decide) c_690)
    refine lv_iload hx hb dL_law_2220 (lv_at hl 1 rfl) ?_
    refine lv_if_ne (tgt := 2237) hx hb dL_law_2222 (by decide) (fun _ => ?_) (fun c_691 => absurd c_691 (by decide))
    refine lv_goto (tgt := 4257) hx hb dL_law_2237 (by decide) ?_
    refine W.widen (k := 60) (n := 1200) (Nat.le_of_ble_eq_true rfl) (Nat.le_of_ble_eq_true rfl) ?_
    exact hend _ _ _ hS (lv_sub hl [7, 2] rfl)
set_option maxHeartbeats 4000000 in
set_option maxRecDepth 100000 in
theorem law_case_28 {p : Program} {l : Launch} {e : Env} {s : State} {m : MethodId} {below : List Frame} {meth : Method} {c : Code} {D : va_G} {cy : Nat → ClassId} {ed b : Nat} {xs : Nat → Int32} {A : Nat → Prop} {Q : State → Prop} (C0 : zx_LW p l s m c D cy ed b xs A)
    {h pe ne pa ro a1 a2 a3 a4 a5 a6 a7 a8 a9 n1 n2 n3 n4 n5 m0 mp b1 b2 b3 b4 b5 mq oa od : Nat} {f2 f3 f4 f5 g2 g3 g4 g5 : Nat → Int32} (hf5 : ∀ j, j < 8 → f5 j = 115) (hg5 : ∀ j, j < 8 → g5 j = 115) {H : Heap} {locs : List Loc} {ls : Array Slot}
    (hP : va_P D vwCl [(h, .inr (13, [.ref pe, .ref ne, .ref pa, .ref ro, .int 0])), (pe, .inr (9, [.int 0, .ref a1, .ref a2, .ref a3, .ref a4, .ref a5, .ref a6, .ref a7, .ref a8, .ref a9])), (a1, .inl (cy 0, 20, .inl (fun _ => 0))), (a2, .inl (cy 0, 20, .inl (fun _ => 0))), (ne, .inr (6, [.ref n1, .ref n2, .ref n3, .ref n4, .ref n5])), (n1, .inl (cy 0, 8, .inl (fun _ => 0))), (n2, .inl (cy 0, 8, .inl f2)), (n3, .inl (cy 0, 8, .inl f3)), (n4, .inl (cy 0, 8, .inl f4)), (n5, .inl (cy 1, 8, .inl f5)), (pa, .inr (4, [.int 0, .ref ed, .int 0])), (ro, .inl (cy 0, 20, .inl (fun _ => 0))), (m0, .inr (20, [.int 0, .ref mp, .int 0, .ref b1, .ref b2, .ref b3, .ref b4, .ref b5, .ref mq])), (b1, .inl (cy 0, 8, .inl (fun _ => 0))), (b2, .inl (cy 0, 8, .inl g2)), (b3, .inl (cy 0, 8, .inl g3)), (b4, .inl (cy 0, 8, .inl g4)), (b5, .inl (cy 1, 8, .inl g5)), (mp, .inr (4, [.int 0, .ref ed, .int 0])), (mq, .inr (4, [.int 0, .ref ed, .int 0])), (oa, .inl (cy 3, 1, .inr (.inl (fun _ => 0)))), (od, .inl (cy 4, 1, .inr (.inr (.inr (.inl (fun _ => 0))))))] H) (hD : va_D A [(h, .inr (13, [.ref pe, .ref ne, .ref pa, .ref ro, .int 0])), (pe, .inr (9, [.int 0, .ref a1, .ref a2, .ref a3, .ref a4, .ref a5, .ref a6, .ref a7, .ref a8, .ref a9])), (a1, .inl (cy 0, 20, .inl (fun _ => 0))), (a2, .inl (cy 0, 20, .inl (fun _ => 0))), (ne, .inr (6, [.ref n1, .ref n2, .ref n3, .ref n4, .ref n5])), (n1, .inl (cy 0, 8, .inl (fun _ => 0))), (n2, .inl (cy 0, 8, .inl f2)), (n3, .inl (cy 0, 8, .inl f3)), (n4, .inl (cy 0, 8, .inl f4)), (n5, .inl (cy 1, 8, .inl f5)), (pa, .inr (4, [.int 0, .ref ed, .int 0])), (ro, .inl (cy 0, 20, .inl (fun _ => 0))), (m0, .inr (20, [.int 0, .ref mp, .int 0, .ref b1, .ref b2, .ref b3, .ref b4, .ref b5, .ref mq])), (b1, .inl (cy 0, 8, .inl (fun _ => 0))), (b2, .inl (cy 0, 8, .inl g2)), (b3, .inl (cy 0, 8, .inl g3)), (b4, .inl (cy 0, 8, .inl g4)), (b5, .inl (cy 1, 8, .inl g5)), (mp, .inr (4, [.int 0, .ref ed, .int 0])), (mq, .inr (4, [.int 0, .ref ed, .int 0])), (oa, .inl (cy 3, 1, .inr (.inl (fun _ => 0)))), (od, .inl (cy 4, 1, .inr (.inr (.inr (.inl (fun _ => 0))))))]) (hS : va_S A s.heap H locs) (hl : lv_has ls 9 [(5, .int 0), (4, .ref od), (3, .ref oa), (2, .ref m0), (1, .ref h), (0, .ref b)])
    (hend : ∀ (H : Heap) (locs : List Loc) (ls : Array Slot), va_S A s.heap H locs → lv_has ls 9 [(0, .ref b), (5, .int 0)] → W p l e room_1 s m #[Value.ref b] below meth c H locs 60 1200 Q (F0 m 4257 ls [])) :
    W p l e room_1 s m #[Value.ref b] below meth c H locs 29 880 Q (F0 m 2240 ls []) := by
  obtain ⟨hx, hb, hml, hst, hown, hts, hX, hbl, hbA, hA, hK, hZ, hN⟩ := C0
  refine lv_aload_n hx hb dL_law_2240 rfl (lv_at hl 4 rfl) ?_
  refine lv_aload_n hx hb dL_law_2241 rfl (lv_at hl 5 rfl) ?_
  refine lv_iload hx hb dL_law_2242 (lv_at hl 0 rfl) ?_
  refine lv_iconst (v := 1) hx hb dL_law_2244 (by decide) ?_
  refine lv_iadd hx hb dL_law_2245 ?_
  refine lv_topi (fun y9 ey9 => ?_)
  obtain rfl : y9 = 1 := by rw [ey9] <;> decide
  refine va_sld hx hb hX hbl hbA hS (zx_bn (by decide)) dL_law_2246 ?_
  refine lv_aload_n hx hb dL_law_2247 rfl (lv_at hl 2 rfl) ?_
  have hPc := hP.sub (ws' := [(h, .inr (13, [.ref pe, .ref ne, .ref pa, .ref ro, .int 0])), (pa, .inr (4, [.int 0, .ref ed, .int 0])), (oa, .inl (cy 3, 1, .inr (.inl (fun _ => 0))))]) [0, 10, 20] rfl
  have hDc := hD.sub (ws' := [(h, .inr (13, [.ref pe, .ref ne, .ref pa, .ref ro, .int 0])), (pa, .inr (4, [.int 0, .ref ed, .int 0])), (oa, .inl (cy 3, 1, .inr (.inl (fun _ => 0))))]) [0, 10, 20] (by decide) rfl
  have hFc := va_free (wc := [(h, .inr (13, [.ref pe, .ref ne, .ref pa, .ref ro, .int 0])), (pa, .inr (4, [.int 0, .ref ed, .int 0])), (oa, .inl (cy 3, 1, .inr (.inl (fun _ => 0))))]) hD hS hA [0, 10, 20] rfl
  refine vx_calli (vx_runSX (As := [.ref h, .int (xs (1 : Int32).toNatClampNeg), .ref oa]) (rest := []) ⟨hx, hb, hml, hown, hts⟩ (c_L_publish l hst D cy ed H.size h pe ne pa ro 0 0 ed oa (fun _ => 0) (xs (1 : Int32).toNatClampNeg)) (vx_cwSW 3 hts (zx_GS mm_1223 mm_1224 mm_70 mm_1225) rfl rfl rfl (by decide +kernel) ⟨(Nat.le_of_ble_eq_true rfl), (Nat.le_of_ble_eq_true rfl)⟩) ⟨zx_blind, zx_give hPc hK hDc hS hFc hZ hN⟩ rfl rfl hl.1 rfl (lv_room (Nat.le_of_ble_eq_true rfl)) dL_law_2248 ⟨(Nat.le_of_ble_eq_true rfl), (Nat.le_of_ble_eq_true rfl)⟩) hS (fun q _ h => hFc q h) hFc (fun q _ h => hFc q h) (fun E9 ce9 q9 _ t H locs ht hvm _ hBX hz1 hk1 hS hce hcv hcl => ?_) (fun r9 u t H locs ht hvm hw hB hz1 hk1 hS => ?_)
  · exact hBX.elim
  ·
    obtain rfl : r9 = 1 := hw
    obtain ⟨hP, hD⟩ := zx_join (wr := [(pe, .inr (9, [.int 0, .ref a1, .ref a2, .ref a3, .ref a4, .ref a5, .ref a6, .ref a7, .ref a8, .ref a9])), (a1, .inl (cy 0, 20, .inl (fun _ => 0))), (a2, .inl (cy 0, 20, .inl (fun _ => 0))), (ne, .inr (6, [.ref n1, .ref n2, .ref n3, .ref n4, .ref n5])), (n1, .inl (cy 0, 8, .inl (fun _ => 0))), (n2, .inl (cy 0, 8, .inl f2)), (n3, .inl (cy 0, 8, .inl f3)), (n4, .inl (cy 0, 8, .inl f4)), (n5, .inl (cy 1, 8, .inl f5)), (ro, .inl (cy 0, 20, .inl (fun _ => 0))), (m0, .inr (20, [.int 0, .ref mp, .int 0, .ref b1, .ref b2, .ref b3, .ref b4, .ref b5, .ref mq])), (b1, .inl (cy 0, 8, .inl (fun _ => 0))), (b2, .inl (cy 0, 8, .inl g2)), (b3, .inl (cy 0, 8, .inl g3)), (b4, .inl (cy 0, 8, .inl g4)), (b5, .inl (cy 1, 8, .inl g5)), (mp, .inr (4, [.int 0, .ref ed, .int 0])), (mq, .inr (4, [.int 0, .ref ed, .int 0])), (od, .inl (cy 4, 1, .inr (.inr (.inr (.inl (fun _ => 0))))))]) (w1 := []) [0, 10, 20] [1, 2, 3, 4, 5, 6, 7, 8, 9, 11, 12, 13, 14, 15, 16, 17, 18, 19, 21] rfl rfl (by decide) (by decide) hP hD hk1 hFc hB ht
    have hP : va_P D vwCl [(pe, .inr (9, [.int 0, .ref a1, .ref a2, .ref a3, .ref a4, .ref a5, .ref a6, .ref a7, .ref a8, .ref a9])), (a1, .inl (cy 0, 20, .inl (fun _ => 0))), (a2, .inl (cy 0, 20, .inl (fun _ => 0))), (ne, .inr (6, [.ref n1, .ref n2, .ref n3, .ref n4, .ref n5])), (n1, .inl (cy 0, 8, .inl (fun _ => 0))), (n2, .inl (cy 0, 8, .inl f2)), (n3, .inl (cy 0, 8, .inl f3)), (n4, .inl (cy 0, 8, .inl f4)), (n5, .inl (cy 1, 8, .inl f5)), (ro, .inl (cy 0, 20, .inl (fun _ => 0))), (m0, .inr (20, [.int 0, .ref mp, .int 0, .ref b1, .ref b2, .ref b3, .ref b4, .ref b5, .ref mq])), (b1, .inl (cy 0, 8, .inl (fun _ => 0))), (b2, .inl (cy 0, 8, .inl g2)), (b3, .inl (cy 0, 8, .inl g3)), (b4, .inl (cy 0, 8, .inl g4)), (b5, .inl (cy 1, 8, .inl g5)), (mp, .inr (4, [.int 0, .ref ed, .int 0])), (mq, .inr (4, [.int 0, .ref ed, .int 0])), (od, .inl (cy 4, 1, .inr (.inr (.inr (.inl (fun _ => 0))))))] H := hP
    have hD : va_D A [(pe, .inr (9, [.int 0, .ref a1, .ref a2, .ref a3, .ref a4, .ref a5, .ref a6, .ref a7, .ref a8, .ref a9])), (a1, .inl (cy 0, 20, .inl (fun _ => 0))), (a2, .inl (cy 0, 20, .inl (fun _ => 0))), (ne, .inr (6, [.ref n1, .ref n2, .ref n3, .ref n4, .ref n5])), (n1, .inl (cy 0, 8, .inl (fun _ => 0))), (n2, .inl (cy 0, 8, .inl f2)), (n3, .inl (cy 0, 8, .inl f3)), (n4, .inl (cy 0, 8, .inl f4)), (n5, .inl (cy 1, 8, .inl f5)), (ro, .inl (cy 0, 20, .inl (fun _ => 0))), (m0, .inr (20, [.int 0, .ref mp, .int 0, .ref b1, .ref b2, .ref b3, .ref b4, .ref b5, .ref mq])), (b1, .inl (cy 0, 8, .inl (fun _ => 0))), (b2, .inl (cy 0, 8, .inl g2)), (b3, .inl (cy 0, 8, .inl g3)), (b4, .inl (cy 0, 8, .inl g4)), (b5, .inl (cy 1, 8, .inl g5)), (mp, .inr (4, [.int 0, .ref ed, .int 0])), (mq, .inr (4, [.int 0, .ref ed, .int 0])), (od, .inl (cy 4, 1, .inr (.inr (.inr (.inl (fun _ => 0))))))] := hD
    refine W.widen (k := 30) (n := 886) (Nat.le_of_ble_eq_true rfl) (Nat.le_of_ble_eq_true rfl) ?_
    refine lv_istore (lv' := [(6, .int 1), (5, .int 0), (4, .ref od), (3, .ref oa), (2, .ref m0), (1, .ref h), (0, .ref b)]) hx hb dL_law_2251 hl (by decide) rfl (fun ls hl => ?_)
    refine lv_aload_n hx hb dL_law_2253 rfl (lv_at hl 4 rfl) ?_
    refine lv_aload_n hx hb dL_law_2254 rfl (lv_at hl 6 rfl) ?_
    refine lv_iload hx hb dL_law_2255 (lv_at hl 1 rfl) ?_
    refine lv_iconst (v := 1) hx hb dL_law_2257 (by decide) ?_
    refine lv_iadd hx hb dL_law_2258 ?_
    refine lv_topi (fun y9 ey9 => ?_)
    obtain rfl : y9 = 1 := by rw [ey9] <;> decide
    refine va_sld hx hb hX hbl hbA hS (zx_bn (by decide)) dL_law_2259 ?_
    have hPc := hP.sub (ws' := [(m0, .inr (20, [.int 0, .ref mp, .int 0, .ref b1, .ref b2, .ref b3, .ref b4, .ref b5, .ref mq])), (mp, .inr (4, [.int 0, .ref ed, .int 0])), (mq, .inr (4, [.int 0, .ref ed, .int 0]))]) [10, 16, 17] rfl
    have hDc := hD.sub (ws' := [(m0, .inr (20, [.int 0, .ref mp, .int 0, .ref b1, .ref b2, .ref b3, .ref b4, .ref b5, .ref mq])), (mp, .inr (4, [.int 0, .ref ed, .int 0])), (mq, .inr (4, [.int 0, .ref ed, .int 0]))]) [10, 16, 17] (by decide) rfl
    have hFc := va_free (wc := [(m0, .inr (20, [.int 0, .ref mp, .int 0, .ref b1, .ref b2, .ref b3, .ref b4, .ref b5, .ref mq])), (mp, .inr (4, [.int 0, .ref ed, .int 0])), (mq, .inr (4, [.int 0, .ref ed, .int 0]))]) hD hS hA [10, 16, 17] rfl
    refine va_calli (va_runV (As := [.int (xs (1 : Int32).toNatClampNeg)]) (rest := []) ⟨hx, hb, hml, hown, hts⟩ (c_X15_publish l hst D cy ed H.size m0 mp mq b1 b2 b3 b4 b5 0 0 0 ed 0 ed (xs (1 : Int32).toNatClampNeg)) (cwV 1 hts (zx_GV mm_2309 mm_2310 mm_2311 mm_78 mm_2312) rfl rfl rfl (by decide +kernel) ⟨(Nat.le_of_ble_eq_true rfl), (Nat.le_of_ble_eq_true rfl)⟩) ⟨zx_blind, va_recv hK hPc (ci := 20) (q0 := 0) rfl rfl, zx_give hPc hK hDc hS hFc hZ hN⟩ rfl rfl hl.1 rfl (lv_room (Nat.le_of_ble_eq_true rfl)) dL_law_2260 ⟨(Nat.le_of_ble_eq_true rfl), (Nat.le_of_ble_eq_true rfl)⟩) hS (fun q _ h => hFc q h) hFc (fun r9 u t H1 locs ht hvm hw hB hz1 hk1 hS => ?_)
    obtain ⟨r_692, rfl⟩ : ∃ z9, z9 = r9 := ⟨_, rfl⟩
    have h_693 := hw
    obtain ⟨hP, hD⟩ := zx_join (wr := [(pe, .inr (9, [.int 0, .ref a1, .ref a2, .ref a3, .ref a4, .ref a5, .ref a6, .ref a7, .ref a8, .ref a9])), (a1, .inl (cy 0, 20, .inl (fun _ => 0))), (a2, .inl (cy 0, 20, .inl (fun _ => 0))), (ne, .inr (6, [.ref n1, .ref n2, .ref n3, .ref n4, .ref n5])), (n1, .inl (cy 0, 8, .inl (fun _ => 0))), (n2, .inl (cy 0, 8, .inl f2)), (n3, .inl (cy 0, 8, .inl f3)), (n4, .inl (cy 0, 8, .inl f4)), (n5, .inl (cy 1, 8, .inl f5)), (ro, .inl (cy 0, 20, .inl (fun _ => 0))), (b1, .inl (cy 0, 8, .inl (fun _ => 0))), (b2, .inl (cy 0, 8, .inl g2)), (b3, .inl (cy 0, 8, .inl g3)), (b4, .inl (cy 0, 8, .inl g4)), (b5, .inl (cy 1, 8, .inl g5)), (od, .inl (cy 4, 1, .inr (.inr (.inr (.inl (fun _ => 0))))))]) (w1 := [(m0, .inr (20, [.int 1, .ref mp, .int 0, .ref b1, .ref b2, .ref b3, .ref b4, .ref b5, .ref mq]))]) [10, 16, 17] [0, 1, 2, 3, 4, 5, 6, 7, 8, 9, 11, 12, 13, 14, 15, 18] rfl rfl (by decide) (by decide) hP hD hk1 hFc hB ht
    generalize H1 = H at hP hS ⊢
    have hP : va_P D vwCl [(pe, .inr (9, [.int 0, .ref a1, .ref a2, .ref a3, .ref a4, .ref a5, .ref a6, .ref a7, .ref a8, .ref a9])), (a1, .inl (cy 0, 20, .inl (fun _ => 0))), (a2, .inl (cy 0, 20, .inl (fun _ => 0))), (ne, .inr (6, [.ref n1, .ref n2, .ref n3, .ref n4, .ref n5])), (n1, .inl (cy 0, 8, .inl (fun _ => 0))), (n2, .inl (cy 0, 8, .inl f2)), (n3, .inl (cy 0, 8, .inl f3)), (n4, .inl (cy 0, 8, .inl f4)), (n5, .inl (cy 1, 8, .inl f5)), (ro, .inl (cy 0, 20, .inl (fun _ => 0))), (b1, .inl (cy 0, 8, .inl (fun _ => 0))), (b2, .inl (cy 0, 8, .inl g2)), (b3, .inl (cy 0, 8, .inl g3)), (b4, .inl (cy 0, 8, .inl g4)), (b5, .inl (cy 1, 8, .inl g5)), (od, .inl (cy 4, 1, .inr (.inr (.inr (.inl (fun _ => 0)))))), (m0, .inr (20, [.int 1, .ref mp, .int 0, .ref b1, .ref b2, .ref b3, .ref b4, .ref b5, .ref mq]))] H := hP
    have hD : va_D A [(pe, .inr (9, [.int 0, .ref a1, .ref a2, .ref a3, .ref a4, .ref a5, .ref a6, .ref a7, .ref a8, .ref a9])), (a1, .inl (cy 0, 20, .inl (fun _ => 0))), (a2, .inl (cy 0, 20, .inl (fun _ => 0))), (ne, .inr (6, [.ref n1, .ref n2, .ref n3, .ref n4, .ref n5])), (n1, .inl (cy 0, 8, .inl (fun _ => 0))), (n2, .inl (cy 0, 8, .inl f2)), (n3, .inl (cy 0, 8, .inl f3)), (n4, .inl (cy 0, 8, .inl f4)), (n5, .inl (cy 1, 8, .inl f5)), (ro, .inl (cy 0, 20, .inl (fun _ => 0))), (b1, .inl (cy 0, 8, .inl (fun _ => 0))), (b2, .inl (cy 0, 8, .inl g2)), (b3, .inl (cy 0, 8, .inl g3)), (b4, .inl (cy 0, 8, .inl g4)), (b5, .inl (cy 1, 8, .inl g5)), (od, .inl (cy 4, 1, .inr (.inr (.inr (.inl (fun _ => 0)))))), (m0, .inr (20, [.int 1, .ref mp, .int 0, .ref b1, .ref b2, .ref b3, .ref b4, .ref b5, .ref mq]))] := hD
    refine W.widen (k := 30) (n := 886) (Nat.le_of_ble_eq_true rfl) (Nat.le_of_ble_eq_true rfl) ?_
    refine lv_istore (lv' := [(7, .int r_692), (6, .int 1), (5, .int 0), (4, .ref od), (3, .ref oa), (2, .ref m0), (1, .ref h), (0, .ref b)]) hx hb dL_law_2263 hl (by decide) rfl (fun ls hl => ?_)
    refine lv_aload_n hx hb dL_law_2265 rfl (lv_at hl 5 rfl) ?_
    have hPc := hP.sub (ws' := [(m0, .inr (20, [.int 1, .ref mp, .int 0, .ref b1, .ref b2, .ref b3, .ref b4, .ref b5, .ref mq]))]) [16] rfl
    have hDc := hD.sub (ws' := [(m0, .inr (20, [.int 1, .ref mp, .int 0, .ref b1, .ref b2, .ref b3, .ref b4, .ref b5, .ref mq]))]) [16] (by decide) rfl
    have hFc := va_free (wc := [(m0, .inr (20, [.int 1, .ref mp, .int 0, .ref b1, .ref b2, .ref b3, .ref b4, .ref b5, .ref mq]))]) hD hS hA [16] rfl
    refine va_calli (va_runV (As := []) (rest := []) ⟨hx, hb, hml, hown, hts⟩ (c_X15_thrown l hst D cy ed H.size m0 mp mq b1 b2 b3 b4 b5 1 0) (cwV 0 hts (zx_GV mm_1599 mm_1600 mm_1601 mm_78 mm_1602) rfl rfl rfl (by decide +kernel) ⟨(Nat.le_of_ble_eq_true rfl), (Nat.le_of_ble_eq_true rfl)⟩) ⟨zx_blind, va_recv hK hPc (ci := 20) (q0 := 0) rfl rfl, zx_give hPc hK hDc hS hFc hZ hN⟩ rfl rfl hl.1 rfl (lv_room (Nat.le_of_ble_eq_true rfl)) dL_law_2266 ⟨(Nat.le_of_ble_eq_true rfl), (Nat.le_of_ble_eq_true rfl)⟩) hS (fun q _ h => hFc q h) hFc (fun r9 u t H1 locs ht hvm hw hB hz1 hk1 hS => ?_)
    obtain rfl : r9 = 1 := hw
    obtain ⟨hP, hD⟩ := zx_join (wr := [(pe, .inr (9, [.int 0, .ref a1, .ref a2, .ref a3, .ref a4, .ref a5, .ref a6, .ref a7, .ref a8, .ref a9])), (a1, .inl (cy 0, 20, .inl (fun _ => 0))), (a2, .inl (cy 0, 20, .inl (fun _ => 0))), (ne, .inr (6, [.ref n1, .ref n2, .ref n3, .ref n4, .ref n5])), (n1, .inl (cy 0, 8, .inl (fun _ => 0))), (n2, .inl (cy 0, 8, .inl f2)), (n3, .inl (cy 0, 8, .inl f3)), (n4, .inl (cy 0, 8, .inl f4)), (n5, .inl (cy 1, 8, .inl f5)), (ro, .inl (cy 0, 20, .inl (fun _ => 0))), (b1, .inl (cy 0, 8, .inl (fun _ => 0))), (b2, .inl (cy 0, 8, .inl g2)), (b3, .inl (cy 0, 8, .inl g3)), (b4, .inl (cy 0, 8, .inl g4)), (b5, .inl (cy 1, 8, .inl g5)), (od, .inl (cy 4, 1, .inr (.inr (.inr (.inl (fun _ => 0))))))]) (w1 := [(m0, .inr (20, [.int 1, .ref mp, .int 0, .ref b1, .ref b2, .ref b3, .ref b4, .ref b5, .ref mq]))]) [16] [0, 1, 2, 3, 4, 5, 6, 7, 8, 9, 10, 11, 12, 13, 14, 15] rfl rfl (by decide) (by decide) hP hD hk1 hFc hB ht
    generalize H1 = H at hP hS ⊢
    have hP : va_P D vwCl [(pe, .inr (9, [.int 0, .ref a1, .ref a2, .ref a3, .ref a4, .ref a5, .ref a6, .ref a7, .ref a8, .ref a9])), (a1, .inl (cy 0, 20, .inl (fun _ => 0))), (a2, .inl (cy 0, 20, .inl (fun _ => 0))), (ne, .inr (6, [.ref n1, .ref n2, .ref n3, .ref n4, .ref n5])), (n1, .inl (cy 0, 8, .inl (fun _ => 0))), (n2, .inl (cy 0, 8, .inl f2)), (n3, .inl (cy 0, 8, .inl f3)), (n4, .inl (cy 0, 8, .inl f4)), (n5, .inl (cy 1, 8, .inl f5)), (ro, .inl (cy 0, 20, .inl (fun _ => 0))), (b1, .inl (cy 0, 8, .inl (fun _ => 0))), (b2, .inl (cy 0, 8, .inl g2)), (b3, .inl (cy 0, 8, .inl g3)), (b4, .inl (cy 0, 8, .inl g4)), (b5, .inl (cy 1, 8, .inl g5)), (od, .inl (cy 4, 1, .inr (.inr (.inr (.inl (fun _ => 0)))))), (m0, .inr (20, [.int 1, .ref mp, .int 0, .ref b1, .ref b2, .ref b3, .ref b4, .ref b5, .ref mq]))] H := hP
    have hD : va_D A [(pe, .inr (9, [.int 0, .ref a1, .ref a2, .ref a3, .ref a4, .ref a5, .ref a6, .ref a7, .ref a8, .ref a9])), (a1, .inl (cy 0, 20, .inl (fun _ => 0))), (a2, .inl (cy 0, 20, .inl (fun _ => 0))), (ne, .inr (6, [.ref n1, .ref n2, .ref n3, .ref n4, .ref n5])), (n1, .inl (cy 0, 8, .inl (fun _ => 0))), (n2, .inl (cy 0, 8, .inl f2)), (n3, .inl (cy 0, 8, .inl f3)), (n4, .inl (cy 0, 8, .inl f4)), (n5, .inl (cy 1, 8, .inl f5)), (ro, .inl (cy 0, 20, .inl (fun _ => 0))), (b1, .inl (cy 0, 8, .inl (fun _ => 0))), (b2, .inl (cy 0, 8, .inl g2)), (b3, .inl (cy 0, 8, .inl g3)), (b4, .inl (cy 0, 8, .inl g4)), (b5, .inl (cy 1, 8, .inl g5)), (od, .inl (cy 4, 1, .inr (.inr (.inr (.inl (fun _ => 0)))))), (m0, .inr (20, [.int 1, .ref mp, .int 0, .ref b1, .ref b2, .ref b3, .ref b4, .ref b5, .ref mq]))] := hD
    refine W.widen (k := 30) (n := 886) (Nat.le_of_ble_eq_true rfl) (Nat.le_of_ble_eq_true rfl) ?_
    refine lv_iload hx hb dL_law_2269 (lv_at hl 1 rfl) ?_
    refine lv_icmp_eq (tgt := 2276) hx hb dL_law_2271 (by decide) (fun _ => ?_) (fun c_694 => absurd (by decide) c_694)
    refine lv_iload hx hb dL_law_2276 (lv_at hl 1 rfl) ?_
    refine lv_if_ne (tgt := 2293) hx hb dL_law_2278 (by decide) (fun _ => ?_) (fun c_695 => absurd c_695 (by decide))
    refine lv_goto (tgt := 4257) hx hb dL_law_2293 (by decide) ?_
    refine W.widen (k := 60) (n := 1200) (Nat.le_of_ble_eq_true rfl) (Nat.le_of_ble_eq_true rfl) ?_
    exact hend _ _ _ hS (lv_sub hl [7, 2] rfl)
set_option maxHeartbeats 4000000 in
set_option maxRecDepth 100000 in
theorem law_case_29 {p : Program} {l : Launch} {e : Env} {s : State} {m : MethodId} {below : List Frame} {meth : Method} {c : Code} {D : va_G} {cy : Nat → ClassId} {ed b : Nat} {xs : Nat → Int32} {A : Nat → Prop} {Q : State → Prop} (C0 : zx_LW p l s m c D cy ed b xs A)
    {h pe ne pa ro a1 a2 a3 a4 a5 a6 a7 a8 a9 n1 n2 n3 n4 n5 m0 mp b1 b2 b3 b4 b5 mq oa od : Nat} {f2 f3 f4 f5 g2 g3 g4 g5 : Nat → Int32} (hf5 : ∀ j, j < 8 → f5 j = 115) (hg5 : ∀ j, j < 8 → g5 j = 115) {H : Heap} {locs : List Loc} {ls : Array Slot}
    (hP : va_P D vwCl [(h, .inr (13, [.ref pe, .ref ne, .ref pa, .ref ro, .int 0])), (pe, .inr (9, [.int 0, .ref a1, .ref a2, .ref a3, .ref a4, .ref a5, .ref a6, .ref a7, .ref a8, .ref a9])), (a1, .inl (cy 0, 20, .inl (fun _ => 0))), (a2, .inl (cy 0, 20, .inl (fun _ => 0))), (ne, .inr (6, [.ref n1, .ref n2, .ref n3, .ref n4, .ref n5])), (n1, .inl (cy 0, 8, .inl (fun _ => 0))), (n2, .inl (cy 0, 8, .inl f2)), (n3, .inl (cy 0, 8, .inl f3)), (n4, .inl (cy 0, 8, .inl f4)), (n5, .inl (cy 1, 8, .inl f5)), (pa, .inr (4, [.int 0, .ref ed, .int 0])), (ro, .inl (cy 0, 20, .inl (fun _ => 0))), (m0, .inr (20, [.int 0, .ref mp, .int 0, .ref b1, .ref b2, .ref b3, .ref b4, .ref b5, .ref mq])), (b1, .inl (cy 0, 8, .inl (fun _ => 0))), (b2, .inl (cy 0, 8, .inl g2)), (b3, .inl (cy 0, 8, .inl g3)), (b4, .inl (cy 0, 8, .inl g4)), (b5, .inl (cy 1, 8, .inl g5)), (mp, .inr (4, [.int 0, .ref ed, .int 0])), (mq, .inr (4, [.int 0, .ref ed, .int 0])), (oa, .inl (cy 3, 1, .inr (.inl (fun _ => 0)))), (od, .inl (cy 4, 1, .inr (.inr (.inr (.inl (fun _ => 0))))))] H) (hD : va_D A [(h, .inr (13, [.ref pe, .ref ne, .ref pa, .ref ro, .int 0])), (pe, .inr (9, [.int 0, .ref a1, .ref a2, .ref a3, .ref a4, .ref a5, .ref a6, .ref a7, .ref a8, .ref a9])), (a1, .inl (cy 0, 20, .inl (fun _ => 0))), (a2, .inl (cy 0, 20, .inl (fun _ => 0))), (ne, .inr (6, [.ref n1, .ref n2, .ref n3, .ref n4, .ref n5])), (n1, .inl (cy 0, 8, .inl (fun _ => 0))), (n2, .inl (cy 0, 8, .inl f2)), (n3, .inl (cy 0, 8, .inl f3)), (n4, .inl (cy 0, 8, .inl f4)), (n5, .inl (cy 1, 8, .inl f5)), (pa, .inr (4, [.int 0, .ref ed, .int 0])), (ro, .inl (cy 0, 20, .inl (fun _ => 0))), (m0, .inr (20, [.int 0, .ref mp, .int 0, .ref b1, .ref b2, .ref b3, .ref b4, .ref b5, .ref mq])), (b1, .inl (cy 0, 8, .inl (fun _ => 0))), (b2, .inl (cy 0, 8, .inl g2)), (b3, .inl (cy 0, 8, .inl g3)), (b4, .inl (cy 0, 8, .inl g4)), (b5, .inl (cy 1, 8, .inl g5)), (mp, .inr (4, [.int 0, .ref ed, .int 0])), (mq, .inr (4, [.int 0, .ref ed, .int 0])), (oa, .inl (cy 3, 1, .inr (.inl (fun _ => 0)))), (od, .inl (cy 4, 1, .inr (.inr (.inr (.inl (fun _ => 0))))))]) (hS : va_S A s.heap H locs) (hl : lv_has ls 9 [(5, .int 0), (4, .ref od), (3, .ref oa), (2, .ref m0), (1, .ref h), (0, .ref b)])
    (hend : ∀ (H : Heap) (locs : List Loc) (ls : Array Slot), va_S A s.heap H locs → lv_has ls 9 [(0, .ref b), (5, .int 0)] → W p l e room_1 s m #[Value.ref b] below meth c H locs 60 1200 Q (F0 m 4257 ls [])) :
    W p l e room_1 s m #[Value.ref b] below meth c H locs 29 880 Q (F0 m 2296 ls []) := by
  obtain ⟨hx, hb, hml, hst, hown, hts, hX, hbl, hbA, hA, hK, hZ, hN⟩ := C0
  refine lv_aload_n hx hb dL_law_2296 rfl (lv_at hl 4 rfl) ?_
  refine lv_aload_n hx hb dL_law_2297 rfl (lv_at hl 5 rfl) ?_
  refine lv_iload hx hb dL_law_2298 (lv_at hl 0 rfl) ?_
  refine lv_iconst (v := 1) hx hb dL_law_2300 (by decide) ?_
  refine lv_iadd hx hb dL_law_2301 ?_
  refine lv_topi (fun y9 ey9 => ?_)
  obtain rfl : y9 = 1 := by rw [ey9] <;> decide
  refine va_sld hx hb hX hbl hbA hS (zx_bn (by decide)) dL_law_2302 ?_
  refine lv_aload_n hx hb dL_law_2303 rfl (lv_at hl 5 rfl) ?_
  refine lv_iload hx hb dL_law_2304 (lv_at hl 0 rfl) ?_
  refine lv_iconst (v := 2) hx hb dL_law_2306 (by decide) ?_
  refine lv_iadd hx hb dL_law_2307 ?_
  refine lv_topi (fun y9 ey9 => ?_)
  obtain rfl : y9 = 2 := by rw [ey9] <;> decide
  refine va_sld hx hb hX hbl hbA hS (zx_bn (by decide)) dL_law_2308 ?_
  refine lv_aload_n hx hb dL_law_2309 rfl (lv_at hl 2 rfl) ?_
  have hPc := hP.sub (ws' := [(h, .inr (13, [.ref pe, .ref ne, .ref pa, .ref ro, .int 0])), (pa, .inr (4, [.int 0, .ref ed, .int 0])), (oa, .inl (cy 3, 1, .inr (.inl (fun _ => 0))))]) [0, 10, 20] rfl
  have hDc := hD.sub (ws' := [(h, .inr (13, [.ref pe, .ref ne, .ref pa, .ref ro, .int 0])), (pa, .inr (4, [.int 0, .ref ed, .int 0])), (oa, .inl (cy 3, 1, .inr (.inl (fun _ => 0))))]) [0, 10, 20] (by decide) rfl
  have hFc := va_free (wc := [(h, .inr (13, [.ref pe, .ref ne, .ref pa, .ref ro, .int 0])), (pa, .inr (4, [.int 0, .ref ed, .int 0])), (oa, .inl (cy 3, 1, .inr (.inl (fun _ => 0))))]) hD hS hA [0, 10, 20] rfl
  refine vx_calli (vx_runSX (As := [.ref h, .int (xs (1 : Int32).toNatClampNeg), .int (xs (2 : Int32).toNatClampNeg), .ref oa]) (rest := []) ⟨hx, hb, hml, hown, hts⟩ (c_L_cite l hst D cy ed H.size h pe ne pa ro 0 0 ed oa (fun _ => 0) (xs (1 : Int32).toNatClampNeg) (xs (2 : Int32).toNatClampNeg)) (vx_cwSW 4 hts (zx_GS mm_1237 mm_1238 mm_70 mm_1239) rfl rfl rfl (by decide +kernel) ⟨(Nat.le_of_ble_eq_true rfl), (Nat.le_of_ble_eq_true rfl)⟩) ⟨zx_blind, zx_give hPc hK hDc hS hFc hZ hN⟩ rfl rfl hl.1 rfl (lv_room (Nat.le_of_ble_eq_true rfl)) dL_law_2310 ⟨(Nat.le_of_ble_eq_true rfl), (Nat.le_of_ble_eq_true rfl)⟩) hS (fun q _ h => hFc q h) hFc (fun q _ h => hFc q h) (fun E9 ce9 q9 _ t H locs ht hvm _ hBX hz1 hk1 hS hce hcv hcl => ?_) (fun r9 u t H locs ht hvm hw hB hz1 hk1 hS => ?_)
  · exact hBX.elim
  ·
    obtain rfl : r9 = 1 := hw
    obtain ⟨hP, hD⟩ := zx_join (wr := [(pe, .inr (9, [.int 0, .ref a1, .ref a2, .ref a3, .ref a4, .ref a5, .ref a6, .ref a7, .ref a8, .ref a9])), (a1, .inl (cy 0, 20, .inl (fun _ => 0))), (a2, .inl (cy 0, 20, .inl (fun _ => 0))), (ne, .inr (6, [.ref n1, .ref n2, .ref n3, .ref n4, .ref n5])), (n1, .inl (cy 0, 8, .inl (fun _ => 0))), (n2, .inl (cy 0, 8, .inl f2)), (n3, .inl (cy 0, 8, .inl f3)), (n4, .inl (cy 0, 8, .inl f4)), (n5, .inl (cy 1, 8, .inl f5)), (ro, .inl (cy 0, 20, .inl (fun _ => 0))), (m0, .inr (20, [.int 0, .ref mp, .int 0, .ref b1, .ref b2, .ref b3, .ref b4, .ref b5, .ref mq])), (b1, .inl (cy 0, 8, .inl (fun _ => 0))), (b2, .inl (cy 0, 8, .inl g2)), (b3, .inl (cy 0, 8, .inl g3)), (b4, .inl (cy 0, 8, .inl g4)), (b5, .inl (cy 1, 8, .inl g5)), (mp, .inr (4, [.int 0, .ref ed, .int 0])), (mq, .inr (4, [.int 0, .ref ed, .int 0])), (od, .inl (cy 4, 1, .inr (.inr (.inr (.inl (fun _ => 0))))))]) (w1 := []) [0, 10, 20] [1, 2, 3, 4, 5, 6, 7, 8, 9, 11, 12, 13, 14, 15, 16, 17, 18, 19, 21] rfl rfl (by decide) (by decide) hP hD hk1 hFc hB ht
    have hP : va_P D vwCl [(pe, .inr (9, [.int 0, .ref a1, .ref a2, .ref a3, .ref a4, .ref a5, .ref a6, .ref a7, .ref a8, .ref a9])), (a1, .inl (cy 0, 20, .inl (fun _ => 0))), (a2, .inl (cy 0, 20, .inl (fun _ => 0))), (ne, .inr (6, [.ref n1, .ref n2, .ref n3, .ref n4, .ref n5])), (n1, .inl (cy 0, 8, .inl (fun _ => 0))), (n2, .inl (cy 0, 8, .inl f2)), (n3, .inl (cy 0, 8, .inl f3)), (n4, .inl (cy 0, 8, .inl f4)), (n5, .inl (cy 1, 8, .inl f5)), (ro, .inl (cy 0, 20, .inl (fun _ => 0))), (m0, .inr (20, [.int 0, .ref mp, .int 0, .ref b1, .ref b2, .ref b3, .ref b4, .ref b5, .ref mq])), (b1, .inl (cy 0, 8, .inl (fun _ => 0))), (b2, .inl (cy 0, 8, .inl g2)), (b3, .inl (cy 0, 8, .inl g3)), (b4, .inl (cy 0, 8, .inl g4)), (b5, .inl (cy 1, 8, .inl g5)), (mp, .inr (4, [.int 0, .ref ed, .int 0])), (mq, .inr (4, [.int 0, .ref ed, .int 0])), (od, .inl (cy 4, 1, .inr (.inr (.inr (.inl (fun _ => 0))))))] H := hP
    have hD : va_D A [(pe, .inr (9, [.int 0, .ref a1, .ref a2, .ref a3, .ref a4, .ref a5, .ref a6, .ref a7, .ref a8, .ref a9])), (a1, .inl (cy 0, 20, .inl (fun _ => 0))), (a2, .inl (cy 0, 20, .inl (fun _ => 0))), (ne, .inr (6, [.ref n1, .ref n2, .ref n3, .ref n4, .ref n5])), (n1, .inl (cy 0, 8, .inl (fun _ => 0))), (n2, .inl (cy 0, 8, .inl f2)), (n3, .inl (cy 0, 8, .inl f3)), (n4, .inl (cy 0, 8, .inl f4)), (n5, .inl (cy 1, 8, .inl f5)), (ro, .inl (cy 0, 20, .inl (fun _ => 0))), (m0, .inr (20, [.int 0, .ref mp, .int 0, .ref b1, .ref b2, .ref b3, .ref b4, .ref b5, .ref mq])), (b1, .inl (cy 0, 8, .inl (fun _ => 0))), (b2, .inl (cy 0, 8, .inl g2)), (b3, .inl (cy 0, 8, .inl g3)), (b4, .inl (cy 0, 8, .inl g4)), (b5, .inl (cy 1, 8, .inl g5)), (mp, .inr (4, [.int 0, .ref ed, .int 0])), (mq, .inr (4, [.int 0, .ref ed, .int 0])), (od, .inl (cy 4, 1, .inr (.inr (.inr (.inl (fun _ => 0))))))] := hD
    refine W.widen (k := 30) (n := 886) (Nat.le_of_ble_eq_true rfl) (Nat.le_of_ble_eq_true rfl) ?_
    refine lv_istore (lv' := [(6, .int 1), (5, .int 0), (4, .ref od), (3, .ref oa), (2, .ref m0), (1, .ref h), (0, .ref b)]) hx hb dL_law_2313 hl (by decide) rfl (fun ls hl => ?_)
    refine lv_aload_n hx hb dL_law_2315 rfl (lv_at hl 4 rfl) ?_
    refine lv_aload_n hx hb dL_law_2316 rfl (lv_at hl 6 rfl) ?_
    refine lv_iload hx hb dL_law_2317 (lv_at hl 1 rfl) ?_
    refine lv_iconst (v := 1) hx hb dL_law_2319 (by decide) ?_
    refine lv_iadd hx hb dL_law_2320 ?_
    refine lv_topi (fun y9 ey9 => ?_)
    obtain rfl : y9 = 1 := by rw [ey9] <;> decide
    refine va_sld hx hb hX hbl hbA hS (zx_bn (by decide)) dL_law_2321 ?_
    refine lv_aload_n hx hb dL_law_2322 rfl (lv_at hl 6 rfl) ?_
    refine lv_iload hx hb dL_law_2323 (lv_at hl 1 rfl) ?_
    refine lv_iconst (v := 2) hx hb dL_law_2325 (by decide) ?_
    refine lv_iadd hx hb dL_law_2326 ?_
    refine lv_topi (fun y9 ey9 => ?_)
    obtain rfl : y9 = 2 := by rw [ey9] <;> decide
    refine va_sld hx hb hX hbl hbA hS (zx_bn (by decide)) dL_law_2327 ?_
    have hPc := hP.sub (ws' := [(m0, .inr (20, [.int 0, .ref mp, .int 0, .ref b1, .ref b2, .ref b3, .ref b4, .ref b5, .ref mq])), (mp, .inr (4, [.int 0, .ref ed, .int 0])), (mq, .inr (4, [.int 0, .ref ed, .int 0]))]) [10, 16, 17] rfl
    have hDc := hD.sub (ws' := [(m0, .inr (20, [.int 0, .ref mp, .int 0, .ref b1, .ref b2, .ref b3, .ref b4, .ref b5, .ref mq])), (mp, .inr (4, [.int 0, .ref ed, .int 0])), (mq, .inr (4, [.int 0, .ref ed, .int 0]))]) [10, 16, 17] (by decide) rfl
    have hFc := va_free (wc := [(m0, .inr (20, [.int 0, .ref mp, .int 0, .ref b1, .ref b2, .ref b3, .ref b4, .ref b5, .ref mq])), (mp, .inr (4, [.int 0, .ref ed, .int 0])), (mq, .inr (4, [.int 0, .ref ed, .int 0]))]) hD hS hA [10, 16, 17] rfl
    refine va_calli (va_runV (As := [.int (xs (1 : Int32).toNatClampNeg), .int (xs (2 : Int32).toNatClampNeg)]) (rest := []) ⟨hx, hb, hml, hown, hts⟩ (c_X15_cite l hst D cy ed H.size m0 mp mq b1 b2 b3 b4 b5 0 0 0 ed 0 ed (xs (1 : Int32).toNatClampNeg) (xs (2 : Int32).toNatClampNeg)) (cwV 2 hts (zx_GV mm_2321 mm_2322 mm_2323 mm_78 mm_2324) rfl rfl rfl (by decide +kernel) ⟨(Nat.le_of_ble_eq_true rfl), (Nat.le_of_ble_eq_true rfl)⟩) ⟨zx_blind, va_recv hK hPc (ci := 20) (q0 := 0) rfl rfl, zx_give hPc hK hDc hS hFc hZ hN⟩ rfl rfl hl.1 rfl (lv_room (Nat.le_of_ble_eq_true rfl)) dL_law_2328 ⟨(Nat.le_of_ble_eq_true rfl), (Nat.le_of_ble_eq_true rfl)⟩) hS (fun q _ h => hFc q h) hFc (fun r9 u t H1 locs ht hvm hw hB hz1 hk1 hS => ?_)
    obtain ⟨r_696, rfl⟩ : ∃ z9, z9 = r9 := ⟨_, rfl⟩
    have h_697 := hw
    obtain ⟨hP, hD⟩ := zx_join (wr := [(pe, .inr (9, [.int 0, .ref a1, .ref a2, .ref a3, .ref a4, .ref a5, .ref a6, .ref a7, .ref a8, .ref a9])), (a1, .inl (cy 0, 20, .inl (fun _ => 0))), (a2, .inl (cy 0, 20, .inl (fun _ => 0))), (ne, .inr (6, [.ref n1, .ref n2, .ref n3, .ref n4, .ref n5])), (n1, .inl (cy 0, 8, .inl (fun _ => 0))), (n2, .inl (cy 0, 8, .inl f2)), (n3, .inl (cy 0, 8, .inl f3)), (n4, .inl (cy 0, 8, .inl f4)), (n5, .inl (cy 1, 8, .inl f5)), (ro, .inl (cy 0, 20, .inl (fun _ => 0))), (b1, .inl (cy 0, 8, .inl (fun _ => 0))), (b2, .inl (cy 0, 8, .inl g2)), (b3, .inl (cy 0, 8, .inl g3)), (b4, .inl (cy 0, 8, .inl g4)), (b5, .inl (cy 1, 8, .inl g5)), (od, .inl (cy 4, 1, .inr (.inr (.inr (.inl (fun _ => 0))))))]) (w1 := [(m0, .inr (20, [.int 1, .ref mp, .int 0, .ref b1, .ref b2, .ref b3, .ref b4, .ref b5, .ref mq]))]) [10, 16, 17] [0, 1, 2, 3, 4, 5, 6, 7, 8, 9, 11, 12, 13, 14, 15, 18] rfl rfl (by decide) (by decide) hP hD hk1 hFc hB ht
    generalize H1 = H at hP hS ⊢
    have hP : va_P D vwCl [(pe, .inr (9, [.int 0, .ref a1, .ref a2, .ref a3, .ref a4, .ref a5, .ref a6, .ref a7, .ref a8, .ref a9])), (a1, .inl (cy 0, 20, .inl (fun _ => 0))), (a2, .inl (cy 0, 20, .inl (fun _ => 0))), (ne, .inr (6, [.ref n1, .ref n2, .ref n3, .ref n4, .ref n5])), (n1, .inl (cy 0, 8, .inl (fun _ => 0))), (n2, .inl (cy 0, 8, .inl f2)), (n3, .inl (cy 0, 8, .inl f3)), (n4, .inl (cy 0, 8, .inl f4)), (n5, .inl (cy 1, 8, .inl f5)), (ro, .inl (cy 0, 20, .inl (fun _ => 0))), (b1, .inl (cy 0, 8, .inl (fun _ => 0))), (b2, .inl (cy 0, 8, .inl g2)), (b3, .inl (cy 0, 8, .inl g3)), (b4, .inl (cy 0, 8, .inl g4)), (b5, .inl (cy 1, 8, .inl g5)), (od, .inl (cy 4, 1, .inr (.inr (.inr (.inl (fun _ => 0)))))), (m0, .inr (20, [.int 1, .ref mp, .int 0, .ref b1, .ref b2, .ref b3, .ref b4, .ref b5, .ref mq]))] H := hP
    have hD : va_D A [(pe, .inr (9, [.int 0, .ref a1, .ref a2, .ref a3, .ref a4, .ref a5, .ref a6, .ref a7, .ref a8, .ref a9])), (a1, .inl (cy 0, 20, .inl (fun _ => 0))), (a2, .inl (cy 0, 20, .inl (fun _ => 0))), (ne, .inr (6, [.ref n1, .ref n2, .ref n3, .ref n4, .ref n5])), (n1, .inl (cy 0, 8, .inl (fun _ => 0))), (n2, .inl (cy 0, 8, .inl f2)), (n3, .inl (cy 0, 8, .inl f3)), (n4, .inl (cy 0, 8, .inl f4)), (n5, .inl (cy 1, 8, .inl f5)), (ro, .inl (cy 0, 20, .inl (fun _ => 0))), (b1, .inl (cy 0, 8, .inl (fun _ => 0))), (b2, .inl (cy 0, 8, .inl g2)), (b3, .inl (cy 0, 8, .inl g3)), (b4, .inl (cy 0, 8, .inl g4)), (b5, .inl (cy 1, 8, .inl g5)), (od, .inl (cy 4, 1, .inr (.inr (.inr (.inl (fun _ => 0)))))), (m0, .inr (20, [.int 1, .ref mp, .int 0, .ref b1, .ref b2, .ref b3, .ref b4, .ref b5, .ref mq]))] := hD
    refine W.widen (k := 30) (n := 886) (Nat.le_of_ble_eq_true rfl) (Nat.le_of_ble_eq_true rfl) ?_
    refine lv_istore (lv' := [(7, .int r_696), (6, .int 1), (5, .int 0), (4, .ref od), (3, .ref oa), (2, .ref m0), (1, .ref h), (0, .ref b)]) hx hb dL_law_2331 hl (by decide) rfl (fun ls hl => ?_)
    refine lv_aload_n hx hb dL_law_2333 rfl (lv_at hl 5 rfl) ?_
    have hPc := hP.sub (ws' := [(m0, .inr (20, [.int 1, .ref mp, .int 0, .ref b1, .ref b2, .ref b3, .ref b4, .ref b5, .ref mq]))]) [16] rfl
    have hDc := hD.sub (ws' := [(m0, .inr (20, [.int 1, .ref mp, .int 0, .ref b1, .ref b2, .ref b3, .ref b4, .ref b5, .ref mq]))]) [16] (by decide) rfl
    have hFc := va_free (wc := [(m0, .inr (20, [.int 1, .ref mp, .int 0, .ref b1, .ref b2, .ref b3, .ref b4, .ref b5, .ref mq]))]) hD hS hA [16] rfl
    refine va_calli (va_runV (As := []) (rest := []) ⟨hx, hb, hml, hown, hts⟩ (c_X15_thrown l hst D cy ed H.size m0 mp mq b1 b2 b3 b4 b5 1 0) (cwV 0 hts (zx_GV mm_1599 mm_1600 mm_1601 mm_78 mm_1602) rfl rfl rfl (by decide +kernel) ⟨(Nat.le_of_ble_eq_true rfl), (Nat.le_of_ble_eq_true rfl)⟩) ⟨zx_blind, va_recv hK hPc (ci := 20) (q0 := 0) rfl rfl, zx_give hPc hK hDc hS hFc hZ hN⟩ rfl rfl hl.1 rfl (lv_room (Nat.le_of_ble_eq_true rfl)) dL_law_2334 ⟨(Nat.le_of_ble_eq_true rfl), (Nat.le_of_ble_eq_true rfl)⟩) hS (fun q _ h => hFc q h) hFc (fun r9 u t H1 locs ht hvm hw hB hz1 hk1 hS => ?_)
    obtain rfl : r9 = 1 := hw
    obtain ⟨hP, hD⟩ := zx_join (wr := [(pe, .inr (9, [.int 0, .ref a1, .ref a2, .ref a3, .ref a4, .ref a5, .ref a6, .ref a7, .ref a8, .ref a9])), (a1, .inl (cy 0, 20, .inl (fun _ => 0))), (a2, .inl (cy 0, 20, .inl (fun _ => 0))), (ne, .inr (6, [.ref n1, .ref n2, .ref n3, .ref n4, .ref n5])), (n1, .inl (cy 0, 8, .inl (fun _ => 0))), (n2, .inl (cy 0, 8, .inl f2)), (n3, .inl (cy 0, 8, .inl f3)), (n4, .inl (cy 0, 8, .inl f4)), (n5, .inl (cy 1, 8, .inl f5)), (ro, .inl (cy 0, 20, .inl (fun _ => 0))), (b1, .inl (cy 0, 8, .inl (fun _ => 0))), (b2, .inl (cy 0, 8, .inl g2)), (b3, .inl (cy 0, 8, .inl g3)), (b4, .inl (cy 0, 8, .inl g4)), (b5, .inl (cy 1, 8, .inl g5)), (od, .inl (cy 4, 1, .inr (.inr (.inr (.inl (fun _ => 0))))))]) (w1 := [(m0, .inr (20, [.int 1, .ref mp, .int 0, .ref b1, .ref b2, .ref b3, .ref b4, .ref b5, .ref mq]))]) [16] [0, 1, 2, 3, 4, 5, 6, 7, 8, 9, 10, 11, 12, 13, 14, 15] rfl rfl (by decide) (by decide) hP hD hk1 hFc hB ht
    generalize H1 = H at hP hS ⊢
    have hP : va_P D vwCl [(pe, .inr (9, [.int 0, .ref a1, .ref a2, .ref a3, .ref a4, .ref a5, .ref a6, .ref a7, .ref a8, .ref a9])), (a1, .inl (cy 0, 20, .inl (fun _ => 0))), (a2, .inl (cy 0, 20, .inl (fun _ => 0))), (ne, .inr (6, [.ref n1, .ref n2, .ref n3, .ref n4, .ref n5])), (n1, .inl (cy 0, 8, .inl (fun _ => 0))), (n2, .inl (cy 0, 8, .inl f2)), (n3, .inl (cy 0, 8, .inl f3)), (n4, .inl (cy 0, 8, .inl f4)), (n5, .inl (cy 1, 8, .inl f5)), (ro, .inl (cy 0, 20, .inl (fun _ => 0))), (b1, .inl (cy 0, 8, .inl (fun _ => 0))), (b2, .inl (cy 0, 8, .inl g2)), (b3, .inl (cy 0, 8, .inl g3)), (b4, .inl (cy 0, 8, .inl g4)), (b5, .inl (cy 1, 8, .inl g5)), (od, .inl (cy 4, 1, .inr (.inr (.inr (.inl (fun _ => 0)))))), (m0, .inr (20, [.int 1, .ref mp, .int 0, .ref b1, .ref b2, .ref b3, .ref b4, .ref b5, .ref mq]))] H := hP
    have hD : va_D A [(pe, .inr (9, [.int 0, .ref a1, .ref a2, .ref a3, .ref a4, .ref a5, .ref a6, .ref a7, .ref a8, .ref a9])), (a1, .inl (cy 0, 20, .inl (fun _ => 0))), (a2, .inl (cy 0, 20, .inl (fun _ => 0))), (ne, .inr (6, [.ref n1, .ref n2, .ref n3, .ref n4, .ref n5])), (n1, .inl (cy 0, 8, .inl (fun _ => 0))), (n2, .inl (cy 0, 8, .inl f2)), (n3, .inl (cy 0, 8, .inl f3)), (n4, .inl (cy 0, 8, .inl f4)), (n5, .inl (cy 1, 8, .inl f5)), (ro, .inl (cy 0, 20, .inl (fun _ => 0))), (b1, .inl (cy 0, 8, .inl (fun _ => 0))), (b2, .inl (cy 0, 8, .inl g2)), (b3, .inl (cy 0, 8, .inl g3)), (b4, .inl (cy 0, 8, .inl g4)), (b5, .inl (cy 1, 8, .inl g5)), (od, .inl (cy 4, 1, .inr (.inr (.inr (.inl (fun _ => 0)))))), (m0, .inr (20, [.int 1, .ref mp, .int 0, .ref b1, .ref b2, .ref b3, .ref b4, .ref b5, .ref mq]))] := hD
    refine W.widen (k := 30) (n := 886) (Nat.le_of_ble_eq_true rfl) (Nat.le_of_ble_eq_true rfl) ?_
    refine lv_iload hx hb dL_law_2337 (lv_at hl 1 rfl) ?_
    refine lv_icmp_eq (tgt := 2344) hx hb dL_law_2339 (by decide) (fun _ => ?_) (fun c_698 => absurd (by decide) c_698)
    refine lv_iload hx hb dL_law_2344 (lv_at hl 1 rfl) ?_
    refine lv_if_ne (tgt := 2361) hx hb dL_law_2346 (by decide) (fun _ => ?_) (fun c_699 => absurd c_699 (by decide))
    refine lv_goto (tgt := 4257) hx hb dL_law_2361 (by decide) ?_
    refine W.widen (k := 60) (n := 1200) (Nat.le_of_ble_eq_true rfl) (Nat.le_of_ble_eq_true rfl) ?_
    exact hend _ _ _ hS (lv_sub hl [7, 2] rfl)
