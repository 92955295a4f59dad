theorem dL_law_1435 : decode code 1435 = .ok (.iload 5, 2) := by decide +kernel
theorem dL_law_1437 : decode code 1437 = .ok (.ifCond .ne 22, 3) := by decide +kernel
theorem dL_law_1440 : decode code 1440 = .ok (.aload_n 3, 1) := by decide +kernel
theorem dL_law_1441 : decode code 1441 = .ok (.iconst 0, 1) := by decide +kernel
theorem dL_law_1442 : decode code 1442 = .ok (.laload, 1) := by decide +kernel
theorem dL_law_1443 : decode code 1443 = .ok (.iload 6, 2) := by decide +kernel
theorem dL_law_1445 : decode code 1445 = .ok (.ifCond .eq 7, 3) := by decide +kernel
theorem dL_law_1448 : decode code 1448 = .ok (.lconst 1, 1) := by decide +kernel
theorem dL_law_1449 : decode code 1449 = .ok (.goto 4, 3) := by decide +kernel
theorem dL_law_1452 : decode code 1452 = .ok (.lconst 0, 1) := by decide +kernel
theorem dL_law_1453 : decode code 1453 = .ok (.lcmp, 1) := by decide +kernel
theorem dL_law_1454 : decode code 1454 = .ok (.ifCond .eq 5, 3) := by decide +kernel
theorem dL_law_1457 : decode code 1457 = .ok (.iconst 0, 1) := by decide +kernel
theorem dL_law_1458 : decode code 1458 = .ok (.ireturn, 1) := by decide +kernel
theorem dL_law_1459 : decode code 1459 = .ok (.goto 422, 3) := by decide +kernel
theorem dL_law_1462 : decode code 1462 = .ok (.aload_n 1, 1) := by decide +kernel
theorem dL_law_1463 : decode code 1463 = .ok (.aload_n 0, 1) := by decide +kernel
theorem dL_law_1464 : decode code 1464 = .ok (.iload 4, 2) := by decide +kernel
theorem dL_law_1466 : decode code 1466 = .ok (.iconst 1, 1) := by decide +kernel
theorem dL_law_1467 : decode code 1467 = .ok (.iadd, 1) := by decide +kernel
theorem dL_law_1468 : decode code 1468 = .ok (.iaload, 1) := by decide +kernel
theorem dL_law_1469 : decode code 1469 = .ok (.aload_n 3, 1) := by decide +kernel
theorem dL_law_1470 : decode code 1470 = .ok (.invokestatic 178, 3) := by decide +kernel
theorem dL_law_1473 : decode code 1473 = .ok (.istore 5, 2) := by decide +kernel
theorem dL_law_1475 : decode code 1475 = .ok (.aload_n 2, 1) := by decide +kernel
theorem dL_law_1476 : decode code 1476 = .ok (.aload_n 0, 1) := by decide +kernel
theorem dL_law_1477 : decode code 1477 = .ok (.iload 4, 2) := by decide +kernel
theorem dL_law_1479 : decode code 1479 = .ok (.iconst 1, 1) := by decide +kernel
theorem dL_law_1480 : decode code 1480 = .ok (.iadd, 1) := by decide +kernel
theorem dL_law_1481 : decode code 1481 = .ok (.iaload, 1) := by decide +kernel
theorem dL_law_1482 : decode code 1482 = .ok (.invokevirtual 180, 3) := by decide +kernel
theorem dL_law_1485 : decode code 1485 = .ok (.istore 6, 2) := by decide +kernel
theorem dL_law_1487 : decode code 1487 = .ok (.aload_n 2, 1) := by decide +kernel
theorem dL_law_1488 : decode code 1488 = .ok (.invokevirtual 113, 3) := by decide +kernel
theorem dL_law_1491 : decode code 1491 = .ok (.iload 5, 2) := by decide +kernel
theorem dL_law_1493 : decode code 1493 = .ok (.if_icmp .eq 5, 3) := by decide +kernel
theorem dL_law_1496 : decode code 1496 = .ok (.iconst 0, 1) := by decide +kernel
theorem dL_law_1497 : decode code 1497 = .ok (.ireturn, 1) := by decide +kernel
theorem dL_law_1498 : decode code 1498 = .ok (.iload 5, 2) := by decide +kernel
theorem dL_law_1500 : decode code 1500 = .ok (.ifCond .ne 15, 3) := by decide +kernel
theorem dL_law_1503 : decode code 1503 = .ok (.aload_n 3, 1) := by decide +kernel
theorem dL_law_1504 : decode code 1504 = .ok (.iconst 0, 1) := by decide +kernel
theorem dL_law_1505 : decode code 1505 = .ok (.laload, 1) := by decide +kernel
theorem dL_law_1506 : decode code 1506 = .ok (.iload 6, 2) := by decide +kernel
theorem dL_law_1508 : decode code 1508 = .ok (.i2l, 1) := by decide +kernel
theorem dL_law_1509 : decode code 1509 = .ok (.lcmp, 1) := by decide +kernel
theorem dL_law_1510 : decode code 1510 = .ok (.ifCond .eq 5, 3) := by decide +kernel
theorem dL_law_1513 : decode code 1513 = .ok (.iconst 0, 1) := by decide +kernel
theorem dL_law_1514 : decode code 1514 = .ok (.ireturn, 1) := by decide +kernel
theorem dL_law_1515 : decode code 1515 = .ok (.goto 366, 3) := by decide +kernel
theorem dL_law_1518 : decode code 1518 = .ok (.aload_n 1, 1) := by decide +kernel
theorem dL_law_1519 : decode code 1519 = .ok (.aload_n 0, 1) := by decide +kernel
theorem dL_law_1520 : decode code 1520 = .ok (.iload 4, 2) := by decide +kernel
theorem dL_law_1522 : decode code 1522 = .ok (.iconst 1, 1) := by decide +kernel
theorem dL_law_1523 : decode code 1523 = .ok (.iadd, 1) := by decide +kernel
theorem dL_law_1524 : decode code 1524 = .ok (.iaload, 1) := by decide +kernel
theorem dL_law_1525 : decode code 1525 = .ok (.aload_n 0, 1) := by decide +kernel
theorem dL_law_1526 : decode code 1526 = .ok (.iload 4, 2) := by decide +kernel
theorem dL_law_1528 : decode code 1528 = .ok (.iconst 2, 1) := by decide +kernel
theorem dL_law_1529 : decode code 1529 = .ok (.iadd, 1) := by decide +kernel
theorem dL_law_1530 : decode code 1530 = .ok (.iaload, 1) := by decide +kernel
theorem dL_law_1531 : decode code 1531 = .ok (.aload_n 0, 1) := by decide +kernel
theorem dL_law_1532 : decode code 1532 = .ok (.iload 4, 2) := by decide +kernel
theorem dL_law_1534 : decode code 1534 = .ok (.iconst 3, 1) := by decide +kernel
theorem dL_law_1535 : decode code 1535 = .ok (.iadd, 1) := by decide +kernel
theorem dL_law_1536 : decode code 1536 = .ok (.iaload, 1) := by decide +kernel
theorem dL_law_1537 : decode code 1537 = .ok (.invokestatic 181, 3) := by decide +kernel
theorem dL_law_1540 : decode code 1540 = .ok (.istore 5, 2) := by decide +kernel
theorem dL_law_1542 : decode code 1542 = .ok (.aload_n 2, 1) := by decide +kernel
theorem dL_law_1543 : decode code 1543 = .ok (.aload_n 0, 1) := by decide +kernel
theorem dL_law_1544 : decode code 1544 = .ok (.iload 4, 2) := by decide +kernel
theorem dL_law_1546 : decode code 1546 = .ok (.iconst 1, 1) := by decide +kernel
theorem dL_law_1547 : decode code 1547 = .ok (.iadd, 1) := by decide +kernel
theorem dL_law_1548 : decode code 1548 = .ok (.iaload, 1) := by decide +kernel
theorem dL_law_1549 : decode code 1549 = .ok (.aload_n 0, 1) := by decide +kernel
theorem dL_law_1550 : decode code 1550 = .ok (.iload 4, 2) := by decide +kernel
theorem dL_law_1552 : decode code 1552 = .ok (.iconst 2, 1) := by decide +kernel
theorem dL_law_1553 : decode code 1553 = .ok (.iadd, 1) := by decide +kernel
theorem dL_law_1554 : decode code 1554 = .ok (.iaload, 1) := by decide +kernel
theorem dL_law_1555 : decode code 1555 = .ok (.aload_n 0, 1) := by decide +kernel
theorem dL_law_1556 : decode code 1556 = .ok (.iload 4, 2) := by decide +kernel
theorem dL_law_1558 : decode code 1558 = .ok (.iconst 3, 1) := by decide +kernel
theorem dL_law_1559 : decode code 1559 = .ok (.iadd, 1) := by decide +kernel
theorem dL_law_1560 : decode code 1560 = .ok (.iaload, 1) := by decide +kernel
theorem dL_law_1561 : decode code 1561 = .ok (.invokevirtual 183, 3) := by decide +kernel
theorem dL_law_1564 : decode code 1564 = .ok (.aload_n 2, 1) := by decide +kernel
theorem dL_law_1565 : decode code 1565 = .ok (.invokevirtual 113, 3) := by decide +kernel
theorem dL_law_1568 : decode code 1568 = .ok (.iload 5, 2) := by decide +kernel
theorem dL_law_1570 : decode code 1570 = .ok (.if_icmp .eq 5, 3) := by decide +kernel
theorem dL_law_1573 : decode code 1573 = .ok (.iconst 0, 1) := by decide +kernel
theorem dL_law_1574 : decode code 1574 = .ok (.ireturn, 1) := by decide +kernel
theorem dL_law_1575 : decode code 1575 = .ok (.goto 306, 3) := by decide +kernel
theorem dL_law_1578 : decode code 1578 = .ok (.aload_n 1, 1) := by decide +kernel
theorem dL_law_1579 : decode code 1579 = .ok (.aload_n 0, 1) := by decide +kernel
theorem dL_law_1580 : decode code 1580 = .ok (.iload 4, 2) := by decide +kernel
theorem dL_law_1582 : decode code 1582 = .ok (.iconst 1, 1) := by decide +kernel
theorem dL_law_1583 : decode code 1583 = .ok (.iadd, 1) := by decide +kernel
theorem dL_law_1584 : decode code 1584 = .ok (.iaload, 1) := by decide +kernel
theorem dL_law_1585 : decode code 1585 = .ok (.aload_n 3, 1) := by decide +kernel
theorem dL_law_1586 : decode code 1586 = .ok (.invokestatic 184, 3) := by decide +kernel
theorem dL_law_1589 : decode code 1589 = .ok (.istore 5, 2) := by decide +kernel
theorem dL_law_1591 : decode code 1591 = .ok (.aload_n 2, 1) := by decide +kernel
theorem dL_law_1592 : decode code 1592 = .ok (.aload_n 0, 1) := by decide +kernel
theorem dL_law_1593 : decode code 1593 = .ok (.iload 4, 2) := by decide +kernel
theorem dL_law_1595 : decode code 1595 = .ok (.iconst 1, 1) := by decide +kernel
theorem dL_law_1596 : decode code 1596 = .ok (.iadd, 1) := by decide +kernel
theorem dL_law_1597 : decode code 1597 = .ok (.iaload, 1) := by decide +kernel
theorem dL_law_1598 : decode code 1598 = .ok (.invokevirtual 186, 3) := by decide +kernel
theorem dL_law_1601 : decode code 1601 = .ok (.istore 6, 2) := by decide +kernel
theorem dL_law_1603 : decode code 1603 = .ok (.aload_n 2, 1) := by decide +kernel
theorem dL_law_1604 : decode code 1604 = .ok (.invokevirtual 113, 3) := by decide +kernel
theorem dL_law_1607 : decode code 1607 = .ok (.iload 5, 2) := by decide +kernel
theorem dL_law_1609 : decode code 1609 = .ok (.if_icmp .eq 5, 3) := by decide +kernel
theorem dL_law_1612 : decode code 1612 = .ok (.iconst 0, 1) := by decide +kernel
theorem dL_law_1613 : decode code 1613 = .ok (.ireturn, 1) := by decide +kernel
theorem dL_law_1614 : decode code 1614 = .ok (.iload 5, 2) := by decide +kernel
theorem dL_law_1616 : decode code 1616 = .ok (.ifCond .ne 15, 3) := by decide +kernel
theorem dL_law_1619 : decode code 1619 = .ok (.aload_n 3, 1) := by decide +kernel
theorem dL_law_1620 : decode code 1620 = .ok (.iconst 0, 1) := by decide +kernel
theorem dL_law_1621 : decode code 1621 = .ok (.laload, 1) := by decide +kernel
theorem dL_law_1622 : decode code 1622 = .ok (.iload 6, 2) := by decide +kernel
theorem dL_law_1624 : decode code 1624 = .ok (.i2l, 1) := by decide +kernel
theorem dL_law_1625 : decode code 1625 = .ok (.lcmp, 1) := by decide +kernel
theorem dL_law_1626 : decode code 1626 = .ok (.ifCond .eq 5, 3) := by decide +kernel
theorem dL_law_1629 : decode code 1629 = .ok (.iconst 0, 1) := by decide +kernel
theorem dL_law_1630 : decode code 1630 = .ok (.ireturn, 1) := by decide +kernel
theorem dL_law_1631 : decode code 1631 = .ok (.goto 250, 3) := by decide +kernel
theorem dL_law_1634 : decode code 1634 = .ok (.aload_n 1, 1) := by decide +kernel
theorem dL_law_1635 : decode code 1635 = .ok (.aload_n 0, 1) := by decide +kernel
theorem dL_law_1636 : decode code 1636 = .ok (.iload 4, 2) := by decide +kernel
theorem dL_law_1638 : decode code 1638 = .ok (.iconst 1, 1) := by decide +kernel
theorem dL_law_1639 : decode code 1639 = .ok (.iadd, 1) := by decide +kernel
theorem dL_law_1640 : decode code 1640 = .ok (.iaload, 1) := by decide +kernel
theorem dL_law_1641 : decode code 1641 = .ok (.aload_n 3, 1) := by decide +kernel
theorem dL_law_1642 : decode code 1642 = .ok (.invokestatic 187, 3) := by decide +kernel
theorem dL_law_1645 : decode code 1645 = .ok (.istore 5, 2) := by decide +kernel
theorem dL_law_1647 : decode code 1647 = .ok (.aload_n 2, 1) := by decide +kernel
theorem dL_law_1648 : decode code 1648 = .ok (.aload_n 0, 1) := by decide +kernel
theorem dL_law_1649 : decode code 1649 = .ok (.iload 4, 2) := by decide +kernel
theorem dL_law_1651 : decode code 1651 = .ok (.iconst 1, 1) := by decide +kernel
theorem dL_law_1652 : decode code 1652 = .ok (.iadd, 1) := by decide +kernel
theorem dL_law_1653 : decode code 1653 = .ok (.iaload, 1) := by decide +kernel
theorem dL_law_1654 : decode code 1654 = .ok (.invokevirtual 189, 3) := by decide +kernel
theorem dL_law_1657 : decode code 1657 = .ok (.istore 6, 2) := by decide +kernel
theorem dL_law_1659 : decode code 1659 = .ok (.aload_n 2, 1) := by decide +kernel
