theorem dL_law_1370 : decode cL_law 1370 = .ok (.aload_n 1, 1) := by decide +kernel
theorem dL_law_1371 : decode cL_law 1371 = .ok (.iload 19, 2) := by decide +kernel
theorem dL_law_1373 : decode cL_law 1373 = .ok (.iload 26, 2) := by decide +kernel
theorem dL_law_1375 : decode cL_law 1375 = .ok (.invokevirtual 33, 3) := by decide +kernel
theorem dL_law_1378 : decode cL_law 1378 = .ok (.iload 20, 2) := by decide +kernel
theorem dL_law_1380 : decode cL_law 1380 = .ok (.if_icmp .eq 7, 3) := by decide +kernel
theorem dL_law_1383 : decode cL_law 1383 = .ok (.iconst 1, 1) := by decide +kernel
theorem dL_law_1384 : decode cL_law 1384 = .ok (.goto 4, 3) := by decide +kernel
theorem dL_law_1387 : decode cL_law 1387 = .ok (.iconst 0, 1) := by decide +kernel
theorem dL_law_1388 : decode cL_law 1388 = .ok (.istore 13, 2) := by decide +kernel
theorem dL_law_1390 : decode cL_law 1390 = .ok (.iinc 26 1, 3) := by decide +kernel
theorem dL_law_1393 : decode cL_law 1393 = .ok (.goto (-35), 3) := by decide +kernel
theorem dL_law_1396 : decode cL_law 1396 = .ok (.goto 65, 3) := by decide +kernel
theorem dL_law_1399 : decode cL_law 1399 = .ok (.aload 5, 2) := by decide +kernel
theorem dL_law_1401 : decode cL_law 1401 = .ok (.iload 24, 2) := by decide +kernel
theorem dL_law_1403 : decode cL_law 1403 = .ok (.iaload, 1) := by decide +kernel
theorem dL_law_1404 : decode cL_law 1404 = .ok (.iload 20, 2) := by decide +kernel
theorem dL_law_1406 : decode cL_law 1406 = .ok (.if_icmp .ne 52, 3) := by decide +kernel
theorem dL_law_1409 : decode cL_law 1409 = .ok (.aload_n 1, 1) := by decide +kernel
theorem dL_law_1410 : decode cL_law 1410 = .ok (.iload 19, 2) := by decide +kernel
theorem dL_law_1412 : decode cL_law 1412 = .ok (.invokevirtual 58, 3) := by decide +kernel
theorem dL_law_1415 : decode cL_law 1415 = .ok (.iload 24, 2) := by decide +kernel
theorem dL_law_1417 : decode cL_law 1417 = .ok (.if_icmp .ne 41, 3) := by decide +kernel
theorem dL_law_1420 : decode cL_law 1420 = .ok (.aload_n 1, 1) := by decide +kernel
theorem dL_law_1421 : decode cL_law 1421 = .ok (.iload 24, 2) := by decide +kernel
theorem dL_law_1423 : decode cL_law 1423 = .ok (.invokevirtual 74, 3) := by decide +kernel
theorem dL_law_1426 : decode cL_law 1426 = .ok (.iconst 1, 1) := by decide +kernel
theorem dL_law_1427 : decode cL_law 1427 = .ok (.if_icmp .ne 31, 3) := by decide +kernel
theorem dL_law_1430 : decode cL_law 1430 = .ok (.aload_n 1, 1) := by decide +kernel
theorem dL_law_1431 : decode cL_law 1431 = .ok (.iload 19, 2) := by decide +kernel
theorem dL_law_1433 : decode cL_law 1433 = .ok (.invokevirtual 61, 3) := by decide +kernel
theorem dL_law_1436 : decode cL_law 1436 = .ok (.ifCond .ne 22, 3) := by decide +kernel
theorem dL_law_1439 : decode cL_law 1439 = .ok (.aload_n 1, 1) := by decide +kernel
theorem dL_law_1440 : decode cL_law 1440 = .ok (.iconst 2, 1) := by decide +kernel
theorem dL_law_1441 : decode cL_law 1441 = .ok (.iload 19, 2) := by decide +kernel
theorem dL_law_1443 : decode cL_law 1443 = .ok (.iload 20, 2) := by decide +kernel
theorem dL_law_1445 : decode cL_law 1445 = .ok (.iconst 0, 1) := by decide +kernel
theorem dL_law_1446 : decode cL_law 1446 = .ok (.invokestatic 55, 3) := by decide +kernel
theorem dL_law_1449 : decode cL_law 1449 = .ok (.bipush (-13), 2) := by decide +kernel
theorem dL_law_1451 : decode cL_law 1451 = .ok (.if_icmp .ne 7, 3) := by decide +kernel
theorem dL_law_1454 : decode cL_law 1454 = .ok (.iconst 1, 1) := by decide +kernel
theorem dL_law_1455 : decode cL_law 1455 = .ok (.goto 4, 3) := by decide +kernel
theorem dL_law_1458 : decode cL_law 1458 = .ok (.iconst 0, 1) := by decide +kernel
theorem dL_law_1459 : decode cL_law 1459 = .ok (.istore 13, 2) := by decide +kernel
theorem dL_law_1461 : decode cL_law 1461 = .ok (.iload 13, 2) := by decide +kernel
theorem dL_law_1463 : decode cL_law 1463 = .ok (.ifCond .eq 20, 3) := by decide +kernel
theorem dL_law_1466 : decode cL_law 1466 = .ok (.aload_n 1, 1) := by decide +kernel
theorem dL_law_1467 : decode cL_law 1467 = .ok (.iload 12, 2) := by decide +kernel
theorem dL_law_1469 : decode cL_law 1469 = .ok (.iload 22, 2) := by decide +kernel
theorem dL_law_1471 : decode cL_law 1471 = .ok (.invokestatic 110, 3) := by decide +kernel
theorem dL_law_1474 : decode cL_law 1474 = .ok (.iload 23, 2) := by decide +kernel
theorem dL_law_1476 : decode cL_law 1476 = .ok (.if_icmp .ne 7, 3) := by decide +kernel
theorem dL_law_1479 : decode cL_law 1479 = .ok (.iconst 1, 1) := by decide +kernel
theorem dL_law_1480 : decode cL_law 1480 = .ok (.goto 4, 3) := by decide +kernel
theorem dL_law_1483 : decode cL_law 1483 = .ok (.iconst 0, 1) := by decide +kernel
theorem dL_law_1484 : decode cL_law 1484 = .ok (.istore 13, 2) := by decide +kernel
theorem dL_law_1486 : decode cL_law 1486 = .ok (.goto 284, 3) := by decide +kernel
theorem dL_law_1489 : decode cL_law 1489 = .ok (.iload 18, 2) := by decide +kernel
theorem dL_law_1491 : decode cL_law 1491 = .ok (.bipush 14, 2) := by decide +kernel
theorem dL_law_1493 : decode cL_law 1493 = .ok (.if_icmp .ge 179, 3) := by decide +kernel
theorem dL_law_1496 : decode cL_law 1496 = .ok (.iload 10, 2) := by decide +kernel
theorem dL_law_1498 : decode cL_law 1498 = .ok (.ifCond .le 174, 3) := by decide +kernel
theorem dL_law_1501 : decode cL_law 1501 = .ok (.iload 17, 2) := by decide +kernel
theorem dL_law_1503 : decode cL_law 1503 = .ok (.bipush 8, 2) := by decide +kernel
theorem dL_law_1505 : decode cL_law 1505 = .ok (.ishr, 1) := by decide +kernel
theorem dL_law_1506 : decode cL_law 1506 = .ok (.iconst 1, 1) := by decide +kernel
theorem dL_law_1507 : decode cL_law 1507 = .ok (.iand, 1) := by decide +kernel
theorem dL_law_1508 : decode cL_law 1508 = .ok (.ifCond .ne 7, 3) := by decide +kernel
theorem dL_law_1511 : decode cL_law 1511 = .ok (.iconst 0, 1) := by decide +kernel
theorem dL_law_1512 : decode cL_law 1512 = .ok (.goto 10, 3) := by decide +kernel
theorem dL_law_1515 : decode cL_law 1515 = .ok (.iload 17, 2) := by decide +kernel
theorem dL_law_1517 : decode cL_law 1517 = .ok (.bipush 9, 2) := by decide +kernel
theorem dL_law_1519 : decode cL_law 1519 = .ok (.ishr, 1) := by decide +kernel
theorem dL_law_1520 : decode cL_law 1520 = .ok (.iconst 4, 1) := by decide +kernel
theorem dL_law_1521 : decode cL_law 1521 = .ok (.irem, 1) := by decide +kernel
theorem dL_law_1522 : decode cL_law 1522 = .ok (.istore 23, 2) := by decide +kernel
theorem dL_law_1524 : decode cL_law 1524 = .ok (.aload_n 1, 1) := by decide +kernel
theorem dL_law_1525 : decode cL_law 1525 = .ok (.iload 19, 2) := by decide +kernel
theorem dL_law_1527 : decode cL_law 1527 = .ok (.invokevirtual 58, 3) := by decide +kernel
theorem dL_law_1530 : decode cL_law 1530 = .ok (.istore 21, 2) := by decide +kernel
theorem dL_law_1532 : decode cL_law 1532 = .ok (.aload_n 1, 1) := by decide +kernel
theorem dL_law_1533 : decode cL_law 1533 = .ok (.iload 12, 2) := by decide +kernel
theorem dL_law_1535 : decode cL_law 1535 = .ok (.iload 22, 2) := by decide +kernel
theorem dL_law_1537 : decode cL_law 1537 = .ok (.invokestatic 110, 3) := by decide +kernel
theorem dL_law_1540 : decode cL_law 1540 = .ok (.istore 24, 2) := by decide +kernel
theorem dL_law_1542 : decode cL_law 1542 = .ok (.iload 21, 2) := by decide +kernel
theorem dL_law_1544 : decode cL_law 1544 = .ok (.ifCond .ge 7, 3) := by decide +kernel
theorem dL_law_1547 : decode cL_law 1547 = .ok (.iconst 0, 1) := by decide +kernel
theorem dL_law_1548 : decode cL_law 1548 = .ok (.goto 11, 3) := by decide +kernel
theorem dL_law_1551 : decode cL_law 1551 = .ok (.aload_n 1, 1) := by decide +kernel
theorem dL_law_1552 : decode cL_law 1552 = .ok (.iload 21, 2) := by decide +kernel
theorem dL_law_1554 : decode cL_law 1554 = .ok (.iload 22, 2) := by decide +kernel
theorem dL_law_1556 : decode cL_law 1556 = .ok (.invokevirtual 80, 3) := by decide +kernel
theorem dL_law_1559 : decode cL_law 1559 = .ok (.istore 25, 2) := by decide +kernel
theorem dL_law_1561 : decode cL_law 1561 = .ok (.aload_n 1, 1) := by decide +kernel
theorem dL_law_1562 : decode cL_law 1562 = .ok (.iconst 3, 1) := by decide +kernel
theorem dL_law_1563 : decode cL_law 1563 = .ok (.iload 19, 2) := by decide +kernel
theorem dL_law_1565 : decode cL_law 1565 = .ok (.iload 22, 2) := by decide +kernel
theorem dL_law_1567 : decode cL_law 1567 = .ok (.iload 23, 2) := by decide +kernel
theorem dL_law_1569 : decode cL_law 1569 = .ok (.invokestatic 55, 3) := by decide +kernel
theorem dL_law_1572 : decode cL_law 1572 = .ok (.istore 26, 2) := by decide +kernel
theorem dL_law_1574 : decode cL_law 1574 = .ok (.iload 26, 2) := by decide +kernel
theorem dL_law_1576 : decode cL_law 1576 = .ok (.bipush (-13), 2) := by decide +kernel
theorem dL_law_1578 : decode cL_law 1578 = .ok (.if_icmp .ne 23, 3) := by decide +kernel
theorem dL_law_1581 : decode cL_law 1581 = .ok (.iload 21, 2) := by decide +kernel
theorem dL_law_1583 : decode cL_law 1583 = .ok (.ifCond .lt 10, 3) := by decide +kernel
theorem dL_law_1586 : decode cL_law 1586 = .ok (.iload 25, 2) := by decide +kernel
theorem dL_law_1588 : decode cL_law 1588 = .ok (.iload 23, 2) := by decide +kernel
theorem dL_law_1590 : decode cL_law 1590 = .ok (.if_icmp .ge 7, 3) := by decide +kernel
theorem dL_law_1593 : decode cL_law 1593 = .ok (.iconst 1, 1) := by decide +kernel
theorem dL_law_1594 : decode cL_law 1594 = .ok (.goto 73, 3) := by decide +kernel
theorem dL_law_1597 : decode cL_law 1597 = .ok (.iconst 0, 1) := by decide +kernel
theorem dL_law_1598 : decode cL_law 1598 = .ok (.goto 69, 3) := by decide +kernel
theorem dL_law_1601 : decode cL_law 1601 = .ok (.iload 21, 2) := by decide +kernel
theorem dL_law_1603 : decode cL_law 1603 = .ok (.ifCond .lt 63, 3) := by decide +kernel
theorem dL_law_1606 : decode cL_law 1606 = .ok (.iload 26, 2) := by decide +kernel
theorem dL_law_1608 : decode cL_law 1608 = .ok (.ifCond .lt 58, 3) := by decide +kernel
theorem dL_law_1611 : decode cL_law 1611 = .ok (.aload_n 1, 1) := by decide +kernel
theorem dL_law_1612 : decode cL_law 1612 = .ok (.iload 19, 2) := by decide +kernel
theorem dL_law_1614 : decode cL_law 1614 = .ok (.invokevirtual 58, 3) := by decide +kernel
theorem dL_law_1617 : decode cL_law 1617 = .ok (.iconst (-1), 1) := by decide +kernel
theorem dL_law_1618 : decode cL_law 1618 = .ok (.if_icmp .ne 48, 3) := by decide +kernel
theorem dL_law_1621 : decode cL_law 1621 = .ok (.aload_n 1, 1) := by decide +kernel
theorem dL_law_1622 : decode cL_law 1622 = .ok (.iload 21, 2) := by decide +kernel
theorem dL_law_1624 : decode cL_law 1624 = .ok (.invokevirtual 74, 3) := by decide +kernel
theorem dL_law_1627 : decode cL_law 1627 = .ok (.ifCond .ne 39, 3) := by decide +kernel
theorem dL_law_1630 : decode cL_law 1630 = .ok (.aload_n 1, 1) := by decide +kernel
theorem dL_law_1631 : decode cL_law 1631 = .ok (.iload 12, 2) := by decide +kernel
theorem dL_law_1633 : decode cL_law 1633 = .ok (.iload 22, 2) := by decide +kernel
theorem dL_law_1635 : decode cL_law 1635 = .ok (.invokestatic 110, 3) := by decide +kernel
theorem dL_law_1638 : decode cL_law 1638 = .ok (.iload 24, 2) := by decide +kernel
theorem dL_law_1640 : decode cL_law 1640 = .ok (.iload 23, 2) := by decide +kernel
theorem dL_law_1642 : decode cL_law 1642 = .ok (.isub, 1) := by decide +kernel
theorem dL_law_1643 : decode cL_law 1643 = .ok (.if_icmp .ne 23, 3) := by decide +kernel
theorem dL_law_1646 : decode cL_law 1646 = .ok (.aload_n 1, 1) := by decide +kernel
theorem dL_law_1647 : decode cL_law 1647 = .ok (.iload 21, 2) := by decide +kernel
theorem dL_law_1649 : decode cL_law 1649 = .ok (.iload 22, 2) := by decide +kernel
theorem dL_law_1651 : decode cL_law 1651 = .ok (.invokevirtual 80, 3) := by decide +kernel
theorem dL_law_1654 : decode cL_law 1654 = .ok (.iload 25, 2) := by decide +kernel
theorem dL_law_1656 : decode cL_law 1656 = .ok (.iload 23, 2) := by decide +kernel
theorem dL_law_1658 : decode cL_law 1658 = .ok (.isub, 1) := by decide +kernel
theorem dL_law_1659 : decode cL_law 1659 = .ok (.if_icmp .gt 7, 3) := by decide +kernel
theorem dL_law_1662 : decode cL_law 1662 = .ok (.iconst 1, 1) := by decide +kernel
theorem dL_law_1663 : decode cL_law 1663 = .ok (.goto 4, 3) := by decide +kernel
theorem dL_law_1666 : decode cL_law 1666 = .ok (.iconst 0, 1) := by decide +kernel
theorem dL_law_1667 : decode cL_law 1667 = .ok (.istore 13, 2) := by decide +kernel
theorem dL_law_1669 : decode cL_law 1669 = .ok (.goto 101, 3) := by decide +kernel
theorem dL_law_1672 : decode cL_law 1672 = .ok (.iload 18, 2) := by decide +kernel
theorem dL_law_1674 : decode cL_law 1674 = .ok (.bipush 14, 2) := by decide +kernel
theorem dL_law_1676 : decode cL_law 1676 = .ok (.if_icmp .ne 94, 3) := by decide +kernel
theorem dL_law_1679 : decode cL_law 1679 = .ok (.iload 12, 2) := by decide +kernel
theorem dL_law_1681 : decode cL_law 1681 = .ok (.ifCond .le 89, 3) := by decide +kernel
theorem dL_law_1684 : decode cL_law 1684 = .ok (.iconst 1, 1) := by decide +kernel
theorem dL_law_1685 : decode cL_law 1685 = .ok (.iload 17, 2) := by decide +kernel
theorem dL_law_1687 : decode cL_law 1687 = .ok (.bipush 8, 2) := by decide +kernel
theorem dL_law_1689 : decode cL_law 1689 = .ok (.ishr, 1) := by decide +kernel
theorem dL_law_1690 : decode cL_law 1690 = .ok (.iconst 3, 1) := by decide +kernel
theorem dL_law_1691 : decode cL_law 1691 = .ok (.irem, 1) := by decide +kernel
theorem dL_law_1692 : decode cL_law 1692 = .ok (.iadd, 1) := by decide +kernel
theorem dL_law_1693 : decode cL_law 1693 = .ok (.istore 23, 2) := by decide +kernel
theorem dL_law_1695 : decode cL_law 1695 = .ok (.aload_n 1, 1) := by decide +kernel
theorem dL_law_1696 : decode cL_law 1696 = .ok (.iload 21, 2) := by decide +kernel
theorem dL_law_1698 : decode cL_law 1698 = .ok (.iload 22, 2) := by decide +kernel
theorem dL_law_1700 : decode cL_law 1700 = .ok (.invokevirtual 80, 3) := by decide +kernel
theorem dL_law_1703 : decode cL_law 1703 = .ok (.istore 24, 2) := by decide +kernel
theorem dL_law_1705 : decode cL_law 1705 = .ok (.aload_n 1, 1) := by decide +kernel
theorem dL_law_1706 : decode cL_law 1706 = .ok (.iconst 4, 1) := by decide +kernel
theorem dL_law_1707 : decode cL_law 1707 = .ok (.iload 21, 2) := by decide +kernel
theorem dL_law_1709 : decode cL_law 1709 = .ok (.iload 22, 2) := by decide +kernel
theorem dL_law_1711 : decode cL_law 1711 = .ok (.iload 23, 2) := by decide +kernel
theorem dL_law_1713 : decode cL_law 1713 = .ok (.invokestatic 55, 3) := by decide +kernel
theorem dL_law_1716 : decode cL_law 1716 = .ok (.istore 25, 2) := by decide +kernel
theorem dL_law_1718 : decode cL_law 1718 = .ok (.iload 25, 2) := by decide +kernel
theorem dL_law_1720 : decode cL_law 1720 = .ok (.aload_n 1, 1) := by decide +kernel
theorem dL_law_1721 : decode cL_law 1721 = .ok (.iload 21, 2) := by decide +kernel
theorem dL_law_1723 : decode cL_law 1723 = .ok (.invokevirtual 74, 3) := by decide +kernel
theorem dL_law_1726 : decode cL_law 1726 = .ok (.ifCond .ne 32, 3) := by decide +kernel
theorem dL_law_1729 : decode cL_law 1729 = .ok (.iload 24, 2) := by decide +kernel
theorem dL_law_1731 : decode cL_law 1731 = .ok (.iload 23, 2) := by decide +kernel
theorem dL_law_1733 : decode cL_law 1733 = .ok (.iadd, 1) := by decide +kernel
theorem dL_law_1734 : decode cL_law 1734 = .ok (.aload 6, 2) := by decide +kernel
theorem dL_law_1736 : decode cL_law 1736 = .ok (.iconst 4, 1) := by decide +kernel
theorem dL_law_1737 : decode cL_law 1737 = .ok (.aload 5, 2) := by decide +kernel
theorem dL_law_1739 : decode cL_law 1739 = .ok (.iload 21, 2) := by decide +kernel
theorem dL_law_1741 : decode cL_law 1741 = .ok (.iaload, 1) := by decide +kernel
theorem dL_law_1742 : decode cL_law 1742 = .ok (.imul, 1) := by decide +kernel
theorem dL_law_1743 : decode cL_law 1743 = .ok (.iload 22, 2) := by decide +kernel
theorem dL_law_1745 : decode cL_law 1745 = .ok (.iadd, 1) := by decide +kernel
theorem dL_law_1746 : decode cL_law 1746 = .ok (.iaload, 1) := by decide +kernel
theorem dL_law_1747 : decode cL_law 1747 = .ok (.if_icmp .gt 11, 3) := by decide +kernel
theorem dL_law_1750 : decode cL_law 1750 = .ok (.iload 24, 2) := by decide +kernel
theorem dL_law_1752 : decode cL_law 1752 = .ok (.iload 23, 2) := by decide +kernel
theorem dL_law_1754 : decode cL_law 1754 = .ok (.iadd, 1) := by decide +kernel
theorem dL_law_1755 : decode cL_law 1755 = .ok (.goto 5, 3) := by decide +kernel
theorem dL_law_1758 : decode cL_law 1758 = .ok (.bipush (-13), 2) := by decide +kernel
theorem dL_law_1760 : decode cL_law 1760 = .ok (.if_icmp .ne 7, 3) := by decide +kernel
theorem dL_law_1763 : decode cL_law 1763 = .ok (.iconst 1, 1) := by decide +kernel
theorem dL_law_1764 : decode cL_law 1764 = .ok (.goto 4, 3) := by decide +kernel
theorem dL_law_1767 : decode cL_law 1767 = .ok (.iconst 0, 1) := by decide +kernel
theorem dL_law_1768 : decode cL_law 1768 = .ok (.istore 13, 2) := by decide +kernel
theorem dL_law_1770 : decode cL_law 1770 = .ok (.iload 13, 2) := by decide +kernel
theorem dL_law_1772 : decode cL_law 1772 = .ok (.ifCond .eq 64, 3) := by decide +kernel
theorem dL_law_1775 : decode cL_law 1775 = .ok (.iload 15, 2) := by decide +kernel
theorem dL_law_1777 : decode cL_law 1777 = .ok (.iconst 3, 1) := by decide +kernel
theorem dL_law_1778 : decode cL_law 1778 = .ok (.irem, 1) := by decide +kernel
theorem dL_law_1779 : decode cL_law 1779 = .ok (.ifCond .gt 16, 3) := by decide +kernel
theorem dL_law_1782 : decode cL_law 1782 = .ok (.aload_n 1, 1) := by decide +kernel
theorem dL_law_1783 : decode cL_law 1783 = .ok (.aload_n 2, 1) := by decide +kernel
theorem dL_law_1784 : decode cL_law 1784 = .ok (.aload_n 3, 1) := by decide +kernel
theorem dL_law_1785 : decode cL_law 1785 = .ok (.aload 4, 2) := by decide +kernel
theorem dL_law_1787 : decode cL_law 1787 = .ok (.iload 10, 2) := by decide +kernel
theorem dL_law_1789 : decode cL_law 1789 = .ok (.invokestatic 113, 3) := by decide +kernel
theorem dL_law_1792 : decode cL_law 1792 = .ok (.ifCond .eq 44, 3) := by decide +kernel
theorem dL_law_1795 : decode cL_law 1795 = .ok (.iload 15, 2) := by decide +kernel
theorem dL_law_1797 : decode cL_law 1797 = .ok (.iconst 3, 1) := by decide +kernel
theorem dL_law_1798 : decode cL_law 1798 = .ok (.irem, 1) := by decide +kernel
theorem dL_law_1799 : decode cL_law 1799 = .ok (.iconst 1, 1) := by decide +kernel
theorem dL_law_1800 : decode cL_law 1800 = .ok (.if_icmp .ne 18, 3) := by decide +kernel
theorem dL_law_1803 : decode cL_law 1803 = .ok (.aload_n 1, 1) := by decide +kernel
theorem dL_law_1804 : decode cL_law 1804 = .ok (.aload 5, 2) := by decide +kernel
theorem dL_law_1806 : decode cL_law 1806 = .ok (.aload 6, 2) := by decide +kernel
theorem dL_law_1808 : decode cL_law 1808 = .ok (.iload 12, 2) := by decide +kernel
theorem dL_law_1810 : decode cL_law 1810 = .ok (.iload 10, 2) := by decide +kernel
theorem dL_law_1812 : decode cL_law 1812 = .ok (.invokestatic 117, 3) := by decide +kernel
theorem dL_law_1815 : decode cL_law 1815 = .ok (.ifCond .eq 21, 3) := by decide +kernel
theorem dL_law_1818 : decode cL_law 1818 = .ok (.aload_n 1, 1) := by decide +kernel
theorem dL_law_1819 : decode cL_law 1819 = .ok (.iconst 1, 1) := by decide +kernel
theorem dL_law_1820 : decode cL_law 1820 = .ok (.iload 17, 2) := by decide +kernel
theorem dL_law_1822 : decode cL_law 1822 = .ok (.bipush 12, 2) := by decide +kernel
theorem dL_law_1824 : decode cL_law 1824 = .ok (.irem, 1) := by decide +kernel
theorem dL_law_1825 : decode cL_law 1825 = .ok (.iadd, 1) := by decide +kernel
theorem dL_law_1826 : decode cL_law 1826 = .ok (.invokestatic 121, 3) := by decide +kernel
theorem dL_law_1829 : decode cL_law 1829 = .ok (.ifCond .eq 7, 3) := by decide +kernel
theorem dL_law_1832 : decode cL_law 1832 = .ok (.iconst 1, 1) := by decide +kernel
theorem dL_law_1833 : decode cL_law 1833 = .ok (.goto 4, 3) := by decide +kernel
theorem dL_law_1836 : decode cL_law 1836 = .ok (.iconst 0, 1) := by decide +kernel
theorem dL_law_1837 : decode cL_law 1837 = .ok (.istore 13, 2) := by decide +kernel
theorem dL_law_1839 : decode cL_law 1839 = .ok (.iload 13, 2) := by decide +kernel
theorem dL_law_1841 : decode cL_law 1841 = .ok (.ifCond .eq 115, 3) := by decide +kernel
theorem dL_law_1844 : decode cL_law 1844 = .ok (.iload 10, 2) := by decide +kernel
theorem dL_law_1846 : decode cL_law 1846 = .ok (.ifCond .le 110, 3) := by decide +kernel
theorem dL_law_1849 : decode cL_law 1849 = .ok (.iload 17, 2) := by decide +kernel
theorem dL_law_1851 : decode cL_law 1851 = .ok (.bipush 7, 2) := by decide +kernel
theorem dL_law_1853 : decode cL_law 1853 = .ok (.ishr, 1) := by decide +kernel
theorem dL_law_1854 : decode cL_law 1854 = .ok (.iload 10, 2) := by decide +kernel
theorem dL_law_1856 : decode cL_law 1856 = .ok (.irem, 1) := by decide +kernel
theorem dL_law_1857 : decode cL_law 1857 = .ok (.istore 19, 2) := by decide +kernel
theorem dL_law_1859 : decode cL_law 1859 = .ok (.aload_n 1, 1) := by decide +kernel
theorem dL_law_1860 : decode cL_law 1860 = .ok (.iconst 5, 1) := by decide +kernel
theorem dL_law_1861 : decode cL_law 1861 = .ok (.iload 19, 2) := by decide +kernel
theorem dL_law_1863 : decode cL_law 1863 = .ok (.iconst 0, 1) := by decide +kernel
theorem dL_law_1864 : decode cL_law 1864 = .ok (.iconst 0, 1) := by decide +kernel
theorem dL_law_1865 : decode cL_law 1865 = .ok (.invokestatic 55, 3) := by decide +kernel
theorem dL_law_1868 : decode cL_law 1868 = .ok (.istore 23, 2) := by decide +kernel
theorem dL_law_1870 : decode cL_law 1870 = .ok (.aload_n 1, 1) := by decide +kernel
theorem dL_law_1871 : decode cL_law 1871 = .ok (.bipush 6, 2) := by decide +kernel
theorem dL_law_1873 : decode cL_law 1873 = .ok (.iload 19, 2) := by decide +kernel
theorem dL_law_1875 : decode cL_law 1875 = .ok (.iconst 0, 1) := by decide +kernel
theorem dL_law_1876 : decode cL_law 1876 = .ok (.iconst 0, 1) := by decide +kernel
theorem dL_law_1877 : decode cL_law 1877 = .ok (.invokestatic 55, 3) := by decide +kernel
theorem dL_law_1880 : decode cL_law 1880 = .ok (.iload 23, 2) := by decide +kernel
theorem dL_law_1882 : decode cL_law 1882 = .ok (.if_icmp .ne 71, 3) := by decide +kernel
theorem dL_law_1885 : decode cL_law 1885 = .ok (.iload 23, 2) := by decide +kernel
theorem dL_law_1887 : decode cL_law 1887 = .ok (.bipush (-13), 2) := by decide +kernel
theorem dL_law_1889 : decode cL_law 1889 = .ok (.if_icmp .ne 7, 3) := by decide +kernel
theorem dL_law_1892 : decode cL_law 1892 = .ok (.iconst 1, 1) := by decide +kernel
theorem dL_law_1893 : decode cL_law 1893 = .ok (.goto 4, 3) := by decide +kernel
theorem dL_law_1896 : decode cL_law 1896 = .ok (.iconst 0, 1) := by decide +kernel
theorem dL_law_1897 : decode cL_law 1897 = .ok (.aload_n 1, 1) := by decide +kernel
theorem dL_law_1898 : decode cL_law 1898 = .ok (.iload 19, 2) := by decide +kernel
theorem dL_law_1900 : decode cL_law 1900 = .ok (.invokevirtual 58, 3) := by decide +kernel
theorem dL_law_1903 : decode cL_law 1903 = .ok (.iconst (-1), 1) := by decide +kernel
theorem dL_law_1904 : decode cL_law 1904 = .ok (.if_icmp .ne 7, 3) := by decide +kernel
theorem dL_law_1907 : decode cL_law 1907 = .ok (.iconst 1, 1) := by decide +kernel
theorem dL_law_1908 : decode cL_law 1908 = .ok (.goto 4, 3) := by decide +kernel
theorem dL_law_1911 : decode cL_law 1911 = .ok (.iconst 0, 1) := by decide +kernel
theorem dL_law_1912 : decode cL_law 1912 = .ok (.if_icmp .ne 41, 3) := by decide +kernel
theorem dL_law_1915 : decode cL_law 1915 = .ok (.iload 23, 2) := by decide +kernel
theorem dL_law_1917 : decode cL_law 1917 = .ok (.bipush 100, 2) := by decide +kernel
theorem dL_law_1919 : decode cL_law 1919 = .ok (.if_icmp .ge 34, 3) := by decide +kernel
theorem dL_law_1922 : decode cL_law 1922 = .ok (.iload 15, 2) := by decide +kernel
theorem dL_law_1924 : decode cL_law 1924 = .ok (.bipush 8, 2) := by decide +kernel
theorem dL_law_1926 : decode cL_law 1926 = .ok (.irem, 1) := by decide +kernel
theorem dL_law_1927 : decode cL_law 1927 = .ok (.ifCond .gt 22, 3) := by decide +kernel
theorem dL_law_1930 : decode cL_law 1930 = .ok (.aload_n 1, 1) := by decide +kernel
theorem dL_law_1931 : decode cL_law 1931 = .ok (.aload 7, 2) := by decide +kernel
theorem dL_law_1933 : decode cL_law 1933 = .ok (.iload 19, 2) := by decide +kernel
theorem dL_law_1935 : decode cL_law 1935 = .ok (.aload_n 3, 1) := by decide +kernel
theorem dL_law_1936 : decode cL_law 1936 = .ok (.iload 19, 2) := by decide +kernel
theorem dL_law_1938 : decode cL_law 1938 = .ok (.iaload, 1) := by decide +kernel
theorem dL_law_1939 : decode cL_law 1939 = .ok (.aload 5, 2) := by decide +kernel
theorem dL_law_1941 : decode cL_law 1941 = .ok (.iload 12, 2) := by decide +kernel
theorem dL_law_1943 : decode cL_law 1943 = .ok (.invokestatic 125, 3) := by decide +kernel
theorem dL_law_1946 : decode cL_law 1946 = .ok (.ifCond .eq 7, 3) := by decide +kernel
theorem dL_law_1949 : decode cL_law 1949 = .ok (.iconst 1, 1) := by decide +kernel
theorem dL_law_1950 : decode cL_law 1950 = .ok (.goto 4, 3) := by decide +kernel
theorem dL_law_1953 : decode cL_law 1953 = .ok (.iconst 0, 1) := by decide +kernel
theorem dL_law_1954 : decode cL_law 1954 = .ok (.istore 13, 2) := by decide +kernel
theorem dL_law_1956 : decode cL_law 1956 = .ok (.iinc 15 1, 3) := by decide +kernel
theorem dL_law_1959 : decode cL_law 1959 = .ok (.goto (-1843), 3) := by decide +kernel
