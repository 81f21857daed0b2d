theorem dL_law_1421 : decode cL_law 1421 = .ok (.aload_n 1, 1) := by decide +kernel
theorem dL_law_1422 : decode cL_law 1422 = .ok (.aload_n 0, 1) := by decide +kernel
theorem dL_law_1423 : decode cL_law 1423 = .ok (.iload 4, 2) := by decide +kernel
theorem dL_law_1425 : decode cL_law 1425 = .ok (.iconst 1, 1) := by decide +kernel
theorem dL_law_1426 : decode cL_law 1426 = .ok (.iadd, 1) := by decide +kernel
theorem dL_law_1427 : decode cL_law 1427 = .ok (.iaload, 1) := by decide +kernel
theorem dL_law_1428 : decode cL_law 1428 = .ok (.aload_n 0, 1) := by decide +kernel
theorem dL_law_1429 : decode cL_law 1429 = .ok (.iload 4, 2) := by decide +kernel
theorem dL_law_1431 : decode cL_law 1431 = .ok (.iconst 2, 1) := by decide +kernel
theorem dL_law_1432 : decode cL_law 1432 = .ok (.iadd, 1) := by decide +kernel
theorem dL_law_1433 : decode cL_law 1433 = .ok (.iaload, 1) := by decide +kernel
theorem dL_law_1434 : decode cL_law 1434 = .ok (.aload_n 3, 1) := by decide +kernel
theorem dL_law_1435 : decode cL_law 1435 = .ok (.invokestatic 163, 3) := by decide +kernel
theorem dL_law_1438 : decode cL_law 1438 = .ok (.istore 5, 2) := by decide +kernel
theorem dL_law_1440 : decode cL_law 1440 = .ok (.aload_n 2, 1) := by decide +kernel
theorem dL_law_1441 : decode cL_law 1441 = .ok (.aload_n 0, 1) := by decide +kernel
theorem dL_law_1442 : decode cL_law 1442 = .ok (.iload 4, 2) := by decide +kernel
theorem dL_law_1444 : decode cL_law 1444 = .ok (.iconst 1, 1) := by decide +kernel
theorem dL_law_1445 : decode cL_law 1445 = .ok (.iadd, 1) := by decide +kernel
theorem dL_law_1446 : decode cL_law 1446 = .ok (.iaload, 1) := by decide +kernel
theorem dL_law_1447 : decode cL_law 1447 = .ok (.aload_n 0, 1) := by decide +kernel
theorem dL_law_1448 : decode cL_law 1448 = .ok (.iload 4, 2) := by decide +kernel
theorem dL_law_1450 : decode cL_law 1450 = .ok (.iconst 2, 1) := by decide +kernel
theorem dL_law_1451 : decode cL_law 1451 = .ok (.iadd, 1) := by decide +kernel
theorem dL_law_1452 : decode cL_law 1452 = .ok (.iaload, 1) := by decide +kernel
theorem dL_law_1453 : decode cL_law 1453 = .ok (.invokevirtual 165, 3) := by decide +kernel
theorem dL_law_1456 : decode cL_law 1456 = .ok (.istore 6, 2) := by decide +kernel
theorem dL_law_1458 : decode cL_law 1458 = .ok (.aload_n 2, 1) := by decide +kernel
theorem dL_law_1459 : decode cL_law 1459 = .ok (.invokevirtual 102, 3) := by decide +kernel
theorem dL_law_1462 : decode cL_law 1462 = .ok (.iload 5, 2) := by decide +kernel
theorem dL_law_1464 : decode cL_law 1464 = .ok (.if_icmp .eq 5, 3) := by decide +kernel
theorem dL_law_1469 : decode cL_law 1469 = .ok (.iload 5, 2) := by decide +kernel
theorem dL_law_1471 : decode cL_law 1471 = .ok (.ifCond .ne 15, 3) := by decide +kernel
theorem dL_law_1486 : decode cL_law 1486 = .ok (.goto 391, 3) := by decide +kernel
theorem dL_law_1489 : decode cL_law 1489 = .ok (.aload_n 1, 1) := by decide +kernel
theorem dL_law_1490 : decode cL_law 1490 = .ok (.aload_n 0, 1) := by decide +kernel
theorem dL_law_1491 : decode cL_law 1491 = .ok (.iload 4, 2) := by decide +kernel
theorem dL_law_1493 : decode cL_law 1493 = .ok (.iconst 1, 1) := by decide +kernel
theorem dL_law_1494 : decode cL_law 1494 = .ok (.iadd, 1) := by decide +kernel
theorem dL_law_1495 : decode cL_law 1495 = .ok (.iaload, 1) := by decide +kernel
theorem dL_law_1496 : decode cL_law 1496 = .ok (.aload_n 0, 1) := by decide +kernel
theorem dL_law_1497 : decode cL_law 1497 = .ok (.iload 4, 2) := by decide +kernel
theorem dL_law_1499 : decode cL_law 1499 = .ok (.iconst 2, 1) := by decide +kernel
theorem dL_law_1500 : decode cL_law 1500 = .ok (.iadd, 1) := by decide +kernel
theorem dL_law_1501 : decode cL_law 1501 = .ok (.iaload, 1) := by decide +kernel
theorem dL_law_1502 : decode cL_law 1502 = .ok (.aload_n 0, 1) := by decide +kernel
theorem dL_law_1503 : decode cL_law 1503 = .ok (.iload 4, 2) := by decide +kernel
theorem dL_law_1505 : decode cL_law 1505 = .ok (.iconst 3, 1) := by decide +kernel
theorem dL_law_1506 : decode cL_law 1506 = .ok (.iadd, 1) := by decide +kernel
theorem dL_law_1507 : decode cL_law 1507 = .ok (.iaload, 1) := by decide +kernel
theorem dL_law_1508 : decode cL_law 1508 = .ok (.aload_n 3, 1) := by decide +kernel
theorem dL_law_1509 : decode cL_law 1509 = .ok (.invokestatic 166, 3) := by decide +kernel
theorem dL_law_1512 : decode cL_law 1512 = .ok (.istore 5, 2) := by decide +kernel
theorem dL_law_1514 : decode cL_law 1514 = .ok (.aload_n 2, 1) := by decide +kernel
theorem dL_law_1515 : decode cL_law 1515 = .ok (.aload_n 0, 1) := by decide +kernel
theorem dL_law_1516 : decode cL_law 1516 = .ok (.iload 4, 2) := by decide +kernel
theorem dL_law_1518 : decode cL_law 1518 = .ok (.iconst 1, 1) := by decide +kernel
theorem dL_law_1519 : decode cL_law 1519 = .ok (.iadd, 1) := by decide +kernel
theorem dL_law_1520 : decode cL_law 1520 = .ok (.iaload, 1) := by decide +kernel
theorem dL_law_1521 : decode cL_law 1521 = .ok (.aload_n 0, 1) := by decide +kernel
theorem dL_law_1522 : decode cL_law 1522 = .ok (.iload 4, 2) := by decide +kernel
theorem dL_law_1524 : decode cL_law 1524 = .ok (.iconst 2, 1) := by decide +kernel
theorem dL_law_1525 : decode cL_law 1525 = .ok (.iadd, 1) := by decide +kernel
theorem dL_law_1526 : decode cL_law 1526 = .ok (.iaload, 1) := by decide +kernel
theorem dL_law_1527 : decode cL_law 1527 = .ok (.aload_n 0, 1) := by decide +kernel
theorem dL_law_1528 : decode cL_law 1528 = .ok (.iload 4, 2) := by decide +kernel
theorem dL_law_1530 : decode cL_law 1530 = .ok (.iconst 3, 1) := by decide +kernel
theorem dL_law_1531 : decode cL_law 1531 = .ok (.iadd, 1) := by decide +kernel
theorem dL_law_1532 : decode cL_law 1532 = .ok (.iaload, 1) := by decide +kernel
theorem dL_law_1533 : decode cL_law 1533 = .ok (.invokevirtual 168, 3) := by decide +kernel
theorem dL_law_1536 : decode cL_law 1536 = .ok (.istore 6, 2) := by decide +kernel
theorem dL_law_1538 : decode cL_law 1538 = .ok (.aload_n 2, 1) := by decide +kernel
theorem dL_law_1539 : decode cL_law 1539 = .ok (.invokevirtual 102, 3) := by decide +kernel
theorem dL_law_1542 : decode cL_law 1542 = .ok (.iload 5, 2) := by decide +kernel
theorem dL_law_1544 : decode cL_law 1544 = .ok (.if_icmp .eq 5, 3) := by decide +kernel
theorem dL_law_1549 : decode cL_law 1549 = .ok (.iload 5, 2) := by decide +kernel
theorem dL_law_1551 : decode cL_law 1551 = .ok (.ifCond .ne 15, 3) := by decide +kernel
theorem dL_law_1566 : decode cL_law 1566 = .ok (.goto 311, 3) := by decide +kernel
theorem dL_law_1569 : decode cL_law 1569 = .ok (.aload_n 1, 1) := by decide +kernel
theorem dL_law_1570 : decode cL_law 1570 = .ok (.aload_n 0, 1) := by decide +kernel
theorem dL_law_1571 : decode cL_law 1571 = .ok (.iload 4, 2) := by decide +kernel
theorem dL_law_1573 : decode cL_law 1573 = .ok (.iconst 1, 1) := by decide +kernel
theorem dL_law_1574 : decode cL_law 1574 = .ok (.iadd, 1) := by decide +kernel
theorem dL_law_1575 : decode cL_law 1575 = .ok (.iaload, 1) := by decide +kernel
theorem dL_law_1576 : decode cL_law 1576 = .ok (.aload_n 0, 1) := by decide +kernel
theorem dL_law_1577 : decode cL_law 1577 = .ok (.iload 4, 2) := by decide +kernel
theorem dL_law_1579 : decode cL_law 1579 = .ok (.iconst 2, 1) := by decide +kernel
theorem dL_law_1580 : decode cL_law 1580 = .ok (.iadd, 1) := by decide +kernel
theorem dL_law_1581 : decode cL_law 1581 = .ok (.iaload, 1) := by decide +kernel
theorem dL_law_1582 : decode cL_law 1582 = .ok (.aload_n 3, 1) := by decide +kernel
theorem dL_law_1583 : decode cL_law 1583 = .ok (.invokestatic 169, 3) := by decide +kernel
theorem dL_law_1586 : decode cL_law 1586 = .ok (.istore 5, 2) := by decide +kernel
theorem dL_law_1588 : decode cL_law 1588 = .ok (.aload_n 2, 1) := by decide +kernel
theorem dL_law_1589 : decode cL_law 1589 = .ok (.aload_n 0, 1) := by decide +kernel
theorem dL_law_1590 : decode cL_law 1590 = .ok (.iload 4, 2) := by decide +kernel
theorem dL_law_1592 : decode cL_law 1592 = .ok (.iconst 1, 1) := by decide +kernel
theorem dL_law_1593 : decode cL_law 1593 = .ok (.iadd, 1) := by decide +kernel
theorem dL_law_1594 : decode cL_law 1594 = .ok (.iaload, 1) := by decide +kernel
theorem dL_law_1595 : decode cL_law 1595 = .ok (.aload_n 0, 1) := by decide +kernel
theorem dL_law_1596 : decode cL_law 1596 = .ok (.iload 4, 2) := by decide +kernel
theorem dL_law_1598 : decode cL_law 1598 = .ok (.iconst 2, 1) := by decide +kernel
theorem dL_law_1599 : decode cL_law 1599 = .ok (.iadd, 1) := by decide +kernel
theorem dL_law_1600 : decode cL_law 1600 = .ok (.iaload, 1) := by decide +kernel
theorem dL_law_1601 : decode cL_law 1601 = .ok (.invokevirtual 171, 3) := by decide +kernel
theorem dL_law_1604 : decode cL_law 1604 = .ok (.istore 6, 2) := by decide +kernel
theorem dL_law_1606 : decode cL_law 1606 = .ok (.aload_n 2, 1) := by decide +kernel
theorem dL_law_1607 : decode cL_law 1607 = .ok (.invokevirtual 102, 3) := by decide +kernel
theorem dL_law_1610 : decode cL_law 1610 = .ok (.iload 5, 2) := by decide +kernel
theorem dL_law_1612 : decode cL_law 1612 = .ok (.if_icmp .eq 5, 3) := by decide +kernel
theorem dL_law_1617 : decode cL_law 1617 = .ok (.iload 5, 2) := by decide +kernel
theorem dL_law_1619 : decode cL_law 1619 = .ok (.ifCond .ne 15, 3) := by decide +kernel
theorem dL_law_1634 : decode cL_law 1634 = .ok (.goto 243, 3) := by decide +kernel
theorem dL_law_1637 : decode cL_law 1637 = .ok (.aload_n 1, 1) := by decide +kernel
theorem dL_law_1638 : decode cL_law 1638 = .ok (.aload_n 0, 1) := by decide +kernel
theorem dL_law_1639 : decode cL_law 1639 = .ok (.iload 4, 2) := by decide +kernel
theorem dL_law_1641 : decode cL_law 1641 = .ok (.iconst 1, 1) := by decide +kernel
theorem dL_law_1642 : decode cL_law 1642 = .ok (.iadd, 1) := by decide +kernel
theorem dL_law_1643 : decode cL_law 1643 = .ok (.iaload, 1) := by decide +kernel
theorem dL_law_1644 : decode cL_law 1644 = .ok (.aload_n 0, 1) := by decide +kernel
theorem dL_law_1645 : decode cL_law 1645 = .ok (.iload 4, 2) := by decide +kernel
theorem dL_law_1647 : decode cL_law 1647 = .ok (.iconst 2, 1) := by decide +kernel
theorem dL_law_1648 : decode cL_law 1648 = .ok (.iadd, 1) := by decide +kernel
theorem dL_law_1649 : decode cL_law 1649 = .ok (.iaload, 1) := by decide +kernel
theorem dL_law_1650 : decode cL_law 1650 = .ok (.aload_n 3, 1) := by decide +kernel
theorem dL_law_1651 : decode cL_law 1651 = .ok (.invokestatic 172, 3) := by decide +kernel
theorem dL_law_1654 : decode cL_law 1654 = .ok (.istore 5, 2) := by decide +kernel
theorem dL_law_1656 : decode cL_law 1656 = .ok (.aload_n 2, 1) := by decide +kernel
theorem dL_law_1657 : decode cL_law 1657 = .ok (.aload_n 0, 1) := by decide +kernel
theorem dL_law_1658 : decode cL_law 1658 = .ok (.iload 4, 2) := by decide +kernel
theorem dL_law_1660 : decode cL_law 1660 = .ok (.iconst 1, 1) := by decide +kernel
theorem dL_law_1661 : decode cL_law 1661 = .ok (.iadd, 1) := by decide +kernel
theorem dL_law_1662 : decode cL_law 1662 = .ok (.iaload, 1) := by decide +kernel
theorem dL_law_1663 : decode cL_law 1663 = .ok (.aload_n 0, 1) := by decide +kernel
theorem dL_law_1664 : decode cL_law 1664 = .ok (.iload 4, 2) := by decide +kernel
theorem dL_law_1666 : decode cL_law 1666 = .ok (.iconst 2, 1) := by decide +kernel
theorem dL_law_1667 : decode cL_law 1667 = .ok (.iadd, 1) := by decide +kernel
theorem dL_law_1668 : decode cL_law 1668 = .ok (.iaload, 1) := by decide +kernel
theorem dL_law_1669 : decode cL_law 1669 = .ok (.invokevirtual 174, 3) := by decide +kernel
theorem dL_law_1672 : decode cL_law 1672 = .ok (.istore 6, 2) := by decide +kernel
theorem dL_law_1674 : decode cL_law 1674 = .ok (.aload_n 2, 1) := by decide +kernel
theorem dL_law_1675 : decode cL_law 1675 = .ok (.invokevirtual 102, 3) := by decide +kernel
theorem dL_law_1678 : decode cL_law 1678 = .ok (.iload 5, 2) := by decide +kernel
theorem dL_law_1680 : decode cL_law 1680 = .ok (.if_icmp .eq 5, 3) := by decide +kernel
theorem dL_law_1685 : decode cL_law 1685 = .ok (.iload 5, 2) := by decide +kernel
theorem dL_law_1687 : decode cL_law 1687 = .ok (.ifCond .ne 15, 3) := by decide +kernel
theorem dL_law_1702 : decode cL_law 1702 = .ok (.goto 175, 3) := by decide +kernel
theorem dL_law_1705 : decode cL_law 1705 = .ok (.aload_n 1, 1) := by decide +kernel
theorem dL_law_1706 : decode cL_law 1706 = .ok (.aload_n 0, 1) := by decide +kernel
theorem dL_law_1707 : decode cL_law 1707 = .ok (.iload 4, 2) := by decide +kernel
theorem dL_law_1709 : decode cL_law 1709 = .ok (.iconst 1, 1) := by decide +kernel
theorem dL_law_1710 : decode cL_law 1710 = .ok (.iadd, 1) := by decide +kernel
theorem dL_law_1711 : decode cL_law 1711 = .ok (.iaload, 1) := by decide +kernel
theorem dL_law_1712 : decode cL_law 1712 = .ok (.aload_n 0, 1) := by decide +kernel
theorem dL_law_1713 : decode cL_law 1713 = .ok (.iload 4, 2) := by decide +kernel
theorem dL_law_1715 : decode cL_law 1715 = .ok (.iconst 2, 1) := by decide +kernel
theorem dL_law_1716 : decode cL_law 1716 = .ok (.iadd, 1) := by decide +kernel
theorem dL_law_1717 : decode cL_law 1717 = .ok (.iaload, 1) := by decide +kernel
theorem dL_law_1718 : decode cL_law 1718 = .ok (.aload_n 0, 1) := by decide +kernel
theorem dL_law_1719 : decode cL_law 1719 = .ok (.iload 4, 2) := by decide +kernel
theorem dL_law_1721 : decode cL_law 1721 = .ok (.iconst 3, 1) := by decide +kernel
theorem dL_law_1722 : decode cL_law 1722 = .ok (.iadd, 1) := by decide +kernel
theorem dL_law_1723 : decode cL_law 1723 = .ok (.iaload, 1) := by decide +kernel
theorem dL_law_1724 : decode cL_law 1724 = .ok (.aload_n 3, 1) := by decide +kernel
theorem dL_law_1725 : decode cL_law 1725 = .ok (.invokestatic 175, 3) := by decide +kernel
theorem dL_law_1728 : decode cL_law 1728 = .ok (.istore 5, 2) := by decide +kernel
theorem dL_law_1730 : decode cL_law 1730 = .ok (.aload_n 2, 1) := by decide +kernel
theorem dL_law_1731 : decode cL_law 1731 = .ok (.aload_n 0, 1) := by decide +kernel
theorem dL_law_1732 : decode cL_law 1732 = .ok (.iload 4, 2) := by decide +kernel
theorem dL_law_1734 : decode cL_law 1734 = .ok (.iconst 1, 1) := by decide +kernel
theorem dL_law_1735 : decode cL_law 1735 = .ok (.iadd, 1) := by decide +kernel
theorem dL_law_1736 : decode cL_law 1736 = .ok (.iaload, 1) := by decide +kernel
theorem dL_law_1737 : decode cL_law 1737 = .ok (.aload_n 0, 1) := by decide +kernel
theorem dL_law_1738 : decode cL_law 1738 = .ok (.iload 4, 2) := by decide +kernel
theorem dL_law_1740 : decode cL_law 1740 = .ok (.iconst 2, 1) := by decide +kernel
theorem dL_law_1741 : decode cL_law 1741 = .ok (.iadd, 1) := by decide +kernel
theorem dL_law_1742 : decode cL_law 1742 = .ok (.iaload, 1) := by decide +kernel
theorem dL_law_1743 : decode cL_law 1743 = .ok (.aload_n 0, 1) := by decide +kernel
theorem dL_law_1744 : decode cL_law 1744 = .ok (.iload 4, 2) := by decide +kernel
theorem dL_law_1746 : decode cL_law 1746 = .ok (.iconst 3, 1) := by decide +kernel
theorem dL_law_1747 : decode cL_law 1747 = .ok (.iadd, 1) := by decide +kernel
theorem dL_law_1748 : decode cL_law 1748 = .ok (.iaload, 1) := by decide +kernel
theorem dL_law_1749 : decode cL_law 1749 = .ok (.invokevirtual 177, 3) := by decide +kernel
theorem dL_law_1752 : decode cL_law 1752 = .ok (.istore 6, 2) := by decide +kernel
theorem dL_law_1754 : decode cL_law 1754 = .ok (.aload_n 2, 1) := by decide +kernel
theorem dL_law_1755 : decode cL_law 1755 = .ok (.invokevirtual 102, 3) := by decide +kernel
theorem dL_law_1758 : decode cL_law 1758 = .ok (.iload 5, 2) := by decide +kernel
theorem dL_law_1760 : decode cL_law 1760 = .ok (.if_icmp .eq 5, 3) := by decide +kernel
theorem dL_law_1765 : decode cL_law 1765 = .ok (.iload 5, 2) := by decide +kernel
theorem dL_law_1767 : decode cL_law 1767 = .ok (.ifCond .ne 15, 3) := by decide +kernel
theorem dL_law_1782 : decode cL_law 1782 = .ok (.goto 95, 3) := by decide +kernel
theorem dL_law_1785 : decode cL_law 1785 = .ok (.aload_n 1, 1) := by decide +kernel
theorem dL_law_1786 : decode cL_law 1786 = .ok (.aload_n 0, 1) := by decide +kernel
theorem dL_law_1787 : decode cL_law 1787 = .ok (.iload 4, 2) := by decide +kernel
theorem dL_law_1789 : decode cL_law 1789 = .ok (.iconst 1, 1) := by decide +kernel
theorem dL_law_1790 : decode cL_law 1790 = .ok (.iadd, 1) := by decide +kernel
theorem dL_law_1791 : decode cL_law 1791 = .ok (.iaload, 1) := by decide +kernel
theorem dL_law_1792 : decode cL_law 1792 = .ok (.aload_n 0, 1) := by decide +kernel
theorem dL_law_1793 : decode cL_law 1793 = .ok (.iload 4, 2) := by decide +kernel
theorem dL_law_1795 : decode cL_law 1795 = .ok (.iconst 2, 1) := by decide +kernel
theorem dL_law_1796 : decode cL_law 1796 = .ok (.iadd, 1) := by decide +kernel
theorem dL_law_1797 : decode cL_law 1797 = .ok (.iaload, 1) := by decide +kernel
theorem dL_law_1798 : decode cL_law 1798 = .ok (.aload_n 0, 1) := by decide +kernel
theorem dL_law_1799 : decode cL_law 1799 = .ok (.iload 4, 2) := by decide +kernel
theorem dL_law_1801 : decode cL_law 1801 = .ok (.iconst 3, 1) := by decide +kernel
theorem dL_law_1802 : decode cL_law 1802 = .ok (.iadd, 1) := by decide +kernel
theorem dL_law_1803 : decode cL_law 1803 = .ok (.iaload, 1) := by decide +kernel
theorem dL_law_1804 : decode cL_law 1804 = .ok (.aload_n 0, 1) := by decide +kernel
theorem dL_law_1805 : decode cL_law 1805 = .ok (.iload 4, 2) := by decide +kernel
theorem dL_law_1807 : decode cL_law 1807 = .ok (.iconst 4, 1) := by decide +kernel
theorem dL_law_1808 : decode cL_law 1808 = .ok (.iadd, 1) := by decide +kernel
theorem dL_law_1809 : decode cL_law 1809 = .ok (.iaload, 1) := by decide +kernel
theorem dL_law_1810 : decode cL_law 1810 = .ok (.aload_n 3, 1) := by decide +kernel
theorem dL_law_1811 : decode cL_law 1811 = .ok (.invokestatic 178, 3) := by decide +kernel
theorem dL_law_1814 : decode cL_law 1814 = .ok (.istore 5, 2) := by decide +kernel
theorem dL_law_1816 : decode cL_law 1816 = .ok (.aload_n 2, 1) := by decide +kernel
theorem dL_law_1817 : decode cL_law 1817 = .ok (.aload_n 0, 1) := by decide +kernel
theorem dL_law_1818 : decode cL_law 1818 = .ok (.iload 4, 2) := by decide +kernel
theorem dL_law_1820 : decode cL_law 1820 = .ok (.iconst 1, 1) := by decide +kernel
theorem dL_law_1821 : decode cL_law 1821 = .ok (.iadd, 1) := by decide +kernel
theorem dL_law_1822 : decode cL_law 1822 = .ok (.iaload, 1) := by decide +kernel
theorem dL_law_1823 : decode cL_law 1823 = .ok (.aload_n 0, 1) := by decide +kernel
theorem dL_law_1824 : decode cL_law 1824 = .ok (.iload 4, 2) := by decide +kernel
theorem dL_law_1826 : decode cL_law 1826 = .ok (.iconst 2, 1) := by decide +kernel
theorem dL_law_1827 : decode cL_law 1827 = .ok (.iadd, 1) := by decide +kernel
theorem dL_law_1828 : decode cL_law 1828 = .ok (.iaload, 1) := by decide +kernel
theorem dL_law_1829 : decode cL_law 1829 = .ok (.aload_n 0, 1) := by decide +kernel
theorem dL_law_1830 : decode cL_law 1830 = .ok (.iload 4, 2) := by decide +kernel
theorem dL_law_1832 : decode cL_law 1832 = .ok (.iconst 3, 1) := by decide +kernel
theorem dL_law_1833 : decode cL_law 1833 = .ok (.iadd, 1) := by decide +kernel
theorem dL_law_1834 : decode cL_law 1834 = .ok (.iaload, 1) := by decide +kernel
theorem dL_law_1835 : decode cL_law 1835 = .ok (.aload_n 0, 1) := by decide +kernel
theorem dL_law_1836 : decode cL_law 1836 = .ok (.iload 4, 2) := by decide +kernel
theorem dL_law_1838 : decode cL_law 1838 = .ok (.iconst 4, 1) := by decide +kernel
theorem dL_law_1839 : decode cL_law 1839 = .ok (.iadd, 1) := by decide +kernel
theorem dL_law_1840 : decode cL_law 1840 = .ok (.iaload, 1) := by decide +kernel
theorem dL_law_1841 : decode cL_law 1841 = .ok (.invokevirtual 180, 3) := by decide +kernel
theorem dL_law_1844 : decode cL_law 1844 = .ok (.istore 6, 2) := by decide +kernel
theorem dL_law_1846 : decode cL_law 1846 = .ok (.aload_n 2, 1) := by decide +kernel
theorem dL_law_1847 : decode cL_law 1847 = .ok (.invokevirtual 102, 3) := by decide +kernel
theorem dL_law_1850 : decode cL_law 1850 = .ok (.iload 5, 2) := by decide +kernel
theorem dL_law_1852 : decode cL_law 1852 = .ok (.if_icmp .eq 5, 3) := by decide +kernel
theorem dL_law_1857 : decode cL_law 1857 = .ok (.iload 5, 2) := by decide +kernel
theorem dL_law_1859 : decode cL_law 1859 = .ok (.ifCond .ne 15, 3) := by decide +kernel
theorem dL_law_1874 : decode cL_law 1874 = .ok (.goto 3, 3) := by decide +kernel
theorem u_1071 : Cond.methodLink RL 163 yL_noted ∈ gU := gm (i := 1071) (by decide +kernel) (by decide +kernel)
theorem u_1072 : Cond.static yL_noted ∈ gU := gm (i := 1072) (by decide +kernel) (by decide +kernel)
theorem u_1073 : Cond.codeWith yL_noted cL_noted 5 (some .int) [(0, 10, 13, 21), (0, 10, 17, 13)] ∈ gU := gm (i := 1073) (by decide +kernel) (by decide +kernel)
theorem u_1079 : Cond.methodLink RL 166 yL_learnt ∈ gU := gm (i := 1079) (by decide +kernel) (by decide +kernel)
theorem u_1080 : Cond.static yL_learnt ∈ gU := gm (i := 1080) (by decide +kernel) (by decide +kernel)
theorem u_1081 : Cond.codeWith yL_learnt cL_learnt 6 (some .int) [(0, 12, 15, 21), (0, 12, 19, 13)] ∈ gU := gm (i := 1081) (by decide +kernel) (by decide +kernel)
theorem u_1091 : Cond.methodLink RL 169 yL_reach ∈ gU := gm (i := 1091) (by decide +kernel) (by decide +kernel)
theorem u_1092 : Cond.static yL_reach ∈ gU := gm (i := 1092) (by decide +kernel) (by decide +kernel)
theorem u_1093 : Cond.codeWith yL_reach cL_reach 5 (some .int) [(0, 10, 13, 21), (0, 10, 17, 13)] ∈ gU := gm (i := 1093) (by decide +kernel) (by decide +kernel)
theorem u_1201 : Cond.methodLink RL 172 yL_reachAnew ∈ gU := gm (i := 1201) (by decide +kernel) (by decide +kernel)
theorem u_1202 : Cond.static yL_reachAnew ∈ gU := gm (i := 1202) (by decide +kernel) (by decide +kernel)
theorem u_1203 : Cond.codeWith yL_reachAnew cL_reachAnew 5 (some .int) [(0, 10, 13, 21), (0, 10, 17, 13)] ∈ gU := gm (i := 1203) (by decide +kernel) (by decide +kernel)
theorem u_1224 : Cond.methodLink RL 175 yL_proved ∈ gU := gm (i := 1224) (by decide +kernel) (by decide +kernel)
theorem u_1225 : Cond.static yL_proved ∈ gU := gm (i := 1225) (by decide +kernel) (by decide +kernel)
theorem u_1226 : Cond.codeWith yL_proved cL_proved 6 (some .int) [(0, 12, 15, 21), (0, 12, 19, 13)] ∈ gU := gm (i := 1226) (by decide +kernel) (by decide +kernel)
theorem u_1232 : Cond.methodLink RL 178 yL_way ∈ gU := gm (i := 1232) (by decide +kernel) (by decide +kernel)
theorem u_1233 : Cond.static yL_way ∈ gU := gm (i := 1233) (by decide +kernel) (by decide +kernel)
theorem u_1234 : Cond.codeWith yL_way cL_way 7 (some .int) [(0, 14, 17, 21), (0, 14, 21, 13)] ∈ gU := gm (i := 1234) (by decide +kernel) (by decide +kernel)
theorem u_1651 : Cond.methodLink RL 165 yX12_noted ∈ gU := gm (i := 1651) (by decide +kernel) (by decide +kernel)
theorem u_1652 : Cond.instanceMethod yX12_noted ∈ gU := gm (i := 1652) (by decide +kernel) (by decide +kernel)
theorem u_1653 : Cond.selects RX12 yX12_noted yX12_noted ∈ gU := gm (i := 1653) (by decide +kernel) (by decide +kernel)
theorem u_1654 : Cond.code yX12_noted cX12_noted 4 (some .int) ∈ gU := gm (i := 1654) (by decide +kernel) (by decide +kernel)
theorem u_1655 : Cond.methodLink RL 168 yX12_learnt ∈ gU := gm (i := 1655) (by decide +kernel) (by decide +kernel)
theorem u_1656 : Cond.instanceMethod yX12_learnt ∈ gU := gm (i := 1656) (by decide +kernel) (by decide +kernel)
theorem u_1657 : Cond.selects RX12 yX12_learnt yX12_learnt ∈ gU := gm (i := 1657) (by decide +kernel) (by decide +kernel)
theorem u_1658 : Cond.code yX12_learnt cX12_learnt 5 (some .int) ∈ gU := gm (i := 1658) (by decide +kernel) (by decide +kernel)
theorem u_1659 : Cond.methodLink RL 171 yX12_reach ∈ gU := gm (i := 1659) (by decide +kernel) (by decide +kernel)
theorem u_1660 : Cond.instanceMethod yX12_reach ∈ gU := gm (i := 1660) (by decide +kernel) (by decide +kernel)
theorem u_1661 : Cond.selects RX12 yX12_reach yX12_reach ∈ gU := gm (i := 1661) (by decide +kernel) (by decide +kernel)
theorem u_1662 : Cond.code yX12_reach cX12_reach 3 (some .int) ∈ gU := gm (i := 1662) (by decide +kernel) (by decide +kernel)
theorem u_1675 : Cond.methodLink RL 174 yX12_reachAnew ∈ gU := gm (i := 1675) (by decide +kernel) (by decide +kernel)
theorem u_1676 : Cond.instanceMethod yX12_reachAnew ∈ gU := gm (i := 1676) (by decide +kernel) (by decide +kernel)
theorem u_1677 : Cond.selects RX12 yX12_reachAnew yX12_reachAnew ∈ gU := gm (i := 1677) (by decide +kernel) (by decide +kernel)
theorem u_1678 : Cond.code yX12_reachAnew cX12_reachAnew 3 (some .int) ∈ gU := gm (i := 1678) (by decide +kernel) (by decide +kernel)
theorem u_1679 : Cond.methodLink RL 177 yX12_proved ∈ gU := gm (i := 1679) (by decide +kernel) (by decide +kernel)
theorem u_1680 : Cond.instanceMethod yX12_proved ∈ gU := gm (i := 1680) (by decide +kernel) (by decide +kernel)
theorem u_1681 : Cond.selects RX12 yX12_proved yX12_proved ∈ gU := gm (i := 1681) (by decide +kernel) (by decide +kernel)
theorem u_1682 : Cond.code yX12_proved cX12_proved 4 (some .int) ∈ gU := gm (i := 1682) (by decide +kernel) (by decide +kernel)
theorem u_1683 : Cond.methodLink RL 180 yX12_way ∈ gU := gm (i := 1683) (by decide +kernel) (by decide +kernel)
theorem u_1684 : Cond.instanceMethod yX12_way ∈ gU := gm (i := 1684) (by decide +kernel) (by decide +kernel)
theorem u_1685 : Cond.selects RX12 yX12_way yX12_way ∈ gU := gm (i := 1685) (by decide +kernel) (by decide +kernel)
theorem u_1686 : Cond.code yX12_way cX12_way 7 (some .int) ∈ gU := gm (i := 1686) (by decide +kernel) (by decide +kernel)
set_option maxHeartbeats 8000000 in
set_option maxRecDepth 100000 in
theorem law_c18 {p : Program} {l : Launch} {e : Env} {s : State} {m : MethodId} {below : List Frame} {meth : Method} {c : Code} {dC : Nat → ClassId} {dI : Nat → Nat → Nat} {A : Nat → Prop} {b L : Nat} {xs : Nat → Int32} {h0 : Nat} {w : Nat} {kd : Nat} {cK : ClassId} {gW : Nat → Nat} {sg : Nat} {sn : Nat} {cS : ClassId} {gS : Nat → Nat} {ro : Nat} {cu : Nat} {c1 : Nat} {cC1 : ClassId} {gB1 : Nat → Nat} {sp : Nat} {c2 : Nat} {cC2 : ClassId} {gB2 : Nat → Nat} {gR : Nat → Nat} {tr : Nat} {gT : Nat → Nat} {gX : Nat → Nat} {m0 : Nat} {kdM : Nat} {ckM : ClassId} {fa : Nat} {cf : ClassId} {gw : Nat} {cg : ClassId} {gM : Nat → Nat} {ou : Nat} {cO : ClassId} (hfl : l.stackTraces = false) (hx : p.tables.exec = Jvm.exec) (hb : c.code = code) (hr : meth.sig.returnType = ret) (hml : c.maxLocals = 7) (hown : s.vm.findClass RL = some m.cls) (hts : ∀ w ∈ gU, w.before #[Value.ref b] s = true) (hX : va_X b L xs s s.heap) (hbl : b < s.heap.size) (hlocks : meth.locks = false) (hE : gEnv s) (hZ : gZ A s) (hA : ∀ q : Nat, s.heap.size ≤ q → A q) (hbA : ¬ A b) (hAo : ∀ q : Nat, A q → s.heap.size ≤ q) (hL8 : L = 8) : ∀ (H : Heap) (locs : List Loc), va_K (dC, dI) vwCl [(cK, .int), (cS, .long), (cC1, .int), (cC2, .int), (ckM, .int), (cf, .int), (cg, .int), (cO, .long)] s → va_P (dC, dI) vwCl [(h0, .inr (11, oX w sg ro tr gX)), (w, .inr (10, oW kd gW 0 0)), (kd, .inl (cK, 10, .inl (fun _ => 0))), (sg, .inr (7, oS w sn gS 0)), (sn, .inl (cS, 40, .inr (.inl (fun _ => 0)))), (ro, .inr (6, oR w sg cu sp gR 0 0)), (cu, .inr (8, oB c1 gB1)), (c1, .inl (cC1, 10, .inl (fun _ => 0))), (sp, .inr (8, oB c2 gB2)), (c2, .inl (cC2, 10, .inl (fun _ => 0))), (tr, .inr (9, oT w sg ro gT 0 0 0 0)), (m0, .inr (12, mM kdM gw fa gM 0 0 0 0 0 0 0 0 0)), (kdM, .inl (ckM, 10, .inl (fun _ => 0))), (fa, .inl (cf, 10, .inl (fun _ => 0))), (gw, .inl (cg, 10, .inl (fun _ => 0))), (ou, .inl (cO, 1, .inr (.inl (fun _ => 0))))] H → va_D A [(h0, .inr (11, oX w sg ro tr gX)), (w, .inr (10, oW kd gW 0 0)), (kd, .inl (cK, 10, .inl (fun _ => 0))), (sg, .inr (7, oS w sn gS 0)), (sn, .inl (cS, 40, .inr (.inl (fun _ => 0)))), (ro, .inr (6, oR w sg cu sp gR 0 0)), (cu, .inr (8, oB c1 gB1)), (c1, .inl (cC1, 10, .inl (fun _ => 0))), (sp, .inr (8, oB c2 gB2)), (c2, .inl (cC2, 10, .inl (fun _ => 0))), (tr, .inr (9, oT w sg ro gT 0 0 0 0)), (m0, .inr (12, mM kdM gw fa gM 0 0 0 0 0 0 0 0 0)), (kdM, .inl (ckM, 10, .inl (fun _ => 0))), (fa, .inl (cf, 10, .inl (fun _ => 0))), (gw, .inl (cg, 10, .inl (fun _ => 0))), (ou, .inl (cO, 1, .inr (.inl (fun _ => 0))))] → va_S A s.heap H locs → ∀ ls : Array Slot, lv_has ls 7 [(4, .int 0), (3, .ref ou), (2, .ref m0), (1, .ref h0), (0, .ref b)] → W p l e room_1 s m #[Value.ref b] below meth c H locs 441 44110 (lw_Z below #[Value.ref b] s) (F0 m 1421 ls []) := by
  intro H locs hK hP hD hS ls hl
  refine lv_aload_n hx hb dL_law_1421 rfl (lv_at hl 3 rfl) ?_
  refine lv_aload_n hx hb dL_law_1422 rfl (lv_at hl 4 rfl) ?_
  refine lv_iload hx hb dL_law_1423 (lv_at hl 0 rfl) ?_
  refine lv_iconst (v := 1) hx hb dL_law_1425 (by decide) ?_
  refine lv_iadd hx hb dL_law_1426 ?_
  refine lv_topi (fun z1332 ez1332 => ?_)
  obtain rfl : z1332 = 1 := ez1332.trans (by decide)
  refine va_sld hx hb hX hbl hbA hS (by rw [hL8]; unfold vp_in; decide) dL_law_1427 ?_
  refine lv_aload_n hx hb dL_law_1428 rfl (lv_at hl 4 rfl) ?_
  refine lv_iload hx hb dL_law_1429 (lv_at hl 0 rfl) ?_
  refine lv_iconst (v := 2) hx hb dL_law_1431 (by decide) ?_
  refine lv_iadd hx hb dL_law_1432 ?_
  refine lv_topi (fun z1333 ez1333 => ?_)
  obtain rfl : z1333 = 2 := ez1333.trans (by decide)
  refine va_sld hx hb hX hbl hbA hS (by rw [hL8]; unfold vp_in; decide) dL_law_1433 ?_
  refine lv_aload_n hx hb dL_law_1434 rfl (lv_at hl 1 rfl) ?_
  have hPc := hP.sub (ws' := [(h0, .inr (11, oX w sg ro tr gX)), (w, .inr (10, oW kd gW 0 0))]) [0, 1] rfl
  have hDc := hD.sub (ws' := [(h0, .inr (11, oX w sg ro tr gX)), (w, .inr (10, oW kd gW 0 0))]) [0, 1] (by decide) rfl
  have hKc := hK.sub (tys' := []) [] rfl
  have hFc := roF hS hA
  refine va_calli (vx_runSW (As := [.ref h0, .int (xs (1 : Int32).toNatClampNeg), .int (xs (2 : Int32).toNatClampNeg), .ref ou]) (rest := []) ⟨hx, hb, hml, hown, hts⟩ (c_L_noted l dC dI H.size hfl h0 ou w sg ro tr gX kd gW (xs (1 : Int32).toNatClampNeg) (xs (2 : Int32).toNatClampNeg)) (vx_cwSW 4 hts (gSt u_1071 u_1072 u_0 u_1073) rfl rfl rfl (by decide +kernel) ⟨Nat.le_of_ble_eq_true rfl, Nat.le_of_ble_eq_true rfl⟩) ⟨gPZ_blind, gPZ_call hPc hKc hDc hE hZ hS hFc⟩ rfl rfl hl.1 rfl (lv_room (Nat.le_of_ble_eq_true rfl)) dL_law_1435 ⟨(Nat.le_of_ble_eq_true rfl), (Nat.le_of_ble_eq_true rfl)⟩) hS (fun q _ h => hFc q h) hFc (fun r1336 u1334 t9 H1335 locs ht hvm hw hB hz1 hk1 hS => ?_)
  have hP := roP hP hk1
  subst hw
  refine W.widen (k := 442) (n := 44116) (Nat.le_of_ble_eq_true rfl) (Nat.le_of_ble_eq_true rfl) ?_
  refine lv_istore (lv' := [(5, .int 1), (4, .int 0), (3, .ref ou), (2, .ref m0), (1, .ref h0), (0, .ref b)]) hx hb dL_law_1438 hl (by decide) rfl (fun ls hl => ?_)
  refine lv_aload_n hx hb dL_law_1440 rfl (lv_at hl 3 rfl) ?_
  refine lv_aload_n hx hb dL_law_1441 rfl (lv_at hl 5 rfl) ?_
  refine lv_iload hx hb dL_law_1442 (lv_at hl 1 rfl) ?_
  refine lv_iconst (v := 1) hx hb dL_law_1444 (by decide) ?_
  refine lv_iadd hx hb dL_law_1445 ?_
  refine lv_topi (fun z1337 ez1337 => ?_)
  obtain rfl : z1337 = 1 := ez1337.trans (by decide)
  refine va_sld hx hb hX hbl hbA hS (by rw [hL8]; unfold vp_in; decide) dL_law_1446 ?_
  refine lv_aload_n hx hb dL_law_1447 rfl (lv_at hl 5 rfl) ?_
  refine lv_iload hx hb dL_law_1448 (lv_at hl 1 rfl) ?_
  refine lv_iconst (v := 2) hx hb dL_law_1450 (by decide) ?_
  refine lv_iadd hx hb dL_law_1451 ?_
  refine lv_topi (fun z1338 ez1338 => ?_)
  obtain rfl : z1338 = 2 := ez1338.trans (by decide)
  refine va_sld hx hb hX hbl hbA hS (by rw [hL8]; unfold vp_in; decide) dL_law_1452 ?_
  have hPc := hP.sub (ws' := [(m0, .inr (12, mM kdM gw fa gM 0 0 0 0 0 0 0 0 0))]) [11] rfl
  have hDc := hD.sub (ws' := [(m0, .inr (12, mM kdM gw fa gM 0 0 0 0 0 0 0 0 0))]) [11] (by decide) rfl
  have hKc := hK.sub (tys' := []) [] rfl
  have hFc := va_free (wc := [(m0, .inr (12, mM kdM gw fa gM 0 0 0 0 0 0 0 0 0))]) hD hS hA [11] rfl
  refine va_calli (va_runV (As := [.int (xs (1 : Int32).toNatClampNeg), .int (xs (2 : Int32).toNatClampNeg)]) (rest := []) ⟨hx, hb, hml, hown, hts⟩ (c_X12_noted l dC dI H1335.size m0 kdM gw fa gM 0 (xs (1 : Int32).toNatClampNeg) (xs (2 : Int32).toNatClampNeg)) (cwV 2 hts (gV u_1651 u_1652 u_1653 u_14 u_1654) rfl rfl rfl (by decide +kernel) ⟨Nat.le_of_ble_eq_true rfl, Nat.le_of_ble_eq_true rfl⟩) ⟨gP_blind, va_recv hKc hPc (ci := 12) (q0 := 0) rfl rfl, gP_call hPc hKc hDc hE⟩ rfl rfl hl.1 rfl (lv_room (Nat.le_of_ble_eq_true rfl)) dL_law_1453 ⟨(Nat.le_of_ble_eq_true rfl), (Nat.le_of_ble_eq_true rfl)⟩) hS (fun q _ h => hFc q h) hFc (fun r1341 u1339 t9 H1340 locs ht hvm hw hB hz1 hk1 hS => ?_)
  obtain ⟨hP1, hK1, hD1⟩ := hB
  rw [ht] at hP1
  have hK1 := va_K.moved hvm.symm hK1
  obtain ⟨hP, hD⟩ := va_join (wr := [(h0, .inr (11, oX w sg ro tr gX)), (w, .inr (10, oW kd gW 0 0)), (kd, .inl (cK, 10, .inl (fun _ => 0))), (sg, .inr (7, oS w sn gS 0)), (sn, .inl (cS, 40, .inr (.inl (fun _ => 0)))), (ro, .inr (6, oR w sg cu sp gR 0 0)), (cu, .inr (8, oB c1 gB1)), (c1, .inl (cC1, 10, .inl (fun _ => 0))), (sp, .inr (8, oB c2 gB2)), (c2, .inl (cC2, 10, .inl (fun _ => 0))), (tr, .inr (9, oT w sg ro gT 0 0 0 0)), (kdM, .inl (ckM, 10, .inl (fun _ => 0))), (fa, .inl (cf, 10, .inl (fun _ => 0))), (gw, .inl (cg, 10, .inl (fun _ => 0))), (ou, .inl (cO, 1, .inr (.inl (fun _ => 0))))]) (w1 := [(m0, .inr (12, mM kdM gw fa gM 0 0 0 0 0 0 0 0 1))]) hP hD [11] [0, 1, 2, 3, 4, 5, 6, 7, 8, 9, 10, 12, 13, 14, 15] rfl rfl (by decide) (by decide) hk1 hFc hP1 hD1
  have hK := (hK.sub (tys' := [(cK, .int), (cS, .long), (cC1, .int), (cC2, .int), (ckM, .int), (cf, .int), (cg, .int), (cO, .long)]) [0, 1, 2, 3, 4, 5, 6, 7] rfl).app hK1
  have hK : va_K (dC, dI) vwCl [(cK, .int), (cS, .long), (cC1, .int), (cC2, .int), (ckM, .int), (cf, .int), (cg, .int), (cO, .long)] s := hK
  have hP : va_P (dC, dI) vwCl [(h0, .inr (11, oX w sg ro tr gX)), (w, .inr (10, oW kd gW 0 0)), (kd, .inl (cK, 10, .inl (fun _ => 0))), (sg, .inr (7, oS w sn gS 0)), (sn, .inl (cS, 40, .inr (.inl (fun _ => 0)))), (ro, .inr (6, oR w sg cu sp gR 0 0)), (cu, .inr (8, oB c1 gB1)), (c1, .inl (cC1, 10, .inl (fun _ => 0))), (sp, .inr (8, oB c2 gB2)), (c2, .inl (cC2, 10, .inl (fun _ => 0))), (tr, .inr (9, oT w sg ro gT 0 0 0 0)), (kdM, .inl (ckM, 10, .inl (fun _ => 0))), (fa, .inl (cf, 10, .inl (fun _ => 0))), (gw, .inl (cg, 10, .inl (fun _ => 0))), (ou, .inl (cO, 1, .inr (.inl (fun _ => 0)))), (m0, .inr (12, mM kdM gw fa gM 0 0 0 0 0 0 0 0 1))] H1340 := hP
  have hD : va_D A [(h0, .inr (11, oX w sg ro tr gX)), (w, .inr (10, oW kd gW 0 0)), (kd, .inl (cK, 10, .inl (fun _ => 0))), (sg, .inr (7, oS w sn gS 0)), (sn, .inl (cS, 40, .inr (.inl (fun _ => 0)))), (ro, .inr (6, oR w sg cu sp gR 0 0)), (cu, .inr (8, oB c1 gB1)), (c1, .inl (cC1, 10, .inl (fun _ => 0))), (sp, .inr (8, oB c2 gB2)), (c2, .inl (cC2, 10, .inl (fun _ => 0))), (tr, .inr (9, oT w sg ro gT 0 0 0 0)), (kdM, .inl (ckM, 10, .inl (fun _ => 0))), (fa, .inl (cf, 10, .inl (fun _ => 0))), (gw, .inl (cg, 10, .inl (fun _ => 0))), (ou, .inl (cO, 1, .inr (.inl (fun _ => 0)))), (m0, .inr (12, mM kdM gw fa gM 0 0 0 0 0 0 0 0 1))] := hD
  subst hw
  refine lv_istore (lv' := [(6, .int 0), (5, .int 1), (4, .int 0), (3, .ref ou), (2, .ref m0), (1, .ref h0), (0, .ref b)]) hx hb dL_law_1456 hl (by decide) rfl (fun ls hl => ?_)
  refine lv_aload_n hx hb dL_law_1458 rfl (lv_at hl 4 rfl) ?_
  have hPc := hP.sub (ws' := [(m0, .inr (12, mM kdM gw fa gM 0 0 0 0 0 0 0 0 1))]) [15] rfl
  have hDc := hD.sub (ws' := [(m0, .inr (12, mM kdM gw fa gM 0 0 0 0 0 0 0 0 1))]) [15] (by decide) rfl
  have hKc := hK.sub (tys' := []) [] rfl
  have hFc := roF hS hA
  refine va_calli (va_runV (As := []) (rest := []) ⟨hx, hb, hml, hown, hts⟩ (cu_X12_thrown l dC dI H1340.size m0 kdM gw fa gM 1 0 0) (cwV 0 hts (gV u_1392 u_1393 u_1394 u_14 u_1395) rfl rfl rfl (by decide +kernel) ⟨Nat.le_of_ble_eq_true rfl, Nat.le_of_ble_eq_true rfl⟩) ⟨gP_blind, va_recv hKc hPc (ci := 12) (q0 := 0) rfl rfl, gP_call hPc hKc hDc hE⟩ rfl rfl hl.1 rfl (lv_room (Nat.le_of_ble_eq_true rfl)) dL_law_1459 ⟨(Nat.le_of_ble_eq_true rfl), (Nat.le_of_ble_eq_true rfl)⟩) hS (fun q _ h => hFc q h) hFc (fun r1344 u1342 t9 H1343 locs ht hvm hw hB hz1 hk1 hS => ?_)
  have hP := roP hP hk1
  subst hw
  refine lv_iload hx hb dL_law_1462 (lv_at hl 1 rfl) ?_
  refine lv_icmp_eq (tgt := 1469) hx hb dL_law_1464 (by decide) (fun _ => ?_) (fun h9 => absurd (by decide) h9)
  refine lv_iload hx hb dL_law_1469 (lv_at hl 1 rfl) ?_
  refine lv_if_ne (tgt := 1486) hx hb dL_law_1471 (by decide) (fun _ => ?_) (fun h9 => absurd h9 (by decide))
  refine lv_goto (tgt := 1877) hx hb dL_law_1486 (by decide) ?_
  refine W.widen (k := 600002) (n := 7302232) (Nat.le_of_ble_eq_true rfl) (Nat.le_of_ble_eq_true rfl) ?_
  exact law_tail hfl hx hb hr hml hown hts hX hbl hlocks hE hZ hA hbA hAo hL8 hS (lv_sub hl [6, 2] rfl)
set_option maxHeartbeats 8000000 in
set_option maxRecDepth 100000 in
theorem law_c19 {p : Program} {l : Launch} {e : Env} {s : State} {m : MethodId} {below : List Frame} {meth : Method} {c : Code} {dC : Nat → ClassId} {dI : Nat → Nat → Nat} {A : Nat → Prop} {b L : Nat} {xs : Nat → Int32} {h0 : Nat} {w : Nat} {kd : Nat} {cK : ClassId} {gW : Nat → Nat} {sg : Nat} {sn : Nat} {cS : ClassId} {gS : Nat → Nat} {ro : Nat} {cu : Nat} {c1 : Nat} {cC1 : ClassId} {gB1 : Nat → Nat} {sp : Nat} {c2 : Nat} {cC2 : ClassId} {gB2 : Nat → Nat} {gR : Nat → Nat} {tr : Nat} {gT : Nat → Nat} {gX : Nat → Nat} {m0 : Nat} {kdM : Nat} {ckM : ClassId} {fa : Nat} {cf : ClassId} {gw : Nat} {cg : ClassId} {gM : Nat → Nat} {ou : Nat} {cO : ClassId} (hfl : l.stackTraces = false) (hx : p.tables.exec = Jvm.exec) (hb : c.code = code) (hr : meth.sig.returnType = ret) (hml : c.maxLocals = 7) (hown : s.vm.findClass RL = some m.cls) (hts : ∀ w ∈ gU, w.before #[Value.ref b] s = true) (hX : va_X b L xs s s.heap) (hbl : b < s.heap.size) (hlocks : meth.locks = false) (hE : gEnv s) (hZ : gZ A s) (hA : ∀ q : Nat, s.heap.size ≤ q → A q) (hbA : ¬ A b) (hAo : ∀ q : Nat, A q → s.heap.size ≤ q) (hL8 : L = 8) : ∀ (H : Heap) (locs : List Loc), va_K (dC, dI) vwCl [(cK, .int), (cS, .long), (cC1, .int), (cC2, .int), (ckM, .int), (cf, .int), (cg, .int), (cO, .long)] s → va_P (dC, dI) vwCl [(h0, .inr (11, oX w sg ro tr gX)), (w, .inr (10, oW kd gW 0 0)), (kd, .inl (cK, 10, .inl (fun _ => 0))), (sg, .inr (7, oS w sn gS 0)), (sn, .inl (cS, 40, .inr (.inl (fun _ => 0)))), (ro, .inr (6, oR w sg cu sp gR 0 0)), (cu, .inr (8, oB c1 gB1)), (c1, .inl (cC1, 10, .inl (fun _ => 0))), (sp, .inr (8, oB c2 gB2)), (c2, .inl (cC2, 10, .inl (fun _ => 0))), (tr, .inr (9, oT w sg ro gT 0 0 0 0)), (m0, .inr (12, mM kdM gw fa gM 0 0 0 0 0 0 0 0 0)), (kdM, .inl (ckM, 10, .inl (fun _ => 0))), (fa, .inl (cf, 10, .inl (fun _ => 0))), (gw, .inl (cg, 10, .inl (fun _ => 0))), (ou, .inl (cO, 1, .inr (.inl (fun _ => 0))))] H → va_D A [(h0, .inr (11, oX w sg ro tr gX)), (w, .inr (10, oW kd gW 0 0)), (kd, .inl (cK, 10, .inl (fun _ => 0))), (sg, .inr (7, oS w sn gS 0)), (sn, .inl (cS, 40, .inr (.inl (fun _ => 0)))), (ro, .inr (6, oR w sg cu sp gR 0 0)), (cu, .inr (8, oB c1 gB1)), (c1, .inl (cC1, 10, .inl (fun _ => 0))), (sp, .inr (8, oB c2 gB2)), (c2, .inl (cC2, 10, .inl (fun _ => 0))), (tr, .inr (9, oT w sg ro gT 0 0 0 0)), (m0, .inr (12, mM kdM gw fa gM 0 0 0 0 0 0 0 0 0)), (kdM, .inl (ckM, 10, .inl (fun _ => 0))), (fa, .inl (cf, 10, .inl (fun _ => 0))), (gw, .inl (cg, 10, .inl (fun _ => 0))), (ou, .inl (cO, 1, .inr (.inl (fun _ => 0))))] → va_S A s.heap H locs → ∀ ls : Array Slot, lv_has ls 7 [(4, .int 0), (3, .ref ou), (2, .ref m0), (1, .ref h0), (0, .ref b)] → W p l e room_1 s m #[Value.ref b] below meth c H locs 441 44110 (lw_Z below #[Value.ref b] s) (F0 m 1489 ls []) := by
  intro H locs hK hP hD hS ls hl
  refine lv_aload_n hx hb dL_law_1489 rfl (lv_at hl 3 rfl) ?_
  refine lv_aload_n hx hb dL_law_1490 rfl (lv_at hl 4 rfl) ?_
  refine lv_iload hx hb dL_law_1491 (lv_at hl 0 rfl) ?_
  refine lv_iconst (v := 1) hx hb dL_law_1493 (by decide) ?_
  refine lv_iadd hx hb dL_law_1494 ?_
  refine lv_topi (fun z1345 ez1345 => ?_)
  obtain rfl : z1345 = 1 := ez1345.trans (by decide)
  refine va_sld hx hb hX hbl hbA hS (by rw [hL8]; unfold vp_in; decide) dL_law_1495 ?_
  refine lv_aload_n hx hb dL_law_1496 rfl (lv_at hl 4 rfl) ?_
  refine lv_iload hx hb dL_law_1497 (lv_at hl 0 rfl) ?_
  refine lv_iconst (v := 2) hx hb dL_law_1499 (by decide) ?_
  refine lv_iadd hx hb dL_law_1500 ?_
  refine lv_topi (fun z1346 ez1346 => ?_)
  obtain rfl : z1346 = 2 := ez1346.trans (by decide)
  refine va_sld hx hb hX hbl hbA hS (by rw [hL8]; unfold vp_in; decide) dL_law_1501 ?_
  refine lv_aload_n hx hb dL_law_1502 rfl (lv_at hl 4 rfl) ?_
  refine lv_iload hx hb dL_law_1503 (lv_at hl 0 rfl) ?_
  refine lv_iconst (v := 3) hx hb dL_law_1505 (by decide) ?_
  refine lv_iadd hx hb dL_law_1506 ?_
  refine lv_topi (fun z1347 ez1347 => ?_)
  obtain rfl : z1347 = 3 := ez1347.trans (by decide)
  refine va_sld hx hb hX hbl hbA hS (by rw [hL8]; unfold vp_in; decide) dL_law_1507 ?_
  refine lv_aload_n hx hb dL_law_1508 rfl (lv_at hl 1 rfl) ?_
  have hPc := hP.sub (ws' := [(h0, .inr (11, oX w sg ro tr gX)), (w, .inr (10, oW kd gW 0 0))]) [0, 1] rfl
  have hDc := hD.sub (ws' := [(h0, .inr (11, oX w sg ro tr gX)), (w, .inr (10, oW kd gW 0 0))]) [0, 1] (by decide) rfl
  have hKc := hK.sub (tys' := []) [] rfl
  have hFc := roF hS hA
  refine va_calli (vx_runSW (As := [.ref h0, .int (xs (1 : Int32).toNatClampNeg), .int (xs (2 : Int32).toNatClampNeg), .int (xs (3 : Int32).toNatClampNeg), .ref ou]) (rest := []) ⟨hx, hb, hml, hown, hts⟩ (c_L_learnt l dC dI H.size hfl h0 ou w sg ro tr gX kd gW (xs (1 : Int32).toNatClampNeg) (xs (2 : Int32).toNatClampNeg) (xs (3 : Int32).toNatClampNeg)) (vx_cwSW 5 hts (gSt u_1079 u_1080 u_0 u_1081) rfl rfl rfl (by decide +kernel) ⟨Nat.le_of_ble_eq_true rfl, Nat.le_of_ble_eq_true rfl⟩) ⟨gPZ_blind, gPZ_call hPc hKc hDc hE hZ hS hFc⟩ rfl rfl hl.1 rfl (lv_room (Nat.le_of_ble_eq_true rfl)) dL_law_1509 ⟨(Nat.le_of_ble_eq_true rfl), (Nat.le_of_ble_eq_true rfl)⟩) hS (fun q _ h => hFc q h) hFc (fun r1350 u1348 t9 H1349 locs ht hvm hw hB hz1 hk1 hS => ?_)
  have hP := roP hP hk1
  subst hw
  refine W.widen (k := 442) (n := 44116) (Nat.le_of_ble_eq_true rfl) (Nat.le_of_ble_eq_true rfl) ?_
  refine lv_istore (lv' := [(5, .int 1), (4, .int 0), (3, .ref ou), (2, .ref m0), (1, .ref h0), (0, .ref b)]) hx hb dL_law_1512 hl (by decide) rfl (fun ls hl => ?_)
  refine lv_aload_n hx hb dL_law_1514 rfl (lv_at hl 3 rfl) ?_
  refine lv_aload_n hx hb dL_law_1515 rfl (lv_at hl 5 rfl) ?_
  refine lv_iload hx hb dL_law_1516 (lv_at hl 1 rfl) ?_
  refine lv_iconst (v := 1) hx hb dL_law_1518 (by decide) ?_
  refine lv_iadd hx hb dL_law_1519 ?_
  refine lv_topi (fun z1351 ez1351 => ?_)
  obtain rfl : z1351 = 1 := ez1351.trans (by decide)
  refine va_sld hx hb hX hbl hbA hS (by rw [hL8]; unfold vp_in; decide) dL_law_1520 ?_
  refine lv_aload_n hx hb dL_law_1521 rfl (lv_at hl 5 rfl) ?_
  refine lv_iload hx hb dL_law_1522 (lv_at hl 1 rfl) ?_
  refine lv_iconst (v := 2) hx hb dL_law_1524 (by decide) ?_
  refine lv_iadd hx hb dL_law_1525 ?_
  refine lv_topi (fun z1352 ez1352 => ?_)
  obtain rfl : z1352 = 2 := ez1352.trans (by decide)
  refine va_sld hx hb hX hbl hbA hS (by rw [hL8]; unfold vp_in; decide) dL_law_1526 ?_
  refine lv_aload_n hx hb dL_law_1527 rfl (lv_at hl 5 rfl) ?_
  refine lv_iload hx hb dL_law_1528 (lv_at hl 1 rfl) ?_
  refine lv_iconst (v := 3) hx hb dL_law_1530 (by decide) ?_
  refine lv_iadd hx hb dL_law_1531 ?_
  refine lv_topi (fun z1353 ez1353 => ?_)
  obtain rfl : z1353 = 3 := ez1353.trans (by decide)
  refine va_sld hx hb hX hbl hbA hS (by rw [hL8]; unfold vp_in; decide) dL_law_1532 ?_
  have hPc := hP.sub (ws' := [(m0, .inr (12, mM kdM gw fa gM 0 0 0 0 0 0 0 0 0))]) [11] rfl
  have hDc := hD.sub (ws' := [(m0, .inr (12, mM kdM gw fa gM 0 0 0 0 0 0 0 0 0))]) [11] (by decide) rfl
  have hKc := hK.sub (tys' := []) [] rfl
  have hFc := va_free (wc := [(m0, .inr (12, mM kdM gw fa gM 0 0 0 0 0 0 0 0 0))]) hD hS hA [11] rfl
  refine va_calli (va_runV (As := [.int (xs (1 : Int32).toNatClampNeg), .int (xs (2 : Int32).toNatClampNeg), .int (xs (3 : Int32).toNatClampNeg)]) (rest := []) ⟨hx, hb, hml, hown, hts⟩ (c_X12_learnt l dC dI H1349.size m0 kdM gw fa gM 0 (xs (1 : Int32).toNatClampNeg) (xs (2 : Int32).toNatClampNeg) (xs (3 : Int32).toNatClampNeg)) (cwV 3 hts (gV u_1655 u_1656 u_1657 u_14 u_1658) rfl rfl rfl (by decide +kernel) ⟨Nat.le_of_ble_eq_true rfl, Nat.le_of_ble_eq_true rfl⟩) ⟨gP_blind, va_recv hKc hPc (ci := 12) (q0 := 0) rfl rfl, gP_call hPc hKc hDc hE⟩ rfl rfl hl.1 rfl (lv_room (Nat.le_of_ble_eq_true rfl)) dL_law_1533 ⟨(Nat.le_of_ble_eq_true rfl), (Nat.le_of_ble_eq_true rfl)⟩) hS (fun q _ h => hFc q h) hFc (fun r1356 u1354 t9 H1355 locs ht hvm hw hB hz1 hk1 hS => ?_)
  obtain ⟨hP1, hK1, hD1⟩ := hB
  rw [ht] at hP1
  have hK1 := va_K.moved hvm.symm hK1
  obtain ⟨hP, hD⟩ := va_join (wr := [(h0, .inr (11, oX w sg ro tr gX)), (w, .inr (10, oW kd gW 0 0)), (kd, .inl (cK, 10, .inl (fun _ => 0))), (sg, .inr (7, oS w sn gS 0)), (sn, .inl (cS, 40, .inr (.inl (fun _ => 0)))), (ro, .inr (6, oR w sg cu sp gR 0 0)), (cu, .inr (8, oB c1 gB1)), (c1, .inl (cC1, 10, .inl (fun _ => 0))), (sp, .inr (8, oB c2 gB2)), (c2, .inl (cC2, 10, .inl (fun _ => 0))), (tr, .inr (9, oT w sg ro gT 0 0 0 0)), (kdM, .inl (ckM, 10, .inl (fun _ => 0))), (fa, .inl (cf, 10, .inl (fun _ => 0))), (gw, .inl (cg, 10, .inl (fun _ => 0))), (ou, .inl (cO, 1, .inr (.inl (fun _ => 0))))]) (w1 := [(m0, .inr (12, mM kdM gw fa gM 0 0 0 0 0 0 0 0 1))]) hP hD [11] [0, 1, 2, 3, 4, 5, 6, 7, 8, 9, 10, 12, 13, 14, 15] rfl rfl (by decide) (by decide) hk1 hFc hP1 hD1
  have hK := (hK.sub (tys' := [(cK, .int), (cS, .long), (cC1, .int), (cC2, .int), (ckM, .int), (cf, .int), (cg, .int), (cO, .long)]) [0, 1, 2, 3, 4, 5, 6, 7] rfl).app hK1
  have hK : va_K (dC, dI) vwCl [(cK, .int), (cS, .long), (cC1, .int), (cC2, .int), (ckM, .int), (cf, .int), (cg, .int), (cO, .long)] s := hK
  have hP : va_P (dC, dI) vwCl [(h0, .inr (11, oX w sg ro tr gX)), (w, .inr (10, oW kd gW 0 0)), (kd, .inl (cK, 10, .inl (fun _ => 0))), (sg, .inr (7, oS w sn gS 0)), (sn, .inl (cS, 40, .inr (.inl (fun _ => 0)))), (ro, .inr (6, oR w sg cu sp gR 0 0)), (cu, .inr (8, oB c1 gB1)), (c1, .inl (cC1, 10, .inl (fun _ => 0))), (sp, .inr (8, oB c2 gB2)), (c2, .inl (cC2, 10, .inl (fun _ => 0))), (tr, .inr (9, oT w sg ro gT 0 0 0 0)), (kdM, .inl (ckM, 10, .inl (fun _ => 0))), (fa, .inl (cf, 10, .inl (fun _ => 0))), (gw, .inl (cg, 10, .inl (fun _ => 0))), (ou, .inl (cO, 1, .inr (.inl (fun _ => 0)))), (m0, .inr (12, mM kdM gw fa gM 0 0 0 0 0 0 0 0 1))] H1355 := hP
  have hD : va_D A [(h0, .inr (11, oX w sg ro tr gX)), (w, .inr (10, oW kd gW 0 0)), (kd, .inl (cK, 10, .inl (fun _ => 0))), (sg, .inr (7, oS w sn gS 0)), (sn, .inl (cS, 40, .inr (.inl (fun _ => 0)))), (ro, .inr (6, oR w sg cu sp gR 0 0)), (cu, .inr (8, oB c1 gB1)), (c1, .inl (cC1, 10, .inl (fun _ => 0))), (sp, .inr (8, oB c2 gB2)), (c2, .inl (cC2, 10, .inl (fun _ => 0))), (tr, .inr (9, oT w sg ro gT 0 0 0 0)), (kdM, .inl (ckM, 10, .inl (fun _ => 0))), (fa, .inl (cf, 10, .inl (fun _ => 0))), (gw, .inl (cg, 10, .inl (fun _ => 0))), (ou, .inl (cO, 1, .inr (.inl (fun _ => 0)))), (m0, .inr (12, mM kdM gw fa gM 0 0 0 0 0 0 0 0 1))] := hD
  subst hw
  refine lv_istore (lv' := [(6, .int 0), (5, .int 1), (4, .int 0), (3, .ref ou), (2, .ref m0), (1, .ref h0), (0, .ref b)]) hx hb dL_law_1536 hl (by decide) rfl (fun ls hl => ?_)
  refine lv_aload_n hx hb dL_law_1538 rfl (lv_at hl 4 rfl) ?_
  have hPc := hP.sub (ws' := [(m0, .inr (12, mM kdM gw fa gM 0 0 0 0 0 0 0 0 1))]) [15] rfl
  have hDc := hD.sub (ws' := [(m0, .inr (12, mM kdM gw fa gM 0 0 0 0 0 0 0 0 1))]) [15] (by decide) rfl
  have hKc := hK.sub (tys' := []) [] rfl
  have hFc := roF hS hA
  refine va_calli (va_runV (As := []) (rest := []) ⟨hx, hb, hml, hown, hts⟩ (cu_X12_thrown l dC dI H1355.size m0 kdM gw fa gM 1 0 0) (cwV 0 hts (gV u_1392 u_1393 u_1394 u_14 u_1395) rfl rfl rfl (by decide +kernel) ⟨Nat.le_of_ble_eq_true rfl, Nat.le_of_ble_eq_true rfl⟩) ⟨gP_blind, va_recv hKc hPc (ci := 12) (q0 := 0) rfl rfl, gP_call hPc hKc hDc hE⟩ rfl rfl hl.1 rfl (lv_room (Nat.le_of_ble_eq_true rfl)) dL_law_1539 ⟨(Nat.le_of_ble_eq_true rfl), (Nat.le_of_ble_eq_true rfl)⟩) hS (fun q _ h => hFc q h) hFc (fun r1359 u1357 t9 H1358 locs ht hvm hw hB hz1 hk1 hS => ?_)
  have hP := roP hP hk1
  subst hw
  refine lv_iload hx hb dL_law_1542 (lv_at hl 1 rfl) ?_
  refine lv_icmp_eq (tgt := 1549) hx hb dL_law_1544 (by decide) (fun _ => ?_) (fun h9 => absurd (by decide) h9)
  refine lv_iload hx hb dL_law_1549 (lv_at hl 1 rfl) ?_
  refine lv_if_ne (tgt := 1566) hx hb dL_law_1551 (by decide) (fun _ => ?_) (fun h9 => absurd h9 (by decide))
  refine lv_goto (tgt := 1877) hx hb dL_law_1566 (by decide) ?_
  refine W.widen (k := 600002) (n := 7302232) (Nat.le_of_ble_eq_true rfl) (Nat.le_of_ble_eq_true rfl) ?_
  exact law_tail hfl hx hb hr hml hown hts hX hbl hlocks hE hZ hA hbA hAo hL8 hS (lv_sub hl [6, 2] rfl)
set_option maxHeartbeats 8000000 in
set_option maxRecDepth 100000 in
theorem law_c20 {p : Program} {l : Launch} {e : Env} {s : State} {m : MethodId} {below : List Frame} {meth : Method} {c : Code} {dC : Nat → ClassId} {dI : Nat → Nat → Nat} {A : Nat → Prop} {b L : Nat} {xs : Nat → Int32} {h0 : Nat} {w : Nat} {kd : Nat} {cK : ClassId} {gW : Nat → Nat} {sg : Nat} {sn : Nat} {cS : ClassId} {gS : Nat → Nat} {ro : Nat} {cu : Nat} {c1 : Nat} {cC1 : ClassId} {gB1 : Nat → Nat} {sp : Nat} {c2 : Nat} {cC2 : ClassId} {gB2 : Nat → Nat} {gR : Nat → Nat} {tr : Nat} {gT : Nat → Nat} {gX : Nat → Nat} {m0 : Nat} {kdM : Nat} {ckM : ClassId} {fa : Nat} {cf : ClassId} {gw : Nat} {cg : ClassId} {gM : Nat → Nat} {ou : Nat} {cO : ClassId} (hfl : l.stackTraces = false) (hx : p.tables.exec = Jvm.exec) (hb : c.code = code) (hr : meth.sig.returnType = ret) (hml : c.maxLocals = 7) (hown : s.vm.findClass RL = some m.cls) (hts : ∀ w ∈ gU, w.before #[Value.ref b] s = true) (hX : va_X b L xs s s.heap) (hbl : b < s.heap.size) (hlocks : meth.locks = false) (hE : gEnv s) (hZ : gZ A s) (hA : ∀ q : Nat, s.heap.size ≤ q → A q) (hbA : ¬ A b) (hAo : ∀ q : Nat, A q → s.heap.size ≤ q) (hL8 : L = 8) : ∀ (H : Heap) (locs : List Loc), va_K (dC, dI) vwCl [(cK, .int), (cS, .long), (cC1, .int), (cC2, .int), (ckM, .int), (cf, .int), (cg, .int), (cO, .long)] s → va_P (dC, dI) vwCl [(h0, .inr (11, oX w sg ro tr gX)), (w, .inr (10, oW kd gW 0 0)), (kd, .inl (cK, 10, .inl (fun _ => 0))), (sg, .inr (7, oS w sn gS 0)), (sn, .inl (cS, 40, .inr (.inl (fun _ => 0)))), (ro, .inr (6, oR w sg cu sp gR 0 0)), (cu, .inr (8, oB c1 gB1)), (c1, .inl (cC1, 10, .inl (fun _ => 0))), (sp, .inr (8, oB c2 gB2)), (c2, .inl (cC2, 10, .inl (fun _ => 0))), (tr, .inr (9, oT w sg ro gT 0 0 0 0)), (m0, .inr (12, mM kdM gw fa gM 0 0 0 0 0 0 0 0 0)), (kdM, .inl (ckM, 10, .inl (fun _ => 0))), (fa, .inl (cf, 10, .inl (fun _ => 0))), (gw, .inl (cg, 10, .inl (fun _ => 0))), (ou, .inl (cO, 1, .inr (.inl (fun _ => 0))))] H → va_D A [(h0, .inr (11, oX w sg ro tr gX)), (w, .inr (10, oW kd gW 0 0)), (kd, .inl (cK, 10, .inl (fun _ => 0))), (sg, .inr (7, oS w sn gS 0)), (sn, .inl (cS, 40, .inr (.inl (fun _ => 0)))), (ro, .inr (6, oR w sg cu sp gR 0 0)), (cu, .inr (8, oB c1 gB1)), (c1, .inl (cC1, 10, .inl (fun _ => 0))), (sp, .inr (8, oB c2 gB2)), (c2, .inl (cC2, 10, .inl (fun _ => 0))), (tr, .inr (9, oT w sg ro gT 0 0 0 0)), (m0, .inr (12, mM kdM gw fa gM 0 0 0 0 0 0 0 0 0)), (kdM, .inl (ckM, 10, .inl (fun _ => 0))), (fa, .inl (cf, 10, .inl (fun _ => 0))), (gw, .inl (cg, 10, .inl (fun _ => 0))), (ou, .inl (cO, 1, .inr (.inl (fun _ => 0))))] → va_S A s.heap H locs → ∀ ls : Array Slot, lv_has ls 7 [(4, .int 0), (3, .ref ou), (2, .ref m0), (1, .ref h0), (0, .ref b)] → W p l e room_1 s m #[Value.ref b] below meth c H locs 441 44110 (lw_Z below #[Value.ref b] s) (F0 m 1569 ls []) := by
  intro H locs hK hP hD hS ls hl
  refine lv_aload_n hx hb dL_law_1569 rfl (lv_at hl 3 rfl) ?_
  refine lv_aload_n hx hb dL_law_1570 rfl (lv_at hl 4 rfl) ?_
  refine lv_iload hx hb dL_law_1571 (lv_at hl 0 rfl) ?_
  refine lv_iconst (v := 1) hx hb dL_law_1573 (by decide) ?_
  refine lv_iadd hx hb dL_law_1574 ?_
  refine lv_topi (fun z1360 ez1360 => ?_)
  obtain rfl : z1360 = 1 := ez1360.trans (by decide)
  refine va_sld hx hb hX hbl hbA hS (by rw [hL8]; unfold vp_in; decide) dL_law_1575 ?_
  refine lv_aload_n hx hb dL_law_1576 rfl (lv_at hl 4 rfl) ?_
  refine lv_iload hx hb dL_law_1577 (lv_at hl 0 rfl) ?_
  refine lv_iconst (v := 2) hx hb dL_law_1579 (by decide) ?_
  refine lv_iadd hx hb dL_law_1580 ?_
  refine lv_topi (fun z1361 ez1361 => ?_)
  obtain rfl : z1361 = 2 := ez1361.trans (by decide)
  refine va_sld hx hb hX hbl hbA hS (by rw [hL8]; unfold vp_in; decide) dL_law_1581 ?_
  refine lv_aload_n hx hb dL_law_1582 rfl (lv_at hl 1 rfl) ?_
  have hPc := hP.sub (ws' := [(h0, .inr (11, oX w sg ro tr gX)), (w, .inr (10, oW kd gW 0 0))]) [0, 1] rfl
  have hDc := hD.sub (ws' := [(h0, .inr (11, oX w sg ro tr gX)), (w, .inr (10, oW kd gW 0 0))]) [0, 1] (by decide) rfl
  have hKc := hK.sub (tys' := []) [] rfl
  have hFc := roF hS hA
  refine va_calli (vx_runSW (As := [.ref h0, .int (xs (1 : Int32).toNatClampNeg), .int (xs (2 : Int32).toNatClampNeg), .ref ou]) (rest := []) ⟨hx, hb, hml, hown, hts⟩ (c_L_reach l dC dI H.size hfl h0 ou w sg ro tr gX kd gW (xs (1 : Int32).toNatClampNeg) (xs (2 : Int32).toNatClampNeg)) (vx_cwSW 4 hts (gSt u_1091 u_1092 u_0 u_1093) rfl rfl rfl (by decide +kernel) ⟨Nat.le_of_ble_eq_true rfl, Nat.le_of_ble_eq_true rfl⟩) ⟨gPZ_blind, gPZ_call hPc hKc hDc hE hZ hS hFc⟩ rfl rfl hl.1 rfl (lv_room (Nat.le_of_ble_eq_true rfl)) dL_law_1583 ⟨(Nat.le_of_ble_eq_true rfl), (Nat.le_of_ble_eq_true rfl)⟩) hS (fun q _ h => hFc q h) hFc (fun r1364 u1362 t9 H1363 locs ht hvm hw hB hz1 hk1 hS => ?_)
  have hP := roP hP hk1
  subst hw
  refine W.widen (k := 442) (n := 44116) (Nat.le_of_ble_eq_true rfl) (Nat.le_of_ble_eq_true rfl) ?_
  refine lv_istore (lv' := [(5, .int 1), (4, .int 0), (3, .ref ou), (2, .ref m0), (1, .ref h0), (0, .ref b)]) hx hb dL_law_1586 hl (by decide) rfl (fun ls hl => ?_)
  refine lv_aload_n hx hb dL_law_1588 rfl (lv_at hl 3 rfl) ?_
  refine lv_aload_n hx hb dL_law_1589 rfl (lv_at hl 5 rfl) ?_
  refine lv_iload hx hb dL_law_1590 (lv_at hl 1 rfl) ?_
  refine lv_iconst (v := 1) hx hb dL_law_1592 (by decide) ?_
  refine lv_iadd hx hb dL_law_1593 ?_
  refine lv_topi (fun z1365 ez1365 => ?_)
  obtain rfl : z1365 = 1 := ez1365.trans (by decide)
  refine va_sld hx hb hX hbl hbA hS (by rw [hL8]; unfold vp_in; decide) dL_law_1594 ?_
  refine lv_aload_n hx hb dL_law_1595 rfl (lv_at hl 5 rfl) ?_
  refine lv_iload hx hb dL_law_1596 (lv_at hl 1 rfl) ?_
  refine lv_iconst (v := 2) hx hb dL_law_1598 (by decide) ?_
  refine lv_iadd hx hb dL_law_1599 ?_
  refine lv_topi (fun z1366 ez1366 => ?_)
  obtain rfl : z1366 = 2 := ez1366.trans (by decide)
  refine va_sld hx hb hX hbl hbA hS (by rw [hL8]; unfold vp_in; decide) dL_law_1600 ?_
  have hPc := hP.sub (ws' := [(m0, .inr (12, mM kdM gw fa gM 0 0 0 0 0 0 0 0 0))]) [11] rfl
  have hDc := hD.sub (ws' := [(m0, .inr (12, mM kdM gw fa gM 0 0 0 0 0 0 0 0 0))]) [11] (by decide) rfl
  have hKc := hK.sub (tys' := []) [] rfl
  have hFc := va_free (wc := [(m0, .inr (12, mM kdM gw fa gM 0 0 0 0 0 0 0 0 0))]) hD hS hA [11] rfl
  refine va_calli (va_runV (As := [.int (xs (1 : Int32).toNatClampNeg), .int (xs (2 : Int32).toNatClampNeg)]) (rest := []) ⟨hx, hb, hml, hown, hts⟩ (c_X12_reach l dC dI H1363.size m0 kdM gw fa gM 0 (xs (1 : Int32).toNatClampNeg) (xs (2 : Int32).toNatClampNeg)) (cwV 2 hts (gV u_1659 u_1660 u_1661 u_14 u_1662) rfl rfl rfl (by decide +kernel) ⟨Nat.le_of_ble_eq_true rfl, Nat.le_of_ble_eq_true rfl⟩) ⟨gP_blind, va_recv hKc hPc (ci := 12) (q0 := 0) rfl rfl, gP_call hPc hKc hDc hE⟩ rfl rfl hl.1 rfl (lv_room (Nat.le_of_ble_eq_true rfl)) dL_law_1601 ⟨(Nat.le_of_ble_eq_true rfl), (Nat.le_of_ble_eq_true rfl)⟩) hS (fun q _ h => hFc q h) hFc (fun r1369 u1367 t9 H1368 locs ht hvm hw hB hz1 hk1 hS => ?_)
  obtain ⟨hP1, hK1, hD1⟩ := hB
  rw [ht] at hP1
  have hK1 := va_K.moved hvm.symm hK1
  obtain ⟨hP, hD⟩ := va_join (wr := [(h0, .inr (11, oX w sg ro tr gX)), (w, .inr (10, oW kd gW 0 0)), (kd, .inl (cK, 10, .inl (fun _ => 0))), (sg, .inr (7, oS w sn gS 0)), (sn, .inl (cS, 40, .inr (.inl (fun _ => 0)))), (ro, .inr (6, oR w sg cu sp gR 0 0)), (cu, .inr (8, oB c1 gB1)), (c1, .inl (cC1, 10, .inl (fun _ => 0))), (sp, .inr (8, oB c2 gB2)), (c2, .inl (cC2, 10, .inl (fun _ => 0))), (tr, .inr (9, oT w sg ro gT 0 0 0 0)), (kdM, .inl (ckM, 10, .inl (fun _ => 0))), (fa, .inl (cf, 10, .inl (fun _ => 0))), (gw, .inl (cg, 10, .inl (fun _ => 0))), (ou, .inl (cO, 1, .inr (.inl (fun _ => 0))))]) (w1 := [(m0, .inr (12, mM kdM gw fa gM 0 0 0 0 0 0 0 0 1))]) hP hD [11] [0, 1, 2, 3, 4, 5, 6, 7, 8, 9, 10, 12, 13, 14, 15] rfl rfl (by decide) (by decide) hk1 hFc hP1 hD1
  have hK := (hK.sub (tys' := [(cK, .int), (cS, .long), (cC1, .int), (cC2, .int), (ckM, .int), (cf, .int), (cg, .int), (cO, .long)]) [0, 1, 2, 3, 4, 5, 6, 7] rfl).app hK1
  have hK : va_K (dC, dI) vwCl [(cK, .int), (cS, .long), (cC1, .int), (cC2, .int), (ckM, .int), (cf, .int), (cg, .int), (cO, .long)] s := hK
  have hP : va_P (dC, dI) vwCl [(h0, .inr (11, oX w sg ro tr gX)), (w, .inr (10, oW kd gW 0 0)), (kd, .inl (cK, 10, .inl (fun _ => 0))), (sg, .inr (7, oS w sn gS 0)), (sn, .inl (cS, 40, .inr (.inl (fun _ => 0)))), (ro, .inr (6, oR w sg cu sp gR 0 0)), (cu, .inr (8, oB c1 gB1)), (c1, .inl (cC1, 10, .inl (fun _ => 0))), (sp, .inr (8, oB c2 gB2)), (c2, .inl (cC2, 10, .inl (fun _ => 0))), (tr, .inr (9, oT w sg ro gT 0 0 0 0)), (kdM, .inl (ckM, 10, .inl (fun _ => 0))), (fa, .inl (cf, 10, .inl (fun _ => 0))), (gw, .inl (cg, 10, .inl (fun _ => 0))), (ou, .inl (cO, 1, .inr (.inl (fun _ => 0)))), (m0, .inr (12, mM kdM gw fa gM 0 0 0 0 0 0 0 0 1))] H1368 := hP
  have hD : va_D A [(h0, .inr (11, oX w sg ro tr gX)), (w, .inr (10, oW kd gW 0 0)), (kd, .inl (cK, 10, .inl (fun _ => 0))), (sg, .inr (7, oS w sn gS 0)), (sn, .inl (cS, 40, .inr (.inl (fun _ => 0)))), (ro, .inr (6, oR w sg cu sp gR 0 0)), (cu, .inr (8, oB c1 gB1)), (c1, .inl (cC1, 10, .inl (fun _ => 0))), (sp, .inr (8, oB c2 gB2)), (c2, .inl (cC2, 10, .inl (fun _ => 0))), (tr, .inr (9, oT w sg ro gT 0 0 0 0)), (kdM, .inl (ckM, 10, .inl (fun _ => 0))), (fa, .inl (cf, 10, .inl (fun _ => 0))), (gw, .inl (cg, 10, .inl (fun _ => 0))), (ou, .inl (cO, 1, .inr (.inl (fun _ => 0)))), (m0, .inr (12, mM kdM gw fa gM 0 0 0 0 0 0 0 0 1))] := hD
  subst hw
  refine lv_istore (lv' := [(6, .int 0), (5, .int 1), (4, .int 0), (3, .ref ou), (2, .ref m0), (1, .ref h0), (0, .ref b)]) hx hb dL_law_1604 hl (by decide) rfl (fun ls hl => ?_)
  refine lv_aload_n hx hb dL_law_1606 rfl (lv_at hl 4 rfl) ?_
  have hPc := hP.sub (ws' := [(m0, .inr (12, mM kdM gw fa gM 0 0 0 0 0 0 0 0 1))]) [15] rfl
  have hDc := hD.sub (ws' := [(m0, .inr (12, mM kdM gw fa gM 0 0 0 0 0 0 0 0 1))]) [15] (by decide) rfl
  have hKc := hK.sub (tys' := []) [] rfl
  have hFc := roF hS hA
  refine va_calli (va_runV (As := []) (rest := []) ⟨hx, hb, hml, hown, hts⟩ (cu_X12_thrown l dC dI H1368.size m0 kdM gw fa gM 1 0 0) (cwV 0 hts (gV u_1392 u_1393 u_1394 u_14 u_1395) rfl rfl rfl (by decide +kernel) ⟨Nat.le_of_ble_eq_true rfl, Nat.le_of_ble_eq_true rfl⟩) ⟨gP_blind, va_recv hKc hPc (ci := 12) (q0 := 0) rfl rfl, gP_call hPc hKc hDc hE⟩ rfl rfl hl.1 rfl (lv_room (Nat.le_of_ble_eq_true rfl)) dL_law_1607 ⟨(Nat.le_of_ble_eq_true rfl), (Nat.le_of_ble_eq_true rfl)⟩) hS (fun q _ h => hFc q h) hFc (fun r1372 u1370 t9 H1371 locs ht hvm hw hB hz1 hk1 hS => ?_)
  have hP := roP hP hk1
  subst hw
  refine lv_iload hx hb dL_law_1610 (lv_at hl 1 rfl) ?_
  refine lv_icmp_eq (tgt := 1617) hx hb dL_law_1612 (by decide) (fun _ => ?_) (fun h9 => absurd (by decide) h9)
  refine lv_iload hx hb dL_law_1617 (lv_at hl 1 rfl) ?_
  refine lv_if_ne (tgt := 1634) hx hb dL_law_1619 (by decide) (fun _ => ?_) (fun h9 => absurd h9 (by decide))
  refine lv_goto (tgt := 1877) hx hb dL_law_1634 (by decide) ?_
  refine W.widen (k := 600002) (n := 7302232) (Nat.le_of_ble_eq_true rfl) (Nat.le_of_ble_eq_true rfl) ?_
  exact law_tail hfl hx hb hr hml hown hts hX hbl hlocks hE hZ hA hbA hAo hL8 hS (lv_sub hl [6, 2] rfl)
set_option maxHeartbeats 8000000 in
set_option maxRecDepth 100000 in
theorem law_c21 {p : Program} {l : Launch} {e : Env} {s : State} {m : MethodId} {below : List Frame} {meth : Method} {c : Code} {dC : Nat → ClassId} {dI : Nat → Nat → Nat} {A : Nat → Prop} {b L : Nat} {xs : Nat → Int32} {h0 : Nat} {w : Nat} {kd : Nat} {cK : ClassId} {gW : Nat → Nat} {sg : Nat} {sn : Nat} {cS : ClassId} {gS : Nat → Nat} {ro : Nat} {cu : Nat} {c1 : Nat} {cC1 : ClassId} {gB1 : Nat → Nat} {sp : Nat} {c2 : Nat} {cC2 : ClassId} {gB2 : Nat → Nat} {gR : Nat → Nat} {tr : Nat} {gT : Nat → Nat} {gX : Nat → Nat} {m0 : Nat} {kdM : Nat} {ckM : ClassId} {fa : Nat} {cf : ClassId} {gw : Nat} {cg : ClassId} {gM : Nat → Nat} {ou : Nat} {cO : ClassId} (hfl : l.stackTraces = false) (hx : p.tables.exec = Jvm.exec) (hb : c.code = code) (hr : meth.sig.returnType = ret) (hml : c.maxLocals = 7) (hown : s.vm.findClass RL = some m.cls) (hts : ∀ w ∈ gU, w.before #[Value.ref b] s = true) (hX : va_X b L xs s s.heap) (hbl : b < s.heap.size) (hlocks : meth.locks = false) (hE : gEnv s) (hZ : gZ A s) (hA : ∀ q : Nat, s.heap.size ≤ q → A q) (hbA : ¬ A b) (hAo : ∀ q : Nat, A q → s.heap.size ≤ q) (hL8 : L = 8) : ∀ (H : Heap) (locs : List Loc), va_K (dC, dI) vwCl [(cK, .int), (cS, .long), (cC1, .int), (cC2, .int), (ckM, .int), (cf, .int), (cg, .int), (cO, .long)] s → va_P (dC, dI) vwCl [(h0, .inr (11, oX w sg ro tr gX)), (w, .inr (10, oW kd gW 0 0)), (kd, .inl (cK, 10, .inl (fun _ => 0))), (sg, .inr (7, oS w sn gS 0)), (sn, .inl (cS, 40, .inr (.inl (fun _ => 0)))), (ro, .inr (6, oR w sg cu sp gR 0 0)), (cu, .inr (8, oB c1 gB1)), (c1, .inl (cC1, 10, .inl (fun _ => 0))), (sp, .inr (8, oB c2 gB2)), (c2, .inl (cC2, 10, .inl (fun _ => 0))), (tr, .inr (9, oT w sg ro gT 0 0 0 0)), (m0, .inr (12, mM kdM gw fa gM 0 0 0 0 0 0 0 0 0)), (kdM, .inl (ckM, 10, .inl (fun _ => 0))), (fa, .inl (cf, 10, .inl (fun _ => 0))), (gw, .inl (cg, 10, .inl (fun _ => 0))), (ou, .inl (cO, 1, .inr (.inl (fun _ => 0))))] H → va_D A [(h0, .inr (11, oX w sg ro tr gX)), (w, .inr (10, oW kd gW 0 0)), (kd, .inl (cK, 10, .inl (fun _ => 0))), (sg, .inr (7, oS w sn gS 0)), (sn, .inl (cS, 40, .inr (.inl (fun _ => 0)))), (ro, .inr (6, oR w sg cu sp gR 0 0)), (cu, .inr (8, oB c1 gB1)), (c1, .inl (cC1, 10, .inl (fun _ => 0))), (sp, .inr (8, oB c2 gB2)), (c2, .inl (cC2, 10, .inl (fun _ => 0))), (tr, .inr (9, oT w sg ro gT 0 0 0 0)), (m0, .inr (12, mM kdM gw fa gM 0 0 0 0 0 0 0 0 0)), (kdM, .inl (ckM, 10, .inl (fun _ => 0))), (fa, .inl (cf, 10, .inl (fun _ => 0))), (gw, .inl (cg, 10, .inl (fun _ => 0))), (ou, .inl (cO, 1, .inr (.inl (fun _ => 0))))] → va_S A s.heap H locs → ∀ ls : Array Slot, lv_has ls 7 [(4, .int 0), (3, .ref ou), (2, .ref m0), (1, .ref h0), (0, .ref b)] → W p l e room_1 s m #[Value.ref b] below meth c H locs 441 44110 (lw_Z below #[Value.ref b] s) (F0 m 1637 ls []) := by
  intro H locs hK hP hD hS ls hl
  refine lv_aload_n hx hb dL_law_1637 rfl (lv_at hl 3 rfl) ?_
  refine lv_aload_n hx hb dL_law_1638 rfl (lv_at hl 4 rfl) ?_
  refine lv_iload hx hb dL_law_1639 (lv_at hl 0 rfl) ?_
  refine lv_iconst (v := 1) hx hb dL_law_1641 (by decide) ?_
  refine lv_iadd hx hb dL_law_1642 ?_
  refine lv_topi (fun z1373 ez1373 => ?_)
  obtain rfl : z1373 = 1 := ez1373.trans (by decide)
  refine va_sld hx hb hX hbl hbA hS (by rw [hL8]; unfold vp_in; decide) dL_law_1643 ?_
  refine lv_aload_n hx hb dL_law_1644 rfl (lv_at hl 4 rfl) ?_
  refine lv_iload hx hb dL_law_1645 (lv_at hl 0 rfl) ?_
  refine lv_iconst (v := 2) hx hb dL_law_1647 (by decide) ?_
  refine lv_iadd hx hb dL_law_1648 ?_
  refine lv_topi (fun z1374 ez1374 => ?_)
  obtain rfl : z1374 = 2 := ez1374.trans (by decide)
  refine va_sld hx hb hX hbl hbA hS (by rw [hL8]; unfold vp_in; decide) dL_law_1649 ?_
  refine lv_aload_n hx hb dL_law_1650 rfl (lv_at hl 1 rfl) ?_
  have hPc := hP.sub (ws' := [(h0, .inr (11, oX w sg ro tr gX)), (w, .inr (10, oW kd gW 0 0))]) [0, 1] rfl
  have hDc := hD.sub (ws' := [(h0, .inr (11, oX w sg ro tr gX)), (w, .inr (10, oW kd gW 0 0))]) [0, 1] (by decide) rfl
  have hKc := hK.sub (tys' := []) [] rfl
  have hFc := roF hS hA
  refine va_calli (vx_runSW (As := [.ref h0, .int (xs (1 : Int32).toNatClampNeg), .int (xs (2 : Int32).toNatClampNeg), .ref ou]) (rest := []) ⟨hx, hb, hml, hown, hts⟩ (c_L_reachAnew l dC dI H.size hfl h0 ou w sg ro tr gX kd gW (xs (1 : Int32).toNatClampNeg) (xs (2 : Int32).toNatClampNeg)) (vx_cwSW 4 hts (gSt u_1201 u_1202 u_0 u_1203) rfl rfl rfl (by decide +kernel) ⟨Nat.le_of_ble_eq_true rfl, Nat.le_of_ble_eq_true rfl⟩) ⟨gPZ_blind, gPZ_call hPc hKc hDc hE hZ hS hFc⟩ rfl rfl hl.1 rfl (lv_room (Nat.le_of_ble_eq_true rfl)) dL_law_1651 ⟨(Nat.le_of_ble_eq_true rfl), (Nat.le_of_ble_eq_true rfl)⟩) hS (fun q _ h => hFc q h) hFc (fun r1377 u1375 t9 H1376 locs ht hvm hw hB hz1 hk1 hS => ?_)
  have hP := roP hP hk1
  subst hw
  refine W.widen (k := 442) (n := 44116) (Nat.le_of_ble_eq_true rfl) (Nat.le_of_ble_eq_true rfl) ?_
  refine lv_istore (lv' := [(5, .int 1), (4, .int 0), (3, .ref ou), (2, .ref m0), (1, .ref h0), (0, .ref b)]) hx hb dL_law_1654 hl (by decide) rfl (fun ls hl => ?_)
  refine lv_aload_n hx hb dL_law_1656 rfl (lv_at hl 3 rfl) ?_
  refine lv_aload_n hx hb dL_law_1657 rfl (lv_at hl 5 rfl) ?_
  refine lv_iload hx hb dL_law_1658 (lv_at hl 1 rfl) ?_
  refine lv_iconst (v := 1) hx hb dL_law_1660 (by decide) ?_
  refine lv_iadd hx hb dL_law_1661 ?_
  refine lv_topi (fun z1378 ez1378 => ?_)
  obtain rfl : z1378 = 1 := ez1378.trans (by decide)
  refine va_sld hx hb hX hbl hbA hS (by rw [hL8]; unfold vp_in; decide) dL_law_1662 ?_
  refine lv_aload_n hx hb dL_law_1663 rfl (lv_at hl 5 rfl) ?_
  refine lv_iload hx hb dL_law_1664 (lv_at hl 1 rfl) ?_
  refine lv_iconst (v := 2) hx hb dL_law_1666 (by decide) ?_
  refine lv_iadd hx hb dL_law_1667 ?_
  refine lv_topi (fun z1379 ez1379 => ?_)
  obtain rfl : z1379 = 2 := ez1379.trans (by decide)
  refine va_sld hx hb hX hbl hbA hS (by rw [hL8]; unfold vp_in; decide) dL_law_1668 ?_
  have hPc := hP.sub (ws' := [(m0, .inr (12, mM kdM gw fa gM 0 0 0 0 0 0 0 0 0))]) [11] rfl
  have hDc := hD.sub (ws' := [(m0, .inr (12, mM kdM gw fa gM 0 0 0 0 0 0 0 0 0))]) [11] (by decide) rfl
  have hKc := hK.sub (tys' := []) [] rfl
  have hFc := va_free (wc := [(m0, .inr (12, mM kdM gw fa gM 0 0 0 0 0 0 0 0 0))]) hD hS hA [11] rfl
  refine va_calli (va_runV (As := [.int (xs (1 : Int32).toNatClampNeg), .int (xs (2 : Int32).toNatClampNeg)]) (rest := []) ⟨hx, hb, hml, hown, hts⟩ (c_X12_reachAnew l dC dI H1376.size m0 kdM gw fa gM 0 (xs (1 : Int32).toNatClampNeg) (xs (2 : Int32).toNatClampNeg)) (cwV 2 hts (gV u_1675 u_1676 u_1677 u_14 u_1678) rfl rfl rfl (by decide +kernel) ⟨Nat.le_of_ble_eq_true rfl, Nat.le_of_ble_eq_true rfl⟩) ⟨gP_blind, va_recv hKc hPc (ci := 12) (q0 := 0) rfl rfl, gP_call hPc hKc hDc hE⟩ rfl rfl hl.1 rfl (lv_room (Nat.le_of_ble_eq_true rfl)) dL_law_1669 ⟨(Nat.le_of_ble_eq_true rfl), (Nat.le_of_ble_eq_true rfl)⟩) hS (fun q _ h => hFc q h) hFc (fun r1382 u1380 t9 H1381 locs ht hvm hw hB hz1 hk1 hS => ?_)
  obtain ⟨hP1, hK1, hD1⟩ := hB
  rw [ht] at hP1
  have hK1 := va_K.moved hvm.symm hK1
  obtain ⟨hP, hD⟩ := va_join (wr := [(h0, .inr (11, oX w sg ro tr gX)), (w, .inr (10, oW kd gW 0 0)), (kd, .inl (cK, 10, .inl (fun _ => 0))), (sg, .inr (7, oS w sn gS 0)), (sn, .inl (cS, 40, .inr (.inl (fun _ => 0)))), (ro, .inr (6, oR w sg cu sp gR 0 0)), (cu, .inr (8, oB c1 gB1)), (c1, .inl (cC1, 10, .inl (fun _ => 0))), (sp, .inr (8, oB c2 gB2)), (c2, .inl (cC2, 10, .inl (fun _ => 0))), (tr, .inr (9, oT w sg ro gT 0 0 0 0)), (kdM, .inl (ckM, 10, .inl (fun _ => 0))), (fa, .inl (cf, 10, .inl (fun _ => 0))), (gw, .inl (cg, 10, .inl (fun _ => 0))), (ou, .inl (cO, 1, .inr (.inl (fun _ => 0))))]) (w1 := [(m0, .inr (12, mM kdM gw fa gM 0 0 0 0 0 0 0 0 1))]) hP hD [11] [0, 1, 2, 3, 4, 5, 6, 7, 8, 9, 10, 12, 13, 14, 15] rfl rfl (by decide) (by decide) hk1 hFc hP1 hD1
  have hK := (hK.sub (tys' := [(cK, .int), (cS, .long), (cC1, .int), (cC2, .int), (ckM, .int), (cf, .int), (cg, .int), (cO, .long)]) [0, 1, 2, 3, 4, 5, 6, 7] rfl).app hK1
  have hK : va_K (dC, dI) vwCl [(cK, .int), (cS, .long), (cC1, .int), (cC2, .int), (ckM, .int), (cf, .int), (cg, .int), (cO, .long)] s := hK
  have hP : va_P (dC, dI) vwCl [(h0, .inr (11, oX w sg ro tr gX)), (w, .inr (10, oW kd gW 0 0)), (kd, .inl (cK, 10, .inl (fun _ => 0))), (sg, .inr (7, oS w sn gS 0)), (sn, .inl (cS, 40, .inr (.inl (fun _ => 0)))), (ro, .inr (6, oR w sg cu sp gR 0 0)), (cu, .inr (8, oB c1 gB1)), (c1, .inl (cC1, 10, .inl (fun _ => 0))), (sp, .inr (8, oB c2 gB2)), (c2, .inl (cC2, 10, .inl (fun _ => 0))), (tr, .inr (9, oT w sg ro gT 0 0 0 0)), (kdM, .inl (ckM, 10, .inl (fun _ => 0))), (fa, .inl (cf, 10, .inl (fun _ => 0))), (gw, .inl (cg, 10, .inl (fun _ => 0))), (ou, .inl (cO, 1, .inr (.inl (fun _ => 0)))), (m0, .inr (12, mM kdM gw fa gM 0 0 0 0 0 0 0 0 1))] H1381 := hP
  have hD : va_D A [(h0, .inr (11, oX w sg ro tr gX)), (w, .inr (10, oW kd gW 0 0)), (kd, .inl (cK, 10, .inl (fun _ => 0))), (sg, .inr (7, oS w sn gS 0)), (sn, .inl (cS, 40, .inr (.inl (fun _ => 0)))), (ro, .inr (6, oR w sg cu sp gR 0 0)), (cu, .inr (8, oB c1 gB1)), (c1, .inl (cC1, 10, .inl (fun _ => 0))), (sp, .inr (8, oB c2 gB2)), (c2, .inl (cC2, 10, .inl (fun _ => 0))), (tr, .inr (9, oT w sg ro gT 0 0 0 0)), (kdM, .inl (ckM, 10, .inl (fun _ => 0))), (fa, .inl (cf, 10, .inl (fun _ => 0))), (gw, .inl (cg, 10, .inl (fun _ => 0))), (ou, .inl (cO, 1, .inr (.inl (fun _ => 0)))), (m0, .inr (12, mM kdM gw fa gM 0 0 0 0 0 0 0 0 1))] := hD
  subst hw
  refine lv_istore (lv' := [(6, .int 0), (5, .int 1), (4, .int 0), (3, .ref ou), (2, .ref m0), (1, .ref h0), (0, .ref b)]) hx hb dL_law_1672 hl (by decide) rfl (fun ls hl => ?_)
  refine lv_aload_n hx hb dL_law_1674 rfl (lv_at hl 4 rfl) ?_
  have hPc := hP.sub (ws' := [(m0, .inr (12, mM kdM gw fa gM 0 0 0 0 0 0 0 0 1))]) [15] rfl
  have hDc := hD.sub (ws' := [(m0, .inr (12, mM kdM gw fa gM 0 0 0 0 0 0 0 0 1))]) [15] (by decide) rfl
  have hKc := hK.sub (tys' := []) [] rfl
  have hFc := roF hS hA
  refine va_calli (va_runV (As := []) (rest := []) ⟨hx, hb, hml, hown, hts⟩ (cu_X12_thrown l dC dI H1381.size m0 kdM gw fa gM 1 0 0) (cwV 0 hts (gV u_1392 u_1393 u_1394 u_14 u_1395) rfl rfl rfl (by decide +kernel) ⟨Nat.le_of_ble_eq_true rfl, Nat.le_of_ble_eq_true rfl⟩) ⟨gP_blind, va_recv hKc hPc (ci := 12) (q0 := 0) rfl rfl, gP_call hPc hKc hDc hE⟩ rfl rfl hl.1 rfl (lv_room (Nat.le_of_ble_eq_true rfl)) dL_law_1675 ⟨(Nat.le_of_ble_eq_true rfl), (Nat.le_of_ble_eq_true rfl)⟩) hS (fun q _ h => hFc q h) hFc (fun r1385 u1383 t9 H1384 locs ht hvm hw hB hz1 hk1 hS => ?_)
  have hP := roP hP hk1
  subst hw
  refine lv_iload hx hb dL_law_1678 (lv_at hl 1 rfl) ?_
  refine lv_icmp_eq (tgt := 1685) hx hb dL_law_1680 (by decide) (fun _ => ?_) (fun h9 => absurd (by decide) h9)
  refine lv_iload hx hb dL_law_1685 (lv_at hl 1 rfl) ?_
  refine lv_if_ne (tgt := 1702) hx hb dL_law_1687 (by decide) (fun _ => ?_) (fun h9 => absurd h9 (by decide))
  refine lv_goto (tgt := 1877) hx hb dL_law_1702 (by decide) ?_
  refine W.widen (k := 600002) (n := 7302232) (Nat.le_of_ble_eq_true rfl) (Nat.le_of_ble_eq_true rfl) ?_
  exact law_tail hfl hx hb hr hml hown hts hX hbl hlocks hE hZ hA hbA hAo hL8 hS (lv_sub hl [6, 2] rfl)
set_option maxHeartbeats 8000000 in
set_option maxRecDepth 100000 in
theorem law_c22 {p : Program} {l : Launch} {e : Env} {s : State} {m : MethodId} {below : List Frame} {meth : Method} {c : Code} {dC : Nat → ClassId} {dI : Nat → Nat → Nat} {A : Nat → Prop} {b L : Nat} {xs : Nat → Int32} {h0 : Nat} {w : Nat} {kd : Nat} {cK : ClassId} {gW : Nat → Nat} {sg : Nat} {sn : Nat} {cS : ClassId} {gS : Nat → Nat} {ro : Nat} {cu : Nat} {c1 : Nat} {cC1 : ClassId} {gB1 : Nat → Nat} {sp : Nat} {c2 : Nat} {cC2 : ClassId} {gB2 : Nat → Nat} {gR : Nat → Nat} {tr : Nat} {gT : Nat → Nat} {gX : Nat → Nat} {m0 : Nat} {kdM : Nat} {ckM : ClassId} {fa : Nat} {cf : ClassId} {gw : Nat} {cg : ClassId} {gM : Nat → Nat} {ou : Nat} {cO : ClassId} (hfl : l.stackTraces = false) (hx : p.tables.exec = Jvm.exec) (hb : c.code = code) (hr : meth.sig.returnType = ret) (hml : c.maxLocals = 7) (hown : s.vm.findClass RL = some m.cls) (hts : ∀ w ∈ gU, w.before #[Value.ref b] s = true) (hX : va_X b L xs s s.heap) (hbl : b < s.heap.size) (hlocks : meth.locks = false) (hE : gEnv s) (hZ : gZ A s) (hA : ∀ q : Nat, s.heap.size ≤ q → A q) (hbA : ¬ A b) (hAo : ∀ q : Nat, A q → s.heap.size ≤ q) (hL8 : L = 8) : ∀ (H : Heap) (locs : List Loc), va_K (dC, dI) vwCl [(cK, .int), (cS, .long), (cC1, .int), (cC2, .int), (ckM, .int), (cf, .int), (cg, .int), (cO, .long)] s → va_P (dC, dI) vwCl [(h0, .inr (11, oX w sg ro tr gX)), (w, .inr (10, oW kd gW 0 0)), (kd, .inl (cK, 10, .inl (fun _ => 0))), (sg, .inr (7, oS w sn gS 0)), (sn, .inl (cS, 40, .inr (.inl (fun _ => 0)))), (ro, .inr (6, oR w sg cu sp gR 0 0)), (cu, .inr (8, oB c1 gB1)), (c1, .inl (cC1, 10, .inl (fun _ => 0))), (sp, .inr (8, oB c2 gB2)), (c2, .inl (cC2, 10, .inl (fun _ => 0))), (tr, .inr (9, oT w sg ro gT 0 0 0 0)), (m0, .inr (12, mM kdM gw fa gM 0 0 0 0 0 0 0 0 0)), (kdM, .inl (ckM, 10, .inl (fun _ => 0))), (fa, .inl (cf, 10, .inl (fun _ => 0))), (gw, .inl (cg, 10, .inl (fun _ => 0))), (ou, .inl (cO, 1, .inr (.inl (fun _ => 0))))] H → va_D A [(h0, .inr (11, oX w sg ro tr gX)), (w, .inr (10, oW kd gW 0 0)), (kd, .inl (cK, 10, .inl (fun _ => 0))), (sg, .inr (7, oS w sn gS 0)), (sn, .inl (cS, 40, .inr (.inl (fun _ => 0)))), (ro, .inr (6, oR w sg cu sp gR 0 0)), (cu, .inr (8, oB c1 gB1)), (c1, .inl (cC1, 10, .inl (fun _ => 0))), (sp, .inr (8, oB c2 gB2)), (c2, .inl (cC2, 10, .inl (fun _ => 0))), (tr, .inr (9, oT w sg ro gT 0 0 0 0)), (m0, .inr (12, mM kdM gw fa gM 0 0 0 0 0 0 0 0 0)), (kdM, .inl (ckM, 10, .inl (fun _ => 0))), (fa, .inl (cf, 10, .inl (fun _ => 0))), (gw, .inl (cg, 10, .inl (fun _ => 0))), (ou, .inl (cO, 1, .inr (.inl (fun _ => 0))))] → va_S A s.heap H locs → ∀ ls : Array Slot, lv_has ls 7 [(4, .int 0), (3, .ref ou), (2, .ref m0), (1, .ref h0), (0, .ref b)] → W p l e room_1 s m #[Value.ref b] below meth c H locs 441 44110 (lw_Z below #[Value.ref b] s) (F0 m 1705 ls []) := by
  intro H locs hK hP hD hS ls hl
  refine lv_aload_n hx hb dL_law_1705 rfl (lv_at hl 3 rfl) ?_
  refine lv_aload_n hx hb dL_law_1706 rfl (lv_at hl 4 rfl) ?_
  refine lv_iload hx hb dL_law_1707 (lv_at hl 0 rfl) ?_
  refine lv_iconst (v := 1) hx hb dL_law_1709 (by decide) ?_
  refine lv_iadd hx hb dL_law_1710 ?_
  refine lv_topi (fun z1386 ez1386 => ?_)
  obtain rfl : z1386 = 1 := ez1386.trans (by decide)
  refine va_sld hx hb hX hbl hbA hS (by rw [hL8]; unfold vp_in; decide) dL_law_1711 ?_
  refine lv_aload_n hx hb dL_law_1712 rfl (lv_at hl 4 rfl) ?_
  refine lv_iload hx hb dL_law_1713 (lv_at hl 0 rfl) ?_
  refine lv_iconst (v := 2) hx hb dL_law_1715 (by decide) ?_
  refine lv_iadd hx hb dL_law_1716 ?_
  refine lv_topi (fun z1387 ez1387 => ?_)
  obtain rfl : z1387 = 2 := ez1387.trans (by decide)
  refine va_sld hx hb hX hbl hbA hS (by rw [hL8]; unfold vp_in; decide) dL_law_1717 ?_
  refine lv_aload_n hx hb dL_law_1718 rfl (lv_at hl 4 rfl) ?_
  refine lv_iload hx hb dL_law_1719 (lv_at hl 0 rfl) ?_
  refine lv_iconst (v := 3) hx hb dL_law_1721 (by decide) ?_
  refine lv_iadd hx hb dL_law_1722 ?_
  refine lv_topi (fun z1388 ez1388 => ?_)
  obtain rfl : z1388 = 3 := ez1388.trans (by decide)
  refine va_sld hx hb hX hbl hbA hS (by rw [hL8]; unfold vp_in; decide) dL_law_1723 ?_
  refine lv_aload_n hx hb dL_law_1724 rfl (lv_at hl 1 rfl) ?_
  have hPc := hP.sub (ws' := [(h0, .inr (11, oX w sg ro tr gX)), (w, .inr (10, oW kd gW 0 0))]) [0, 1] rfl
  have hDc := hD.sub (ws' := [(h0, .inr (11, oX w sg ro tr gX)), (w, .inr (10, oW kd gW 0 0))]) [0, 1] (by decide) rfl
  have hKc := hK.sub (tys' := []) [] rfl
  have hFc := roF hS hA
  refine va_calli (vx_runSW (As := [.ref h0, .int (xs (1 : Int32).toNatClampNeg), .int (xs (2 : Int32).toNatClampNeg), .int (xs (3 : Int32).toNatClampNeg), .ref ou]) (rest := []) ⟨hx, hb, hml, hown, hts⟩ (c_L_proved l dC dI H.size hfl h0 ou w sg ro tr gX kd gW (xs (1 : Int32).toNatClampNeg) (xs (2 : Int32).toNatClampNeg) (xs (3 : Int32).toNatClampNeg)) (vx_cwSW 5 hts (gSt u_1224 u_1225 u_0 u_1226) rfl rfl rfl (by decide +kernel) ⟨Nat.le_of_ble_eq_true rfl, Nat.le_of_ble_eq_true rfl⟩) ⟨gPZ_blind, gPZ_call hPc hKc hDc hE hZ hS hFc⟩ rfl rfl hl.1 rfl (lv_room (Nat.le_of_ble_eq_true rfl)) dL_law_1725 ⟨(Nat.le_of_ble_eq_true rfl), (Nat.le_of_ble_eq_true rfl)⟩) hS (fun q _ h => hFc q h) hFc (fun r1391 u1389 t9 H1390 locs ht hvm hw hB hz1 hk1 hS => ?_)
  have hP := roP hP hk1
  subst hw
  refine W.widen (k := 442) (n := 44116) (Nat.le_of_ble_eq_true rfl) (Nat.le_of_ble_eq_true rfl) ?_
  refine lv_istore (lv' := [(5, .int 1), (4, .int 0), (3, .ref ou), (2, .ref m0), (1, .ref h0), (0, .ref b)]) hx hb dL_law_1728 hl (by decide) rfl (fun ls hl => ?_)
  refine lv_aload_n hx hb dL_law_1730 rfl (lv_at hl 3 rfl) ?_
  refine lv_aload_n hx hb dL_law_1731 rfl (lv_at hl 5 rfl) ?_
  refine lv_iload hx hb dL_law_1732 (lv_at hl 1 rfl) ?_
  refine lv_iconst (v := 1) hx hb dL_law_1734 (by decide) ?_
  refine lv_iadd hx hb dL_law_1735 ?_
  refine lv_topi (fun z1392 ez1392 => ?_)
  obtain rfl : z1392 = 1 := ez1392.trans (by decide)
  refine va_sld hx hb hX hbl hbA hS (by rw [hL8]; unfold vp_in; decide) dL_law_1736 ?_
  refine lv_aload_n hx hb dL_law_1737 rfl (lv_at hl 5 rfl) ?_
  refine lv_iload hx hb dL_law_1738 (lv_at hl 1 rfl) ?_
  refine lv_iconst (v := 2) hx hb dL_law_1740 (by decide) ?_
  refine lv_iadd hx hb dL_law_1741 ?_
  refine lv_topi (fun z1393 ez1393 => ?_)
  obtain rfl : z1393 = 2 := ez1393.trans (by decide)
  refine va_sld hx hb hX hbl hbA hS (by rw [hL8]; unfold vp_in; decide) dL_law_1742 ?_
  refine lv_aload_n hx hb dL_law_1743 rfl (lv_at hl 5 rfl) ?_
  refine lv_iload hx hb dL_law_1744 (lv_at hl 1 rfl) ?_
  refine lv_iconst (v := 3) hx hb dL_law_1746 (by decide) ?_
  refine lv_iadd hx hb dL_law_1747 ?_
  refine lv_topi (fun z1394 ez1394 => ?_)
  obtain rfl : z1394 = 3 := ez1394.trans (by decide)
  refine va_sld hx hb hX hbl hbA hS (by rw [hL8]; unfold vp_in; decide) dL_law_1748 ?_
  have hPc := hP.sub (ws' := [(m0, .inr (12, mM kdM gw fa gM 0 0 0 0 0 0 0 0 0))]) [11] rfl
  have hDc := hD.sub (ws' := [(m0, .inr (12, mM kdM gw fa gM 0 0 0 0 0 0 0 0 0))]) [11] (by decide) rfl
  have hKc := hK.sub (tys' := []) [] rfl
  have hFc := va_free (wc := [(m0, .inr (12, mM kdM gw fa gM 0 0 0 0 0 0 0 0 0))]) hD hS hA [11] rfl
  refine va_calli (va_runV (As := [.int (xs (1 : Int32).toNatClampNeg), .int (xs (2 : Int32).toNatClampNeg), .int (xs (3 : Int32).toNatClampNeg)]) (rest := []) ⟨hx, hb, hml, hown, hts⟩ (c_X12_proved l dC dI H1390.size m0 kdM gw fa gM 0 (xs (1 : Int32).toNatClampNeg) (xs (2 : Int32).toNatClampNeg) (xs (3 : Int32).toNatClampNeg)) (cwV 3 hts (gV u_1679 u_1680 u_1681 u_14 u_1682) rfl rfl rfl (by decide +kernel) ⟨Nat.le_of_ble_eq_true rfl, Nat.le_of_ble_eq_true rfl⟩) ⟨gP_blind, va_recv hKc hPc (ci := 12) (q0 := 0) rfl rfl, gP_call hPc hKc hDc hE⟩ rfl rfl hl.1 rfl (lv_room (Nat.le_of_ble_eq_true rfl)) dL_law_1749 ⟨(Nat.le_of_ble_eq_true rfl), (Nat.le_of_ble_eq_true rfl)⟩) hS (fun q _ h => hFc q h) hFc (fun r1397 u1395 t9 H1396 locs ht hvm hw hB hz1 hk1 hS => ?_)
  obtain ⟨hP1, hK1, hD1⟩ := hB
  rw [ht] at hP1
  have hK1 := va_K.moved hvm.symm hK1
  obtain ⟨hP, hD⟩ := va_join (wr := [(h0, .inr (11, oX w sg ro tr gX)), (w, .inr (10, oW kd gW 0 0)), (kd, .inl (cK, 10, .inl (fun _ => 0))), (sg, .inr (7, oS w sn gS 0)), (sn, .inl (cS, 40, .inr (.inl (fun _ => 0)))), (ro, .inr (6, oR w sg cu sp gR 0 0)), (cu, .inr (8, oB c1 gB1)), (c1, .inl (cC1, 10, .inl (fun _ => 0))), (sp, .inr (8, oB c2 gB2)), (c2, .inl (cC2, 10, .inl (fun _ => 0))), (tr, .inr (9, oT w sg ro gT 0 0 0 0)), (kdM, .inl (ckM, 10, .inl (fun _ => 0))), (fa, .inl (cf, 10, .inl (fun _ => 0))), (gw, .inl (cg, 10, .inl (fun _ => 0))), (ou, .inl (cO, 1, .inr (.inl (fun _ => 0))))]) (w1 := [(m0, .inr (12, mM kdM gw fa gM 0 0 0 0 0 0 0 0 1))]) hP hD [11] [0, 1, 2, 3, 4, 5, 6, 7, 8, 9, 10, 12, 13, 14, 15] rfl rfl (by decide) (by decide) hk1 hFc hP1 hD1
  have hK := (hK.sub (tys' := [(cK, .int), (cS, .long), (cC1, .int), (cC2, .int), (ckM, .int), (cf, .int), (cg, .int), (cO, .long)]) [0, 1, 2, 3, 4, 5, 6, 7] rfl).app hK1
  have hK : va_K (dC, dI) vwCl [(cK, .int), (cS, .long), (cC1, .int), (cC2, .int), (ckM, .int), (cf, .int), (cg, .int), (cO, .long)] s := hK
  have hP : va_P (dC, dI) vwCl [(h0, .inr (11, oX w sg ro tr gX)), (w, .inr (10, oW kd gW 0 0)), (kd, .inl (cK, 10, .inl (fun _ => 0))), (sg, .inr (7, oS w sn gS 0)), (sn, .inl (cS, 40, .inr (.inl (fun _ => 0)))), (ro, .inr (6, oR w sg cu sp gR 0 0)), (cu, .inr (8, oB c1 gB1)), (c1, .inl (cC1, 10, .inl (fun _ => 0))), (sp, .inr (8, oB c2 gB2)), (c2, .inl (cC2, 10, .inl (fun _ => 0))), (tr, .inr (9, oT w sg ro gT 0 0 0 0)), (kdM, .inl (ckM, 10, .inl (fun _ => 0))), (fa, .inl (cf, 10, .inl (fun _ => 0))), (gw, .inl (cg, 10, .inl (fun _ => 0))), (ou, .inl (cO, 1, .inr (.inl (fun _ => 0)))), (m0, .inr (12, mM kdM gw fa gM 0 0 0 0 0 0 0 0 1))] H1396 := hP
  have hD : va_D A [(h0, .inr (11, oX w sg ro tr gX)), (w, .inr (10, oW kd gW 0 0)), (kd, .inl (cK, 10, .inl (fun _ => 0))), (sg, .inr (7, oS w sn gS 0)), (sn, .inl (cS, 40, .inr (.inl (fun _ => 0)))), (ro, .inr (6, oR w sg cu sp gR 0 0)), (cu, .inr (8, oB c1 gB1)), (c1, .inl (cC1, 10, .inl (fun _ => 0))), (sp, .inr (8, oB c2 gB2)), (c2, .inl (cC2, 10, .inl (fun _ => 0))), (tr, .inr (9, oT w sg ro gT 0 0 0 0)), (kdM, .inl (ckM, 10, .inl (fun _ => 0))), (fa, .inl (cf, 10, .inl (fun _ => 0))), (gw, .inl (cg, 10, .inl (fun _ => 0))), (ou, .inl (cO, 1, .inr (.inl (fun _ => 0)))), (m0, .inr (12, mM kdM gw fa gM 0 0 0 0 0 0 0 0 1))] := hD
  subst hw
  refine lv_istore (lv' := [(6, .int 0), (5, .int 1), (4, .int 0), (3, .ref ou), (2, .ref m0), (1, .ref h0), (0, .ref b)]) hx hb dL_law_1752 hl (by decide) rfl (fun ls hl => ?_)
  refine lv_aload_n hx hb dL_law_1754 rfl (lv_at hl 4 rfl) ?_
  have hPc := hP.sub (ws' := [(m0, .inr (12, mM kdM gw fa gM 0 0 0 0 0 0 0 0 1))]) [15] rfl
  have hDc := hD.sub (ws' := [(m0, .inr (12, mM kdM gw fa gM 0 0 0 0 0 0 0 0 1))]) [15] (by decide) rfl
  have hKc := hK.sub (tys' := []) [] rfl
  have hFc := roF hS hA
  refine va_calli (va_runV (As := []) (rest := []) ⟨hx, hb, hml, hown, hts⟩ (cu_X12_thrown l dC dI H1396.size m0 kdM gw fa gM 1 0 0) (cwV 0 hts (gV u_1392 u_1393 u_1394 u_14 u_1395) rfl rfl rfl (by decide +kernel) ⟨Nat.le_of_ble_eq_true rfl, Nat.le_of_ble_eq_true rfl⟩) ⟨gP_blind, va_recv hKc hPc (ci := 12) (q0 := 0) rfl rfl, gP_call hPc hKc hDc hE⟩ rfl rfl hl.1 rfl (lv_room (Nat.le_of_ble_eq_true rfl)) dL_law_1755 ⟨(Nat.le_of_ble_eq_true rfl), (Nat.le_of_ble_eq_true rfl)⟩) hS (fun q _ h => hFc q h) hFc (fun r1400 u1398 t9 H1399 locs ht hvm hw hB hz1 hk1 hS => ?_)
  have hP := roP hP hk1
  subst hw
  refine lv_iload hx hb dL_law_1758 (lv_at hl 1 rfl) ?_
  refine lv_icmp_eq (tgt := 1765) hx hb dL_law_1760 (by decide) (fun _ => ?_) (fun h9 => absurd (by decide) h9)
  refine lv_iload hx hb dL_law_1765 (lv_at hl 1 rfl) ?_
  refine lv_if_ne (tgt := 1782) hx hb dL_law_1767 (by decide) (fun _ => ?_) (fun h9 => absurd h9 (by decide))
  refine lv_goto (tgt := 1877) hx hb dL_law_1782 (by decide) ?_
  refine W.widen (k := 600002) (n := 7302232) (Nat.le_of_ble_eq_true rfl) (Nat.le_of_ble_eq_true rfl) ?_
  exact law_tail hfl hx hb hr hml hown hts hX hbl hlocks hE hZ hA hbA hAo hL8 hS (lv_sub hl [6, 2] rfl)
set_option maxHeartbeats 8000000 in
set_option maxRecDepth 100000 in
theorem law_c23 {p : Program} {l : Launch} {e : Env} {s : State} {m : MethodId} {below : List Frame} {meth : Method} {c : Code} {dC : Nat → ClassId} {dI : Nat → Nat → Nat} {A : Nat → Prop} {b L : Nat} {xs : Nat → Int32} {h0 : Nat} {w : Nat} {kd : Nat} {cK : ClassId} {gW : Nat → Nat} {sg : Nat} {sn : Nat} {cS : ClassId} {gS : Nat → Nat} {ro : Nat} {cu : Nat} {c1 : Nat} {cC1 : ClassId} {gB1 : Nat → Nat} {sp : Nat} {c2 : Nat} {cC2 : ClassId} {gB2 : Nat → Nat} {gR : Nat → Nat} {tr : Nat} {gT : Nat → Nat} {gX : Nat → Nat} {m0 : Nat} {kdM : Nat} {ckM : ClassId} {fa : Nat} {cf : ClassId} {gw : Nat} {cg : ClassId} {gM : Nat → Nat} {ou : Nat} {cO : ClassId} (hfl : l.stackTraces = false) (hx : p.tables.exec = Jvm.exec) (hb : c.code = code) (hr : meth.sig.returnType = ret) (hml : c.maxLocals = 7) (hown : s.vm.findClass RL = some m.cls) (hts : ∀ w ∈ gU, w.before #[Value.ref b] s = true) (hX : va_X b L xs s s.heap) (hbl : b < s.heap.size) (hlocks : meth.locks = false) (hE : gEnv s) (hZ : gZ A s) (hA : ∀ q : Nat, s.heap.size ≤ q → A q) (hbA : ¬ A b) (hAo : ∀ q : Nat, A q → s.heap.size ≤ q) (hL8 : L = 8) : ∀ (H : Heap) (locs : List Loc), va_K (dC, dI) vwCl [(cK, .int), (cS, .long), (cC1, .int), (cC2, .int), (ckM, .int), (cf, .int), (cg, .int), (cO, .long)] s → va_P (dC, dI) vwCl [(h0, .inr (11, oX w sg ro tr gX)), (w, .inr (10, oW kd gW 0 0)), (kd, .inl (cK, 10, .inl (fun _ => 0))), (sg, .inr (7, oS w sn gS 0)), (sn, .inl (cS, 40, .inr (.inl (fun _ => 0)))), (ro, .inr (6, oR w sg cu sp gR 0 0)), (cu, .inr (8, oB c1 gB1)), (c1, .inl (cC1, 10, .inl (fun _ => 0))), (sp, .inr (8, oB c2 gB2)), (c2, .inl (cC2, 10, .inl (fun _ => 0))), (tr, .inr (9, oT w sg ro gT 0 0 0 0)), (m0, .inr (12, mM kdM gw fa gM 0 0 0 0 0 0 0 0 0)), (kdM, .inl (ckM, 10, .inl (fun _ => 0))), (fa, .inl (cf, 10, .inl (fun _ => 0))), (gw, .inl (cg, 10, .inl (fun _ => 0))), (ou, .inl (cO, 1, .inr (.inl (fun _ => 0))))] H → va_D A [(h0, .inr (11, oX w sg ro tr gX)), (w, .inr (10, oW kd gW 0 0)), (kd, .inl (cK, 10, .inl (fun _ => 0))), (sg, .inr (7, oS w sn gS 0)), (sn, .inl (cS, 40, .inr (.inl (fun _ => 0)))), (ro, .inr (6, oR w sg cu sp gR 0 0)), (cu, .inr (8, oB c1 gB1)), (c1, .inl (cC1, 10, .inl (fun _ => 0))), (sp, .inr (8, oB c2 gB2)), (c2, .inl (cC2, 10, .inl (fun _ => 0))), (tr, .inr (9, oT w sg ro gT 0 0 0 0)), (m0, .inr (12, mM kdM gw fa gM 0 0 0 0 0 0 0 0 0)), (kdM, .inl (ckM, 10, .inl (fun _ => 0))), (fa, .inl (cf, 10, .inl (fun _ => 0))), (gw, .inl (cg, 10, .inl (fun _ => 0))), (ou, .inl (cO, 1, .inr (.inl (fun _ => 0))))] → va_S A s.heap H locs → ∀ ls : Array Slot, lv_has ls 7 [(4, .int 0), (3, .ref ou), (2, .ref m0), (1, .ref h0), (0, .ref b)] → W p l e room_1 s m #[Value.ref b] below meth c H locs 441 44110 (lw_Z below #[Value.ref b] s) (F0 m 1785 ls []) := by
  intro H locs hK hP hD hS ls hl
  refine lv_aload_n hx hb dL_law_1785 rfl (lv_at hl 3 rfl) ?_
  refine lv_aload_n hx hb dL_law_1786 rfl (lv_at hl 4 rfl) ?_
  refine lv_iload hx hb dL_law_1787 (lv_at hl 0 rfl) ?_
  refine lv_iconst (v := 1) hx hb dL_law_1789 (by decide) ?_
  refine lv_iadd hx hb dL_law_1790 ?_
  refine lv_topi (fun z1401 ez1401 => ?_)
  obtain rfl : z1401 = 1 := ez1401.trans (by decide)
  refine va_sld hx hb hX hbl hbA hS (by rw [hL8]; unfold vp_in; decide) dL_law_1791 ?_
  refine lv_aload_n hx hb dL_law_1792 rfl (lv_at hl 4 rfl) ?_
  refine lv_iload hx hb dL_law_1793 (lv_at hl 0 rfl) ?_
  refine lv_iconst (v := 2) hx hb dL_law_1795 (by decide) ?_
  refine lv_iadd hx hb dL_law_1796 ?_
  refine lv_topi (fun z1402 ez1402 => ?_)
  obtain rfl : z1402 = 2 := ez1402.trans (by decide)
  refine va_sld hx hb hX hbl hbA hS (by rw [hL8]; unfold vp_in; decide) dL_law_1797 ?_
  refine lv_aload_n hx hb dL_law_1798 rfl (lv_at hl 4 rfl) ?_
  refine lv_iload hx hb dL_law_1799 (lv_at hl 0 rfl) ?_
  refine lv_iconst (v := 3) hx hb dL_law_1801 (by decide) ?_
  refine lv_iadd hx hb dL_law_1802 ?_
  refine lv_topi (fun z1403 ez1403 => ?_)
  obtain rfl : z1403 = 3 := ez1403.trans (by decide)
  refine va_sld hx hb hX hbl hbA hS (by rw [hL8]; unfold vp_in; decide) dL_law_1803 ?_
  refine lv_aload_n hx hb dL_law_1804 rfl (lv_at hl 4 rfl) ?_
  refine lv_iload hx hb dL_law_1805 (lv_at hl 0 rfl) ?_
  refine lv_iconst (v := 4) hx hb dL_law_1807 (by decide) ?_
  refine lv_iadd hx hb dL_law_1808 ?_
  refine lv_topi (fun z1404 ez1404 => ?_)
  obtain rfl : z1404 = 4 := ez1404.trans (by decide)
  refine va_sld hx hb hX hbl hbA hS (by rw [hL8]; unfold vp_in; decide) dL_law_1809 ?_
  refine lv_aload_n hx hb dL_law_1810 rfl (lv_at hl 1 rfl) ?_
  have hPc := hP.sub (ws' := [(h0, .inr (11, oX w sg ro tr gX)), (w, .inr (10, oW kd gW 0 0))]) [0, 1] rfl
  have hDc := hD.sub (ws' := [(h0, .inr (11, oX w sg ro tr gX)), (w, .inr (10, oW kd gW 0 0))]) [0, 1] (by decide) rfl
  have hKc := hK.sub (tys' := []) [] rfl
  have hFc := roF hS hA
  refine va_calli (vx_runSW (As := [.ref h0, .int (xs (1 : Int32).toNatClampNeg), .int (xs (2 : Int32).toNatClampNeg), .int (xs (3 : Int32).toNatClampNeg), .int (xs (4 : Int32).toNatClampNeg), .ref ou]) (rest := []) ⟨hx, hb, hml, hown, hts⟩ (c_L_way l dC dI H.size hfl h0 ou w sg ro tr gX kd gW (xs (1 : Int32).toNatClampNeg) (xs (2 : Int32).toNatClampNeg) (xs (3 : Int32).toNatClampNeg) (xs (4 : Int32).toNatClampNeg)) (vx_cwSW 6 hts (gSt u_1232 u_1233 u_0 u_1234) rfl rfl rfl (by decide +kernel) ⟨Nat.le_of_ble_eq_true rfl, Nat.le_of_ble_eq_true rfl⟩) ⟨gPZ_blind, gPZ_call hPc hKc hDc hE hZ hS hFc⟩ rfl rfl hl.1 rfl (lv_room (Nat.le_of_ble_eq_true rfl)) dL_law_1811 ⟨(Nat.le_of_ble_eq_true rfl), (Nat.le_of_ble_eq_true rfl)⟩) hS (fun q _ h => hFc q h) hFc (fun r1407 u1405 t9 H1406 locs ht hvm hw hB hz1 hk1 hS => ?_)
  have hP := roP hP hk1
  subst hw
  refine W.widen (k := 442) (n := 44116) (Nat.le_of_ble_eq_true rfl) (Nat.le_of_ble_eq_true rfl) ?_
  refine lv_istore (lv' := [(5, .int 1), (4, .int 0), (3, .ref ou), (2, .ref m0), (1, .ref h0), (0, .ref b)]) hx hb dL_law_1814 hl (by decide) rfl (fun ls hl => ?_)
  refine lv_aload_n hx hb dL_law_1816 rfl (lv_at hl 3 rfl) ?_
  refine lv_aload_n hx hb dL_law_1817 rfl (lv_at hl 5 rfl) ?_
  refine lv_iload hx hb dL_law_1818 (lv_at hl 1 rfl) ?_
  refine lv_iconst (v := 1) hx hb dL_law_1820 (by decide) ?_
  refine lv_iadd hx hb dL_law_1821 ?_
  refine lv_topi (fun z1408 ez1408 => ?_)
  obtain rfl : z1408 = 1 := ez1408.trans (by decide)
  refine va_sld hx hb hX hbl hbA hS (by rw [hL8]; unfold vp_in; decide) dL_law_1822 ?_
  refine lv_aload_n hx hb dL_law_1823 rfl (lv_at hl 5 rfl) ?_
  refine lv_iload hx hb dL_law_1824 (lv_at hl 1 rfl) ?_
  refine lv_iconst (v := 2) hx hb dL_law_1826 (by decide) ?_
  refine lv_iadd hx hb dL_law_1827 ?_
  refine lv_topi (fun z1409 ez1409 => ?_)
  obtain rfl : z1409 = 2 := ez1409.trans (by decide)
  refine va_sld hx hb hX hbl hbA hS (by rw [hL8]; unfold vp_in; decide) dL_law_1828 ?_
  refine lv_aload_n hx hb dL_law_1829 rfl (lv_at hl 5 rfl) ?_
  refine lv_iload hx hb dL_law_1830 (lv_at hl 1 rfl) ?_
  refine lv_iconst (v := 3) hx hb dL_law_1832 (by decide) ?_
  refine lv_iadd hx hb dL_law_1833 ?_
  refine lv_topi (fun z1410 ez1410 => ?_)
  obtain rfl : z1410 = 3 := ez1410.trans (by decide)
  refine va_sld hx hb hX hbl hbA hS (by rw [hL8]; unfold vp_in; decide) dL_law_1834 ?_
  refine lv_aload_n hx hb dL_law_1835 rfl (lv_at hl 5 rfl) ?_
  refine lv_iload hx hb dL_law_1836 (lv_at hl 1 rfl) ?_
  refine lv_iconst (v := 4) hx hb dL_law_1838 (by decide) ?_
  refine lv_iadd hx hb dL_law_1839 ?_
  refine lv_topi (fun z1411 ez1411 => ?_)
  obtain rfl : z1411 = 4 := ez1411.trans (by decide)
  refine va_sld hx hb hX hbl hbA hS (by rw [hL8]; unfold vp_in; decide) dL_law_1840 ?_
  have hPc := hP.sub (ws' := [(m0, .inr (12, mM kdM gw fa gM 0 0 0 0 0 0 0 0 0))]) [11] rfl
  have hDc := hD.sub (ws' := [(m0, .inr (12, mM kdM gw fa gM 0 0 0 0 0 0 0 0 0))]) [11] (by decide) rfl
  have hKc := hK.sub (tys' := []) [] rfl
  have hFc := va_free (wc := [(m0, .inr (12, mM kdM gw fa gM 0 0 0 0 0 0 0 0 0))]) hD hS hA [11] rfl
  refine va_calli (va_runV (As := [.int (xs (1 : Int32).toNatClampNeg), .int (xs (2 : Int32).toNatClampNeg), .int (xs (3 : Int32).toNatClampNeg), .int (xs (4 : Int32).toNatClampNeg)]) (rest := []) ⟨hx, hb, hml, hown, hts⟩ (c_X12_way l dC dI H1406.size m0 kdM gw fa gM 0 (xs (1 : Int32).toNatClampNeg) (xs (2 : Int32).toNatClampNeg) (xs (3 : Int32).toNatClampNeg) (xs (4 : Int32).toNatClampNeg)) (cwV 4 hts (gV u_1683 u_1684 u_1685 u_14 u_1686) rfl rfl rfl (by decide +kernel) ⟨Nat.le_of_ble_eq_true rfl, Nat.le_of_ble_eq_true rfl⟩) ⟨gP_blind, va_recv hKc hPc (ci := 12) (q0 := 0) rfl rfl, gP_call hPc hKc hDc hE⟩ rfl rfl hl.1 rfl (lv_room (Nat.le_of_ble_eq_true rfl)) dL_law_1841 ⟨(Nat.le_of_ble_eq_true rfl), (Nat.le_of_ble_eq_true rfl)⟩) hS (fun q _ h => hFc q h) hFc (fun r1414 u1412 t9 H1413 locs ht hvm hw hB hz1 hk1 hS => ?_)
  obtain ⟨hP1, hK1, hD1⟩ := hB
  rw [ht] at hP1
  have hK1 := va_K.moved hvm.symm hK1
  obtain ⟨hP, hD⟩ := va_join (wr := [(h0, .inr (11, oX w sg ro tr gX)), (w, .inr (10, oW kd gW 0 0)), (kd, .inl (cK, 10, .inl (fun _ => 0))), (sg, .inr (7, oS w sn gS 0)), (sn, .inl (cS, 40, .inr (.inl (fun _ => 0)))), (ro, .inr (6, oR w sg cu sp gR 0 0)), (cu, .inr (8, oB c1 gB1)), (c1, .inl (cC1, 10, .inl (fun _ => 0))), (sp, .inr (8, oB c2 gB2)), (c2, .inl (cC2, 10, .inl (fun _ => 0))), (tr, .inr (9, oT w sg ro gT 0 0 0 0)), (kdM, .inl (ckM, 10, .inl (fun _ => 0))), (fa, .inl (cf, 10, .inl (fun _ => 0))), (gw, .inl (cg, 10, .inl (fun _ => 0))), (ou, .inl (cO, 1, .inr (.inl (fun _ => 0))))]) (w1 := [(m0, .inr (12, mM kdM gw fa gM 0 0 0 0 0 0 0 0 1))]) hP hD [11] [0, 1, 2, 3, 4, 5, 6, 7, 8, 9, 10, 12, 13, 14, 15] rfl rfl (by decide) (by decide) hk1 hFc hP1 hD1
  have hK := (hK.sub (tys' := [(cK, .int), (cS, .long), (cC1, .int), (cC2, .int), (ckM, .int), (cf, .int), (cg, .int), (cO, .long)]) [0, 1, 2, 3, 4, 5, 6, 7] rfl).app hK1
  have hK : va_K (dC, dI) vwCl [(cK, .int), (cS, .long), (cC1, .int), (cC2, .int), (ckM, .int), (cf, .int), (cg, .int), (cO, .long)] s := hK
  have hP : va_P (dC, dI) vwCl [(h0, .inr (11, oX w sg ro tr gX)), (w, .inr (10, oW kd gW 0 0)), (kd, .inl (cK, 10, .inl (fun _ => 0))), (sg, .inr (7, oS w sn gS 0)), (sn, .inl (cS, 40, .inr (.inl (fun _ => 0)))), (ro, .inr (6, oR w sg cu sp gR 0 0)), (cu, .inr (8, oB c1 gB1)), (c1, .inl (cC1, 10, .inl (fun _ => 0))), (sp, .inr (8, oB c2 gB2)), (c2, .inl (cC2, 10, .inl (fun _ => 0))), (tr, .inr (9, oT w sg ro gT 0 0 0 0)), (kdM, .inl (ckM, 10, .inl (fun _ => 0))), (fa, .inl (cf, 10, .inl (fun _ => 0))), (gw, .inl (cg, 10, .inl (fun _ => 0))), (ou, .inl (cO, 1, .inr (.inl (fun _ => 0)))), (m0, .inr (12, mM kdM gw fa gM 0 0 0 0 0 0 0 0 1))] H1413 := hP
  have hD : va_D A [(h0, .inr (11, oX w sg ro tr gX)), (w, .inr (10, oW kd gW 0 0)), (kd, .inl (cK, 10, .inl (fun _ => 0))), (sg, .inr (7, oS w sn gS 0)), (sn, .inl (cS, 40, .inr (.inl (fun _ => 0)))), (ro, .inr (6, oR w sg cu sp gR 0 0)), (cu, .inr (8, oB c1 gB1)), (c1, .inl (cC1, 10, .inl (fun _ => 0))), (sp, .inr (8, oB c2 gB2)), (c2, .inl (cC2, 10, .inl (fun _ => 0))), (tr, .inr (9, oT w sg ro gT 0 0 0 0)), (kdM, .inl (ckM, 10, .inl (fun _ => 0))), (fa, .inl (cf, 10, .inl (fun _ => 0))), (gw, .inl (cg, 10, .inl (fun _ => 0))), (ou, .inl (cO, 1, .inr (.inl (fun _ => 0)))), (m0, .inr (12, mM kdM gw fa gM 0 0 0 0 0 0 0 0 1))] := hD
  subst hw
  refine lv_istore (lv' := [(6, .int 0), (5, .int 1), (4, .int 0), (3, .ref ou), (2, .ref m0), (1, .ref h0), (0, .ref b)]) hx hb dL_law_1844 hl (by decide) rfl (fun ls hl => ?_)
  refine lv_aload_n hx hb dL_law_1846 rfl (lv_at hl 4 rfl) ?_
  have hPc := hP.sub (ws' := [(m0, .inr (12, mM kdM gw fa gM 0 0 0 0 0 0 0 0 1))]) [15] rfl
  have hDc := hD.sub (ws' := [(m0, .inr (12, mM kdM gw fa gM 0 0 0 0 0 0 0 0 1))]) [15] (by decide) rfl
  have hKc := hK.sub (tys' := []) [] rfl
  have hFc := roF hS hA
  refine va_calli (va_runV (As := []) (rest := []) ⟨hx, hb, hml, hown, hts⟩ (cu_X12_thrown l dC dI H1413.size m0 kdM gw fa gM 1 0 0) (cwV 0 hts (gV u_1392 u_1393 u_1394 u_14 u_1395) rfl rfl rfl (by decide +kernel) ⟨Nat.le_of_ble_eq_true rfl, Nat.le_of_ble_eq_true rfl⟩) ⟨gP_blind, va_recv hKc hPc (ci := 12) (q0 := 0) rfl rfl, gP_call hPc hKc hDc hE⟩ rfl rfl hl.1 rfl (lv_room (Nat.le_of_ble_eq_true rfl)) dL_law_1847 ⟨(Nat.le_of_ble_eq_true rfl), (Nat.le_of_ble_eq_true rfl)⟩) hS (fun q _ h => hFc q h) hFc (fun r1417 u1415 t9 H1416 locs ht hvm hw hB hz1 hk1 hS => ?_)
  have hP := roP hP hk1
  subst hw
  refine lv_iload hx hb dL_law_1850 (lv_at hl 1 rfl) ?_
  refine lv_icmp_eq (tgt := 1857) hx hb dL_law_1852 (by decide) (fun _ => ?_) (fun h9 => absurd (by decide) h9)
  refine lv_iload hx hb dL_law_1857 (lv_at hl 1 rfl) ?_
  refine lv_if_ne (tgt := 1874) hx hb dL_law_1859 (by decide) (fun _ => ?_) (fun h9 => absurd h9 (by decide))
  refine lv_goto (tgt := 1877) hx hb dL_law_1874 (by decide) ?_
  refine W.widen (k := 600002) (n := 7302232) (Nat.le_of_ble_eq_true rfl) (Nat.le_of_ble_eq_true rfl) ?_
  exact law_tail hfl hx hb hr hml hown hts hX hbl hlocks hE hZ hA hbA hAo hL8 hS (lv_sub hl [6, 2] rfl)
