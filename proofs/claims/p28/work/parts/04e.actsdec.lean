theorem dL_acts_1447 : decode cL_acts 1447 = .ok (.invokestatic 144, 3) := by decide +kernel
theorem dL_acts_1450 : decode cL_acts 1450 = .ok (.ldc 28, 2) := by decide +kernel
theorem dL_acts_1452 : decode cL_acts 1452 = .ok (.if_icmp .ne 7, 3) := by decide +kernel
theorem dL_acts_1455 : decode cL_acts 1455 = .ok (.iconst 1, 1) := by decide +kernel
theorem dL_acts_1456 : decode cL_acts 1456 = .ok (.goto 4, 3) := by decide +kernel
theorem dL_acts_1459 : decode cL_acts 1459 = .ok (.iconst 0, 1) := by decide +kernel
theorem dL_acts_1460 : decode cL_acts 1460 = .ok (.ireturn, 1) := by decide +kernel
theorem dL_acts_1461 : decode cL_acts 1461 = .ok (.iload 16, 2) := by decide +kernel
theorem dL_acts_1463 : decode cL_acts 1463 = .ok (.ifCond .lt 93, 3) := by decide +kernel
theorem dL_acts_1466 : decode cL_acts 1466 = .ok (.iload 13, 2) := by decide +kernel
theorem dL_acts_1468 : decode cL_acts 1468 = .ok (.aload_n 3, 1) := by decide +kernel
theorem dL_acts_1469 : decode cL_acts 1469 = .ok (.iconst 3, 1) := by decide +kernel
theorem dL_acts_1470 : decode cL_acts 1470 = .ok (.iload 11, 2) := by decide +kernel
theorem dL_acts_1472 : decode cL_acts 1472 = .ok (.imul, 1) := by decide +kernel
theorem dL_acts_1473 : decode cL_acts 1473 = .ok (.iconst 1, 1) := by decide +kernel
theorem dL_acts_1474 : decode cL_acts 1474 = .ok (.iadd, 1) := by decide +kernel
theorem dL_acts_1475 : decode cL_acts 1475 = .ok (.iaload, 1) := by decide +kernel
theorem dL_acts_1476 : decode cL_acts 1476 = .ok (.if_icmp .gt 7, 3) := by decide +kernel
theorem dL_acts_1479 : decode cL_acts 1479 = .ok (.iconst 1, 1) := by decide +kernel
theorem dL_acts_1480 : decode cL_acts 1480 = .ok (.goto 4, 3) := by decide +kernel
theorem dL_acts_1483 : decode cL_acts 1483 = .ok (.iconst 0, 1) := by decide +kernel
theorem dL_acts_1484 : decode cL_acts 1484 = .ok (.istore 17, 2) := by decide +kernel
theorem dL_acts_1486 : decode cL_acts 1486 = .ok (.aload 5, 2) := by decide +kernel
theorem dL_acts_1488 : decode cL_acts 1488 = .ok (.iload 15, 2) := by decide +kernel
theorem dL_acts_1490 : decode cL_acts 1490 = .ok (.ldc 168, 2) := by decide +kernel
theorem dL_acts_1492 : decode cL_acts 1492 = .ok (.iload 12, 2) := by decide +kernel
theorem dL_acts_1494 : decode cL_acts 1494 = .ok (.imul, 1) := by decide +kernel
theorem dL_acts_1495 : decode cL_acts 1495 = .ok (.sipush 1000, 3) := by decide +kernel
theorem dL_acts_1498 : decode cL_acts 1498 = .ok (.iload 13, 2) := by decide +kernel
theorem dL_acts_1500 : decode cL_acts 1500 = .ok (.imul, 1) := by decide +kernel
theorem dL_acts_1501 : decode cL_acts 1501 = .ok (.iadd, 1) := by decide +kernel
theorem dL_acts_1502 : decode cL_acts 1502 = .ok (.bipush 10, 2) := by decide +kernel
theorem dL_acts_1504 : decode cL_acts 1504 = .ok (.iload 11, 2) := by decide +kernel
theorem dL_acts_1506 : decode cL_acts 1506 = .ok (.imul, 1) := by decide +kernel
theorem dL_acts_1507 : decode cL_acts 1507 = .ok (.iadd, 1) := by decide +kernel
theorem dL_acts_1508 : decode cL_acts 1508 = .ok (.iload 17, 2) := by decide +kernel
theorem dL_acts_1510 : decode cL_acts 1510 = .ok (.ifCond .eq 7, 3) := by decide +kernel
theorem dL_acts_1513 : decode cL_acts 1513 = .ok (.iconst 1, 1) := by decide +kernel
theorem dL_acts_1514 : decode cL_acts 1514 = .ok (.goto 4, 3) := by decide +kernel
theorem dL_acts_1517 : decode cL_acts 1517 = .ok (.iconst 0, 1) := by decide +kernel
theorem dL_acts_1518 : decode cL_acts 1518 = .ok (.iadd, 1) := by decide +kernel
theorem dL_acts_1519 : decode cL_acts 1519 = .ok (.iastore, 1) := by decide +kernel
theorem dL_acts_1520 : decode cL_acts 1520 = .ok (.aload 4, 2) := by decide +kernel
theorem dL_acts_1522 : decode cL_acts 1522 = .ok (.iconst 4, 1) := by decide +kernel
theorem dL_acts_1523 : decode cL_acts 1523 = .ok (.iload 12, 2) := by decide +kernel
theorem dL_acts_1525 : decode cL_acts 1525 = .ok (.imul, 1) := by decide +kernel
theorem dL_acts_1526 : decode cL_acts 1526 = .ok (.iconst 3, 1) := by decide +kernel
theorem dL_acts_1527 : decode cL_acts 1527 = .ok (.iadd, 1) := by decide +kernel
theorem dL_acts_1528 : decode cL_acts 1528 = .ok (.iload 17, 2) := by decide +kernel
theorem dL_acts_1530 : decode cL_acts 1530 = .ok (.ifCond .eq 8, 3) := by decide +kernel
theorem dL_acts_1533 : decode cL_acts 1533 = .ok (.iload 15, 2) := by decide +kernel
theorem dL_acts_1535 : decode cL_acts 1535 = .ok (.goto 12, 3) := by decide +kernel
theorem dL_acts_1538 : decode cL_acts 1538 = .ok (.aload 4, 2) := by decide +kernel
theorem dL_acts_1540 : decode cL_acts 1540 = .ok (.iconst 4, 1) := by decide +kernel
theorem dL_acts_1541 : decode cL_acts 1541 = .ok (.iload 12, 2) := by decide +kernel
theorem dL_acts_1543 : decode cL_acts 1543 = .ok (.imul, 1) := by decide +kernel
theorem dL_acts_1544 : decode cL_acts 1544 = .ok (.iconst 3, 1) := by decide +kernel
theorem dL_acts_1545 : decode cL_acts 1545 = .ok (.iadd, 1) := by decide +kernel
theorem dL_acts_1546 : decode cL_acts 1546 = .ok (.iaload, 1) := by decide +kernel
theorem dL_acts_1547 : decode cL_acts 1547 = .ok (.iastore, 1) := by decide +kernel
theorem dL_acts_1548 : decode cL_acts 1548 = .ok (.aload 6, 2) := by decide +kernel
theorem dL_acts_1550 : decode cL_acts 1550 = .ok (.iconst 3, 1) := by decide +kernel
theorem dL_acts_1551 : decode cL_acts 1551 = .ok (.dup2, 1) := by decide +kernel
theorem dL_acts_1552 : decode cL_acts 1552 = .ok (.iaload, 1) := by decide +kernel
theorem dL_acts_1553 : decode cL_acts 1553 = .ok (.iconst 1, 1) := by decide +kernel
theorem dL_acts_1554 : decode cL_acts 1554 = .ok (.iadd, 1) := by decide +kernel
theorem dL_acts_1555 : decode cL_acts 1555 = .ok (.iastore, 1) := by decide +kernel
theorem dL_acts_1556 : decode cL_acts 1556 = .ok (.aload_n 0, 1) := by decide +kernel
theorem dL_acts_1557 : decode cL_acts 1557 = .ok (.iload 12, 2) := by decide +kernel
theorem dL_acts_1559 : decode cL_acts 1559 = .ok (.iload 11, 2) := by decide +kernel
theorem dL_acts_1561 : decode cL_acts 1561 = .ok (.iload 13, 2) := by decide +kernel
theorem dL_acts_1563 : decode cL_acts 1563 = .ok (.invokestatic 144, 3) := by decide +kernel
theorem dL_acts_1566 : decode cL_acts 1566 = .ok (.iload 16, 2) := by decide +kernel
theorem dL_acts_1568 : decode cL_acts 1568 = .ok (.if_icmp .ne 36, 3) := by decide +kernel
theorem dL_acts_1571 : decode cL_acts 1571 = .ok (.aload_n 1, 1) := by decide +kernel
theorem dL_acts_1572 : decode cL_acts 1572 = .ok (.iload 12, 2) := by decide +kernel
theorem dL_acts_1574 : decode cL_acts 1574 = .ok (.iload 11, 2) := by decide +kernel
theorem dL_acts_1576 : decode cL_acts 1576 = .ok (.iload 13, 2) := by decide +kernel
theorem dL_acts_1578 : decode cL_acts 1578 = .ok (.invokestatic 144, 3) := by decide +kernel
theorem dL_acts_1581 : decode cL_acts 1581 = .ok (.iload 16, 2) := by decide +kernel
theorem dL_acts_1583 : decode cL_acts 1583 = .ok (.if_icmp .ne 21, 3) := by decide +kernel
theorem dL_acts_1586 : decode cL_acts 1586 = .ok (.aload_n 0, 1) := by decide +kernel
theorem dL_acts_1587 : decode cL_acts 1587 = .ok (.iload 12, 2) := by decide +kernel
theorem dL_acts_1589 : decode cL_acts 1589 = .ok (.iload 11, 2) := by decide +kernel
theorem dL_acts_1591 : decode cL_acts 1591 = .ok (.iconst (-1), 1) := by decide +kernel
theorem dL_acts_1592 : decode cL_acts 1592 = .ok (.invokestatic 144, 3) := by decide +kernel
theorem dL_acts_1595 : decode cL_acts 1595 = .ok (.ldc 18, 2) := by decide +kernel
theorem dL_acts_1597 : decode cL_acts 1597 = .ok (.if_icmp .ne 7, 3) := by decide +kernel
theorem dL_acts_1600 : decode cL_acts 1600 = .ok (.iconst 1, 1) := by decide +kernel
theorem dL_acts_1601 : decode cL_acts 1601 = .ok (.goto 4, 3) := by decide +kernel
theorem dL_acts_1604 : decode cL_acts 1604 = .ok (.iconst 0, 1) := by decide +kernel
theorem dL_acts_1605 : decode cL_acts 1605 = .ok (.ireturn, 1) := by decide +kernel
theorem dL_acts_1606 : decode cL_acts 1606 = .ok (.iload 9, 2) := by decide +kernel
theorem dL_acts_1608 : decode cL_acts 1608 = .ok (.bipush 26, 2) := by decide +kernel
theorem dL_acts_1610 : decode cL_acts 1610 = .ok (.if_icmp .ge 257, 3) := by decide +kernel
theorem dL_acts_1613 : decode cL_acts 1613 = .ok (.aload 6, 2) := by decide +kernel
theorem dL_acts_1615 : decode cL_acts 1615 = .ok (.iconst 3, 1) := by decide +kernel
theorem dL_acts_1616 : decode cL_acts 1616 = .ok (.iaload, 1) := by decide +kernel
theorem dL_acts_1617 : decode cL_acts 1617 = .ok (.ifCond .le 250, 3) := by decide +kernel
theorem dL_acts_1620 : decode cL_acts 1620 = .ok (.iload 8, 2) := by decide +kernel
theorem dL_acts_1622 : decode cL_acts 1622 = .ok (.bipush 8, 2) := by decide +kernel
theorem dL_acts_1624 : decode cL_acts 1624 = .ok (.ishr, 1) := by decide +kernel
theorem dL_acts_1625 : decode cL_acts 1625 = .ok (.aload 6, 2) := by decide +kernel
theorem dL_acts_1627 : decode cL_acts 1627 = .ok (.iconst 3, 1) := by decide +kernel
theorem dL_acts_1628 : decode cL_acts 1628 = .ok (.iaload, 1) := by decide +kernel
theorem dL_acts_1629 : decode cL_acts 1629 = .ok (.invokestatic 147, 3) := by decide +kernel
theorem dL_acts_1632 : decode cL_acts 1632 = .ok (.istore 13, 2) := by decide +kernel
theorem dL_acts_1634 : decode cL_acts 1634 = .ok (.aload 5, 2) := by decide +kernel
theorem dL_acts_1636 : decode cL_acts 1636 = .ok (.iload 13, 2) := by decide +kernel
theorem dL_acts_1638 : decode cL_acts 1638 = .ok (.iaload, 1) := by decide +kernel
theorem dL_acts_1639 : decode cL_acts 1639 = .ok (.ldc 168, 2) := by decide +kernel
theorem dL_acts_1641 : decode cL_acts 1641 = .ok (.idiv, 1) := by decide +kernel
theorem dL_acts_1642 : decode cL_acts 1642 = .ok (.istore 14, 2) := by decide +kernel
theorem dL_acts_1644 : decode cL_acts 1644 = .ok (.aload 5, 2) := by decide +kernel
theorem dL_acts_1646 : decode cL_acts 1646 = .ok (.iload 13, 2) := by decide +kernel
theorem dL_acts_1648 : decode cL_acts 1648 = .ok (.iaload, 1) := by decide +kernel
theorem dL_acts_1649 : decode cL_acts 1649 = .ok (.bipush 10, 2) := by decide +kernel
theorem dL_acts_1651 : decode cL_acts 1651 = .ok (.idiv, 1) := by decide +kernel
theorem dL_acts_1652 : decode cL_acts 1652 = .ok (.bipush 10, 2) := by decide +kernel
theorem dL_acts_1654 : decode cL_acts 1654 = .ok (.irem, 1) := by decide +kernel
theorem dL_acts_1655 : decode cL_acts 1655 = .ok (.istore 15, 2) := by decide +kernel
theorem dL_acts_1657 : decode cL_acts 1657 = .ok (.iconst 0, 1) := by decide +kernel
theorem dL_acts_1658 : decode cL_acts 1658 = .ok (.istore 16, 2) := by decide +kernel
theorem dL_acts_1660 : decode cL_acts 1660 = .ok (.aload_n 3, 1) := by decide +kernel
theorem dL_acts_1661 : decode cL_acts 1661 = .ok (.iconst 3, 1) := by decide +kernel
theorem dL_acts_1662 : decode cL_acts 1662 = .ok (.iload 15, 2) := by decide +kernel
theorem dL_acts_1664 : decode cL_acts 1664 = .ok (.imul, 1) := by decide +kernel
theorem dL_acts_1665 : decode cL_acts 1665 = .ok (.iaload, 1) := by decide +kernel
theorem dL_acts_1666 : decode cL_acts 1666 = .ok (.ifCond .lt 33, 3) := by decide +kernel
theorem dL_acts_1669 : decode cL_acts 1669 = .ok (.aload_n 3, 1) := by decide +kernel
theorem dL_acts_1670 : decode cL_acts 1670 = .ok (.iconst 3, 1) := by decide +kernel
theorem dL_acts_1671 : decode cL_acts 1671 = .ok (.iload 15, 2) := by decide +kernel
theorem dL_acts_1673 : decode cL_acts 1673 = .ok (.imul, 1) := by decide +kernel
theorem dL_acts_1674 : decode cL_acts 1674 = .ok (.iaload, 1) := by decide +kernel
theorem dL_acts_1675 : decode cL_acts 1675 = .ok (.istore 15, 2) := by decide +kernel
theorem dL_acts_1677 : decode cL_acts 1677 = .ok (.iload 16, 2) := by decide +kernel
theorem dL_acts_1679 : decode cL_acts 1679 = .ok (.ifCond .ne 10, 3) := by decide +kernel
theorem dL_acts_1682 : decode cL_acts 1682 = .ok (.iload 15, 2) := by decide +kernel
theorem dL_acts_1684 : decode cL_acts 1684 = .ok (.iload 11, 2) := by decide +kernel
theorem dL_acts_1686 : decode cL_acts 1686 = .ok (.if_icmp .ne 7, 3) := by decide +kernel
theorem dL_acts_1689 : decode cL_acts 1689 = .ok (.iconst 1, 1) := by decide +kernel
theorem dL_acts_1690 : decode cL_acts 1690 = .ok (.goto 4, 3) := by decide +kernel
theorem dL_acts_1693 : decode cL_acts 1693 = .ok (.iconst 0, 1) := by decide +kernel
theorem dL_acts_1694 : decode cL_acts 1694 = .ok (.istore 16, 2) := by decide +kernel
theorem dL_acts_1696 : decode cL_acts 1696 = .ok (.goto (-36), 3) := by decide +kernel
theorem dL_acts_1699 : decode cL_acts 1699 = .ok (.aload 5, 2) := by decide +kernel
theorem dL_acts_1701 : decode cL_acts 1701 = .ok (.iload 13, 2) := by decide +kernel
theorem dL_acts_1703 : decode cL_acts 1703 = .ok (.iaload, 1) := by decide +kernel
theorem dL_acts_1704 : decode cL_acts 1704 = .ok (.bipush 10, 2) := by decide +kernel
theorem dL_acts_1706 : decode cL_acts 1706 = .ok (.irem, 1) := by decide +kernel
theorem dL_acts_1707 : decode cL_acts 1707 = .ok (.ifCond .ne 46, 3) := by decide +kernel
theorem dL_acts_1710 : decode cL_acts 1710 = .ok (.aload_n 0, 1) := by decide +kernel
theorem dL_acts_1711 : decode cL_acts 1711 = .ok (.iload 14, 2) := by decide +kernel
theorem dL_acts_1713 : decode cL_acts 1713 = .ok (.invokestatic 107, 3) := by decide +kernel
theorem dL_acts_1716 : decode cL_acts 1716 = .ok (.iconst 4, 1) := by decide +kernel
theorem dL_acts_1717 : decode cL_acts 1717 = .ok (.if_icmp .ge 36, 3) := by decide +kernel
theorem dL_acts_1720 : decode cL_acts 1720 = .ok (.iload 16, 2) := by decide +kernel
theorem dL_acts_1722 : decode cL_acts 1722 = .ok (.ifCond .eq 31, 3) := by decide +kernel
theorem dL_acts_1725 : decode cL_acts 1725 = .ok (.aload 5, 2) := by decide +kernel
theorem dL_acts_1727 : decode cL_acts 1727 = .ok (.iload 13, 2) := by decide +kernel
theorem dL_acts_1729 : decode cL_acts 1729 = .ok (.iaload, 1) := by decide +kernel
theorem dL_acts_1730 : decode cL_acts 1730 = .ok (.sipush 1000, 3) := by decide +kernel
theorem dL_acts_1733 : decode cL_acts 1733 = .ok (.idiv, 1) := by decide +kernel
theorem dL_acts_1734 : decode cL_acts 1734 = .ok (.sipush 1000, 3) := by decide +kernel
theorem dL_acts_1737 : decode cL_acts 1737 = .ok (.irem, 1) := by decide +kernel
theorem dL_acts_1738 : decode cL_acts 1738 = .ok (.aload_n 3, 1) := by decide +kernel
theorem dL_acts_1739 : decode cL_acts 1739 = .ok (.iconst 3, 1) := by decide +kernel
theorem dL_acts_1740 : decode cL_acts 1740 = .ok (.iload 11, 2) := by decide +kernel
theorem dL_acts_1742 : decode cL_acts 1742 = .ok (.imul, 1) := by decide +kernel
theorem dL_acts_1743 : decode cL_acts 1743 = .ok (.iconst 1, 1) := by decide +kernel
theorem dL_acts_1744 : decode cL_acts 1744 = .ok (.iadd, 1) := by decide +kernel
theorem dL_acts_1745 : decode cL_acts 1745 = .ok (.iaload, 1) := by decide +kernel
theorem dL_acts_1746 : decode cL_acts 1746 = .ok (.if_icmp .gt 7, 3) := by decide +kernel
theorem dL_acts_1749 : decode cL_acts 1749 = .ok (.iconst 1, 1) := by decide +kernel
theorem dL_acts_1750 : decode cL_acts 1750 = .ok (.goto 4, 3) := by decide +kernel
theorem dL_acts_1753 : decode cL_acts 1753 = .ok (.iconst 0, 1) := by decide +kernel
theorem dL_acts_1754 : decode cL_acts 1754 = .ok (.istore 17, 2) := by decide +kernel
theorem dL_acts_1756 : decode cL_acts 1756 = .ok (.aload 5, 2) := by decide +kernel
theorem dL_acts_1758 : decode cL_acts 1758 = .ok (.iload 13, 2) := by decide +kernel
theorem dL_acts_1760 : decode cL_acts 1760 = .ok (.dup2, 1) := by decide +kernel
theorem dL_acts_1761 : decode cL_acts 1761 = .ok (.iaload, 1) := by decide +kernel
theorem dL_acts_1762 : decode cL_acts 1762 = .ok (.iload 17, 2) := by decide +kernel
theorem dL_acts_1764 : decode cL_acts 1764 = .ok (.ifCond .eq 7, 3) := by decide +kernel
theorem dL_acts_1767 : decode cL_acts 1767 = .ok (.iconst 1, 1) := by decide +kernel
theorem dL_acts_1768 : decode cL_acts 1768 = .ok (.goto 4, 3) := by decide +kernel
theorem dL_acts_1771 : decode cL_acts 1771 = .ok (.iconst 0, 1) := by decide +kernel
theorem dL_acts_1772 : decode cL_acts 1772 = .ok (.iadd, 1) := by decide +kernel
theorem dL_acts_1773 : decode cL_acts 1773 = .ok (.iastore, 1) := by decide +kernel
theorem dL_acts_1774 : decode cL_acts 1774 = .ok (.aload 4, 2) := by decide +kernel
theorem dL_acts_1776 : decode cL_acts 1776 = .ok (.iconst 4, 1) := by decide +kernel
theorem dL_acts_1777 : decode cL_acts 1777 = .ok (.iload 14, 2) := by decide +kernel
theorem dL_acts_1779 : decode cL_acts 1779 = .ok (.imul, 1) := by decide +kernel
theorem dL_acts_1780 : decode cL_acts 1780 = .ok (.iconst 3, 1) := by decide +kernel
theorem dL_acts_1781 : decode cL_acts 1781 = .ok (.iadd, 1) := by decide +kernel
theorem dL_acts_1782 : decode cL_acts 1782 = .ok (.iload 17, 2) := by decide +kernel
theorem dL_acts_1784 : decode cL_acts 1784 = .ok (.ifCond .eq 8, 3) := by decide +kernel
theorem dL_acts_1787 : decode cL_acts 1787 = .ok (.iload 13, 2) := by decide +kernel
theorem dL_acts_1789 : decode cL_acts 1789 = .ok (.goto 12, 3) := by decide +kernel
theorem dL_acts_1792 : decode cL_acts 1792 = .ok (.aload 4, 2) := by decide +kernel
theorem dL_acts_1794 : decode cL_acts 1794 = .ok (.iconst 4, 1) := by decide +kernel
theorem dL_acts_1795 : decode cL_acts 1795 = .ok (.iload 14, 2) := by decide +kernel
theorem dL_acts_1797 : decode cL_acts 1797 = .ok (.imul, 1) := by decide +kernel
theorem dL_acts_1798 : decode cL_acts 1798 = .ok (.iconst 3, 1) := by decide +kernel
theorem dL_acts_1799 : decode cL_acts 1799 = .ok (.iadd, 1) := by decide +kernel
theorem dL_acts_1800 : decode cL_acts 1800 = .ok (.iaload, 1) := by decide +kernel
theorem dL_acts_1801 : decode cL_acts 1801 = .ok (.iastore, 1) := by decide +kernel
theorem dL_acts_1802 : decode cL_acts 1802 = .ok (.aload_n 0, 1) := by decide +kernel
theorem dL_acts_1803 : decode cL_acts 1803 = .ok (.iload 13, 2) := by decide +kernel
theorem dL_acts_1805 : decode cL_acts 1805 = .ok (.iload 11, 2) := by decide +kernel
theorem dL_acts_1807 : decode cL_acts 1807 = .ok (.invokestatic 169, 3) := by decide +kernel
theorem dL_acts_1810 : decode cL_acts 1810 = .ok (.iload 17, 2) := by decide +kernel
theorem dL_acts_1812 : decode cL_acts 1812 = .ok (.ifCond .eq 7, 3) := by decide +kernel
theorem dL_acts_1815 : decode cL_acts 1815 = .ok (.iconst 0, 1) := by decide +kernel
theorem dL_acts_1816 : decode cL_acts 1816 = .ok (.goto 5, 3) := by decide +kernel
theorem dL_acts_1819 : decode cL_acts 1819 = .ok (.ldc 21, 2) := by decide +kernel
theorem dL_acts_1821 : decode cL_acts 1821 = .ok (.if_icmp .ne 44, 3) := by decide +kernel
theorem dL_acts_1824 : decode cL_acts 1824 = .ok (.aload_n 1, 1) := by decide +kernel
theorem dL_acts_1825 : decode cL_acts 1825 = .ok (.iload 13, 2) := by decide +kernel
theorem dL_acts_1827 : decode cL_acts 1827 = .ok (.iload 11, 2) := by decide +kernel
theorem dL_acts_1829 : decode cL_acts 1829 = .ok (.invokestatic 169, 3) := by decide +kernel
theorem dL_acts_1832 : decode cL_acts 1832 = .ok (.iload 17, 2) := by decide +kernel
theorem dL_acts_1834 : decode cL_acts 1834 = .ok (.ifCond .eq 7, 3) := by decide +kernel
theorem dL_acts_1837 : decode cL_acts 1837 = .ok (.iconst 0, 1) := by decide +kernel
theorem dL_acts_1838 : decode cL_acts 1838 = .ok (.goto 5, 3) := by decide +kernel
theorem dL_acts_1841 : decode cL_acts 1841 = .ok (.ldc 21, 2) := by decide +kernel
theorem dL_acts_1843 : decode cL_acts 1843 = .ok (.if_icmp .ne 22, 3) := by decide +kernel
theorem dL_acts_1846 : decode cL_acts 1846 = .ok (.aload_n 0, 1) := by decide +kernel
theorem dL_acts_1847 : decode cL_acts 1847 = .ok (.aload 6, 2) := by decide +kernel
theorem dL_acts_1849 : decode cL_acts 1849 = .ok (.iconst 3, 1) := by decide +kernel
theorem dL_acts_1850 : decode cL_acts 1850 = .ok (.iaload, 1) := by decide +kernel
theorem dL_acts_1851 : decode cL_acts 1851 = .ok (.iload 11, 2) := by decide +kernel
theorem dL_acts_1853 : decode cL_acts 1853 = .ok (.invokestatic 169, 3) := by decide +kernel
theorem dL_acts_1856 : decode cL_acts 1856 = .ok (.ldc 28, 2) := by decide +kernel
theorem dL_acts_1858 : decode cL_acts 1858 = .ok (.if_icmp .ne 7, 3) := by decide +kernel
theorem dL_acts_1861 : decode cL_acts 1861 = .ok (.iconst 1, 1) := by decide +kernel
theorem dL_acts_1862 : decode cL_acts 1862 = .ok (.goto 4, 3) := by decide +kernel
theorem dL_acts_1865 : decode cL_acts 1865 = .ok (.iconst 0, 1) := by decide +kernel
theorem dL_acts_1866 : decode cL_acts 1866 = .ok (.ireturn, 1) := by decide +kernel
theorem dL_acts_1867 : decode cL_acts 1867 = .ok (.iload 9, 2) := by decide +kernel
theorem dL_acts_1869 : decode cL_acts 1869 = .ok (.bipush 26, 2) := by decide +kernel
theorem dL_acts_1871 : decode cL_acts 1871 = .ok (.if_icmp .ne 190, 3) := by decide +kernel
theorem dL_acts_1874 : decode cL_acts 1874 = .ok (.aload 6, 2) := by decide +kernel
theorem dL_acts_1876 : decode cL_acts 1876 = .ok (.iconst 5, 1) := by decide +kernel
theorem dL_acts_1877 : decode cL_acts 1877 = .ok (.iaload, 1) := by decide +kernel
theorem dL_acts_1878 : decode cL_acts 1878 = .ok (.bipush 20, 2) := by decide +kernel
theorem dL_acts_1880 : decode cL_acts 1880 = .ok (.if_icmp .ge 10, 3) := by decide +kernel
theorem dL_acts_1883 : decode cL_acts 1883 = .ok (.aload 6, 2) := by decide +kernel
theorem dL_acts_1885 : decode cL_acts 1885 = .ok (.iconst 5, 1) := by decide +kernel
theorem dL_acts_1886 : decode cL_acts 1886 = .ok (.iaload, 1) := by decide +kernel
theorem dL_acts_1887 : decode cL_acts 1887 = .ok (.goto 5, 3) := by decide +kernel
theorem dL_acts_1890 : decode cL_acts 1890 = .ok (.ldc 21, 2) := by decide +kernel
theorem dL_acts_1892 : decode cL_acts 1892 = .ok (.istore 13, 2) := by decide +kernel
theorem dL_acts_1894 : decode cL_acts 1894 = .ok (.aload 6, 2) := by decide +kernel
theorem dL_acts_1896 : decode cL_acts 1896 = .ok (.iconst 5, 1) := by decide +kernel
theorem dL_acts_1897 : decode cL_acts 1897 = .ok (.dup2, 1) := by decide +kernel
theorem dL_acts_1898 : decode cL_acts 1898 = .ok (.iaload, 1) := by decide +kernel
theorem dL_acts_1899 : decode cL_acts 1899 = .ok (.iload 13, 2) := by decide +kernel
theorem dL_acts_1901 : decode cL_acts 1901 = .ok (.ifCond .ge 7, 3) := by decide +kernel
theorem dL_acts_1904 : decode cL_acts 1904 = .ok (.iconst 0, 1) := by decide +kernel
theorem dL_acts_1905 : decode cL_acts 1905 = .ok (.goto 4, 3) := by decide +kernel
theorem dL_acts_1908 : decode cL_acts 1908 = .ok (.iconst 1, 1) := by decide +kernel
theorem dL_acts_1909 : decode cL_acts 1909 = .ok (.iadd, 1) := by decide +kernel
theorem dL_acts_1910 : decode cL_acts 1910 = .ok (.iastore, 1) := by decide +kernel
theorem dL_acts_1911 : decode cL_acts 1911 = .ok (.aload_n 0, 1) := by decide +kernel
theorem dL_acts_1912 : decode cL_acts 1912 = .ok (.iload 11, 2) := by decide +kernel
theorem dL_acts_1914 : decode cL_acts 1914 = .ok (.invokestatic 130, 3) := by decide +kernel
theorem dL_acts_1917 : decode cL_acts 1917 = .ok (.istore 14, 2) := by decide +kernel
theorem dL_acts_1919 : decode cL_acts 1919 = .ok (.aload_n 0, 1) := by decide +kernel
theorem dL_acts_1920 : decode cL_acts 1920 = .ok (.invokestatic 171, 3) := by decide +kernel
theorem dL_acts_1923 : decode cL_acts 1923 = .ok (.iload 13, 2) := by decide +kernel
theorem dL_acts_1925 : decode cL_acts 1925 = .ok (.if_icmp .ne 31, 3) := by decide +kernel
theorem dL_acts_1928 : decode cL_acts 1928 = .ok (.aload_n 1, 1) := by decide +kernel
theorem dL_acts_1929 : decode cL_acts 1929 = .ok (.invokestatic 171, 3) := by decide +kernel
theorem dL_acts_1932 : decode cL_acts 1932 = .ok (.iload 13, 2) := by decide +kernel
theorem dL_acts_1934 : decode cL_acts 1934 = .ok (.if_icmp .ne 22, 3) := by decide +kernel
theorem dL_acts_1937 : decode cL_acts 1937 = .ok (.aload_n 0, 1) := by decide +kernel
theorem dL_acts_1938 : decode cL_acts 1938 = .ok (.aload 6, 2) := by decide +kernel
theorem dL_acts_1940 : decode cL_acts 1940 = .ok (.iconst 5, 1) := by decide +kernel
theorem dL_acts_1941 : decode cL_acts 1941 = .ok (.iaload, 1) := by decide +kernel
theorem dL_acts_1942 : decode cL_acts 1942 = .ok (.iload 11, 2) := by decide +kernel
theorem dL_acts_1944 : decode cL_acts 1944 = .ok (.invokestatic 174, 3) := by decide +kernel
theorem dL_acts_1947 : decode cL_acts 1947 = .ok (.ldc 94, 2) := by decide +kernel
theorem dL_acts_1949 : decode cL_acts 1949 = .ok (.if_icmp .ne 7, 3) := by decide +kernel
theorem dL_acts_1952 : decode cL_acts 1952 = .ok (.iconst 1, 1) := by decide +kernel
theorem dL_acts_1953 : decode cL_acts 1953 = .ok (.goto 4, 3) := by decide +kernel
theorem dL_acts_1956 : decode cL_acts 1956 = .ok (.iconst 0, 1) := by decide +kernel
theorem dL_acts_1957 : decode cL_acts 1957 = .ok (.istore 15, 2) := by decide +kernel
theorem dL_acts_1959 : decode cL_acts 1959 = .ok (.iload 13, 2) := by decide +kernel
theorem dL_acts_1961 : decode cL_acts 1961 = .ok (.ifCond .ge 6, 3) := by decide +kernel
theorem dL_acts_1964 : decode cL_acts 1964 = .ok (.iload 15, 2) := by decide +kernel
theorem dL_acts_1966 : decode cL_acts 1966 = .ok (.ireturn, 1) := by decide +kernel
theorem dL_acts_1967 : decode cL_acts 1967 = .ok (.aload_n 3, 1) := by decide +kernel
theorem dL_acts_1968 : decode cL_acts 1968 = .ok (.iconst 3, 1) := by decide +kernel
theorem dL_acts_1969 : decode cL_acts 1969 = .ok (.iload 11, 2) := by decide +kernel
theorem dL_acts_1971 : decode cL_acts 1971 = .ok (.imul, 1) := by decide +kernel
theorem dL_acts_1972 : decode cL_acts 1972 = .ok (.iconst 2, 1) := by decide +kernel
theorem dL_acts_1973 : decode cL_acts 1973 = .ok (.iadd, 1) := by decide +kernel
theorem dL_acts_1974 : decode cL_acts 1974 = .ok (.iaload, 1) := by decide +kernel
theorem dL_acts_1975 : decode cL_acts 1975 = .ok (.bipush 7, 2) := by decide +kernel
theorem dL_acts_1977 : decode cL_acts 1977 = .ok (.iadd, 1) := by decide +kernel
theorem dL_acts_1978 : decode cL_acts 1978 = .ok (.istore 16, 2) := by decide +kernel
theorem dL_acts_1980 : decode cL_acts 1980 = .ok (.iload 15, 2) := by decide +kernel
theorem dL_acts_1982 : decode cL_acts 1982 = .ok (.ifCond .eq 77, 3) := by decide +kernel
theorem dL_acts_1985 : decode cL_acts 1985 = .ok (.aload_n 0, 1) := by decide +kernel
theorem dL_acts_1986 : decode cL_acts 1986 = .ok (.iload 13, 2) := by decide +kernel
theorem dL_acts_1988 : decode cL_acts 1988 = .ok (.iload 11, 2) := by decide +kernel
theorem dL_acts_1990 : decode cL_acts 1990 = .ok (.invokestatic 174, 3) := by decide +kernel
theorem dL_acts_1993 : decode cL_acts 1993 = .ok (.ifCond .ne 66, 3) := by decide +kernel
theorem dL_acts_1996 : decode cL_acts 1996 = .ok (.aload_n 0, 1) := by decide +kernel
theorem dL_acts_1997 : decode cL_acts 1997 = .ok (.iload 11, 2) := by decide +kernel
theorem dL_acts_1999 : decode cL_acts 1999 = .ok (.iload 16, 2) := by decide +kernel
theorem dL_acts_2001 : decode cL_acts 2001 = .ok (.invokestatic 161, 3) := by decide +kernel
theorem dL_acts_2004 : decode cL_acts 2004 = .ok (.iload 16, 2) := by decide +kernel
theorem dL_acts_2006 : decode cL_acts 2006 = .ok (.bipush 7, 2) := by decide +kernel
theorem dL_acts_2008 : decode cL_acts 2008 = .ok (.isub, 1) := by decide +kernel
theorem dL_acts_2009 : decode cL_acts 2009 = .ok (.if_icmp .ne 50, 3) := by decide +kernel
theorem dL_acts_2012 : decode cL_acts 2012 = .ok (.aload_n 0, 1) := by decide +kernel
theorem dL_acts_2013 : decode cL_acts 2013 = .ok (.iload 13, 2) := by decide +kernel
theorem dL_acts_2015 : decode cL_acts 2015 = .ok (.iload 11, 2) := by decide +kernel
theorem dL_acts_2017 : decode cL_acts 2017 = .ok (.invokestatic 174, 3) := by decide +kernel
theorem dL_acts_2020 : decode cL_acts 2020 = .ok (.bipush 7, 2) := by decide +kernel
theorem dL_acts_2022 : decode cL_acts 2022 = .ok (.if_icmp .ne 37, 3) := by decide +kernel
theorem dL_acts_2025 : decode cL_acts 2025 = .ok (.aload_n 0, 1) := by decide +kernel
theorem dL_acts_2026 : decode cL_acts 2026 = .ok (.iload 11, 2) := by decide +kernel
theorem dL_acts_2028 : decode cL_acts 2028 = .ok (.invokestatic 130, 3) := by decide +kernel
theorem dL_acts_2031 : decode cL_acts 2031 = .ok (.iload 14, 2) := by decide +kernel
theorem dL_acts_2033 : decode cL_acts 2033 = .ok (.bipush 7, 2) := by decide +kernel
theorem dL_acts_2035 : decode cL_acts 2035 = .ok (.iadd, 1) := by decide +kernel
theorem dL_acts_2036 : decode cL_acts 2036 = .ok (.if_icmp .ne 23, 3) := by decide +kernel
theorem dL_acts_2039 : decode cL_acts 2039 = .ok (.aload_n 0, 1) := by decide +kernel
theorem dL_acts_2040 : decode cL_acts 2040 = .ok (.iload 11, 2) := by decide +kernel
theorem dL_acts_2042 : decode cL_acts 2042 = .ok (.iload 16, 2) := by decide +kernel
theorem dL_acts_2044 : decode cL_acts 2044 = .ok (.bipush 7, 2) := by decide +kernel
theorem dL_acts_2046 : decode cL_acts 2046 = .ok (.isub, 1) := by decide +kernel
theorem dL_acts_2047 : decode cL_acts 2047 = .ok (.invokestatic 161, 3) := by decide +kernel
theorem dL_acts_2050 : decode cL_acts 2050 = .ok (.iload 16, 2) := by decide +kernel
theorem dL_acts_2052 : decode cL_acts 2052 = .ok (.if_icmp .ne 7, 3) := by decide +kernel
theorem dL_acts_2055 : decode cL_acts 2055 = .ok (.iconst 1, 1) := by decide +kernel
theorem dL_acts_2056 : decode cL_acts 2056 = .ok (.goto 4, 3) := by decide +kernel
theorem dL_acts_2059 : decode cL_acts 2059 = .ok (.iconst 0, 1) := by decide +kernel
theorem dL_acts_2060 : decode cL_acts 2060 = .ok (.ireturn, 1) := by decide +kernel
theorem dL_acts_2061 : decode cL_acts 2061 = .ok (.iconst 1, 1) := by decide +kernel
theorem dL_acts_2062 : decode cL_acts 2062 = .ok (.iload 8, 2) := by decide +kernel
theorem dL_acts_2064 : decode cL_acts 2064 = .ok (.iload 7, 2) := by decide +kernel
theorem dL_acts_2066 : decode cL_acts 2066 = .ok (.bipush 8, 2) := by decide +kernel
theorem dL_acts_2068 : decode cL_acts 2068 = .ok (.ishr, 1) := by decide +kernel
theorem dL_acts_2069 : decode cL_acts 2069 = .ok (.iconst 4, 1) := by decide +kernel
theorem dL_acts_2070 : decode cL_acts 2070 = .ok (.invokestatic 147, 3) := by decide +kernel
theorem dL_acts_2073 : decode cL_acts 2073 = .ok (.ifCond .ne 9, 3) := by decide +kernel
theorem dL_acts_2076 : decode cL_acts 2076 = .ok (.sipush 1000, 3) := by decide +kernel
theorem dL_acts_2079 : decode cL_acts 2079 = .ok (.goto 5, 3) := by decide +kernel
theorem dL_acts_2082 : decode cL_acts 2082 = .ok (.bipush 20, 2) := by decide +kernel
theorem dL_acts_2084 : decode cL_acts 2084 = .ok (.invokestatic 147, 3) := by decide +kernel
theorem dL_acts_2087 : decode cL_acts 2087 = .ok (.iadd, 1) := by decide +kernel
theorem dL_acts_2088 : decode cL_acts 2088 = .ok (.istore 13, 2) := by decide +kernel
theorem dL_acts_2090 : decode cL_acts 2090 = .ok (.aload 6, 2) := by decide +kernel
theorem dL_acts_2092 : decode cL_acts 2092 = .ok (.bipush 6, 2) := by decide +kernel
theorem dL_acts_2094 : decode cL_acts 2094 = .ok (.dup2, 1) := by decide +kernel
theorem dL_acts_2095 : decode cL_acts 2095 = .ok (.iaload, 1) := by decide +kernel
theorem dL_acts_2096 : decode cL_acts 2096 = .ok (.iload 13, 2) := by decide +kernel
theorem dL_acts_2098 : decode cL_acts 2098 = .ok (.iadd, 1) := by decide +kernel
theorem dL_acts_2099 : decode cL_acts 2099 = .ok (.iastore, 1) := by decide +kernel
theorem dL_acts_2100 : decode cL_acts 2100 = .ok (.aload_n 0, 1) := by decide +kernel
theorem dL_acts_2101 : decode cL_acts 2101 = .ok (.iload 13, 2) := by decide +kernel
theorem dL_acts_2103 : decode cL_acts 2103 = .ok (.invokestatic 176, 3) := by decide +kernel
theorem dL_acts_2106 : decode cL_acts 2106 = .ok (.aload 6, 2) := by decide +kernel
theorem dL_acts_2108 : decode cL_acts 2108 = .ok (.bipush 6, 2) := by decide +kernel
theorem dL_acts_2110 : decode cL_acts 2110 = .ok (.iaload, 1) := by decide +kernel
theorem dL_acts_2111 : decode cL_acts 2111 = .ok (.if_icmp .ne 43, 3) := by decide +kernel
theorem dL_acts_2114 : decode cL_acts 2114 = .ok (.aload_n 1, 1) := by decide +kernel
theorem dL_acts_2115 : decode cL_acts 2115 = .ok (.iload 13, 2) := by decide +kernel
theorem dL_acts_2117 : decode cL_acts 2117 = .ok (.invokestatic 176, 3) := by decide +kernel
theorem dL_acts_2120 : decode cL_acts 2120 = .ok (.aload 6, 2) := by decide +kernel
theorem dL_acts_2122 : decode cL_acts 2122 = .ok (.bipush 6, 2) := by decide +kernel
theorem dL_acts_2124 : decode cL_acts 2124 = .ok (.iaload, 1) := by decide +kernel
theorem dL_acts_2125 : decode cL_acts 2125 = .ok (.if_icmp .ne 29, 3) := by decide +kernel
theorem dL_acts_2128 : decode cL_acts 2128 = .ok (.aload_n 0, 1) := by decide +kernel
theorem dL_acts_2129 : decode cL_acts 2129 = .ok (.iconst 0, 1) := by decide +kernel
theorem dL_acts_2130 : decode cL_acts 2130 = .ok (.invokestatic 176, 3) := by decide +kernel
theorem dL_acts_2133 : decode cL_acts 2133 = .ok (.ldc 18, 2) := by decide +kernel
theorem dL_acts_2135 : decode cL_acts 2135 = .ok (.if_icmp .ne 19, 3) := by decide +kernel
theorem dL_acts_2138 : decode cL_acts 2138 = .ok (.aload_n 0, 1) := by decide +kernel
theorem dL_acts_2139 : decode cL_acts 2139 = .ok (.sipush 1001, 3) := by decide +kernel
theorem dL_acts_2142 : decode cL_acts 2142 = .ok (.invokestatic 176, 3) := by decide +kernel
theorem dL_acts_2145 : decode cL_acts 2145 = .ok (.ldc 18, 2) := by decide +kernel
theorem dL_acts_2147 : decode cL_acts 2147 = .ok (.if_icmp .ne 7, 3) := by decide +kernel
theorem dL_acts_2150 : decode cL_acts 2150 = .ok (.iconst 1, 1) := by decide +kernel
theorem dL_acts_2151 : decode cL_acts 2151 = .ok (.goto 4, 3) := by decide +kernel
theorem dL_acts_2154 : decode cL_acts 2154 = .ok (.iconst 0, 1) := by decide +kernel
theorem dL_acts_2155 : decode cL_acts 2155 = .ok (.ireturn, 1) := by decide +kernel
