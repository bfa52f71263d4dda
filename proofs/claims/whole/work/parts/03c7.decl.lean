/-! the law's instructions -/
theorem dL_law__1541 : decode cL_law_ 1541 = .ok (.iconst 4, 1) := by decide +kernel
theorem dL_law__1542 : decode cL_law_ 1542 = .ok (.iadd, 1) := by decide +kernel
theorem dL_law__1543 : decode cL_law_ 1543 = .ok (.iaload, 1) := by decide +kernel
theorem dL_law__1544 : decode cL_law_ 1544 = .ok (.ifCond .eq 7, 3) := by decide +kernel
theorem dL_law__1547 : decode cL_law_ 1547 = .ok (.iconst 1, 1) := by decide +kernel
theorem dL_law__1548 : decode cL_law_ 1548 = .ok (.goto 4, 3) := by decide +kernel
theorem dL_law__1551 : decode cL_law_ 1551 = .ok (.iconst 0, 1) := by decide +kernel
theorem dL_law__1552 : decode cL_law_ 1552 = .ok (.aload_n 3, 1) := by decide +kernel
theorem dL_law__1553 : decode cL_law_ 1553 = .ok (.invokestatic 216, 3) := by decide +kernel
theorem dL_law__1556 : decode cL_law_ 1556 = .ok (.istore 5, 2) := by decide +kernel
theorem dL_law__1558 : decode cL_law_ 1558 = .ok (.aload_n 2, 1) := by decide +kernel
theorem dL_law__1559 : decode cL_law_ 1559 = .ok (.aload_n 0, 1) := by decide +kernel
theorem dL_law__1560 : decode cL_law_ 1560 = .ok (.iload 4, 2) := by decide +kernel
theorem dL_law__1562 : decode cL_law_ 1562 = .ok (.iconst 1, 1) := by decide +kernel
theorem dL_law__1563 : decode cL_law_ 1563 = .ok (.iadd, 1) := by decide +kernel
theorem dL_law__1564 : decode cL_law_ 1564 = .ok (.iaload, 1) := by decide +kernel
theorem dL_law__1565 : decode cL_law_ 1565 = .ok (.i2l, 1) := by decide +kernel
theorem dL_law__1566 : decode cL_law_ 1566 = .ok (.bipush 32, 2) := by decide +kernel
theorem dL_law__1568 : decode cL_law_ 1568 = .ok (.lshl, 1) := by decide +kernel
theorem dL_law__1569 : decode cL_law_ 1569 = .ok (.aload_n 0, 1) := by decide +kernel
theorem dL_law__1570 : decode cL_law_ 1570 = .ok (.iload 4, 2) := by decide +kernel
theorem dL_law__1572 : decode cL_law_ 1572 = .ok (.iconst 2, 1) := by decide +kernel
theorem dL_law__1573 : decode cL_law_ 1573 = .ok (.iadd, 1) := by decide +kernel
theorem dL_law__1574 : decode cL_law_ 1574 = .ok (.iaload, 1) := by decide +kernel
theorem dL_law__1575 : decode cL_law_ 1575 = .ok (.i2l, 1) := by decide +kernel
theorem dL_law__1576 : decode cL_law_ 1576 = .ok (.ldc2_w 178, 3) := by decide +kernel
theorem dL_law__1579 : decode cL_law_ 1579 = .ok (.land, 1) := by decide +kernel
theorem dL_law__1580 : decode cL_law_ 1580 = .ok (.lor, 1) := by decide +kernel
theorem dL_law__1581 : decode cL_law_ 1581 = .ok (.aload_n 0, 1) := by decide +kernel
theorem dL_law__1582 : decode cL_law_ 1582 = .ok (.iload 4, 2) := by decide +kernel
theorem dL_law__1584 : decode cL_law_ 1584 = .ok (.iconst 3, 1) := by decide +kernel
theorem dL_law__1585 : decode cL_law_ 1585 = .ok (.iadd, 1) := by decide +kernel
theorem dL_law__1586 : decode cL_law_ 1586 = .ok (.iaload, 1) := by decide +kernel
theorem dL_law__1587 : decode cL_law_ 1587 = .ok (.aload_n 0, 1) := by decide +kernel
theorem dL_law__1588 : decode cL_law_ 1588 = .ok (.iload 4, 2) := by decide +kernel
theorem dL_law__1590 : decode cL_law_ 1590 = .ok (.iconst 4, 1) := by decide +kernel
theorem dL_law__1591 : decode cL_law_ 1591 = .ok (.iadd, 1) := by decide +kernel
theorem dL_law__1592 : decode cL_law_ 1592 = .ok (.iaload, 1) := by decide +kernel
theorem dL_law__1593 : decode cL_law_ 1593 = .ok (.ifCond .eq 7, 3) := by decide +kernel
theorem dL_law__1596 : decode cL_law_ 1596 = .ok (.iconst 1, 1) := by decide +kernel
theorem dL_law__1597 : decode cL_law_ 1597 = .ok (.goto 4, 3) := by decide +kernel
theorem dL_law__1600 : decode cL_law_ 1600 = .ok (.iconst 0, 1) := by decide +kernel
theorem dL_law__1601 : decode cL_law_ 1601 = .ok (.invokevirtual 219, 3) := by decide +kernel
theorem dL_law__1604 : decode cL_law_ 1604 = .ok (.lstore 6, 2) := by decide +kernel
theorem dL_law__1606 : decode cL_law_ 1606 = .ok (.aload_n 2, 1) := by decide +kernel
theorem dL_law__1607 : decode cL_law_ 1607 = .ok (.invokevirtual 157, 3) := by decide +kernel
theorem dL_law__1610 : decode cL_law_ 1610 = .ok (.iload 5, 2) := by decide +kernel
theorem dL_law__1612 : decode cL_law_ 1612 = .ok (.if_icmp .eq 5, 3) := by decide +kernel
theorem dL_law__1615 : decode cL_law_ 1615 = .ok (.iconst 0, 1) := by decide +kernel
theorem dL_law__1616 : decode cL_law_ 1616 = .ok (.ireturn, 1) := by decide +kernel
theorem dL_law__1617 : decode cL_law_ 1617 = .ok (.iload 5, 2) := by decide +kernel
theorem dL_law__1619 : decode cL_law_ 1619 = .ok (.ifCond .ne 14, 3) := by decide +kernel
theorem dL_law__1622 : decode cL_law_ 1622 = .ok (.aload_n 3, 1) := by decide +kernel
theorem dL_law__1623 : decode cL_law_ 1623 = .ok (.iconst 0, 1) := by decide +kernel
theorem dL_law__1624 : decode cL_law_ 1624 = .ok (.laload, 1) := by decide +kernel
theorem dL_law__1625 : decode cL_law_ 1625 = .ok (.lload 6, 2) := by decide +kernel
theorem dL_law__1627 : decode cL_law_ 1627 = .ok (.lcmp, 1) := by decide +kernel
theorem dL_law__1628 : decode cL_law_ 1628 = .ok (.ifCond .eq 5, 3) := by decide +kernel
theorem dL_law__1631 : decode cL_law_ 1631 = .ok (.iconst 0, 1) := by decide +kernel
theorem dL_law__1632 : decode cL_law_ 1632 = .ok (.ireturn, 1) := by decide +kernel
theorem dL_law__1633 : decode cL_law_ 1633 = .ok (.goto 1702, 3) := by decide +kernel
theorem dL_law__1636 : decode cL_law_ 1636 = .ok (.aload_n 1, 1) := by decide +kernel
theorem dL_law__1637 : decode cL_law_ 1637 = .ok (.aload_n 0, 1) := by decide +kernel
theorem dL_law__1638 : decode cL_law_ 1638 = .ok (.iload 4, 2) := by decide +kernel
theorem dL_law__1640 : decode cL_law_ 1640 = .ok (.iconst 1, 1) := by decide +kernel
theorem dL_law__1641 : decode cL_law_ 1641 = .ok (.iadd, 1) := by decide +kernel
theorem dL_law__1642 : decode cL_law_ 1642 = .ok (.iaload, 1) := by decide +kernel
theorem dL_law__1643 : decode cL_law_ 1643 = .ok (.i2l, 1) := by decide +kernel
theorem dL_law__1644 : decode cL_law_ 1644 = .ok (.bipush 32, 2) := by decide +kernel
theorem dL_law__1646 : decode cL_law_ 1646 = .ok (.lshl, 1) := by decide +kernel
theorem dL_law__1647 : decode cL_law_ 1647 = .ok (.aload_n 0, 1) := by decide +kernel
theorem dL_law__1648 : decode cL_law_ 1648 = .ok (.iload 4, 2) := by decide +kernel
theorem dL_law__1650 : decode cL_law_ 1650 = .ok (.iconst 2, 1) := by decide +kernel
theorem dL_law__1651 : decode cL_law_ 1651 = .ok (.iadd, 1) := by decide +kernel
theorem dL_law__1652 : decode cL_law_ 1652 = .ok (.iaload, 1) := by decide +kernel
theorem dL_law__1653 : decode cL_law_ 1653 = .ok (.i2l, 1) := by decide +kernel
theorem dL_law__1654 : decode cL_law_ 1654 = .ok (.ldc2_w 178, 3) := by decide +kernel
theorem dL_law__1657 : decode cL_law_ 1657 = .ok (.land, 1) := by decide +kernel
theorem dL_law__1658 : decode cL_law_ 1658 = .ok (.lor, 1) := by decide +kernel
theorem dL_law__1659 : decode cL_law_ 1659 = .ok (.aload_n 0, 1) := by decide +kernel
theorem dL_law__1660 : decode cL_law_ 1660 = .ok (.iload 4, 2) := by decide +kernel
theorem dL_law__1662 : decode cL_law_ 1662 = .ok (.iconst 3, 1) := by decide +kernel
theorem dL_law__1663 : decode cL_law_ 1663 = .ok (.iadd, 1) := by decide +kernel
theorem dL_law__1664 : decode cL_law_ 1664 = .ok (.iaload, 1) := by decide +kernel
theorem dL_law__1665 : decode cL_law_ 1665 = .ok (.ifCond .eq 7, 3) := by decide +kernel
theorem dL_law__1668 : decode cL_law_ 1668 = .ok (.iconst 1, 1) := by decide +kernel
theorem dL_law__1669 : decode cL_law_ 1669 = .ok (.goto 4, 3) := by decide +kernel
theorem dL_law__1672 : decode cL_law_ 1672 = .ok (.iconst 0, 1) := by decide +kernel
theorem dL_law__1673 : decode cL_law_ 1673 = .ok (.aload_n 3, 1) := by decide +kernel
theorem dL_law__1674 : decode cL_law_ 1674 = .ok (.invokestatic 220, 3) := by decide +kernel
theorem dL_law__1677 : decode cL_law_ 1677 = .ok (.istore 5, 2) := by decide +kernel
theorem dL_law__1679 : decode cL_law_ 1679 = .ok (.aload_n 2, 1) := by decide +kernel
theorem dL_law__1680 : decode cL_law_ 1680 = .ok (.aload_n 0, 1) := by decide +kernel
theorem dL_law__1681 : decode cL_law_ 1681 = .ok (.iload 4, 2) := by decide +kernel
theorem dL_law__1683 : decode cL_law_ 1683 = .ok (.iconst 1, 1) := by decide +kernel
theorem dL_law__1684 : decode cL_law_ 1684 = .ok (.iadd, 1) := by decide +kernel
theorem dL_law__1685 : decode cL_law_ 1685 = .ok (.iaload, 1) := by decide +kernel
theorem dL_law__1686 : decode cL_law_ 1686 = .ok (.i2l, 1) := by decide +kernel
theorem dL_law__1687 : decode cL_law_ 1687 = .ok (.bipush 32, 2) := by decide +kernel
theorem dL_law__1689 : decode cL_law_ 1689 = .ok (.lshl, 1) := by decide +kernel
theorem dL_law__1690 : decode cL_law_ 1690 = .ok (.aload_n 0, 1) := by decide +kernel
theorem dL_law__1691 : decode cL_law_ 1691 = .ok (.iload 4, 2) := by decide +kernel
theorem dL_law__1693 : decode cL_law_ 1693 = .ok (.iconst 2, 1) := by decide +kernel
theorem dL_law__1694 : decode cL_law_ 1694 = .ok (.iadd, 1) := by decide +kernel
theorem dL_law__1695 : decode cL_law_ 1695 = .ok (.iaload, 1) := by decide +kernel
theorem dL_law__1696 : decode cL_law_ 1696 = .ok (.i2l, 1) := by decide +kernel
theorem dL_law__1697 : decode cL_law_ 1697 = .ok (.ldc2_w 178, 3) := by decide +kernel
theorem dL_law__1700 : decode cL_law_ 1700 = .ok (.land, 1) := by decide +kernel
theorem dL_law__1701 : decode cL_law_ 1701 = .ok (.lor, 1) := by decide +kernel
theorem dL_law__1702 : decode cL_law_ 1702 = .ok (.aload_n 0, 1) := by decide +kernel
theorem dL_law__1703 : decode cL_law_ 1703 = .ok (.iload 4, 2) := by decide +kernel
theorem dL_law__1705 : decode cL_law_ 1705 = .ok (.iconst 3, 1) := by decide +kernel
theorem dL_law__1706 : decode cL_law_ 1706 = .ok (.iadd, 1) := by decide +kernel
theorem dL_law__1707 : decode cL_law_ 1707 = .ok (.iaload, 1) := by decide +kernel
theorem dL_law__1708 : decode cL_law_ 1708 = .ok (.ifCond .eq 7, 3) := by decide +kernel
theorem dL_law__1711 : decode cL_law_ 1711 = .ok (.iconst 1, 1) := by decide +kernel
theorem dL_law__1712 : decode cL_law_ 1712 = .ok (.goto 4, 3) := by decide +kernel
theorem dL_law__1715 : decode cL_law_ 1715 = .ok (.iconst 0, 1) := by decide +kernel
theorem dL_law__1716 : decode cL_law_ 1716 = .ok (.invokevirtual 223, 3) := by decide +kernel
theorem dL_law__1719 : decode cL_law_ 1719 = .ok (.istore 6, 2) := by decide +kernel
theorem dL_law__1721 : decode cL_law_ 1721 = .ok (.aload_n 2, 1) := by decide +kernel
theorem dL_law__1722 : decode cL_law_ 1722 = .ok (.invokevirtual 157, 3) := by decide +kernel
theorem dL_law__1725 : decode cL_law_ 1725 = .ok (.iload 5, 2) := by decide +kernel
theorem dL_law__1727 : decode cL_law_ 1727 = .ok (.if_icmp .eq 5, 3) := by decide +kernel
theorem dL_law__1730 : decode cL_law_ 1730 = .ok (.iconst 0, 1) := by decide +kernel
theorem dL_law__1731 : decode cL_law_ 1731 = .ok (.ireturn, 1) := by decide +kernel
theorem dL_law__1732 : decode cL_law_ 1732 = .ok (.iload 5, 2) := by decide +kernel
theorem dL_law__1734 : decode cL_law_ 1734 = .ok (.ifCond .ne 15, 3) := by decide +kernel
theorem dL_law__1737 : decode cL_law_ 1737 = .ok (.aload_n 3, 1) := by decide +kernel
theorem dL_law__1738 : decode cL_law_ 1738 = .ok (.iconst 0, 1) := by decide +kernel
theorem dL_law__1739 : decode cL_law_ 1739 = .ok (.laload, 1) := by decide +kernel
theorem dL_law__1740 : decode cL_law_ 1740 = .ok (.iload 6, 2) := by decide +kernel
theorem dL_law__1742 : decode cL_law_ 1742 = .ok (.i2l, 1) := by decide +kernel
theorem dL_law__1743 : decode cL_law_ 1743 = .ok (.lcmp, 1) := by decide +kernel
theorem dL_law__1744 : decode cL_law_ 1744 = .ok (.ifCond .eq 5, 3) := by decide +kernel
theorem dL_law__1747 : decode cL_law_ 1747 = .ok (.iconst 0, 1) := by decide +kernel
theorem dL_law__1748 : decode cL_law_ 1748 = .ok (.ireturn, 1) := by decide +kernel
theorem dL_law__1749 : decode cL_law_ 1749 = .ok (.goto 1586, 3) := by decide +kernel
theorem dL_law__1752 : decode cL_law_ 1752 = .ok (.aload_n 1, 1) := by decide +kernel
theorem dL_law__1753 : decode cL_law_ 1753 = .ok (.aload_n 0, 1) := by decide +kernel
theorem dL_law__1754 : decode cL_law_ 1754 = .ok (.iload 4, 2) := by decide +kernel
theorem dL_law__1756 : decode cL_law_ 1756 = .ok (.iconst 1, 1) := by decide +kernel
theorem dL_law__1757 : decode cL_law_ 1757 = .ok (.iadd, 1) := by decide +kernel
theorem dL_law__1758 : decode cL_law_ 1758 = .ok (.iaload, 1) := by decide +kernel
theorem dL_law__1759 : decode cL_law_ 1759 = .ok (.i2l, 1) := by decide +kernel
theorem dL_law__1760 : decode cL_law_ 1760 = .ok (.bipush 32, 2) := by decide +kernel
theorem dL_law__1762 : decode cL_law_ 1762 = .ok (.lshl, 1) := by decide +kernel
theorem dL_law__1763 : decode cL_law_ 1763 = .ok (.aload_n 0, 1) := by decide +kernel
theorem dL_law__1764 : decode cL_law_ 1764 = .ok (.iload 4, 2) := by decide +kernel
theorem dL_law__1766 : decode cL_law_ 1766 = .ok (.iconst 2, 1) := by decide +kernel
