section Dec
theorem dL_law__1542 : decode cL_law_ 1542 = .ok (.iaload, 1) := by decide +kernel
theorem dL_law__1543 : decode cL_law_ 1543 = .ok (.invokevirtual 201, 3) := by decide +kernel
theorem dL_law__1546 : decode cL_law_ 1546 = .ok (.istore 6, 2) := by decide +kernel
theorem dL_law__1548 : decode cL_law_ 1548 = .ok (.aload_n 2, 1) := by decide +kernel
theorem dL_law__1549 : decode cL_law_ 1549 = .ok (.invokevirtual 134, 3) := by decide +kernel
theorem dL_law__1552 : decode cL_law_ 1552 = .ok (.iload 5, 2) := by decide +kernel
theorem dL_law__1554 : decode cL_law_ 1554 = .ok (.if_icmp .eq 5, 3) := by decide +kernel
theorem dL_law__1557 : decode cL_law_ 1557 = .ok (.iconst 0, 1) := by decide +kernel
theorem dL_law__1558 : decode cL_law_ 1558 = .ok (.ireturn, 1) := by decide +kernel
theorem dL_law__1559 : decode cL_law_ 1559 = .ok (.iload 5, 2) := by decide +kernel
theorem dL_law__1561 : decode cL_law_ 1561 = .ok (.ifCond .ne 15, 3) := by decide +kernel
theorem dL_law__1564 : decode cL_law_ 1564 = .ok (.aload_n 3, 1) := by decide +kernel
theorem dL_law__1565 : decode cL_law_ 1565 = .ok (.iconst 0, 1) := by decide +kernel
theorem dL_law__1566 : decode cL_law_ 1566 = .ok (.laload, 1) := by decide +kernel
theorem dL_law__1567 : decode cL_law_ 1567 = .ok (.iload 6, 2) := by decide +kernel
theorem dL_law__1569 : decode cL_law_ 1569 = .ok (.i2l, 1) := by decide +kernel
theorem dL_law__1570 : decode cL_law_ 1570 = .ok (.lcmp, 1) := by decide +kernel
theorem dL_law__1571 : decode cL_law_ 1571 = .ok (.ifCond .eq 5, 3) := by decide +kernel
theorem dL_law__1574 : decode cL_law_ 1574 = .ok (.iconst 0, 1) := by decide +kernel
theorem dL_law__1575 : decode cL_law_ 1575 = .ok (.ireturn, 1) := by decide +kernel
theorem dL_law__1576 : decode cL_law_ 1576 = .ok (.goto 1116, 3) := by decide +kernel
theorem dL_law__1579 : decode cL_law_ 1579 = .ok (.aload_n 1, 1) := by decide +kernel
theorem dL_law__1580 : decode cL_law_ 1580 = .ok (.aload_n 0, 1) := by decide +kernel
theorem dL_law__1581 : decode cL_law_ 1581 = .ok (.iload 4, 2) := by decide +kernel
theorem dL_law__1583 : decode cL_law_ 1583 = .ok (.iconst 1, 1) := by decide +kernel
theorem dL_law__1584 : decode cL_law_ 1584 = .ok (.iadd, 1) := by decide +kernel
theorem dL_law__1585 : decode cL_law_ 1585 = .ok (.iaload, 1) := by decide +kernel
theorem dL_law__1586 : decode cL_law_ 1586 = .ok (.aload_n 0, 1) := by decide +kernel
theorem dL_law__1587 : decode cL_law_ 1587 = .ok (.iload 4, 2) := by decide +kernel
theorem dL_law__1589 : decode cL_law_ 1589 = .ok (.iconst 2, 1) := by decide +kernel
theorem dL_law__1590 : decode cL_law_ 1590 = .ok (.iadd, 1) := by decide +kernel
theorem dL_law__1591 : decode cL_law_ 1591 = .ok (.iaload, 1) := by decide +kernel
theorem dL_law__1592 : decode cL_law_ 1592 = .ok (.aload_n 3, 1) := by decide +kernel
theorem dL_law__1593 : decode cL_law_ 1593 = .ok (.invokestatic 202, 3) := by decide +kernel
theorem dL_law__1596 : decode cL_law_ 1596 = .ok (.istore 5, 2) := by decide +kernel
theorem dL_law__1598 : decode cL_law_ 1598 = .ok (.aload_n 2, 1) := by decide +kernel
theorem dL_law__1599 : decode cL_law_ 1599 = .ok (.aload_n 0, 1) := by decide +kernel
theorem dL_law__1600 : decode cL_law_ 1600 = .ok (.iload 4, 2) := by decide +kernel
theorem dL_law__1602 : decode cL_law_ 1602 = .ok (.iconst 1, 1) := by decide +kernel
theorem dL_law__1603 : decode cL_law_ 1603 = .ok (.iadd, 1) := by decide +kernel
theorem dL_law__1604 : decode cL_law_ 1604 = .ok (.iaload, 1) := by decide +kernel
theorem dL_law__1605 : decode cL_law_ 1605 = .ok (.aload_n 0, 1) := by decide +kernel
theorem dL_law__1606 : decode cL_law_ 1606 = .ok (.iload 4, 2) := by decide +kernel
theorem dL_law__1608 : decode cL_law_ 1608 = .ok (.iconst 2, 1) := by decide +kernel
theorem dL_law__1609 : decode cL_law_ 1609 = .ok (.iadd, 1) := by decide +kernel
theorem dL_law__1610 : decode cL_law_ 1610 = .ok (.iaload, 1) := by decide +kernel
theorem dL_law__1611 : decode cL_law_ 1611 = .ok (.invokevirtual 204, 3) := by decide +kernel
theorem dL_law__1614 : decode cL_law_ 1614 = .ok (.istore 6, 2) := by decide +kernel
theorem dL_law__1616 : decode cL_law_ 1616 = .ok (.aload_n 2, 1) := by decide +kernel
theorem dL_law__1617 : decode cL_law_ 1617 = .ok (.invokevirtual 134, 3) := by decide +kernel
theorem dL_law__1620 : decode cL_law_ 1620 = .ok (.iload 5, 2) := by decide +kernel
theorem dL_law__1622 : decode cL_law_ 1622 = .ok (.if_icmp .eq 5, 3) := by decide +kernel
theorem dL_law__1625 : decode cL_law_ 1625 = .ok (.iconst 0, 1) := by decide +kernel
theorem dL_law__1626 : decode cL_law_ 1626 = .ok (.ireturn, 1) := by decide +kernel
theorem dL_law__1627 : decode cL_law_ 1627 = .ok (.iload 5, 2) := by decide +kernel
theorem dL_law__1629 : decode cL_law_ 1629 = .ok (.ifCond .ne 15, 3) := by decide +kernel
theorem dL_law__1632 : decode cL_law_ 1632 = .ok (.aload_n 3, 1) := by decide +kernel
theorem dL_law__1633 : decode cL_law_ 1633 = .ok (.iconst 0, 1) := by decide +kernel
theorem dL_law__1634 : decode cL_law_ 1634 = .ok (.laload, 1) := by decide +kernel
theorem dL_law__1635 : decode cL_law_ 1635 = .ok (.iload 6, 2) := by decide +kernel
theorem dL_law__1637 : decode cL_law_ 1637 = .ok (.i2l, 1) := by decide +kernel
theorem dL_law__1638 : decode cL_law_ 1638 = .ok (.lcmp, 1) := by decide +kernel
theorem dL_law__1639 : decode cL_law_ 1639 = .ok (.ifCond .eq 5, 3) := by decide +kernel
theorem dL_law__1642 : decode cL_law_ 1642 = .ok (.iconst 0, 1) := by decide +kernel
theorem dL_law__1643 : decode cL_law_ 1643 = .ok (.ireturn, 1) := by decide +kernel
theorem dL_law__1644 : decode cL_law_ 1644 = .ok (.goto 1048, 3) := by decide +kernel
theorem dL_law__1647 : decode cL_law_ 1647 = .ok (.aload_n 1, 1) := by decide +kernel
theorem dL_law__1648 : decode cL_law_ 1648 = .ok (.aload_n 0, 1) := by decide +kernel
theorem dL_law__1649 : decode cL_law_ 1649 = .ok (.iload 4, 2) := by decide +kernel
theorem dL_law__1651 : decode cL_law_ 1651 = .ok (.iconst 1, 1) := by decide +kernel
theorem dL_law__1652 : decode cL_law_ 1652 = .ok (.iadd, 1) := by decide +kernel
theorem dL_law__1653 : decode cL_law_ 1653 = .ok (.iaload, 1) := by decide +kernel
theorem dL_law__1654 : decode cL_law_ 1654 = .ok (.aload_n 0, 1) := by decide +kernel
theorem dL_law__1655 : decode cL_law_ 1655 = .ok (.iload 4, 2) := by decide +kernel
theorem dL_law__1657 : decode cL_law_ 1657 = .ok (.iconst 2, 1) := by decide +kernel
theorem dL_law__1658 : decode cL_law_ 1658 = .ok (.iadd, 1) := by decide +kernel
theorem dL_law__1659 : decode cL_law_ 1659 = .ok (.iaload, 1) := by decide +kernel
theorem dL_law__1660 : decode cL_law_ 1660 = .ok (.aload_n 0, 1) := by decide +kernel
theorem dL_law__1661 : decode cL_law_ 1661 = .ok (.iload 4, 2) := by decide +kernel
theorem dL_law__1663 : decode cL_law_ 1663 = .ok (.iconst 3, 1) := by decide +kernel
theorem dL_law__1664 : decode cL_law_ 1664 = .ok (.iadd, 1) := by decide +kernel
theorem dL_law__1665 : decode cL_law_ 1665 = .ok (.iaload, 1) := by decide +kernel
theorem dL_law__1666 : decode cL_law_ 1666 = .ok (.aload_n 0, 1) := by decide +kernel
theorem dL_law__1667 : decode cL_law_ 1667 = .ok (.iload 4, 2) := by decide +kernel
theorem dL_law__1669 : decode cL_law_ 1669 = .ok (.iconst 4, 1) := by decide +kernel
theorem dL_law__1670 : decode cL_law_ 1670 = .ok (.iadd, 1) := by decide +kernel
theorem dL_law__1671 : decode cL_law_ 1671 = .ok (.iaload, 1) := by decide +kernel
theorem dL_law__1672 : decode cL_law_ 1672 = .ok (.aload_n 3, 1) := by decide +kernel
theorem dL_law__1673 : decode cL_law_ 1673 = .ok (.invokestatic 205, 3) := by decide +kernel
theorem dL_law__1676 : decode cL_law_ 1676 = .ok (.istore 5, 2) := by decide +kernel
theorem dL_law__1678 : decode cL_law_ 1678 = .ok (.aload_n 2, 1) := by decide +kernel
theorem dL_law__1679 : decode cL_law_ 1679 = .ok (.aload_n 0, 1) := by decide +kernel
theorem dL_law__1680 : decode cL_law_ 1680 = .ok (.iload 4, 2) := by decide +kernel
theorem dL_law__1682 : decode cL_law_ 1682 = .ok (.iconst 1, 1) := by decide +kernel
theorem dL_law__1683 : decode cL_law_ 1683 = .ok (.iadd, 1) := by decide +kernel
theorem dL_law__1684 : decode cL_law_ 1684 = .ok (.iaload, 1) := by decide +kernel
theorem dL_law__1685 : decode cL_law_ 1685 = .ok (.aload_n 0, 1) := by decide +kernel
theorem dL_law__1686 : decode cL_law_ 1686 = .ok (.iload 4, 2) := by decide +kernel
theorem dL_law__1688 : decode cL_law_ 1688 = .ok (.iconst 2, 1) := by decide +kernel
theorem dL_law__1689 : decode cL_law_ 1689 = .ok (.iadd, 1) := by decide +kernel
theorem dL_law__1690 : decode cL_law_ 1690 = .ok (.iaload, 1) := by decide +kernel
theorem dL_law__1691 : decode cL_law_ 1691 = .ok (.aload_n 0, 1) := by decide +kernel
theorem dL_law__1692 : decode cL_law_ 1692 = .ok (.iload 4, 2) := by decide +kernel
theorem dL_law__1694 : decode cL_law_ 1694 = .ok (.iconst 3, 1) := by decide +kernel
theorem dL_law__1695 : decode cL_law_ 1695 = .ok (.iadd, 1) := by decide +kernel
theorem dL_law__1696 : decode cL_law_ 1696 = .ok (.iaload, 1) := by decide +kernel
theorem dL_law__1697 : decode cL_law_ 1697 = .ok (.aload_n 0, 1) := by decide +kernel
theorem dL_law__1698 : decode cL_law_ 1698 = .ok (.iload 4, 2) := by decide +kernel
theorem dL_law__1700 : decode cL_law_ 1700 = .ok (.iconst 4, 1) := by decide +kernel
theorem dL_law__1701 : decode cL_law_ 1701 = .ok (.iadd, 1) := by decide +kernel
theorem dL_law__1702 : decode cL_law_ 1702 = .ok (.iaload, 1) := by decide +kernel
theorem dL_law__1703 : decode cL_law_ 1703 = .ok (.invokevirtual 208, 3) := by decide +kernel
theorem dL_law__1706 : decode cL_law_ 1706 = .ok (.lstore 6, 2) := by decide +kernel
theorem dL_law__1708 : decode cL_law_ 1708 = .ok (.aload_n 2, 1) := by decide +kernel
theorem dL_law__1709 : decode cL_law_ 1709 = .ok (.invokevirtual 134, 3) := by decide +kernel
theorem dL_law__1712 : decode cL_law_ 1712 = .ok (.iload 5, 2) := by decide +kernel
theorem dL_law__1714 : decode cL_law_ 1714 = .ok (.if_icmp .eq 5, 3) := by decide +kernel
theorem dL_law__1717 : decode cL_law_ 1717 = .ok (.iconst 0, 1) := by decide +kernel
theorem dL_law__1718 : decode cL_law_ 1718 = .ok (.ireturn, 1) := by decide +kernel
theorem dL_law__1719 : decode cL_law_ 1719 = .ok (.iload 5, 2) := by decide +kernel
theorem dL_law__1721 : decode cL_law_ 1721 = .ok (.ifCond .ne 14, 3) := by decide +kernel
theorem dL_law__1724 : decode cL_law_ 1724 = .ok (.aload_n 3, 1) := by decide +kernel
theorem dL_law__1725 : decode cL_law_ 1725 = .ok (.iconst 0, 1) := by decide +kernel
theorem dL_law__1726 : decode cL_law_ 1726 = .ok (.laload, 1) := by decide +kernel
theorem dL_law__1727 : decode cL_law_ 1727 = .ok (.lload 6, 2) := by decide +kernel
theorem dL_law__1729 : decode cL_law_ 1729 = .ok (.lcmp, 1) := by decide +kernel
theorem dL_law__1730 : decode cL_law_ 1730 = .ok (.ifCond .eq 5, 3) := by decide +kernel
theorem dL_law__1733 : decode cL_law_ 1733 = .ok (.iconst 0, 1) := by decide +kernel
theorem dL_law__1734 : decode cL_law_ 1734 = .ok (.ireturn, 1) := by decide +kernel
theorem dL_law__1735 : decode cL_law_ 1735 = .ok (.goto 957, 3) := by decide +kernel
theorem dL_law__1738 : decode cL_law_ 1738 = .ok (.aload_n 1, 1) := by decide +kernel
theorem dL_law__1739 : decode cL_law_ 1739 = .ok (.aload_n 0, 1) := by decide +kernel
theorem dL_law__1740 : decode cL_law_ 1740 = .ok (.iload 4, 2) := by decide +kernel
theorem dL_law__1742 : decode cL_law_ 1742 = .ok (.iconst 1, 1) := by decide +kernel
theorem dL_law__1743 : decode cL_law_ 1743 = .ok (.iadd, 1) := by decide +kernel
theorem dL_law__1744 : decode cL_law_ 1744 = .ok (.iaload, 1) := by decide +kernel
theorem dL_law__1745 : decode cL_law_ 1745 = .ok (.aload_n 0, 1) := by decide +kernel
theorem dL_law__1746 : decode cL_law_ 1746 = .ok (.iload 4, 2) := by decide +kernel
theorem dL_law__1748 : decode cL_law_ 1748 = .ok (.iconst 2, 1) := by decide +kernel
theorem dL_law__1749 : decode cL_law_ 1749 = .ok (.iadd, 1) := by decide +kernel
theorem dL_law__1750 : decode cL_law_ 1750 = .ok (.iaload, 1) := by decide +kernel
theorem dL_law__1751 : decode cL_law_ 1751 = .ok (.aload_n 0, 1) := by decide +kernel
theorem dL_law__1752 : decode cL_law_ 1752 = .ok (.iload 4, 2) := by decide +kernel
theorem dL_law__1754 : decode cL_law_ 1754 = .ok (.iconst 3, 1) := by decide +kernel
theorem dL_law__1755 : decode cL_law_ 1755 = .ok (.iadd, 1) := by decide +kernel
theorem dL_law__1756 : decode cL_law_ 1756 = .ok (.iaload, 1) := by decide +kernel
theorem dL_law__1757 : decode cL_law_ 1757 = .ok (.aload_n 3, 1) := by decide +kernel
theorem dL_law__1758 : decode cL_law_ 1758 = .ok (.invokestatic 209, 3) := by decide +kernel
theorem dL_law__1761 : decode cL_law_ 1761 = .ok (.istore 5, 2) := by decide +kernel
theorem dL_law__1763 : decode cL_law_ 1763 = .ok (.aload_n 2, 1) := by decide +kernel
theorem dL_law__1764 : decode cL_law_ 1764 = .ok (.aload_n 0, 1) := by decide +kernel
theorem dL_law__1765 : decode cL_law_ 1765 = .ok (.iload 4, 2) := by decide +kernel
theorem dL_law__1767 : decode cL_law_ 1767 = .ok (.iconst 1, 1) := by decide +kernel
theorem dL_law__1768 : decode cL_law_ 1768 = .ok (.iadd, 1) := by decide +kernel
theorem dL_law__1769 : decode cL_law_ 1769 = .ok (.iaload, 1) := by decide +kernel
theorem dL_law__1770 : decode cL_law_ 1770 = .ok (.aload_n 0, 1) := by decide +kernel
theorem dL_law__1771 : decode cL_law_ 1771 = .ok (.iload 4, 2) := by decide +kernel
theorem dL_law__1773 : decode cL_law_ 1773 = .ok (.iconst 2, 1) := by decide +kernel
theorem dL_law__1774 : decode cL_law_ 1774 = .ok (.iadd, 1) := by decide +kernel
theorem dL_law__1775 : decode cL_law_ 1775 = .ok (.iaload, 1) := by decide +kernel
theorem dL_law__1776 : decode cL_law_ 1776 = .ok (.aload_n 0, 1) := by decide +kernel
theorem dL_law__1777 : decode cL_law_ 1777 = .ok (.iload 4, 2) := by decide +kernel
theorem dL_law__1779 : decode cL_law_ 1779 = .ok (.iconst 3, 1) := by decide +kernel
theorem dL_law__1780 : decode cL_law_ 1780 = .ok (.iadd, 1) := by decide +kernel
theorem dL_law__1781 : decode cL_law_ 1781 = .ok (.iaload, 1) := by decide +kernel
theorem dL_law__1782 : decode cL_law_ 1782 = .ok (.invokevirtual 212, 3) := by decide +kernel
theorem dL_law__1785 : decode cL_law_ 1785 = .ok (.istore 6, 2) := by decide +kernel
theorem dL_law__1787 : decode cL_law_ 1787 = .ok (.aload_n 2, 1) := by decide +kernel
theorem dL_law__1788 : decode cL_law_ 1788 = .ok (.invokevirtual 134, 3) := by decide +kernel
theorem dL_law__1791 : decode cL_law_ 1791 = .ok (.iload 5, 2) := by decide +kernel
theorem dL_law__1793 : decode cL_law_ 1793 = .ok (.if_icmp .eq 5, 3) := by decide +kernel
theorem dL_law__1796 : decode cL_law_ 1796 = .ok (.iconst 0, 1) := by decide +kernel
theorem dL_law__1797 : decode cL_law_ 1797 = .ok (.ireturn, 1) := by decide +kernel
theorem dL_law__1798 : decode cL_law_ 1798 = .ok (.iload 5, 2) := by decide +kernel
theorem dL_law__1800 : decode cL_law_ 1800 = .ok (.ifCond .ne 15, 3) := by decide +kernel
theorem dL_law__1803 : decode cL_law_ 1803 = .ok (.aload_n 3, 1) := by decide +kernel
theorem dL_law__1804 : decode cL_law_ 1804 = .ok (.iconst 0, 1) := by decide +kernel
theorem dL_law__1805 : decode cL_law_ 1805 = .ok (.laload, 1) := by decide +kernel
theorem dL_law__1806 : decode cL_law_ 1806 = .ok (.iload 6, 2) := by decide +kernel
theorem dL_law__1808 : decode cL_law_ 1808 = .ok (.i2l, 1) := by decide +kernel
theorem dL_law__1809 : decode cL_law_ 1809 = .ok (.lcmp, 1) := by decide +kernel
theorem dL_law__1810 : decode cL_law_ 1810 = .ok (.ifCond .eq 5, 3) := by decide +kernel
theorem dL_law__1813 : decode cL_law_ 1813 = .ok (.iconst 0, 1) := by decide +kernel
theorem dL_law__1814 : decode cL_law_ 1814 = .ok (.ireturn, 1) := by decide +kernel
theorem dL_law__1815 : decode cL_law_ 1815 = .ok (.goto 877, 3) := by decide +kernel
theorem dL_law__1818 : decode cL_law_ 1818 = .ok (.aload_n 1, 1) := by decide +kernel
theorem dL_law__1819 : decode cL_law_ 1819 = .ok (.aload_n 0, 1) := by decide +kernel
theorem dL_law__1820 : decode cL_law_ 1820 = .ok (.iload 4, 2) := by decide +kernel
theorem dL_law__1822 : decode cL_law_ 1822 = .ok (.iconst 1, 1) := by decide +kernel
theorem dL_law__1823 : decode cL_law_ 1823 = .ok (.iadd, 1) := by decide +kernel
theorem dL_law__1824 : decode cL_law_ 1824 = .ok (.iaload, 1) := by decide +kernel
theorem dL_law__1825 : decode cL_law_ 1825 = .ok (.aload_n 0, 1) := by decide +kernel
theorem dL_law__1826 : decode cL_law_ 1826 = .ok (.iload 4, 2) := by decide +kernel
theorem dL_law__1828 : decode cL_law_ 1828 = .ok (.iconst 2, 1) := by decide +kernel
theorem dL_law__1829 : decode cL_law_ 1829 = .ok (.iadd, 1) := by decide +kernel
theorem dL_law__1830 : decode cL_law_ 1830 = .ok (.iaload, 1) := by decide +kernel
theorem dL_law__1831 : decode cL_law_ 1831 = .ok (.aload_n 0, 1) := by decide +kernel
theorem dL_law__1832 : decode cL_law_ 1832 = .ok (.iload 4, 2) := by decide +kernel
theorem dL_law__1834 : decode cL_law_ 1834 = .ok (.iconst 3, 1) := by decide +kernel
theorem dL_law__1835 : decode cL_law_ 1835 = .ok (.iadd, 1) := by decide +kernel
theorem dL_law__1836 : decode cL_law_ 1836 = .ok (.iaload, 1) := by decide +kernel
theorem dL_law__1837 : decode cL_law_ 1837 = .ok (.aload_n 3, 1) := by decide +kernel
theorem dL_law__1838 : decode cL_law_ 1838 = .ok (.invokestatic 213, 3) := by decide +kernel
theorem dL_law__1841 : decode cL_law_ 1841 = .ok (.istore 5, 2) := by decide +kernel
theorem dL_law__1843 : decode cL_law_ 1843 = .ok (.aload_n 2, 1) := by decide +kernel
theorem dL_law__1844 : decode cL_law_ 1844 = .ok (.aload_n 0, 1) := by decide +kernel
theorem dL_law__1845 : decode cL_law_ 1845 = .ok (.iload 4, 2) := by decide +kernel
theorem dL_law__1847 : decode cL_law_ 1847 = .ok (.iconst 1, 1) := by decide +kernel
theorem dL_law__1848 : decode cL_law_ 1848 = .ok (.iadd, 1) := by decide +kernel
theorem dL_law__1849 : decode cL_law_ 1849 = .ok (.iaload, 1) := by decide +kernel
theorem dL_law__1850 : decode cL_law_ 1850 = .ok (.aload_n 0, 1) := by decide +kernel
theorem dL_law__1851 : decode cL_law_ 1851 = .ok (.iload 4, 2) := by decide +kernel
theorem dL_law__1853 : decode cL_law_ 1853 = .ok (.iconst 2, 1) := by decide +kernel
theorem dL_law__1854 : decode cL_law_ 1854 = .ok (.iadd, 1) := by decide +kernel
theorem dL_law__1855 : decode cL_law_ 1855 = .ok (.iaload, 1) := by decide +kernel
theorem dL_law__1856 : decode cL_law_ 1856 = .ok (.aload_n 0, 1) := by decide +kernel
theorem dL_law__1857 : decode cL_law_ 1857 = .ok (.iload 4, 2) := by decide +kernel
theorem dL_law__1859 : decode cL_law_ 1859 = .ok (.iconst 3, 1) := by decide +kernel
theorem dL_law__1860 : decode cL_law_ 1860 = .ok (.iadd, 1) := by decide +kernel
theorem dL_law__1861 : decode cL_law_ 1861 = .ok (.iaload, 1) := by decide +kernel
theorem dL_law__1862 : decode cL_law_ 1862 = .ok (.invokevirtual 215, 3) := by decide +kernel
theorem dL_law__1865 : decode cL_law_ 1865 = .ok (.istore 6, 2) := by decide +kernel
theorem dL_law__1867 : decode cL_law_ 1867 = .ok (.aload_n 2, 1) := by decide +kernel
theorem dL_law__1868 : decode cL_law_ 1868 = .ok (.invokevirtual 134, 3) := by decide +kernel
theorem dL_law__1871 : decode cL_law_ 1871 = .ok (.iload 5, 2) := by decide +kernel
theorem dL_law__1873 : decode cL_law_ 1873 = .ok (.if_icmp .eq 5, 3) := by decide +kernel
theorem dL_law__1876 : decode cL_law_ 1876 = .ok (.iconst 0, 1) := by decide +kernel
theorem dL_law__1877 : decode cL_law_ 1877 = .ok (.ireturn, 1) := by decide +kernel
theorem dL_law__1878 : decode cL_law_ 1878 = .ok (.iload 5, 2) := by decide +kernel
theorem dL_law__1880 : decode cL_law_ 1880 = .ok (.ifCond .ne 15, 3) := by decide +kernel
theorem dL_law__1883 : decode cL_law_ 1883 = .ok (.aload_n 3, 1) := by decide +kernel
theorem dL_law__1884 : decode cL_law_ 1884 = .ok (.iconst 0, 1) := by decide +kernel
theorem dL_law__1885 : decode cL_law_ 1885 = .ok (.laload, 1) := by decide +kernel
theorem dL_law__1886 : decode cL_law_ 1886 = .ok (.iload 6, 2) := by decide +kernel
theorem dL_law__1888 : decode cL_law_ 1888 = .ok (.i2l, 1) := by decide +kernel
theorem dL_law__1889 : decode cL_law_ 1889 = .ok (.lcmp, 1) := by decide +kernel
theorem dL_law__1890 : decode cL_law_ 1890 = .ok (.ifCond .eq 5, 3) := by decide +kernel
theorem dL_law__1893 : decode cL_law_ 1893 = .ok (.iconst 0, 1) := by decide +kernel
theorem dL_law__1894 : decode cL_law_ 1894 = .ok (.ireturn, 1) := by decide +kernel
theorem dL_law__1895 : decode cL_law_ 1895 = .ok (.goto 797, 3) := by decide +kernel
theorem dL_law__1898 : decode cL_law_ 1898 = .ok (.aload_n 1, 1) := by decide +kernel
theorem dL_law__1899 : decode cL_law_ 1899 = .ok (.aload_n 0, 1) := by decide +kernel
theorem dL_law__1900 : decode cL_law_ 1900 = .ok (.iload 4, 2) := by decide +kernel
theorem dL_law__1902 : decode cL_law_ 1902 = .ok (.iconst 1, 1) := by decide +kernel
theorem dL_law__1903 : decode cL_law_ 1903 = .ok (.iadd, 1) := by decide +kernel
theorem dL_law__1904 : decode cL_law_ 1904 = .ok (.iaload, 1) := by decide +kernel
theorem dL_law__1905 : decode cL_law_ 1905 = .ok (.aload_n 3, 1) := by decide +kernel
theorem dL_law__1906 : decode cL_law_ 1906 = .ok (.invokestatic 216, 3) := by decide +kernel
theorem dL_law__1909 : decode cL_law_ 1909 = .ok (.istore 5, 2) := by decide +kernel
theorem dL_law__1911 : decode cL_law_ 1911 = .ok (.aload_n 2, 1) := by decide +kernel
theorem dL_law__1912 : decode cL_law_ 1912 = .ok (.aload_n 0, 1) := by decide +kernel
theorem dL_law__1913 : decode cL_law_ 1913 = .ok (.iload 4, 2) := by decide +kernel
theorem dL_law__1915 : decode cL_law_ 1915 = .ok (.iconst 1, 1) := by decide +kernel
theorem dL_law__1916 : decode cL_law_ 1916 = .ok (.iadd, 1) := by decide +kernel
theorem dL_law__1917 : decode cL_law_ 1917 = .ok (.iaload, 1) := by decide +kernel
theorem dL_law__1918 : decode cL_law_ 1918 = .ok (.invokevirtual 218, 3) := by decide +kernel
theorem dL_law__1921 : decode cL_law_ 1921 = .ok (.istore 6, 2) := by decide +kernel
theorem dL_law__1923 : decode cL_law_ 1923 = .ok (.aload_n 2, 1) := by decide +kernel
theorem dL_law__1924 : decode cL_law_ 1924 = .ok (.invokevirtual 134, 3) := by decide +kernel
theorem dL_law__1927 : decode cL_law_ 1927 = .ok (.iload 5, 2) := by decide +kernel
theorem dL_law__1929 : decode cL_law_ 1929 = .ok (.if_icmp .eq 5, 3) := by decide +kernel
theorem dL_law__1932 : decode cL_law_ 1932 = .ok (.iconst 0, 1) := by decide +kernel
theorem dL_law__1933 : decode cL_law_ 1933 = .ok (.ireturn, 1) := by decide +kernel
theorem dL_law__1934 : decode cL_law_ 1934 = .ok (.iload 5, 2) := by decide +kernel
theorem dL_law__1936 : decode cL_law_ 1936 = .ok (.ifCond .ne 15, 3) := by decide +kernel
theorem dL_law__1939 : decode cL_law_ 1939 = .ok (.aload_n 3, 1) := by decide +kernel
theorem dL_law__1940 : decode cL_law_ 1940 = .ok (.iconst 0, 1) := by decide +kernel
theorem dL_law__1941 : decode cL_law_ 1941 = .ok (.laload, 1) := by decide +kernel
theorem dL_law__1942 : decode cL_law_ 1942 = .ok (.iload 6, 2) := by decide +kernel
theorem dL_law__1944 : decode cL_law_ 1944 = .ok (.i2l, 1) := by decide +kernel
theorem dL_law__1945 : decode cL_law_ 1945 = .ok (.lcmp, 1) := by decide +kernel
theorem dL_law__1946 : decode cL_law_ 1946 = .ok (.ifCond .eq 5, 3) := by decide +kernel
theorem dL_law__1949 : decode cL_law_ 1949 = .ok (.iconst 0, 1) := by decide +kernel
theorem dL_law__1950 : decode cL_law_ 1950 = .ok (.ireturn, 1) := by decide +kernel
theorem dL_law__1951 : decode cL_law_ 1951 = .ok (.goto 741, 3) := by decide +kernel
theorem dL_law__1954 : decode cL_law_ 1954 = .ok (.aload_n 1, 1) := by decide +kernel
theorem dL_law__1955 : decode cL_law_ 1955 = .ok (.aload_n 0, 1) := by decide +kernel
theorem dL_law__1956 : decode cL_law_ 1956 = .ok (.iload 4, 2) := by decide +kernel
theorem dL_law__1958 : decode cL_law_ 1958 = .ok (.iconst 1, 1) := by decide +kernel
theorem dL_law__1959 : decode cL_law_ 1959 = .ok (.iadd, 1) := by decide +kernel
theorem dL_law__1960 : decode cL_law_ 1960 = .ok (.iaload, 1) := by decide +kernel
theorem dL_law__1961 : decode cL_law_ 1961 = .ok (.aload_n 0, 1) := by decide +kernel
theorem dL_law__1962 : decode cL_law_ 1962 = .ok (.iload 4, 2) := by decide +kernel
theorem dL_law__1964 : decode cL_law_ 1964 = .ok (.iconst 2, 1) := by decide +kernel
theorem dL_law__1965 : decode cL_law_ 1965 = .ok (.iadd, 1) := by decide +kernel
theorem dL_law__1966 : decode cL_law_ 1966 = .ok (.iaload, 1) := by decide +kernel
theorem dL_law__1967 : decode cL_law_ 1967 = .ok (.aload_n 3, 1) := by decide +kernel
theorem dL_law__1968 : decode cL_law_ 1968 = .ok (.invokestatic 219, 3) := by decide +kernel
theorem dL_law__1971 : decode cL_law_ 1971 = .ok (.istore 5, 2) := by decide +kernel
theorem dL_law__1973 : decode cL_law_ 1973 = .ok (.aload_n 2, 1) := by decide +kernel
theorem dL_law__1974 : decode cL_law_ 1974 = .ok (.aload_n 0, 1) := by decide +kernel
theorem dL_law__1975 : decode cL_law_ 1975 = .ok (.iload 4, 2) := by decide +kernel
theorem dL_law__1977 : decode cL_law_ 1977 = .ok (.iconst 1, 1) := by decide +kernel
theorem dL_law__1978 : decode cL_law_ 1978 = .ok (.iadd, 1) := by decide +kernel
theorem dL_law__1979 : decode cL_law_ 1979 = .ok (.iaload, 1) := by decide +kernel
theorem dL_law__1980 : decode cL_law_ 1980 = .ok (.aload_n 0, 1) := by decide +kernel
theorem dL_law__1981 : decode cL_law_ 1981 = .ok (.iload 4, 2) := by decide +kernel
theorem dL_law__1983 : decode cL_law_ 1983 = .ok (.iconst 2, 1) := by decide +kernel
theorem dL_law__1984 : decode cL_law_ 1984 = .ok (.iadd, 1) := by decide +kernel
theorem dL_law__1985 : decode cL_law_ 1985 = .ok (.iaload, 1) := by decide +kernel
end Dec
