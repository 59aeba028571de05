/-! the decode rows of the law, 3 -/
theorem dL_law__1585 : decode cL_law_ 1585 = .ok (.goto 484, 3) := by decide +kernel
theorem dL_law__1588 : decode cL_law_ 1588 = .ok (.aload_n 1, 1) := by decide +kernel
theorem dL_law__1589 : decode cL_law_ 1589 = .ok (.invokevirtual 175, 3) := by decide +kernel
theorem dL_law__1592 : decode cL_law_ 1592 = .ok (.aload_n 2, 1) := by decide +kernel
theorem dL_law__1593 : decode cL_law_ 1593 = .ok (.invokevirtual 178, 3) := by decide +kernel
theorem dL_law__1596 : decode cL_law_ 1596 = .ok (.if_icmp .eq 473, 3) := by decide +kernel
theorem dL_law__1599 : decode cL_law_ 1599 = .ok (.iconst 0, 1) := by decide +kernel
theorem dL_law__1600 : decode cL_law_ 1600 = .ok (.ireturn, 1) := by decide +kernel
theorem dL_law__1601 : decode cL_law_ 1601 = .ok (.aload_n 1, 1) := by decide +kernel
theorem dL_law__1602 : decode cL_law_ 1602 = .ok (.aload_n 0, 1) := by decide +kernel
theorem dL_law__1603 : decode cL_law_ 1603 = .ok (.iload 4, 2) := by decide +kernel
theorem dL_law__1605 : decode cL_law_ 1605 = .ok (.iconst 1, 1) := by decide +kernel
theorem dL_law__1606 : decode cL_law_ 1606 = .ok (.iadd, 1) := by decide +kernel
theorem dL_law__1607 : decode cL_law_ 1607 = .ok (.iaload, 1) := by decide +kernel
theorem dL_law__1608 : decode cL_law_ 1608 = .ok (.aload_n 0, 1) := by decide +kernel
theorem dL_law__1609 : decode cL_law_ 1609 = .ok (.iload 4, 2) := by decide +kernel
theorem dL_law__1611 : decode cL_law_ 1611 = .ok (.iconst 2, 1) := by decide +kernel
theorem dL_law__1612 : decode cL_law_ 1612 = .ok (.iadd, 1) := by decide +kernel
theorem dL_law__1613 : decode cL_law_ 1613 = .ok (.iaload, 1) := by decide +kernel
theorem dL_law__1614 : decode cL_law_ 1614 = .ok (.aload_n 0, 1) := by decide +kernel
theorem dL_law__1615 : decode cL_law_ 1615 = .ok (.iload 4, 2) := by decide +kernel
theorem dL_law__1617 : decode cL_law_ 1617 = .ok (.iconst 3, 1) := by decide +kernel
theorem dL_law__1618 : decode cL_law_ 1618 = .ok (.iadd, 1) := by decide +kernel
theorem dL_law__1619 : decode cL_law_ 1619 = .ok (.iaload, 1) := by decide +kernel
theorem dL_law__1620 : decode cL_law_ 1620 = .ok (.aload_n 0, 1) := by decide +kernel
theorem dL_law__1621 : decode cL_law_ 1621 = .ok (.iload 4, 2) := by decide +kernel
theorem dL_law__1623 : decode cL_law_ 1623 = .ok (.iconst 4, 1) := by decide +kernel
theorem dL_law__1624 : decode cL_law_ 1624 = .ok (.iadd, 1) := by decide +kernel
theorem dL_law__1625 : decode cL_law_ 1625 = .ok (.iaload, 1) := by decide +kernel
theorem dL_law__1626 : decode cL_law_ 1626 = .ok (.aload_n 3, 1) := by decide +kernel
theorem dL_law__1627 : decode cL_law_ 1627 = .ok (.invokestatic 179, 3) := by decide +kernel
theorem dL_law__1630 : decode cL_law_ 1630 = .ok (.istore 5, 2) := by decide +kernel
theorem dL_law__1632 : decode cL_law_ 1632 = .ok (.aload_n 2, 1) := by decide +kernel
theorem dL_law__1633 : decode cL_law_ 1633 = .ok (.aload_n 0, 1) := by decide +kernel
theorem dL_law__1634 : decode cL_law_ 1634 = .ok (.iload 4, 2) := by decide +kernel
theorem dL_law__1636 : decode cL_law_ 1636 = .ok (.iconst 1, 1) := by decide +kernel
theorem dL_law__1637 : decode cL_law_ 1637 = .ok (.iadd, 1) := by decide +kernel
theorem dL_law__1638 : decode cL_law_ 1638 = .ok (.iaload, 1) := by decide +kernel
theorem dL_law__1639 : decode cL_law_ 1639 = .ok (.aload_n 0, 1) := by decide +kernel
theorem dL_law__1640 : decode cL_law_ 1640 = .ok (.iload 4, 2) := by decide +kernel
theorem dL_law__1642 : decode cL_law_ 1642 = .ok (.iconst 2, 1) := by decide +kernel
theorem dL_law__1643 : decode cL_law_ 1643 = .ok (.iadd, 1) := by decide +kernel
theorem dL_law__1644 : decode cL_law_ 1644 = .ok (.iaload, 1) := by decide +kernel
theorem dL_law__1645 : decode cL_law_ 1645 = .ok (.aload_n 0, 1) := by decide +kernel
theorem dL_law__1646 : decode cL_law_ 1646 = .ok (.iload 4, 2) := by decide +kernel
theorem dL_law__1648 : decode cL_law_ 1648 = .ok (.iconst 3, 1) := by decide +kernel
theorem dL_law__1649 : decode cL_law_ 1649 = .ok (.iadd, 1) := by decide +kernel
theorem dL_law__1650 : decode cL_law_ 1650 = .ok (.iaload, 1) := by decide +kernel
theorem dL_law__1651 : decode cL_law_ 1651 = .ok (.aload_n 0, 1) := by decide +kernel
theorem dL_law__1652 : decode cL_law_ 1652 = .ok (.iload 4, 2) := by decide +kernel
theorem dL_law__1654 : decode cL_law_ 1654 = .ok (.iconst 4, 1) := by decide +kernel
theorem dL_law__1655 : decode cL_law_ 1655 = .ok (.iadd, 1) := by decide +kernel
theorem dL_law__1656 : decode cL_law_ 1656 = .ok (.iaload, 1) := by decide +kernel
theorem dL_law__1657 : decode cL_law_ 1657 = .ok (.invokevirtual 181, 3) := by decide +kernel
theorem dL_law__1660 : decode cL_law_ 1660 = .ok (.istore 6, 2) := by decide +kernel
theorem dL_law__1662 : decode cL_law_ 1662 = .ok (.aload_n 2, 1) := by decide +kernel
theorem dL_law__1663 : decode cL_law_ 1663 = .ok (.invokevirtual 104, 3) := by decide +kernel
theorem dL_law__1666 : decode cL_law_ 1666 = .ok (.iload 5, 2) := by decide +kernel
theorem dL_law__1668 : decode cL_law_ 1668 = .ok (.if_icmp .eq 5, 3) := by decide +kernel
theorem dL_law__1671 : decode cL_law_ 1671 = .ok (.iconst 0, 1) := by decide +kernel
theorem dL_law__1672 : decode cL_law_ 1672 = .ok (.ireturn, 1) := by decide +kernel
theorem dL_law__1673 : decode cL_law_ 1673 = .ok (.iload 5, 2) := by decide +kernel
theorem dL_law__1675 : decode cL_law_ 1675 = .ok (.ifCond .ne 15, 3) := by decide +kernel
theorem dL_law__1678 : decode cL_law_ 1678 = .ok (.aload_n 3, 1) := by decide +kernel
theorem dL_law__1679 : decode cL_law_ 1679 = .ok (.iconst 0, 1) := by decide +kernel
theorem dL_law__1680 : decode cL_law_ 1680 = .ok (.laload, 1) := by decide +kernel
theorem dL_law__1681 : decode cL_law_ 1681 = .ok (.iload 6, 2) := by decide +kernel
theorem dL_law__1683 : decode cL_law_ 1683 = .ok (.i2l, 1) := by decide +kernel
theorem dL_law__1684 : decode cL_law_ 1684 = .ok (.lcmp, 1) := by decide +kernel
theorem dL_law__1685 : decode cL_law_ 1685 = .ok (.ifCond .eq 5, 3) := by decide +kernel
theorem dL_law__1688 : decode cL_law_ 1688 = .ok (.iconst 0, 1) := by decide +kernel
theorem dL_law__1689 : decode cL_law_ 1689 = .ok (.ireturn, 1) := by decide +kernel
theorem dL_law__1690 : decode cL_law_ 1690 = .ok (.goto 379, 3) := by decide +kernel
theorem dL_law__1693 : decode cL_law_ 1693 = .ok (.aload_n 1, 1) := by decide +kernel
theorem dL_law__1694 : decode cL_law_ 1694 = .ok (.aload_n 0, 1) := by decide +kernel
theorem dL_law__1695 : decode cL_law_ 1695 = .ok (.iload 4, 2) := by decide +kernel
theorem dL_law__1697 : decode cL_law_ 1697 = .ok (.iconst 1, 1) := by decide +kernel
theorem dL_law__1698 : decode cL_law_ 1698 = .ok (.iadd, 1) := by decide +kernel
theorem dL_law__1699 : decode cL_law_ 1699 = .ok (.iaload, 1) := by decide +kernel
theorem dL_law__1700 : decode cL_law_ 1700 = .ok (.aload_n 0, 1) := by decide +kernel
theorem dL_law__1701 : decode cL_law_ 1701 = .ok (.iload 4, 2) := by decide +kernel
theorem dL_law__1703 : decode cL_law_ 1703 = .ok (.iconst 2, 1) := by decide +kernel
theorem dL_law__1704 : decode cL_law_ 1704 = .ok (.iadd, 1) := by decide +kernel
theorem dL_law__1705 : decode cL_law_ 1705 = .ok (.iaload, 1) := by decide +kernel
theorem dL_law__1706 : decode cL_law_ 1706 = .ok (.aload_n 0, 1) := by decide +kernel
theorem dL_law__1707 : decode cL_law_ 1707 = .ok (.iload 4, 2) := by decide +kernel
theorem dL_law__1709 : decode cL_law_ 1709 = .ok (.iconst 3, 1) := by decide +kernel
theorem dL_law__1710 : decode cL_law_ 1710 = .ok (.iadd, 1) := by decide +kernel
theorem dL_law__1711 : decode cL_law_ 1711 = .ok (.iaload, 1) := by decide +kernel
theorem dL_law__1712 : decode cL_law_ 1712 = .ok (.aload_n 3, 1) := by decide +kernel
theorem dL_law__1713 : decode cL_law_ 1713 = .ok (.invokestatic 182, 3) := by decide +kernel
theorem dL_law__1716 : decode cL_law_ 1716 = .ok (.istore 5, 2) := by decide +kernel
theorem dL_law__1718 : decode cL_law_ 1718 = .ok (.aload_n 2, 1) := by decide +kernel
theorem dL_law__1719 : decode cL_law_ 1719 = .ok (.aload_n 0, 1) := by decide +kernel
theorem dL_law__1720 : decode cL_law_ 1720 = .ok (.iload 4, 2) := by decide +kernel
theorem dL_law__1722 : decode cL_law_ 1722 = .ok (.iconst 1, 1) := by decide +kernel
theorem dL_law__1723 : decode cL_law_ 1723 = .ok (.iadd, 1) := by decide +kernel
theorem dL_law__1724 : decode cL_law_ 1724 = .ok (.iaload, 1) := by decide +kernel
theorem dL_law__1725 : decode cL_law_ 1725 = .ok (.aload_n 0, 1) := by decide +kernel
theorem dL_law__1726 : decode cL_law_ 1726 = .ok (.iload 4, 2) := by decide +kernel
theorem dL_law__1728 : decode cL_law_ 1728 = .ok (.iconst 2, 1) := by decide +kernel
theorem dL_law__1729 : decode cL_law_ 1729 = .ok (.iadd, 1) := by decide +kernel
theorem dL_law__1730 : decode cL_law_ 1730 = .ok (.iaload, 1) := by decide +kernel
theorem dL_law__1731 : decode cL_law_ 1731 = .ok (.aload_n 0, 1) := by decide +kernel
theorem dL_law__1732 : decode cL_law_ 1732 = .ok (.iload 4, 2) := by decide +kernel
theorem dL_law__1734 : decode cL_law_ 1734 = .ok (.iconst 3, 1) := by decide +kernel
theorem dL_law__1735 : decode cL_law_ 1735 = .ok (.iadd, 1) := by decide +kernel
theorem dL_law__1736 : decode cL_law_ 1736 = .ok (.iaload, 1) := by decide +kernel
theorem dL_law__1737 : decode cL_law_ 1737 = .ok (.invokevirtual 184, 3) := by decide +kernel
theorem dL_law__1740 : decode cL_law_ 1740 = .ok (.istore 6, 2) := by decide +kernel
theorem dL_law__1742 : decode cL_law_ 1742 = .ok (.aload_n 2, 1) := by decide +kernel
theorem dL_law__1743 : decode cL_law_ 1743 = .ok (.invokevirtual 104, 3) := by decide +kernel
theorem dL_law__1746 : decode cL_law_ 1746 = .ok (.iload 5, 2) := by decide +kernel
theorem dL_law__1748 : decode cL_law_ 1748 = .ok (.if_icmp .eq 5, 3) := by decide +kernel
theorem dL_law__1751 : decode cL_law_ 1751 = .ok (.iconst 0, 1) := by decide +kernel
theorem dL_law__1752 : decode cL_law_ 1752 = .ok (.ireturn, 1) := by decide +kernel
theorem dL_law__1753 : decode cL_law_ 1753 = .ok (.iload 5, 2) := by decide +kernel
theorem dL_law__1755 : decode cL_law_ 1755 = .ok (.ifCond .ne 15, 3) := by decide +kernel
theorem dL_law__1758 : decode cL_law_ 1758 = .ok (.aload_n 3, 1) := by decide +kernel
theorem dL_law__1759 : decode cL_law_ 1759 = .ok (.iconst 0, 1) := by decide +kernel
theorem dL_law__1760 : decode cL_law_ 1760 = .ok (.laload, 1) := by decide +kernel
theorem dL_law__1761 : decode cL_law_ 1761 = .ok (.iload 6, 2) := by decide +kernel
theorem dL_law__1763 : decode cL_law_ 1763 = .ok (.i2l, 1) := by decide +kernel
theorem dL_law__1764 : decode cL_law_ 1764 = .ok (.lcmp, 1) := by decide +kernel
theorem dL_law__1765 : decode cL_law_ 1765 = .ok (.ifCond .eq 5, 3) := by decide +kernel
theorem dL_law__1768 : decode cL_law_ 1768 = .ok (.iconst 0, 1) := by decide +kernel
theorem dL_law__1769 : decode cL_law_ 1769 = .ok (.ireturn, 1) := by decide +kernel
theorem dL_law__1770 : decode cL_law_ 1770 = .ok (.goto 299, 3) := by decide +kernel
theorem dL_law__1773 : decode cL_law_ 1773 = .ok (.aload_n 1, 1) := by decide +kernel
theorem dL_law__1774 : decode cL_law_ 1774 = .ok (.aload_n 0, 1) := by decide +kernel
theorem dL_law__1775 : decode cL_law_ 1775 = .ok (.iload 4, 2) := by decide +kernel
theorem dL_law__1777 : decode cL_law_ 1777 = .ok (.iconst 1, 1) := by decide +kernel
theorem dL_law__1778 : decode cL_law_ 1778 = .ok (.iadd, 1) := by decide +kernel
theorem dL_law__1779 : decode cL_law_ 1779 = .ok (.iaload, 1) := by decide +kernel
theorem dL_law__1780 : decode cL_law_ 1780 = .ok (.aload_n 3, 1) := by decide +kernel
theorem dL_law__1781 : decode cL_law_ 1781 = .ok (.invokestatic 185, 3) := by decide +kernel
theorem dL_law__1784 : decode cL_law_ 1784 = .ok (.istore 5, 2) := by decide +kernel
theorem dL_law__1786 : decode cL_law_ 1786 = .ok (.aload_n 2, 1) := by decide +kernel
theorem dL_law__1787 : decode cL_law_ 1787 = .ok (.aload_n 0, 1) := by decide +kernel
theorem dL_law__1788 : decode cL_law_ 1788 = .ok (.iload 4, 2) := by decide +kernel
theorem dL_law__1790 : decode cL_law_ 1790 = .ok (.iconst 1, 1) := by decide +kernel
theorem dL_law__1791 : decode cL_law_ 1791 = .ok (.iadd, 1) := by decide +kernel
theorem dL_law__1792 : decode cL_law_ 1792 = .ok (.iaload, 1) := by decide +kernel
theorem dL_law__1793 : decode cL_law_ 1793 = .ok (.invokevirtual 187, 3) := by decide +kernel
theorem dL_law__1796 : decode cL_law_ 1796 = .ok (.istore 6, 2) := by decide +kernel
theorem dL_law__1798 : decode cL_law_ 1798 = .ok (.aload_n 2, 1) := by decide +kernel
theorem dL_law__1799 : decode cL_law_ 1799 = .ok (.invokevirtual 104, 3) := by decide +kernel
theorem dL_law__1802 : decode cL_law_ 1802 = .ok (.iload 5, 2) := by decide +kernel
theorem dL_law__1804 : decode cL_law_ 1804 = .ok (.if_icmp .eq 5, 3) := by decide +kernel
theorem dL_law__1807 : decode cL_law_ 1807 = .ok (.iconst 0, 1) := by decide +kernel
theorem dL_law__1808 : decode cL_law_ 1808 = .ok (.ireturn, 1) := by decide +kernel
theorem dL_law__1809 : decode cL_law_ 1809 = .ok (.iload 5, 2) := by decide +kernel
theorem dL_law__1811 : decode cL_law_ 1811 = .ok (.ifCond .ne 15, 3) := by decide +kernel
theorem dL_law__1814 : decode cL_law_ 1814 = .ok (.aload_n 3, 1) := by decide +kernel
theorem dL_law__1815 : decode cL_law_ 1815 = .ok (.iconst 0, 1) := by decide +kernel
theorem dL_law__1816 : decode cL_law_ 1816 = .ok (.laload, 1) := by decide +kernel
theorem dL_law__1817 : decode cL_law_ 1817 = .ok (.iload 6, 2) := by decide +kernel
theorem dL_law__1819 : decode cL_law_ 1819 = .ok (.i2l, 1) := by decide +kernel
theorem dL_law__1820 : decode cL_law_ 1820 = .ok (.lcmp, 1) := by decide +kernel
theorem dL_law__1821 : decode cL_law_ 1821 = .ok (.ifCond .eq 5, 3) := by decide +kernel
theorem dL_law__1824 : decode cL_law_ 1824 = .ok (.iconst 0, 1) := by decide +kernel
theorem dL_law__1825 : decode cL_law_ 1825 = .ok (.ireturn, 1) := by decide +kernel
theorem dL_law__1826 : decode cL_law_ 1826 = .ok (.goto 243, 3) := by decide +kernel
theorem dL_law__1829 : decode cL_law_ 1829 = .ok (.aload_n 1, 1) := by decide +kernel
theorem dL_law__1830 : decode cL_law_ 1830 = .ok (.aload_n 0, 1) := by decide +kernel
theorem dL_law__1831 : decode cL_law_ 1831 = .ok (.iload 4, 2) := by decide +kernel
theorem dL_law__1833 : decode cL_law_ 1833 = .ok (.iconst 1, 1) := by decide +kernel
theorem dL_law__1834 : decode cL_law_ 1834 = .ok (.iadd, 1) := by decide +kernel
theorem dL_law__1835 : decode cL_law_ 1835 = .ok (.iaload, 1) := by decide +kernel
theorem dL_law__1836 : decode cL_law_ 1836 = .ok (.aload_n 0, 1) := by decide +kernel
theorem dL_law__1837 : decode cL_law_ 1837 = .ok (.iload 4, 2) := by decide +kernel
theorem dL_law__1839 : decode cL_law_ 1839 = .ok (.iconst 2, 1) := by decide +kernel
theorem dL_law__1840 : decode cL_law_ 1840 = .ok (.iadd, 1) := by decide +kernel
theorem dL_law__1841 : decode cL_law_ 1841 = .ok (.iaload, 1) := by decide +kernel
theorem dL_law__1842 : decode cL_law_ 1842 = .ok (.aload_n 0, 1) := by decide +kernel
theorem dL_law__1843 : decode cL_law_ 1843 = .ok (.iload 4, 2) := by decide +kernel
theorem dL_law__1845 : decode cL_law_ 1845 = .ok (.iconst 3, 1) := by decide +kernel
theorem dL_law__1846 : decode cL_law_ 1846 = .ok (.iadd, 1) := by decide +kernel
theorem dL_law__1847 : decode cL_law_ 1847 = .ok (.iaload, 1) := by decide +kernel
theorem dL_law__1848 : decode cL_law_ 1848 = .ok (.aload_n 3, 1) := by decide +kernel
theorem dL_law__1849 : decode cL_law_ 1849 = .ok (.invokestatic 188, 3) := by decide +kernel
theorem dL_law__1852 : decode cL_law_ 1852 = .ok (.istore 5, 2) := by decide +kernel
theorem dL_law__1854 : decode cL_law_ 1854 = .ok (.aload_n 2, 1) := by decide +kernel
theorem dL_law__1855 : decode cL_law_ 1855 = .ok (.aload_n 0, 1) := by decide +kernel
theorem dL_law__1856 : decode cL_law_ 1856 = .ok (.iload 4, 2) := by decide +kernel
theorem dL_law__1858 : decode cL_law_ 1858 = .ok (.iconst 1, 1) := by decide +kernel
theorem dL_law__1859 : decode cL_law_ 1859 = .ok (.iadd, 1) := by decide +kernel
theorem dL_law__1860 : decode cL_law_ 1860 = .ok (.iaload, 1) := by decide +kernel
theorem dL_law__1861 : decode cL_law_ 1861 = .ok (.aload_n 0, 1) := by decide +kernel
theorem dL_law__1862 : decode cL_law_ 1862 = .ok (.iload 4, 2) := by decide +kernel
theorem dL_law__1864 : decode cL_law_ 1864 = .ok (.iconst 2, 1) := by decide +kernel
theorem dL_law__1865 : decode cL_law_ 1865 = .ok (.iadd, 1) := by decide +kernel
theorem dL_law__1866 : decode cL_law_ 1866 = .ok (.iaload, 1) := by decide +kernel
theorem dL_law__1867 : decode cL_law_ 1867 = .ok (.aload_n 0, 1) := by decide +kernel
theorem dL_law__1868 : decode cL_law_ 1868 = .ok (.iload 4, 2) := by decide +kernel
theorem dL_law__1870 : decode cL_law_ 1870 = .ok (.iconst 3, 1) := by decide +kernel
theorem dL_law__1871 : decode cL_law_ 1871 = .ok (.iadd, 1) := by decide +kernel
theorem dL_law__1872 : decode cL_law_ 1872 = .ok (.iaload, 1) := by decide +kernel
theorem dL_law__1873 : decode cL_law_ 1873 = .ok (.invokevirtual 190, 3) := by decide +kernel
theorem dL_law__1876 : decode cL_law_ 1876 = .ok (.istore 6, 2) := by decide +kernel
theorem dL_law__1878 : decode cL_law_ 1878 = .ok (.aload_n 2, 1) := by decide +kernel
theorem dL_law__1879 : decode cL_law_ 1879 = .ok (.invokevirtual 104, 3) := by decide +kernel
theorem dL_law__1882 : decode cL_law_ 1882 = .ok (.iload 5, 2) := by decide +kernel
theorem dL_law__1884 : decode cL_law_ 1884 = .ok (.if_icmp .eq 5, 3) := by decide +kernel
theorem dL_law__1887 : decode cL_law_ 1887 = .ok (.iconst 0, 1) := by decide +kernel
theorem dL_law__1888 : decode cL_law_ 1888 = .ok (.ireturn, 1) := by decide +kernel
theorem dL_law__1889 : decode cL_law_ 1889 = .ok (.iload 5, 2) := by decide +kernel
theorem dL_law__1891 : decode cL_law_ 1891 = .ok (.ifCond .ne 15, 3) := by decide +kernel
theorem dL_law__1894 : decode cL_law_ 1894 = .ok (.aload_n 3, 1) := by decide +kernel
theorem dL_law__1895 : decode cL_law_ 1895 = .ok (.iconst 0, 1) := by decide +kernel
theorem dL_law__1896 : decode cL_law_ 1896 = .ok (.laload, 1) := by decide +kernel
theorem dL_law__1897 : decode cL_law_ 1897 = .ok (.iload 6, 2) := by decide +kernel
theorem dL_law__1899 : decode cL_law_ 1899 = .ok (.i2l, 1) := by decide +kernel
theorem dL_law__1900 : decode cL_law_ 1900 = .ok (.lcmp, 1) := by decide +kernel
theorem dL_law__1901 : decode cL_law_ 1901 = .ok (.ifCond .eq 5, 3) := by decide +kernel
theorem dL_law__1904 : decode cL_law_ 1904 = .ok (.iconst 0, 1) := by decide +kernel
theorem dL_law__1905 : decode cL_law_ 1905 = .ok (.ireturn, 1) := by decide +kernel
theorem dL_law__1906 : decode cL_law_ 1906 = .ok (.goto 163, 3) := by decide +kernel
theorem dL_law__1909 : decode cL_law_ 1909 = .ok (.aload_n 1, 1) := by decide +kernel
theorem dL_law__1910 : decode cL_law_ 1910 = .ok (.aload_n 0, 1) := by decide +kernel
theorem dL_law__1911 : decode cL_law_ 1911 = .ok (.iload 4, 2) := by decide +kernel
theorem dL_law__1913 : decode cL_law_ 1913 = .ok (.iconst 1, 1) := by decide +kernel
theorem dL_law__1914 : decode cL_law_ 1914 = .ok (.iadd, 1) := by decide +kernel
theorem dL_law__1915 : decode cL_law_ 1915 = .ok (.iaload, 1) := by decide +kernel
theorem dL_law__1916 : decode cL_law_ 1916 = .ok (.aload_n 0, 1) := by decide +kernel
theorem dL_law__1917 : decode cL_law_ 1917 = .ok (.iload 4, 2) := by decide +kernel
theorem dL_law__1919 : decode cL_law_ 1919 = .ok (.iconst 2, 1) := by decide +kernel
theorem dL_law__1920 : decode cL_law_ 1920 = .ok (.iadd, 1) := by decide +kernel
theorem dL_law__1921 : decode cL_law_ 1921 = .ok (.iaload, 1) := by decide +kernel
theorem dL_law__1922 : decode cL_law_ 1922 = .ok (.aload_n 3, 1) := by decide +kernel
theorem dL_law__1923 : decode cL_law_ 1923 = .ok (.invokestatic 191, 3) := by decide +kernel
theorem dL_law__1926 : decode cL_law_ 1926 = .ok (.istore 5, 2) := by decide +kernel
theorem dL_law__1928 : decode cL_law_ 1928 = .ok (.aload_n 2, 1) := by decide +kernel
theorem dL_law__1929 : decode cL_law_ 1929 = .ok (.aload_n 0, 1) := by decide +kernel
theorem dL_law__1930 : decode cL_law_ 1930 = .ok (.iload 4, 2) := by decide +kernel
theorem dL_law__1932 : decode cL_law_ 1932 = .ok (.iconst 1, 1) := by decide +kernel
theorem dL_law__1933 : decode cL_law_ 1933 = .ok (.iadd, 1) := by decide +kernel
theorem dL_law__1934 : decode cL_law_ 1934 = .ok (.iaload, 1) := by decide +kernel
theorem dL_law__1935 : decode cL_law_ 1935 = .ok (.aload_n 0, 1) := by decide +kernel
theorem dL_law__1936 : decode cL_law_ 1936 = .ok (.iload 4, 2) := by decide +kernel
theorem dL_law__1938 : decode cL_law_ 1938 = .ok (.iconst 2, 1) := by decide +kernel
theorem dL_law__1939 : decode cL_law_ 1939 = .ok (.iadd, 1) := by decide +kernel
theorem dL_law__1940 : decode cL_law_ 1940 = .ok (.iaload, 1) := by decide +kernel
theorem dL_law__1941 : decode cL_law_ 1941 = .ok (.invokevirtual 193, 3) := by decide +kernel
theorem dL_law__1944 : decode cL_law_ 1944 = .ok (.istore 6, 2) := by decide +kernel
theorem dL_law__1946 : decode cL_law_ 1946 = .ok (.aload_n 2, 1) := by decide +kernel
theorem dL_law__1947 : decode cL_law_ 1947 = .ok (.invokevirtual 104, 3) := by decide +kernel
theorem dL_law__1950 : decode cL_law_ 1950 = .ok (.iload 5, 2) := by decide +kernel
theorem dL_law__1952 : decode cL_law_ 1952 = .ok (.if_icmp .eq 5, 3) := by decide +kernel
theorem dL_law__1955 : decode cL_law_ 1955 = .ok (.iconst 0, 1) := by decide +kernel
theorem dL_law__1956 : decode cL_law_ 1956 = .ok (.ireturn, 1) := by decide +kernel
theorem dL_law__1957 : decode cL_law_ 1957 = .ok (.iload 5, 2) := by decide +kernel
theorem dL_law__1959 : decode cL_law_ 1959 = .ok (.ifCond .ne 15, 3) := by decide +kernel
theorem dL_law__1962 : decode cL_law_ 1962 = .ok (.aload_n 3, 1) := by decide +kernel
theorem dL_law__1963 : decode cL_law_ 1963 = .ok (.iconst 0, 1) := by decide +kernel
theorem dL_law__1964 : decode cL_law_ 1964 = .ok (.laload, 1) := by decide +kernel
theorem dL_law__1965 : decode cL_law_ 1965 = .ok (.iload 6, 2) := by decide +kernel
theorem dL_law__1967 : decode cL_law_ 1967 = .ok (.i2l, 1) := by decide +kernel
theorem dL_law__1968 : decode cL_law_ 1968 = .ok (.lcmp, 1) := by decide +kernel
theorem dL_law__1969 : decode cL_law_ 1969 = .ok (.ifCond .eq 5, 3) := by decide +kernel
theorem dL_law__1972 : decode cL_law_ 1972 = .ok (.iconst 0, 1) := by decide +kernel
theorem dL_law__1973 : decode cL_law_ 1973 = .ok (.ireturn, 1) := by decide +kernel
theorem dL_law__1974 : decode cL_law_ 1974 = .ok (.goto 95, 3) := by decide +kernel
theorem dL_law__1977 : decode cL_law_ 1977 = .ok (.aload_n 1, 1) := by decide +kernel
theorem dL_law__1978 : decode cL_law_ 1978 = .ok (.aload_n 0, 1) := by decide +kernel
theorem dL_law__1979 : decode cL_law_ 1979 = .ok (.iload 4, 2) := by decide +kernel
theorem dL_law__1981 : decode cL_law_ 1981 = .ok (.iconst 1, 1) := by decide +kernel
theorem dL_law__1982 : decode cL_law_ 1982 = .ok (.iadd, 1) := by decide +kernel
theorem dL_law__1983 : decode cL_law_ 1983 = .ok (.iaload, 1) := by decide +kernel
theorem dL_law__1984 : decode cL_law_ 1984 = .ok (.aload_n 0, 1) := by decide +kernel
theorem dL_law__1985 : decode cL_law_ 1985 = .ok (.iload 4, 2) := by decide +kernel
theorem dL_law__1987 : decode cL_law_ 1987 = .ok (.iconst 2, 1) := by decide +kernel
theorem dL_law__1988 : decode cL_law_ 1988 = .ok (.iadd, 1) := by decide +kernel
theorem dL_law__1989 : decode cL_law_ 1989 = .ok (.iaload, 1) := by decide +kernel
theorem dL_law__1990 : decode cL_law_ 1990 = .ok (.aload_n 3, 1) := by decide +kernel
theorem dL_law__1991 : decode cL_law_ 1991 = .ok (.invokestatic 194, 3) := by decide +kernel
theorem dL_law__1994 : decode cL_law_ 1994 = .ok (.istore 5, 2) := by decide +kernel
theorem dL_law__1996 : decode cL_law_ 1996 = .ok (.aload_n 2, 1) := by decide +kernel
theorem dL_law__1997 : decode cL_law_ 1997 = .ok (.aload_n 0, 1) := by decide +kernel
theorem dL_law__1998 : decode cL_law_ 1998 = .ok (.iload 4, 2) := by decide +kernel
theorem dL_law__2000 : decode cL_law_ 2000 = .ok (.iconst 1, 1) := by decide +kernel
theorem dL_law__2001 : decode cL_law_ 2001 = .ok (.iadd, 1) := by decide +kernel
theorem dL_law__2002 : decode cL_law_ 2002 = .ok (.iaload, 1) := by decide +kernel
theorem dL_law__2003 : decode cL_law_ 2003 = .ok (.aload_n 0, 1) := by decide +kernel
theorem dL_law__2004 : decode cL_law_ 2004 = .ok (.iload 4, 2) := by decide +kernel
theorem dL_law__2006 : decode cL_law_ 2006 = .ok (.iconst 2, 1) := by decide +kernel
theorem dL_law__2007 : decode cL_law_ 2007 = .ok (.iadd, 1) := by decide +kernel
theorem dL_law__2008 : decode cL_law_ 2008 = .ok (.iaload, 1) := by decide +kernel
theorem dL_law__2009 : decode cL_law_ 2009 = .ok (.invokevirtual 196, 3) := by decide +kernel
theorem dL_law__2012 : decode cL_law_ 2012 = .ok (.istore 6, 2) := by decide +kernel
theorem dL_law__2014 : decode cL_law_ 2014 = .ok (.aload_n 2, 1) := by decide +kernel
theorem dL_law__2015 : decode cL_law_ 2015 = .ok (.invokevirtual 104, 3) := by decide +kernel
theorem dL_law__2018 : decode cL_law_ 2018 = .ok (.iload 5, 2) := by decide +kernel
theorem dL_law__2020 : decode cL_law_ 2020 = .ok (.if_icmp .eq 5, 3) := by decide +kernel
theorem dL_law__2023 : decode cL_law_ 2023 = .ok (.iconst 0, 1) := by decide +kernel
theorem dL_law__2024 : decode cL_law_ 2024 = .ok (.ireturn, 1) := by decide +kernel
theorem dL_law__2025 : decode cL_law_ 2025 = .ok (.iload 5, 2) := by decide +kernel
theorem dL_law__2027 : decode cL_law_ 2027 = .ok (.ifCond .ne 15, 3) := by decide +kernel
theorem dL_law__2030 : decode cL_law_ 2030 = .ok (.aload_n 3, 1) := by decide +kernel
theorem dL_law__2031 : decode cL_law_ 2031 = .ok (.iconst 0, 1) := by decide +kernel
theorem dL_law__2032 : decode cL_law_ 2032 = .ok (.laload, 1) := by decide +kernel
theorem dL_law__2033 : decode cL_law_ 2033 = .ok (.iload 6, 2) := by decide +kernel
theorem dL_law__2035 : decode cL_law_ 2035 = .ok (.i2l, 1) := by decide +kernel
theorem dL_law__2036 : decode cL_law_ 2036 = .ok (.lcmp, 1) := by decide +kernel
theorem dL_law__2037 : decode cL_law_ 2037 = .ok (.ifCond .eq 5, 3) := by decide +kernel
theorem dL_law__2040 : decode cL_law_ 2040 = .ok (.iconst 0, 1) := by decide +kernel
theorem dL_law__2041 : decode cL_law_ 2041 = .ok (.ireturn, 1) := by decide +kernel
theorem dL_law__2042 : decode cL_law_ 2042 = .ok (.goto 27, 3) := by decide +kernel
theorem dL_law__2045 : decode cL_law_ 2045 = .ok (.aload_n 1, 1) := by decide +kernel
theorem dL_law__2046 : decode cL_law_ 2046 = .ok (.invokevirtual 197, 3) := by decide +kernel
theorem dL_law__2049 : decode cL_law_ 2049 = .ok (.aload_n 2, 1) := by decide +kernel
theorem dL_law__2050 : decode cL_law_ 2050 = .ok (.invokevirtual 200, 3) := by decide +kernel
theorem dL_law__2053 : decode cL_law_ 2053 = .ok (.goto 16, 3) := by decide +kernel
theorem dL_law__2056 : decode cL_law_ 2056 = .ok (.aload_n 1, 1) := by decide +kernel
theorem dL_law__2057 : decode cL_law_ 2057 = .ok (.invokevirtual 201, 3) := by decide +kernel
theorem dL_law__2060 : decode cL_law_ 2060 = .ok (.aload_n 2, 1) := by decide +kernel
theorem dL_law__2061 : decode cL_law_ 2061 = .ok (.invokevirtual 205, 3) := by decide +kernel
theorem dL_law__2064 : decode cL_law_ 2064 = .ok (.if_icmp .eq 5, 3) := by decide +kernel
theorem dL_law__2067 : decode cL_law_ 2067 = .ok (.iconst 0, 1) := by decide +kernel
theorem dL_law__2068 : decode cL_law_ 2068 = .ok (.ireturn, 1) := by decide +kernel
theorem dL_law__2069 : decode cL_law_ 2069 = .ok (.iinc 4 6, 3) := by decide +kernel
theorem dL_law__2072 : decode cL_law_ 2072 = .ok (.goto (-2049), 3) := by decide +kernel
theorem dL_law__2075 : decode cL_law_ 2075 = .ok (.iconst 1, 1) := by decide +kernel
theorem dL_law__2076 : decode cL_law_ 2076 = .ok (.ireturn, 1) := by decide +kernel
