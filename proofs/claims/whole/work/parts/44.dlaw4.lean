/-! The law's instructions (4). -/
theorem d_L_law_1643 : decode code 1643 = .ok (.iadd, 1) := by decide +kernel
theorem d_L_law_1644 : decode code 1644 = .ok (.iaload, 1) := by decide +kernel
theorem d_L_law_1645 : decode code 1645 = .ok (.aload_n 3, 1) := by decide +kernel
theorem d_L_law_1646 : decode code 1646 = .ok (.invokestatic 151, 3) := by decide +kernel
theorem d_L_law_1649 : decode code 1649 = .ok (.istore 5, 2) := by decide +kernel
theorem d_L_law_1651 : decode code 1651 = .ok (.aload_n 2, 1) := by decide +kernel
theorem d_L_law_1652 : decode code 1652 = .ok (.aload_n 0, 1) := by decide +kernel
theorem d_L_law_1653 : decode code 1653 = .ok (.iload 4, 2) := by decide +kernel
theorem d_L_law_1655 : decode code 1655 = .ok (.iconst 1, 1) := by decide +kernel
theorem d_L_law_1656 : decode code 1656 = .ok (.iadd, 1) := by decide +kernel
theorem d_L_law_1657 : decode code 1657 = .ok (.iaload, 1) := by decide +kernel
theorem d_L_law_1658 : decode code 1658 = .ok (.aload_n 0, 1) := by decide +kernel
theorem d_L_law_1659 : decode code 1659 = .ok (.iload 4, 2) := by decide +kernel
theorem d_L_law_1661 : decode code 1661 = .ok (.iconst 2, 1) := by decide +kernel
theorem d_L_law_1662 : decode code 1662 = .ok (.iadd, 1) := by decide +kernel
theorem d_L_law_1663 : decode code 1663 = .ok (.iaload, 1) := by decide +kernel
theorem d_L_law_1664 : decode code 1664 = .ok (.invokevirtual 153, 3) := by decide +kernel
theorem d_L_law_1667 : decode code 1667 = .ok (.istore 6, 2) := by decide +kernel
theorem d_L_law_1669 : decode code 1669 = .ok (.aload_n 2, 1) := by decide +kernel
theorem d_L_law_1670 : decode code 1670 = .ok (.invokevirtual 91, 3) := by decide +kernel
theorem d_L_law_1673 : decode code 1673 = .ok (.iload 5, 2) := by decide +kernel
theorem d_L_law_1675 : decode code 1675 = .ok (.if_icmp .eq 5, 3) := by decide +kernel
theorem d_L_law_1678 : decode code 1678 = .ok (.iconst 0, 1) := by decide +kernel
theorem d_L_law_1679 : decode code 1679 = .ok (.ireturn, 1) := by decide +kernel
theorem d_L_law_1680 : decode code 1680 = .ok (.iload 5, 2) := by decide +kernel
theorem d_L_law_1682 : decode code 1682 = .ok (.ifCond .ne 15, 3) := by decide +kernel
theorem d_L_law_1685 : decode code 1685 = .ok (.aload_n 3, 1) := by decide +kernel
theorem d_L_law_1686 : decode code 1686 = .ok (.iconst 0, 1) := by decide +kernel
theorem d_L_law_1687 : decode code 1687 = .ok (.laload, 1) := by decide +kernel
theorem d_L_law_1688 : decode code 1688 = .ok (.iload 6, 2) := by decide +kernel
theorem d_L_law_1690 : decode code 1690 = .ok (.i2l, 1) := by decide +kernel
theorem d_L_law_1691 : decode code 1691 = .ok (.lcmp, 1) := by decide +kernel
theorem d_L_law_1692 : decode code 1692 = .ok (.ifCond .eq 5, 3) := by decide +kernel
theorem d_L_law_1695 : decode code 1695 = .ok (.iconst 0, 1) := by decide +kernel
theorem d_L_law_1696 : decode code 1696 = .ok (.ireturn, 1) := by decide +kernel
theorem d_L_law_1697 : decode code 1697 = .ok (.goto 423, 3) := by decide +kernel
theorem d_L_law_1700 : decode code 1700 = .ok (.aload_n 1, 1) := by decide +kernel
theorem d_L_law_1701 : decode code 1701 = .ok (.aload_n 0, 1) := by decide +kernel
theorem d_L_law_1702 : decode code 1702 = .ok (.iload 4, 2) := by decide +kernel
theorem d_L_law_1704 : decode code 1704 = .ok (.iconst 1, 1) := by decide +kernel
theorem d_L_law_1705 : decode code 1705 = .ok (.iadd, 1) := by decide +kernel
theorem d_L_law_1706 : decode code 1706 = .ok (.iaload, 1) := by decide +kernel
theorem d_L_law_1707 : decode code 1707 = .ok (.aload_n 0, 1) := by decide +kernel
theorem d_L_law_1708 : decode code 1708 = .ok (.iload 4, 2) := by decide +kernel
theorem d_L_law_1710 : decode code 1710 = .ok (.iconst 2, 1) := by decide +kernel
theorem d_L_law_1711 : decode code 1711 = .ok (.iadd, 1) := by decide +kernel
theorem d_L_law_1712 : decode code 1712 = .ok (.iaload, 1) := by decide +kernel
theorem d_L_law_1713 : decode code 1713 = .ok (.aload_n 0, 1) := by decide +kernel
theorem d_L_law_1714 : decode code 1714 = .ok (.iload 4, 2) := by decide +kernel
theorem d_L_law_1716 : decode code 1716 = .ok (.iconst 3, 1) := by decide +kernel
theorem d_L_law_1717 : decode code 1717 = .ok (.iadd, 1) := by decide +kernel
theorem d_L_law_1718 : decode code 1718 = .ok (.iaload, 1) := by decide +kernel
theorem d_L_law_1719 : decode code 1719 = .ok (.aload_n 0, 1) := by decide +kernel
theorem d_L_law_1720 : decode code 1720 = .ok (.iload 4, 2) := by decide +kernel
theorem d_L_law_1722 : decode code 1722 = .ok (.iconst 4, 1) := by decide +kernel
theorem d_L_law_1723 : decode code 1723 = .ok (.iadd, 1) := by decide +kernel
theorem d_L_law_1724 : decode code 1724 = .ok (.iaload, 1) := by decide +kernel
theorem d_L_law_1725 : decode code 1725 = .ok (.i2l, 1) := by decide +kernel
theorem d_L_law_1726 : decode code 1726 = .ok (.bipush 32, 2) := by decide +kernel
theorem d_L_law_1728 : decode code 1728 = .ok (.lshl, 1) := by decide +kernel
theorem d_L_law_1729 : decode code 1729 = .ok (.aload_n 0, 1) := by decide +kernel
theorem d_L_law_1730 : decode code 1730 = .ok (.iload 4, 2) := by decide +kernel
theorem d_L_law_1732 : decode code 1732 = .ok (.iconst 5, 1) := by decide +kernel
theorem d_L_law_1733 : decode code 1733 = .ok (.iadd, 1) := by decide +kernel
theorem d_L_law_1734 : decode code 1734 = .ok (.iaload, 1) := by decide +kernel
theorem d_L_law_1735 : decode code 1735 = .ok (.i2l, 1) := by decide +kernel
theorem d_L_law_1736 : decode code 1736 = .ok (.ldc2_w 99, 3) := by decide +kernel
theorem d_L_law_1739 : decode code 1739 = .ok (.land, 1) := by decide +kernel
theorem d_L_law_1740 : decode code 1740 = .ok (.lor, 1) := by decide +kernel
theorem d_L_law_1741 : decode code 1741 = .ok (.aload_n 3, 1) := by decide +kernel
theorem d_L_law_1742 : decode code 1742 = .ok (.invokestatic 154, 3) := by decide +kernel
theorem d_L_law_1745 : decode code 1745 = .ok (.istore 5, 2) := by decide +kernel
theorem d_L_law_1747 : decode code 1747 = .ok (.aload_n 2, 1) := by decide +kernel
theorem d_L_law_1748 : decode code 1748 = .ok (.aload_n 0, 1) := by decide +kernel
theorem d_L_law_1749 : decode code 1749 = .ok (.iload 4, 2) := by decide +kernel
theorem d_L_law_1751 : decode code 1751 = .ok (.iconst 1, 1) := by decide +kernel
theorem d_L_law_1752 : decode code 1752 = .ok (.iadd, 1) := by decide +kernel
theorem d_L_law_1753 : decode code 1753 = .ok (.iaload, 1) := by decide +kernel
theorem d_L_law_1754 : decode code 1754 = .ok (.aload_n 0, 1) := by decide +kernel
theorem d_L_law_1755 : decode code 1755 = .ok (.iload 4, 2) := by decide +kernel
theorem d_L_law_1757 : decode code 1757 = .ok (.iconst 2, 1) := by decide +kernel
theorem d_L_law_1758 : decode code 1758 = .ok (.iadd, 1) := by decide +kernel
theorem d_L_law_1759 : decode code 1759 = .ok (.iaload, 1) := by decide +kernel
theorem d_L_law_1760 : decode code 1760 = .ok (.aload_n 0, 1) := by decide +kernel
theorem d_L_law_1761 : decode code 1761 = .ok (.iload 4, 2) := by decide +kernel
theorem d_L_law_1763 : decode code 1763 = .ok (.iconst 3, 1) := by decide +kernel
theorem d_L_law_1764 : decode code 1764 = .ok (.iadd, 1) := by decide +kernel
theorem d_L_law_1765 : decode code 1765 = .ok (.iaload, 1) := by decide +kernel
theorem d_L_law_1766 : decode code 1766 = .ok (.aload_n 0, 1) := by decide +kernel
theorem d_L_law_1767 : decode code 1767 = .ok (.iload 4, 2) := by decide +kernel
theorem d_L_law_1769 : decode code 1769 = .ok (.iconst 4, 1) := by decide +kernel
theorem d_L_law_1770 : decode code 1770 = .ok (.iadd, 1) := by decide +kernel
theorem d_L_law_1771 : decode code 1771 = .ok (.iaload, 1) := by decide +kernel
theorem d_L_law_1772 : decode code 1772 = .ok (.i2l, 1) := by decide +kernel
theorem d_L_law_1773 : decode code 1773 = .ok (.bipush 32, 2) := by decide +kernel
theorem d_L_law_1775 : decode code 1775 = .ok (.lshl, 1) := by decide +kernel
theorem d_L_law_1776 : decode code 1776 = .ok (.aload_n 0, 1) := by decide +kernel
theorem d_L_law_1777 : decode code 1777 = .ok (.iload 4, 2) := by decide +kernel
theorem d_L_law_1779 : decode code 1779 = .ok (.iconst 5, 1) := by decide +kernel
theorem d_L_law_1780 : decode code 1780 = .ok (.iadd, 1) := by decide +kernel
theorem d_L_law_1781 : decode code 1781 = .ok (.iaload, 1) := by decide +kernel
theorem d_L_law_1782 : decode code 1782 = .ok (.i2l, 1) := by decide +kernel
theorem d_L_law_1783 : decode code 1783 = .ok (.ldc2_w 99, 3) := by decide +kernel
theorem d_L_law_1786 : decode code 1786 = .ok (.land, 1) := by decide +kernel
theorem d_L_law_1787 : decode code 1787 = .ok (.lor, 1) := by decide +kernel
theorem d_L_law_1788 : decode code 1788 = .ok (.invokevirtual 157, 3) := by decide +kernel
theorem d_L_law_1791 : decode code 1791 = .ok (.istore 6, 2) := by decide +kernel
theorem d_L_law_1793 : decode code 1793 = .ok (.aload_n 2, 1) := by decide +kernel
theorem d_L_law_1794 : decode code 1794 = .ok (.invokevirtual 91, 3) := by decide +kernel
theorem d_L_law_1797 : decode code 1797 = .ok (.iload 5, 2) := by decide +kernel
theorem d_L_law_1799 : decode code 1799 = .ok (.if_icmp .eq 5, 3) := by decide +kernel
theorem d_L_law_1802 : decode code 1802 = .ok (.iconst 0, 1) := by decide +kernel
theorem d_L_law_1803 : decode code 1803 = .ok (.ireturn, 1) := by decide +kernel
theorem d_L_law_1804 : decode code 1804 = .ok (.iload 5, 2) := by decide +kernel
theorem d_L_law_1806 : decode code 1806 = .ok (.ifCond .ne 15, 3) := by decide +kernel
theorem d_L_law_1809 : decode code 1809 = .ok (.aload_n 3, 1) := by decide +kernel
theorem d_L_law_1810 : decode code 1810 = .ok (.iconst 0, 1) := by decide +kernel
theorem d_L_law_1811 : decode code 1811 = .ok (.laload, 1) := by decide +kernel
theorem d_L_law_1812 : decode code 1812 = .ok (.iload 6, 2) := by decide +kernel
theorem d_L_law_1814 : decode code 1814 = .ok (.i2l, 1) := by decide +kernel
theorem d_L_law_1815 : decode code 1815 = .ok (.lcmp, 1) := by decide +kernel
theorem d_L_law_1816 : decode code 1816 = .ok (.ifCond .eq 5, 3) := by decide +kernel
theorem d_L_law_1819 : decode code 1819 = .ok (.iconst 0, 1) := by decide +kernel
theorem d_L_law_1820 : decode code 1820 = .ok (.ireturn, 1) := by decide +kernel
theorem d_L_law_1821 : decode code 1821 = .ok (.goto 299, 3) := by decide +kernel
theorem d_L_law_1824 : decode code 1824 = .ok (.aload_n 1, 1) := by decide +kernel
theorem d_L_law_1825 : decode code 1825 = .ok (.aload_n 0, 1) := by decide +kernel
theorem d_L_law_1826 : decode code 1826 = .ok (.iload 4, 2) := by decide +kernel
theorem d_L_law_1828 : decode code 1828 = .ok (.iconst 1, 1) := by decide +kernel
theorem d_L_law_1829 : decode code 1829 = .ok (.iadd, 1) := by decide +kernel
theorem d_L_law_1830 : decode code 1830 = .ok (.iaload, 1) := by decide +kernel
theorem d_L_law_1831 : decode code 1831 = .ok (.aload_n 0, 1) := by decide +kernel
theorem d_L_law_1832 : decode code 1832 = .ok (.iload 4, 2) := by decide +kernel
theorem d_L_law_1834 : decode code 1834 = .ok (.iconst 2, 1) := by decide +kernel
theorem d_L_law_1835 : decode code 1835 = .ok (.iadd, 1) := by decide +kernel
theorem d_L_law_1836 : decode code 1836 = .ok (.iaload, 1) := by decide +kernel
theorem d_L_law_1837 : decode code 1837 = .ok (.aload_n 0, 1) := by decide +kernel
theorem d_L_law_1838 : decode code 1838 = .ok (.iload 4, 2) := by decide +kernel
theorem d_L_law_1840 : decode code 1840 = .ok (.iconst 3, 1) := by decide +kernel
theorem d_L_law_1841 : decode code 1841 = .ok (.iadd, 1) := by decide +kernel
theorem d_L_law_1842 : decode code 1842 = .ok (.iaload, 1) := by decide +kernel
theorem d_L_law_1843 : decode code 1843 = .ok (.aload_n 0, 1) := by decide +kernel
theorem d_L_law_1844 : decode code 1844 = .ok (.iload 4, 2) := by decide +kernel
theorem d_L_law_1846 : decode code 1846 = .ok (.iconst 4, 1) := by decide +kernel
theorem d_L_law_1847 : decode code 1847 = .ok (.iadd, 1) := by decide +kernel
theorem d_L_law_1848 : decode code 1848 = .ok (.iaload, 1) := by decide +kernel
theorem d_L_law_1849 : decode code 1849 = .ok (.i2l, 1) := by decide +kernel
theorem d_L_law_1850 : decode code 1850 = .ok (.bipush 32, 2) := by decide +kernel
theorem d_L_law_1852 : decode code 1852 = .ok (.lshl, 1) := by decide +kernel
theorem d_L_law_1853 : decode code 1853 = .ok (.aload_n 0, 1) := by decide +kernel
theorem d_L_law_1854 : decode code 1854 = .ok (.iload 4, 2) := by decide +kernel
theorem d_L_law_1856 : decode code 1856 = .ok (.iconst 5, 1) := by decide +kernel
theorem d_L_law_1857 : decode code 1857 = .ok (.iadd, 1) := by decide +kernel
theorem d_L_law_1858 : decode code 1858 = .ok (.iaload, 1) := by decide +kernel
theorem d_L_law_1859 : decode code 1859 = .ok (.i2l, 1) := by decide +kernel
theorem d_L_law_1860 : decode code 1860 = .ok (.ldc2_w 99, 3) := by decide +kernel
theorem d_L_law_1863 : decode code 1863 = .ok (.land, 1) := by decide +kernel
theorem d_L_law_1864 : decode code 1864 = .ok (.lor, 1) := by decide +kernel
theorem d_L_law_1865 : decode code 1865 = .ok (.aload_n 3, 1) := by decide +kernel
theorem d_L_law_1866 : decode code 1866 = .ok (.invokestatic 158, 3) := by decide +kernel
theorem d_L_law_1869 : decode code 1869 = .ok (.istore 5, 2) := by decide +kernel
theorem d_L_law_1871 : decode code 1871 = .ok (.aload_n 2, 1) := by decide +kernel
theorem d_L_law_1872 : decode code 1872 = .ok (.aload_n 0, 1) := by decide +kernel
theorem d_L_law_1873 : decode code 1873 = .ok (.iload 4, 2) := by decide +kernel
theorem d_L_law_1875 : decode code 1875 = .ok (.iconst 1, 1) := by decide +kernel
theorem d_L_law_1876 : decode code 1876 = .ok (.iadd, 1) := by decide +kernel
theorem d_L_law_1877 : decode code 1877 = .ok (.iaload, 1) := by decide +kernel
theorem d_L_law_1878 : decode code 1878 = .ok (.aload_n 0, 1) := by decide +kernel
theorem d_L_law_1879 : decode code 1879 = .ok (.iload 4, 2) := by decide +kernel
theorem d_L_law_1881 : decode code 1881 = .ok (.iconst 2, 1) := by decide +kernel
theorem d_L_law_1882 : decode code 1882 = .ok (.iadd, 1) := by decide +kernel
theorem d_L_law_1883 : decode code 1883 = .ok (.iaload, 1) := by decide +kernel
theorem d_L_law_1884 : decode code 1884 = .ok (.aload_n 0, 1) := by decide +kernel
theorem d_L_law_1885 : decode code 1885 = .ok (.iload 4, 2) := by decide +kernel
theorem d_L_law_1887 : decode code 1887 = .ok (.iconst 3, 1) := by decide +kernel
theorem d_L_law_1888 : decode code 1888 = .ok (.iadd, 1) := by decide +kernel
theorem d_L_law_1889 : decode code 1889 = .ok (.iaload, 1) := by decide +kernel
theorem d_L_law_1890 : decode code 1890 = .ok (.aload_n 0, 1) := by decide +kernel
theorem d_L_law_1891 : decode code 1891 = .ok (.iload 4, 2) := by decide +kernel
theorem d_L_law_1893 : decode code 1893 = .ok (.iconst 4, 1) := by decide +kernel
theorem d_L_law_1894 : decode code 1894 = .ok (.iadd, 1) := by decide +kernel
theorem d_L_law_1895 : decode code 1895 = .ok (.iaload, 1) := by decide +kernel
theorem d_L_law_1896 : decode code 1896 = .ok (.i2l, 1) := by decide +kernel
theorem d_L_law_1897 : decode code 1897 = .ok (.bipush 32, 2) := by decide +kernel
theorem d_L_law_1899 : decode code 1899 = .ok (.lshl, 1) := by decide +kernel
theorem d_L_law_1900 : decode code 1900 = .ok (.aload_n 0, 1) := by decide +kernel
theorem d_L_law_1901 : decode code 1901 = .ok (.iload 4, 2) := by decide +kernel
theorem d_L_law_1903 : decode code 1903 = .ok (.iconst 5, 1) := by decide +kernel
theorem d_L_law_1904 : decode code 1904 = .ok (.iadd, 1) := by decide +kernel
theorem d_L_law_1905 : decode code 1905 = .ok (.iaload, 1) := by decide +kernel
theorem d_L_law_1906 : decode code 1906 = .ok (.i2l, 1) := by decide +kernel
theorem d_L_law_1907 : decode code 1907 = .ok (.ldc2_w 99, 3) := by decide +kernel
theorem d_L_law_1910 : decode code 1910 = .ok (.land, 1) := by decide +kernel
theorem d_L_law_1911 : decode code 1911 = .ok (.lor, 1) := by decide +kernel
theorem d_L_law_1912 : decode code 1912 = .ok (.invokevirtual 160, 3) := by decide +kernel
theorem d_L_law_1915 : decode code 1915 = .ok (.istore 6, 2) := by decide +kernel
theorem d_L_law_1917 : decode code 1917 = .ok (.aload_n 2, 1) := by decide +kernel
theorem d_L_law_1918 : decode code 1918 = .ok (.invokevirtual 91, 3) := by decide +kernel
theorem d_L_law_1921 : decode code 1921 = .ok (.iload 5, 2) := by decide +kernel
theorem d_L_law_1923 : decode code 1923 = .ok (.if_icmp .eq 5, 3) := by decide +kernel
theorem d_L_law_1926 : decode code 1926 = .ok (.iconst 0, 1) := by decide +kernel
theorem d_L_law_1927 : decode code 1927 = .ok (.ireturn, 1) := by decide +kernel
theorem d_L_law_1928 : decode code 1928 = .ok (.iload 5, 2) := by decide +kernel
theorem d_L_law_1930 : decode code 1930 = .ok (.ifCond .ne 15, 3) := by decide +kernel
theorem d_L_law_1933 : decode code 1933 = .ok (.aload_n 3, 1) := by decide +kernel
theorem d_L_law_1934 : decode code 1934 = .ok (.iconst 0, 1) := by decide +kernel
theorem d_L_law_1935 : decode code 1935 = .ok (.laload, 1) := by decide +kernel
theorem d_L_law_1936 : decode code 1936 = .ok (.iload 6, 2) := by decide +kernel
theorem d_L_law_1938 : decode code 1938 = .ok (.i2l, 1) := by decide +kernel
theorem d_L_law_1939 : decode code 1939 = .ok (.lcmp, 1) := by decide +kernel
theorem d_L_law_1940 : decode code 1940 = .ok (.ifCond .eq 5, 3) := by decide +kernel
theorem d_L_law_1943 : decode code 1943 = .ok (.iconst 0, 1) := by decide +kernel
theorem d_L_law_1944 : decode code 1944 = .ok (.ireturn, 1) := by decide +kernel
theorem d_L_law_1945 : decode code 1945 = .ok (.goto 175, 3) := by decide +kernel
theorem d_L_law_1948 : decode code 1948 = .ok (.aload_n 1, 1) := by decide +kernel
theorem d_L_law_1949 : decode code 1949 = .ok (.aload_n 0, 1) := by decide +kernel
theorem d_L_law_1950 : decode code 1950 = .ok (.iload 4, 2) := by decide +kernel
theorem d_L_law_1952 : decode code 1952 = .ok (.iconst 1, 1) := by decide +kernel
theorem d_L_law_1953 : decode code 1953 = .ok (.iadd, 1) := by decide +kernel
theorem d_L_law_1954 : decode code 1954 = .ok (.iaload, 1) := by decide +kernel
theorem d_L_law_1955 : decode code 1955 = .ok (.aload_n 0, 1) := by decide +kernel
theorem d_L_law_1956 : decode code 1956 = .ok (.iload 4, 2) := by decide +kernel
theorem d_L_law_1958 : decode code 1958 = .ok (.iconst 2, 1) := by decide +kernel
theorem d_L_law_1959 : decode code 1959 = .ok (.iadd, 1) := by decide +kernel
theorem d_L_law_1960 : decode code 1960 = .ok (.iaload, 1) := by decide +kernel
theorem d_L_law_1961 : decode code 1961 = .ok (.aload_n 0, 1) := by decide +kernel
theorem d_L_law_1962 : decode code 1962 = .ok (.iload 4, 2) := by decide +kernel
theorem d_L_law_1964 : decode code 1964 = .ok (.iconst 3, 1) := by decide +kernel
theorem d_L_law_1965 : decode code 1965 = .ok (.iadd, 1) := by decide +kernel
theorem d_L_law_1966 : decode code 1966 = .ok (.iaload, 1) := by decide +kernel
theorem d_L_law_1967 : decode code 1967 = .ok (.i2l, 1) := by decide +kernel
theorem d_L_law_1968 : decode code 1968 = .ok (.bipush 32, 2) := by decide +kernel
theorem d_L_law_1970 : decode code 1970 = .ok (.lshl, 1) := by decide +kernel
theorem d_L_law_1971 : decode code 1971 = .ok (.aload_n 0, 1) := by decide +kernel
theorem d_L_law_1972 : decode code 1972 = .ok (.iload 4, 2) := by decide +kernel
theorem d_L_law_1974 : decode code 1974 = .ok (.iconst 4, 1) := by decide +kernel
theorem d_L_law_1975 : decode code 1975 = .ok (.iadd, 1) := by decide +kernel
theorem d_L_law_1976 : decode code 1976 = .ok (.iaload, 1) := by decide +kernel
theorem d_L_law_1977 : decode code 1977 = .ok (.i2l, 1) := by decide +kernel
theorem d_L_law_1978 : decode code 1978 = .ok (.ldc2_w 99, 3) := by decide +kernel
theorem d_L_law_1981 : decode code 1981 = .ok (.land, 1) := by decide +kernel
theorem d_L_law_1982 : decode code 1982 = .ok (.lor, 1) := by decide +kernel
theorem d_L_law_1983 : decode code 1983 = .ok (.aload_n 0, 1) := by decide +kernel
theorem d_L_law_1984 : decode code 1984 = .ok (.iload 4, 2) := by decide +kernel
theorem d_L_law_1986 : decode code 1986 = .ok (.iconst 5, 1) := by decide +kernel
theorem d_L_law_1987 : decode code 1987 = .ok (.iadd, 1) := by decide +kernel
theorem d_L_law_1988 : decode code 1988 = .ok (.iaload, 1) := by decide +kernel
theorem d_L_law_1989 : decode code 1989 = .ok (.i2l, 1) := by decide +kernel
theorem d_L_law_1990 : decode code 1990 = .ok (.bipush 32, 2) := by decide +kernel
theorem d_L_law_1992 : decode code 1992 = .ok (.lshl, 1) := by decide +kernel
theorem d_L_law_1993 : decode code 1993 = .ok (.aload_n 0, 1) := by decide +kernel
theorem d_L_law_1994 : decode code 1994 = .ok (.iload 4, 2) := by decide +kernel
theorem d_L_law_1996 : decode code 1996 = .ok (.bipush 6, 2) := by decide +kernel
theorem d_L_law_1998 : decode code 1998 = .ok (.iadd, 1) := by decide +kernel
theorem d_L_law_1999 : decode code 1999 = .ok (.iaload, 1) := by decide +kernel
theorem d_L_law_2000 : decode code 2000 = .ok (.i2l, 1) := by decide +kernel
theorem d_L_law_2001 : decode code 2001 = .ok (.ldc2_w 99, 3) := by decide +kernel
theorem d_L_law_2004 : decode code 2004 = .ok (.land, 1) := by decide +kernel
theorem d_L_law_2005 : decode code 2005 = .ok (.lor, 1) := by decide +kernel
theorem d_L_law_2006 : decode code 2006 = .ok (.aload_n 0, 1) := by decide +kernel
theorem d_L_law_2007 : decode code 2007 = .ok (.iload 4, 2) := by decide +kernel
theorem d_L_law_2009 : decode code 2009 = .ok (.bipush 7, 2) := by decide +kernel
theorem d_L_law_2011 : decode code 2011 = .ok (.iadd, 1) := by decide +kernel
theorem d_L_law_2012 : decode code 2012 = .ok (.iaload, 1) := by decide +kernel
theorem d_L_law_2013 : decode code 2013 = .ok (.aload_n 3, 1) := by decide +kernel
theorem d_L_law_2014 : decode code 2014 = .ok (.invokestatic 161, 3) := by decide +kernel
theorem d_L_law_2017 : decode code 2017 = .ok (.istore 5, 2) := by decide +kernel
theorem d_L_law_2019 : decode code 2019 = .ok (.aload_n 2, 1) := by decide +kernel
theorem d_L_law_2020 : decode code 2020 = .ok (.aload_n 0, 1) := by decide +kernel
theorem d_L_law_2021 : decode code 2021 = .ok (.iload 4, 2) := by decide +kernel
theorem d_L_law_2023 : decode code 2023 = .ok (.iconst 1, 1) := by decide +kernel
theorem d_L_law_2024 : decode code 2024 = .ok (.iadd, 1) := by decide +kernel
theorem d_L_law_2025 : decode code 2025 = .ok (.iaload, 1) := by decide +kernel
theorem d_L_law_2026 : decode code 2026 = .ok (.aload_n 0, 1) := by decide +kernel
theorem d_L_law_2027 : decode code 2027 = .ok (.iload 4, 2) := by decide +kernel
theorem d_L_law_2029 : decode code 2029 = .ok (.iconst 2, 1) := by decide +kernel
theorem d_L_law_2030 : decode code 2030 = .ok (.iadd, 1) := by decide +kernel
theorem d_L_law_2031 : decode code 2031 = .ok (.iaload, 1) := by decide +kernel
theorem d_L_law_2032 : decode code 2032 = .ok (.aload_n 0, 1) := by decide +kernel
theorem d_L_law_2033 : decode code 2033 = .ok (.iload 4, 2) := by decide +kernel
theorem d_L_law_2035 : decode code 2035 = .ok (.iconst 3, 1) := by decide +kernel
theorem d_L_law_2036 : decode code 2036 = .ok (.iadd, 1) := by decide +kernel
theorem d_L_law_2037 : decode code 2037 = .ok (.iaload, 1) := by decide +kernel
theorem d_L_law_2038 : decode code 2038 = .ok (.i2l, 1) := by decide +kernel
theorem d_L_law_2039 : decode code 2039 = .ok (.bipush 32, 2) := by decide +kernel
theorem d_L_law_2041 : decode code 2041 = .ok (.lshl, 1) := by decide +kernel
theorem d_L_law_2042 : decode code 2042 = .ok (.aload_n 0, 1) := by decide +kernel
theorem d_L_law_2043 : decode code 2043 = .ok (.iload 4, 2) := by decide +kernel
theorem d_L_law_2045 : decode code 2045 = .ok (.iconst 4, 1) := by decide +kernel
theorem d_L_law_2046 : decode code 2046 = .ok (.iadd, 1) := by decide +kernel
theorem d_L_law_2047 : decode code 2047 = .ok (.iaload, 1) := by decide +kernel
theorem d_L_law_2048 : decode code 2048 = .ok (.i2l, 1) := by decide +kernel
theorem d_L_law_2049 : decode code 2049 = .ok (.ldc2_w 99, 3) := by decide +kernel
theorem d_L_law_2052 : decode code 2052 = .ok (.land, 1) := by decide +kernel
theorem d_L_law_2053 : decode code 2053 = .ok (.lor, 1) := by decide +kernel
theorem d_L_law_2054 : decode code 2054 = .ok (.aload_n 0, 1) := by decide +kernel
theorem d_L_law_2055 : decode code 2055 = .ok (.iload 4, 2) := by decide +kernel
theorem d_L_law_2057 : decode code 2057 = .ok (.iconst 5, 1) := by decide +kernel
theorem d_L_law_2058 : decode code 2058 = .ok (.iadd, 1) := by decide +kernel
theorem d_L_law_2059 : decode code 2059 = .ok (.iaload, 1) := by decide +kernel
theorem d_L_law_2060 : decode code 2060 = .ok (.i2l, 1) := by decide +kernel
theorem d_L_law_2061 : decode code 2061 = .ok (.bipush 32, 2) := by decide +kernel
theorem d_L_law_2063 : decode code 2063 = .ok (.lshl, 1) := by decide +kernel
theorem d_L_law_2064 : decode code 2064 = .ok (.aload_n 0, 1) := by decide +kernel
theorem d_L_law_2065 : decode code 2065 = .ok (.iload 4, 2) := by decide +kernel
theorem d_L_law_2067 : decode code 2067 = .ok (.bipush 6, 2) := by decide +kernel
theorem d_L_law_2069 : decode code 2069 = .ok (.iadd, 1) := by decide +kernel
theorem d_L_law_2070 : decode code 2070 = .ok (.iaload, 1) := by decide +kernel
theorem d_L_law_2071 : decode code 2071 = .ok (.i2l, 1) := by decide +kernel
theorem d_L_law_2072 : decode code 2072 = .ok (.ldc2_w 99, 3) := by decide +kernel
theorem d_L_law_2075 : decode code 2075 = .ok (.land, 1) := by decide +kernel
theorem d_L_law_2076 : decode code 2076 = .ok (.lor, 1) := by decide +kernel
theorem d_L_law_2077 : decode code 2077 = .ok (.aload_n 0, 1) := by decide +kernel
theorem d_L_law_2078 : decode code 2078 = .ok (.iload 4, 2) := by decide +kernel
theorem d_L_law_2080 : decode code 2080 = .ok (.bipush 7, 2) := by decide +kernel
theorem d_L_law_2082 : decode code 2082 = .ok (.iadd, 1) := by decide +kernel
theorem d_L_law_2083 : decode code 2083 = .ok (.iaload, 1) := by decide +kernel
theorem d_L_law_2084 : decode code 2084 = .ok (.invokevirtual 163, 3) := by decide +kernel
theorem d_L_law_2087 : decode code 2087 = .ok (.istore 6, 2) := by decide +kernel
theorem d_L_law_2089 : decode code 2089 = .ok (.aload_n 2, 1) := by decide +kernel
theorem d_L_law_2090 : decode code 2090 = .ok (.invokevirtual 91, 3) := by decide +kernel
theorem d_L_law_2093 : decode code 2093 = .ok (.iload 5, 2) := by decide +kernel
theorem d_L_law_2095 : decode code 2095 = .ok (.if_icmp .eq 5, 3) := by decide +kernel
theorem d_L_law_2098 : decode code 2098 = .ok (.iconst 0, 1) := by decide +kernel
theorem d_L_law_2099 : decode code 2099 = .ok (.ireturn, 1) := by decide +kernel
theorem d_L_law_2100 : decode code 2100 = .ok (.iload 5, 2) := by decide +kernel
theorem d_L_law_2102 : decode code 2102 = .ok (.ifCond .ne 15, 3) := by decide +kernel
theorem d_L_law_2105 : decode code 2105 = .ok (.aload_n 3, 1) := by decide +kernel
theorem d_L_law_2106 : decode code 2106 = .ok (.iconst 0, 1) := by decide +kernel
theorem d_L_law_2107 : decode code 2107 = .ok (.laload, 1) := by decide +kernel
theorem d_L_law_2108 : decode code 2108 = .ok (.iload 6, 2) := by decide +kernel
theorem d_L_law_2110 : decode code 2110 = .ok (.i2l, 1) := by decide +kernel
theorem d_L_law_2111 : decode code 2111 = .ok (.lcmp, 1) := by decide +kernel
theorem d_L_law_2112 : decode code 2112 = .ok (.ifCond .eq 5, 3) := by decide +kernel
theorem d_L_law_2115 : decode code 2115 = .ok (.iconst 0, 1) := by decide +kernel
theorem d_L_law_2116 : decode code 2116 = .ok (.ireturn, 1) := by decide +kernel
theorem d_L_law_2117 : decode code 2117 = .ok (.goto 3, 3) := by decide +kernel
theorem d_L_law_2120 : decode code 2120 = .ok (.iinc 4 10, 3) := by decide +kernel
theorem d_L_law_2123 : decode code 2123 = .ok (.goto (-2100), 3) := by decide +kernel
theorem d_L_law_2126 : decode code 2126 = .ok (.iconst 1, 1) := by decide +kernel
theorem d_L_law_2127 : decode code 2127 = .ok (.ireturn, 1) := by decide +kernel
