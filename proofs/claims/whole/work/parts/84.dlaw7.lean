theorem dL_law_1690 : decode cL_law 1690 = .ok (.aload_n 3, 1) := by decide +kernel
theorem dL_law_1691 : decode cL_law 1691 = .ok (.invokestatic 258, 3) := by decide +kernel
theorem dL_law_1694 : decode cL_law 1694 = .ok (.istore 6, 2) := by decide +kernel
theorem dL_law_1696 : decode cL_law 1696 = .ok (.aload_n 2, 1) := by decide +kernel
theorem dL_law_1697 : decode cL_law 1697 = .ok (.aload_n 0, 1) := by decide +kernel
theorem dL_law_1698 : decode cL_law 1698 = .ok (.iload 5, 2) := by decide +kernel
theorem dL_law_1700 : decode cL_law 1700 = .ok (.iconst 1, 1) := by decide +kernel
theorem dL_law_1701 : decode cL_law 1701 = .ok (.iadd, 1) := by decide +kernel
theorem dL_law_1702 : decode cL_law 1702 = .ok (.iaload, 1) := by decide +kernel
theorem dL_law_1703 : decode cL_law 1703 = .ok (.aload_n 0, 1) := by decide +kernel
theorem dL_law_1704 : decode cL_law 1704 = .ok (.iload 5, 2) := by decide +kernel
theorem dL_law_1706 : decode cL_law 1706 = .ok (.iconst 2, 1) := by decide +kernel
theorem dL_law_1707 : decode cL_law 1707 = .ok (.iadd, 1) := by decide +kernel
theorem dL_law_1708 : decode cL_law 1708 = .ok (.iaload, 1) := by decide +kernel
theorem dL_law_1709 : decode cL_law 1709 = .ok (.invokevirtual 260, 3) := by decide +kernel
theorem dL_law_1712 : decode cL_law 1712 = .ok (.istore 7, 2) := by decide +kernel
theorem dL_law_1714 : decode cL_law 1714 = .ok (.aload_n 2, 1) := by decide +kernel
theorem dL_law_1715 : decode cL_law 1715 = .ok (.invokevirtual 174, 3) := by decide +kernel
theorem dL_law_1718 : decode cL_law 1718 = .ok (.iload 6, 2) := by decide +kernel
theorem dL_law_1720 : decode cL_law 1720 = .ok (.if_icmp .eq 5, 3) := by decide +kernel
theorem dL_law_1723 : decode cL_law 1723 = .ok (.iconst 0, 1) := by decide +kernel
theorem dL_law_1724 : decode cL_law 1724 = .ok (.ireturn, 1) := by decide +kernel
theorem dL_law_1725 : decode cL_law 1725 = .ok (.iload 6, 2) := by decide +kernel
theorem dL_law_1727 : decode cL_law 1727 = .ok (.ifCond .ne 15, 3) := by decide +kernel
theorem dL_law_1730 : decode cL_law 1730 = .ok (.aload_n 3, 1) := by decide +kernel
theorem dL_law_1731 : decode cL_law 1731 = .ok (.iconst 0, 1) := by decide +kernel
theorem dL_law_1732 : decode cL_law 1732 = .ok (.laload, 1) := by decide +kernel
theorem dL_law_1733 : decode cL_law 1733 = .ok (.iload 7, 2) := by decide +kernel
theorem dL_law_1735 : decode cL_law 1735 = .ok (.i2l, 1) := by decide +kernel
theorem dL_law_1736 : decode cL_law 1736 = .ok (.lcmp, 1) := by decide +kernel
theorem dL_law_1737 : decode cL_law 1737 = .ok (.ifCond .eq 5, 3) := by decide +kernel
theorem dL_law_1740 : decode cL_law 1740 = .ok (.iconst 0, 1) := by decide +kernel
theorem dL_law_1741 : decode cL_law 1741 = .ok (.ireturn, 1) := by decide +kernel
theorem dL_law_1742 : decode cL_law 1742 = .ok (.goto 1349, 3) := by decide +kernel
theorem dL_law_1745 : decode cL_law 1745 = .ok (.aload_n 1, 1) := by decide +kernel
theorem dL_law_1746 : decode cL_law 1746 = .ok (.invokevirtual 261, 3) := by decide +kernel
theorem dL_law_1749 : decode cL_law 1749 = .ok (.aload_n 2, 1) := by decide +kernel
theorem dL_law_1750 : decode cL_law 1750 = .ok (.invokevirtual 264, 3) := by decide +kernel
theorem dL_law_1753 : decode cL_law 1753 = .ok (.if_icmp .eq 1338, 3) := by decide +kernel
theorem dL_law_1756 : decode cL_law 1756 = .ok (.iconst 0, 1) := by decide +kernel
theorem dL_law_1757 : decode cL_law 1757 = .ok (.ireturn, 1) := by decide +kernel
theorem dL_law_1758 : decode cL_law 1758 = .ok (.aload_n 1, 1) := by decide +kernel
theorem dL_law_1759 : decode cL_law 1759 = .ok (.aload_n 0, 1) := by decide +kernel
theorem dL_law_1760 : decode cL_law 1760 = .ok (.iload 5, 2) := by decide +kernel
theorem dL_law_1762 : decode cL_law 1762 = .ok (.iconst 1, 1) := by decide +kernel
theorem dL_law_1763 : decode cL_law 1763 = .ok (.iadd, 1) := by decide +kernel
theorem dL_law_1764 : decode cL_law 1764 = .ok (.iaload, 1) := by decide +kernel
theorem dL_law_1765 : decode cL_law 1765 = .ok (.aload_n 3, 1) := by decide +kernel
theorem dL_law_1766 : decode cL_law 1766 = .ok (.invokestatic 265, 3) := by decide +kernel
theorem dL_law_1769 : decode cL_law 1769 = .ok (.istore 6, 2) := by decide +kernel
theorem dL_law_1771 : decode cL_law 1771 = .ok (.aload_n 2, 1) := by decide +kernel
theorem dL_law_1772 : decode cL_law 1772 = .ok (.aload_n 0, 1) := by decide +kernel
theorem dL_law_1773 : decode cL_law 1773 = .ok (.iload 5, 2) := by decide +kernel
theorem dL_law_1775 : decode cL_law 1775 = .ok (.iconst 1, 1) := by decide +kernel
theorem dL_law_1776 : decode cL_law 1776 = .ok (.iadd, 1) := by decide +kernel
theorem dL_law_1777 : decode cL_law 1777 = .ok (.iaload, 1) := by decide +kernel
theorem dL_law_1778 : decode cL_law 1778 = .ok (.invokevirtual 267, 3) := by decide +kernel
theorem dL_law_1781 : decode cL_law 1781 = .ok (.istore 7, 2) := by decide +kernel
theorem dL_law_1783 : decode cL_law 1783 = .ok (.aload_n 2, 1) := by decide +kernel
theorem dL_law_1784 : decode cL_law 1784 = .ok (.invokevirtual 174, 3) := by decide +kernel
theorem dL_law_1787 : decode cL_law 1787 = .ok (.iload 6, 2) := by decide +kernel
theorem dL_law_1789 : decode cL_law 1789 = .ok (.if_icmp .eq 5, 3) := by decide +kernel
theorem dL_law_1792 : decode cL_law 1792 = .ok (.iconst 0, 1) := by decide +kernel
theorem dL_law_1793 : decode cL_law 1793 = .ok (.ireturn, 1) := by decide +kernel
theorem dL_law_1794 : decode cL_law 1794 = .ok (.iload 6, 2) := by decide +kernel
theorem dL_law_1796 : decode cL_law 1796 = .ok (.ifCond .ne 15, 3) := by decide +kernel
theorem dL_law_1799 : decode cL_law 1799 = .ok (.aload_n 3, 1) := by decide +kernel
theorem dL_law_1800 : decode cL_law 1800 = .ok (.iconst 0, 1) := by decide +kernel
theorem dL_law_1801 : decode cL_law 1801 = .ok (.laload, 1) := by decide +kernel
theorem dL_law_1802 : decode cL_law 1802 = .ok (.iload 7, 2) := by decide +kernel
theorem dL_law_1804 : decode cL_law 1804 = .ok (.i2l, 1) := by decide +kernel
theorem dL_law_1805 : decode cL_law 1805 = .ok (.lcmp, 1) := by decide +kernel
theorem dL_law_1806 : decode cL_law 1806 = .ok (.ifCond .eq 5, 3) := by decide +kernel
theorem dL_law_1809 : decode cL_law 1809 = .ok (.iconst 0, 1) := by decide +kernel
theorem dL_law_1810 : decode cL_law 1810 = .ok (.ireturn, 1) := by decide +kernel
theorem dL_law_1811 : decode cL_law 1811 = .ok (.goto 1280, 3) := by decide +kernel
theorem dL_law_1814 : decode cL_law 1814 = .ok (.aload_n 1, 1) := by decide +kernel
theorem dL_law_1815 : decode cL_law 1815 = .ok (.aload_n 0, 1) := by decide +kernel
theorem dL_law_1816 : decode cL_law 1816 = .ok (.iload 5, 2) := by decide +kernel
theorem dL_law_1818 : decode cL_law 1818 = .ok (.iconst 1, 1) := by decide +kernel
theorem dL_law_1819 : decode cL_law 1819 = .ok (.iadd, 1) := by decide +kernel
theorem dL_law_1820 : decode cL_law 1820 = .ok (.iaload, 1) := by decide +kernel
theorem dL_law_1821 : decode cL_law 1821 = .ok (.aload_n 3, 1) := by decide +kernel
theorem dL_law_1822 : decode cL_law 1822 = .ok (.invokestatic 268, 3) := by decide +kernel
theorem dL_law_1825 : decode cL_law 1825 = .ok (.istore 6, 2) := by decide +kernel
theorem dL_law_1827 : decode cL_law 1827 = .ok (.aload_n 2, 1) := by decide +kernel
theorem dL_law_1828 : decode cL_law 1828 = .ok (.aload_n 0, 1) := by decide +kernel
theorem dL_law_1829 : decode cL_law 1829 = .ok (.iload 5, 2) := by decide +kernel
theorem dL_law_1831 : decode cL_law 1831 = .ok (.iconst 1, 1) := by decide +kernel
theorem dL_law_1832 : decode cL_law 1832 = .ok (.iadd, 1) := by decide +kernel
theorem dL_law_1833 : decode cL_law 1833 = .ok (.iaload, 1) := by decide +kernel
theorem dL_law_1834 : decode cL_law 1834 = .ok (.invokevirtual 270, 3) := by decide +kernel
theorem dL_law_1837 : decode cL_law 1837 = .ok (.istore 7, 2) := by decide +kernel
theorem dL_law_1839 : decode cL_law 1839 = .ok (.aload_n 2, 1) := by decide +kernel
theorem dL_law_1840 : decode cL_law 1840 = .ok (.invokevirtual 174, 3) := by decide +kernel
theorem dL_law_1843 : decode cL_law 1843 = .ok (.iload 6, 2) := by decide +kernel
theorem dL_law_1845 : decode cL_law 1845 = .ok (.if_icmp .eq 5, 3) := by decide +kernel
theorem dL_law_1848 : decode cL_law 1848 = .ok (.iconst 0, 1) := by decide +kernel
theorem dL_law_1849 : decode cL_law 1849 = .ok (.ireturn, 1) := by decide +kernel
theorem dL_law_1850 : decode cL_law 1850 = .ok (.iload 6, 2) := by decide +kernel
theorem dL_law_1852 : decode cL_law 1852 = .ok (.ifCond .ne 15, 3) := by decide +kernel
theorem dL_law_1855 : decode cL_law 1855 = .ok (.aload_n 3, 1) := by decide +kernel
theorem dL_law_1856 : decode cL_law 1856 = .ok (.iconst 0, 1) := by decide +kernel
theorem dL_law_1857 : decode cL_law 1857 = .ok (.laload, 1) := by decide +kernel
theorem dL_law_1858 : decode cL_law 1858 = .ok (.iload 7, 2) := by decide +kernel
theorem dL_law_1860 : decode cL_law 1860 = .ok (.i2l, 1) := by decide +kernel
theorem dL_law_1861 : decode cL_law 1861 = .ok (.lcmp, 1) := by decide +kernel
theorem dL_law_1862 : decode cL_law 1862 = .ok (.ifCond .eq 5, 3) := by decide +kernel
theorem dL_law_1865 : decode cL_law 1865 = .ok (.iconst 0, 1) := by decide +kernel
theorem dL_law_1866 : decode cL_law 1866 = .ok (.ireturn, 1) := by decide +kernel
theorem dL_law_1867 : decode cL_law 1867 = .ok (.goto 1224, 3) := by decide +kernel
theorem dL_law_1870 : decode cL_law 1870 = .ok (.aload_n 1, 1) := by decide +kernel
theorem dL_law_1871 : decode cL_law 1871 = .ok (.aload_n 0, 1) := by decide +kernel
theorem dL_law_1872 : decode cL_law 1872 = .ok (.iload 5, 2) := by decide +kernel
theorem dL_law_1874 : decode cL_law 1874 = .ok (.iconst 1, 1) := by decide +kernel
theorem dL_law_1875 : decode cL_law 1875 = .ok (.iadd, 1) := by decide +kernel
theorem dL_law_1876 : decode cL_law 1876 = .ok (.iaload, 1) := by decide +kernel
theorem dL_law_1877 : decode cL_law 1877 = .ok (.aload_n 3, 1) := by decide +kernel
theorem dL_law_1878 : decode cL_law 1878 = .ok (.invokestatic 271, 3) := by decide +kernel
theorem dL_law_1881 : decode cL_law 1881 = .ok (.istore 6, 2) := by decide +kernel
theorem dL_law_1883 : decode cL_law 1883 = .ok (.aload_n 2, 1) := by decide +kernel
theorem dL_law_1884 : decode cL_law 1884 = .ok (.aload_n 0, 1) := by decide +kernel
theorem dL_law_1885 : decode cL_law 1885 = .ok (.iload 5, 2) := by decide +kernel
theorem dL_law_1887 : decode cL_law 1887 = .ok (.iconst 1, 1) := by decide +kernel
theorem dL_law_1888 : decode cL_law 1888 = .ok (.iadd, 1) := by decide +kernel
theorem dL_law_1889 : decode cL_law 1889 = .ok (.iaload, 1) := by decide +kernel
theorem dL_law_1890 : decode cL_law 1890 = .ok (.invokevirtual 273, 3) := by decide +kernel
theorem dL_law_1893 : decode cL_law 1893 = .ok (.istore 7, 2) := by decide +kernel
theorem dL_law_1895 : decode cL_law 1895 = .ok (.aload_n 2, 1) := by decide +kernel
theorem dL_law_1896 : decode cL_law 1896 = .ok (.invokevirtual 174, 3) := by decide +kernel
theorem dL_law_1899 : decode cL_law 1899 = .ok (.iload 6, 2) := by decide +kernel
theorem dL_law_1901 : decode cL_law 1901 = .ok (.if_icmp .eq 5, 3) := by decide +kernel
theorem dL_law_1904 : decode cL_law 1904 = .ok (.iconst 0, 1) := by decide +kernel
theorem dL_law_1905 : decode cL_law 1905 = .ok (.ireturn, 1) := by decide +kernel
theorem dL_law_1906 : decode cL_law 1906 = .ok (.iload 6, 2) := by decide +kernel
theorem dL_law_1908 : decode cL_law 1908 = .ok (.ifCond .ne 15, 3) := by decide +kernel
theorem dL_law_1911 : decode cL_law 1911 = .ok (.aload_n 3, 1) := by decide +kernel
theorem dL_law_1912 : decode cL_law 1912 = .ok (.iconst 0, 1) := by decide +kernel
theorem dL_law_1913 : decode cL_law 1913 = .ok (.laload, 1) := by decide +kernel
theorem dL_law_1914 : decode cL_law 1914 = .ok (.iload 7, 2) := by decide +kernel
theorem dL_law_1916 : decode cL_law 1916 = .ok (.i2l, 1) := by decide +kernel
theorem dL_law_1917 : decode cL_law 1917 = .ok (.lcmp, 1) := by decide +kernel
theorem dL_law_1918 : decode cL_law 1918 = .ok (.ifCond .eq 5, 3) := by decide +kernel
theorem dL_law_1921 : decode cL_law 1921 = .ok (.iconst 0, 1) := by decide +kernel
theorem dL_law_1922 : decode cL_law 1922 = .ok (.ireturn, 1) := by decide +kernel
theorem dL_law_1923 : decode cL_law 1923 = .ok (.goto 1168, 3) := by decide +kernel
theorem dL_law_1926 : decode cL_law 1926 = .ok (.aload_n 1, 1) := by decide +kernel
theorem dL_law_1927 : decode cL_law 1927 = .ok (.aload_n 0, 1) := by decide +kernel
theorem dL_law_1928 : decode cL_law 1928 = .ok (.iload 5, 2) := by decide +kernel
theorem dL_law_1930 : decode cL_law 1930 = .ok (.iconst 1, 1) := by decide +kernel
theorem dL_law_1931 : decode cL_law 1931 = .ok (.iadd, 1) := by decide +kernel
theorem dL_law_1932 : decode cL_law 1932 = .ok (.iaload, 1) := by decide +kernel
theorem dL_law_1933 : decode cL_law 1933 = .ok (.aload_n 3, 1) := by decide +kernel
theorem dL_law_1934 : decode cL_law 1934 = .ok (.invokestatic 274, 3) := by decide +kernel
theorem dL_law_1937 : decode cL_law 1937 = .ok (.istore 6, 2) := by decide +kernel
theorem dL_law_1939 : decode cL_law 1939 = .ok (.aload_n 2, 1) := by decide +kernel
theorem dL_law_1940 : decode cL_law 1940 = .ok (.aload_n 0, 1) := by decide +kernel
theorem dL_law_1941 : decode cL_law 1941 = .ok (.iload 5, 2) := by decide +kernel
theorem dL_law_1943 : decode cL_law 1943 = .ok (.iconst 1, 1) := by decide +kernel
theorem dL_law_1944 : decode cL_law 1944 = .ok (.iadd, 1) := by decide +kernel
theorem dL_law_1945 : decode cL_law 1945 = .ok (.iaload, 1) := by decide +kernel
theorem dL_law_1946 : decode cL_law 1946 = .ok (.invokevirtual 276, 3) := by decide +kernel
theorem dL_law_1949 : decode cL_law 1949 = .ok (.istore 7, 2) := by decide +kernel
theorem dL_law_1951 : decode cL_law 1951 = .ok (.aload_n 2, 1) := by decide +kernel
theorem dL_law_1952 : decode cL_law 1952 = .ok (.invokevirtual 174, 3) := by decide +kernel
theorem dL_law_1955 : decode cL_law 1955 = .ok (.iload 6, 2) := by decide +kernel
theorem dL_law_1957 : decode cL_law 1957 = .ok (.if_icmp .eq 5, 3) := by decide +kernel
theorem dL_law_1960 : decode cL_law 1960 = .ok (.iconst 0, 1) := by decide +kernel
theorem dL_law_1961 : decode cL_law 1961 = .ok (.ireturn, 1) := by decide +kernel
theorem dL_law_1962 : decode cL_law 1962 = .ok (.iload 6, 2) := by decide +kernel
theorem dL_law_1964 : decode cL_law 1964 = .ok (.ifCond .ne 22, 3) := by decide +kernel
theorem dL_law_1967 : decode cL_law 1967 = .ok (.aload_n 3, 1) := by decide +kernel
theorem dL_law_1968 : decode cL_law 1968 = .ok (.iconst 0, 1) := by decide +kernel
theorem dL_law_1969 : decode cL_law 1969 = .ok (.laload, 1) := by decide +kernel
theorem dL_law_1970 : decode cL_law 1970 = .ok (.iload 7, 2) := by decide +kernel
theorem dL_law_1972 : decode cL_law 1972 = .ok (.ifCond .eq 7, 3) := by decide +kernel
theorem dL_law_1975 : decode cL_law 1975 = .ok (.lconst 1, 1) := by decide +kernel
theorem dL_law_1976 : decode cL_law 1976 = .ok (.goto 4, 3) := by decide +kernel
theorem dL_law_1979 : decode cL_law 1979 = .ok (.lconst 0, 1) := by decide +kernel
theorem dL_law_1980 : decode cL_law 1980 = .ok (.lcmp, 1) := by decide +kernel
theorem dL_law_1981 : decode cL_law 1981 = .ok (.ifCond .eq 5, 3) := by decide +kernel
theorem dL_law_1984 : decode cL_law 1984 = .ok (.iconst 0, 1) := by decide +kernel
theorem dL_law_1985 : decode cL_law 1985 = .ok (.ireturn, 1) := by decide +kernel
theorem dL_law_1986 : decode cL_law 1986 = .ok (.goto 1105, 3) := by decide +kernel
theorem dL_law_1989 : decode cL_law 1989 = .ok (.aload_n 1, 1) := by decide +kernel
theorem dL_law_1990 : decode cL_law 1990 = .ok (.invokevirtual 277, 3) := by decide +kernel
theorem dL_law_1993 : decode cL_law 1993 = .ok (.aload_n 2, 1) := by decide +kernel
theorem dL_law_1994 : decode cL_law 1994 = .ok (.invokevirtual 280, 3) := by decide +kernel
theorem dL_law_1997 : decode cL_law 1997 = .ok (.if_icmp .eq 1094, 3) := by decide +kernel
theorem dL_law_2000 : decode cL_law 2000 = .ok (.iconst 0, 1) := by decide +kernel
theorem dL_law_2001 : decode cL_law 2001 = .ok (.ireturn, 1) := by decide +kernel
theorem dL_law_2002 : decode cL_law 2002 = .ok (.aload_n 1, 1) := by decide +kernel
theorem dL_law_2003 : decode cL_law 2003 = .ok (.invokevirtual 281, 3) := by decide +kernel
theorem dL_law_2006 : decode cL_law 2006 = .ok (.aload_n 2, 1) := by decide +kernel
theorem dL_law_2007 : decode cL_law 2007 = .ok (.invokevirtual 284, 3) := by decide +kernel
theorem dL_law_2010 : decode cL_law 2010 = .ok (.if_icmp .eq 1081, 3) := by decide +kernel
theorem dL_law_2013 : decode cL_law 2013 = .ok (.iconst 0, 1) := by decide +kernel
theorem dL_law_2014 : decode cL_law 2014 = .ok (.ireturn, 1) := by decide +kernel
theorem dL_law_2015 : decode cL_law 2015 = .ok (.aload_n 1, 1) := by decide +kernel
theorem dL_law_2016 : decode cL_law 2016 = .ok (.aload_n 0, 1) := by decide +kernel
theorem dL_law_2017 : decode cL_law 2017 = .ok (.iload 5, 2) := by decide +kernel
theorem dL_law_2019 : decode cL_law 2019 = .ok (.iconst 1, 1) := by decide +kernel
theorem dL_law_2020 : decode cL_law 2020 = .ok (.iadd, 1) := by decide +kernel
theorem dL_law_2021 : decode cL_law 2021 = .ok (.iaload, 1) := by decide +kernel
theorem dL_law_2022 : decode cL_law 2022 = .ok (.aload_n 3, 1) := by decide +kernel
theorem dL_law_2023 : decode cL_law 2023 = .ok (.invokestatic 285, 3) := by decide +kernel
theorem dL_law_2026 : decode cL_law 2026 = .ok (.istore 6, 2) := by decide +kernel
theorem dL_law_2028 : decode cL_law 2028 = .ok (.aload_n 2, 1) := by decide +kernel
theorem dL_law_2029 : decode cL_law 2029 = .ok (.aload_n 0, 1) := by decide +kernel
theorem dL_law_2030 : decode cL_law 2030 = .ok (.iload 5, 2) := by decide +kernel
theorem dL_law_2032 : decode cL_law 2032 = .ok (.iconst 1, 1) := by decide +kernel
theorem dL_law_2033 : decode cL_law 2033 = .ok (.iadd, 1) := by decide +kernel
theorem dL_law_2034 : decode cL_law 2034 = .ok (.iaload, 1) := by decide +kernel
theorem dL_law_2035 : decode cL_law 2035 = .ok (.invokevirtual 287, 3) := by decide +kernel
theorem dL_law_2038 : decode cL_law 2038 = .ok (.istore 7, 2) := by decide +kernel
theorem dL_law_2040 : decode cL_law 2040 = .ok (.aload_n 2, 1) := by decide +kernel
theorem dL_law_2041 : decode cL_law 2041 = .ok (.invokevirtual 174, 3) := by decide +kernel
theorem dL_law_2044 : decode cL_law 2044 = .ok (.iload 6, 2) := by decide +kernel
theorem dL_law_2046 : decode cL_law 2046 = .ok (.if_icmp .eq 5, 3) := by decide +kernel
theorem dL_law_2049 : decode cL_law 2049 = .ok (.iconst 0, 1) := by decide +kernel
theorem dL_law_2050 : decode cL_law 2050 = .ok (.ireturn, 1) := by decide +kernel
theorem dL_law_2051 : decode cL_law 2051 = .ok (.iload 6, 2) := by decide +kernel
theorem dL_law_2053 : decode cL_law 2053 = .ok (.ifCond .ne 22, 3) := by decide +kernel
theorem dL_law_2056 : decode cL_law 2056 = .ok (.aload_n 3, 1) := by decide +kernel
theorem dL_law_2057 : decode cL_law 2057 = .ok (.iconst 0, 1) := by decide +kernel
theorem dL_law_2058 : decode cL_law 2058 = .ok (.laload, 1) := by decide +kernel
theorem dL_law_2059 : decode cL_law 2059 = .ok (.iload 7, 2) := by decide +kernel
theorem dL_law_2061 : decode cL_law 2061 = .ok (.ifCond .eq 7, 3) := by decide +kernel
theorem dL_law_2064 : decode cL_law 2064 = .ok (.lconst 1, 1) := by decide +kernel
theorem dL_law_2065 : decode cL_law 2065 = .ok (.goto 4, 3) := by decide +kernel
theorem dL_law_2068 : decode cL_law 2068 = .ok (.lconst 0, 1) := by decide +kernel
theorem dL_law_2069 : decode cL_law 2069 = .ok (.lcmp, 1) := by decide +kernel
theorem dL_law_2070 : decode cL_law 2070 = .ok (.ifCond .eq 5, 3) := by decide +kernel
theorem dL_law_2073 : decode cL_law 2073 = .ok (.iconst 0, 1) := by decide +kernel
theorem dL_law_2074 : decode cL_law 2074 = .ok (.ireturn, 1) := by decide +kernel
theorem dL_law_2075 : decode cL_law 2075 = .ok (.goto 1016, 3) := by decide +kernel
theorem dL_law_2078 : decode cL_law 2078 = .ok (.aload_n 1, 1) := by decide +kernel
theorem dL_law_2079 : decode cL_law 2079 = .ok (.aload_n 0, 1) := by decide +kernel
theorem dL_law_2080 : decode cL_law 2080 = .ok (.iload 5, 2) := by decide +kernel
theorem dL_law_2082 : decode cL_law 2082 = .ok (.iconst 1, 1) := by decide +kernel
theorem dL_law_2083 : decode cL_law 2083 = .ok (.iadd, 1) := by decide +kernel
theorem dL_law_2084 : decode cL_law 2084 = .ok (.iaload, 1) := by decide +kernel
theorem dL_law_2085 : decode cL_law 2085 = .ok (.aload_n 3, 1) := by decide +kernel
theorem dL_law_2086 : decode cL_law 2086 = .ok (.invokestatic 288, 3) := by decide +kernel
theorem dL_law_2089 : decode cL_law 2089 = .ok (.istore 6, 2) := by decide +kernel
theorem dL_law_2091 : decode cL_law 2091 = .ok (.aload_n 2, 1) := by decide +kernel
theorem dL_law_2092 : decode cL_law 2092 = .ok (.aload_n 0, 1) := by decide +kernel
theorem dL_law_2093 : decode cL_law 2093 = .ok (.iload 5, 2) := by decide +kernel
theorem dL_law_2095 : decode cL_law 2095 = .ok (.iconst 1, 1) := by decide +kernel
theorem dL_law_2096 : decode cL_law 2096 = .ok (.iadd, 1) := by decide +kernel
theorem dL_law_2097 : decode cL_law 2097 = .ok (.iaload, 1) := by decide +kernel
theorem dL_law_2098 : decode cL_law 2098 = .ok (.invokevirtual 290, 3) := by decide +kernel
theorem dL_law_2101 : decode cL_law 2101 = .ok (.istore 7, 2) := by decide +kernel
theorem dL_law_2103 : decode cL_law 2103 = .ok (.aload_n 2, 1) := by decide +kernel
theorem dL_law_2104 : decode cL_law 2104 = .ok (.invokevirtual 174, 3) := by decide +kernel
theorem dL_law_2107 : decode cL_law 2107 = .ok (.iload 6, 2) := by decide +kernel
theorem dL_law_2109 : decode cL_law 2109 = .ok (.if_icmp .eq 5, 3) := by decide +kernel
theorem dL_law_2112 : decode cL_law 2112 = .ok (.iconst 0, 1) := by decide +kernel
theorem dL_law_2113 : decode cL_law 2113 = .ok (.ireturn, 1) := by decide +kernel
theorem dL_law_2114 : decode cL_law 2114 = .ok (.iload 6, 2) := by decide +kernel
theorem dL_law_2116 : decode cL_law 2116 = .ok (.ifCond .ne 15, 3) := by decide +kernel
theorem dL_law_2119 : decode cL_law 2119 = .ok (.aload_n 3, 1) := by decide +kernel
theorem dL_law_2120 : decode cL_law 2120 = .ok (.iconst 0, 1) := by decide +kernel
theorem dL_law_2121 : decode cL_law 2121 = .ok (.laload, 1) := by decide +kernel
theorem dL_law_2122 : decode cL_law 2122 = .ok (.iload 7, 2) := by decide +kernel
theorem dL_law_2124 : decode cL_law 2124 = .ok (.i2l, 1) := by decide +kernel
theorem dL_law_2125 : decode cL_law 2125 = .ok (.lcmp, 1) := by decide +kernel
theorem dL_law_2126 : decode cL_law 2126 = .ok (.ifCond .eq 5, 3) := by decide +kernel
theorem dL_law_2129 : decode cL_law 2129 = .ok (.iconst 0, 1) := by decide +kernel
theorem dL_law_2130 : decode cL_law 2130 = .ok (.ireturn, 1) := by decide +kernel
theorem dL_law_2131 : decode cL_law 2131 = .ok (.goto 960, 3) := by decide +kernel
theorem dL_law_2134 : decode cL_law 2134 = .ok (.aload_n 1, 1) := by decide +kernel
theorem dL_law_2135 : decode cL_law 2135 = .ok (.aload_n 0, 1) := by decide +kernel
theorem dL_law_2136 : decode cL_law 2136 = .ok (.iload 5, 2) := by decide +kernel
theorem dL_law_2138 : decode cL_law 2138 = .ok (.iconst 1, 1) := by decide +kernel
theorem dL_law_2139 : decode cL_law 2139 = .ok (.iadd, 1) := by decide +kernel
theorem dL_law_2140 : decode cL_law 2140 = .ok (.iaload, 1) := by decide +kernel
theorem dL_law_2141 : decode cL_law 2141 = .ok (.aload_n 3, 1) := by decide +kernel
theorem dL_law_2142 : decode cL_law 2142 = .ok (.invokestatic 291, 3) := by decide +kernel
theorem dL_law_2145 : decode cL_law 2145 = .ok (.istore 6, 2) := by decide +kernel
theorem dL_law_2147 : decode cL_law 2147 = .ok (.aload_n 2, 1) := by decide +kernel
theorem dL_law_2148 : decode cL_law 2148 = .ok (.aload_n 0, 1) := by decide +kernel
theorem dL_law_2149 : decode cL_law 2149 = .ok (.iload 5, 2) := by decide +kernel
theorem dL_law_2151 : decode cL_law 2151 = .ok (.iconst 1, 1) := by decide +kernel
theorem dL_law_2152 : decode cL_law 2152 = .ok (.iadd, 1) := by decide +kernel
theorem dL_law_2153 : decode cL_law 2153 = .ok (.iaload, 1) := by decide +kernel
theorem dL_law_2154 : decode cL_law 2154 = .ok (.invokevirtual 293, 3) := by decide +kernel
theorem dL_law_2157 : decode cL_law 2157 = .ok (.istore 7, 2) := by decide +kernel
theorem dL_law_2159 : decode cL_law 2159 = .ok (.aload_n 2, 1) := by decide +kernel
theorem dL_law_2160 : decode cL_law 2160 = .ok (.invokevirtual 174, 3) := by decide +kernel
theorem dL_law_2163 : decode cL_law 2163 = .ok (.iload 6, 2) := by decide +kernel
theorem dL_law_2165 : decode cL_law 2165 = .ok (.if_icmp .eq 5, 3) := by decide +kernel
theorem dL_law_2168 : decode cL_law 2168 = .ok (.iconst 0, 1) := by decide +kernel
theorem dL_law_2169 : decode cL_law 2169 = .ok (.ireturn, 1) := by decide +kernel
theorem dL_law_2170 : decode cL_law 2170 = .ok (.iload 6, 2) := by decide +kernel
theorem dL_law_2172 : decode cL_law 2172 = .ok (.ifCond .ne 15, 3) := by decide +kernel
theorem dL_law_2175 : decode cL_law 2175 = .ok (.aload_n 3, 1) := by decide +kernel
theorem dL_law_2176 : decode cL_law 2176 = .ok (.iconst 0, 1) := by decide +kernel
theorem dL_law_2177 : decode cL_law 2177 = .ok (.laload, 1) := by decide +kernel
theorem dL_law_2178 : decode cL_law 2178 = .ok (.iload 7, 2) := by decide +kernel
theorem dL_law_2180 : decode cL_law 2180 = .ok (.i2l, 1) := by decide +kernel
theorem dL_law_2181 : decode cL_law 2181 = .ok (.lcmp, 1) := by decide +kernel
theorem dL_law_2182 : decode cL_law 2182 = .ok (.ifCond .eq 5, 3) := by decide +kernel
theorem dL_law_2185 : decode cL_law 2185 = .ok (.iconst 0, 1) := by decide +kernel
theorem dL_law_2186 : decode cL_law 2186 = .ok (.ireturn, 1) := by decide +kernel
theorem dL_law_2187 : decode cL_law 2187 = .ok (.goto 904, 3) := by decide +kernel
theorem dL_law_2190 : decode cL_law 2190 = .ok (.aload_n 1, 1) := by decide +kernel
theorem dL_law_2191 : decode cL_law 2191 = .ok (.aload_n 0, 1) := by decide +kernel
theorem dL_law_2192 : decode cL_law 2192 = .ok (.iload 5, 2) := by decide +kernel
theorem dL_law_2194 : decode cL_law 2194 = .ok (.iconst 1, 1) := by decide +kernel
theorem dL_law_2195 : decode cL_law 2195 = .ok (.iadd, 1) := by decide +kernel
theorem dL_law_2196 : decode cL_law 2196 = .ok (.iaload, 1) := by decide +kernel
theorem dL_law_2197 : decode cL_law 2197 = .ok (.aload_n 3, 1) := by decide +kernel
theorem dL_law_2198 : decode cL_law 2198 = .ok (.invokestatic 294, 3) := by decide +kernel
theorem dL_law_2201 : decode cL_law 2201 = .ok (.istore 6, 2) := by decide +kernel
theorem dL_law_2203 : decode cL_law 2203 = .ok (.aload_n 2, 1) := by decide +kernel
theorem dL_law_2204 : decode cL_law 2204 = .ok (.aload_n 0, 1) := by decide +kernel
theorem dL_law_2205 : decode cL_law 2205 = .ok (.iload 5, 2) := by decide +kernel
theorem dL_law_2207 : decode cL_law 2207 = .ok (.iconst 1, 1) := by decide +kernel
theorem dL_law_2208 : decode cL_law 2208 = .ok (.iadd, 1) := by decide +kernel
