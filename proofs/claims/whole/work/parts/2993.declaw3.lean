/-! 2993: what stands in the law, 3 -/
theorem dL_law_1723 : decode cL_law 1723 = .ok (.aload_n 3, 1) := by decide +kernel
theorem dL_law_1724 : decode cL_law 1724 = .ok (.iconst 0, 1) := by decide +kernel
theorem dL_law_1725 : decode cL_law 1725 = .ok (.laload, 1) := by decide +kernel
theorem dL_law_1726 : decode cL_law 1726 = .ok (.iload 7, 2) := by decide +kernel
theorem dL_law_1728 : decode cL_law 1728 = .ok (.ifCond .eq 7, 3) := by decide +kernel
theorem dL_law_1731 : decode cL_law 1731 = .ok (.lconst 1, 1) := by decide +kernel
theorem dL_law_1732 : decode cL_law 1732 = .ok (.goto 4, 3) := by decide +kernel
theorem dL_law_1735 : decode cL_law 1735 = .ok (.lconst 0, 1) := by decide +kernel
theorem dL_law_1736 : decode cL_law 1736 = .ok (.lcmp, 1) := by decide +kernel
theorem dL_law_1737 : decode cL_law 1737 = .ok (.ifCond .eq 5, 3) := by decide +kernel
theorem dL_law_1742 : decode cL_law 1742 = .ok (.goto 2279, 3) := by decide +kernel
theorem dL_law_1745 : decode cL_law 1745 = .ok (.aload_n 1, 1) := by decide +kernel
theorem dL_law_1746 : decode cL_law 1746 = .ok (.aload_n 0, 1) := by decide +kernel
theorem dL_law_1747 : decode cL_law 1747 = .ok (.iload 5, 2) := by decide +kernel
theorem dL_law_1749 : decode cL_law 1749 = .ok (.iconst 1, 1) := by decide +kernel
theorem dL_law_1750 : decode cL_law 1750 = .ok (.iadd, 1) := by decide +kernel
theorem dL_law_1751 : decode cL_law 1751 = .ok (.iaload, 1) := by decide +kernel
theorem dL_law_1752 : decode cL_law 1752 = .ok (.aload_n 0, 1) := by decide +kernel
theorem dL_law_1753 : decode cL_law 1753 = .ok (.iload 5, 2) := by decide +kernel
theorem dL_law_1755 : decode cL_law 1755 = .ok (.iconst 2, 1) := by decide +kernel
theorem dL_law_1756 : decode cL_law 1756 = .ok (.iadd, 1) := by decide +kernel
theorem dL_law_1757 : decode cL_law 1757 = .ok (.iaload, 1) := by decide +kernel
theorem dL_law_1758 : decode cL_law 1758 = .ok (.aload_n 3, 1) := by decide +kernel
theorem dL_law_1759 : decode cL_law 1759 = .ok (.invokestatic 270, 3) := by decide +kernel
theorem dL_law_1762 : decode cL_law 1762 = .ok (.istore 6, 2) := by decide +kernel
theorem dL_law_1764 : decode cL_law 1764 = .ok (.aload_n 2, 1) := by decide +kernel
theorem dL_law_1765 : decode cL_law 1765 = .ok (.aload_n 0, 1) := by decide +kernel
theorem dL_law_1766 : decode cL_law 1766 = .ok (.iload 5, 2) := by decide +kernel
theorem dL_law_1768 : decode cL_law 1768 = .ok (.iconst 1, 1) := by decide +kernel
theorem dL_law_1769 : decode cL_law 1769 = .ok (.iadd, 1) := by decide +kernel
theorem dL_law_1770 : decode cL_law 1770 = .ok (.iaload, 1) := by decide +kernel
theorem dL_law_1771 : decode cL_law 1771 = .ok (.aload_n 0, 1) := by decide +kernel
theorem dL_law_1772 : decode cL_law 1772 = .ok (.iload 5, 2) := by decide +kernel
theorem dL_law_1774 : decode cL_law 1774 = .ok (.iconst 2, 1) := by decide +kernel
theorem dL_law_1775 : decode cL_law 1775 = .ok (.iadd, 1) := by decide +kernel
theorem dL_law_1776 : decode cL_law 1776 = .ok (.iaload, 1) := by decide +kernel
theorem dL_law_1777 : decode cL_law 1777 = .ok (.invokevirtual 272, 3) := by decide +kernel
theorem dL_law_1780 : decode cL_law 1780 = .ok (.istore 7, 2) := by decide +kernel
theorem dL_law_1782 : decode cL_law 1782 = .ok (.aload_n 2, 1) := by decide +kernel
theorem dL_law_1783 : decode cL_law 1783 = .ok (.invokevirtual 201, 3) := by decide +kernel
theorem dL_law_1786 : decode cL_law 1786 = .ok (.iload 6, 2) := by decide +kernel
theorem dL_law_1788 : decode cL_law 1788 = .ok (.if_icmp .eq 5, 3) := by decide +kernel
theorem dL_law_1793 : decode cL_law 1793 = .ok (.iload 6, 2) := by decide +kernel
theorem dL_law_1795 : decode cL_law 1795 = .ok (.ifCond .ne 22, 3) := by decide +kernel
theorem dL_law_1798 : decode cL_law 1798 = .ok (.aload_n 3, 1) := by decide +kernel
theorem dL_law_1799 : decode cL_law 1799 = .ok (.iconst 0, 1) := by decide +kernel
theorem dL_law_1800 : decode cL_law 1800 = .ok (.laload, 1) := by decide +kernel
theorem dL_law_1801 : decode cL_law 1801 = .ok (.iload 7, 2) := by decide +kernel
theorem dL_law_1803 : decode cL_law 1803 = .ok (.ifCond .eq 7, 3) := by decide +kernel
theorem dL_law_1806 : decode cL_law 1806 = .ok (.lconst 1, 1) := by decide +kernel
theorem dL_law_1807 : decode cL_law 1807 = .ok (.goto 4, 3) := by decide +kernel
theorem dL_law_1810 : decode cL_law 1810 = .ok (.lconst 0, 1) := by decide +kernel
theorem dL_law_1811 : decode cL_law 1811 = .ok (.lcmp, 1) := by decide +kernel
theorem dL_law_1812 : decode cL_law 1812 = .ok (.ifCond .eq 5, 3) := by decide +kernel
theorem dL_law_1817 : decode cL_law 1817 = .ok (.goto 2204, 3) := by decide +kernel
theorem dL_law_1820 : decode cL_law 1820 = .ok (.aload_n 1, 1) := by decide +kernel
theorem dL_law_1821 : decode cL_law 1821 = .ok (.invokevirtual 273, 3) := by decide +kernel
theorem dL_law_1824 : decode cL_law 1824 = .ok (.aload_n 2, 1) := by decide +kernel
theorem dL_law_1825 : decode cL_law 1825 = .ok (.invokevirtual 276, 3) := by decide +kernel
theorem dL_law_1828 : decode cL_law 1828 = .ok (.if_icmp .eq 2193, 3) := by decide +kernel
theorem dL_law_1833 : decode cL_law 1833 = .ok (.aload_n 1, 1) := by decide +kernel
theorem dL_law_1834 : decode cL_law 1834 = .ok (.aload_n 0, 1) := by decide +kernel
theorem dL_law_1835 : decode cL_law 1835 = .ok (.iload 5, 2) := by decide +kernel
theorem dL_law_1837 : decode cL_law 1837 = .ok (.iconst 1, 1) := by decide +kernel
theorem dL_law_1838 : decode cL_law 1838 = .ok (.iadd, 1) := by decide +kernel
theorem dL_law_1839 : decode cL_law 1839 = .ok (.iaload, 1) := by decide +kernel
theorem dL_law_1840 : decode cL_law 1840 = .ok (.aload_n 0, 1) := by decide +kernel
theorem dL_law_1841 : decode cL_law 1841 = .ok (.iload 5, 2) := by decide +kernel
theorem dL_law_1843 : decode cL_law 1843 = .ok (.iconst 2, 1) := by decide +kernel
theorem dL_law_1844 : decode cL_law 1844 = .ok (.iadd, 1) := by decide +kernel
theorem dL_law_1845 : decode cL_law 1845 = .ok (.iaload, 1) := by decide +kernel
theorem dL_law_1846 : decode cL_law 1846 = .ok (.aload_n 3, 1) := by decide +kernel
theorem dL_law_1847 : decode cL_law 1847 = .ok (.invokestatic 277, 3) := by decide +kernel
theorem dL_law_1850 : decode cL_law 1850 = .ok (.istore 6, 2) := by decide +kernel
theorem dL_law_1852 : decode cL_law 1852 = .ok (.aload_n 2, 1) := by decide +kernel
theorem dL_law_1853 : decode cL_law 1853 = .ok (.aload_n 0, 1) := by decide +kernel
theorem dL_law_1854 : decode cL_law 1854 = .ok (.iload 5, 2) := by decide +kernel
theorem dL_law_1856 : decode cL_law 1856 = .ok (.iconst 1, 1) := by decide +kernel
theorem dL_law_1857 : decode cL_law 1857 = .ok (.iadd, 1) := by decide +kernel
theorem dL_law_1858 : decode cL_law 1858 = .ok (.iaload, 1) := by decide +kernel
theorem dL_law_1859 : decode cL_law 1859 = .ok (.aload_n 0, 1) := by decide +kernel
theorem dL_law_1860 : decode cL_law 1860 = .ok (.iload 5, 2) := by decide +kernel
theorem dL_law_1862 : decode cL_law 1862 = .ok (.iconst 2, 1) := by decide +kernel
theorem dL_law_1863 : decode cL_law 1863 = .ok (.iadd, 1) := by decide +kernel
theorem dL_law_1864 : decode cL_law 1864 = .ok (.iaload, 1) := by decide +kernel
theorem dL_law_1865 : decode cL_law 1865 = .ok (.invokevirtual 279, 3) := by decide +kernel
theorem dL_law_1868 : decode cL_law 1868 = .ok (.istore 7, 2) := by decide +kernel
theorem dL_law_1870 : decode cL_law 1870 = .ok (.aload_n 2, 1) := by decide +kernel
theorem dL_law_1871 : decode cL_law 1871 = .ok (.invokevirtual 201, 3) := by decide +kernel
theorem dL_law_1874 : decode cL_law 1874 = .ok (.iload 6, 2) := by decide +kernel
theorem dL_law_1876 : decode cL_law 1876 = .ok (.if_icmp .eq 5, 3) := by decide +kernel
theorem dL_law_1881 : decode cL_law 1881 = .ok (.iload 6, 2) := by decide +kernel
theorem dL_law_1883 : decode cL_law 1883 = .ok (.ifCond .ne 15, 3) := by decide +kernel
theorem dL_law_1886 : decode cL_law 1886 = .ok (.aload_n 3, 1) := by decide +kernel
theorem dL_law_1887 : decode cL_law 1887 = .ok (.iconst 0, 1) := by decide +kernel
theorem dL_law_1888 : decode cL_law 1888 = .ok (.laload, 1) := by decide +kernel
theorem dL_law_1889 : decode cL_law 1889 = .ok (.iload 7, 2) := by decide +kernel
theorem dL_law_1891 : decode cL_law 1891 = .ok (.i2l, 1) := by decide +kernel
theorem dL_law_1892 : decode cL_law 1892 = .ok (.lcmp, 1) := by decide +kernel
theorem dL_law_1893 : decode cL_law 1893 = .ok (.ifCond .eq 5, 3) := by decide +kernel
theorem dL_law_1898 : decode cL_law 1898 = .ok (.goto 2123, 3) := by decide +kernel
theorem dL_law_1901 : decode cL_law 1901 = .ok (.aload_n 1, 1) := by decide +kernel
theorem dL_law_1902 : decode cL_law 1902 = .ok (.invokevirtual 280, 3) := by decide +kernel
theorem dL_law_1905 : decode cL_law 1905 = .ok (.aload_n 2, 1) := by decide +kernel
theorem dL_law_1906 : decode cL_law 1906 = .ok (.invokevirtual 284, 3) := by decide +kernel
theorem dL_law_1909 : decode cL_law 1909 = .ok (.lcmp, 1) := by decide +kernel
theorem dL_law_1910 : decode cL_law 1910 = .ok (.ifCond .eq 2111, 3) := by decide +kernel
theorem dL_law_1915 : decode cL_law 1915 = .ok (.aload_n 1, 1) := by decide +kernel
theorem dL_law_1916 : decode cL_law 1916 = .ok (.aload_n 0, 1) := by decide +kernel
theorem dL_law_1917 : decode cL_law 1917 = .ok (.iload 5, 2) := by decide +kernel
theorem dL_law_1919 : decode cL_law 1919 = .ok (.iconst 1, 1) := by decide +kernel
theorem dL_law_1920 : decode cL_law 1920 = .ok (.iadd, 1) := by decide +kernel
theorem dL_law_1921 : decode cL_law 1921 = .ok (.iaload, 1) := by decide +kernel
theorem dL_law_1922 : decode cL_law 1922 = .ok (.aload_n 0, 1) := by decide +kernel
theorem dL_law_1923 : decode cL_law 1923 = .ok (.iload 5, 2) := by decide +kernel
theorem dL_law_1925 : decode cL_law 1925 = .ok (.iconst 2, 1) := by decide +kernel
theorem dL_law_1926 : decode cL_law 1926 = .ok (.iadd, 1) := by decide +kernel
theorem dL_law_1927 : decode cL_law 1927 = .ok (.iaload, 1) := by decide +kernel
theorem dL_law_1928 : decode cL_law 1928 = .ok (.aload_n 3, 1) := by decide +kernel
theorem dL_law_1929 : decode cL_law 1929 = .ok (.invokestatic 285, 3) := by decide +kernel
theorem dL_law_1932 : decode cL_law 1932 = .ok (.istore 6, 2) := by decide +kernel
theorem dL_law_1934 : decode cL_law 1934 = .ok (.aload_n 2, 1) := by decide +kernel
theorem dL_law_1935 : decode cL_law 1935 = .ok (.aload_n 0, 1) := by decide +kernel
theorem dL_law_1936 : decode cL_law 1936 = .ok (.iload 5, 2) := by decide +kernel
theorem dL_law_1938 : decode cL_law 1938 = .ok (.iconst 1, 1) := by decide +kernel
theorem dL_law_1939 : decode cL_law 1939 = .ok (.iadd, 1) := by decide +kernel
theorem dL_law_1940 : decode cL_law 1940 = .ok (.iaload, 1) := by decide +kernel
theorem dL_law_1941 : decode cL_law 1941 = .ok (.aload_n 0, 1) := by decide +kernel
theorem dL_law_1942 : decode cL_law 1942 = .ok (.iload 5, 2) := by decide +kernel
theorem dL_law_1944 : decode cL_law 1944 = .ok (.iconst 2, 1) := by decide +kernel
theorem dL_law_1945 : decode cL_law 1945 = .ok (.iadd, 1) := by decide +kernel
theorem dL_law_1946 : decode cL_law 1946 = .ok (.iaload, 1) := by decide +kernel
theorem dL_law_1947 : decode cL_law 1947 = .ok (.invokevirtual 287, 3) := by decide +kernel
theorem dL_law_1950 : decode cL_law 1950 = .ok (.istore 7, 2) := by decide +kernel
theorem dL_law_1952 : decode cL_law 1952 = .ok (.aload_n 2, 1) := by decide +kernel
theorem dL_law_1953 : decode cL_law 1953 = .ok (.invokevirtual 201, 3) := by decide +kernel
theorem dL_law_1956 : decode cL_law 1956 = .ok (.iload 6, 2) := by decide +kernel
theorem dL_law_1958 : decode cL_law 1958 = .ok (.if_icmp .eq 5, 3) := by decide +kernel
theorem dL_law_1963 : decode cL_law 1963 = .ok (.iload 6, 2) := by decide +kernel
theorem dL_law_1965 : decode cL_law 1965 = .ok (.ifCond .ne 15, 3) := by decide +kernel
theorem dL_law_1968 : decode cL_law 1968 = .ok (.aload_n 3, 1) := by decide +kernel
theorem dL_law_1969 : decode cL_law 1969 = .ok (.iconst 0, 1) := by decide +kernel
theorem dL_law_1970 : decode cL_law 1970 = .ok (.laload, 1) := by decide +kernel
theorem dL_law_1971 : decode cL_law 1971 = .ok (.iload 7, 2) := by decide +kernel
theorem dL_law_1973 : decode cL_law 1973 = .ok (.i2l, 1) := by decide +kernel
theorem dL_law_1974 : decode cL_law 1974 = .ok (.lcmp, 1) := by decide +kernel
theorem dL_law_1975 : decode cL_law 1975 = .ok (.ifCond .eq 5, 3) := by decide +kernel
theorem dL_law_1980 : decode cL_law 1980 = .ok (.goto 2041, 3) := by decide +kernel
theorem dL_law_1983 : decode cL_law 1983 = .ok (.aload_n 1, 1) := by decide +kernel
theorem dL_law_1984 : decode cL_law 1984 = .ok (.aload_n 0, 1) := by decide +kernel
theorem dL_law_1985 : decode cL_law 1985 = .ok (.iload 5, 2) := by decide +kernel
theorem dL_law_1987 : decode cL_law 1987 = .ok (.iconst 1, 1) := by decide +kernel
theorem dL_law_1988 : decode cL_law 1988 = .ok (.iadd, 1) := by decide +kernel
theorem dL_law_1989 : decode cL_law 1989 = .ok (.iaload, 1) := by decide +kernel
theorem dL_law_1990 : decode cL_law 1990 = .ok (.aload_n 3, 1) := by decide +kernel
theorem dL_law_1991 : decode cL_law 1991 = .ok (.invokestatic 288, 3) := by decide +kernel
theorem dL_law_1994 : decode cL_law 1994 = .ok (.istore 6, 2) := by decide +kernel
theorem dL_law_1996 : decode cL_law 1996 = .ok (.aload_n 2, 1) := by decide +kernel
theorem dL_law_1997 : decode cL_law 1997 = .ok (.aload_n 0, 1) := by decide +kernel
theorem dL_law_1998 : decode cL_law 1998 = .ok (.iload 5, 2) := by decide +kernel
theorem dL_law_2000 : decode cL_law 2000 = .ok (.iconst 1, 1) := by decide +kernel
theorem dL_law_2001 : decode cL_law 2001 = .ok (.iadd, 1) := by decide +kernel
theorem dL_law_2002 : decode cL_law 2002 = .ok (.iaload, 1) := by decide +kernel
theorem dL_law_2003 : decode cL_law 2003 = .ok (.invokevirtual 290, 3) := by decide +kernel
theorem dL_law_2006 : decode cL_law 2006 = .ok (.istore 7, 2) := by decide +kernel
theorem dL_law_2008 : decode cL_law 2008 = .ok (.aload_n 2, 1) := by decide +kernel
theorem dL_law_2009 : decode cL_law 2009 = .ok (.invokevirtual 201, 3) := by decide +kernel
theorem dL_law_2012 : decode cL_law 2012 = .ok (.iload 6, 2) := by decide +kernel
theorem dL_law_2014 : decode cL_law 2014 = .ok (.if_icmp .eq 5, 3) := by decide +kernel
theorem dL_law_2019 : decode cL_law 2019 = .ok (.iload 6, 2) := by decide +kernel
theorem dL_law_2021 : decode cL_law 2021 = .ok (.ifCond .ne 15, 3) := by decide +kernel
theorem dL_law_2024 : decode cL_law 2024 = .ok (.aload_n 3, 1) := by decide +kernel
theorem dL_law_2025 : decode cL_law 2025 = .ok (.iconst 0, 1) := by decide +kernel
theorem dL_law_2026 : decode cL_law 2026 = .ok (.laload, 1) := by decide +kernel
theorem dL_law_2027 : decode cL_law 2027 = .ok (.iload 7, 2) := by decide +kernel
theorem dL_law_2029 : decode cL_law 2029 = .ok (.i2l, 1) := by decide +kernel
theorem dL_law_2030 : decode cL_law 2030 = .ok (.lcmp, 1) := by decide +kernel
theorem dL_law_2031 : decode cL_law 2031 = .ok (.ifCond .eq 5, 3) := by decide +kernel
theorem dL_law_2036 : decode cL_law 2036 = .ok (.goto 1985, 3) := by decide +kernel
theorem dL_law_2039 : decode cL_law 2039 = .ok (.aload_n 1, 1) := by decide +kernel
theorem dL_law_2040 : decode cL_law 2040 = .ok (.aload_n 0, 1) := by decide +kernel
theorem dL_law_2041 : decode cL_law 2041 = .ok (.iload 5, 2) := by decide +kernel
theorem dL_law_2043 : decode cL_law 2043 = .ok (.iconst 1, 1) := by decide +kernel
theorem dL_law_2044 : decode cL_law 2044 = .ok (.iadd, 1) := by decide +kernel
theorem dL_law_2045 : decode cL_law 2045 = .ok (.iaload, 1) := by decide +kernel
theorem dL_law_2046 : decode cL_law 2046 = .ok (.aload_n 0, 1) := by decide +kernel
theorem dL_law_2047 : decode cL_law 2047 = .ok (.iload 5, 2) := by decide +kernel
theorem dL_law_2049 : decode cL_law 2049 = .ok (.iconst 2, 1) := by decide +kernel
theorem dL_law_2050 : decode cL_law 2050 = .ok (.iadd, 1) := by decide +kernel
theorem dL_law_2051 : decode cL_law 2051 = .ok (.iaload, 1) := by decide +kernel
theorem dL_law_2052 : decode cL_law 2052 = .ok (.aload_n 3, 1) := by decide +kernel
theorem dL_law_2053 : decode cL_law 2053 = .ok (.invokestatic 291, 3) := by decide +kernel
theorem dL_law_2056 : decode cL_law 2056 = .ok (.istore 6, 2) := by decide +kernel
theorem dL_law_2058 : decode cL_law 2058 = .ok (.aload_n 2, 1) := by decide +kernel
theorem dL_law_2059 : decode cL_law 2059 = .ok (.aload_n 0, 1) := by decide +kernel
theorem dL_law_2060 : decode cL_law 2060 = .ok (.iload 5, 2) := by decide +kernel
theorem dL_law_2062 : decode cL_law 2062 = .ok (.iconst 1, 1) := by decide +kernel
theorem dL_law_2063 : decode cL_law 2063 = .ok (.iadd, 1) := by decide +kernel
theorem dL_law_2064 : decode cL_law 2064 = .ok (.iaload, 1) := by decide +kernel
theorem dL_law_2065 : decode cL_law 2065 = .ok (.aload_n 0, 1) := by decide +kernel
theorem dL_law_2066 : decode cL_law 2066 = .ok (.iload 5, 2) := by decide +kernel
theorem dL_law_2068 : decode cL_law 2068 = .ok (.iconst 2, 1) := by decide +kernel
theorem dL_law_2069 : decode cL_law 2069 = .ok (.iadd, 1) := by decide +kernel
theorem dL_law_2070 : decode cL_law 2070 = .ok (.iaload, 1) := by decide +kernel
theorem dL_law_2071 : decode cL_law 2071 = .ok (.invokevirtual 293, 3) := by decide +kernel
theorem dL_law_2074 : decode cL_law 2074 = .ok (.istore 7, 2) := by decide +kernel
theorem dL_law_2076 : decode cL_law 2076 = .ok (.aload_n 2, 1) := by decide +kernel
theorem dL_law_2077 : decode cL_law 2077 = .ok (.invokevirtual 201, 3) := by decide +kernel
theorem dL_law_2080 : decode cL_law 2080 = .ok (.iload 6, 2) := by decide +kernel
theorem dL_law_2082 : decode cL_law 2082 = .ok (.if_icmp .eq 5, 3) := by decide +kernel
theorem dL_law_2087 : decode cL_law 2087 = .ok (.iload 6, 2) := by decide +kernel
theorem dL_law_2089 : decode cL_law 2089 = .ok (.ifCond .ne 15, 3) := by decide +kernel
theorem dL_law_2092 : decode cL_law 2092 = .ok (.aload_n 3, 1) := by decide +kernel
theorem dL_law_2093 : decode cL_law 2093 = .ok (.iconst 0, 1) := by decide +kernel
theorem dL_law_2094 : decode cL_law 2094 = .ok (.laload, 1) := by decide +kernel
theorem dL_law_2095 : decode cL_law 2095 = .ok (.iload 7, 2) := by decide +kernel
theorem dL_law_2097 : decode cL_law 2097 = .ok (.i2l, 1) := by decide +kernel
theorem dL_law_2098 : decode cL_law 2098 = .ok (.lcmp, 1) := by decide +kernel
theorem dL_law_2099 : decode cL_law 2099 = .ok (.ifCond .eq 5, 3) := by decide +kernel
theorem dL_law_2104 : decode cL_law 2104 = .ok (.goto 1917, 3) := by decide +kernel
theorem dL_law_2107 : decode cL_law 2107 = .ok (.aload_n 1, 1) := by decide +kernel
theorem dL_law_2108 : decode cL_law 2108 = .ok (.invokevirtual 294, 3) := by decide +kernel
theorem dL_law_2111 : decode cL_law 2111 = .ok (.aload_n 2, 1) := by decide +kernel
theorem dL_law_2112 : decode cL_law 2112 = .ok (.invokevirtual 297, 3) := by decide +kernel
theorem dL_law_2115 : decode cL_law 2115 = .ok (.if_icmp .eq 1906, 3) := by decide +kernel
theorem dL_law_2120 : decode cL_law 2120 = .ok (.aload_n 1, 1) := by decide +kernel
theorem dL_law_2121 : decode cL_law 2121 = .ok (.aload_n 0, 1) := by decide +kernel
theorem dL_law_2122 : decode cL_law 2122 = .ok (.iload 5, 2) := by decide +kernel
theorem dL_law_2124 : decode cL_law 2124 = .ok (.iconst 1, 1) := by decide +kernel
theorem dL_law_2125 : decode cL_law 2125 = .ok (.iadd, 1) := by decide +kernel
theorem dL_law_2126 : decode cL_law 2126 = .ok (.iaload, 1) := by decide +kernel
theorem dL_law_2127 : decode cL_law 2127 = .ok (.aload_n 0, 1) := by decide +kernel
theorem dL_law_2128 : decode cL_law 2128 = .ok (.iload 5, 2) := by decide +kernel
theorem dL_law_2130 : decode cL_law 2130 = .ok (.iconst 2, 1) := by decide +kernel
theorem dL_law_2131 : decode cL_law 2131 = .ok (.iadd, 1) := by decide +kernel
theorem dL_law_2132 : decode cL_law 2132 = .ok (.iaload, 1) := by decide +kernel
theorem dL_law_2133 : decode cL_law 2133 = .ok (.aload_n 3, 1) := by decide +kernel
theorem dL_law_2134 : decode cL_law 2134 = .ok (.invokestatic 298, 3) := by decide +kernel
theorem dL_law_2137 : decode cL_law 2137 = .ok (.istore 6, 2) := by decide +kernel
theorem dL_law_2139 : decode cL_law 2139 = .ok (.aload_n 2, 1) := by decide +kernel
theorem dL_law_2140 : decode cL_law 2140 = .ok (.aload_n 0, 1) := by decide +kernel
theorem dL_law_2141 : decode cL_law 2141 = .ok (.iload 5, 2) := by decide +kernel
theorem dL_law_2143 : decode cL_law 2143 = .ok (.iconst 1, 1) := by decide +kernel
theorem dL_law_2144 : decode cL_law 2144 = .ok (.iadd, 1) := by decide +kernel
theorem dL_law_2145 : decode cL_law 2145 = .ok (.iaload, 1) := by decide +kernel
theorem dL_law_2146 : decode cL_law 2146 = .ok (.aload_n 0, 1) := by decide +kernel
theorem dL_law_2147 : decode cL_law 2147 = .ok (.iload 5, 2) := by decide +kernel
theorem dL_law_2149 : decode cL_law 2149 = .ok (.iconst 2, 1) := by decide +kernel
theorem dL_law_2150 : decode cL_law 2150 = .ok (.iadd, 1) := by decide +kernel
theorem dL_law_2151 : decode cL_law 2151 = .ok (.iaload, 1) := by decide +kernel
theorem dL_law_2152 : decode cL_law 2152 = .ok (.invokevirtual 300, 3) := by decide +kernel
theorem dL_law_2155 : decode cL_law 2155 = .ok (.istore 7, 2) := by decide +kernel
theorem dL_law_2157 : decode cL_law 2157 = .ok (.aload_n 2, 1) := by decide +kernel
theorem dL_law_2158 : decode cL_law 2158 = .ok (.invokevirtual 201, 3) := by decide +kernel
theorem dL_law_2161 : decode cL_law 2161 = .ok (.iload 6, 2) := by decide +kernel
theorem dL_law_2163 : decode cL_law 2163 = .ok (.if_icmp .eq 5, 3) := by decide +kernel
theorem dL_law_2168 : decode cL_law 2168 = .ok (.iload 6, 2) := by decide +kernel
theorem dL_law_2170 : decode cL_law 2170 = .ok (.ifCond .ne 15, 3) := by decide +kernel
theorem dL_law_2173 : decode cL_law 2173 = .ok (.aload_n 3, 1) := by decide +kernel
theorem dL_law_2174 : decode cL_law 2174 = .ok (.iconst 0, 1) := by decide +kernel
theorem dL_law_2175 : decode cL_law 2175 = .ok (.laload, 1) := by decide +kernel
theorem dL_law_2176 : decode cL_law 2176 = .ok (.iload 7, 2) := by decide +kernel
theorem dL_law_2178 : decode cL_law 2178 = .ok (.i2l, 1) := by decide +kernel
theorem dL_law_2179 : decode cL_law 2179 = .ok (.lcmp, 1) := by decide +kernel
theorem dL_law_2180 : decode cL_law 2180 = .ok (.ifCond .eq 5, 3) := by decide +kernel
theorem dL_law_2185 : decode cL_law 2185 = .ok (.goto 1836, 3) := by decide +kernel
theorem dL_law_2188 : decode cL_law 2188 = .ok (.aload_n 1, 1) := by decide +kernel
theorem dL_law_2189 : decode cL_law 2189 = .ok (.aload_n 0, 1) := by decide +kernel
theorem dL_law_2190 : decode cL_law 2190 = .ok (.iload 5, 2) := by decide +kernel
theorem dL_law_2192 : decode cL_law 2192 = .ok (.iconst 1, 1) := by decide +kernel
theorem dL_law_2193 : decode cL_law 2193 = .ok (.iadd, 1) := by decide +kernel
theorem dL_law_2194 : decode cL_law 2194 = .ok (.iaload, 1) := by decide +kernel
theorem dL_law_2195 : decode cL_law 2195 = .ok (.aload_n 0, 1) := by decide +kernel
theorem dL_law_2196 : decode cL_law 2196 = .ok (.iload 5, 2) := by decide +kernel
theorem dL_law_2198 : decode cL_law 2198 = .ok (.iconst 2, 1) := by decide +kernel
theorem dL_law_2199 : decode cL_law 2199 = .ok (.iadd, 1) := by decide +kernel
theorem dL_law_2200 : decode cL_law 2200 = .ok (.iaload, 1) := by decide +kernel
theorem dL_law_2201 : decode cL_law 2201 = .ok (.aload_n 0, 1) := by decide +kernel
theorem dL_law_2202 : decode cL_law 2202 = .ok (.iload 5, 2) := by decide +kernel
theorem dL_law_2204 : decode cL_law 2204 = .ok (.iconst 3, 1) := by decide +kernel
theorem dL_law_2205 : decode cL_law 2205 = .ok (.iadd, 1) := by decide +kernel
theorem dL_law_2206 : decode cL_law 2206 = .ok (.iaload, 1) := by decide +kernel
theorem dL_law_2207 : decode cL_law 2207 = .ok (.aload_n 3, 1) := by decide +kernel
theorem dL_law_2208 : decode cL_law 2208 = .ok (.invokestatic 301, 3) := by decide +kernel
theorem dL_law_2211 : decode cL_law 2211 = .ok (.istore 6, 2) := by decide +kernel
theorem dL_law_2213 : decode cL_law 2213 = .ok (.aload_n 2, 1) := by decide +kernel
theorem dL_law_2214 : decode cL_law 2214 = .ok (.aload_n 0, 1) := by decide +kernel
theorem dL_law_2215 : decode cL_law 2215 = .ok (.iload 5, 2) := by decide +kernel
theorem dL_law_2217 : decode cL_law 2217 = .ok (.iconst 1, 1) := by decide +kernel
theorem dL_law_2218 : decode cL_law 2218 = .ok (.iadd, 1) := by decide +kernel
theorem dL_law_2219 : decode cL_law 2219 = .ok (.iaload, 1) := by decide +kernel
theorem dL_law_2220 : decode cL_law 2220 = .ok (.aload_n 0, 1) := by decide +kernel
theorem dL_law_2221 : decode cL_law 2221 = .ok (.iload 5, 2) := by decide +kernel
theorem dL_law_2223 : decode cL_law 2223 = .ok (.iconst 2, 1) := by decide +kernel
theorem dL_law_2224 : decode cL_law 2224 = .ok (.iadd, 1) := by decide +kernel
theorem dL_law_2225 : decode cL_law 2225 = .ok (.iaload, 1) := by decide +kernel
theorem dL_law_2226 : decode cL_law 2226 = .ok (.aload_n 0, 1) := by decide +kernel
theorem dL_law_2227 : decode cL_law 2227 = .ok (.iload 5, 2) := by decide +kernel
theorem dL_law_2229 : decode cL_law 2229 = .ok (.iconst 3, 1) := by decide +kernel
theorem dL_law_2230 : decode cL_law 2230 = .ok (.iadd, 1) := by decide +kernel
theorem dL_law_2231 : decode cL_law 2231 = .ok (.iaload, 1) := by decide +kernel
theorem dL_law_2232 : decode cL_law 2232 = .ok (.invokevirtual 303, 3) := by decide +kernel
theorem dL_law_2235 : decode cL_law 2235 = .ok (.istore 7, 2) := by decide +kernel
theorem dL_law_2237 : decode cL_law 2237 = .ok (.aload_n 2, 1) := by decide +kernel
theorem dL_law_2238 : decode cL_law 2238 = .ok (.invokevirtual 201, 3) := by decide +kernel
theorem dL_law_2241 : decode cL_law 2241 = .ok (.iload 6, 2) := by decide +kernel
theorem dL_law_2243 : decode cL_law 2243 = .ok (.if_icmp .eq 5, 3) := by decide +kernel
theorem dL_law_2248 : decode cL_law 2248 = .ok (.iload 6, 2) := by decide +kernel
theorem dL_law_2250 : decode cL_law 2250 = .ok (.ifCond .ne 15, 3) := by decide +kernel
theorem dL_law_2253 : decode cL_law 2253 = .ok (.aload_n 3, 1) := by decide +kernel
theorem dL_law_2254 : decode cL_law 2254 = .ok (.iconst 0, 1) := by decide +kernel
theorem dL_law_2255 : decode cL_law 2255 = .ok (.laload, 1) := by decide +kernel
theorem dL_law_2256 : decode cL_law 2256 = .ok (.iload 7, 2) := by decide +kernel
theorem dL_law_2258 : decode cL_law 2258 = .ok (.i2l, 1) := by decide +kernel
theorem dL_law_2259 : decode cL_law 2259 = .ok (.lcmp, 1) := by decide +kernel
theorem dL_law_2260 : decode cL_law 2260 = .ok (.ifCond .eq 5, 3) := by decide +kernel
theorem dL_law_2265 : decode cL_law 2265 = .ok (.goto 1756, 3) := by decide +kernel
theorem dL_law_2268 : decode cL_law 2268 = .ok (.aload_n 1, 1) := by decide +kernel
theorem dL_law_2269 : decode cL_law 2269 = .ok (.aload_n 0, 1) := by decide +kernel
theorem dL_law_2270 : decode cL_law 2270 = .ok (.iload 5, 2) := by decide +kernel
theorem dL_law_2272 : decode cL_law 2272 = .ok (.iconst 1, 1) := by decide +kernel
theorem dL_law_2273 : decode cL_law 2273 = .ok (.iadd, 1) := by decide +kernel
theorem dL_law_2274 : decode cL_law 2274 = .ok (.iaload, 1) := by decide +kernel
theorem dL_law_2275 : decode cL_law 2275 = .ok (.aload_n 0, 1) := by decide +kernel
theorem dL_law_2276 : decode cL_law 2276 = .ok (.iload 5, 2) := by decide +kernel
theorem dL_law_2278 : decode cL_law 2278 = .ok (.iconst 2, 1) := by decide +kernel
theorem dL_law_2279 : decode cL_law 2279 = .ok (.iadd, 1) := by decide +kernel
theorem dL_law_2280 : decode cL_law 2280 = .ok (.iaload, 1) := by decide +kernel
theorem dL_law_2281 : decode cL_law 2281 = .ok (.aload_n 0, 1) := by decide +kernel
theorem dL_law_2282 : decode cL_law 2282 = .ok (.iload 5, 2) := by decide +kernel
theorem dL_law_2284 : decode cL_law 2284 = .ok (.iconst 3, 1) := by decide +kernel
theorem dL_law_2285 : decode cL_law 2285 = .ok (.iadd, 1) := by decide +kernel
theorem dL_law_2286 : decode cL_law 2286 = .ok (.iaload, 1) := by decide +kernel
theorem dL_law_2287 : decode cL_law 2287 = .ok (.aload_n 0, 1) := by decide +kernel
theorem dL_law_2288 : decode cL_law 2288 = .ok (.iload 5, 2) := by decide +kernel
theorem dL_law_2290 : decode cL_law 2290 = .ok (.iconst 4, 1) := by decide +kernel
theorem dL_law_2291 : decode cL_law 2291 = .ok (.iadd, 1) := by decide +kernel
theorem dL_law_2292 : decode cL_law 2292 = .ok (.iaload, 1) := by decide +kernel
theorem dL_law_2293 : decode cL_law 2293 = .ok (.aload_n 3, 1) := by decide +kernel
theorem dL_law_2294 : decode cL_law 2294 = .ok (.invokestatic 304, 3) := by decide +kernel
theorem dL_law_2297 : decode cL_law 2297 = .ok (.istore 6, 2) := by decide +kernel
theorem dL_law_2299 : decode cL_law 2299 = .ok (.aload_n 2, 1) := by decide +kernel
theorem dL_law_2300 : decode cL_law 2300 = .ok (.aload_n 0, 1) := by decide +kernel
theorem dL_law_2301 : decode cL_law 2301 = .ok (.iload 5, 2) := by decide +kernel
theorem dL_law_2303 : decode cL_law 2303 = .ok (.iconst 1, 1) := by decide +kernel
theorem dL_law_2304 : decode cL_law 2304 = .ok (.iadd, 1) := by decide +kernel
theorem dL_law_2305 : decode cL_law 2305 = .ok (.iaload, 1) := by decide +kernel
theorem dL_law_2306 : decode cL_law 2306 = .ok (.aload_n 0, 1) := by decide +kernel
theorem dL_law_2307 : decode cL_law 2307 = .ok (.iload 5, 2) := by decide +kernel
theorem dL_law_2309 : decode cL_law 2309 = .ok (.iconst 2, 1) := by decide +kernel
theorem dL_law_2310 : decode cL_law 2310 = .ok (.iadd, 1) := by decide +kernel
theorem dL_law_2311 : decode cL_law 2311 = .ok (.iaload, 1) := by decide +kernel
theorem dL_law_2312 : decode cL_law 2312 = .ok (.aload_n 0, 1) := by decide +kernel
theorem dL_law_2313 : decode cL_law 2313 = .ok (.iload 5, 2) := by decide +kernel
theorem dL_law_2315 : decode cL_law 2315 = .ok (.iconst 3, 1) := by decide +kernel
theorem dL_law_2316 : decode cL_law 2316 = .ok (.iadd, 1) := by decide +kernel
theorem dL_law_2317 : decode cL_law 2317 = .ok (.iaload, 1) := by decide +kernel
theorem dL_law_2318 : decode cL_law 2318 = .ok (.aload_n 0, 1) := by decide +kernel
theorem dL_law_2319 : decode cL_law 2319 = .ok (.iload 5, 2) := by decide +kernel
theorem dL_law_2321 : decode cL_law 2321 = .ok (.iconst 4, 1) := by decide +kernel
theorem dL_law_2322 : decode cL_law 2322 = .ok (.iadd, 1) := by decide +kernel
theorem dL_law_2323 : decode cL_law 2323 = .ok (.iaload, 1) := by decide +kernel
theorem dL_law_2324 : decode cL_law 2324 = .ok (.invokevirtual 307, 3) := by decide +kernel
theorem dL_law_2327 : decode cL_law 2327 = .ok (.istore 7, 2) := by decide +kernel
theorem dL_law_2329 : decode cL_law 2329 = .ok (.aload_n 2, 1) := by decide +kernel
theorem dL_law_2330 : decode cL_law 2330 = .ok (.invokevirtual 201, 3) := by decide +kernel
theorem dL_law_2333 : decode cL_law 2333 = .ok (.iload 6, 2) := by decide +kernel
theorem dL_law_2335 : decode cL_law 2335 = .ok (.if_icmp .eq 5, 3) := by decide +kernel
theorem dL_law_2340 : decode cL_law 2340 = .ok (.iload 6, 2) := by decide +kernel
theorem dL_law_2342 : decode cL_law 2342 = .ok (.ifCond .ne 15, 3) := by decide +kernel
theorem dL_law_2345 : decode cL_law 2345 = .ok (.aload_n 3, 1) := by decide +kernel
theorem dL_law_2346 : decode cL_law 2346 = .ok (.iconst 0, 1) := by decide +kernel
theorem dL_law_2347 : decode cL_law 2347 = .ok (.laload, 1) := by decide +kernel
theorem dL_law_2348 : decode cL_law 2348 = .ok (.iload 7, 2) := by decide +kernel
theorem dL_law_2350 : decode cL_law 2350 = .ok (.i2l, 1) := by decide +kernel
theorem dL_law_2351 : decode cL_law 2351 = .ok (.lcmp, 1) := by decide +kernel
theorem dL_law_2352 : decode cL_law 2352 = .ok (.ifCond .eq 5, 3) := by decide +kernel
theorem dL_law_2357 : decode cL_law 2357 = .ok (.goto 1664, 3) := by decide +kernel
theorem dL_law_2360 : decode cL_law 2360 = .ok (.aload_n 1, 1) := by decide +kernel
theorem dL_law_2361 : decode cL_law 2361 = .ok (.aload_n 0, 1) := by decide +kernel
theorem dL_law_2362 : decode cL_law 2362 = .ok (.iload 5, 2) := by decide +kernel
theorem dL_law_2364 : decode cL_law 2364 = .ok (.iconst 1, 1) := by decide +kernel
theorem dL_law_2365 : decode cL_law 2365 = .ok (.iadd, 1) := by decide +kernel
theorem dL_law_2366 : decode cL_law 2366 = .ok (.iaload, 1) := by decide +kernel
theorem dL_law_2367 : decode cL_law 2367 = .ok (.aload_n 0, 1) := by decide +kernel
theorem dL_law_2368 : decode cL_law 2368 = .ok (.iload 5, 2) := by decide +kernel
theorem dL_law_2370 : decode cL_law 2370 = .ok (.iconst 2, 1) := by decide +kernel
theorem dL_law_2371 : decode cL_law 2371 = .ok (.iadd, 1) := by decide +kernel
theorem dL_law_2372 : decode cL_law 2372 = .ok (.iaload, 1) := by decide +kernel
theorem dL_law_2373 : decode cL_law 2373 = .ok (.aload_n 0, 1) := by decide +kernel
theorem dL_law_2374 : decode cL_law 2374 = .ok (.iload 5, 2) := by decide +kernel
theorem dL_law_2376 : decode cL_law 2376 = .ok (.iconst 3, 1) := by decide +kernel
theorem dL_law_2377 : decode cL_law 2377 = .ok (.iadd, 1) := by decide +kernel
theorem dL_law_2378 : decode cL_law 2378 = .ok (.iaload, 1) := by decide +kernel
theorem dL_law_2379 : decode cL_law 2379 = .ok (.aload_n 3, 1) := by decide +kernel
theorem dL_law_2380 : decode cL_law 2380 = .ok (.invokestatic 308, 3) := by decide +kernel
theorem dL_law_2383 : decode cL_law 2383 = .ok (.istore 6, 2) := by decide +kernel
theorem dL_law_2385 : decode cL_law 2385 = .ok (.aload_n 2, 1) := by decide +kernel
theorem dL_law_2386 : decode cL_law 2386 = .ok (.aload_n 0, 1) := by decide +kernel
theorem dL_law_2387 : decode cL_law 2387 = .ok (.iload 5, 2) := by decide +kernel
theorem dL_law_2389 : decode cL_law 2389 = .ok (.iconst 1, 1) := by decide +kernel
theorem dL_law_2390 : decode cL_law 2390 = .ok (.iadd, 1) := by decide +kernel
theorem dL_law_2391 : decode cL_law 2391 = .ok (.iaload, 1) := by decide +kernel
theorem dL_law_2392 : decode cL_law 2392 = .ok (.aload_n 0, 1) := by decide +kernel
theorem dL_law_2393 : decode cL_law 2393 = .ok (.iload 5, 2) := by decide +kernel
theorem dL_law_2395 : decode cL_law 2395 = .ok (.iconst 2, 1) := by decide +kernel
theorem dL_law_2396 : decode cL_law 2396 = .ok (.iadd, 1) := by decide +kernel
theorem dL_law_2397 : decode cL_law 2397 = .ok (.iaload, 1) := by decide +kernel
theorem dL_law_2398 : decode cL_law 2398 = .ok (.aload_n 0, 1) := by decide +kernel
theorem dL_law_2399 : decode cL_law 2399 = .ok (.iload 5, 2) := by decide +kernel
theorem dL_law_2401 : decode cL_law 2401 = .ok (.iconst 3, 1) := by decide +kernel
theorem dL_law_2402 : decode cL_law 2402 = .ok (.iadd, 1) := by decide +kernel
theorem dL_law_2403 : decode cL_law 2403 = .ok (.iaload, 1) := by decide +kernel
theorem dL_law_2404 : decode cL_law 2404 = .ok (.invokevirtual 310, 3) := by decide +kernel
theorem dL_law_2407 : decode cL_law 2407 = .ok (.istore 7, 2) := by decide +kernel
theorem dL_law_2409 : decode cL_law 2409 = .ok (.aload_n 2, 1) := by decide +kernel
theorem dL_law_2410 : decode cL_law 2410 = .ok (.invokevirtual 201, 3) := by decide +kernel
theorem dL_law_2413 : decode cL_law 2413 = .ok (.iload 6, 2) := by decide +kernel
theorem dL_law_2415 : decode cL_law 2415 = .ok (.if_icmp .eq 5, 3) := by decide +kernel
theorem dL_law_2420 : decode cL_law 2420 = .ok (.iload 6, 2) := by decide +kernel
theorem dL_law_2422 : decode cL_law 2422 = .ok (.ifCond .ne 15, 3) := by decide +kernel
theorem dL_law_2425 : decode cL_law 2425 = .ok (.aload_n 3, 1) := by decide +kernel
theorem dL_law_2426 : decode cL_law 2426 = .ok (.iconst 0, 1) := by decide +kernel
theorem dL_law_2427 : decode cL_law 2427 = .ok (.laload, 1) := by decide +kernel
theorem dL_law_2428 : decode cL_law 2428 = .ok (.iload 7, 2) := by decide +kernel
theorem dL_law_2430 : decode cL_law 2430 = .ok (.i2l, 1) := by decide +kernel
theorem dL_law_2431 : decode cL_law 2431 = .ok (.lcmp, 1) := by decide +kernel
theorem dL_law_2432 : decode cL_law 2432 = .ok (.ifCond .eq 5, 3) := by decide +kernel
theorem dL_law_2437 : decode cL_law 2437 = .ok (.goto 1584, 3) := by decide +kernel
theorem dL_law_2440 : decode cL_law 2440 = .ok (.aload_n 1, 1) := by decide +kernel
theorem dL_law_2441 : decode cL_law 2441 = .ok (.aload_n 0, 1) := by decide +kernel
theorem dL_law_2442 : decode cL_law 2442 = .ok (.iload 5, 2) := by decide +kernel
theorem dL_law_2444 : decode cL_law 2444 = .ok (.iconst 1, 1) := by decide +kernel
theorem dL_law_2445 : decode cL_law 2445 = .ok (.iadd, 1) := by decide +kernel
theorem dL_law_2446 : decode cL_law 2446 = .ok (.iaload, 1) := by decide +kernel
theorem dL_law_2447 : decode cL_law 2447 = .ok (.aload_n 0, 1) := by decide +kernel
theorem dL_law_2448 : decode cL_law 2448 = .ok (.iload 5, 2) := by decide +kernel
theorem dL_law_2450 : decode cL_law 2450 = .ok (.iconst 2, 1) := by decide +kernel
theorem dL_law_2451 : decode cL_law 2451 = .ok (.iadd, 1) := by decide +kernel
theorem dL_law_2452 : decode cL_law 2452 = .ok (.iaload, 1) := by decide +kernel
theorem dL_law_2453 : decode cL_law 2453 = .ok (.aload_n 3, 1) := by decide +kernel
theorem dL_law_2454 : decode cL_law 2454 = .ok (.invokestatic 311, 3) := by decide +kernel
theorem dL_law_2457 : decode cL_law 2457 = .ok (.istore 6, 2) := by decide +kernel
theorem dL_law_2459 : decode cL_law 2459 = .ok (.aload_n 2, 1) := by decide +kernel
theorem dL_law_2460 : decode cL_law 2460 = .ok (.aload_n 0, 1) := by decide +kernel
