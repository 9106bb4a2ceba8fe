theorem dL_law__1812 : decode cL_law_ 1812 = .ok (.iload 5, 2) := by decide +kernel
theorem dL_law__1814 : decode cL_law_ 1814 = .ok (.ifCond .ne 15, 3) := by decide +kernel
theorem dL_law__1817 : decode cL_law_ 1817 = .ok (.aload_n 3, 1) := by decide +kernel
theorem dL_law__1818 : decode cL_law_ 1818 = .ok (.iconst 0, 1) := by decide +kernel
theorem dL_law__1819 : decode cL_law_ 1819 = .ok (.laload, 1) := by decide +kernel
theorem dL_law__1820 : decode cL_law_ 1820 = .ok (.iload 6, 2) := by decide +kernel
theorem dL_law__1822 : decode cL_law_ 1822 = .ok (.i2l, 1) := by decide +kernel
theorem dL_law__1823 : decode cL_law_ 1823 = .ok (.lcmp, 1) := by decide +kernel
theorem dL_law__1824 : decode cL_law_ 1824 = .ok (.ifCond .eq 5, 3) := by decide +kernel
theorem dL_law__1827 : decode cL_law_ 1827 = .ok (.iconst 0, 1) := by decide +kernel
theorem dL_law__1828 : decode cL_law_ 1828 = .ok (.ireturn, 1) := by decide +kernel
theorem dL_law__1829 : decode cL_law_ 1829 = .ok (.goto 523, 3) := by decide +kernel
theorem dL_law__1832 : decode cL_law_ 1832 = .ok (.aload_n 1, 1) := by decide +kernel
theorem dL_law__1833 : decode cL_law_ 1833 = .ok (.aload_n 0, 1) := by decide +kernel
theorem dL_law__1834 : decode cL_law_ 1834 = .ok (.iload 4, 2) := by decide +kernel
theorem dL_law__1836 : decode cL_law_ 1836 = .ok (.iconst 1, 1) := by decide +kernel
theorem dL_law__1837 : decode cL_law_ 1837 = .ok (.iadd, 1) := by decide +kernel
theorem dL_law__1838 : decode cL_law_ 1838 = .ok (.iaload, 1) := by decide +kernel
theorem dL_law__1839 : decode cL_law_ 1839 = .ok (.aload_n 0, 1) := by decide +kernel
theorem dL_law__1840 : decode cL_law_ 1840 = .ok (.iload 4, 2) := by decide +kernel
theorem dL_law__1842 : decode cL_law_ 1842 = .ok (.iconst 2, 1) := by decide +kernel
theorem dL_law__1843 : decode cL_law_ 1843 = .ok (.iadd, 1) := by decide +kernel
theorem dL_law__1844 : decode cL_law_ 1844 = .ok (.iaload, 1) := by decide +kernel
theorem dL_law__1845 : decode cL_law_ 1845 = .ok (.aload_n 0, 1) := by decide +kernel
theorem dL_law__1846 : decode cL_law_ 1846 = .ok (.iload 4, 2) := by decide +kernel
theorem dL_law__1848 : decode cL_law_ 1848 = .ok (.iconst 3, 1) := by decide +kernel
theorem dL_law__1849 : decode cL_law_ 1849 = .ok (.iadd, 1) := by decide +kernel
theorem dL_law__1850 : decode cL_law_ 1850 = .ok (.iaload, 1) := by decide +kernel
theorem dL_law__1851 : decode cL_law_ 1851 = .ok (.aload_n 3, 1) := by decide +kernel
theorem dL_law__1852 : decode cL_law_ 1852 = .ok (.invokestatic 197, 3) := by decide +kernel
theorem dL_law__1855 : decode cL_law_ 1855 = .ok (.istore 5, 2) := by decide +kernel
theorem dL_law__1857 : decode cL_law_ 1857 = .ok (.aload_n 2, 1) := by decide +kernel
theorem dL_law__1858 : decode cL_law_ 1858 = .ok (.aload_n 0, 1) := by decide +kernel
theorem dL_law__1859 : decode cL_law_ 1859 = .ok (.iload 4, 2) := by decide +kernel
theorem dL_law__1861 : decode cL_law_ 1861 = .ok (.iconst 1, 1) := by decide +kernel
theorem dL_law__1862 : decode cL_law_ 1862 = .ok (.iadd, 1) := by decide +kernel
theorem dL_law__1863 : decode cL_law_ 1863 = .ok (.iaload, 1) := by decide +kernel
theorem dL_law__1864 : decode cL_law_ 1864 = .ok (.aload_n 0, 1) := by decide +kernel
theorem dL_law__1865 : decode cL_law_ 1865 = .ok (.iload 4, 2) := by decide +kernel
theorem dL_law__1867 : decode cL_law_ 1867 = .ok (.iconst 2, 1) := by decide +kernel
theorem dL_law__1868 : decode cL_law_ 1868 = .ok (.iadd, 1) := by decide +kernel
theorem dL_law__1869 : decode cL_law_ 1869 = .ok (.iaload, 1) := by decide +kernel
theorem dL_law__1870 : decode cL_law_ 1870 = .ok (.aload_n 0, 1) := by decide +kernel
theorem dL_law__1871 : decode cL_law_ 1871 = .ok (.iload 4, 2) := by decide +kernel
theorem dL_law__1873 : decode cL_law_ 1873 = .ok (.iconst 3, 1) := by decide +kernel
theorem dL_law__1874 : decode cL_law_ 1874 = .ok (.iadd, 1) := by decide +kernel
theorem dL_law__1875 : decode cL_law_ 1875 = .ok (.iaload, 1) := by decide +kernel
theorem dL_law__1876 : decode cL_law_ 1876 = .ok (.invokevirtual 199, 3) := by decide +kernel
theorem dL_law__1879 : decode cL_law_ 1879 = .ok (.istore 6, 2) := by decide +kernel
theorem dL_law__1881 : decode cL_law_ 1881 = .ok (.aload_n 2, 1) := by decide +kernel
theorem dL_law__1882 : decode cL_law_ 1882 = .ok (.invokevirtual 118, 3) := by decide +kernel
theorem dL_law__1885 : decode cL_law_ 1885 = .ok (.iload 5, 2) := by decide +kernel
theorem dL_law__1887 : decode cL_law_ 1887 = .ok (.if_icmp .eq 5, 3) := by decide +kernel
theorem dL_law__1890 : decode cL_law_ 1890 = .ok (.iconst 0, 1) := by decide +kernel
theorem dL_law__1891 : decode cL_law_ 1891 = .ok (.ireturn, 1) := by decide +kernel
theorem dL_law__1892 : decode cL_law_ 1892 = .ok (.iload 5, 2) := by decide +kernel
theorem dL_law__1894 : decode cL_law_ 1894 = .ok (.ifCond .ne 15, 3) := by decide +kernel
theorem dL_law__1897 : decode cL_law_ 1897 = .ok (.aload_n 3, 1) := by decide +kernel
theorem dL_law__1898 : decode cL_law_ 1898 = .ok (.iconst 0, 1) := by decide +kernel
theorem dL_law__1899 : decode cL_law_ 1899 = .ok (.laload, 1) := by decide +kernel
theorem dL_law__1900 : decode cL_law_ 1900 = .ok (.iload 6, 2) := by decide +kernel
theorem dL_law__1902 : decode cL_law_ 1902 = .ok (.i2l, 1) := by decide +kernel
theorem dL_law__1903 : decode cL_law_ 1903 = .ok (.lcmp, 1) := by decide +kernel
theorem dL_law__1904 : decode cL_law_ 1904 = .ok (.ifCond .eq 5, 3) := by decide +kernel
theorem dL_law__1907 : decode cL_law_ 1907 = .ok (.iconst 0, 1) := by decide +kernel
theorem dL_law__1908 : decode cL_law_ 1908 = .ok (.ireturn, 1) := by decide +kernel
theorem dL_law__1909 : decode cL_law_ 1909 = .ok (.goto 443, 3) := by decide +kernel
theorem dL_law__1912 : decode cL_law_ 1912 = .ok (.aload_n 1, 1) := by decide +kernel
theorem dL_law__1913 : decode cL_law_ 1913 = .ok (.aload_n 0, 1) := by decide +kernel
theorem dL_law__1914 : decode cL_law_ 1914 = .ok (.iload 4, 2) := by decide +kernel
theorem dL_law__1916 : decode cL_law_ 1916 = .ok (.iconst 1, 1) := by decide +kernel
theorem dL_law__1917 : decode cL_law_ 1917 = .ok (.iadd, 1) := by decide +kernel
theorem dL_law__1918 : decode cL_law_ 1918 = .ok (.iaload, 1) := by decide +kernel
theorem dL_law__1919 : decode cL_law_ 1919 = .ok (.aload_n 3, 1) := by decide +kernel
theorem dL_law__1920 : decode cL_law_ 1920 = .ok (.invokestatic 200, 3) := by decide +kernel
theorem dL_law__1923 : decode cL_law_ 1923 = .ok (.istore 5, 2) := by decide +kernel
theorem dL_law__1925 : decode cL_law_ 1925 = .ok (.aload_n 2, 1) := by decide +kernel
theorem dL_law__1926 : decode cL_law_ 1926 = .ok (.aload_n 0, 1) := by decide +kernel
theorem dL_law__1927 : decode cL_law_ 1927 = .ok (.iload 4, 2) := by decide +kernel
theorem dL_law__1929 : decode cL_law_ 1929 = .ok (.iconst 1, 1) := by decide +kernel
theorem dL_law__1930 : decode cL_law_ 1930 = .ok (.iadd, 1) := by decide +kernel
theorem dL_law__1931 : decode cL_law_ 1931 = .ok (.iaload, 1) := by decide +kernel
theorem dL_law__1932 : decode cL_law_ 1932 = .ok (.invokevirtual 202, 3) := by decide +kernel
theorem dL_law__1935 : decode cL_law_ 1935 = .ok (.istore 6, 2) := by decide +kernel
theorem dL_law__1937 : decode cL_law_ 1937 = .ok (.aload_n 2, 1) := by decide +kernel
theorem dL_law__1938 : decode cL_law_ 1938 = .ok (.invokevirtual 118, 3) := by decide +kernel
theorem dL_law__1941 : decode cL_law_ 1941 = .ok (.iload 5, 2) := by decide +kernel
theorem dL_law__1943 : decode cL_law_ 1943 = .ok (.if_icmp .eq 5, 3) := by decide +kernel
theorem dL_law__1946 : decode cL_law_ 1946 = .ok (.iconst 0, 1) := by decide +kernel
theorem dL_law__1947 : decode cL_law_ 1947 = .ok (.ireturn, 1) := by decide +kernel
theorem dL_law__1948 : decode cL_law_ 1948 = .ok (.iload 5, 2) := by decide +kernel
theorem dL_law__1950 : decode cL_law_ 1950 = .ok (.ifCond .ne 15, 3) := by decide +kernel
theorem dL_law__1953 : decode cL_law_ 1953 = .ok (.aload_n 3, 1) := by decide +kernel
theorem dL_law__1954 : decode cL_law_ 1954 = .ok (.iconst 0, 1) := by decide +kernel
theorem dL_law__1955 : decode cL_law_ 1955 = .ok (.laload, 1) := by decide +kernel
theorem dL_law__1956 : decode cL_law_ 1956 = .ok (.iload 6, 2) := by decide +kernel
theorem dL_law__1958 : decode cL_law_ 1958 = .ok (.i2l, 1) := by decide +kernel
theorem dL_law__1959 : decode cL_law_ 1959 = .ok (.lcmp, 1) := by decide +kernel
theorem dL_law__1960 : decode cL_law_ 1960 = .ok (.ifCond .eq 5, 3) := by decide +kernel
theorem dL_law__1963 : decode cL_law_ 1963 = .ok (.iconst 0, 1) := by decide +kernel
theorem dL_law__1964 : decode cL_law_ 1964 = .ok (.ireturn, 1) := by decide +kernel
theorem dL_law__1965 : decode cL_law_ 1965 = .ok (.goto 387, 3) := by decide +kernel
theorem dL_law__1968 : decode cL_law_ 1968 = .ok (.aload_n 1, 1) := by decide +kernel
theorem dL_law__1969 : decode cL_law_ 1969 = .ok (.aload_n 0, 1) := by decide +kernel
theorem dL_law__1970 : decode cL_law_ 1970 = .ok (.iload 4, 2) := by decide +kernel
theorem dL_law__1972 : decode cL_law_ 1972 = .ok (.iconst 1, 1) := by decide +kernel
theorem dL_law__1973 : decode cL_law_ 1973 = .ok (.iadd, 1) := by decide +kernel
theorem dL_law__1974 : decode cL_law_ 1974 = .ok (.iaload, 1) := by decide +kernel
theorem dL_law__1975 : decode cL_law_ 1975 = .ok (.aload_n 3, 1) := by decide +kernel
theorem dL_law__1976 : decode cL_law_ 1976 = .ok (.invokestatic 203, 3) := by decide +kernel
theorem dL_law__1979 : decode cL_law_ 1979 = .ok (.istore 5, 2) := by decide +kernel
theorem dL_law__1981 : decode cL_law_ 1981 = .ok (.aload_n 2, 1) := by decide +kernel
theorem dL_law__1982 : decode cL_law_ 1982 = .ok (.aload_n 0, 1) := by decide +kernel
theorem dL_law__1983 : decode cL_law_ 1983 = .ok (.iload 4, 2) := by decide +kernel
theorem dL_law__1985 : decode cL_law_ 1985 = .ok (.iconst 1, 1) := by decide +kernel
theorem dL_law__1986 : decode cL_law_ 1986 = .ok (.iadd, 1) := by decide +kernel
theorem dL_law__1987 : decode cL_law_ 1987 = .ok (.iaload, 1) := by decide +kernel
theorem dL_law__1988 : decode cL_law_ 1988 = .ok (.invokevirtual 205, 3) := by decide +kernel
theorem dL_law__1991 : decode cL_law_ 1991 = .ok (.istore 6, 2) := by decide +kernel
theorem dL_law__1993 : decode cL_law_ 1993 = .ok (.aload_n 2, 1) := by decide +kernel
theorem dL_law__1994 : decode cL_law_ 1994 = .ok (.invokevirtual 118, 3) := by decide +kernel
theorem dL_law__1997 : decode cL_law_ 1997 = .ok (.iload 5, 2) := by decide +kernel
theorem dL_law__1999 : decode cL_law_ 1999 = .ok (.if_icmp .eq 5, 3) := by decide +kernel
theorem dL_law__2002 : decode cL_law_ 2002 = .ok (.iconst 0, 1) := by decide +kernel
theorem dL_law__2003 : decode cL_law_ 2003 = .ok (.ireturn, 1) := by decide +kernel
theorem dL_law__2004 : decode cL_law_ 2004 = .ok (.iload 5, 2) := by decide +kernel
theorem dL_law__2006 : decode cL_law_ 2006 = .ok (.ifCond .ne 15, 3) := by decide +kernel
theorem dL_law__2009 : decode cL_law_ 2009 = .ok (.aload_n 3, 1) := by decide +kernel
theorem dL_law__2010 : decode cL_law_ 2010 = .ok (.iconst 0, 1) := by decide +kernel
theorem dL_law__2011 : decode cL_law_ 2011 = .ok (.laload, 1) := by decide +kernel
theorem dL_law__2012 : decode cL_law_ 2012 = .ok (.iload 6, 2) := by decide +kernel
theorem dL_law__2014 : decode cL_law_ 2014 = .ok (.i2l, 1) := by decide +kernel
theorem dL_law__2015 : decode cL_law_ 2015 = .ok (.lcmp, 1) := by decide +kernel
theorem dL_law__2016 : decode cL_law_ 2016 = .ok (.ifCond .eq 5, 3) := by decide +kernel
theorem dL_law__2019 : decode cL_law_ 2019 = .ok (.iconst 0, 1) := by decide +kernel
theorem dL_law__2020 : decode cL_law_ 2020 = .ok (.ireturn, 1) := by decide +kernel
theorem dL_law__2021 : decode cL_law_ 2021 = .ok (.goto 331, 3) := by decide +kernel
theorem dL_law__2024 : decode cL_law_ 2024 = .ok (.aload_n 1, 1) := by decide +kernel
theorem dL_law__2025 : decode cL_law_ 2025 = .ok (.aload_n 0, 1) := by decide +kernel
theorem dL_law__2026 : decode cL_law_ 2026 = .ok (.iload 4, 2) := by decide +kernel
theorem dL_law__2028 : decode cL_law_ 2028 = .ok (.iconst 1, 1) := by decide +kernel
theorem dL_law__2029 : decode cL_law_ 2029 = .ok (.iadd, 1) := by decide +kernel
theorem dL_law__2030 : decode cL_law_ 2030 = .ok (.iaload, 1) := by decide +kernel
theorem dL_law__2031 : decode cL_law_ 2031 = .ok (.aload_n 3, 1) := by decide +kernel
theorem dL_law__2032 : decode cL_law_ 2032 = .ok (.invokestatic 206, 3) := by decide +kernel
theorem dL_law__2035 : decode cL_law_ 2035 = .ok (.istore 5, 2) := by decide +kernel
theorem dL_law__2037 : decode cL_law_ 2037 = .ok (.aload_n 2, 1) := by decide +kernel
theorem dL_law__2038 : decode cL_law_ 2038 = .ok (.aload_n 0, 1) := by decide +kernel
theorem dL_law__2039 : decode cL_law_ 2039 = .ok (.iload 4, 2) := by decide +kernel
theorem dL_law__2041 : decode cL_law_ 2041 = .ok (.iconst 1, 1) := by decide +kernel
theorem dL_law__2042 : decode cL_law_ 2042 = .ok (.iadd, 1) := by decide +kernel
theorem dL_law__2043 : decode cL_law_ 2043 = .ok (.iaload, 1) := by decide +kernel
theorem dL_law__2044 : decode cL_law_ 2044 = .ok (.invokevirtual 208, 3) := by decide +kernel
theorem dL_law__2047 : decode cL_law_ 2047 = .ok (.istore 6, 2) := by decide +kernel
theorem dL_law__2049 : decode cL_law_ 2049 = .ok (.aload_n 2, 1) := by decide +kernel
theorem dL_law__2050 : decode cL_law_ 2050 = .ok (.invokevirtual 118, 3) := by decide +kernel
theorem dL_law__2053 : decode cL_law_ 2053 = .ok (.iload 5, 2) := by decide +kernel
theorem dL_law__2055 : decode cL_law_ 2055 = .ok (.if_icmp .eq 5, 3) := by decide +kernel
theorem dL_law__2058 : decode cL_law_ 2058 = .ok (.iconst 0, 1) := by decide +kernel
theorem dL_law__2059 : decode cL_law_ 2059 = .ok (.ireturn, 1) := by decide +kernel
theorem dL_law__2060 : decode cL_law_ 2060 = .ok (.iload 5, 2) := by decide +kernel
theorem dL_law__2062 : decode cL_law_ 2062 = .ok (.ifCond .ne 15, 3) := by decide +kernel
theorem dL_law__2065 : decode cL_law_ 2065 = .ok (.aload_n 3, 1) := by decide +kernel
theorem dL_law__2066 : decode cL_law_ 2066 = .ok (.iconst 0, 1) := by decide +kernel
theorem dL_law__2067 : decode cL_law_ 2067 = .ok (.laload, 1) := by decide +kernel
theorem dL_law__2068 : decode cL_law_ 2068 = .ok (.iload 6, 2) := by decide +kernel
theorem dL_law__2070 : decode cL_law_ 2070 = .ok (.i2l, 1) := by decide +kernel
theorem dL_law__2071 : decode cL_law_ 2071 = .ok (.lcmp, 1) := by decide +kernel
theorem dL_law__2072 : decode cL_law_ 2072 = .ok (.ifCond .eq 5, 3) := by decide +kernel
theorem dL_law__2075 : decode cL_law_ 2075 = .ok (.iconst 0, 1) := by decide +kernel
theorem dL_law__2076 : decode cL_law_ 2076 = .ok (.ireturn, 1) := by decide +kernel
theorem dL_law__2077 : decode cL_law_ 2077 = .ok (.goto 275, 3) := by decide +kernel
theorem dL_law__2080 : decode cL_law_ 2080 = .ok (.aload_n 1, 1) := by decide +kernel
theorem dL_law__2081 : decode cL_law_ 2081 = .ok (.aload_n 0, 1) := by decide +kernel
theorem dL_law__2082 : decode cL_law_ 2082 = .ok (.iload 4, 2) := by decide +kernel
theorem dL_law__2084 : decode cL_law_ 2084 = .ok (.iconst 1, 1) := by decide +kernel
theorem dL_law__2085 : decode cL_law_ 2085 = .ok (.iadd, 1) := by decide +kernel
theorem dL_law__2086 : decode cL_law_ 2086 = .ok (.iaload, 1) := by decide +kernel
theorem dL_law__2087 : decode cL_law_ 2087 = .ok (.aload_n 0, 1) := by decide +kernel
theorem dL_law__2088 : decode cL_law_ 2088 = .ok (.iload 4, 2) := by decide +kernel
theorem dL_law__2090 : decode cL_law_ 2090 = .ok (.iconst 2, 1) := by decide +kernel
theorem dL_law__2091 : decode cL_law_ 2091 = .ok (.iadd, 1) := by decide +kernel
theorem dL_law__2092 : decode cL_law_ 2092 = .ok (.iaload, 1) := by decide +kernel
theorem dL_law__2093 : decode cL_law_ 2093 = .ok (.aload_n 0, 1) := by decide +kernel
theorem dL_law__2094 : decode cL_law_ 2094 = .ok (.iload 4, 2) := by decide +kernel
theorem dL_law__2096 : decode cL_law_ 2096 = .ok (.iconst 3, 1) := by decide +kernel
theorem dL_law__2097 : decode cL_law_ 2097 = .ok (.iadd, 1) := by decide +kernel
theorem dL_law__2098 : decode cL_law_ 2098 = .ok (.iaload, 1) := by decide +kernel
theorem dL_law__2099 : decode cL_law_ 2099 = .ok (.aload_n 0, 1) := by decide +kernel
theorem dL_law__2100 : decode cL_law_ 2100 = .ok (.iload 4, 2) := by decide +kernel
theorem dL_law__2102 : decode cL_law_ 2102 = .ok (.iconst 4, 1) := by decide +kernel
theorem dL_law__2103 : decode cL_law_ 2103 = .ok (.iadd, 1) := by decide +kernel
theorem dL_law__2104 : decode cL_law_ 2104 = .ok (.iaload, 1) := by decide +kernel
theorem dL_law__2105 : decode cL_law_ 2105 = .ok (.aload_n 3, 1) := by decide +kernel
theorem dL_law__2106 : decode cL_law_ 2106 = .ok (.invokestatic 209, 3) := by decide +kernel
theorem dL_law__2109 : decode cL_law_ 2109 = .ok (.istore 5, 2) := by decide +kernel
theorem dL_law__2111 : decode cL_law_ 2111 = .ok (.aload_n 2, 1) := by decide +kernel
theorem dL_law__2112 : decode cL_law_ 2112 = .ok (.aload_n 0, 1) := by decide +kernel
theorem dL_law__2113 : decode cL_law_ 2113 = .ok (.iload 4, 2) := by decide +kernel
theorem dL_law__2115 : decode cL_law_ 2115 = .ok (.iconst 1, 1) := by decide +kernel
theorem dL_law__2116 : decode cL_law_ 2116 = .ok (.iadd, 1) := by decide +kernel
theorem dL_law__2117 : decode cL_law_ 2117 = .ok (.iaload, 1) := by decide +kernel
theorem dL_law__2118 : decode cL_law_ 2118 = .ok (.aload_n 0, 1) := by decide +kernel
theorem dL_law__2119 : decode cL_law_ 2119 = .ok (.iload 4, 2) := by decide +kernel
theorem dL_law__2121 : decode cL_law_ 2121 = .ok (.iconst 2, 1) := by decide +kernel
theorem dL_law__2122 : decode cL_law_ 2122 = .ok (.iadd, 1) := by decide +kernel
theorem dL_law__2123 : decode cL_law_ 2123 = .ok (.iaload, 1) := by decide +kernel
theorem dL_law__2124 : decode cL_law_ 2124 = .ok (.aload_n 0, 1) := by decide +kernel
theorem dL_law__2125 : decode cL_law_ 2125 = .ok (.iload 4, 2) := by decide +kernel
theorem dL_law__2127 : decode cL_law_ 2127 = .ok (.iconst 3, 1) := by decide +kernel
theorem dL_law__2128 : decode cL_law_ 2128 = .ok (.iadd, 1) := by decide +kernel
theorem dL_law__2129 : decode cL_law_ 2129 = .ok (.iaload, 1) := by decide +kernel
theorem dL_law__2130 : decode cL_law_ 2130 = .ok (.aload_n 0, 1) := by decide +kernel
theorem dL_law__2131 : decode cL_law_ 2131 = .ok (.iload 4, 2) := by decide +kernel
theorem dL_law__2133 : decode cL_law_ 2133 = .ok (.iconst 4, 1) := by decide +kernel
theorem dL_law__2134 : decode cL_law_ 2134 = .ok (.iadd, 1) := by decide +kernel
theorem dL_law__2135 : decode cL_law_ 2135 = .ok (.iaload, 1) := by decide +kernel
theorem dL_law__2136 : decode cL_law_ 2136 = .ok (.invokevirtual 211, 3) := by decide +kernel
theorem dL_law__2139 : decode cL_law_ 2139 = .ok (.istore 6, 2) := by decide +kernel
theorem dL_law__2141 : decode cL_law_ 2141 = .ok (.aload_n 2, 1) := by decide +kernel
theorem dL_law__2142 : decode cL_law_ 2142 = .ok (.invokevirtual 118, 3) := by decide +kernel
theorem dL_law__2145 : decode cL_law_ 2145 = .ok (.iload 5, 2) := by decide +kernel
theorem dL_law__2147 : decode cL_law_ 2147 = .ok (.if_icmp .eq 5, 3) := by decide +kernel
theorem dL_law__2150 : decode cL_law_ 2150 = .ok (.iconst 0, 1) := by decide +kernel
theorem dL_law__2151 : decode cL_law_ 2151 = .ok (.ireturn, 1) := by decide +kernel
theorem dL_law__2152 : decode cL_law_ 2152 = .ok (.iload 5, 2) := by decide +kernel
theorem dL_law__2154 : decode cL_law_ 2154 = .ok (.ifCond .ne 15, 3) := by decide +kernel
theorem dL_law__2157 : decode cL_law_ 2157 = .ok (.aload_n 3, 1) := by decide +kernel
theorem dL_law__2158 : decode cL_law_ 2158 = .ok (.iconst 0, 1) := by decide +kernel
theorem dL_law__2159 : decode cL_law_ 2159 = .ok (.laload, 1) := by decide +kernel
theorem dL_law__2160 : decode cL_law_ 2160 = .ok (.iload 6, 2) := by decide +kernel
theorem dL_law__2162 : decode cL_law_ 2162 = .ok (.i2l, 1) := by decide +kernel
theorem dL_law__2163 : decode cL_law_ 2163 = .ok (.lcmp, 1) := by decide +kernel
theorem dL_law__2164 : decode cL_law_ 2164 = .ok (.ifCond .eq 5, 3) := by decide +kernel
theorem dL_law__2167 : decode cL_law_ 2167 = .ok (.iconst 0, 1) := by decide +kernel
theorem dL_law__2168 : decode cL_law_ 2168 = .ok (.ireturn, 1) := by decide +kernel
theorem dL_law__2169 : decode cL_law_ 2169 = .ok (.goto 183, 3) := by decide +kernel
theorem dL_law__2172 : decode cL_law_ 2172 = .ok (.aload_n 1, 1) := by decide +kernel
theorem dL_law__2173 : decode cL_law_ 2173 = .ok (.aload_n 0, 1) := by decide +kernel
theorem dL_law__2174 : decode cL_law_ 2174 = .ok (.iload 4, 2) := by decide +kernel
theorem dL_law__2176 : decode cL_law_ 2176 = .ok (.iconst 1, 1) := by decide +kernel
theorem dL_law__2177 : decode cL_law_ 2177 = .ok (.iadd, 1) := by decide +kernel
theorem dL_law__2178 : decode cL_law_ 2178 = .ok (.iaload, 1) := by decide +kernel
theorem dL_law__2179 : decode cL_law_ 2179 = .ok (.aload_n 0, 1) := by decide +kernel
theorem dL_law__2180 : decode cL_law_ 2180 = .ok (.iload 4, 2) := by decide +kernel
theorem dL_law__2182 : decode cL_law_ 2182 = .ok (.iconst 2, 1) := by decide +kernel
theorem dL_law__2183 : decode cL_law_ 2183 = .ok (.iadd, 1) := by decide +kernel
theorem dL_law__2184 : decode cL_law_ 2184 = .ok (.iaload, 1) := by decide +kernel
theorem dL_law__2185 : decode cL_law_ 2185 = .ok (.aload_n 0, 1) := by decide +kernel
theorem dL_law__2186 : decode cL_law_ 2186 = .ok (.iload 4, 2) := by decide +kernel
theorem dL_law__2188 : decode cL_law_ 2188 = .ok (.iconst 3, 1) := by decide +kernel
theorem dL_law__2189 : decode cL_law_ 2189 = .ok (.iadd, 1) := by decide +kernel
theorem dL_law__2190 : decode cL_law_ 2190 = .ok (.iaload, 1) := by decide +kernel
theorem dL_law__2191 : decode cL_law_ 2191 = .ok (.aload_n 0, 1) := by decide +kernel
theorem dL_law__2192 : decode cL_law_ 2192 = .ok (.iload 4, 2) := by decide +kernel
theorem dL_law__2194 : decode cL_law_ 2194 = .ok (.iconst 4, 1) := by decide +kernel
theorem dL_law__2195 : decode cL_law_ 2195 = .ok (.iadd, 1) := by decide +kernel
theorem dL_law__2196 : decode cL_law_ 2196 = .ok (.iaload, 1) := by decide +kernel
theorem dL_law__2197 : decode cL_law_ 2197 = .ok (.aload_n 0, 1) := by decide +kernel
theorem dL_law__2198 : decode cL_law_ 2198 = .ok (.iload 4, 2) := by decide +kernel
theorem dL_law__2200 : decode cL_law_ 2200 = .ok (.iconst 5, 1) := by decide +kernel
theorem dL_law__2201 : decode cL_law_ 2201 = .ok (.iadd, 1) := by decide +kernel
theorem dL_law__2202 : decode cL_law_ 2202 = .ok (.iaload, 1) := by decide +kernel
theorem dL_law__2203 : decode cL_law_ 2203 = .ok (.aload_n 3, 1) := by decide +kernel
theorem dL_law__2204 : decode cL_law_ 2204 = .ok (.invokestatic 212, 3) := by decide +kernel
theorem dL_law__2207 : decode cL_law_ 2207 = .ok (.istore 5, 2) := by decide +kernel
theorem dL_law__2209 : decode cL_law_ 2209 = .ok (.aload_n 2, 1) := by decide +kernel
theorem dL_law__2210 : decode cL_law_ 2210 = .ok (.aload_n 0, 1) := by decide +kernel
theorem dL_law__2211 : decode cL_law_ 2211 = .ok (.iload 4, 2) := by decide +kernel
theorem dL_law__2213 : decode cL_law_ 2213 = .ok (.iconst 1, 1) := by decide +kernel
theorem dL_law__2214 : decode cL_law_ 2214 = .ok (.iadd, 1) := by decide +kernel
theorem dL_law__2215 : decode cL_law_ 2215 = .ok (.iaload, 1) := by decide +kernel
theorem dL_law__2216 : decode cL_law_ 2216 = .ok (.aload_n 0, 1) := by decide +kernel
theorem dL_law__2217 : decode cL_law_ 2217 = .ok (.iload 4, 2) := by decide +kernel
theorem dL_law__2219 : decode cL_law_ 2219 = .ok (.iconst 2, 1) := by decide +kernel
theorem dL_law__2220 : decode cL_law_ 2220 = .ok (.iadd, 1) := by decide +kernel
theorem dL_law__2221 : decode cL_law_ 2221 = .ok (.iaload, 1) := by decide +kernel
theorem dL_law__2222 : decode cL_law_ 2222 = .ok (.aload_n 0, 1) := by decide +kernel
theorem dL_law__2223 : decode cL_law_ 2223 = .ok (.iload 4, 2) := by decide +kernel
theorem dL_law__2225 : decode cL_law_ 2225 = .ok (.iconst 3, 1) := by decide +kernel
theorem dL_law__2226 : decode cL_law_ 2226 = .ok (.iadd, 1) := by decide +kernel
theorem dL_law__2227 : decode cL_law_ 2227 = .ok (.iaload, 1) := by decide +kernel
theorem dL_law__2228 : decode cL_law_ 2228 = .ok (.aload_n 0, 1) := by decide +kernel
theorem dL_law__2229 : decode cL_law_ 2229 = .ok (.iload 4, 2) := by decide +kernel
theorem dL_law__2231 : decode cL_law_ 2231 = .ok (.iconst 4, 1) := by decide +kernel
theorem dL_law__2232 : decode cL_law_ 2232 = .ok (.iadd, 1) := by decide +kernel
theorem dL_law__2233 : decode cL_law_ 2233 = .ok (.iaload, 1) := by decide +kernel
theorem dL_law__2234 : decode cL_law_ 2234 = .ok (.aload_n 0, 1) := by decide +kernel
theorem dL_law__2235 : decode cL_law_ 2235 = .ok (.iload 4, 2) := by decide +kernel
theorem dL_law__2237 : decode cL_law_ 2237 = .ok (.iconst 5, 1) := by decide +kernel
theorem dL_law__2238 : decode cL_law_ 2238 = .ok (.iadd, 1) := by decide +kernel
theorem dL_law__2239 : decode cL_law_ 2239 = .ok (.iaload, 1) := by decide +kernel
theorem dL_law__2240 : decode cL_law_ 2240 = .ok (.invokevirtual 215, 3) := by decide +kernel
theorem dL_law__2243 : decode cL_law_ 2243 = .ok (.istore 6, 2) := by decide +kernel
theorem dL_law__2245 : decode cL_law_ 2245 = .ok (.aload_n 2, 1) := by decide +kernel
theorem dL_law__2246 : decode cL_law_ 2246 = .ok (.invokevirtual 118, 3) := by decide +kernel
theorem dL_law__2249 : decode cL_law_ 2249 = .ok (.iload 5, 2) := by decide +kernel
theorem dL_law__2251 : decode cL_law_ 2251 = .ok (.if_icmp .eq 5, 3) := by decide +kernel
theorem dL_law__2254 : decode cL_law_ 2254 = .ok (.iconst 0, 1) := by decide +kernel
theorem dL_law__2255 : decode cL_law_ 2255 = .ok (.ireturn, 1) := by decide +kernel
theorem dL_law__2256 : decode cL_law_ 2256 = .ok (.iload 5, 2) := by decide +kernel
theorem dL_law__2258 : decode cL_law_ 2258 = .ok (.ifCond .ne 15, 3) := by decide +kernel
theorem dL_law__2261 : decode cL_law_ 2261 = .ok (.aload_n 3, 1) := by decide +kernel
theorem dL_law__2262 : decode cL_law_ 2262 = .ok (.iconst 0, 1) := by decide +kernel
theorem dL_law__2263 : decode cL_law_ 2263 = .ok (.laload, 1) := by decide +kernel
theorem dL_law__2264 : decode cL_law_ 2264 = .ok (.iload 6, 2) := by decide +kernel
theorem dL_law__2266 : decode cL_law_ 2266 = .ok (.i2l, 1) := by decide +kernel
theorem dL_law__2267 : decode cL_law_ 2267 = .ok (.lcmp, 1) := by decide +kernel
theorem dL_law__2268 : decode cL_law_ 2268 = .ok (.ifCond .eq 5, 3) := by decide +kernel
theorem dL_law__2271 : decode cL_law_ 2271 = .ok (.iconst 0, 1) := by decide +kernel
theorem dL_law__2272 : decode cL_law_ 2272 = .ok (.ireturn, 1) := by decide +kernel
theorem dL_law__2273 : decode cL_law_ 2273 = .ok (.goto 79, 3) := by decide +kernel
theorem dL_law__2276 : decode cL_law_ 2276 = .ok (.aload_n 1, 1) := by decide +kernel
theorem dL_law__2277 : decode cL_law_ 2277 = .ok (.invokevirtual 216, 3) := by decide +kernel
theorem dL_law__2280 : decode cL_law_ 2280 = .ok (.aload_n 2, 1) := by decide +kernel
theorem dL_law__2281 : decode cL_law_ 2281 = .ok (.invokevirtual 219, 3) := by decide +kernel
theorem dL_law__2284 : decode cL_law_ 2284 = .ok (.if_icmp .eq 68, 3) := by decide +kernel
theorem dL_law__2287 : decode cL_law_ 2287 = .ok (.iconst 0, 1) := by decide +kernel
theorem dL_law__2288 : decode cL_law_ 2288 = .ok (.ireturn, 1) := by decide +kernel
theorem dL_law__2289 : decode cL_law_ 2289 = .ok (.aload_n 1, 1) := by decide +kernel
theorem dL_law__2290 : decode cL_law_ 2290 = .ok (.invokevirtual 220, 3) := by decide +kernel
theorem dL_law__2293 : decode cL_law_ 2293 = .ok (.aload_n 2, 1) := by decide +kernel
theorem dL_law__2294 : decode cL_law_ 2294 = .ok (.invokevirtual 223, 3) := by decide +kernel
theorem dL_law__2297 : decode cL_law_ 2297 = .ok (.if_icmp .eq 55, 3) := by decide +kernel
theorem dL_law__2300 : decode cL_law_ 2300 = .ok (.iconst 0, 1) := by decide +kernel
theorem dL_law__2301 : decode cL_law_ 2301 = .ok (.ireturn, 1) := by decide +kernel
theorem dL_law__2302 : decode cL_law_ 2302 = .ok (.aload_n 1, 1) := by decide +kernel
theorem dL_law__2303 : decode cL_law_ 2303 = .ok (.aload_n 0, 1) := by decide +kernel
theorem dL_law__2304 : decode cL_law_ 2304 = .ok (.iload 4, 2) := by decide +kernel
theorem dL_law__2306 : decode cL_law_ 2306 = .ok (.iconst 1, 1) := by decide +kernel
theorem dL_law__2307 : decode cL_law_ 2307 = .ok (.iadd, 1) := by decide +kernel
theorem dL_law__2308 : decode cL_law_ 2308 = .ok (.iaload, 1) := by decide +kernel
theorem dL_law__2309 : decode cL_law_ 2309 = .ok (.invokevirtual 224, 3) := by decide +kernel
theorem dL_law__2312 : decode cL_law_ 2312 = .ok (.aload_n 2, 1) := by decide +kernel
theorem dL_law__2313 : decode cL_law_ 2313 = .ok (.aload_n 0, 1) := by decide +kernel
theorem dL_law__2314 : decode cL_law_ 2314 = .ok (.iload 4, 2) := by decide +kernel
theorem dL_law__2316 : decode cL_law_ 2316 = .ok (.iconst 1, 1) := by decide +kernel
theorem dL_law__2317 : decode cL_law_ 2317 = .ok (.iadd, 1) := by decide +kernel
theorem dL_law__2318 : decode cL_law_ 2318 = .ok (.iaload, 1) := by decide +kernel
theorem dL_law__2319 : decode cL_law_ 2319 = .ok (.invokevirtual 227, 3) := by decide +kernel
theorem dL_law__2322 : decode cL_law_ 2322 = .ok (.if_icmp .eq 30, 3) := by decide +kernel
theorem dL_law__2325 : decode cL_law_ 2325 = .ok (.iconst 0, 1) := by decide +kernel
theorem dL_law__2326 : decode cL_law_ 2326 = .ok (.ireturn, 1) := by decide +kernel
theorem dL_law__2327 : decode cL_law_ 2327 = .ok (.aload_n 1, 1) := by decide +kernel
theorem dL_law__2328 : decode cL_law_ 2328 = .ok (.aload_n 0, 1) := by decide +kernel
theorem dL_law__2329 : decode cL_law_ 2329 = .ok (.iload 4, 2) := by decide +kernel
theorem dL_law__2331 : decode cL_law_ 2331 = .ok (.iconst 1, 1) := by decide +kernel
theorem dL_law__2332 : decode cL_law_ 2332 = .ok (.iadd, 1) := by decide +kernel
theorem dL_law__2333 : decode cL_law_ 2333 = .ok (.iaload, 1) := by decide +kernel
theorem dL_law__2334 : decode cL_law_ 2334 = .ok (.invokevirtual 228, 3) := by decide +kernel
theorem dL_law__2337 : decode cL_law_ 2337 = .ok (.aload_n 2, 1) := by decide +kernel
theorem dL_law__2338 : decode cL_law_ 2338 = .ok (.aload_n 0, 1) := by decide +kernel
theorem dL_law__2339 : decode cL_law_ 2339 = .ok (.iload 4, 2) := by decide +kernel
theorem dL_law__2341 : decode cL_law_ 2341 = .ok (.iconst 1, 1) := by decide +kernel
theorem dL_law__2342 : decode cL_law_ 2342 = .ok (.iadd, 1) := by decide +kernel
theorem dL_law__2343 : decode cL_law_ 2343 = .ok (.iaload, 1) := by decide +kernel
theorem dL_law__2344 : decode cL_law_ 2344 = .ok (.invokevirtual 231, 3) := by decide +kernel
theorem dL_law__2347 : decode cL_law_ 2347 = .ok (.if_icmp .eq 5, 3) := by decide +kernel
theorem dL_law__2350 : decode cL_law_ 2350 = .ok (.iconst 0, 1) := by decide +kernel
theorem dL_law__2351 : decode cL_law_ 2351 = .ok (.ireturn, 1) := by decide +kernel
theorem dL_law__2352 : decode cL_law_ 2352 = .ok (.iinc 4 9, 3) := by decide +kernel
theorem dL_law__2355 : decode cL_law_ 2355 = .ok (.goto (-2332), 3) := by decide +kernel
theorem dL_law__2358 : decode cL_law_ 2358 = .ok (.iconst 1, 1) := by decide +kernel
theorem dL_law__2359 : decode cL_law_ 2359 = .ok (.ireturn, 1) := by decide +kernel
