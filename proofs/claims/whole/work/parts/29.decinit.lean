theorem dX5_init_0 : decode cX5_init 0 = .ok (.aload_n 0, 1) := by decide +kernel
theorem dX5_init_1 : decode cX5_init 1 = .ok (.invokespecial 1, 3) := by decide +kernel
theorem dX5_init_4 : decode cX5_init 4 = .ok (.aload_n 0, 1) := by decide +kernel
theorem dX5_init_5 : decode cX5_init 5 = .ok (.sipush 246, 3) := by decide +kernel
theorem dX5_init_8 : decode cX5_init 8 = .ok (.newarray .int, 2) := by decide +kernel
theorem dX5_init_1780 : decode cX5_init 1780 = .ok (.putfield 9, 3) := by decide +kernel
theorem dX5_init_1783 : decode cX5_init 1783 = .ok (.aload_n 0, 1) := by decide +kernel
theorem dX5_init_1784 : decode cX5_init 1784 = .ok (.sipush 210, 3) := by decide +kernel
theorem dX5_init_1787 : decode cX5_init 1787 = .ok (.newarray .int, 2) := by decide +kernel
theorem dX5_init_1789 : decode cX5_init 1789 = .ok (.putfield 13, 3) := by decide +kernel
theorem dX5_init_1792 : decode cX5_init 1792 = .ok (.aload_n 0, 1) := by decide +kernel
theorem dX5_init_1793 : decode cX5_init 1793 = .ok (.bipush 21, 2) := by decide +kernel
theorem dX5_init_1795 : decode cX5_init 1795 = .ok (.newarray .int, 2) := by decide +kernel
theorem dX5_init_1797 : decode cX5_init 1797 = .ok (.putfield 16, 3) := by decide +kernel
theorem dX5_init_1800 : decode cX5_init 1800 = .ok (.aload_n 0, 1) := by decide +kernel
theorem dX5_init_1801 : decode cX5_init 1801 = .ok (.bipush 21, 2) := by decide +kernel
theorem dX5_init_1803 : decode cX5_init 1803 = .ok (.newarray .int, 2) := by decide +kernel
theorem dX5_init_1805 : decode cX5_init 1805 = .ok (.putfield 19, 3) := by decide +kernel
theorem dX5_init_1808 : decode cX5_init 1808 = .ok (.aload_n 0, 1) := by decide +kernel
theorem dX5_init_1809 : decode cX5_init 1809 = .ok (.sipush 252, 3) := by decide +kernel
theorem dX5_init_1812 : decode cX5_init 1812 = .ok (.newarray .int, 2) := by decide +kernel
theorem dX5_init_1814 : decode cX5_init 1814 = .ok (.putfield 22, 3) := by decide +kernel
theorem dX5_init_1817 : decode cX5_init 1817 = .ok (.aload_n 0, 1) := by decide +kernel
theorem dX5_init_1818 : decode cX5_init 1818 = .ok (.sipush 252, 3) := by decide +kernel
theorem dX5_init_1821 : decode cX5_init 1821 = .ok (.newarray .int, 2) := by decide +kernel
theorem dX5_init_1823 : decode cX5_init 1823 = .ok (.putfield 25, 3) := by decide +kernel
theorem dX5_init_1826 : decode cX5_init 1826 = .ok (.aload_n 0, 1) := by decide +kernel
theorem dX5_init_1827 : decode cX5_init 1827 = .ok (.bipush 7, 2) := by decide +kernel
theorem dX5_init_1829 : decode cX5_init 1829 = .ok (.newarray .int, 2) := by decide +kernel
theorem dX5_init_1831 : decode cX5_init 1831 = .ok (.putfield 28, 3) := by decide +kernel
theorem dX5_init_1834 : decode cX5_init 1834 = .ok (.aload_n 0, 1) := by decide +kernel
theorem dX5_init_1835 : decode cX5_init 1835 = .ok (.bipush 11, 2) := by decide +kernel
theorem dX5_init_1837 : decode cX5_init 1837 = .ok (.newarray .int, 2) := by decide +kernel
theorem dX5_init_1839 : decode cX5_init 1839 = .ok (.putfield 31, 3) := by decide +kernel
theorem dX5_init_1842 : decode cX5_init 1842 = .ok (.aload_n 0, 1) := by decide +kernel
theorem dX5_init_1843 : decode cX5_init 1843 = .ok (.sipush 300, 3) := by decide +kernel
theorem dX5_init_1846 : decode cX5_init 1846 = .ok (.newarray .int, 2) := by decide +kernel
theorem dX5_init_1848 : decode cX5_init 1848 = .ok (.putfield 34, 3) := by decide +kernel
theorem dX5_init_1851 : decode cX5_init 1851 = .ok (.aload_n 0, 1) := by decide +kernel
theorem dX5_init_1852 : decode cX5_init 1852 = .ok (.sipush 300, 3) := by decide +kernel
theorem dX5_init_1855 : decode cX5_init 1855 = .ok (.newarray .int, 2) := by decide +kernel
theorem dX5_init_1857 : decode cX5_init 1857 = .ok (.putfield 37, 3) := by decide +kernel
theorem dX5_init_1860 : decode cX5_init 1860 = .ok (.aload_n 0, 1) := by decide +kernel
theorem dX5_init_1861 : decode cX5_init 1861 = .ok (.sipush 300, 3) := by decide +kernel
theorem dX5_init_1864 : decode cX5_init 1864 = .ok (.newarray .int, 2) := by decide +kernel
theorem dX5_init_1866 : decode cX5_init 1866 = .ok (.putfield 40, 3) := by decide +kernel
theorem dX5_init_1869 : decode cX5_init 1869 = .ok (.aload_n 0, 1) := by decide +kernel
theorem dX5_init_1870 : decode cX5_init 1870 = .ok (.sipush 300, 3) := by decide +kernel
theorem dX5_init_1873 : decode cX5_init 1873 = .ok (.newarray .int, 2) := by decide +kernel
theorem dX5_init_1875 : decode cX5_init 1875 = .ok (.putfield 43, 3) := by decide +kernel
theorem dX5_init_1878 : decode cX5_init 1878 = .ok (.aload_n 0, 1) := by decide +kernel
theorem dX5_init_1879 : decode cX5_init 1879 = .ok (.sipush 400, 3) := by decide +kernel
theorem dX5_init_1882 : decode cX5_init 1882 = .ok (.newarray .int, 2) := by decide +kernel
theorem dX5_init_1884 : decode cX5_init 1884 = .ok (.putfield 46, 3) := by decide +kernel
theorem dX5_init_1887 : decode cX5_init 1887 = .ok (.aload_n 0, 1) := by decide +kernel
theorem dX5_init_1888 : decode cX5_init 1888 = .ok (.sipush 400, 3) := by decide +kernel
theorem dX5_init_1891 : decode cX5_init 1891 = .ok (.newarray .int, 2) := by decide +kernel
theorem dX5_init_1893 : decode cX5_init 1893 = .ok (.putfield 49, 3) := by decide +kernel
theorem dX5_init_1896 : decode cX5_init 1896 = .ok (.aload_n 0, 1) := by decide +kernel
theorem dX5_init_1897 : decode cX5_init 1897 = .ok (.sipush 300, 3) := by decide +kernel
theorem dX5_init_1900 : decode cX5_init 1900 = .ok (.newarray .int, 2) := by decide +kernel
theorem dX5_init_1902 : decode cX5_init 1902 = .ok (.putfield 52, 3) := by decide +kernel
theorem dX5_init_1905 : decode cX5_init 1905 = .ok (.aload_n 0, 1) := by decide +kernel
theorem dX5_init_1906 : decode cX5_init 1906 = .ok (.sipush 300, 3) := by decide +kernel
theorem dX5_init_1909 : decode cX5_init 1909 = .ok (.newarray .int, 2) := by decide +kernel
theorem dX5_init_1911 : decode cX5_init 1911 = .ok (.putfield 55, 3) := by decide +kernel
theorem dX5_init_1914 : decode cX5_init 1914 = .ok (.aload_n 0, 1) := by decide +kernel
theorem dX5_init_1915 : decode cX5_init 1915 = .ok (.sipush 300, 3) := by decide +kernel
theorem dX5_init_1918 : decode cX5_init 1918 = .ok (.newarray .boolean, 2) := by decide +kernel
theorem dX5_init_1920 : decode cX5_init 1920 = .ok (.putfield 58, 3) := by decide +kernel
theorem dX5_init_1923 : decode cX5_init 1923 = .ok (.aload_n 0, 1) := by decide +kernel
theorem dX5_init_1924 : decode cX5_init 1924 = .ok (.bipush 64, 2) := by decide +kernel
theorem dX5_init_1926 : decode cX5_init 1926 = .ok (.newarray .int, 2) := by decide +kernel
theorem dX5_init_1928 : decode cX5_init 1928 = .ok (.putfield 62, 3) := by decide +kernel
theorem dX5_init_1931 : decode cX5_init 1931 = .ok (.aload_n 0, 1) := by decide +kernel
theorem dX5_init_1932 : decode cX5_init 1932 = .ok (.bipush 100, 2) := by decide +kernel
theorem dX5_init_1934 : decode cX5_init 1934 = .ok (.newarray .int, 2) := by decide +kernel
theorem dX5_init_1936 : decode cX5_init 1936 = .ok (.putfield 65, 3) := by decide +kernel
theorem dX5_init_1939 : decode cX5_init 1939 = .ok (.aload_n 0, 1) := by decide +kernel
theorem dX5_init_1940 : decode cX5_init 1940 = .ok (.bipush 100, 2) := by decide +kernel
theorem dX5_init_1942 : decode cX5_init 1942 = .ok (.newarray .int, 2) := by decide +kernel
theorem dX5_init_1944 : decode cX5_init 1944 = .ok (.putfield 68, 3) := by decide +kernel
theorem dX5_init_1947 : decode cX5_init 1947 = .ok (.aload_n 0, 1) := by decide +kernel
theorem dX5_init_1948 : decode cX5_init 1948 = .ok (.bipush 100, 2) := by decide +kernel
theorem dX5_init_1950 : decode cX5_init 1950 = .ok (.newarray .int, 2) := by decide +kernel
theorem dX5_init_1952 : decode cX5_init 1952 = .ok (.putfield 71, 3) := by decide +kernel
theorem dX5_init_1955 : decode cX5_init 1955 = .ok (.aload_n 0, 1) := by decide +kernel
theorem dX5_init_1956 : decode cX5_init 1956 = .ok (.sipush 300, 3) := by decide +kernel
theorem dX5_init_1959 : decode cX5_init 1959 = .ok (.newarray .int, 2) := by decide +kernel
theorem dX5_init_1961 : decode cX5_init 1961 = .ok (.putfield 74, 3) := by decide +kernel
theorem dX5_init_1964 : decode cX5_init 1964 = .ok (.iconst 0, 1) := by decide +kernel
theorem dX5_init_1965 : decode cX5_init 1965 = .ok (.istore_n 1, 1) := by decide +kernel
theorem dX5_init_1966 : decode cX5_init 1966 = .ok (.iload_n 1, 1) := by decide +kernel
theorem dX5_init_1967 : decode cX5_init 1967 = .ok (.sipush 252, 3) := by decide +kernel
theorem dX5_init_1970 : decode cX5_init 1970 = .ok (.if_icmp .ge 16, 3) := by decide +kernel
theorem dX5_init_1973 : decode cX5_init 1973 = .ok (.aload_n 0, 1) := by decide +kernel
theorem dX5_init_1974 : decode cX5_init 1974 = .ok (.getfield 22, 3) := by decide +kernel
theorem dX5_init_1977 : decode cX5_init 1977 = .ok (.iload_n 1, 1) := by decide +kernel
theorem dX5_init_1978 : decode cX5_init 1978 = .ok (.iconst (-1), 1) := by decide +kernel
theorem dX5_init_1979 : decode cX5_init 1979 = .ok (.iastore, 1) := by decide +kernel
theorem dX5_init_1980 : decode cX5_init 1980 = .ok (.iinc 1 1, 3) := by decide +kernel
theorem dX5_init_1983 : decode cX5_init 1983 = .ok (.goto (-17), 3) := by decide +kernel
theorem dX5_init_1986 : decode cX5_init 1986 = .ok (.iconst 0, 1) := by decide +kernel
theorem dX5_init_1987 : decode cX5_init 1987 = .ok (.istore_n 1, 1) := by decide +kernel
theorem dX5_init_1988 : decode cX5_init 1988 = .ok (.iload_n 1, 1) := by decide +kernel
theorem dX5_init_1989 : decode cX5_init 1989 = .ok (.aload_n 0, 1) := by decide +kernel
theorem dX5_init_1990 : decode cX5_init 1990 = .ok (.getfield 9, 3) := by decide +kernel
theorem dX5_init_1993 : decode cX5_init 1993 = .ok (.arraylength, 1) := by decide +kernel
theorem dX5_init_1994 : decode cX5_init 1994 = .ok (.if_icmp .ge 39, 3) := by decide +kernel
theorem dX5_init_1997 : decode cX5_init 1997 = .ok (.aload_n 0, 1) := by decide +kernel
theorem dX5_init_1998 : decode cX5_init 1998 = .ok (.getfield 9, 3) := by decide +kernel
theorem dX5_init_2001 : decode cX5_init 2001 = .ok (.iload_n 1, 1) := by decide +kernel
theorem dX5_init_2002 : decode cX5_init 2002 = .ok (.iaload, 1) := by decide +kernel
theorem dX5_init_2003 : decode cX5_init 2003 = .ok (.sipush 3000, 3) := by decide +kernel
theorem dX5_init_2006 : decode cX5_init 2006 = .ok (.if_icmp .le 21, 3) := by decide +kernel
theorem dX5_init_2009 : decode cX5_init 2009 = .ok (.aload_n 0, 1) := by decide +kernel
theorem dX5_init_2010 : decode cX5_init 2010 = .ok (.getfield 13, 3) := by decide +kernel
theorem dX5_init_2013 : decode cX5_init 2013 = .ok (.aload_n 0, 1) := by decide +kernel
theorem dX5_init_2014 : decode cX5_init 2014 = .ok (.getfield 9, 3) := by decide +kernel
theorem dX5_init_2017 : decode cX5_init 2017 = .ok (.iload_n 1, 1) := by decide +kernel
theorem dX5_init_2018 : decode cX5_init 2018 = .ok (.iaload, 1) := by decide +kernel
theorem dX5_init_2019 : decode cX5_init 2019 = .ok (.sipush 3000, 3) := by decide +kernel
theorem dX5_init_2022 : decode cX5_init 2022 = .ok (.isub, 1) := by decide +kernel
theorem dX5_init_2023 : decode cX5_init 2023 = .ok (.iload_n 1, 1) := by decide +kernel
theorem dX5_init_2024 : decode cX5_init 2024 = .ok (.iconst 1, 1) := by decide +kernel
theorem dX5_init_2025 : decode cX5_init 2025 = .ok (.iadd, 1) := by decide +kernel
theorem dX5_init_2026 : decode cX5_init 2026 = .ok (.iastore, 1) := by decide +kernel
theorem dX5_init_2027 : decode cX5_init 2027 = .ok (.iinc 1 1, 3) := by decide +kernel
theorem dX5_init_2030 : decode cX5_init 2030 = .ok (.goto (-42), 3) := by decide +kernel
theorem dX5_init_2033 : decode cX5_init 2033 = .ok (.aload_n 0, 1) := by decide +kernel
theorem dX5_init_2034 : decode cX5_init 2034 = .ok (.iconst 1, 1) := by decide +kernel
theorem dX5_init_2035 : decode cX5_init 2035 = .ok (.iconst 1, 1) := by decide +kernel
theorem dX5_init_2036 : decode cX5_init 2036 = .ok (.bipush 10, 2) := by decide +kernel
theorem dX5_init_2038 : decode cX5_init 2038 = .ok (.invokevirtual 77, 3) := by decide +kernel
theorem dX5_init_2041 : decode cX5_init 2041 = .ok (.aload_n 0, 1) := by decide +kernel
theorem dX5_init_2042 : decode cX5_init 2042 = .ok (.iconst 1, 1) := by decide +kernel
theorem dX5_init_2043 : decode cX5_init 2043 = .ok (.iconst 2, 1) := by decide +kernel
theorem dX5_init_2044 : decode cX5_init 2044 = .ok (.bipush 11, 2) := by decide +kernel
theorem dX5_init_2046 : decode cX5_init 2046 = .ok (.invokevirtual 77, 3) := by decide +kernel
theorem dX5_init_2049 : decode cX5_init 2049 = .ok (.aload_n 0, 1) := by decide +kernel
theorem dX5_init_2050 : decode cX5_init 2050 = .ok (.iconst 2, 1) := by decide +kernel
theorem dX5_init_2051 : decode cX5_init 2051 = .ok (.iconst 4, 1) := by decide +kernel
theorem dX5_init_2052 : decode cX5_init 2052 = .ok (.bipush 20, 2) := by decide +kernel
theorem dX5_init_2054 : decode cX5_init 2054 = .ok (.invokevirtual 77, 3) := by decide +kernel
theorem dX5_init_2057 : decode cX5_init 2057 = .ok (.aload_n 0, 1) := by decide +kernel
theorem dX5_init_2058 : decode cX5_init 2058 = .ok (.iconst 2, 1) := by decide +kernel
theorem dX5_init_2059 : decode cX5_init 2059 = .ok (.iconst 2, 1) := by decide +kernel
theorem dX5_init_2060 : decode cX5_init 2060 = .ok (.bipush 21, 2) := by decide +kernel
theorem dX5_init_2062 : decode cX5_init 2062 = .ok (.invokevirtual 77, 3) := by decide +kernel
theorem dX5_init_2065 : decode cX5_init 2065 = .ok (.aload_n 0, 1) := by decide +kernel
theorem dX5_init_2066 : decode cX5_init 2066 = .ok (.iconst 3, 1) := by decide +kernel
theorem dX5_init_2067 : decode cX5_init 2067 = .ok (.iconst 2, 1) := by decide +kernel
theorem dX5_init_2068 : decode cX5_init 2068 = .ok (.bipush 30, 2) := by decide +kernel
theorem dX5_init_2070 : decode cX5_init 2070 = .ok (.invokevirtual 77, 3) := by decide +kernel
theorem dX5_init_2073 : decode cX5_init 2073 = .ok (.aload_n 0, 1) := by decide +kernel
theorem dX5_init_2074 : decode cX5_init 2074 = .ok (.iconst 4, 1) := by decide +kernel
theorem dX5_init_2075 : decode cX5_init 2075 = .ok (.bipush 6, 2) := by decide +kernel
theorem dX5_init_2077 : decode cX5_init 2077 = .ok (.bipush 40, 2) := by decide +kernel
theorem dX5_init_2079 : decode cX5_init 2079 = .ok (.invokevirtual 77, 3) := by decide +kernel
theorem dX5_init_2082 : decode cX5_init 2082 = .ok (.aload_n 0, 1) := by decide +kernel
theorem dX5_init_2083 : decode cX5_init 2083 = .ok (.iconst 4, 1) := by decide +kernel
theorem dX5_init_2084 : decode cX5_init 2084 = .ok (.bipush 7, 2) := by decide +kernel
theorem dX5_init_2086 : decode cX5_init 2086 = .ok (.bipush 41, 2) := by decide +kernel
theorem dX5_init_2088 : decode cX5_init 2088 = .ok (.invokevirtual 77, 3) := by decide +kernel
theorem dX5_init_2091 : decode cX5_init 2091 = .ok (.aload_n 0, 1) := by decide +kernel
theorem dX5_init_2092 : decode cX5_init 2092 = .ok (.iconst 5, 1) := by decide +kernel
theorem dX5_init_2093 : decode cX5_init 2093 = .ok (.bipush 7, 2) := by decide +kernel
theorem dX5_init_2095 : decode cX5_init 2095 = .ok (.bipush 50, 2) := by decide +kernel
theorem dX5_init_2097 : decode cX5_init 2097 = .ok (.invokevirtual 77, 3) := by decide +kernel
theorem dX5_init_2100 : decode cX5_init 2100 = .ok (.aload_n 0, 1) := by decide +kernel
theorem dX5_init_2101 : decode cX5_init 2101 = .ok (.iconst 5, 1) := by decide +kernel
theorem dX5_init_2102 : decode cX5_init 2102 = .ok (.bipush 8, 2) := by decide +kernel
theorem dX5_init_2104 : decode cX5_init 2104 = .ok (.bipush 51, 2) := by decide +kernel
theorem dX5_init_2106 : decode cX5_init 2106 = .ok (.invokevirtual 77, 3) := by decide +kernel
theorem dX5_init_2109 : decode cX5_init 2109 = .ok (.aload_n 0, 1) := by decide +kernel
theorem dX5_init_2110 : decode cX5_init 2110 = .ok (.bipush 6, 2) := by decide +kernel
theorem dX5_init_2112 : decode cX5_init 2112 = .ok (.bipush 9, 2) := by decide +kernel
theorem dX5_init_2114 : decode cX5_init 2114 = .ok (.bipush 60, 2) := by decide +kernel
theorem dX5_init_2116 : decode cX5_init 2116 = .ok (.invokevirtual 77, 3) := by decide +kernel
theorem dX5_init_2119 : decode cX5_init 2119 = .ok (.aload_n 0, 1) := by decide +kernel
theorem dX5_init_2120 : decode cX5_init 2120 = .ok (.bipush 6, 2) := by decide +kernel
theorem dX5_init_2122 : decode cX5_init 2122 = .ok (.bipush 10, 2) := by decide +kernel
theorem dX5_init_2124 : decode cX5_init 2124 = .ok (.bipush 61, 2) := by decide +kernel
theorem dX5_init_2126 : decode cX5_init 2126 = .ok (.invokevirtual 77, 3) := by decide +kernel
theorem dX5_init_2129 : decode cX5_init 2129 = .ok (.aload_n 0, 1) := by decide +kernel
theorem dX5_init_2130 : decode cX5_init 2130 = .ok (.bipush 6, 2) := by decide +kernel
theorem dX5_init_2132 : decode cX5_init 2132 = .ok (.iconst 3, 1) := by decide +kernel
theorem dX5_init_2133 : decode cX5_init 2133 = .ok (.bipush 62, 2) := by decide +kernel
theorem dX5_init_2135 : decode cX5_init 2135 = .ok (.invokevirtual 77, 3) := by decide +kernel
theorem dX5_init_2138 : decode cX5_init 2138 = .ok (.aload_n 0, 1) := by decide +kernel
theorem dX5_init_2139 : decode cX5_init 2139 = .ok (.bipush 6, 2) := by decide +kernel
theorem dX5_init_2141 : decode cX5_init 2141 = .ok (.bipush 11, 2) := by decide +kernel
theorem dX5_init_2143 : decode cX5_init 2143 = .ok (.bipush 64, 2) := by decide +kernel
theorem dX5_init_2145 : decode cX5_init 2145 = .ok (.invokevirtual 77, 3) := by decide +kernel
theorem dX5_init_2148 : decode cX5_init 2148 = .ok (.aload_n 0, 1) := by decide +kernel
theorem dX5_init_2149 : decode cX5_init 2149 = .ok (.bipush 7, 2) := by decide +kernel
theorem dX5_init_2151 : decode cX5_init 2151 = .ok (.iconst 5, 1) := by decide +kernel
theorem dX5_init_2152 : decode cX5_init 2152 = .ok (.bipush 70, 2) := by decide +kernel
theorem dX5_init_2154 : decode cX5_init 2154 = .ok (.invokevirtual 77, 3) := by decide +kernel
theorem dX5_init_2157 : decode cX5_init 2157 = .ok (.aload_n 0, 1) := by decide +kernel
theorem dX5_init_2158 : decode cX5_init 2158 = .ok (.bipush 10, 2) := by decide +kernel
theorem dX5_init_2160 : decode cX5_init 2160 = .ok (.iconst 0, 1) := by decide +kernel
theorem dX5_init_2161 : decode cX5_init 2161 = .ok (.bipush 100, 2) := by decide +kernel
theorem dX5_init_2163 : decode cX5_init 2163 = .ok (.invokevirtual 77, 3) := by decide +kernel
theorem dX5_init_2166 : decode cX5_init 2166 = .ok (.aload_n 0, 1) := by decide +kernel
theorem dX5_init_2167 : decode cX5_init 2167 = .ok (.bipush 10, 2) := by decide +kernel
theorem dX5_init_2169 : decode cX5_init 2169 = .ok (.bipush 9, 2) := by decide +kernel
theorem dX5_init_2171 : decode cX5_init 2171 = .ok (.bipush 101, 2) := by decide +kernel
theorem dX5_init_2173 : decode cX5_init 2173 = .ok (.invokevirtual 77, 3) := by decide +kernel
theorem dX5_init_2176 : decode cX5_init 2176 = .ok (.aload_n 0, 1) := by decide +kernel
theorem dX5_init_2177 : decode cX5_init 2177 = .ok (.bipush 11, 2) := by decide +kernel
theorem dX5_init_2179 : decode cX5_init 2179 = .ok (.bipush 10, 2) := by decide +kernel
theorem dX5_init_2181 : decode cX5_init 2181 = .ok (.bipush 110, 2) := by decide +kernel
theorem dX5_init_2183 : decode cX5_init 2183 = .ok (.invokevirtual 77, 3) := by decide +kernel
theorem dX5_init_2186 : decode cX5_init 2186 = .ok (.aload_n 0, 1) := by decide +kernel
theorem dX5_init_2187 : decode cX5_init 2187 = .ok (.bipush 11, 2) := by decide +kernel
theorem dX5_init_2189 : decode cX5_init 2189 = .ok (.iconst 4, 1) := by decide +kernel
theorem dX5_init_2190 : decode cX5_init 2190 = .ok (.bipush 111, 2) := by decide +kernel
theorem dX5_init_2192 : decode cX5_init 2192 = .ok (.invokevirtual 77, 3) := by decide +kernel
theorem dX5_init_2195 : decode cX5_init 2195 = .ok (.aload_n 0, 1) := by decide +kernel
theorem dX5_init_2196 : decode cX5_init 2196 = .ok (.bipush 12, 2) := by decide +kernel
theorem dX5_init_2198 : decode cX5_init 2198 = .ok (.bipush 6, 2) := by decide +kernel
theorem dX5_init_2200 : decode cX5_init 2200 = .ok (.bipush 120, 2) := by decide +kernel
theorem dX5_init_2202 : decode cX5_init 2202 = .ok (.invokevirtual 77, 3) := by decide +kernel
theorem dX5_init_2205 : decode cX5_init 2205 = .ok (.aload_n 0, 1) := by decide +kernel
theorem dX5_init_2206 : decode cX5_init 2206 = .ok (.bipush 13, 2) := by decide +kernel
theorem dX5_init_2208 : decode cX5_init 2208 = .ok (.iconst 0, 1) := by decide +kernel
theorem dX5_init_2209 : decode cX5_init 2209 = .ok (.sipush 130, 3) := by decide +kernel
theorem dX5_init_2212 : decode cX5_init 2212 = .ok (.invokevirtual 77, 3) := by decide +kernel
theorem dX5_init_2215 : decode cX5_init 2215 = .ok (.aload_n 0, 1) := by decide +kernel
theorem dX5_init_2216 : decode cX5_init 2216 = .ok (.bipush 13, 2) := by decide +kernel
theorem dX5_init_2218 : decode cX5_init 2218 = .ok (.iconst 1, 1) := by decide +kernel
theorem dX5_init_2219 : decode cX5_init 2219 = .ok (.sipush 131, 3) := by decide +kernel
theorem dX5_init_2222 : decode cX5_init 2222 = .ok (.invokevirtual 77, 3) := by decide +kernel
theorem dX5_init_2225 : decode cX5_init 2225 = .ok (.aload_n 0, 1) := by decide +kernel
theorem dX5_init_2226 : decode cX5_init 2226 = .ok (.bipush 14, 2) := by decide +kernel
theorem dX5_init_2228 : decode cX5_init 2228 = .ok (.iconst 0, 1) := by decide +kernel
theorem dX5_init_2229 : decode cX5_init 2229 = .ok (.sipush 140, 3) := by decide +kernel
theorem dX5_init_2232 : decode cX5_init 2232 = .ok (.invokevirtual 77, 3) := by decide +kernel
theorem dX5_init_2235 : decode cX5_init 2235 = .ok (.aload_n 0, 1) := by decide +kernel
theorem dX5_init_2236 : decode cX5_init 2236 = .ok (.bipush 14, 2) := by decide +kernel
theorem dX5_init_2238 : decode cX5_init 2238 = .ok (.iconst 2, 1) := by decide +kernel
theorem dX5_init_2239 : decode cX5_init 2239 = .ok (.sipush 141, 3) := by decide +kernel
theorem dX5_init_2242 : decode cX5_init 2242 = .ok (.invokevirtual 77, 3) := by decide +kernel
theorem dX5_init_2245 : decode cX5_init 2245 = .ok (.aload_n 0, 1) := by decide +kernel
theorem dX5_init_2246 : decode cX5_init 2246 = .ok (.bipush 14, 2) := by decide +kernel
theorem dX5_init_2248 : decode cX5_init 2248 = .ok (.bipush 10, 2) := by decide +kernel
theorem dX5_init_2250 : decode cX5_init 2250 = .ok (.sipush 142, 3) := by decide +kernel
theorem dX5_init_2253 : decode cX5_init 2253 = .ok (.invokevirtual 77, 3) := by decide +kernel
theorem dX5_init_2256 : decode cX5_init 2256 = .ok (.aload_n 0, 1) := by decide +kernel
theorem dX5_init_2257 : decode cX5_init 2257 = .ok (.bipush 15, 2) := by decide +kernel
theorem dX5_init_2259 : decode cX5_init 2259 = .ok (.iconst 0, 1) := by decide +kernel
theorem dX5_init_2260 : decode cX5_init 2260 = .ok (.sipush 150, 3) := by decide +kernel
theorem dX5_init_2263 : decode cX5_init 2263 = .ok (.invokevirtual 77, 3) := by decide +kernel
theorem dX5_init_2266 : decode cX5_init 2266 = .ok (.aload_n 0, 1) := by decide +kernel
theorem dX5_init_2267 : decode cX5_init 2267 = .ok (.bipush 15, 2) := by decide +kernel
theorem dX5_init_2269 : decode cX5_init 2269 = .ok (.bipush 9, 2) := by decide +kernel
theorem dX5_init_2271 : decode cX5_init 2271 = .ok (.sipush 151, 3) := by decide +kernel
theorem dX5_init_2274 : decode cX5_init 2274 = .ok (.invokevirtual 77, 3) := by decide +kernel
theorem dX5_init_2277 : decode cX5_init 2277 = .ok (.aload_n 0, 1) := by decide +kernel
theorem dX5_init_2278 : decode cX5_init 2278 = .ok (.bipush 15, 2) := by decide +kernel
theorem dX5_init_2280 : decode cX5_init 2280 = .ok (.iconst 4, 1) := by decide +kernel
theorem dX5_init_2281 : decode cX5_init 2281 = .ok (.sipush 152, 3) := by decide +kernel
theorem dX5_init_2284 : decode cX5_init 2284 = .ok (.invokevirtual 77, 3) := by decide +kernel
theorem dX5_init_2287 : decode cX5_init 2287 = .ok (.aload_n 0, 1) := by decide +kernel
theorem dX5_init_2288 : decode cX5_init 2288 = .ok (.bipush 16, 2) := by decide +kernel
theorem dX5_init_2290 : decode cX5_init 2290 = .ok (.iconst 5, 1) := by decide +kernel
theorem dX5_init_2291 : decode cX5_init 2291 = .ok (.sipush 160, 3) := by decide +kernel
theorem dX5_init_2294 : decode cX5_init 2294 = .ok (.invokevirtual 77, 3) := by decide +kernel
theorem dX5_init_2297 : decode cX5_init 2297 = .ok (.aload_n 0, 1) := by decide +kernel
theorem dX5_init_2298 : decode cX5_init 2298 = .ok (.bipush 16, 2) := by decide +kernel
theorem dX5_init_2300 : decode cX5_init 2300 = .ok (.bipush 8, 2) := by decide +kernel
theorem dX5_init_2302 : decode cX5_init 2302 = .ok (.sipush 161, 3) := by decide +kernel
theorem dX5_init_2305 : decode cX5_init 2305 = .ok (.invokevirtual 77, 3) := by decide +kernel
theorem dX5_init_2308 : decode cX5_init 2308 = .ok (.aload_n 0, 1) := by decide +kernel
theorem dX5_init_2309 : decode cX5_init 2309 = .ok (.bipush 16, 2) := by decide +kernel
theorem dX5_init_2311 : decode cX5_init 2311 = .ok (.bipush 9, 2) := by decide +kernel
theorem dX5_init_2313 : decode cX5_init 2313 = .ok (.sipush 163, 3) := by decide +kernel
theorem dX5_init_2316 : decode cX5_init 2316 = .ok (.invokevirtual 77, 3) := by decide +kernel
theorem dX5_init_2319 : decode cX5_init 2319 = .ok (.aload_n 0, 1) := by decide +kernel
theorem dX5_init_2320 : decode cX5_init 2320 = .ok (.bipush 18, 2) := by decide +kernel
theorem dX5_init_2322 : decode cX5_init 2322 = .ok (.bipush 9, 2) := by decide +kernel
theorem dX5_init_2324 : decode cX5_init 2324 = .ok (.sipush 180, 3) := by decide +kernel
theorem dX5_init_2327 : decode cX5_init 2327 = .ok (.invokevirtual 77, 3) := by decide +kernel
theorem dX5_init_2330 : decode cX5_init 2330 = .ok (.aload_n 0, 1) := by decide +kernel
theorem dX5_init_2331 : decode cX5_init 2331 = .ok (.bipush 18, 2) := by decide +kernel
theorem dX5_init_2333 : decode cX5_init 2333 = .ok (.iconst 2, 1) := by decide +kernel
theorem dX5_init_2334 : decode cX5_init 2334 = .ok (.sipush 181, 3) := by decide +kernel
theorem dX5_init_2337 : decode cX5_init 2337 = .ok (.invokevirtual 77, 3) := by decide +kernel
theorem dX5_init_2340 : decode cX5_init 2340 = .ok (.aload_n 0, 1) := by decide +kernel
theorem dX5_init_2341 : decode cX5_init 2341 = .ok (.bipush 19, 2) := by decide +kernel
theorem dX5_init_2343 : decode cX5_init 2343 = .ok (.iconst 0, 1) := by decide +kernel
theorem dX5_init_2344 : decode cX5_init 2344 = .ok (.sipush 190, 3) := by decide +kernel
theorem dX5_init_2347 : decode cX5_init 2347 = .ok (.invokevirtual 77, 3) := by decide +kernel
theorem dX5_init_2350 : decode cX5_init 2350 = .ok (.aload_n 0, 1) := by decide +kernel
theorem dX5_init_2351 : decode cX5_init 2351 = .ok (.bipush 20, 2) := by decide +kernel
theorem dX5_init_2353 : decode cX5_init 2353 = .ok (.bipush 7, 2) := by decide +kernel
theorem dX5_init_2355 : decode cX5_init 2355 = .ok (.sipush 201, 3) := by decide +kernel
theorem dX5_init_2358 : decode cX5_init 2358 = .ok (.invokevirtual 77, 3) := by decide +kernel
theorem dX5_init_2361 : decode cX5_init 2361 = .ok (.aload_n 0, 1) := by decide +kernel
theorem dX5_init_2362 : decode cX5_init 2362 = .ok (.bipush 20, 2) := by decide +kernel
theorem dX5_init_2364 : decode cX5_init 2364 = .ok (.iconst 2, 1) := by decide +kernel
theorem dX5_init_2365 : decode cX5_init 2365 = .ok (.sipush 202, 3) := by decide +kernel
theorem dX5_init_2368 : decode cX5_init 2368 = .ok (.invokevirtual 77, 3) := by decide +kernel
theorem dX5_init_2371 : decode cX5_init 2371 = .ok (.aload_n 0, 1) := by decide +kernel
theorem dX5_init_2372 : decode cX5_init 2372 = .ok (.bipush 20, 2) := by decide +kernel
theorem dX5_init_2374 : decode cX5_init 2374 = .ok (.iconst 5, 1) := by decide +kernel
theorem dX5_init_2375 : decode cX5_init 2375 = .ok (.sipush 204, 3) := by decide +kernel
theorem dX5_init_2378 : decode cX5_init 2378 = .ok (.invokevirtual 77, 3) := by decide +kernel
theorem dX5_init_2381 : decode cX5_init 2381 = .ok (.aload_n 0, 1) := by decide +kernel
theorem dX5_init_2382 : decode cX5_init 2382 = .ok (.getfield 16, 3) := by decide +kernel
theorem dX5_init_2385 : decode cX5_init 2385 = .ok (.bipush 6, 2) := by decide +kernel
theorem dX5_init_2387 : decode cX5_init 2387 = .ok (.iconst (-1), 1) := by decide +kernel
theorem dX5_init_2388 : decode cX5_init 2388 = .ok (.iastore, 1) := by decide +kernel
theorem dX5_init_2389 : decode cX5_init 2389 = .ok (.aload_n 0, 1) := by decide +kernel
theorem dX5_init_2390 : decode cX5_init 2390 = .ok (.bipush 7, 2) := by decide +kernel
theorem dX5_init_2392 : decode cX5_init 2392 = .ok (.bipush 6, 2) := by decide +kernel
theorem dX5_init_2394 : decode cX5_init 2394 = .ok (.iconst 0, 1) := by decide +kernel
theorem dX5_init_2395 : decode cX5_init 2395 = .ok (.invokevirtual 81, 3) := by decide +kernel
theorem dX5_init_2398 : decode cX5_init 2398 = .ok (.aload_n 0, 1) := by decide +kernel
theorem dX5_init_2399 : decode cX5_init 2399 = .ok (.bipush 10, 2) := by decide +kernel
theorem dX5_init_2401 : decode cX5_init 2401 = .ok (.bipush 7, 2) := by decide +kernel
theorem dX5_init_2403 : decode cX5_init 2403 = .ok (.iconst 1, 1) := by decide +kernel
theorem dX5_init_2404 : decode cX5_init 2404 = .ok (.invokestatic 84, 3) := by decide +kernel
theorem dX5_init_2407 : decode cX5_init 2407 = .ok (.invokevirtual 81, 3) := by decide +kernel
theorem dX5_init_2410 : decode cX5_init 2410 = .ok (.aload_n 0, 1) := by decide +kernel
theorem dX5_init_2411 : decode cX5_init 2411 = .ok (.bipush 11, 2) := by decide +kernel
theorem dX5_init_2413 : decode cX5_init 2413 = .ok (.bipush 7, 2) := by decide +kernel
theorem dX5_init_2415 : decode cX5_init 2415 = .ok (.iconst 2, 1) := by decide +kernel
theorem dX5_init_2416 : decode cX5_init 2416 = .ok (.invokestatic 84, 3) := by decide +kernel
theorem dX5_init_2419 : decode cX5_init 2419 = .ok (.invokevirtual 81, 3) := by decide +kernel
theorem dX5_init_2422 : decode cX5_init 2422 = .ok (.aload_n 0, 1) := by decide +kernel
theorem dX5_init_2423 : decode cX5_init 2423 = .ok (.bipush 12, 2) := by decide +kernel
theorem dX5_init_2425 : decode cX5_init 2425 = .ok (.bipush 7, 2) := by decide +kernel
theorem dX5_init_2427 : decode cX5_init 2427 = .ok (.iconst 4, 1) := by decide +kernel
theorem dX5_init_2428 : decode cX5_init 2428 = .ok (.invokestatic 84, 3) := by decide +kernel
theorem dX5_init_2431 : decode cX5_init 2431 = .ok (.invokevirtual 81, 3) := by decide +kernel
theorem dX5_init_2434 : decode cX5_init 2434 = .ok (.aload_n 0, 1) := by decide +kernel
theorem dX5_init_2435 : decode cX5_init 2435 = .ok (.bipush 13, 2) := by decide +kernel
theorem dX5_init_2437 : decode cX5_init 2437 = .ok (.bipush 10, 2) := by decide +kernel
theorem dX5_init_2439 : decode cX5_init 2439 = .ok (.iconst 0, 1) := by decide +kernel
theorem dX5_init_2440 : decode cX5_init 2440 = .ok (.invokevirtual 81, 3) := by decide +kernel
theorem dX5_init_2443 : decode cX5_init 2443 = .ok (.aload_n 0, 1) := by decide +kernel
theorem dX5_init_2444 : decode cX5_init 2444 = .ok (.bipush 14, 2) := by decide +kernel
theorem dX5_init_2446 : decode cX5_init 2446 = .ok (.bipush 11, 2) := by decide +kernel
theorem dX5_init_2448 : decode cX5_init 2448 = .ok (.iconst 1, 1) := by decide +kernel
theorem dX5_init_2449 : decode cX5_init 2449 = .ok (.invokestatic 84, 3) := by decide +kernel
theorem dX5_init_2452 : decode cX5_init 2452 = .ok (.invokevirtual 81, 3) := by decide +kernel
theorem dX5_init_2455 : decode cX5_init 2455 = .ok (.aload_n 0, 1) := by decide +kernel
theorem dX5_init_2456 : decode cX5_init 2456 = .ok (.bipush 15, 2) := by decide +kernel
theorem dX5_init_2458 : decode cX5_init 2458 = .ok (.bipush 12, 2) := by decide +kernel
theorem dX5_init_2460 : decode cX5_init 2460 = .ok (.iconst 3, 1) := by decide +kernel
theorem dX5_init_2461 : decode cX5_init 2461 = .ok (.invokestatic 84, 3) := by decide +kernel
theorem dX5_init_2464 : decode cX5_init 2464 = .ok (.invokevirtual 81, 3) := by decide +kernel
theorem dX5_init_2467 : decode cX5_init 2467 = .ok (.aload_n 0, 1) := by decide +kernel
theorem dX5_init_2468 : decode cX5_init 2468 = .ok (.bipush 16, 2) := by decide +kernel
theorem dX5_init_2470 : decode cX5_init 2470 = .ok (.bipush 7, 2) := by decide +kernel
theorem dX5_init_2472 : decode cX5_init 2472 = .ok (.iconst 5, 1) := by decide +kernel
theorem dX5_init_2473 : decode cX5_init 2473 = .ok (.invokestatic 84, 3) := by decide +kernel
theorem dX5_init_2476 : decode cX5_init 2476 = .ok (.invokevirtual 81, 3) := by decide +kernel
theorem dX5_init_2479 : decode cX5_init 2479 = .ok (.aload_n 0, 1) := by decide +kernel
theorem dX5_init_2480 : decode cX5_init 2480 = .ok (.bipush 17, 2) := by decide +kernel
theorem dX5_init_2482 : decode cX5_init 2482 = .ok (.bipush 12, 2) := by decide +kernel
theorem dX5_init_2484 : decode cX5_init 2484 = .ok (.iconst 5, 1) := by decide +kernel
theorem dX5_init_2485 : decode cX5_init 2485 = .ok (.invokestatic 84, 3) := by decide +kernel
theorem dX5_init_2488 : decode cX5_init 2488 = .ok (.invokevirtual 81, 3) := by decide +kernel
theorem dX5_init_2491 : decode cX5_init 2491 = .ok (.aload_n 0, 1) := by decide +kernel
theorem dX5_init_2492 : decode cX5_init 2492 = .ok (.bipush 18, 2) := by decide +kernel
theorem dX5_init_2494 : decode cX5_init 2494 = .ok (.bipush 13, 2) := by decide +kernel
theorem dX5_init_2496 : decode cX5_init 2496 = .ok (.iconst 0, 1) := by decide +kernel
theorem dX5_init_2497 : decode cX5_init 2497 = .ok (.invokevirtual 81, 3) := by decide +kernel
theorem dX5_init_2500 : decode cX5_init 2500 = .ok (.aload_n 0, 1) := by decide +kernel
theorem dX5_init_2501 : decode cX5_init 2501 = .ok (.bipush 19, 2) := by decide +kernel
theorem dX5_init_2503 : decode cX5_init 2503 = .ok (.bipush 11, 2) := by decide +kernel
theorem dX5_init_2505 : decode cX5_init 2505 = .ok (.iconst 3, 1) := by decide +kernel
theorem dX5_init_2506 : decode cX5_init 2506 = .ok (.invokestatic 84, 3) := by decide +kernel
theorem dX5_init_2509 : decode cX5_init 2509 = .ok (.invokevirtual 81, 3) := by decide +kernel
theorem dX5_init_2512 : decode cX5_init 2512 = .ok (.aload_n 0, 1) := by decide +kernel
theorem dX5_init_2513 : decode cX5_init 2513 = .ok (.bipush 20, 2) := by decide +kernel
theorem dX5_init_2515 : decode cX5_init 2515 = .ok (.bipush 14, 2) := by decide +kernel
theorem dX5_init_2517 : decode cX5_init 2517 = .ok (.iconst 5, 1) := by decide +kernel
theorem dX5_init_2518 : decode cX5_init 2518 = .ok (.invokestatic 84, 3) := by decide +kernel
theorem dX5_init_2521 : decode cX5_init 2521 = .ok (.iconst 3, 1) := by decide +kernel
theorem dX5_init_2522 : decode cX5_init 2522 = .ok (.invokestatic 84, 3) := by decide +kernel
theorem dX5_init_2525 : decode cX5_init 2525 = .ok (.ior, 1) := by decide +kernel
theorem dX5_init_2526 : decode cX5_init 2526 = .ok (.invokevirtual 81, 3) := by decide +kernel
theorem dX5_init_2529 : decode cX5_init 2529 = .ok (.iconst 1, 1) := by decide +kernel
theorem dX5_init_2530 : decode cX5_init 2530 = .ok (.istore_n 1, 1) := by decide +kernel
theorem dX5_init_2531 : decode cX5_init 2531 = .ok (.iload_n 1, 1) := by decide +kernel
theorem dX5_init_2532 : decode cX5_init 2532 = .ok (.bipush 21, 2) := by decide +kernel
theorem dX5_init_2534 : decode cX5_init 2534 = .ok (.if_icmp .ge 60, 3) := by decide +kernel
theorem dX5_init_2537 : decode cX5_init 2537 = .ok (.iconst 0, 1) := by decide +kernel
theorem dX5_init_2538 : decode cX5_init 2538 = .ok (.istore_n 2, 1) := by decide +kernel
theorem dX5_init_2539 : decode cX5_init 2539 = .ok (.iload_n 2, 1) := by decide +kernel
theorem dX5_init_2540 : decode cX5_init 2540 = .ok (.bipush 12, 2) := by decide +kernel
theorem dX5_init_2542 : decode cX5_init 2542 = .ok (.if_icmp .ge 46, 3) := by decide +kernel
theorem dX5_init_2545 : decode cX5_init 2545 = .ok (.aload_n 0, 1) := by decide +kernel
theorem dX5_init_2546 : decode cX5_init 2546 = .ok (.getfield 25, 3) := by decide +kernel
theorem dX5_init_2549 : decode cX5_init 2549 = .ok (.iload_n 1, 1) := by decide +kernel
theorem dX5_init_2550 : decode cX5_init 2550 = .ok (.bipush 12, 2) := by decide +kernel
theorem dX5_init_2552 : decode cX5_init 2552 = .ok (.imul, 1) := by decide +kernel
theorem dX5_init_2553 : decode cX5_init 2553 = .ok (.iload_n 2, 1) := by decide +kernel
theorem dX5_init_2554 : decode cX5_init 2554 = .ok (.iadd, 1) := by decide +kernel
theorem dX5_init_2555 : decode cX5_init 2555 = .ok (.iload_n 1, 1) := by decide +kernel
theorem dX5_init_2556 : decode cX5_init 2556 = .ok (.iconst 5, 1) := by decide +kernel
theorem dX5_init_2557 : decode cX5_init 2557 = .ok (.if_icmp .gt 18, 3) := by decide +kernel
theorem dX5_init_2560 : decode cX5_init 2560 = .ok (.aload_n 0, 1) := by decide +kernel
theorem dX5_init_2561 : decode cX5_init 2561 = .ok (.iload_n 1, 1) := by decide +kernel
theorem dX5_init_2562 : decode cX5_init 2562 = .ok (.invokestatic 84, 3) := by decide +kernel
theorem dX5_init_2565 : decode cX5_init 2565 = .ok (.invokestatic 88, 3) := by decide +kernel
theorem dX5_init_2568 : decode cX5_init 2568 = .ok (.iload_n 2, 1) := by decide +kernel
theorem dX5_init_2569 : decode cX5_init 2569 = .ok (.invokevirtual 91, 3) := by decide +kernel
theorem dX5_init_2572 : decode cX5_init 2572 = .ok (.goto 9, 3) := by decide +kernel
theorem dX5_init_2575 : decode cX5_init 2575 = .ok (.aload_n 0, 1) := by decide +kernel
theorem dX5_init_2576 : decode cX5_init 2576 = .ok (.iload_n 1, 1) := by decide +kernel
theorem dX5_init_2577 : decode cX5_init 2577 = .ok (.iload_n 2, 1) := by decide +kernel
theorem dX5_init_2578 : decode cX5_init 2578 = .ok (.invokevirtual 95, 3) := by decide +kernel
theorem dX5_init_2581 : decode cX5_init 2581 = .ok (.iastore, 1) := by decide +kernel
theorem dX5_init_2582 : decode cX5_init 2582 = .ok (.iinc 2 1, 3) := by decide +kernel
theorem dX5_init_2585 : decode cX5_init 2585 = .ok (.goto (-46), 3) := by decide +kernel
theorem dX5_init_2588 : decode cX5_init 2588 = .ok (.iinc 1 1, 3) := by decide +kernel
theorem dX5_init_2591 : decode cX5_init 2591 = .ok (.goto (-60), 3) := by decide +kernel
theorem dX5_init_2594 : decode cX5_init 2594 = .ok (.aload_n 0, 1) := by decide +kernel
theorem dX5_init_2595 : decode cX5_init 2595 = .ok (.getfield 28, 3) := by decide +kernel
theorem dX5_init_2598 : decode cX5_init 2598 = .ok (.iconst 1, 1) := by decide +kernel
theorem dX5_init_2599 : decode cX5_init 2599 = .ok (.iconst 3, 1) := by decide +kernel
theorem dX5_init_2600 : decode cX5_init 2600 = .ok (.invokestatic 84, 3) := by decide +kernel
theorem dX5_init_2603 : decode cX5_init 2603 = .ok (.iconst 5, 1) := by decide +kernel
theorem dX5_init_2604 : decode cX5_init 2604 = .ok (.invokestatic 84, 3) := by decide +kernel
theorem dX5_init_2607 : decode cX5_init 2607 = .ok (.ior, 1) := by decide +kernel
theorem dX5_init_2608 : decode cX5_init 2608 = .ok (.bipush 9, 2) := by decide +kernel
theorem dX5_init_2610 : decode cX5_init 2610 = .ok (.invokestatic 84, 3) := by decide +kernel
theorem dX5_init_2613 : decode cX5_init 2613 = .ok (.ior, 1) := by decide +kernel
theorem dX5_init_2614 : decode cX5_init 2614 = .ok (.bipush 10, 2) := by decide +kernel
theorem dX5_init_2616 : decode cX5_init 2616 = .ok (.invokestatic 84, 3) := by decide +kernel
theorem dX5_init_2619 : decode cX5_init 2619 = .ok (.ior, 1) := by decide +kernel
theorem dX5_init_2620 : decode cX5_init 2620 = .ok (.bipush 11, 2) := by decide +kernel
theorem dX5_init_2622 : decode cX5_init 2622 = .ok (.invokestatic 84, 3) := by decide +kernel
theorem dX5_init_2625 : decode cX5_init 2625 = .ok (.ior, 1) := by decide +kernel
theorem dX5_init_2626 : decode cX5_init 2626 = .ok (.iastore, 1) := by decide +kernel
theorem dX5_init_2627 : decode cX5_init 2627 = .ok (.aload_n 0, 1) := by decide +kernel
theorem dX5_init_2628 : decode cX5_init 2628 = .ok (.getfield 28, 3) := by decide +kernel
theorem dX5_init_2631 : decode cX5_init 2631 = .ok (.iconst 2, 1) := by decide +kernel
theorem dX5_init_2632 : decode cX5_init 2632 = .ok (.iconst 0, 1) := by decide +kernel
theorem dX5_init_2633 : decode cX5_init 2633 = .ok (.invokestatic 84, 3) := by decide +kernel
theorem dX5_init_2636 : decode cX5_init 2636 = .ok (.iconst 1, 1) := by decide +kernel
theorem dX5_init_2637 : decode cX5_init 2637 = .ok (.invokestatic 84, 3) := by decide +kernel
theorem dX5_init_2640 : decode cX5_init 2640 = .ok (.ior, 1) := by decide +kernel
theorem dX5_init_2641 : decode cX5_init 2641 = .ok (.iconst 2, 1) := by decide +kernel
theorem dX5_init_2642 : decode cX5_init 2642 = .ok (.invokestatic 84, 3) := by decide +kernel
theorem dX5_init_2645 : decode cX5_init 2645 = .ok (.ior, 1) := by decide +kernel
theorem dX5_init_2646 : decode cX5_init 2646 = .ok (.iastore, 1) := by decide +kernel
theorem dX5_init_2647 : decode cX5_init 2647 = .ok (.aload_n 0, 1) := by decide +kernel
theorem dX5_init_2648 : decode cX5_init 2648 = .ok (.getfield 28, 3) := by decide +kernel
theorem dX5_init_2651 : decode cX5_init 2651 = .ok (.iconst 3, 1) := by decide +kernel
theorem dX5_init_2652 : decode cX5_init 2652 = .ok (.iconst 3, 1) := by decide +kernel
theorem dX5_init_2653 : decode cX5_init 2653 = .ok (.invokestatic 84, 3) := by decide +kernel
theorem dX5_init_2656 : decode cX5_init 2656 = .ok (.iconst 4, 1) := by decide +kernel
theorem dX5_init_2657 : decode cX5_init 2657 = .ok (.invokestatic 84, 3) := by decide +kernel
theorem dX5_init_2660 : decode cX5_init 2660 = .ok (.ior, 1) := by decide +kernel
theorem dX5_init_2661 : decode cX5_init 2661 = .ok (.iconst 2, 1) := by decide +kernel
theorem dX5_init_2662 : decode cX5_init 2662 = .ok (.invokestatic 84, 3) := by decide +kernel
theorem dX5_init_2665 : decode cX5_init 2665 = .ok (.ior, 1) := by decide +kernel
theorem dX5_init_2666 : decode cX5_init 2666 = .ok (.iastore, 1) := by decide +kernel
theorem dX5_init_2667 : decode cX5_init 2667 = .ok (.aload_n 0, 1) := by decide +kernel
theorem dX5_init_2668 : decode cX5_init 2668 = .ok (.getfield 28, 3) := by decide +kernel
theorem dX5_init_2671 : decode cX5_init 2671 = .ok (.iconst 4, 1) := by decide +kernel
theorem dX5_init_2672 : decode cX5_init 2672 = .ok (.aload_n 0, 1) := by decide +kernel
theorem dX5_init_2673 : decode cX5_init 2673 = .ok (.getfield 28, 3) := by decide +kernel
theorem dX5_init_2676 : decode cX5_init 2676 = .ok (.iconst 2, 1) := by decide +kernel
theorem dX5_init_2677 : decode cX5_init 2677 = .ok (.iaload, 1) := by decide +kernel
theorem dX5_init_2678 : decode cX5_init 2678 = .ok (.aload_n 0, 1) := by decide +kernel
theorem dX5_init_2679 : decode cX5_init 2679 = .ok (.getfield 28, 3) := by decide +kernel
theorem dX5_init_2682 : decode cX5_init 2682 = .ok (.iconst 3, 1) := by decide +kernel
theorem dX5_init_2683 : decode cX5_init 2683 = .ok (.iaload, 1) := by decide +kernel
theorem dX5_init_2684 : decode cX5_init 2684 = .ok (.ior, 1) := by decide +kernel
theorem dX5_init_2685 : decode cX5_init 2685 = .ok (.iastore, 1) := by decide +kernel
theorem dX5_init_2686 : decode cX5_init 2686 = .ok (.aload_n 0, 1) := by decide +kernel
theorem dX5_init_2687 : decode cX5_init 2687 = .ok (.getfield 28, 3) := by decide +kernel
theorem dX5_init_2690 : decode cX5_init 2690 = .ok (.iconst 5, 1) := by decide +kernel
theorem dX5_init_2691 : decode cX5_init 2691 = .ok (.iconst 5, 1) := by decide +kernel
theorem dX5_init_2692 : decode cX5_init 2692 = .ok (.invokestatic 84, 3) := by decide +kernel
theorem dX5_init_2695 : decode cX5_init 2695 = .ok (.bipush 6, 2) := by decide +kernel
theorem dX5_init_2697 : decode cX5_init 2697 = .ok (.invokestatic 84, 3) := by decide +kernel
theorem dX5_init_2700 : decode cX5_init 2700 = .ok (.ior, 1) := by decide +kernel
theorem dX5_init_2701 : decode cX5_init 2701 = .ok (.bipush 7, 2) := by decide +kernel
theorem dX5_init_2703 : decode cX5_init 2703 = .ok (.invokestatic 84, 3) := by decide +kernel
theorem dX5_init_2706 : decode cX5_init 2706 = .ok (.ior, 1) := by decide +kernel
theorem dX5_init_2707 : decode cX5_init 2707 = .ok (.iastore, 1) := by decide +kernel
theorem dX5_init_2708 : decode cX5_init 2708 = .ok (.aload_n 0, 1) := by decide +kernel
theorem dX5_init_2709 : decode cX5_init 2709 = .ok (.getfield 28, 3) := by decide +kernel
theorem dX5_init_2712 : decode cX5_init 2712 = .ok (.bipush 6, 2) := by decide +kernel
theorem dX5_init_2714 : decode cX5_init 2714 = .ok (.aload_n 0, 1) := by decide +kernel
theorem dX5_init_2715 : decode cX5_init 2715 = .ok (.getfield 28, 3) := by decide +kernel
theorem dX5_init_2718 : decode cX5_init 2718 = .ok (.iconst 5, 1) := by decide +kernel
theorem dX5_init_2719 : decode cX5_init 2719 = .ok (.iaload, 1) := by decide +kernel
theorem dX5_init_2720 : decode cX5_init 2720 = .ok (.bipush 8, 2) := by decide +kernel
theorem dX5_init_2722 : decode cX5_init 2722 = .ok (.invokestatic 84, 3) := by decide +kernel
theorem dX5_init_2725 : decode cX5_init 2725 = .ok (.ior, 1) := by decide +kernel
theorem dX5_init_2726 : decode cX5_init 2726 = .ok (.iastore, 1) := by decide +kernel
theorem dX5_init_2727 : decode cX5_init 2727 = .ok (.iconst 0, 1) := by decide +kernel
theorem dX5_init_2728 : decode cX5_init 2728 = .ok (.istore_n 1, 1) := by decide +kernel
theorem dX5_init_2729 : decode cX5_init 2729 = .ok (.iload_n 1, 1) := by decide +kernel
theorem dX5_init_2730 : decode cX5_init 2730 = .ok (.bipush 11, 2) := by decide +kernel
theorem dX5_init_2732 : decode cX5_init 2732 = .ok (.if_icmp .ge 68, 3) := by decide +kernel
theorem dX5_init_2735 : decode cX5_init 2735 = .ok (.aload_n 0, 1) := by decide +kernel
theorem dX5_init_2736 : decode cX5_init 2736 = .ok (.getfield 31, 3) := by decide +kernel
theorem dX5_init_2739 : decode cX5_init 2739 = .ok (.iload_n 1, 1) := by decide +kernel
theorem dX5_init_2740 : decode cX5_init 2740 = .ok (.aload_n 0, 1) := by decide +kernel
theorem dX5_init_2741 : decode cX5_init 2741 = .ok (.getfield 28, 3) := by decide +kernel
theorem dX5_init_2744 : decode cX5_init 2744 = .ok (.iconst 1, 1) := by decide +kernel
theorem dX5_init_2745 : decode cX5_init 2745 = .ok (.iaload, 1) := by decide +kernel
theorem dX5_init_2746 : decode cX5_init 2746 = .ok (.iastore, 1) := by decide +kernel
theorem dX5_init_2747 : decode cX5_init 2747 = .ok (.iconst 1, 1) := by decide +kernel
theorem dX5_init_2748 : decode cX5_init 2748 = .ok (.istore_n 2, 1) := by decide +kernel
theorem dX5_init_2749 : decode cX5_init 2749 = .ok (.iload_n 2, 1) := by decide +kernel
theorem dX5_init_2750 : decode cX5_init 2750 = .ok (.iconst 5, 1) := by decide +kernel
theorem dX5_init_2751 : decode cX5_init 2751 = .ok (.if_icmp .gt 43, 3) := by decide +kernel
theorem dX5_init_2754 : decode cX5_init 2754 = .ok (.aload_n 0, 1) := by decide +kernel
theorem dX5_init_2755 : decode cX5_init 2755 = .ok (.getfield 19, 3) := by decide +kernel
theorem dX5_init_2758 : decode cX5_init 2758 = .ok (.bipush 10, 2) := by decide +kernel
theorem dX5_init_2760 : decode cX5_init 2760 = .ok (.iload_n 1, 1) := by decide +kernel
theorem dX5_init_2761 : decode cX5_init 2761 = .ok (.iadd, 1) := by decide +kernel
theorem dX5_init_2762 : decode cX5_init 2762 = .ok (.iaload, 1) := by decide +kernel
theorem dX5_init_2763 : decode cX5_init 2763 = .ok (.iload_n 2, 1) := by decide +kernel
theorem dX5_init_2764 : decode cX5_init 2764 = .ok (.invokestatic 84, 3) := by decide +kernel
theorem dX5_init_2767 : decode cX5_init 2767 = .ok (.iand, 1) := by decide +kernel
theorem dX5_init_2768 : decode cX5_init 2768 = .ok (.ifCond .eq 20, 3) := by decide +kernel
theorem dX5_init_2771 : decode cX5_init 2771 = .ok (.aload_n 0, 1) := by decide +kernel
theorem dX5_init_2772 : decode cX5_init 2772 = .ok (.getfield 31, 3) := by decide +kernel
theorem dX5_init_2775 : decode cX5_init 2775 = .ok (.iload_n 1, 1) := by decide +kernel
theorem dX5_init_2776 : decode cX5_init 2776 = .ok (.dup2, 1) := by decide +kernel
theorem dX5_init_2777 : decode cX5_init 2777 = .ok (.iaload, 1) := by decide +kernel
theorem dX5_init_2778 : decode cX5_init 2778 = .ok (.aload_n 0, 1) := by decide +kernel
theorem dX5_init_2779 : decode cX5_init 2779 = .ok (.getfield 28, 3) := by decide +kernel
theorem dX5_init_2782 : decode cX5_init 2782 = .ok (.iconst 1, 1) := by decide +kernel
theorem dX5_init_2783 : decode cX5_init 2783 = .ok (.iload_n 2, 1) := by decide +kernel
theorem dX5_init_2784 : decode cX5_init 2784 = .ok (.iadd, 1) := by decide +kernel
theorem dX5_init_2785 : decode cX5_init 2785 = .ok (.iaload, 1) := by decide +kernel
theorem dX5_init_2786 : decode cX5_init 2786 = .ok (.ior, 1) := by decide +kernel
theorem dX5_init_2787 : decode cX5_init 2787 = .ok (.iastore, 1) := by decide +kernel
theorem dX5_init_2788 : decode cX5_init 2788 = .ok (.iinc 2 1, 3) := by decide +kernel
theorem dX5_init_2791 : decode cX5_init 2791 = .ok (.goto (-42), 3) := by decide +kernel
theorem dX5_init_2794 : decode cX5_init 2794 = .ok (.iinc 1 1, 3) := by decide +kernel
theorem dX5_init_2797 : decode cX5_init 2797 = .ok (.goto (-68), 3) := by decide +kernel
theorem dX5_init_2800 : decode cX5_init 2800 = .ok (.return_, 1) := by decide +kernel
