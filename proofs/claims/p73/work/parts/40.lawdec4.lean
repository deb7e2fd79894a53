theorem dL_law_1862 : decode cL_law 1862 = .ok (.iload_n 3, 1) := by decide +kernel
theorem dL_law_1863 : decode cL_law 1863 = .ok (.iconst 1, 1) := by decide +kernel
theorem dL_law_1864 : decode cL_law 1864 = .ok (.iadd, 1) := by decide +kernel
theorem dL_law_1865 : decode cL_law 1865 = .ok (.iaload, 1) := by decide +kernel
theorem dL_law_1866 : decode cL_law 1866 = .ok (.aload_n 0, 1) := by decide +kernel
theorem dL_law_1867 : decode cL_law 1867 = .ok (.iload_n 3, 1) := by decide +kernel
theorem dL_law_1868 : decode cL_law 1868 = .ok (.iconst 2, 1) := by decide +kernel
theorem dL_law_1869 : decode cL_law 1869 = .ok (.iadd, 1) := by decide +kernel
theorem dL_law_1870 : decode cL_law 1870 = .ok (.iaload, 1) := by decide +kernel
theorem dL_law_1871 : decode cL_law 1871 = .ok (.invokevirtual 250, 3) := by decide +kernel
theorem dL_law_1874 : decode cL_law 1874 = .ok (.pop, 1) := by decide +kernel
theorem dL_law_1875 : decode cL_law 1875 = .ok (.aload_n 2, 1) := by decide +kernel
theorem dL_law_1876 : decode cL_law 1876 = .ok (.aload_n 0, 1) := by decide +kernel
theorem dL_law_1877 : decode cL_law 1877 = .ok (.iload_n 3, 1) := by decide +kernel
theorem dL_law_1878 : decode cL_law 1878 = .ok (.iconst 1, 1) := by decide +kernel
theorem dL_law_1879 : decode cL_law 1879 = .ok (.iadd, 1) := by decide +kernel
theorem dL_law_1880 : decode cL_law 1880 = .ok (.iaload, 1) := by decide +kernel
theorem dL_law_1881 : decode cL_law 1881 = .ok (.aload_n 0, 1) := by decide +kernel
theorem dL_law_1882 : decode cL_law 1882 = .ok (.iload_n 3, 1) := by decide +kernel
theorem dL_law_1883 : decode cL_law 1883 = .ok (.iconst 2, 1) := by decide +kernel
theorem dL_law_1884 : decode cL_law 1884 = .ok (.iadd, 1) := by decide +kernel
theorem dL_law_1885 : decode cL_law 1885 = .ok (.iaload, 1) := by decide +kernel
theorem dL_law_1886 : decode cL_law 1886 = .ok (.invokevirtual 253, 3) := by decide +kernel
theorem dL_law_1889 : decode cL_law 1889 = .ok (.pop, 1) := by decide +kernel
theorem dL_law_1890 : decode cL_law 1890 = .ok (.goto 472, 3) := by decide +kernel
theorem dL_law_1893 : decode cL_law 1893 = .ok (.aload_n 1, 1) := by decide +kernel
theorem dL_law_1894 : decode cL_law 1894 = .ok (.aload_n 0, 1) := by decide +kernel
theorem dL_law_1895 : decode cL_law 1895 = .ok (.iload_n 3, 1) := by decide +kernel
theorem dL_law_1896 : decode cL_law 1896 = .ok (.iconst 1, 1) := by decide +kernel
theorem dL_law_1897 : decode cL_law 1897 = .ok (.iadd, 1) := by decide +kernel
theorem dL_law_1898 : decode cL_law 1898 = .ok (.iaload, 1) := by decide +kernel
theorem dL_law_1899 : decode cL_law 1899 = .ok (.aload_n 0, 1) := by decide +kernel
theorem dL_law_1900 : decode cL_law 1900 = .ok (.iload_n 3, 1) := by decide +kernel
theorem dL_law_1901 : decode cL_law 1901 = .ok (.iconst 2, 1) := by decide +kernel
theorem dL_law_1902 : decode cL_law 1902 = .ok (.iadd, 1) := by decide +kernel
theorem dL_law_1903 : decode cL_law 1903 = .ok (.iaload, 1) := by decide +kernel
theorem dL_law_1904 : decode cL_law 1904 = .ok (.invokevirtual 254, 3) := by decide +kernel
theorem dL_law_1907 : decode cL_law 1907 = .ok (.pop, 1) := by decide +kernel
theorem dL_law_1908 : decode cL_law 1908 = .ok (.aload_n 2, 1) := by decide +kernel
theorem dL_law_1909 : decode cL_law 1909 = .ok (.aload_n 0, 1) := by decide +kernel
theorem dL_law_1910 : decode cL_law 1910 = .ok (.iload_n 3, 1) := by decide +kernel
theorem dL_law_1911 : decode cL_law 1911 = .ok (.iconst 1, 1) := by decide +kernel
theorem dL_law_1912 : decode cL_law 1912 = .ok (.iadd, 1) := by decide +kernel
theorem dL_law_1913 : decode cL_law 1913 = .ok (.iaload, 1) := by decide +kernel
theorem dL_law_1914 : decode cL_law 1914 = .ok (.aload_n 0, 1) := by decide +kernel
theorem dL_law_1915 : decode cL_law 1915 = .ok (.iload_n 3, 1) := by decide +kernel
theorem dL_law_1916 : decode cL_law 1916 = .ok (.iconst 2, 1) := by decide +kernel
theorem dL_law_1917 : decode cL_law 1917 = .ok (.iadd, 1) := by decide +kernel
theorem dL_law_1918 : decode cL_law 1918 = .ok (.iaload, 1) := by decide +kernel
theorem dL_law_1919 : decode cL_law 1919 = .ok (.invokevirtual 257, 3) := by decide +kernel
theorem dL_law_1922 : decode cL_law 1922 = .ok (.pop, 1) := by decide +kernel
theorem dL_law_1923 : decode cL_law 1923 = .ok (.goto 439, 3) := by decide +kernel
theorem dL_law_1926 : decode cL_law 1926 = .ok (.aload_n 1, 1) := by decide +kernel
theorem dL_law_1927 : decode cL_law 1927 = .ok (.aload_n 0, 1) := by decide +kernel
theorem dL_law_1928 : decode cL_law 1928 = .ok (.iload_n 3, 1) := by decide +kernel
theorem dL_law_1929 : decode cL_law 1929 = .ok (.iconst 1, 1) := by decide +kernel
theorem dL_law_1930 : decode cL_law 1930 = .ok (.iadd, 1) := by decide +kernel
theorem dL_law_1931 : decode cL_law 1931 = .ok (.iaload, 1) := by decide +kernel
theorem dL_law_1932 : decode cL_law 1932 = .ok (.aload_n 0, 1) := by decide +kernel
theorem dL_law_1933 : decode cL_law 1933 = .ok (.iload_n 3, 1) := by decide +kernel
theorem dL_law_1934 : decode cL_law 1934 = .ok (.iconst 2, 1) := by decide +kernel
theorem dL_law_1935 : decode cL_law 1935 = .ok (.iadd, 1) := by decide +kernel
theorem dL_law_1936 : decode cL_law 1936 = .ok (.iaload, 1) := by decide +kernel
theorem dL_law_1937 : decode cL_law 1937 = .ok (.aload_n 0, 1) := by decide +kernel
theorem dL_law_1938 : decode cL_law 1938 = .ok (.iload_n 3, 1) := by decide +kernel
theorem dL_law_1939 : decode cL_law 1939 = .ok (.iconst 3, 1) := by decide +kernel
theorem dL_law_1940 : decode cL_law 1940 = .ok (.iadd, 1) := by decide +kernel
theorem dL_law_1941 : decode cL_law 1941 = .ok (.iaload, 1) := by decide +kernel
theorem dL_law_1942 : decode cL_law 1942 = .ok (.invokevirtual 258, 3) := by decide +kernel
theorem dL_law_1945 : decode cL_law 1945 = .ok (.pop, 1) := by decide +kernel
theorem dL_law_1946 : decode cL_law 1946 = .ok (.aload_n 2, 1) := by decide +kernel
theorem dL_law_1947 : decode cL_law 1947 = .ok (.aload_n 0, 1) := by decide +kernel
theorem dL_law_1948 : decode cL_law 1948 = .ok (.iload_n 3, 1) := by decide +kernel
theorem dL_law_1949 : decode cL_law 1949 = .ok (.iconst 1, 1) := by decide +kernel
theorem dL_law_1950 : decode cL_law 1950 = .ok (.iadd, 1) := by decide +kernel
theorem dL_law_1951 : decode cL_law 1951 = .ok (.iaload, 1) := by decide +kernel
theorem dL_law_1952 : decode cL_law 1952 = .ok (.aload_n 0, 1) := by decide +kernel
theorem dL_law_1953 : decode cL_law 1953 = .ok (.iload_n 3, 1) := by decide +kernel
theorem dL_law_1954 : decode cL_law 1954 = .ok (.iconst 2, 1) := by decide +kernel
theorem dL_law_1955 : decode cL_law 1955 = .ok (.iadd, 1) := by decide +kernel
theorem dL_law_1956 : decode cL_law 1956 = .ok (.iaload, 1) := by decide +kernel
theorem dL_law_1957 : decode cL_law 1957 = .ok (.aload_n 0, 1) := by decide +kernel
theorem dL_law_1958 : decode cL_law 1958 = .ok (.iload_n 3, 1) := by decide +kernel
theorem dL_law_1959 : decode cL_law 1959 = .ok (.iconst 3, 1) := by decide +kernel
theorem dL_law_1960 : decode cL_law 1960 = .ok (.iadd, 1) := by decide +kernel
theorem dL_law_1961 : decode cL_law 1961 = .ok (.iaload, 1) := by decide +kernel
theorem dL_law_1962 : decode cL_law 1962 = .ok (.invokevirtual 261, 3) := by decide +kernel
theorem dL_law_1965 : decode cL_law 1965 = .ok (.pop, 1) := by decide +kernel
theorem dL_law_1966 : decode cL_law 1966 = .ok (.goto 396, 3) := by decide +kernel
theorem dL_law_1969 : decode cL_law 1969 = .ok (.aload_n 1, 1) := by decide +kernel
theorem dL_law_1970 : decode cL_law 1970 = .ok (.invokevirtual 262, 3) := by decide +kernel
theorem dL_law_1973 : decode cL_law 1973 = .ok (.pop, 1) := by decide +kernel
theorem dL_law_1974 : decode cL_law 1974 = .ok (.aload_n 2, 1) := by decide +kernel
theorem dL_law_1975 : decode cL_law 1975 = .ok (.invokevirtual 265, 3) := by decide +kernel
theorem dL_law_1978 : decode cL_law 1978 = .ok (.pop, 1) := by decide +kernel
theorem dL_law_1979 : decode cL_law 1979 = .ok (.goto 383, 3) := by decide +kernel
theorem dL_law_1982 : decode cL_law 1982 = .ok (.aload_n 1, 1) := by decide +kernel
theorem dL_law_1983 : decode cL_law 1983 = .ok (.invokevirtual 266, 3) := by decide +kernel
theorem dL_law_1986 : decode cL_law 1986 = .ok (.pop, 1) := by decide +kernel
theorem dL_law_1987 : decode cL_law 1987 = .ok (.aload_n 2, 1) := by decide +kernel
theorem dL_law_1988 : decode cL_law 1988 = .ok (.invokevirtual 269, 3) := by decide +kernel
theorem dL_law_1991 : decode cL_law 1991 = .ok (.pop, 1) := by decide +kernel
theorem dL_law_1992 : decode cL_law 1992 = .ok (.goto 370, 3) := by decide +kernel
theorem dL_law_1995 : decode cL_law 1995 = .ok (.aload_n 1, 1) := by decide +kernel
theorem dL_law_1996 : decode cL_law 1996 = .ok (.aload_n 0, 1) := by decide +kernel
theorem dL_law_1997 : decode cL_law 1997 = .ok (.iload_n 3, 1) := by decide +kernel
theorem dL_law_1998 : decode cL_law 1998 = .ok (.iconst 1, 1) := by decide +kernel
theorem dL_law_1999 : decode cL_law 1999 = .ok (.iadd, 1) := by decide +kernel
theorem dL_law_2000 : decode cL_law 2000 = .ok (.iaload, 1) := by decide +kernel
theorem dL_law_2001 : decode cL_law 2001 = .ok (.aload_n 0, 1) := by decide +kernel
theorem dL_law_2002 : decode cL_law 2002 = .ok (.iload_n 3, 1) := by decide +kernel
theorem dL_law_2003 : decode cL_law 2003 = .ok (.iconst 2, 1) := by decide +kernel
theorem dL_law_2004 : decode cL_law 2004 = .ok (.iadd, 1) := by decide +kernel
theorem dL_law_2005 : decode cL_law 2005 = .ok (.iaload, 1) := by decide +kernel
theorem dL_law_2006 : decode cL_law 2006 = .ok (.invokevirtual 270, 3) := by decide +kernel
theorem dL_law_2009 : decode cL_law 2009 = .ok (.pop, 1) := by decide +kernel
theorem dL_law_2010 : decode cL_law 2010 = .ok (.aload_n 2, 1) := by decide +kernel
theorem dL_law_2011 : decode cL_law 2011 = .ok (.aload_n 0, 1) := by decide +kernel
theorem dL_law_2012 : decode cL_law 2012 = .ok (.iload_n 3, 1) := by decide +kernel
theorem dL_law_2013 : decode cL_law 2013 = .ok (.iconst 1, 1) := by decide +kernel
theorem dL_law_2014 : decode cL_law 2014 = .ok (.iadd, 1) := by decide +kernel
theorem dL_law_2015 : decode cL_law 2015 = .ok (.iaload, 1) := by decide +kernel
theorem dL_law_2016 : decode cL_law 2016 = .ok (.aload_n 0, 1) := by decide +kernel
theorem dL_law_2017 : decode cL_law 2017 = .ok (.iload_n 3, 1) := by decide +kernel
theorem dL_law_2018 : decode cL_law 2018 = .ok (.iconst 2, 1) := by decide +kernel
theorem dL_law_2019 : decode cL_law 2019 = .ok (.iadd, 1) := by decide +kernel
theorem dL_law_2020 : decode cL_law 2020 = .ok (.iaload, 1) := by decide +kernel
theorem dL_law_2021 : decode cL_law 2021 = .ok (.invokevirtual 273, 3) := by decide +kernel
theorem dL_law_2024 : decode cL_law 2024 = .ok (.pop, 1) := by decide +kernel
theorem dL_law_2025 : decode cL_law 2025 = .ok (.goto 337, 3) := by decide +kernel
theorem dL_law_2028 : decode cL_law 2028 = .ok (.aload_n 1, 1) := by decide +kernel
theorem dL_law_2029 : decode cL_law 2029 = .ok (.aload_n 0, 1) := by decide +kernel
theorem dL_law_2030 : decode cL_law 2030 = .ok (.iload_n 3, 1) := by decide +kernel
theorem dL_law_2031 : decode cL_law 2031 = .ok (.iconst 1, 1) := by decide +kernel
theorem dL_law_2032 : decode cL_law 2032 = .ok (.iadd, 1) := by decide +kernel
theorem dL_law_2033 : decode cL_law 2033 = .ok (.iaload, 1) := by decide +kernel
theorem dL_law_2034 : decode cL_law 2034 = .ok (.aload_n 0, 1) := by decide +kernel
theorem dL_law_2035 : decode cL_law 2035 = .ok (.iload_n 3, 1) := by decide +kernel
theorem dL_law_2036 : decode cL_law 2036 = .ok (.iconst 2, 1) := by decide +kernel
theorem dL_law_2037 : decode cL_law 2037 = .ok (.iadd, 1) := by decide +kernel
theorem dL_law_2038 : decode cL_law 2038 = .ok (.iaload, 1) := by decide +kernel
theorem dL_law_2039 : decode cL_law 2039 = .ok (.aload_n 0, 1) := by decide +kernel
theorem dL_law_2040 : decode cL_law 2040 = .ok (.iload_n 3, 1) := by decide +kernel
theorem dL_law_2041 : decode cL_law 2041 = .ok (.iconst 3, 1) := by decide +kernel
theorem dL_law_2042 : decode cL_law 2042 = .ok (.iadd, 1) := by decide +kernel
theorem dL_law_2043 : decode cL_law 2043 = .ok (.iaload, 1) := by decide +kernel
theorem dL_law_2044 : decode cL_law 2044 = .ok (.aload_n 0, 1) := by decide +kernel
theorem dL_law_2045 : decode cL_law 2045 = .ok (.iload_n 3, 1) := by decide +kernel
theorem dL_law_2046 : decode cL_law 2046 = .ok (.iconst 4, 1) := by decide +kernel
theorem dL_law_2047 : decode cL_law 2047 = .ok (.iadd, 1) := by decide +kernel
theorem dL_law_2048 : decode cL_law 2048 = .ok (.iaload, 1) := by decide +kernel
theorem dL_law_2049 : decode cL_law 2049 = .ok (.invokevirtual 274, 3) := by decide +kernel
theorem dL_law_2052 : decode cL_law 2052 = .ok (.pop, 1) := by decide +kernel
theorem dL_law_2053 : decode cL_law 2053 = .ok (.aload_n 2, 1) := by decide +kernel
theorem dL_law_2054 : decode cL_law 2054 = .ok (.aload_n 0, 1) := by decide +kernel
theorem dL_law_2055 : decode cL_law 2055 = .ok (.iload_n 3, 1) := by decide +kernel
theorem dL_law_2056 : decode cL_law 2056 = .ok (.iconst 1, 1) := by decide +kernel
theorem dL_law_2057 : decode cL_law 2057 = .ok (.iadd, 1) := by decide +kernel
theorem dL_law_2058 : decode cL_law 2058 = .ok (.iaload, 1) := by decide +kernel
theorem dL_law_2059 : decode cL_law 2059 = .ok (.aload_n 0, 1) := by decide +kernel
theorem dL_law_2060 : decode cL_law 2060 = .ok (.iload_n 3, 1) := by decide +kernel
theorem dL_law_2061 : decode cL_law 2061 = .ok (.iconst 2, 1) := by decide +kernel
theorem dL_law_2062 : decode cL_law 2062 = .ok (.iadd, 1) := by decide +kernel
theorem dL_law_2063 : decode cL_law 2063 = .ok (.iaload, 1) := by decide +kernel
theorem dL_law_2064 : decode cL_law 2064 = .ok (.aload_n 0, 1) := by decide +kernel
theorem dL_law_2065 : decode cL_law 2065 = .ok (.iload_n 3, 1) := by decide +kernel
theorem dL_law_2066 : decode cL_law 2066 = .ok (.iconst 3, 1) := by decide +kernel
theorem dL_law_2067 : decode cL_law 2067 = .ok (.iadd, 1) := by decide +kernel
theorem dL_law_2068 : decode cL_law 2068 = .ok (.iaload, 1) := by decide +kernel
theorem dL_law_2069 : decode cL_law 2069 = .ok (.aload_n 0, 1) := by decide +kernel
theorem dL_law_2070 : decode cL_law 2070 = .ok (.iload_n 3, 1) := by decide +kernel
theorem dL_law_2071 : decode cL_law 2071 = .ok (.iconst 4, 1) := by decide +kernel
theorem dL_law_2072 : decode cL_law 2072 = .ok (.iadd, 1) := by decide +kernel
theorem dL_law_2073 : decode cL_law 2073 = .ok (.iaload, 1) := by decide +kernel
theorem dL_law_2074 : decode cL_law 2074 = .ok (.invokevirtual 278, 3) := by decide +kernel
theorem dL_law_2077 : decode cL_law 2077 = .ok (.pop, 1) := by decide +kernel
theorem dL_law_2078 : decode cL_law 2078 = .ok (.goto 284, 3) := by decide +kernel
theorem dL_law_2081 : decode cL_law 2081 = .ok (.aload_n 1, 1) := by decide +kernel
theorem dL_law_2082 : decode cL_law 2082 = .ok (.aload_n 0, 1) := by decide +kernel
theorem dL_law_2083 : decode cL_law 2083 = .ok (.iload_n 3, 1) := by decide +kernel
theorem dL_law_2084 : decode cL_law 2084 = .ok (.iconst 1, 1) := by decide +kernel
theorem dL_law_2085 : decode cL_law 2085 = .ok (.iadd, 1) := by decide +kernel
theorem dL_law_2086 : decode cL_law 2086 = .ok (.iaload, 1) := by decide +kernel
theorem dL_law_2087 : decode cL_law 2087 = .ok (.aload_n 0, 1) := by decide +kernel
theorem dL_law_2088 : decode cL_law 2088 = .ok (.iload_n 3, 1) := by decide +kernel
theorem dL_law_2089 : decode cL_law 2089 = .ok (.iconst 2, 1) := by decide +kernel
theorem dL_law_2090 : decode cL_law 2090 = .ok (.iadd, 1) := by decide +kernel
theorem dL_law_2091 : decode cL_law 2091 = .ok (.iaload, 1) := by decide +kernel
theorem dL_law_2092 : decode cL_law 2092 = .ok (.invokevirtual 279, 3) := by decide +kernel
theorem dL_law_2095 : decode cL_law 2095 = .ok (.pop, 1) := by decide +kernel
theorem dL_law_2096 : decode cL_law 2096 = .ok (.aload_n 2, 1) := by decide +kernel
theorem dL_law_2097 : decode cL_law 2097 = .ok (.aload_n 0, 1) := by decide +kernel
theorem dL_law_2098 : decode cL_law 2098 = .ok (.iload_n 3, 1) := by decide +kernel
theorem dL_law_2099 : decode cL_law 2099 = .ok (.iconst 1, 1) := by decide +kernel
theorem dL_law_2100 : decode cL_law 2100 = .ok (.iadd, 1) := by decide +kernel
theorem dL_law_2101 : decode cL_law 2101 = .ok (.iaload, 1) := by decide +kernel
theorem dL_law_2102 : decode cL_law 2102 = .ok (.aload_n 0, 1) := by decide +kernel
theorem dL_law_2103 : decode cL_law 2103 = .ok (.iload_n 3, 1) := by decide +kernel
theorem dL_law_2104 : decode cL_law 2104 = .ok (.iconst 2, 1) := by decide +kernel
theorem dL_law_2105 : decode cL_law 2105 = .ok (.iadd, 1) := by decide +kernel
theorem dL_law_2106 : decode cL_law 2106 = .ok (.iaload, 1) := by decide +kernel
theorem dL_law_2107 : decode cL_law 2107 = .ok (.invokevirtual 282, 3) := by decide +kernel
theorem dL_law_2110 : decode cL_law 2110 = .ok (.pop, 1) := by decide +kernel
theorem dL_law_2111 : decode cL_law 2111 = .ok (.goto 251, 3) := by decide +kernel
theorem dL_law_2114 : decode cL_law 2114 = .ok (.aload_n 1, 1) := by decide +kernel
theorem dL_law_2115 : decode cL_law 2115 = .ok (.aload_n 0, 1) := by decide +kernel
theorem dL_law_2116 : decode cL_law 2116 = .ok (.iload_n 3, 1) := by decide +kernel
theorem dL_law_2117 : decode cL_law 2117 = .ok (.iconst 1, 1) := by decide +kernel
theorem dL_law_2118 : decode cL_law 2118 = .ok (.iadd, 1) := by decide +kernel
theorem dL_law_2119 : decode cL_law 2119 = .ok (.iaload, 1) := by decide +kernel
theorem dL_law_2120 : decode cL_law 2120 = .ok (.invokevirtual 283, 3) := by decide +kernel
theorem dL_law_2123 : decode cL_law 2123 = .ok (.pop, 1) := by decide +kernel
theorem dL_law_2124 : decode cL_law 2124 = .ok (.aload_n 2, 1) := by decide +kernel
theorem dL_law_2125 : decode cL_law 2125 = .ok (.aload_n 0, 1) := by decide +kernel
theorem dL_law_2126 : decode cL_law 2126 = .ok (.iload_n 3, 1) := by decide +kernel
theorem dL_law_2127 : decode cL_law 2127 = .ok (.iconst 1, 1) := by decide +kernel
theorem dL_law_2128 : decode cL_law 2128 = .ok (.iadd, 1) := by decide +kernel
theorem dL_law_2129 : decode cL_law 2129 = .ok (.iaload, 1) := by decide +kernel
theorem dL_law_2130 : decode cL_law 2130 = .ok (.invokevirtual 286, 3) := by decide +kernel
theorem dL_law_2133 : decode cL_law 2133 = .ok (.pop, 1) := by decide +kernel
theorem dL_law_2134 : decode cL_law 2134 = .ok (.goto 228, 3) := by decide +kernel
theorem dL_law_2137 : decode cL_law 2137 = .ok (.aload_n 1, 1) := by decide +kernel
theorem dL_law_2138 : decode cL_law 2138 = .ok (.aload_n 0, 1) := by decide +kernel
theorem dL_law_2139 : decode cL_law 2139 = .ok (.iload_n 3, 1) := by decide +kernel
theorem dL_law_2140 : decode cL_law 2140 = .ok (.iconst 1, 1) := by decide +kernel
theorem dL_law_2141 : decode cL_law 2141 = .ok (.iadd, 1) := by decide +kernel
theorem dL_law_2142 : decode cL_law 2142 = .ok (.iaload, 1) := by decide +kernel
theorem dL_law_2143 : decode cL_law 2143 = .ok (.invokevirtual 287, 3) := by decide +kernel
theorem dL_law_2146 : decode cL_law 2146 = .ok (.pop, 1) := by decide +kernel
theorem dL_law_2147 : decode cL_law 2147 = .ok (.aload_n 2, 1) := by decide +kernel
theorem dL_law_2148 : decode cL_law 2148 = .ok (.aload_n 0, 1) := by decide +kernel
theorem dL_law_2149 : decode cL_law 2149 = .ok (.iload_n 3, 1) := by decide +kernel
theorem dL_law_2150 : decode cL_law 2150 = .ok (.iconst 1, 1) := by decide +kernel
theorem dL_law_2151 : decode cL_law 2151 = .ok (.iadd, 1) := by decide +kernel
theorem dL_law_2152 : decode cL_law 2152 = .ok (.iaload, 1) := by decide +kernel
theorem dL_law_2153 : decode cL_law 2153 = .ok (.invokevirtual 290, 3) := by decide +kernel
theorem dL_law_2156 : decode cL_law 2156 = .ok (.pop, 1) := by decide +kernel
theorem dL_law_2157 : decode cL_law 2157 = .ok (.goto 205, 3) := by decide +kernel
theorem dL_law_2160 : decode cL_law 2160 = .ok (.aload_n 1, 1) := by decide +kernel
theorem dL_law_2161 : decode cL_law 2161 = .ok (.aload_n 0, 1) := by decide +kernel
theorem dL_law_2162 : decode cL_law 2162 = .ok (.iload_n 3, 1) := by decide +kernel
theorem dL_law_2163 : decode cL_law 2163 = .ok (.iconst 1, 1) := by decide +kernel
theorem dL_law_2164 : decode cL_law 2164 = .ok (.iadd, 1) := by decide +kernel
theorem dL_law_2165 : decode cL_law 2165 = .ok (.iaload, 1) := by decide +kernel
theorem dL_law_2166 : decode cL_law 2166 = .ok (.invokevirtual 291, 3) := by decide +kernel
theorem dL_law_2169 : decode cL_law 2169 = .ok (.pop, 1) := by decide +kernel
theorem dL_law_2170 : decode cL_law 2170 = .ok (.aload_n 2, 1) := by decide +kernel
theorem dL_law_2171 : decode cL_law 2171 = .ok (.aload_n 0, 1) := by decide +kernel
theorem dL_law_2172 : decode cL_law 2172 = .ok (.iload_n 3, 1) := by decide +kernel
theorem dL_law_2173 : decode cL_law 2173 = .ok (.iconst 1, 1) := by decide +kernel
theorem dL_law_2174 : decode cL_law 2174 = .ok (.iadd, 1) := by decide +kernel
theorem dL_law_2175 : decode cL_law 2175 = .ok (.iaload, 1) := by decide +kernel
theorem dL_law_2176 : decode cL_law 2176 = .ok (.invokevirtual 294, 3) := by decide +kernel
theorem dL_law_2179 : decode cL_law 2179 = .ok (.pop, 1) := by decide +kernel
theorem dL_law_2180 : decode cL_law 2180 = .ok (.goto 182, 3) := by decide +kernel
theorem dL_law_2183 : decode cL_law 2183 = .ok (.aload_n 1, 1) := by decide +kernel
theorem dL_law_2184 : decode cL_law 2184 = .ok (.aload_n 0, 1) := by decide +kernel
theorem dL_law_2185 : decode cL_law 2185 = .ok (.iload_n 3, 1) := by decide +kernel
theorem dL_law_2186 : decode cL_law 2186 = .ok (.iconst 1, 1) := by decide +kernel
theorem dL_law_2187 : decode cL_law 2187 = .ok (.iadd, 1) := by decide +kernel
theorem dL_law_2188 : decode cL_law 2188 = .ok (.iaload, 1) := by decide +kernel
theorem dL_law_2189 : decode cL_law 2189 = .ok (.aload_n 0, 1) := by decide +kernel
theorem dL_law_2190 : decode cL_law 2190 = .ok (.iload_n 3, 1) := by decide +kernel
theorem dL_law_2191 : decode cL_law 2191 = .ok (.iconst 2, 1) := by decide +kernel
theorem dL_law_2192 : decode cL_law 2192 = .ok (.iadd, 1) := by decide +kernel
theorem dL_law_2193 : decode cL_law 2193 = .ok (.iaload, 1) := by decide +kernel
theorem dL_law_2194 : decode cL_law 2194 = .ok (.aload_n 0, 1) := by decide +kernel
theorem dL_law_2195 : decode cL_law 2195 = .ok (.iload_n 3, 1) := by decide +kernel
theorem dL_law_2196 : decode cL_law 2196 = .ok (.iconst 3, 1) := by decide +kernel
theorem dL_law_2197 : decode cL_law 2197 = .ok (.iadd, 1) := by decide +kernel
theorem dL_law_2198 : decode cL_law 2198 = .ok (.iaload, 1) := by decide +kernel
theorem dL_law_2199 : decode cL_law 2199 = .ok (.invokevirtual 295, 3) := by decide +kernel
theorem dL_law_2202 : decode cL_law 2202 = .ok (.pop, 1) := by decide +kernel
theorem dL_law_2203 : decode cL_law 2203 = .ok (.aload_n 2, 1) := by decide +kernel
theorem dL_law_2204 : decode cL_law 2204 = .ok (.aload_n 0, 1) := by decide +kernel
theorem dL_law_2205 : decode cL_law 2205 = .ok (.iload_n 3, 1) := by decide +kernel
theorem dL_law_2206 : decode cL_law 2206 = .ok (.iconst 1, 1) := by decide +kernel
theorem dL_law_2207 : decode cL_law 2207 = .ok (.iadd, 1) := by decide +kernel
theorem dL_law_2208 : decode cL_law 2208 = .ok (.iaload, 1) := by decide +kernel
theorem dL_law_2209 : decode cL_law 2209 = .ok (.aload_n 0, 1) := by decide +kernel
theorem dL_law_2210 : decode cL_law 2210 = .ok (.iload_n 3, 1) := by decide +kernel
theorem dL_law_2211 : decode cL_law 2211 = .ok (.iconst 2, 1) := by decide +kernel
theorem dL_law_2212 : decode cL_law 2212 = .ok (.iadd, 1) := by decide +kernel
theorem dL_law_2213 : decode cL_law 2213 = .ok (.iaload, 1) := by decide +kernel
theorem dL_law_2214 : decode cL_law 2214 = .ok (.aload_n 0, 1) := by decide +kernel
theorem dL_law_2215 : decode cL_law 2215 = .ok (.iload_n 3, 1) := by decide +kernel
theorem dL_law_2216 : decode cL_law 2216 = .ok (.iconst 3, 1) := by decide +kernel
theorem dL_law_2217 : decode cL_law 2217 = .ok (.iadd, 1) := by decide +kernel
theorem dL_law_2218 : decode cL_law 2218 = .ok (.iaload, 1) := by decide +kernel
theorem dL_law_2219 : decode cL_law 2219 = .ok (.invokevirtual 298, 3) := by decide +kernel
theorem dL_law_2222 : decode cL_law 2222 = .ok (.pop, 1) := by decide +kernel
theorem dL_law_2223 : decode cL_law 2223 = .ok (.goto 139, 3) := by decide +kernel
theorem dL_law_2226 : decode cL_law 2226 = .ok (.aload_n 1, 1) := by decide +kernel
theorem dL_law_2227 : decode cL_law 2227 = .ok (.aload_n 0, 1) := by decide +kernel
theorem dL_law_2228 : decode cL_law 2228 = .ok (.iload_n 3, 1) := by decide +kernel
theorem dL_law_2229 : decode cL_law 2229 = .ok (.iconst 1, 1) := by decide +kernel
theorem dL_law_2230 : decode cL_law 2230 = .ok (.iadd, 1) := by decide +kernel
theorem dL_law_2231 : decode cL_law 2231 = .ok (.iaload, 1) := by decide +kernel
theorem dL_law_2232 : decode cL_law 2232 = .ok (.aload_n 0, 1) := by decide +kernel
theorem dL_law_2233 : decode cL_law 2233 = .ok (.iload_n 3, 1) := by decide +kernel
