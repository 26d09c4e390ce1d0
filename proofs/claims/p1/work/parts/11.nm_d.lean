theorem dL_law_1899 : decode cL_law 1899 = .ok (.ireturn, 1) := by decide +kernel
theorem dL_law_1900 : decode cL_law 1900 = .ok (.goto 1261, 3) := by decide +kernel
theorem dL_law_1903 : decode cL_law 1903 = .ok (.aload_n 1, 1) := by decide +kernel
theorem dL_law_1904 : decode cL_law 1904 = .ok (.aload_n 0, 1) := by decide +kernel
theorem dL_law_1905 : decode cL_law 1905 = .ok (.iload 4, 2) := by decide +kernel
theorem dL_law_1907 : decode cL_law 1907 = .ok (.iconst 1, 1) := by decide +kernel
theorem dL_law_1908 : decode cL_law 1908 = .ok (.iadd, 1) := by decide +kernel
theorem dL_law_1909 : decode cL_law 1909 = .ok (.iaload, 1) := by decide +kernel
theorem dL_law_1910 : decode cL_law 1910 = .ok (.aload_n 0, 1) := by decide +kernel
theorem dL_law_1911 : decode cL_law 1911 = .ok (.iload 4, 2) := by decide +kernel
theorem dL_law_1913 : decode cL_law 1913 = .ok (.iconst 2, 1) := by decide +kernel
theorem dL_law_1914 : decode cL_law 1914 = .ok (.iadd, 1) := by decide +kernel
theorem dL_law_1915 : decode cL_law 1915 = .ok (.iaload, 1) := by decide +kernel
theorem dL_law_1916 : decode cL_law 1916 = .ok (.aload_n 0, 1) := by decide +kernel
theorem dL_law_1917 : decode cL_law 1917 = .ok (.iload 4, 2) := by decide +kernel
theorem dL_law_1919 : decode cL_law 1919 = .ok (.iconst 3, 1) := by decide +kernel
theorem dL_law_1920 : decode cL_law 1920 = .ok (.iadd, 1) := by decide +kernel
theorem dL_law_1921 : decode cL_law 1921 = .ok (.iaload, 1) := by decide +kernel
theorem dL_law_1922 : decode cL_law 1922 = .ok (.aload_n 0, 1) := by decide +kernel
theorem dL_law_1923 : decode cL_law 1923 = .ok (.iload 4, 2) := by decide +kernel
theorem dL_law_1925 : decode cL_law 1925 = .ok (.iconst 4, 1) := by decide +kernel
theorem dL_law_1926 : decode cL_law 1926 = .ok (.iadd, 1) := by decide +kernel
theorem dL_law_1927 : decode cL_law 1927 = .ok (.iaload, 1) := by decide +kernel
theorem dL_law_1928 : decode cL_law 1928 = .ok (.aload_n 3, 1) := by decide +kernel
theorem dL_law_1929 : decode cL_law 1929 = .ok (.invokestatic 250, 3) := by decide +kernel
theorem dL_law_1932 : decode cL_law 1932 = .ok (.istore 5, 2) := by decide +kernel
theorem dL_law_1934 : decode cL_law 1934 = .ok (.aload_n 2, 1) := by decide +kernel
theorem dL_law_1935 : decode cL_law 1935 = .ok (.aload_n 0, 1) := by decide +kernel
theorem dL_law_1936 : decode cL_law 1936 = .ok (.iload 4, 2) := by decide +kernel
theorem dL_law_1938 : decode cL_law 1938 = .ok (.iconst 1, 1) := by decide +kernel
theorem dL_law_1939 : decode cL_law 1939 = .ok (.iadd, 1) := by decide +kernel
theorem dL_law_1940 : decode cL_law 1940 = .ok (.iaload, 1) := by decide +kernel
theorem dL_law_1941 : decode cL_law 1941 = .ok (.aload_n 0, 1) := by decide +kernel
theorem dL_law_1942 : decode cL_law 1942 = .ok (.iload 4, 2) := by decide +kernel
theorem dL_law_1944 : decode cL_law 1944 = .ok (.iconst 2, 1) := by decide +kernel
theorem dL_law_1945 : decode cL_law 1945 = .ok (.iadd, 1) := by decide +kernel
theorem dL_law_1946 : decode cL_law 1946 = .ok (.iaload, 1) := by decide +kernel
theorem dL_law_1947 : decode cL_law 1947 = .ok (.aload_n 0, 1) := by decide +kernel
theorem dL_law_1948 : decode cL_law 1948 = .ok (.iload 4, 2) := by decide +kernel
theorem dL_law_1950 : decode cL_law 1950 = .ok (.iconst 3, 1) := by decide +kernel
theorem dL_law_1951 : decode cL_law 1951 = .ok (.iadd, 1) := by decide +kernel
theorem dL_law_1952 : decode cL_law 1952 = .ok (.iaload, 1) := by decide +kernel
theorem dL_law_1953 : decode cL_law 1953 = .ok (.aload_n 0, 1) := by decide +kernel
theorem dL_law_1954 : decode cL_law 1954 = .ok (.iload 4, 2) := by decide +kernel
theorem dL_law_1956 : decode cL_law 1956 = .ok (.iconst 4, 1) := by decide +kernel
theorem dL_law_1957 : decode cL_law 1957 = .ok (.iadd, 1) := by decide +kernel
theorem dL_law_1958 : decode cL_law 1958 = .ok (.iaload, 1) := by decide +kernel
theorem dL_law_1959 : decode cL_law 1959 = .ok (.invokevirtual 252, 3) := by decide +kernel
theorem dL_law_1962 : decode cL_law 1962 = .ok (.istore 6, 2) := by decide +kernel
theorem dL_law_1964 : decode cL_law 1964 = .ok (.aload_n 2, 1) := by decide +kernel
theorem dL_law_1965 : decode cL_law 1965 = .ok (.invokevirtual 156, 3) := by decide +kernel
theorem dL_law_1968 : decode cL_law 1968 = .ok (.iload 5, 2) := by decide +kernel
theorem dL_law_1970 : decode cL_law 1970 = .ok (.if_icmp .eq 5, 3) := by decide +kernel
theorem dL_law_1973 : decode cL_law 1973 = .ok (.iconst 0, 1) := by decide +kernel
theorem dL_law_1974 : decode cL_law 1974 = .ok (.ireturn, 1) := by decide +kernel
theorem dL_law_1975 : decode cL_law 1975 = .ok (.iload 5, 2) := by decide +kernel
theorem dL_law_1977 : decode cL_law 1977 = .ok (.ifCond .ne 15, 3) := by decide +kernel
theorem dL_law_1980 : decode cL_law 1980 = .ok (.aload_n 3, 1) := by decide +kernel
theorem dL_law_1981 : decode cL_law 1981 = .ok (.iconst 0, 1) := by decide +kernel
theorem dL_law_1982 : decode cL_law 1982 = .ok (.laload, 1) := by decide +kernel
theorem dL_law_1983 : decode cL_law 1983 = .ok (.iload 6, 2) := by decide +kernel
theorem dL_law_1985 : decode cL_law 1985 = .ok (.i2l, 1) := by decide +kernel
theorem dL_law_1986 : decode cL_law 1986 = .ok (.lcmp, 1) := by decide +kernel
theorem dL_law_1987 : decode cL_law 1987 = .ok (.ifCond .eq 5, 3) := by decide +kernel
theorem dL_law_1990 : decode cL_law 1990 = .ok (.iconst 0, 1) := by decide +kernel
theorem dL_law_1991 : decode cL_law 1991 = .ok (.ireturn, 1) := by decide +kernel
theorem dL_law_1992 : decode cL_law 1992 = .ok (.goto 1169, 3) := by decide +kernel
theorem dL_law_1995 : decode cL_law 1995 = .ok (.aload_n 1, 1) := by decide +kernel
theorem dL_law_1996 : decode cL_law 1996 = .ok (.aload_n 0, 1) := by decide +kernel
theorem dL_law_1997 : decode cL_law 1997 = .ok (.iload 4, 2) := by decide +kernel
theorem dL_law_1999 : decode cL_law 1999 = .ok (.iconst 1, 1) := by decide +kernel
theorem dL_law_2000 : decode cL_law 2000 = .ok (.iadd, 1) := by decide +kernel
theorem dL_law_2001 : decode cL_law 2001 = .ok (.iaload, 1) := by decide +kernel
theorem dL_law_2002 : decode cL_law 2002 = .ok (.aload_n 0, 1) := by decide +kernel
theorem dL_law_2003 : decode cL_law 2003 = .ok (.iload 4, 2) := by decide +kernel
theorem dL_law_2005 : decode cL_law 2005 = .ok (.iconst 2, 1) := by decide +kernel
theorem dL_law_2006 : decode cL_law 2006 = .ok (.iadd, 1) := by decide +kernel
theorem dL_law_2007 : decode cL_law 2007 = .ok (.iaload, 1) := by decide +kernel
theorem dL_law_2008 : decode cL_law 2008 = .ok (.ifCond .eq 7, 3) := by decide +kernel
theorem dL_law_2011 : decode cL_law 2011 = .ok (.iconst 1, 1) := by decide +kernel
theorem dL_law_2012 : decode cL_law 2012 = .ok (.goto 4, 3) := by decide +kernel
theorem dL_law_2015 : decode cL_law 2015 = .ok (.iconst 0, 1) := by decide +kernel
theorem dL_law_2016 : decode cL_law 2016 = .ok (.aload_n 3, 1) := by decide +kernel
theorem dL_law_2017 : decode cL_law 2017 = .ok (.invokestatic 253, 3) := by decide +kernel
theorem dL_law_2020 : decode cL_law 2020 = .ok (.istore 5, 2) := by decide +kernel
theorem dL_law_2022 : decode cL_law 2022 = .ok (.aload_n 2, 1) := by decide +kernel
theorem dL_law_2023 : decode cL_law 2023 = .ok (.aload_n 0, 1) := by decide +kernel
theorem dL_law_2024 : decode cL_law 2024 = .ok (.iload 4, 2) := by decide +kernel
theorem dL_law_2026 : decode cL_law 2026 = .ok (.iconst 1, 1) := by decide +kernel
theorem dL_law_2027 : decode cL_law 2027 = .ok (.iadd, 1) := by decide +kernel
theorem dL_law_2028 : decode cL_law 2028 = .ok (.iaload, 1) := by decide +kernel
theorem dL_law_2029 : decode cL_law 2029 = .ok (.aload_n 0, 1) := by decide +kernel
theorem dL_law_2030 : decode cL_law 2030 = .ok (.iload 4, 2) := by decide +kernel
theorem dL_law_2032 : decode cL_law 2032 = .ok (.iconst 2, 1) := by decide +kernel
theorem dL_law_2033 : decode cL_law 2033 = .ok (.iadd, 1) := by decide +kernel
theorem dL_law_2034 : decode cL_law 2034 = .ok (.iaload, 1) := by decide +kernel
theorem dL_law_2035 : decode cL_law 2035 = .ok (.ifCond .eq 7, 3) := by decide +kernel
theorem dL_law_2038 : decode cL_law 2038 = .ok (.iconst 1, 1) := by decide +kernel
theorem dL_law_2039 : decode cL_law 2039 = .ok (.goto 4, 3) := by decide +kernel
theorem dL_law_2042 : decode cL_law 2042 = .ok (.iconst 0, 1) := by decide +kernel
theorem dL_law_2043 : decode cL_law 2043 = .ok (.invokevirtual 256, 3) := by decide +kernel
theorem dL_law_2046 : decode cL_law 2046 = .ok (.istore 6, 2) := by decide +kernel
theorem dL_law_2048 : decode cL_law 2048 = .ok (.aload_n 2, 1) := by decide +kernel
theorem dL_law_2049 : decode cL_law 2049 = .ok (.invokevirtual 156, 3) := by decide +kernel
theorem dL_law_2052 : decode cL_law 2052 = .ok (.iload 5, 2) := by decide +kernel
theorem dL_law_2054 : decode cL_law 2054 = .ok (.if_icmp .eq 5, 3) := by decide +kernel
theorem dL_law_2057 : decode cL_law 2057 = .ok (.iconst 0, 1) := by decide +kernel
theorem dL_law_2058 : decode cL_law 2058 = .ok (.ireturn, 1) := by decide +kernel
theorem dL_law_2059 : decode cL_law 2059 = .ok (.iload 5, 2) := by decide +kernel
theorem dL_law_2061 : decode cL_law 2061 = .ok (.ifCond .ne 15, 3) := by decide +kernel
theorem dL_law_2064 : decode cL_law 2064 = .ok (.aload_n 3, 1) := by decide +kernel
theorem dL_law_2065 : decode cL_law 2065 = .ok (.iconst 0, 1) := by decide +kernel
theorem dL_law_2066 : decode cL_law 2066 = .ok (.laload, 1) := by decide +kernel
theorem dL_law_2067 : decode cL_law 2067 = .ok (.iload 6, 2) := by decide +kernel
theorem dL_law_2069 : decode cL_law 2069 = .ok (.i2l, 1) := by decide +kernel
theorem dL_law_2070 : decode cL_law 2070 = .ok (.lcmp, 1) := by decide +kernel
theorem dL_law_2071 : decode cL_law 2071 = .ok (.ifCond .eq 5, 3) := by decide +kernel
theorem dL_law_2074 : decode cL_law 2074 = .ok (.iconst 0, 1) := by decide +kernel
theorem dL_law_2075 : decode cL_law 2075 = .ok (.ireturn, 1) := by decide +kernel
theorem dL_law_2076 : decode cL_law 2076 = .ok (.goto 1085, 3) := by decide +kernel
theorem dL_law_2079 : decode cL_law 2079 = .ok (.aload_n 1, 1) := by decide +kernel
theorem dL_law_2080 : decode cL_law 2080 = .ok (.aload_n 0, 1) := by decide +kernel
theorem dL_law_2081 : decode cL_law 2081 = .ok (.iload 4, 2) := by decide +kernel
theorem dL_law_2083 : decode cL_law 2083 = .ok (.iconst 1, 1) := by decide +kernel
theorem dL_law_2084 : decode cL_law 2084 = .ok (.iadd, 1) := by decide +kernel
theorem dL_law_2085 : decode cL_law 2085 = .ok (.iaload, 1) := by decide +kernel
theorem dL_law_2086 : decode cL_law 2086 = .ok (.aload_n 0, 1) := by decide +kernel
theorem dL_law_2087 : decode cL_law 2087 = .ok (.iload 4, 2) := by decide +kernel
theorem dL_law_2089 : decode cL_law 2089 = .ok (.iconst 2, 1) := by decide +kernel
theorem dL_law_2090 : decode cL_law 2090 = .ok (.iadd, 1) := by decide +kernel
theorem dL_law_2091 : decode cL_law 2091 = .ok (.iaload, 1) := by decide +kernel
theorem dL_law_2092 : decode cL_law 2092 = .ok (.aload_n 3, 1) := by decide +kernel
theorem dL_law_2093 : decode cL_law 2093 = .ok (.invokestatic 257, 3) := by decide +kernel
theorem dL_law_2096 : decode cL_law 2096 = .ok (.istore 5, 2) := by decide +kernel
theorem dL_law_2098 : decode cL_law 2098 = .ok (.aload_n 2, 1) := by decide +kernel
theorem dL_law_2099 : decode cL_law 2099 = .ok (.aload_n 0, 1) := by decide +kernel
theorem dL_law_2100 : decode cL_law 2100 = .ok (.iload 4, 2) := by decide +kernel
theorem dL_law_2102 : decode cL_law 2102 = .ok (.iconst 1, 1) := by decide +kernel
theorem dL_law_2103 : decode cL_law 2103 = .ok (.iadd, 1) := by decide +kernel
theorem dL_law_2104 : decode cL_law 2104 = .ok (.iaload, 1) := by decide +kernel
theorem dL_law_2105 : decode cL_law 2105 = .ok (.aload_n 0, 1) := by decide +kernel
theorem dL_law_2106 : decode cL_law 2106 = .ok (.iload 4, 2) := by decide +kernel
theorem dL_law_2108 : decode cL_law 2108 = .ok (.iconst 2, 1) := by decide +kernel
theorem dL_law_2109 : decode cL_law 2109 = .ok (.iadd, 1) := by decide +kernel
theorem dL_law_2110 : decode cL_law 2110 = .ok (.iaload, 1) := by decide +kernel
theorem dL_law_2111 : decode cL_law 2111 = .ok (.invokevirtual 259, 3) := by decide +kernel
theorem dL_law_2114 : decode cL_law 2114 = .ok (.istore 6, 2) := by decide +kernel
theorem dL_law_2116 : decode cL_law 2116 = .ok (.aload_n 2, 1) := by decide +kernel
theorem dL_law_2117 : decode cL_law 2117 = .ok (.invokevirtual 156, 3) := by decide +kernel
theorem dL_law_2120 : decode cL_law 2120 = .ok (.iload 5, 2) := by decide +kernel
theorem dL_law_2122 : decode cL_law 2122 = .ok (.if_icmp .eq 5, 3) := by decide +kernel
theorem dL_law_2125 : decode cL_law 2125 = .ok (.iconst 0, 1) := by decide +kernel
theorem dL_law_2126 : decode cL_law 2126 = .ok (.ireturn, 1) := by decide +kernel
theorem dL_law_2127 : decode cL_law 2127 = .ok (.iload 5, 2) := by decide +kernel
theorem dL_law_2129 : decode cL_law 2129 = .ok (.ifCond .ne 15, 3) := by decide +kernel
theorem dL_law_2132 : decode cL_law 2132 = .ok (.aload_n 3, 1) := by decide +kernel
theorem dL_law_2133 : decode cL_law 2133 = .ok (.iconst 0, 1) := by decide +kernel
theorem dL_law_2134 : decode cL_law 2134 = .ok (.laload, 1) := by decide +kernel
theorem dL_law_2135 : decode cL_law 2135 = .ok (.iload 6, 2) := by decide +kernel
theorem dL_law_2137 : decode cL_law 2137 = .ok (.i2l, 1) := by decide +kernel
theorem dL_law_2138 : decode cL_law 2138 = .ok (.lcmp, 1) := by decide +kernel
theorem dL_law_2139 : decode cL_law 2139 = .ok (.ifCond .eq 5, 3) := by decide +kernel
theorem dL_law_2142 : decode cL_law 2142 = .ok (.iconst 0, 1) := by decide +kernel
theorem dL_law_2143 : decode cL_law 2143 = .ok (.ireturn, 1) := by decide +kernel
theorem dL_law_2144 : decode cL_law 2144 = .ok (.goto 1017, 3) := by decide +kernel
theorem dL_law_2147 : decode cL_law 2147 = .ok (.aload_n 1, 1) := by decide +kernel
theorem dL_law_2148 : decode cL_law 2148 = .ok (.aload_n 0, 1) := by decide +kernel
theorem dL_law_2149 : decode cL_law 2149 = .ok (.iload 4, 2) := by decide +kernel
theorem dL_law_2151 : decode cL_law 2151 = .ok (.iconst 1, 1) := by decide +kernel
theorem dL_law_2152 : decode cL_law 2152 = .ok (.iadd, 1) := by decide +kernel
theorem dL_law_2153 : decode cL_law 2153 = .ok (.iaload, 1) := by decide +kernel
theorem dL_law_2154 : decode cL_law 2154 = .ok (.aload_n 0, 1) := by decide +kernel
theorem dL_law_2155 : decode cL_law 2155 = .ok (.iload 4, 2) := by decide +kernel
theorem dL_law_2157 : decode cL_law 2157 = .ok (.iconst 2, 1) := by decide +kernel
theorem dL_law_2158 : decode cL_law 2158 = .ok (.iadd, 1) := by decide +kernel
theorem dL_law_2159 : decode cL_law 2159 = .ok (.iaload, 1) := by decide +kernel
theorem dL_law_2160 : decode cL_law 2160 = .ok (.aload_n 0, 1) := by decide +kernel
theorem dL_law_2161 : decode cL_law 2161 = .ok (.iload 4, 2) := by decide +kernel
theorem dL_law_2163 : decode cL_law 2163 = .ok (.iconst 3, 1) := by decide +kernel
theorem dL_law_2164 : decode cL_law 2164 = .ok (.iadd, 1) := by decide +kernel
theorem dL_law_2165 : decode cL_law 2165 = .ok (.iaload, 1) := by decide +kernel
theorem dL_law_2166 : decode cL_law 2166 = .ok (.aload_n 0, 1) := by decide +kernel
theorem dL_law_2167 : decode cL_law 2167 = .ok (.iload 4, 2) := by decide +kernel
theorem dL_law_2169 : decode cL_law 2169 = .ok (.iconst 4, 1) := by decide +kernel
theorem dL_law_2170 : decode cL_law 2170 = .ok (.iadd, 1) := by decide +kernel
theorem dL_law_2171 : decode cL_law 2171 = .ok (.iaload, 1) := by decide +kernel
theorem dL_law_2172 : decode cL_law 2172 = .ok (.aload_n 0, 1) := by decide +kernel
theorem dL_law_2173 : decode cL_law 2173 = .ok (.iload 4, 2) := by decide +kernel
theorem dL_law_2175 : decode cL_law 2175 = .ok (.iconst 5, 1) := by decide +kernel
theorem dL_law_2176 : decode cL_law 2176 = .ok (.iadd, 1) := by decide +kernel
theorem dL_law_2177 : decode cL_law 2177 = .ok (.iaload, 1) := by decide +kernel
theorem dL_law_2178 : decode cL_law 2178 = .ok (.aload_n 0, 1) := by decide +kernel
theorem dL_law_2179 : decode cL_law 2179 = .ok (.iload 4, 2) := by decide +kernel
theorem dL_law_2181 : decode cL_law 2181 = .ok (.bipush 6, 2) := by decide +kernel
theorem dL_law_2183 : decode cL_law 2183 = .ok (.iadd, 1) := by decide +kernel
theorem dL_law_2184 : decode cL_law 2184 = .ok (.iaload, 1) := by decide +kernel
theorem dL_law_2185 : decode cL_law 2185 = .ok (.aload_n 3, 1) := by decide +kernel
theorem dL_law_2186 : decode cL_law 2186 = .ok (.invokestatic 260, 3) := by decide +kernel
theorem dL_law_2189 : decode cL_law 2189 = .ok (.istore 5, 2) := by decide +kernel
theorem dL_law_2191 : decode cL_law 2191 = .ok (.aload_n 2, 1) := by decide +kernel
theorem dL_law_2192 : decode cL_law 2192 = .ok (.aload_n 0, 1) := by decide +kernel
theorem dL_law_2193 : decode cL_law 2193 = .ok (.iload 4, 2) := by decide +kernel
theorem dL_law_2195 : decode cL_law 2195 = .ok (.iconst 1, 1) := by decide +kernel
theorem dL_law_2196 : decode cL_law 2196 = .ok (.iadd, 1) := by decide +kernel
theorem dL_law_2197 : decode cL_law 2197 = .ok (.iaload, 1) := by decide +kernel
theorem dL_law_2198 : decode cL_law 2198 = .ok (.aload_n 0, 1) := by decide +kernel
theorem dL_law_2199 : decode cL_law 2199 = .ok (.iload 4, 2) := by decide +kernel
theorem dL_law_2201 : decode cL_law 2201 = .ok (.iconst 2, 1) := by decide +kernel
theorem dL_law_2202 : decode cL_law 2202 = .ok (.iadd, 1) := by decide +kernel
theorem dL_law_2203 : decode cL_law 2203 = .ok (.iaload, 1) := by decide +kernel
theorem dL_law_2204 : decode cL_law 2204 = .ok (.aload_n 0, 1) := by decide +kernel
theorem dL_law_2205 : decode cL_law 2205 = .ok (.iload 4, 2) := by decide +kernel
theorem dL_law_2207 : decode cL_law 2207 = .ok (.iconst 3, 1) := by decide +kernel
theorem dL_law_2208 : decode cL_law 2208 = .ok (.iadd, 1) := by decide +kernel
theorem dL_law_2209 : decode cL_law 2209 = .ok (.iaload, 1) := by decide +kernel
theorem dL_law_2210 : decode cL_law 2210 = .ok (.aload_n 0, 1) := by decide +kernel
theorem dL_law_2211 : decode cL_law 2211 = .ok (.iload 4, 2) := by decide +kernel
theorem dL_law_2213 : decode cL_law 2213 = .ok (.iconst 4, 1) := by decide +kernel
theorem dL_law_2214 : decode cL_law 2214 = .ok (.iadd, 1) := by decide +kernel
theorem dL_law_2215 : decode cL_law 2215 = .ok (.iaload, 1) := by decide +kernel
theorem dL_law_2216 : decode cL_law 2216 = .ok (.aload_n 0, 1) := by decide +kernel
theorem dL_law_2217 : decode cL_law 2217 = .ok (.iload 4, 2) := by decide +kernel
theorem dL_law_2219 : decode cL_law 2219 = .ok (.iconst 5, 1) := by decide +kernel
theorem dL_law_2220 : decode cL_law 2220 = .ok (.iadd, 1) := by decide +kernel
theorem dL_law_2221 : decode cL_law 2221 = .ok (.iaload, 1) := by decide +kernel
theorem dL_law_2222 : decode cL_law 2222 = .ok (.aload_n 0, 1) := by decide +kernel
theorem dL_law_2223 : decode cL_law 2223 = .ok (.iload 4, 2) := by decide +kernel
theorem dL_law_2225 : decode cL_law 2225 = .ok (.bipush 6, 2) := by decide +kernel
theorem dL_law_2227 : decode cL_law 2227 = .ok (.iadd, 1) := by decide +kernel
theorem dL_law_2228 : decode cL_law 2228 = .ok (.iaload, 1) := by decide +kernel
theorem dL_law_2229 : decode cL_law 2229 = .ok (.invokevirtual 263, 3) := by decide +kernel
theorem dL_law_2232 : decode cL_law 2232 = .ok (.istore 6, 2) := by decide +kernel
theorem dL_law_2234 : decode cL_law 2234 = .ok (.aload_n 2, 1) := by decide +kernel
theorem dL_law_2235 : decode cL_law 2235 = .ok (.invokevirtual 156, 3) := by decide +kernel
theorem dL_law_2238 : decode cL_law 2238 = .ok (.iload 5, 2) := by decide +kernel
theorem dL_law_2240 : decode cL_law 2240 = .ok (.if_icmp .eq 5, 3) := by decide +kernel
theorem dL_law_2243 : decode cL_law 2243 = .ok (.iconst 0, 1) := by decide +kernel
theorem dL_law_2244 : decode cL_law 2244 = .ok (.ireturn, 1) := by decide +kernel
theorem dL_law_2245 : decode cL_law 2245 = .ok (.iload 5, 2) := by decide +kernel
theorem dL_law_2247 : decode cL_law 2247 = .ok (.ifCond .ne 15, 3) := by decide +kernel
theorem dL_law_2250 : decode cL_law 2250 = .ok (.aload_n 3, 1) := by decide +kernel
theorem dL_law_2251 : decode cL_law 2251 = .ok (.iconst 0, 1) := by decide +kernel
theorem dL_law_2252 : decode cL_law 2252 = .ok (.laload, 1) := by decide +kernel
theorem dL_law_2253 : decode cL_law 2253 = .ok (.iload 6, 2) := by decide +kernel
theorem dL_law_2255 : decode cL_law 2255 = .ok (.i2l, 1) := by decide +kernel
theorem dL_law_2256 : decode cL_law 2256 = .ok (.lcmp, 1) := by decide +kernel
theorem dL_law_2257 : decode cL_law 2257 = .ok (.ifCond .eq 5, 3) := by decide +kernel
theorem dL_law_2260 : decode cL_law 2260 = .ok (.iconst 0, 1) := by decide +kernel
theorem dL_law_2261 : decode cL_law 2261 = .ok (.ireturn, 1) := by decide +kernel
theorem dL_law_2262 : decode cL_law 2262 = .ok (.goto 899, 3) := by decide +kernel
theorem dL_law_2265 : decode cL_law 2265 = .ok (.aload_n 1, 1) := by decide +kernel
theorem dL_law_2266 : decode cL_law 2266 = .ok (.aload_n 0, 1) := by decide +kernel
theorem dL_law_2267 : decode cL_law 2267 = .ok (.iload 4, 2) := by decide +kernel
theorem dL_law_2269 : decode cL_law 2269 = .ok (.iconst 1, 1) := by decide +kernel
theorem dL_law_2270 : decode cL_law 2270 = .ok (.iadd, 1) := by decide +kernel
theorem dL_law_2271 : decode cL_law 2271 = .ok (.iaload, 1) := by decide +kernel
theorem dL_law_2272 : decode cL_law 2272 = .ok (.aload_n 0, 1) := by decide +kernel
theorem dL_law_2273 : decode cL_law 2273 = .ok (.iload 4, 2) := by decide +kernel
theorem dL_law_2275 : decode cL_law 2275 = .ok (.iconst 2, 1) := by decide +kernel
theorem dL_law_2276 : decode cL_law 2276 = .ok (.iadd, 1) := by decide +kernel
theorem dL_law_2277 : decode cL_law 2277 = .ok (.iaload, 1) := by decide +kernel
theorem dL_law_2278 : decode cL_law 2278 = .ok (.aload_n 0, 1) := by decide +kernel
theorem dL_law_2279 : decode cL_law 2279 = .ok (.iload 4, 2) := by decide +kernel
theorem dL_law_2281 : decode cL_law 2281 = .ok (.iconst 3, 1) := by decide +kernel
theorem dL_law_2282 : decode cL_law 2282 = .ok (.iadd, 1) := by decide +kernel
theorem dL_law_2283 : decode cL_law 2283 = .ok (.iaload, 1) := by decide +kernel
theorem dL_law_2284 : decode cL_law 2284 = .ok (.aload_n 3, 1) := by decide +kernel
theorem dL_law_2285 : decode cL_law 2285 = .ok (.invokestatic 264, 3) := by decide +kernel
theorem dL_law_2288 : decode cL_law 2288 = .ok (.istore 5, 2) := by decide +kernel
theorem dL_law_2290 : decode cL_law 2290 = .ok (.aload_n 2, 1) := by decide +kernel
theorem dL_law_2291 : decode cL_law 2291 = .ok (.aload_n 0, 1) := by decide +kernel
theorem dL_law_2292 : decode cL_law 2292 = .ok (.iload 4, 2) := by decide +kernel
theorem dL_law_2294 : decode cL_law 2294 = .ok (.iconst 1, 1) := by decide +kernel
theorem dL_law_2295 : decode cL_law 2295 = .ok (.iadd, 1) := by decide +kernel
theorem dL_law_2296 : decode cL_law 2296 = .ok (.iaload, 1) := by decide +kernel
theorem dL_law_2297 : decode cL_law 2297 = .ok (.aload_n 0, 1) := by decide +kernel
theorem dL_law_2298 : decode cL_law 2298 = .ok (.iload 4, 2) := by decide +kernel
theorem dL_law_2300 : decode cL_law 2300 = .ok (.iconst 2, 1) := by decide +kernel
theorem dL_law_2301 : decode cL_law 2301 = .ok (.iadd, 1) := by decide +kernel
theorem dL_law_2302 : decode cL_law 2302 = .ok (.iaload, 1) := by decide +kernel
theorem dL_law_2303 : decode cL_law 2303 = .ok (.aload_n 0, 1) := by decide +kernel
theorem dL_law_2304 : decode cL_law 2304 = .ok (.iload 4, 2) := by decide +kernel
theorem dL_law_2306 : decode cL_law 2306 = .ok (.iconst 3, 1) := by decide +kernel
theorem dL_law_2307 : decode cL_law 2307 = .ok (.iadd, 1) := by decide +kernel
theorem dL_law_2308 : decode cL_law 2308 = .ok (.iaload, 1) := by decide +kernel
theorem dL_law_2309 : decode cL_law 2309 = .ok (.invokevirtual 266, 3) := by decide +kernel
theorem dL_law_2312 : decode cL_law 2312 = .ok (.istore 6, 2) := by decide +kernel
theorem dL_law_2314 : decode cL_law 2314 = .ok (.aload_n 2, 1) := by decide +kernel
theorem dL_law_2315 : decode cL_law 2315 = .ok (.invokevirtual 156, 3) := by decide +kernel
theorem dL_law_2318 : decode cL_law 2318 = .ok (.iload 5, 2) := by decide +kernel
theorem dL_law_2320 : decode cL_law 2320 = .ok (.if_icmp .eq 5, 3) := by decide +kernel
theorem dL_law_2323 : decode cL_law 2323 = .ok (.iconst 0, 1) := by decide +kernel
theorem dL_law_2324 : decode cL_law 2324 = .ok (.ireturn, 1) := by decide +kernel
theorem dL_law_2325 : decode cL_law 2325 = .ok (.iload 5, 2) := by decide +kernel
theorem dL_law_2327 : decode cL_law 2327 = .ok (.ifCond .ne 15, 3) := by decide +kernel
theorem dL_law_2330 : decode cL_law 2330 = .ok (.aload_n 3, 1) := by decide +kernel
theorem dL_law_2331 : decode cL_law 2331 = .ok (.iconst 0, 1) := by decide +kernel
theorem dL_law_2332 : decode cL_law 2332 = .ok (.laload, 1) := by decide +kernel
theorem dL_law_2333 : decode cL_law 2333 = .ok (.iload 6, 2) := by decide +kernel
theorem dL_law_2335 : decode cL_law 2335 = .ok (.i2l, 1) := by decide +kernel
theorem dL_law_2336 : decode cL_law 2336 = .ok (.lcmp, 1) := by decide +kernel
theorem dL_law_2337 : decode cL_law 2337 = .ok (.ifCond .eq 5, 3) := by decide +kernel
theorem dL_law_2340 : decode cL_law 2340 = .ok (.iconst 0, 1) := by decide +kernel
theorem dL_law_2341 : decode cL_law 2341 = .ok (.ireturn, 1) := by decide +kernel
theorem dL_law_2342 : decode cL_law 2342 = .ok (.goto 819, 3) := by decide +kernel
theorem dL_law_2345 : decode cL_law 2345 = .ok (.aload_n 1, 1) := by decide +kernel
theorem dL_law_2346 : decode cL_law 2346 = .ok (.aload_n 0, 1) := by decide +kernel
theorem dL_law_2347 : decode cL_law 2347 = .ok (.iload 4, 2) := by decide +kernel
theorem dL_law_2349 : decode cL_law 2349 = .ok (.iconst 1, 1) := by decide +kernel
theorem dL_law_2350 : decode cL_law 2350 = .ok (.iadd, 1) := by decide +kernel
theorem dL_law_2351 : decode cL_law 2351 = .ok (.iaload, 1) := by decide +kernel
theorem dL_law_2352 : decode cL_law 2352 = .ok (.aload_n 0, 1) := by decide +kernel
theorem dL_law_2353 : decode cL_law 2353 = .ok (.iload 4, 2) := by decide +kernel
theorem dL_law_2355 : decode cL_law 2355 = .ok (.iconst 2, 1) := by decide +kernel
theorem dL_law_2356 : decode cL_law 2356 = .ok (.iadd, 1) := by decide +kernel
theorem dL_law_2357 : decode cL_law 2357 = .ok (.iaload, 1) := by decide +kernel
theorem dL_law_2358 : decode cL_law 2358 = .ok (.aload_n 0, 1) := by decide +kernel
theorem dL_law_2359 : decode cL_law 2359 = .ok (.iload 4, 2) := by decide +kernel
theorem dL_law_2361 : decode cL_law 2361 = .ok (.iconst 3, 1) := by decide +kernel
theorem dL_law_2362 : decode cL_law 2362 = .ok (.iadd, 1) := by decide +kernel
theorem dL_law_2363 : decode cL_law 2363 = .ok (.iaload, 1) := by decide +kernel
theorem dL_law_2364 : decode cL_law 2364 = .ok (.aload_n 3, 1) := by decide +kernel
theorem dL_law_2365 : decode cL_law 2365 = .ok (.invokestatic 267, 3) := by decide +kernel
theorem dL_law_2368 : decode cL_law 2368 = .ok (.istore 5, 2) := by decide +kernel
theorem dL_law_2370 : decode cL_law 2370 = .ok (.aload_n 2, 1) := by decide +kernel
theorem dL_law_2371 : decode cL_law 2371 = .ok (.aload_n 0, 1) := by decide +kernel
theorem dL_law_2372 : decode cL_law 2372 = .ok (.iload 4, 2) := by decide +kernel
theorem dL_law_2374 : decode cL_law 2374 = .ok (.iconst 1, 1) := by decide +kernel
theorem dL_law_2375 : decode cL_law 2375 = .ok (.iadd, 1) := by decide +kernel
theorem dL_law_2376 : decode cL_law 2376 = .ok (.iaload, 1) := by decide +kernel
theorem dL_law_2377 : decode cL_law 2377 = .ok (.aload_n 0, 1) := by decide +kernel
theorem dL_law_2378 : decode cL_law 2378 = .ok (.iload 4, 2) := by decide +kernel
theorem dL_law_2380 : decode cL_law 2380 = .ok (.iconst 2, 1) := by decide +kernel
theorem dL_law_2381 : decode cL_law 2381 = .ok (.iadd, 1) := by decide +kernel
theorem dL_law_2382 : decode cL_law 2382 = .ok (.iaload, 1) := by decide +kernel
theorem dL_law_2383 : decode cL_law 2383 = .ok (.aload_n 0, 1) := by decide +kernel
theorem dL_law_2384 : decode cL_law 2384 = .ok (.iload 4, 2) := by decide +kernel
theorem dL_law_2386 : decode cL_law 2386 = .ok (.iconst 3, 1) := by decide +kernel
theorem dL_law_2387 : decode cL_law 2387 = .ok (.iadd, 1) := by decide +kernel
theorem dL_law_2388 : decode cL_law 2388 = .ok (.iaload, 1) := by decide +kernel
theorem dL_law_2389 : decode cL_law 2389 = .ok (.invokevirtual 269, 3) := by decide +kernel
theorem dL_law_2392 : decode cL_law 2392 = .ok (.lstore 6, 2) := by decide +kernel
theorem dL_law_2394 : decode cL_law 2394 = .ok (.aload_n 2, 1) := by decide +kernel
theorem dL_law_2395 : decode cL_law 2395 = .ok (.invokevirtual 156, 3) := by decide +kernel
theorem dL_law_2398 : decode cL_law 2398 = .ok (.iload 5, 2) := by decide +kernel
theorem dL_law_2400 : decode cL_law 2400 = .ok (.if_icmp .eq 5, 3) := by decide +kernel
theorem dL_law_2403 : decode cL_law 2403 = .ok (.iconst 0, 1) := by decide +kernel
theorem dL_law_2404 : decode cL_law 2404 = .ok (.ireturn, 1) := by decide +kernel
theorem dL_law_2405 : decode cL_law 2405 = .ok (.iload 5, 2) := by decide +kernel
theorem dL_law_2407 : decode cL_law 2407 = .ok (.ifCond .ne 14, 3) := by decide +kernel
theorem dL_law_2410 : decode cL_law 2410 = .ok (.aload_n 3, 1) := by decide +kernel
theorem dL_law_2411 : decode cL_law 2411 = .ok (.iconst 0, 1) := by decide +kernel
theorem dL_law_2412 : decode cL_law 2412 = .ok (.laload, 1) := by decide +kernel
theorem dL_law_2413 : decode cL_law 2413 = .ok (.lload 6, 2) := by decide +kernel
theorem dL_law_2415 : decode cL_law 2415 = .ok (.lcmp, 1) := by decide +kernel
theorem dL_law_2416 : decode cL_law 2416 = .ok (.ifCond .eq 5, 3) := by decide +kernel
theorem dL_law_2419 : decode cL_law 2419 = .ok (.iconst 0, 1) := by decide +kernel
theorem dL_law_2420 : decode cL_law 2420 = .ok (.ireturn, 1) := by decide +kernel
theorem dL_law_2421 : decode cL_law 2421 = .ok (.goto 740, 3) := by decide +kernel
theorem dL_law_2424 : decode cL_law 2424 = .ok (.aload_n 1, 1) := by decide +kernel
theorem dL_law_2425 : decode cL_law 2425 = .ok (.aload_n 0, 1) := by decide +kernel
theorem dL_law_2426 : decode cL_law 2426 = .ok (.iload 4, 2) := by decide +kernel
theorem dL_law_2428 : decode cL_law 2428 = .ok (.iconst 1, 1) := by decide +kernel
theorem dL_law_2429 : decode cL_law 2429 = .ok (.iadd, 1) := by decide +kernel
theorem dL_law_2430 : decode cL_law 2430 = .ok (.iaload, 1) := by decide +kernel
theorem dL_law_2431 : decode cL_law 2431 = .ok (.aload_n 0, 1) := by decide +kernel
theorem dL_law_2432 : decode cL_law 2432 = .ok (.iload 4, 2) := by decide +kernel
theorem dL_law_2434 : decode cL_law 2434 = .ok (.iconst 2, 1) := by decide +kernel
theorem dL_law_2435 : decode cL_law 2435 = .ok (.iadd, 1) := by decide +kernel
theorem dL_law_2436 : decode cL_law 2436 = .ok (.iaload, 1) := by decide +kernel
theorem dL_law_2437 : decode cL_law 2437 = .ok (.aload_n 3, 1) := by decide +kernel
theorem dL_law_2438 : decode cL_law 2438 = .ok (.invokestatic 270, 3) := by decide +kernel
theorem dL_law_2441 : decode cL_law 2441 = .ok (.istore 5, 2) := by decide +kernel
theorem dL_law_2443 : decode cL_law 2443 = .ok (.aload_n 2, 1) := by decide +kernel
theorem dL_law_2444 : decode cL_law 2444 = .ok (.aload_n 0, 1) := by decide +kernel
theorem dL_law_2445 : decode cL_law 2445 = .ok (.iload 4, 2) := by decide +kernel
theorem dL_law_2447 : decode cL_law 2447 = .ok (.iconst 1, 1) := by decide +kernel
theorem dL_law_2448 : decode cL_law 2448 = .ok (.iadd, 1) := by decide +kernel
theorem dL_law_2449 : decode cL_law 2449 = .ok (.iaload, 1) := by decide +kernel
theorem dL_law_2450 : decode cL_law 2450 = .ok (.aload_n 0, 1) := by decide +kernel
theorem dL_law_2451 : decode cL_law 2451 = .ok (.iload 4, 2) := by decide +kernel
theorem dL_law_2453 : decode cL_law 2453 = .ok (.iconst 2, 1) := by decide +kernel
theorem dL_law_2454 : decode cL_law 2454 = .ok (.iadd, 1) := by decide +kernel
theorem dL_law_2455 : decode cL_law 2455 = .ok (.iaload, 1) := by decide +kernel
theorem dL_law_2456 : decode cL_law 2456 = .ok (.invokevirtual 272, 3) := by decide +kernel
theorem dL_law_2459 : decode cL_law 2459 = .ok (.istore 6, 2) := by decide +kernel
theorem dL_law_2461 : decode cL_law 2461 = .ok (.aload_n 2, 1) := by decide +kernel
theorem dL_law_2462 : decode cL_law 2462 = .ok (.invokevirtual 156, 3) := by decide +kernel
theorem dL_law_2465 : decode cL_law 2465 = .ok (.iload 5, 2) := by decide +kernel
theorem dL_law_2467 : decode cL_law 2467 = .ok (.if_icmp .eq 5, 3) := by decide +kernel
theorem dL_law_2470 : decode cL_law 2470 = .ok (.iconst 0, 1) := by decide +kernel
theorem dL_law_2471 : decode cL_law 2471 = .ok (.ireturn, 1) := by decide +kernel
theorem dL_law_2472 : decode cL_law 2472 = .ok (.iload 5, 2) := by decide +kernel
theorem dL_law_2474 : decode cL_law 2474 = .ok (.ifCond .ne 15, 3) := by decide +kernel
theorem dL_law_2477 : decode cL_law 2477 = .ok (.aload_n 3, 1) := by decide +kernel
theorem dL_law_2478 : decode cL_law 2478 = .ok (.iconst 0, 1) := by decide +kernel
theorem dL_law_2479 : decode cL_law 2479 = .ok (.laload, 1) := by decide +kernel
theorem dL_law_2480 : decode cL_law 2480 = .ok (.iload 6, 2) := by decide +kernel
theorem dL_law_2482 : decode cL_law 2482 = .ok (.i2l, 1) := by decide +kernel
theorem dL_law_2483 : decode cL_law 2483 = .ok (.lcmp, 1) := by decide +kernel
theorem dL_law_2484 : decode cL_law 2484 = .ok (.ifCond .eq 5, 3) := by decide +kernel
theorem dL_law_2487 : decode cL_law 2487 = .ok (.iconst 0, 1) := by decide +kernel
theorem dL_law_2488 : decode cL_law 2488 = .ok (.ireturn, 1) := by decide +kernel
theorem dL_law_2489 : decode cL_law 2489 = .ok (.goto 672, 3) := by decide +kernel
theorem dL_law_2492 : decode cL_law 2492 = .ok (.aload_n 1, 1) := by decide +kernel
theorem dL_law_2493 : decode cL_law 2493 = .ok (.invokevirtual 273, 3) := by decide +kernel
theorem dL_law_2496 : decode cL_law 2496 = .ok (.aload_n 2, 1) := by decide +kernel
theorem dL_law_2497 : decode cL_law 2497 = .ok (.invokevirtual 276, 3) := by decide +kernel
theorem dL_law_2500 : decode cL_law 2500 = .ok (.if_icmp .eq 661, 3) := by decide +kernel
theorem dL_law_2503 : decode cL_law 2503 = .ok (.iconst 0, 1) := by decide +kernel
theorem dL_law_2504 : decode cL_law 2504 = .ok (.ireturn, 1) := by decide +kernel
theorem dL_law_2505 : decode cL_law 2505 = .ok (.aload_n 1, 1) := by decide +kernel
theorem dL_law_2506 : decode cL_law 2506 = .ok (.aload_n 0, 1) := by decide +kernel
theorem dL_law_2507 : decode cL_law 2507 = .ok (.iload 4, 2) := by decide +kernel
theorem dL_law_2509 : decode cL_law 2509 = .ok (.iconst 1, 1) := by decide +kernel
theorem dL_law_2510 : decode cL_law 2510 = .ok (.iadd, 1) := by decide +kernel
theorem dL_law_2511 : decode cL_law 2511 = .ok (.iaload, 1) := by decide +kernel
theorem dL_law_2512 : decode cL_law 2512 = .ok (.aload_n 0, 1) := by decide +kernel
theorem dL_law_2513 : decode cL_law 2513 = .ok (.iload 4, 2) := by decide +kernel
theorem dL_law_2515 : decode cL_law 2515 = .ok (.iconst 2, 1) := by decide +kernel
theorem dL_law_2516 : decode cL_law 2516 = .ok (.iadd, 1) := by decide +kernel
theorem dL_law_2517 : decode cL_law 2517 = .ok (.iaload, 1) := by decide +kernel
theorem dL_law_2518 : decode cL_law 2518 = .ok (.aload_n 3, 1) := by decide +kernel
theorem dL_law_2519 : decode cL_law 2519 = .ok (.invokestatic 277, 3) := by decide +kernel
theorem dL_law_2522 : decode cL_law 2522 = .ok (.istore 5, 2) := by decide +kernel
theorem dL_law_2524 : decode cL_law 2524 = .ok (.aload_n 2, 1) := by decide +kernel
theorem dL_law_2525 : decode cL_law 2525 = .ok (.aload_n 0, 1) := by decide +kernel
theorem dL_law_2526 : decode cL_law 2526 = .ok (.iload 4, 2) := by decide +kernel
theorem dL_law_2528 : decode cL_law 2528 = .ok (.iconst 1, 1) := by decide +kernel
theorem dL_law_2529 : decode cL_law 2529 = .ok (.iadd, 1) := by decide +kernel
theorem dL_law_2530 : decode cL_law 2530 = .ok (.iaload, 1) := by decide +kernel
theorem dL_law_2531 : decode cL_law 2531 = .ok (.aload_n 0, 1) := by decide +kernel
theorem dL_law_2532 : decode cL_law 2532 = .ok (.iload 4, 2) := by decide +kernel
theorem dL_law_2534 : decode cL_law 2534 = .ok (.iconst 2, 1) := by decide +kernel
theorem dL_law_2535 : decode cL_law 2535 = .ok (.iadd, 1) := by decide +kernel
theorem dL_law_2536 : decode cL_law 2536 = .ok (.iaload, 1) := by decide +kernel
theorem dL_law_2537 : decode cL_law 2537 = .ok (.invokevirtual 279, 3) := by decide +kernel
theorem dL_law_2540 : decode cL_law 2540 = .ok (.istore 6, 2) := by decide +kernel
theorem dL_law_2542 : decode cL_law 2542 = .ok (.aload_n 2, 1) := by decide +kernel
theorem dL_law_2543 : decode cL_law 2543 = .ok (.invokevirtual 156, 3) := by decide +kernel
theorem dL_law_2546 : decode cL_law 2546 = .ok (.iload 5, 2) := by decide +kernel
theorem dL_law_2548 : decode cL_law 2548 = .ok (.if_icmp .eq 5, 3) := by decide +kernel
theorem dL_law_2551 : decode cL_law 2551 = .ok (.iconst 0, 1) := by decide +kernel
theorem dL_law_2552 : decode cL_law 2552 = .ok (.ireturn, 1) := by decide +kernel
theorem dL_law_2553 : decode cL_law 2553 = .ok (.iload 5, 2) := by decide +kernel
theorem dL_law_2555 : decode cL_law 2555 = .ok (.ifCond .ne 15, 3) := by decide +kernel
theorem dL_law_2558 : decode cL_law 2558 = .ok (.aload_n 3, 1) := by decide +kernel
theorem dL_law_2559 : decode cL_law 2559 = .ok (.iconst 0, 1) := by decide +kernel
theorem dL_law_2560 : decode cL_law 2560 = .ok (.laload, 1) := by decide +kernel
theorem dL_law_2561 : decode cL_law 2561 = .ok (.iload 6, 2) := by decide +kernel
theorem dL_law_2563 : decode cL_law 2563 = .ok (.i2l, 1) := by decide +kernel
theorem dL_law_2564 : decode cL_law 2564 = .ok (.lcmp, 1) := by decide +kernel
theorem dL_law_2565 : decode cL_law 2565 = .ok (.ifCond .eq 5, 3) := by decide +kernel
theorem dL_law_2568 : decode cL_law 2568 = .ok (.iconst 0, 1) := by decide +kernel
theorem dL_law_2569 : decode cL_law 2569 = .ok (.ireturn, 1) := by decide +kernel
theorem dL_law_2570 : decode cL_law 2570 = .ok (.goto 591, 3) := by decide +kernel
theorem dL_law_2573 : decode cL_law 2573 = .ok (.aload_n 1, 1) := by decide +kernel
theorem dL_law_2574 : decode cL_law 2574 = .ok (.aload_n 0, 1) := by decide +kernel
theorem dL_law_2575 : decode cL_law 2575 = .ok (.iload 4, 2) := by decide +kernel
theorem dL_law_2577 : decode cL_law 2577 = .ok (.iconst 1, 1) := by decide +kernel
theorem dL_law_2578 : decode cL_law 2578 = .ok (.iadd, 1) := by decide +kernel
theorem dL_law_2579 : decode cL_law 2579 = .ok (.iaload, 1) := by decide +kernel
theorem dL_law_2580 : decode cL_law 2580 = .ok (.aload_n 0, 1) := by decide +kernel
theorem dL_law_2581 : decode cL_law 2581 = .ok (.iload 4, 2) := by decide +kernel
theorem dL_law_2583 : decode cL_law 2583 = .ok (.iconst 2, 1) := by decide +kernel
theorem dL_law_2584 : decode cL_law 2584 = .ok (.iadd, 1) := by decide +kernel
theorem dL_law_2585 : decode cL_law 2585 = .ok (.iaload, 1) := by decide +kernel
theorem dL_law_2586 : decode cL_law 2586 = .ok (.aload_n 0, 1) := by decide +kernel
theorem dL_law_2587 : decode cL_law 2587 = .ok (.iload 4, 2) := by decide +kernel
theorem dL_law_2589 : decode cL_law 2589 = .ok (.iconst 3, 1) := by decide +kernel
theorem dL_law_2590 : decode cL_law 2590 = .ok (.iadd, 1) := by decide +kernel
theorem dL_law_2591 : decode cL_law 2591 = .ok (.iaload, 1) := by decide +kernel
theorem dL_law_2592 : decode cL_law 2592 = .ok (.aload_n 3, 1) := by decide +kernel
theorem dL_law_2593 : decode cL_law 2593 = .ok (.invokestatic 280, 3) := by decide +kernel
theorem dL_law_2596 : decode cL_law 2596 = .ok (.istore 5, 2) := by decide +kernel
theorem dL_law_2598 : decode cL_law 2598 = .ok (.aload_n 2, 1) := by decide +kernel
theorem dL_law_2599 : decode cL_law 2599 = .ok (.aload_n 0, 1) := by decide +kernel
theorem dL_law_2600 : decode cL_law 2600 = .ok (.iload 4, 2) := by decide +kernel
theorem dL_law_2602 : decode cL_law 2602 = .ok (.iconst 1, 1) := by decide +kernel
theorem dL_law_2603 : decode cL_law 2603 = .ok (.iadd, 1) := by decide +kernel
theorem dL_law_2604 : decode cL_law 2604 = .ok (.iaload, 1) := by decide +kernel
theorem dL_law_2605 : decode cL_law 2605 = .ok (.aload_n 0, 1) := by decide +kernel
theorem dL_law_2606 : decode cL_law 2606 = .ok (.iload 4, 2) := by decide +kernel
theorem dL_law_2608 : decode cL_law 2608 = .ok (.iconst 2, 1) := by decide +kernel
theorem dL_law_2609 : decode cL_law 2609 = .ok (.iadd, 1) := by decide +kernel
theorem dL_law_2610 : decode cL_law 2610 = .ok (.iaload, 1) := by decide +kernel
theorem dL_law_2611 : decode cL_law 2611 = .ok (.aload_n 0, 1) := by decide +kernel
theorem dL_law_2612 : decode cL_law 2612 = .ok (.iload 4, 2) := by decide +kernel
theorem dL_law_2614 : decode cL_law 2614 = .ok (.iconst 3, 1) := by decide +kernel
theorem dL_law_2615 : decode cL_law 2615 = .ok (.iadd, 1) := by decide +kernel
theorem dL_law_2616 : decode cL_law 2616 = .ok (.iaload, 1) := by decide +kernel
theorem dL_law_2617 : decode cL_law 2617 = .ok (.invokevirtual 282, 3) := by decide +kernel
theorem dL_law_2620 : decode cL_law 2620 = .ok (.istore 6, 2) := by decide +kernel
theorem dL_law_2622 : decode cL_law 2622 = .ok (.aload_n 2, 1) := by decide +kernel
theorem dL_law_2623 : decode cL_law 2623 = .ok (.invokevirtual 156, 3) := by decide +kernel
theorem dL_law_2626 : decode cL_law 2626 = .ok (.iload 5, 2) := by decide +kernel
theorem dL_law_2628 : decode cL_law 2628 = .ok (.if_icmp .eq 5, 3) := by decide +kernel
theorem dL_law_2631 : decode cL_law 2631 = .ok (.iconst 0, 1) := by decide +kernel
theorem dL_law_2632 : decode cL_law 2632 = .ok (.ireturn, 1) := by decide +kernel
theorem dL_law_2633 : decode cL_law 2633 = .ok (.iload 5, 2) := by decide +kernel
theorem dL_law_2635 : decode cL_law 2635 = .ok (.ifCond .ne 15, 3) := by decide +kernel
theorem dL_law_2638 : decode cL_law 2638 = .ok (.aload_n 3, 1) := by decide +kernel
theorem dL_law_2639 : decode cL_law 2639 = .ok (.iconst 0, 1) := by decide +kernel
theorem dL_law_2640 : decode cL_law 2640 = .ok (.laload, 1) := by decide +kernel
theorem dL_law_2641 : decode cL_law 2641 = .ok (.iload 6, 2) := by decide +kernel
theorem dL_law_2643 : decode cL_law 2643 = .ok (.i2l, 1) := by decide +kernel
theorem dL_law_2644 : decode cL_law 2644 = .ok (.lcmp, 1) := by decide +kernel
theorem dL_law_2645 : decode cL_law 2645 = .ok (.ifCond .eq 5, 3) := by decide +kernel
theorem dL_law_2648 : decode cL_law 2648 = .ok (.iconst 0, 1) := by decide +kernel
theorem dL_law_2649 : decode cL_law 2649 = .ok (.ireturn, 1) := by decide +kernel
theorem dL_law_2650 : decode cL_law 2650 = .ok (.goto 511, 3) := by decide +kernel
theorem dL_law_2653 : decode cL_law 2653 = .ok (.aload_n 1, 1) := by decide +kernel
theorem dL_law_2654 : decode cL_law 2654 = .ok (.aload_n 0, 1) := by decide +kernel
theorem dL_law_2655 : decode cL_law 2655 = .ok (.iload 4, 2) := by decide +kernel
theorem dL_law_2657 : decode cL_law 2657 = .ok (.iconst 1, 1) := by decide +kernel
theorem dL_law_2658 : decode cL_law 2658 = .ok (.iadd, 1) := by decide +kernel
theorem dL_law_2659 : decode cL_law 2659 = .ok (.iaload, 1) := by decide +kernel
theorem dL_law_2660 : decode cL_law 2660 = .ok (.aload_n 0, 1) := by decide +kernel
theorem dL_law_2661 : decode cL_law 2661 = .ok (.iload 4, 2) := by decide +kernel
theorem dL_law_2663 : decode cL_law 2663 = .ok (.iconst 2, 1) := by decide +kernel
theorem dL_law_2664 : decode cL_law 2664 = .ok (.iadd, 1) := by decide +kernel
theorem dL_law_2665 : decode cL_law 2665 = .ok (.iaload, 1) := by decide +kernel
theorem dL_law_2666 : decode cL_law 2666 = .ok (.aload_n 0, 1) := by decide +kernel
theorem dL_law_2667 : decode cL_law 2667 = .ok (.iload 4, 2) := by decide +kernel
theorem dL_law_2669 : decode cL_law 2669 = .ok (.iconst 3, 1) := by decide +kernel
theorem dL_law_2670 : decode cL_law 2670 = .ok (.iadd, 1) := by decide +kernel
theorem dL_law_2671 : decode cL_law 2671 = .ok (.iaload, 1) := by decide +kernel
theorem dL_law_2672 : decode cL_law 2672 = .ok (.aload_n 0, 1) := by decide +kernel
theorem dL_law_2673 : decode cL_law 2673 = .ok (.iload 4, 2) := by decide +kernel
theorem dL_law_2675 : decode cL_law 2675 = .ok (.iconst 4, 1) := by decide +kernel
theorem dL_law_2676 : decode cL_law 2676 = .ok (.iadd, 1) := by decide +kernel
theorem dL_law_2677 : decode cL_law 2677 = .ok (.iaload, 1) := by decide +kernel
theorem dL_law_2678 : decode cL_law 2678 = .ok (.aload_n 3, 1) := by decide +kernel
theorem dL_law_2679 : decode cL_law 2679 = .ok (.invokestatic 283, 3) := by decide +kernel
theorem dL_law_2682 : decode cL_law 2682 = .ok (.istore 5, 2) := by decide +kernel
theorem dL_law_2684 : decode cL_law 2684 = .ok (.aload_n 2, 1) := by decide +kernel
theorem dL_law_2685 : decode cL_law 2685 = .ok (.aload_n 0, 1) := by decide +kernel
theorem dL_law_2686 : decode cL_law 2686 = .ok (.iload 4, 2) := by decide +kernel
theorem dL_law_2688 : decode cL_law 2688 = .ok (.iconst 1, 1) := by decide +kernel
theorem dL_law_2689 : decode cL_law 2689 = .ok (.iadd, 1) := by decide +kernel
theorem dL_law_2690 : decode cL_law 2690 = .ok (.iaload, 1) := by decide +kernel
theorem dL_law_2691 : decode cL_law 2691 = .ok (.aload_n 0, 1) := by decide +kernel
theorem dL_law_2692 : decode cL_law 2692 = .ok (.iload 4, 2) := by decide +kernel
theorem dL_law_2694 : decode cL_law 2694 = .ok (.iconst 2, 1) := by decide +kernel
theorem dL_law_2695 : decode cL_law 2695 = .ok (.iadd, 1) := by decide +kernel
theorem dL_law_2696 : decode cL_law 2696 = .ok (.iaload, 1) := by decide +kernel
theorem dL_law_2697 : decode cL_law 2697 = .ok (.aload_n 0, 1) := by decide +kernel
theorem dL_law_2698 : decode cL_law 2698 = .ok (.iload 4, 2) := by decide +kernel
theorem dL_law_2700 : decode cL_law 2700 = .ok (.iconst 3, 1) := by decide +kernel
theorem dL_law_2701 : decode cL_law 2701 = .ok (.iadd, 1) := by decide +kernel
theorem dL_law_2702 : decode cL_law 2702 = .ok (.iaload, 1) := by decide +kernel
theorem dL_law_2703 : decode cL_law 2703 = .ok (.aload_n 0, 1) := by decide +kernel
theorem dL_law_2704 : decode cL_law 2704 = .ok (.iload 4, 2) := by decide +kernel
theorem dL_law_2706 : decode cL_law 2706 = .ok (.iconst 4, 1) := by decide +kernel
theorem dL_law_2707 : decode cL_law 2707 = .ok (.iadd, 1) := by decide +kernel
theorem dL_law_2708 : decode cL_law 2708 = .ok (.iaload, 1) := by decide +kernel
theorem dL_law_2709 : decode cL_law 2709 = .ok (.invokevirtual 285, 3) := by decide +kernel
theorem dL_law_2712 : decode cL_law 2712 = .ok (.istore 6, 2) := by decide +kernel
theorem dL_law_2714 : decode cL_law 2714 = .ok (.aload_n 2, 1) := by decide +kernel
theorem dL_law_2715 : decode cL_law 2715 = .ok (.invokevirtual 156, 3) := by decide +kernel
theorem dL_law_2718 : decode cL_law 2718 = .ok (.iload 5, 2) := by decide +kernel
theorem dL_law_2720 : decode cL_law 2720 = .ok (.if_icmp .eq 5, 3) := by decide +kernel
theorem dL_law_2723 : decode cL_law 2723 = .ok (.iconst 0, 1) := by decide +kernel
theorem dL_law_2724 : decode cL_law 2724 = .ok (.ireturn, 1) := by decide +kernel
theorem dL_law_2725 : decode cL_law 2725 = .ok (.iload 5, 2) := by decide +kernel
theorem dL_law_2727 : decode cL_law 2727 = .ok (.ifCond .ne 15, 3) := by decide +kernel
theorem dL_law_2730 : decode cL_law 2730 = .ok (.aload_n 3, 1) := by decide +kernel
theorem dL_law_2731 : decode cL_law 2731 = .ok (.iconst 0, 1) := by decide +kernel
theorem dL_law_2732 : decode cL_law 2732 = .ok (.laload, 1) := by decide +kernel
theorem dL_law_2733 : decode cL_law 2733 = .ok (.iload 6, 2) := by decide +kernel
theorem dL_law_2735 : decode cL_law 2735 = .ok (.i2l, 1) := by decide +kernel
theorem dL_law_2736 : decode cL_law 2736 = .ok (.lcmp, 1) := by decide +kernel
theorem dL_law_2737 : decode cL_law 2737 = .ok (.ifCond .eq 5, 3) := by decide +kernel
theorem dL_law_2740 : decode cL_law 2740 = .ok (.iconst 0, 1) := by decide +kernel
theorem dL_law_2741 : decode cL_law 2741 = .ok (.ireturn, 1) := by decide +kernel
theorem dL_law_2742 : decode cL_law 2742 = .ok (.goto 419, 3) := by decide +kernel
theorem dL_law_2745 : decode cL_law 2745 = .ok (.aload_n 1, 1) := by decide +kernel
theorem dL_law_2746 : decode cL_law 2746 = .ok (.aload_n 0, 1) := by decide +kernel
theorem dL_law_2747 : decode cL_law 2747 = .ok (.iload 4, 2) := by decide +kernel
theorem dL_law_2749 : decode cL_law 2749 = .ok (.iconst 1, 1) := by decide +kernel
theorem dL_law_2750 : decode cL_law 2750 = .ok (.iadd, 1) := by decide +kernel
theorem dL_law_2751 : decode cL_law 2751 = .ok (.iaload, 1) := by decide +kernel
theorem dL_law_2752 : decode cL_law 2752 = .ok (.aload_n 0, 1) := by decide +kernel
theorem dL_law_2753 : decode cL_law 2753 = .ok (.iload 4, 2) := by decide +kernel
theorem dL_law_2755 : decode cL_law 2755 = .ok (.iconst 2, 1) := by decide +kernel
theorem dL_law_2756 : decode cL_law 2756 = .ok (.iadd, 1) := by decide +kernel
theorem dL_law_2757 : decode cL_law 2757 = .ok (.iaload, 1) := by decide +kernel
theorem dL_law_2758 : decode cL_law 2758 = .ok (.aload_n 0, 1) := by decide +kernel
theorem dL_law_2759 : decode cL_law 2759 = .ok (.iload 4, 2) := by decide +kernel
theorem dL_law_2761 : decode cL_law 2761 = .ok (.iconst 3, 1) := by decide +kernel
theorem dL_law_2762 : decode cL_law 2762 = .ok (.iadd, 1) := by decide +kernel
theorem dL_law_2763 : decode cL_law 2763 = .ok (.iaload, 1) := by decide +kernel
theorem dL_law_2764 : decode cL_law 2764 = .ok (.aload_n 0, 1) := by decide +kernel
theorem dL_law_2765 : decode cL_law 2765 = .ok (.iload 4, 2) := by decide +kernel
theorem dL_law_2767 : decode cL_law 2767 = .ok (.iconst 4, 1) := by decide +kernel
theorem dL_law_2768 : decode cL_law 2768 = .ok (.iadd, 1) := by decide +kernel
theorem dL_law_2769 : decode cL_law 2769 = .ok (.iaload, 1) := by decide +kernel
theorem dL_law_2770 : decode cL_law 2770 = .ok (.aload_n 3, 1) := by decide +kernel
theorem dL_law_2771 : decode cL_law 2771 = .ok (.invokestatic 286, 3) := by decide +kernel
theorem dL_law_2774 : decode cL_law 2774 = .ok (.istore 5, 2) := by decide +kernel
theorem dL_law_2776 : decode cL_law 2776 = .ok (.aload_n 2, 1) := by decide +kernel
theorem dL_law_2777 : decode cL_law 2777 = .ok (.aload_n 0, 1) := by decide +kernel
theorem dL_law_2778 : decode cL_law 2778 = .ok (.iload 4, 2) := by decide +kernel
theorem dL_law_2780 : decode cL_law 2780 = .ok (.iconst 1, 1) := by decide +kernel
theorem dL_law_2781 : decode cL_law 2781 = .ok (.iadd, 1) := by decide +kernel
theorem dL_law_2782 : decode cL_law 2782 = .ok (.iaload, 1) := by decide +kernel
theorem dL_law_2783 : decode cL_law 2783 = .ok (.aload_n 0, 1) := by decide +kernel
theorem dL_law_2784 : decode cL_law 2784 = .ok (.iload 4, 2) := by decide +kernel
theorem dL_law_2786 : decode cL_law 2786 = .ok (.iconst 2, 1) := by decide +kernel
theorem dL_law_2787 : decode cL_law 2787 = .ok (.iadd, 1) := by decide +kernel
theorem dL_law_2788 : decode cL_law 2788 = .ok (.iaload, 1) := by decide +kernel
theorem dL_law_2789 : decode cL_law 2789 = .ok (.aload_n 0, 1) := by decide +kernel
theorem dL_law_2790 : decode cL_law 2790 = .ok (.iload 4, 2) := by decide +kernel
theorem dL_law_2792 : decode cL_law 2792 = .ok (.iconst 3, 1) := by decide +kernel
theorem dL_law_2793 : decode cL_law 2793 = .ok (.iadd, 1) := by decide +kernel
theorem dL_law_2794 : decode cL_law 2794 = .ok (.iaload, 1) := by decide +kernel
theorem dL_law_2795 : decode cL_law 2795 = .ok (.aload_n 0, 1) := by decide +kernel
theorem dL_law_2796 : decode cL_law 2796 = .ok (.iload 4, 2) := by decide +kernel
theorem dL_law_2798 : decode cL_law 2798 = .ok (.iconst 4, 1) := by decide +kernel
theorem dL_law_2799 : decode cL_law 2799 = .ok (.iadd, 1) := by decide +kernel
theorem dL_law_2800 : decode cL_law 2800 = .ok (.iaload, 1) := by decide +kernel
theorem dL_law_2801 : decode cL_law 2801 = .ok (.invokevirtual 288, 3) := by decide +kernel
theorem dL_law_2804 : decode cL_law 2804 = .ok (.istore 6, 2) := by decide +kernel
theorem dL_law_2806 : decode cL_law 2806 = .ok (.aload_n 2, 1) := by decide +kernel
theorem dL_law_2807 : decode cL_law 2807 = .ok (.invokevirtual 156, 3) := by decide +kernel
theorem dL_law_2810 : decode cL_law 2810 = .ok (.iload 5, 2) := by decide +kernel
theorem dL_law_2812 : decode cL_law 2812 = .ok (.if_icmp .eq 5, 3) := by decide +kernel
theorem dL_law_2815 : decode cL_law 2815 = .ok (.iconst 0, 1) := by decide +kernel
theorem dL_law_2816 : decode cL_law 2816 = .ok (.ireturn, 1) := by decide +kernel
theorem dL_law_2817 : decode cL_law 2817 = .ok (.iload 5, 2) := by decide +kernel
theorem dL_law_2819 : decode cL_law 2819 = .ok (.ifCond .ne 15, 3) := by decide +kernel
theorem dL_law_2822 : decode cL_law 2822 = .ok (.aload_n 3, 1) := by decide +kernel
theorem dL_law_2823 : decode cL_law 2823 = .ok (.iconst 0, 1) := by decide +kernel
theorem dL_law_2824 : decode cL_law 2824 = .ok (.laload, 1) := by decide +kernel
theorem dL_law_2825 : decode cL_law 2825 = .ok (.iload 6, 2) := by decide +kernel
theorem dL_law_2827 : decode cL_law 2827 = .ok (.i2l, 1) := by decide +kernel
theorem dL_law_2828 : decode cL_law 2828 = .ok (.lcmp, 1) := by decide +kernel
theorem dL_law_2829 : decode cL_law 2829 = .ok (.ifCond .eq 5, 3) := by decide +kernel
theorem dL_law_2832 : decode cL_law 2832 = .ok (.iconst 0, 1) := by decide +kernel
theorem dL_law_2833 : decode cL_law 2833 = .ok (.ireturn, 1) := by decide +kernel
theorem dL_law_2834 : decode cL_law 2834 = .ok (.goto 327, 3) := by decide +kernel
theorem dL_law_2837 : decode cL_law 2837 = .ok (.aload_n 1, 1) := by decide +kernel
theorem dL_law_2838 : decode cL_law 2838 = .ok (.aload_n 0, 1) := by decide +kernel
theorem dL_law_2839 : decode cL_law 2839 = .ok (.iload 4, 2) := by decide +kernel
theorem dL_law_2841 : decode cL_law 2841 = .ok (.iconst 1, 1) := by decide +kernel
theorem dL_law_2842 : decode cL_law 2842 = .ok (.iadd, 1) := by decide +kernel
theorem dL_law_2843 : decode cL_law 2843 = .ok (.iaload, 1) := by decide +kernel
theorem dL_law_2844 : decode cL_law 2844 = .ok (.aload_n 0, 1) := by decide +kernel
theorem dL_law_2845 : decode cL_law 2845 = .ok (.iload 4, 2) := by decide +kernel
theorem dL_law_2847 : decode cL_law 2847 = .ok (.iconst 2, 1) := by decide +kernel
theorem dL_law_2848 : decode cL_law 2848 = .ok (.iadd, 1) := by decide +kernel
theorem dL_law_2849 : decode cL_law 2849 = .ok (.iaload, 1) := by decide +kernel
theorem dL_law_2850 : decode cL_law 2850 = .ok (.aload_n 0, 1) := by decide +kernel
theorem dL_law_2851 : decode cL_law 2851 = .ok (.iload 4, 2) := by decide +kernel
theorem dL_law_2853 : decode cL_law 2853 = .ok (.iconst 3, 1) := by decide +kernel
theorem dL_law_2854 : decode cL_law 2854 = .ok (.iadd, 1) := by decide +kernel
theorem dL_law_2855 : decode cL_law 2855 = .ok (.iaload, 1) := by decide +kernel
theorem dL_law_2856 : decode cL_law 2856 = .ok (.invokestatic 289, 3) := by decide +kernel
theorem dL_law_2859 : decode cL_law 2859 = .ok (.istore 5, 2) := by decide +kernel
theorem dL_law_2861 : decode cL_law 2861 = .ok (.aload_n 2, 1) := by decide +kernel
theorem dL_law_2862 : decode cL_law 2862 = .ok (.aload_n 0, 1) := by decide +kernel
theorem dL_law_2863 : decode cL_law 2863 = .ok (.iload 4, 2) := by decide +kernel
theorem dL_law_2865 : decode cL_law 2865 = .ok (.iconst 1, 1) := by decide +kernel
theorem dL_law_2866 : decode cL_law 2866 = .ok (.iadd, 1) := by decide +kernel
theorem dL_law_2867 : decode cL_law 2867 = .ok (.iaload, 1) := by decide +kernel
theorem dL_law_2868 : decode cL_law 2868 = .ok (.aload_n 0, 1) := by decide +kernel
theorem dL_law_2869 : decode cL_law 2869 = .ok (.iload 4, 2) := by decide +kernel
theorem dL_law_2871 : decode cL_law 2871 = .ok (.iconst 2, 1) := by decide +kernel
theorem dL_law_2872 : decode cL_law 2872 = .ok (.iadd, 1) := by decide +kernel
theorem dL_law_2873 : decode cL_law 2873 = .ok (.iaload, 1) := by decide +kernel
theorem dL_law_2874 : decode cL_law 2874 = .ok (.aload_n 0, 1) := by decide +kernel
theorem dL_law_2875 : decode cL_law 2875 = .ok (.iload 4, 2) := by decide +kernel
theorem dL_law_2877 : decode cL_law 2877 = .ok (.iconst 3, 1) := by decide +kernel
theorem dL_law_2878 : decode cL_law 2878 = .ok (.iadd, 1) := by decide +kernel
theorem dL_law_2879 : decode cL_law 2879 = .ok (.iaload, 1) := by decide +kernel
theorem dL_law_2880 : decode cL_law 2880 = .ok (.invokevirtual 292, 3) := by decide +kernel
theorem dL_law_2883 : decode cL_law 2883 = .ok (.aload_n 2, 1) := by decide +kernel
theorem dL_law_2884 : decode cL_law 2884 = .ok (.invokevirtual 156, 3) := by decide +kernel
theorem dL_law_2887 : decode cL_law 2887 = .ok (.iload 5, 2) := by decide +kernel
theorem dL_law_2889 : decode cL_law 2889 = .ok (.if_icmp .eq 5, 3) := by decide +kernel
theorem dL_law_2892 : decode cL_law 2892 = .ok (.iconst 0, 1) := by decide +kernel
theorem dL_law_2893 : decode cL_law 2893 = .ok (.ireturn, 1) := by decide +kernel
theorem dL_law_2894 : decode cL_law 2894 = .ok (.goto 267, 3) := by decide +kernel
theorem dL_law_2897 : decode cL_law 2897 = .ok (.aload_n 1, 1) := by decide +kernel
theorem dL_law_2898 : decode cL_law 2898 = .ok (.aload_n 0, 1) := by decide +kernel
theorem dL_law_2899 : decode cL_law 2899 = .ok (.iload 4, 2) := by decide +kernel
theorem dL_law_2901 : decode cL_law 2901 = .ok (.iconst 1, 1) := by decide +kernel
theorem dL_law_2902 : decode cL_law 2902 = .ok (.iadd, 1) := by decide +kernel
theorem dL_law_2903 : decode cL_law 2903 = .ok (.iaload, 1) := by decide +kernel
theorem dL_law_2904 : decode cL_law 2904 = .ok (.aload_n 0, 1) := by decide +kernel
theorem dL_law_2905 : decode cL_law 2905 = .ok (.iload 4, 2) := by decide +kernel
theorem dL_law_2907 : decode cL_law 2907 = .ok (.iconst 2, 1) := by decide +kernel
theorem dL_law_2908 : decode cL_law 2908 = .ok (.iadd, 1) := by decide +kernel
theorem dL_law_2909 : decode cL_law 2909 = .ok (.iaload, 1) := by decide +kernel
theorem dL_law_2910 : decode cL_law 2910 = .ok (.aload_n 0, 1) := by decide +kernel
theorem dL_law_2911 : decode cL_law 2911 = .ok (.iload 4, 2) := by decide +kernel
theorem dL_law_2913 : decode cL_law 2913 = .ok (.iconst 3, 1) := by decide +kernel
theorem dL_law_2914 : decode cL_law 2914 = .ok (.iadd, 1) := by decide +kernel
theorem dL_law_2915 : decode cL_law 2915 = .ok (.iaload, 1) := by decide +kernel
theorem dL_law_2916 : decode cL_law 2916 = .ok (.i2l, 1) := by decide +kernel
theorem dL_law_2917 : decode cL_law 2917 = .ok (.bipush 32, 2) := by decide +kernel
theorem dL_law_2919 : decode cL_law 2919 = .ok (.lshl, 1) := by decide +kernel
theorem dL_law_2920 : decode cL_law 2920 = .ok (.aload_n 0, 1) := by decide +kernel
theorem dL_law_2921 : decode cL_law 2921 = .ok (.iload 4, 2) := by decide +kernel
theorem dL_law_2923 : decode cL_law 2923 = .ok (.iconst 4, 1) := by decide +kernel
theorem dL_law_2924 : decode cL_law 2924 = .ok (.iadd, 1) := by decide +kernel
theorem dL_law_2925 : decode cL_law 2925 = .ok (.iaload, 1) := by decide +kernel
theorem dL_law_2926 : decode cL_law 2926 = .ok (.i2l, 1) := by decide +kernel
theorem dL_law_2927 : decode cL_law 2927 = .ok (.ldc2_w 293, 3) := by decide +kernel
theorem dL_law_2930 : decode cL_law 2930 = .ok (.land, 1) := by decide +kernel
theorem dL_law_2931 : decode cL_law 2931 = .ok (.lor, 1) := by decide +kernel
theorem dL_law_2932 : decode cL_law 2932 = .ok (.aload_n 3, 1) := by decide +kernel
theorem dL_law_2933 : decode cL_law 2933 = .ok (.invokestatic 295, 3) := by decide +kernel
theorem dL_law_2936 : decode cL_law 2936 = .ok (.istore 5, 2) := by decide +kernel
theorem dL_law_2938 : decode cL_law 2938 = .ok (.aload_n 2, 1) := by decide +kernel
theorem dL_law_2939 : decode cL_law 2939 = .ok (.aload_n 0, 1) := by decide +kernel
theorem dL_law_2940 : decode cL_law 2940 = .ok (.iload 4, 2) := by decide +kernel
theorem dL_law_2942 : decode cL_law 2942 = .ok (.iconst 1, 1) := by decide +kernel
theorem dL_law_2943 : decode cL_law 2943 = .ok (.iadd, 1) := by decide +kernel
theorem dL_law_2944 : decode cL_law 2944 = .ok (.iaload, 1) := by decide +kernel
theorem dL_law_2945 : decode cL_law 2945 = .ok (.aload_n 0, 1) := by decide +kernel
theorem dL_law_2946 : decode cL_law 2946 = .ok (.iload 4, 2) := by decide +kernel
theorem dL_law_2948 : decode cL_law 2948 = .ok (.iconst 2, 1) := by decide +kernel
theorem dL_law_2949 : decode cL_law 2949 = .ok (.iadd, 1) := by decide +kernel
theorem dL_law_2950 : decode cL_law 2950 = .ok (.iaload, 1) := by decide +kernel
theorem dL_law_2951 : decode cL_law 2951 = .ok (.aload_n 0, 1) := by decide +kernel
theorem dL_law_2952 : decode cL_law 2952 = .ok (.iload 4, 2) := by decide +kernel
theorem dL_law_2954 : decode cL_law 2954 = .ok (.iconst 3, 1) := by decide +kernel
theorem dL_law_2955 : decode cL_law 2955 = .ok (.iadd, 1) := by decide +kernel
theorem dL_law_2956 : decode cL_law 2956 = .ok (.iaload, 1) := by decide +kernel
theorem dL_law_2957 : decode cL_law 2957 = .ok (.i2l, 1) := by decide +kernel
theorem dL_law_2958 : decode cL_law 2958 = .ok (.bipush 32, 2) := by decide +kernel
theorem dL_law_2960 : decode cL_law 2960 = .ok (.lshl, 1) := by decide +kernel
theorem dL_law_2961 : decode cL_law 2961 = .ok (.aload_n 0, 1) := by decide +kernel
theorem dL_law_2962 : decode cL_law 2962 = .ok (.iload 4, 2) := by decide +kernel
theorem dL_law_2964 : decode cL_law 2964 = .ok (.iconst 4, 1) := by decide +kernel
theorem dL_law_2965 : decode cL_law 2965 = .ok (.iadd, 1) := by decide +kernel
theorem dL_law_2966 : decode cL_law 2966 = .ok (.iaload, 1) := by decide +kernel
theorem dL_law_2967 : decode cL_law 2967 = .ok (.i2l, 1) := by decide +kernel
theorem dL_law_2968 : decode cL_law 2968 = .ok (.ldc2_w 293, 3) := by decide +kernel
theorem dL_law_2971 : decode cL_law 2971 = .ok (.land, 1) := by decide +kernel
theorem dL_law_2972 : decode cL_law 2972 = .ok (.lor, 1) := by decide +kernel
theorem dL_law_2973 : decode cL_law 2973 = .ok (.invokevirtual 298, 3) := by decide +kernel
theorem dL_law_2976 : decode cL_law 2976 = .ok (.lstore 6, 2) := by decide +kernel
theorem dL_law_2978 : decode cL_law 2978 = .ok (.aload_n 2, 1) := by decide +kernel
theorem dL_law_2979 : decode cL_law 2979 = .ok (.invokevirtual 156, 3) := by decide +kernel
theorem dL_law_2982 : decode cL_law 2982 = .ok (.iload 5, 2) := by decide +kernel
theorem dL_law_2984 : decode cL_law 2984 = .ok (.if_icmp .eq 5, 3) := by decide +kernel
theorem dL_law_2987 : decode cL_law 2987 = .ok (.iconst 0, 1) := by decide +kernel
theorem dL_law_2988 : decode cL_law 2988 = .ok (.ireturn, 1) := by decide +kernel
theorem dL_law_2989 : decode cL_law 2989 = .ok (.iload 5, 2) := by decide +kernel
theorem dL_law_2991 : decode cL_law 2991 = .ok (.ifCond .ne 14, 3) := by decide +kernel
theorem dL_law_2994 : decode cL_law 2994 = .ok (.aload_n 3, 1) := by decide +kernel
theorem dL_law_2995 : decode cL_law 2995 = .ok (.iconst 0, 1) := by decide +kernel
theorem dL_law_2996 : decode cL_law 2996 = .ok (.laload, 1) := by decide +kernel
theorem dL_law_2997 : decode cL_law 2997 = .ok (.lload 6, 2) := by decide +kernel
theorem dL_law_2999 : decode cL_law 2999 = .ok (.lcmp, 1) := by decide +kernel
theorem dL_law_3000 : decode cL_law 3000 = .ok (.ifCond .eq 5, 3) := by decide +kernel
theorem dL_law_3003 : decode cL_law 3003 = .ok (.iconst 0, 1) := by decide +kernel
theorem dL_law_3004 : decode cL_law 3004 = .ok (.ireturn, 1) := by decide +kernel
theorem dL_law_3005 : decode cL_law 3005 = .ok (.goto 156, 3) := by decide +kernel
theorem dL_law_3008 : decode cL_law 3008 = .ok (.aload_n 1, 1) := by decide +kernel
theorem dL_law_3009 : decode cL_law 3009 = .ok (.aload_n 0, 1) := by decide +kernel
theorem dL_law_3010 : decode cL_law 3010 = .ok (.iload 4, 2) := by decide +kernel
theorem dL_law_3012 : decode cL_law 3012 = .ok (.iconst 1, 1) := by decide +kernel
theorem dL_law_3013 : decode cL_law 3013 = .ok (.iadd, 1) := by decide +kernel
theorem dL_law_3014 : decode cL_law 3014 = .ok (.iaload, 1) := by decide +kernel
theorem dL_law_3015 : decode cL_law 3015 = .ok (.aload_n 3, 1) := by decide +kernel
theorem dL_law_3016 : decode cL_law 3016 = .ok (.invokestatic 299, 3) := by decide +kernel
theorem dL_law_3019 : decode cL_law 3019 = .ok (.istore 5, 2) := by decide +kernel
theorem dL_law_3021 : decode cL_law 3021 = .ok (.aload_n 2, 1) := by decide +kernel
theorem dL_law_3022 : decode cL_law 3022 = .ok (.aload_n 0, 1) := by decide +kernel
theorem dL_law_3023 : decode cL_law 3023 = .ok (.iload 4, 2) := by decide +kernel
theorem dL_law_3025 : decode cL_law 3025 = .ok (.iconst 1, 1) := by decide +kernel
theorem dL_law_3026 : decode cL_law 3026 = .ok (.iadd, 1) := by decide +kernel
theorem dL_law_3027 : decode cL_law 3027 = .ok (.iaload, 1) := by decide +kernel
theorem dL_law_3028 : decode cL_law 3028 = .ok (.invokevirtual 301, 3) := by decide +kernel
theorem dL_law_3031 : decode cL_law 3031 = .ok (.istore 6, 2) := by decide +kernel
theorem dL_law_3033 : decode cL_law 3033 = .ok (.aload_n 2, 1) := by decide +kernel
theorem dL_law_3034 : decode cL_law 3034 = .ok (.invokevirtual 156, 3) := by decide +kernel
theorem dL_law_3037 : decode cL_law 3037 = .ok (.iload 5, 2) := by decide +kernel
theorem dL_law_3039 : decode cL_law 3039 = .ok (.if_icmp .eq 5, 3) := by decide +kernel
theorem dL_law_3042 : decode cL_law 3042 = .ok (.iconst 0, 1) := by decide +kernel
theorem dL_law_3043 : decode cL_law 3043 = .ok (.ireturn, 1) := by decide +kernel
theorem dL_law_3044 : decode cL_law 3044 = .ok (.iload 5, 2) := by decide +kernel
theorem dL_law_3046 : decode cL_law 3046 = .ok (.ifCond .ne 15, 3) := by decide +kernel
theorem dL_law_3049 : decode cL_law 3049 = .ok (.aload_n 3, 1) := by decide +kernel
theorem dL_law_3050 : decode cL_law 3050 = .ok (.iconst 0, 1) := by decide +kernel
theorem dL_law_3051 : decode cL_law 3051 = .ok (.laload, 1) := by decide +kernel
theorem dL_law_3052 : decode cL_law 3052 = .ok (.iload 6, 2) := by decide +kernel
theorem dL_law_3054 : decode cL_law 3054 = .ok (.i2l, 1) := by decide +kernel
theorem dL_law_3055 : decode cL_law 3055 = .ok (.lcmp, 1) := by decide +kernel
theorem dL_law_3056 : decode cL_law 3056 = .ok (.ifCond .eq 5, 3) := by decide +kernel
theorem dL_law_3059 : decode cL_law 3059 = .ok (.iconst 0, 1) := by decide +kernel
theorem dL_law_3060 : decode cL_law 3060 = .ok (.ireturn, 1) := by decide +kernel
theorem dL_law_3061 : decode cL_law 3061 = .ok (.goto 100, 3) := by decide +kernel
theorem dL_law_3064 : decode cL_law 3064 = .ok (.aload_n 1, 1) := by decide +kernel
theorem dL_law_3065 : decode cL_law 3065 = .ok (.aload_n 0, 1) := by decide +kernel
theorem dL_law_3066 : decode cL_law 3066 = .ok (.iload 4, 2) := by decide +kernel
theorem dL_law_3068 : decode cL_law 3068 = .ok (.iconst 1, 1) := by decide +kernel
theorem dL_law_3069 : decode cL_law 3069 = .ok (.iadd, 1) := by decide +kernel
theorem dL_law_3070 : decode cL_law 3070 = .ok (.iaload, 1) := by decide +kernel
theorem dL_law_3071 : decode cL_law 3071 = .ok (.invokestatic 302, 3) := by decide +kernel
theorem dL_law_3074 : decode cL_law 3074 = .ok (.istore 5, 2) := by decide +kernel
theorem dL_law_3076 : decode cL_law 3076 = .ok (.aload_n 2, 1) := by decide +kernel
theorem dL_law_3077 : decode cL_law 3077 = .ok (.aload_n 0, 1) := by decide +kernel
theorem dL_law_3078 : decode cL_law 3078 = .ok (.iload 4, 2) := by decide +kernel
theorem dL_law_3080 : decode cL_law 3080 = .ok (.iconst 1, 1) := by decide +kernel
theorem dL_law_3081 : decode cL_law 3081 = .ok (.iadd, 1) := by decide +kernel
theorem dL_law_3082 : decode cL_law 3082 = .ok (.iaload, 1) := by decide +kernel
theorem dL_law_3083 : decode cL_law 3083 = .ok (.invokevirtual 305, 3) := by decide +kernel
theorem dL_law_3086 : decode cL_law 3086 = .ok (.aload_n 2, 1) := by decide +kernel
theorem dL_law_3087 : decode cL_law 3087 = .ok (.invokevirtual 156, 3) := by decide +kernel
theorem dL_law_3090 : decode cL_law 3090 = .ok (.iload 5, 2) := by decide +kernel
theorem dL_law_3092 : decode cL_law 3092 = .ok (.if_icmp .eq 5, 3) := by decide +kernel
theorem dL_law_3095 : decode cL_law 3095 = .ok (.iconst 0, 1) := by decide +kernel
theorem dL_law_3096 : decode cL_law 3096 = .ok (.ireturn, 1) := by decide +kernel
theorem dL_law_3097 : decode cL_law 3097 = .ok (.goto 64, 3) := by decide +kernel
theorem dL_law_3100 : decode cL_law 3100 = .ok (.aload_n 1, 1) := by decide +kernel
theorem dL_law_3101 : decode cL_law 3101 = .ok (.aload_n 0, 1) := by decide +kernel
theorem dL_law_3102 : decode cL_law 3102 = .ok (.iload 4, 2) := by decide +kernel
theorem dL_law_3104 : decode cL_law 3104 = .ok (.iconst 1, 1) := by decide +kernel
theorem dL_law_3105 : decode cL_law 3105 = .ok (.iadd, 1) := by decide +kernel
theorem dL_law_3106 : decode cL_law 3106 = .ok (.iaload, 1) := by decide +kernel
theorem dL_law_3107 : decode cL_law 3107 = .ok (.invokestatic 306, 3) := by decide +kernel
theorem dL_law_3110 : decode cL_law 3110 = .ok (.istore 5, 2) := by decide +kernel
theorem dL_law_3112 : decode cL_law 3112 = .ok (.aload_n 2, 1) := by decide +kernel
theorem dL_law_3113 : decode cL_law 3113 = .ok (.aload_n 0, 1) := by decide +kernel
theorem dL_law_3114 : decode cL_law 3114 = .ok (.iload 4, 2) := by decide +kernel
theorem dL_law_3116 : decode cL_law 3116 = .ok (.iconst 1, 1) := by decide +kernel
theorem dL_law_3117 : decode cL_law 3117 = .ok (.iadd, 1) := by decide +kernel
theorem dL_law_3118 : decode cL_law 3118 = .ok (.iaload, 1) := by decide +kernel
theorem dL_law_3119 : decode cL_law 3119 = .ok (.invokevirtual 308, 3) := by decide +kernel
theorem dL_law_3122 : decode cL_law 3122 = .ok (.aload_n 2, 1) := by decide +kernel
theorem dL_law_3123 : decode cL_law 3123 = .ok (.invokevirtual 156, 3) := by decide +kernel
theorem dL_law_3126 : decode cL_law 3126 = .ok (.iload 5, 2) := by decide +kernel
theorem dL_law_3128 : decode cL_law 3128 = .ok (.if_icmp .eq 5, 3) := by decide +kernel
theorem dL_law_3131 : decode cL_law 3131 = .ok (.iconst 0, 1) := by decide +kernel
theorem dL_law_3132 : decode cL_law 3132 = .ok (.ireturn, 1) := by decide +kernel
theorem dL_law_3133 : decode cL_law 3133 = .ok (.goto 28, 3) := by decide +kernel
theorem dL_law_3136 : decode cL_law 3136 = .ok (.aload_n 1, 1) := by decide +kernel
theorem dL_law_3137 : decode cL_law 3137 = .ok (.aload_n 0, 1) := by decide +kernel
theorem dL_law_3138 : decode cL_law 3138 = .ok (.iload 4, 2) := by decide +kernel
theorem dL_law_3140 : decode cL_law 3140 = .ok (.iconst 1, 1) := by decide +kernel
theorem dL_law_3141 : decode cL_law 3141 = .ok (.iadd, 1) := by decide +kernel
theorem dL_law_3142 : decode cL_law 3142 = .ok (.iaload, 1) := by decide +kernel
theorem dL_law_3143 : decode cL_law 3143 = .ok (.invokevirtual 309, 3) := by decide +kernel
theorem dL_law_3146 : decode cL_law 3146 = .ok (.aload_n 2, 1) := by decide +kernel
theorem dL_law_3147 : decode cL_law 3147 = .ok (.aload_n 0, 1) := by decide +kernel
theorem dL_law_3148 : decode cL_law 3148 = .ok (.iload 4, 2) := by decide +kernel
theorem dL_law_3150 : decode cL_law 3150 = .ok (.iconst 1, 1) := by decide +kernel
theorem dL_law_3151 : decode cL_law 3151 = .ok (.iadd, 1) := by decide +kernel
theorem dL_law_3152 : decode cL_law 3152 = .ok (.iaload, 1) := by decide +kernel
theorem dL_law_3153 : decode cL_law 3153 = .ok (.invokevirtual 312, 3) := by decide +kernel
theorem dL_law_3156 : decode cL_law 3156 = .ok (.if_icmp .eq 5, 3) := by decide +kernel
theorem dL_law_3159 : decode cL_law 3159 = .ok (.iconst 0, 1) := by decide +kernel
theorem dL_law_3160 : decode cL_law 3160 = .ok (.ireturn, 1) := by decide +kernel
theorem dL_law_3161 : decode cL_law 3161 = .ok (.iinc 4 7, 3) := by decide +kernel
theorem dL_law_3164 : decode cL_law 3164 = .ok (.goto (-3141), 3) := by decide +kernel
theorem dL_law_3167 : decode cL_law 3167 = .ok (.iconst 1, 1) := by decide +kernel
theorem dL_law_3168 : decode cL_law 3168 = .ok (.ireturn, 1) := by decide +kernel
