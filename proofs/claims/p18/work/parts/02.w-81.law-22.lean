theorem dL_law_1937 : decode cL_law 1937 = .ok (.iaload, 1) := by decide +kernel
theorem dL_law_1938 : decode cL_law 1938 = .ok (.aload_n 0, 1) := by decide +kernel
theorem dL_law_1939 : decode cL_law 1939 = .ok (.iload 5, 2) := by decide +kernel
theorem dL_law_1941 : decode cL_law 1941 = .ok (.iconst 3, 1) := by decide +kernel
theorem dL_law_1942 : decode cL_law 1942 = .ok (.iadd, 1) := by decide +kernel
theorem dL_law_1943 : decode cL_law 1943 = .ok (.iaload, 1) := by decide +kernel
theorem dL_law_1944 : decode cL_law 1944 = .ok (.invokevirtual 343, 3) := by decide +kernel
theorem dL_law_1947 : decode cL_law 1947 = .ok (.istore 7, 2) := by decide +kernel
theorem dL_law_1949 : decode cL_law 1949 = .ok (.goto 975, 3) := by decide +kernel
theorem dL_law_1952 : decode cL_law 1952 = .ok (.aload_n 1, 1) := by decide +kernel
theorem dL_law_1953 : decode cL_law 1953 = .ok (.aload_n 0, 1) := by decide +kernel
theorem dL_law_1954 : decode cL_law 1954 = .ok (.iload 5, 2) := by decide +kernel
theorem dL_law_1956 : decode cL_law 1956 = .ok (.iconst 1, 1) := by decide +kernel
theorem dL_law_1957 : decode cL_law 1957 = .ok (.iadd, 1) := by decide +kernel
theorem dL_law_1958 : decode cL_law 1958 = .ok (.iaload, 1) := by decide +kernel
theorem dL_law_1959 : decode cL_law 1959 = .ok (.aload_n 3, 1) := by decide +kernel
theorem dL_law_1960 : decode cL_law 1960 = .ok (.invokestatic 344, 3) := by decide +kernel
theorem dL_law_1963 : decode cL_law 1963 = .ok (.istore 6, 2) := by decide +kernel
theorem dL_law_1965 : decode cL_law 1965 = .ok (.aload_n 2, 1) := by decide +kernel
theorem dL_law_1966 : decode cL_law 1966 = .ok (.aload_n 0, 1) := by decide +kernel
theorem dL_law_1967 : decode cL_law 1967 = .ok (.iload 5, 2) := by decide +kernel
theorem dL_law_1969 : decode cL_law 1969 = .ok (.iconst 1, 1) := by decide +kernel
theorem dL_law_1970 : decode cL_law 1970 = .ok (.iadd, 1) := by decide +kernel
theorem dL_law_1971 : decode cL_law 1971 = .ok (.iaload, 1) := by decide +kernel
theorem dL_law_1972 : decode cL_law 1972 = .ok (.invokevirtual 346, 3) := by decide +kernel
theorem dL_law_1975 : decode cL_law 1975 = .ok (.istore 7, 2) := by decide +kernel
theorem dL_law_1977 : decode cL_law 1977 = .ok (.goto 947, 3) := by decide +kernel
theorem dL_law_1980 : decode cL_law 1980 = .ok (.aload_n 1, 1) := by decide +kernel
theorem dL_law_1981 : decode cL_law 1981 = .ok (.aload_n 0, 1) := by decide +kernel
theorem dL_law_1982 : decode cL_law 1982 = .ok (.iload 5, 2) := by decide +kernel
theorem dL_law_1984 : decode cL_law 1984 = .ok (.iconst 1, 1) := by decide +kernel
theorem dL_law_1985 : decode cL_law 1985 = .ok (.iadd, 1) := by decide +kernel
theorem dL_law_1986 : decode cL_law 1986 = .ok (.iaload, 1) := by decide +kernel
theorem dL_law_1987 : decode cL_law 1987 = .ok (.aload_n 0, 1) := by decide +kernel
theorem dL_law_1988 : decode cL_law 1988 = .ok (.iload 5, 2) := by decide +kernel
theorem dL_law_1990 : decode cL_law 1990 = .ok (.iconst 2, 1) := by decide +kernel
theorem dL_law_1991 : decode cL_law 1991 = .ok (.iadd, 1) := by decide +kernel
theorem dL_law_1992 : decode cL_law 1992 = .ok (.iaload, 1) := by decide +kernel
theorem dL_law_1993 : decode cL_law 1993 = .ok (.aload_n 0, 1) := by decide +kernel
theorem dL_law_1994 : decode cL_law 1994 = .ok (.iload 5, 2) := by decide +kernel
theorem dL_law_1996 : decode cL_law 1996 = .ok (.iconst 3, 1) := by decide +kernel
theorem dL_law_1997 : decode cL_law 1997 = .ok (.iadd, 1) := by decide +kernel
theorem dL_law_1998 : decode cL_law 1998 = .ok (.iaload, 1) := by decide +kernel
theorem dL_law_1999 : decode cL_law 1999 = .ok (.aload_n 3, 1) := by decide +kernel
theorem dL_law_2000 : decode cL_law 2000 = .ok (.invokestatic 347, 3) := by decide +kernel
theorem dL_law_2003 : decode cL_law 2003 = .ok (.istore 6, 2) := by decide +kernel
theorem dL_law_2005 : decode cL_law 2005 = .ok (.aload_n 2, 1) := by decide +kernel
theorem dL_law_2006 : decode cL_law 2006 = .ok (.aload_n 0, 1) := by decide +kernel
theorem dL_law_2007 : decode cL_law 2007 = .ok (.iload 5, 2) := by decide +kernel
theorem dL_law_2009 : decode cL_law 2009 = .ok (.iconst 1, 1) := by decide +kernel
theorem dL_law_2010 : decode cL_law 2010 = .ok (.iadd, 1) := by decide +kernel
theorem dL_law_2011 : decode cL_law 2011 = .ok (.iaload, 1) := by decide +kernel
theorem dL_law_2012 : decode cL_law 2012 = .ok (.aload_n 0, 1) := by decide +kernel
theorem dL_law_2013 : decode cL_law 2013 = .ok (.iload 5, 2) := by decide +kernel
theorem dL_law_2015 : decode cL_law 2015 = .ok (.iconst 2, 1) := by decide +kernel
theorem dL_law_2016 : decode cL_law 2016 = .ok (.iadd, 1) := by decide +kernel
theorem dL_law_2017 : decode cL_law 2017 = .ok (.iaload, 1) := by decide +kernel
theorem dL_law_2018 : decode cL_law 2018 = .ok (.aload_n 0, 1) := by decide +kernel
theorem dL_law_2019 : decode cL_law 2019 = .ok (.iload 5, 2) := by decide +kernel
theorem dL_law_2021 : decode cL_law 2021 = .ok (.iconst 3, 1) := by decide +kernel
theorem dL_law_2022 : decode cL_law 2022 = .ok (.iadd, 1) := by decide +kernel
theorem dL_law_2023 : decode cL_law 2023 = .ok (.iaload, 1) := by decide +kernel
theorem dL_law_2024 : decode cL_law 2024 = .ok (.invokevirtual 349, 3) := by decide +kernel
theorem dL_law_2027 : decode cL_law 2027 = .ok (.istore 7, 2) := by decide +kernel
theorem dL_law_2029 : decode cL_law 2029 = .ok (.goto 895, 3) := by decide +kernel
theorem dL_law_2032 : decode cL_law 2032 = .ok (.aload_n 1, 1) := by decide +kernel
theorem dL_law_2033 : decode cL_law 2033 = .ok (.aload_n 0, 1) := by decide +kernel
theorem dL_law_2034 : decode cL_law 2034 = .ok (.iload 5, 2) := by decide +kernel
theorem dL_law_2036 : decode cL_law 2036 = .ok (.iconst 1, 1) := by decide +kernel
theorem dL_law_2037 : decode cL_law 2037 = .ok (.iadd, 1) := by decide +kernel
theorem dL_law_2038 : decode cL_law 2038 = .ok (.iaload, 1) := by decide +kernel
theorem dL_law_2039 : decode cL_law 2039 = .ok (.aload_n 3, 1) := by decide +kernel
theorem dL_law_2040 : decode cL_law 2040 = .ok (.invokestatic 350, 3) := by decide +kernel
theorem dL_law_2043 : decode cL_law 2043 = .ok (.istore 6, 2) := by decide +kernel
theorem dL_law_2045 : decode cL_law 2045 = .ok (.aload_n 2, 1) := by decide +kernel
theorem dL_law_2046 : decode cL_law 2046 = .ok (.aload_n 0, 1) := by decide +kernel
theorem dL_law_2047 : decode cL_law 2047 = .ok (.iload 5, 2) := by decide +kernel
theorem dL_law_2049 : decode cL_law 2049 = .ok (.iconst 1, 1) := by decide +kernel
theorem dL_law_2050 : decode cL_law 2050 = .ok (.iadd, 1) := by decide +kernel
theorem dL_law_2051 : decode cL_law 2051 = .ok (.iaload, 1) := by decide +kernel
theorem dL_law_2052 : decode cL_law 2052 = .ok (.invokevirtual 352, 3) := by decide +kernel
theorem dL_law_2055 : decode cL_law 2055 = .ok (.istore 7, 2) := by decide +kernel
theorem dL_law_2057 : decode cL_law 2057 = .ok (.goto 867, 3) := by decide +kernel
theorem dL_law_2060 : decode cL_law 2060 = .ok (.aload_n 1, 1) := by decide +kernel
theorem dL_law_2061 : decode cL_law 2061 = .ok (.aload_n 0, 1) := by decide +kernel
theorem dL_law_2062 : decode cL_law 2062 = .ok (.iload 5, 2) := by decide +kernel
theorem dL_law_2064 : decode cL_law 2064 = .ok (.iconst 1, 1) := by decide +kernel
theorem dL_law_2065 : decode cL_law 2065 = .ok (.iadd, 1) := by decide +kernel
theorem dL_law_2066 : decode cL_law 2066 = .ok (.iaload, 1) := by decide +kernel
theorem dL_law_2067 : decode cL_law 2067 = .ok (.aload_n 3, 1) := by decide +kernel
theorem dL_law_2068 : decode cL_law 2068 = .ok (.invokestatic 353, 3) := by decide +kernel
theorem dL_law_2071 : decode cL_law 2071 = .ok (.istore 6, 2) := by decide +kernel
theorem dL_law_2073 : decode cL_law 2073 = .ok (.aload_n 2, 1) := by decide +kernel
theorem dL_law_2074 : decode cL_law 2074 = .ok (.aload_n 0, 1) := by decide +kernel
theorem dL_law_2075 : decode cL_law 2075 = .ok (.iload 5, 2) := by decide +kernel
theorem dL_law_2077 : decode cL_law 2077 = .ok (.iconst 1, 1) := by decide +kernel
theorem dL_law_2078 : decode cL_law 2078 = .ok (.iadd, 1) := by decide +kernel
theorem dL_law_2079 : decode cL_law 2079 = .ok (.iaload, 1) := by decide +kernel
theorem dL_law_2080 : decode cL_law 2080 = .ok (.invokevirtual 355, 3) := by decide +kernel
theorem dL_law_2083 : decode cL_law 2083 = .ok (.istore 7, 2) := by decide +kernel
theorem dL_law_2085 : decode cL_law 2085 = .ok (.goto 839, 3) := by decide +kernel
theorem dL_law_2088 : decode cL_law 2088 = .ok (.aload_n 1, 1) := by decide +kernel
theorem dL_law_2089 : decode cL_law 2089 = .ok (.aload_n 0, 1) := by decide +kernel
theorem dL_law_2090 : decode cL_law 2090 = .ok (.iload 5, 2) := by decide +kernel
theorem dL_law_2092 : decode cL_law 2092 = .ok (.iconst 1, 1) := by decide +kernel
theorem dL_law_2093 : decode cL_law 2093 = .ok (.iadd, 1) := by decide +kernel
theorem dL_law_2094 : decode cL_law 2094 = .ok (.iaload, 1) := by decide +kernel
theorem dL_law_2095 : decode cL_law 2095 = .ok (.aload_n 0, 1) := by decide +kernel
theorem dL_law_2096 : decode cL_law 2096 = .ok (.iload 5, 2) := by decide +kernel
theorem dL_law_2098 : decode cL_law 2098 = .ok (.iconst 2, 1) := by decide +kernel
theorem dL_law_2099 : decode cL_law 2099 = .ok (.iadd, 1) := by decide +kernel
theorem dL_law_2100 : decode cL_law 2100 = .ok (.iaload, 1) := by decide +kernel
theorem dL_law_2101 : decode cL_law 2101 = .ok (.aload_n 3, 1) := by decide +kernel
theorem dL_law_2102 : decode cL_law 2102 = .ok (.invokestatic 356, 3) := by decide +kernel
theorem dL_law_2105 : decode cL_law 2105 = .ok (.istore 6, 2) := by decide +kernel
theorem dL_law_2107 : decode cL_law 2107 = .ok (.aload_n 2, 1) := by decide +kernel
theorem dL_law_2108 : decode cL_law 2108 = .ok (.aload_n 0, 1) := by decide +kernel
theorem dL_law_2109 : decode cL_law 2109 = .ok (.iload 5, 2) := by decide +kernel
theorem dL_law_2111 : decode cL_law 2111 = .ok (.iconst 1, 1) := by decide +kernel
theorem dL_law_2112 : decode cL_law 2112 = .ok (.iadd, 1) := by decide +kernel
theorem dL_law_2113 : decode cL_law 2113 = .ok (.iaload, 1) := by decide +kernel
theorem dL_law_2114 : decode cL_law 2114 = .ok (.aload_n 0, 1) := by decide +kernel
theorem dL_law_2115 : decode cL_law 2115 = .ok (.iload 5, 2) := by decide +kernel
theorem dL_law_2117 : decode cL_law 2117 = .ok (.iconst 2, 1) := by decide +kernel
theorem dL_law_2118 : decode cL_law 2118 = .ok (.iadd, 1) := by decide +kernel
theorem dL_law_2119 : decode cL_law 2119 = .ok (.iaload, 1) := by decide +kernel
theorem dL_law_2120 : decode cL_law 2120 = .ok (.invokevirtual 358, 3) := by decide +kernel
theorem dL_law_2123 : decode cL_law 2123 = .ok (.istore 7, 2) := by decide +kernel
theorem dL_law_2125 : decode cL_law 2125 = .ok (.goto 799, 3) := by decide +kernel
theorem dL_law_2128 : decode cL_law 2128 = .ok (.aload_n 1, 1) := by decide +kernel
theorem dL_law_2129 : decode cL_law 2129 = .ok (.aload_n 0, 1) := by decide +kernel
theorem dL_law_2130 : decode cL_law 2130 = .ok (.iload 5, 2) := by decide +kernel
theorem dL_law_2132 : decode cL_law 2132 = .ok (.iconst 1, 1) := by decide +kernel
theorem dL_law_2133 : decode cL_law 2133 = .ok (.iadd, 1) := by decide +kernel
theorem dL_law_2134 : decode cL_law 2134 = .ok (.iaload, 1) := by decide +kernel
theorem dL_law_2135 : decode cL_law 2135 = .ok (.aload_n 3, 1) := by decide +kernel
theorem dL_law_2136 : decode cL_law 2136 = .ok (.invokestatic 359, 3) := by decide +kernel
theorem dL_law_2139 : decode cL_law 2139 = .ok (.istore 6, 2) := by decide +kernel
theorem dL_law_2141 : decode cL_law 2141 = .ok (.aload_n 2, 1) := by decide +kernel
theorem dL_law_2142 : decode cL_law 2142 = .ok (.aload_n 0, 1) := by decide +kernel
theorem dL_law_2143 : decode cL_law 2143 = .ok (.iload 5, 2) := by decide +kernel
theorem dL_law_2145 : decode cL_law 2145 = .ok (.iconst 1, 1) := by decide +kernel
theorem dL_law_2146 : decode cL_law 2146 = .ok (.iadd, 1) := by decide +kernel
theorem dL_law_2147 : decode cL_law 2147 = .ok (.iaload, 1) := by decide +kernel
theorem dL_law_2148 : decode cL_law 2148 = .ok (.invokevirtual 361, 3) := by decide +kernel
theorem dL_law_2151 : decode cL_law 2151 = .ok (.istore 7, 2) := by decide +kernel
theorem dL_law_2153 : decode cL_law 2153 = .ok (.goto 771, 3) := by decide +kernel
theorem dL_law_2156 : decode cL_law 2156 = .ok (.aload_n 1, 1) := by decide +kernel
theorem dL_law_2157 : decode cL_law 2157 = .ok (.aload_n 0, 1) := by decide +kernel
theorem dL_law_2158 : decode cL_law 2158 = .ok (.iload 5, 2) := by decide +kernel
theorem dL_law_2160 : decode cL_law 2160 = .ok (.iconst 1, 1) := by decide +kernel
theorem dL_law_2161 : decode cL_law 2161 = .ok (.iadd, 1) := by decide +kernel
theorem dL_law_2162 : decode cL_law 2162 = .ok (.iaload, 1) := by decide +kernel
theorem dL_law_2163 : decode cL_law 2163 = .ok (.aload_n 0, 1) := by decide +kernel
theorem dL_law_2164 : decode cL_law 2164 = .ok (.iload 5, 2) := by decide +kernel
theorem dL_law_2166 : decode cL_law 2166 = .ok (.iconst 2, 1) := by decide +kernel
theorem dL_law_2167 : decode cL_law 2167 = .ok (.iadd, 1) := by decide +kernel
theorem dL_law_2168 : decode cL_law 2168 = .ok (.iaload, 1) := by decide +kernel
theorem dL_law_2169 : decode cL_law 2169 = .ok (.aload_n 0, 1) := by decide +kernel
theorem dL_law_2170 : decode cL_law 2170 = .ok (.iload 5, 2) := by decide +kernel
theorem dL_law_2172 : decode cL_law 2172 = .ok (.iconst 3, 1) := by decide +kernel
theorem dL_law_2173 : decode cL_law 2173 = .ok (.iadd, 1) := by decide +kernel
theorem dL_law_2174 : decode cL_law 2174 = .ok (.iaload, 1) := by decide +kernel
theorem dL_law_2175 : decode cL_law 2175 = .ok (.aload_n 3, 1) := by decide +kernel
theorem dL_law_2176 : decode cL_law 2176 = .ok (.invokestatic 362, 3) := by decide +kernel
theorem dL_law_2179 : decode cL_law 2179 = .ok (.istore 6, 2) := by decide +kernel
theorem dL_law_2181 : decode cL_law 2181 = .ok (.aload_n 2, 1) := by decide +kernel
theorem dL_law_2182 : decode cL_law 2182 = .ok (.aload_n 0, 1) := by decide +kernel
theorem dL_law_2183 : decode cL_law 2183 = .ok (.iload 5, 2) := by decide +kernel
theorem dL_law_2185 : decode cL_law 2185 = .ok (.iconst 1, 1) := by decide +kernel
theorem dL_law_2186 : decode cL_law 2186 = .ok (.iadd, 1) := by decide +kernel
theorem dL_law_2187 : decode cL_law 2187 = .ok (.iaload, 1) := by decide +kernel
theorem dL_law_2188 : decode cL_law 2188 = .ok (.aload_n 0, 1) := by decide +kernel
theorem dL_law_2189 : decode cL_law 2189 = .ok (.iload 5, 2) := by decide +kernel
theorem dL_law_2191 : decode cL_law 2191 = .ok (.iconst 2, 1) := by decide +kernel
theorem dL_law_2192 : decode cL_law 2192 = .ok (.iadd, 1) := by decide +kernel
theorem dL_law_2193 : decode cL_law 2193 = .ok (.iaload, 1) := by decide +kernel
theorem dL_law_2194 : decode cL_law 2194 = .ok (.aload_n 0, 1) := by decide +kernel
theorem dL_law_2195 : decode cL_law 2195 = .ok (.iload 5, 2) := by decide +kernel
theorem dL_law_2197 : decode cL_law 2197 = .ok (.iconst 3, 1) := by decide +kernel
theorem dL_law_2198 : decode cL_law 2198 = .ok (.iadd, 1) := by decide +kernel
theorem dL_law_2199 : decode cL_law 2199 = .ok (.iaload, 1) := by decide +kernel
theorem dL_law_2200 : decode cL_law 2200 = .ok (.invokevirtual 364, 3) := by decide +kernel
theorem dL_law_2203 : decode cL_law 2203 = .ok (.istore 7, 2) := by decide +kernel
theorem dL_law_2205 : decode cL_law 2205 = .ok (.goto 719, 3) := by decide +kernel
theorem dL_law_2208 : decode cL_law 2208 = .ok (.aload_n 1, 1) := by decide +kernel
theorem dL_law_2209 : decode cL_law 2209 = .ok (.aload_n 0, 1) := by decide +kernel
theorem dL_law_2210 : decode cL_law 2210 = .ok (.iload 5, 2) := by decide +kernel
theorem dL_law_2212 : decode cL_law 2212 = .ok (.iconst 1, 1) := by decide +kernel
theorem dL_law_2213 : decode cL_law 2213 = .ok (.iadd, 1) := by decide +kernel
theorem dL_law_2214 : decode cL_law 2214 = .ok (.iaload, 1) := by decide +kernel
theorem dL_law_2215 : decode cL_law 2215 = .ok (.aload_n 0, 1) := by decide +kernel
theorem dL_law_2216 : decode cL_law 2216 = .ok (.iload 5, 2) := by decide +kernel
theorem dL_law_2218 : decode cL_law 2218 = .ok (.iconst 2, 1) := by decide +kernel
theorem dL_law_2219 : decode cL_law 2219 = .ok (.iadd, 1) := by decide +kernel
theorem dL_law_2220 : decode cL_law 2220 = .ok (.iaload, 1) := by decide +kernel
theorem dL_law_2221 : decode cL_law 2221 = .ok (.aload_n 3, 1) := by decide +kernel
theorem dL_law_2222 : decode cL_law 2222 = .ok (.invokestatic 365, 3) := by decide +kernel
theorem dL_law_2225 : decode cL_law 2225 = .ok (.istore 6, 2) := by decide +kernel
theorem dL_law_2227 : decode cL_law 2227 = .ok (.aload_n 2, 1) := by decide +kernel
theorem dL_law_2228 : decode cL_law 2228 = .ok (.aload_n 0, 1) := by decide +kernel
theorem dL_law_2229 : decode cL_law 2229 = .ok (.iload 5, 2) := by decide +kernel
theorem dL_law_2231 : decode cL_law 2231 = .ok (.iconst 1, 1) := by decide +kernel
theorem dL_law_2232 : decode cL_law 2232 = .ok (.iadd, 1) := by decide +kernel
theorem dL_law_2233 : decode cL_law 2233 = .ok (.iaload, 1) := by decide +kernel
theorem dL_law_2234 : decode cL_law 2234 = .ok (.aload_n 0, 1) := by decide +kernel
theorem dL_law_2235 : decode cL_law 2235 = .ok (.iload 5, 2) := by decide +kernel
theorem dL_law_2237 : decode cL_law 2237 = .ok (.iconst 2, 1) := by decide +kernel
theorem dL_law_2238 : decode cL_law 2238 = .ok (.iadd, 1) := by decide +kernel
theorem dL_law_2239 : decode cL_law 2239 = .ok (.iaload, 1) := by decide +kernel
theorem dL_law_2240 : decode cL_law 2240 = .ok (.invokevirtual 367, 3) := by decide +kernel
theorem dL_law_2243 : decode cL_law 2243 = .ok (.istore 7, 2) := by decide +kernel
theorem dL_law_2245 : decode cL_law 2245 = .ok (.goto 679, 3) := by decide +kernel
theorem dL_law_2248 : decode cL_law 2248 = .ok (.aload_n 1, 1) := by decide +kernel
theorem dL_law_2249 : decode cL_law 2249 = .ok (.aload_n 0, 1) := by decide +kernel
theorem dL_law_2250 : decode cL_law 2250 = .ok (.iload 5, 2) := by decide +kernel
theorem dL_law_2252 : decode cL_law 2252 = .ok (.iconst 1, 1) := by decide +kernel
theorem dL_law_2253 : decode cL_law 2253 = .ok (.iadd, 1) := by decide +kernel
theorem dL_law_2254 : decode cL_law 2254 = .ok (.iaload, 1) := by decide +kernel
theorem dL_law_2255 : decode cL_law 2255 = .ok (.aload_n 0, 1) := by decide +kernel
theorem dL_law_2256 : decode cL_law 2256 = .ok (.iload 5, 2) := by decide +kernel
theorem dL_law_2258 : decode cL_law 2258 = .ok (.iconst 2, 1) := by decide +kernel
theorem dL_law_2259 : decode cL_law 2259 = .ok (.iadd, 1) := by decide +kernel
theorem dL_law_2260 : decode cL_law 2260 = .ok (.iaload, 1) := by decide +kernel
theorem dL_law_2261 : decode cL_law 2261 = .ok (.aload_n 0, 1) := by decide +kernel
theorem dL_law_2262 : decode cL_law 2262 = .ok (.iload 5, 2) := by decide +kernel
theorem dL_law_2264 : decode cL_law 2264 = .ok (.iconst 3, 1) := by decide +kernel
theorem dL_law_2265 : decode cL_law 2265 = .ok (.iadd, 1) := by decide +kernel
theorem dL_law_2266 : decode cL_law 2266 = .ok (.iaload, 1) := by decide +kernel
theorem dL_law_2267 : decode cL_law 2267 = .ok (.aload_n 3, 1) := by decide +kernel
theorem dL_law_2268 : decode cL_law 2268 = .ok (.invokestatic 368, 3) := by decide +kernel
theorem dL_law_2271 : decode cL_law 2271 = .ok (.istore 6, 2) := by decide +kernel
theorem dL_law_2273 : decode cL_law 2273 = .ok (.aload_n 2, 1) := by decide +kernel
theorem dL_law_2274 : decode cL_law 2274 = .ok (.aload_n 0, 1) := by decide +kernel
theorem dL_law_2275 : decode cL_law 2275 = .ok (.iload 5, 2) := by decide +kernel
theorem dL_law_2277 : decode cL_law 2277 = .ok (.iconst 1, 1) := by decide +kernel
theorem dL_law_2278 : decode cL_law 2278 = .ok (.iadd, 1) := by decide +kernel
theorem dL_law_2279 : decode cL_law 2279 = .ok (.iaload, 1) := by decide +kernel
theorem dL_law_2280 : decode cL_law 2280 = .ok (.aload_n 0, 1) := by decide +kernel
theorem dL_law_2281 : decode cL_law 2281 = .ok (.iload 5, 2) := by decide +kernel
theorem dL_law_2283 : decode cL_law 2283 = .ok (.iconst 2, 1) := by decide +kernel
theorem dL_law_2284 : decode cL_law 2284 = .ok (.iadd, 1) := by decide +kernel
theorem dL_law_2285 : decode cL_law 2285 = .ok (.iaload, 1) := by decide +kernel
theorem dL_law_2286 : decode cL_law 2286 = .ok (.aload_n 0, 1) := by decide +kernel
theorem dL_law_2287 : decode cL_law 2287 = .ok (.iload 5, 2) := by decide +kernel
theorem dL_law_2289 : decode cL_law 2289 = .ok (.iconst 3, 1) := by decide +kernel
theorem dL_law_2290 : decode cL_law 2290 = .ok (.iadd, 1) := by decide +kernel
theorem dL_law_2291 : decode cL_law 2291 = .ok (.iaload, 1) := by decide +kernel
theorem dL_law_2292 : decode cL_law 2292 = .ok (.invokevirtual 370, 3) := by decide +kernel
theorem dL_law_2295 : decode cL_law 2295 = .ok (.istore 7, 2) := by decide +kernel
theorem dL_law_2297 : decode cL_law 2297 = .ok (.goto 627, 3) := by decide +kernel
theorem dL_law_2300 : decode cL_law 2300 = .ok (.aload_n 1, 1) := by decide +kernel
theorem dL_law_2301 : decode cL_law 2301 = .ok (.aload_n 0, 1) := by decide +kernel
theorem dL_law_2302 : decode cL_law 2302 = .ok (.iload 5, 2) := by decide +kernel
theorem dL_law_2304 : decode cL_law 2304 = .ok (.iconst 1, 1) := by decide +kernel
theorem dL_law_2305 : decode cL_law 2305 = .ok (.iadd, 1) := by decide +kernel
theorem dL_law_2306 : decode cL_law 2306 = .ok (.iaload, 1) := by decide +kernel
theorem dL_law_2307 : decode cL_law 2307 = .ok (.aload_n 0, 1) := by decide +kernel
theorem dL_law_2308 : decode cL_law 2308 = .ok (.iload 5, 2) := by decide +kernel
theorem dL_law_2310 : decode cL_law 2310 = .ok (.iconst 2, 1) := by decide +kernel
theorem dL_law_2311 : decode cL_law 2311 = .ok (.iadd, 1) := by decide +kernel
theorem dL_law_2312 : decode cL_law 2312 = .ok (.iaload, 1) := by decide +kernel
theorem dL_law_2313 : decode cL_law 2313 = .ok (.aload_n 3, 1) := by decide +kernel
theorem dL_law_2314 : decode cL_law 2314 = .ok (.invokestatic 371, 3) := by decide +kernel
theorem dL_law_2317 : decode cL_law 2317 = .ok (.istore 6, 2) := by decide +kernel
theorem dL_law_2319 : decode cL_law 2319 = .ok (.aload_n 2, 1) := by decide +kernel
theorem dL_law_2320 : decode cL_law 2320 = .ok (.aload_n 0, 1) := by decide +kernel
theorem dL_law_2321 : decode cL_law 2321 = .ok (.iload 5, 2) := by decide +kernel
theorem dL_law_2323 : decode cL_law 2323 = .ok (.iconst 1, 1) := by decide +kernel
theorem dL_law_2324 : decode cL_law 2324 = .ok (.iadd, 1) := by decide +kernel
theorem dL_law_2325 : decode cL_law 2325 = .ok (.iaload, 1) := by decide +kernel
theorem dL_law_2326 : decode cL_law 2326 = .ok (.aload_n 0, 1) := by decide +kernel
theorem dL_law_2327 : decode cL_law 2327 = .ok (.iload 5, 2) := by decide +kernel
theorem dL_law_2329 : decode cL_law 2329 = .ok (.iconst 2, 1) := by decide +kernel
theorem dL_law_2330 : decode cL_law 2330 = .ok (.iadd, 1) := by decide +kernel
theorem dL_law_2331 : decode cL_law 2331 = .ok (.iaload, 1) := by decide +kernel
theorem dL_law_2332 : decode cL_law 2332 = .ok (.invokevirtual 373, 3) := by decide +kernel
theorem dL_law_2335 : decode cL_law 2335 = .ok (.istore 7, 2) := by decide +kernel
theorem dL_law_2337 : decode cL_law 2337 = .ok (.goto 587, 3) := by decide +kernel
theorem dL_law_2340 : decode cL_law 2340 = .ok (.aload_n 1, 1) := by decide +kernel
theorem dL_law_2341 : decode cL_law 2341 = .ok (.aload_n 0, 1) := by decide +kernel
theorem dL_law_2342 : decode cL_law 2342 = .ok (.iload 5, 2) := by decide +kernel
theorem dL_law_2344 : decode cL_law 2344 = .ok (.iconst 1, 1) := by decide +kernel
theorem dL_law_2345 : decode cL_law 2345 = .ok (.iadd, 1) := by decide +kernel
theorem dL_law_2346 : decode cL_law 2346 = .ok (.iaload, 1) := by decide +kernel
theorem dL_law_2347 : decode cL_law 2347 = .ok (.aload_n 3, 1) := by decide +kernel
theorem dL_law_2348 : decode cL_law 2348 = .ok (.invokestatic 374, 3) := by decide +kernel
theorem dL_law_2351 : decode cL_law 2351 = .ok (.istore 6, 2) := by decide +kernel
theorem dL_law_2353 : decode cL_law 2353 = .ok (.aload_n 2, 1) := by decide +kernel
theorem dL_law_2354 : decode cL_law 2354 = .ok (.aload_n 0, 1) := by decide +kernel
theorem dL_law_2355 : decode cL_law 2355 = .ok (.iload 5, 2) := by decide +kernel
theorem dL_law_2357 : decode cL_law 2357 = .ok (.iconst 1, 1) := by decide +kernel
theorem dL_law_2358 : decode cL_law 2358 = .ok (.iadd, 1) := by decide +kernel
theorem dL_law_2359 : decode cL_law 2359 = .ok (.iaload, 1) := by decide +kernel
theorem dL_law_2360 : decode cL_law 2360 = .ok (.invokevirtual 376, 3) := by decide +kernel
theorem dL_law_2363 : decode cL_law 2363 = .ok (.istore 7, 2) := by decide +kernel
theorem dL_law_2365 : decode cL_law 2365 = .ok (.goto 559, 3) := by decide +kernel
theorem dL_law_2368 : decode cL_law 2368 = .ok (.aload_n 1, 1) := by decide +kernel
theorem dL_law_2369 : decode cL_law 2369 = .ok (.aload_n 0, 1) := by decide +kernel
theorem dL_law_2370 : decode cL_law 2370 = .ok (.iload 5, 2) := by decide +kernel
theorem dL_law_2372 : decode cL_law 2372 = .ok (.iconst 1, 1) := by decide +kernel
theorem dL_law_2373 : decode cL_law 2373 = .ok (.iadd, 1) := by decide +kernel
theorem dL_law_2374 : decode cL_law 2374 = .ok (.iaload, 1) := by decide +kernel
theorem dL_law_2375 : decode cL_law 2375 = .ok (.aload_n 0, 1) := by decide +kernel
theorem dL_law_2376 : decode cL_law 2376 = .ok (.iload 5, 2) := by decide +kernel
theorem dL_law_2378 : decode cL_law 2378 = .ok (.iconst 2, 1) := by decide +kernel
theorem dL_law_2379 : decode cL_law 2379 = .ok (.iadd, 1) := by decide +kernel
theorem dL_law_2380 : decode cL_law 2380 = .ok (.iaload, 1) := by decide +kernel
theorem dL_law_2381 : decode cL_law 2381 = .ok (.aload_n 3, 1) := by decide +kernel
theorem dL_law_2382 : decode cL_law 2382 = .ok (.invokestatic 377, 3) := by decide +kernel
theorem dL_law_2385 : decode cL_law 2385 = .ok (.istore 6, 2) := by decide +kernel
theorem dL_law_2387 : decode cL_law 2387 = .ok (.aload_n 2, 1) := by decide +kernel
theorem dL_law_2388 : decode cL_law 2388 = .ok (.aload_n 0, 1) := by decide +kernel
theorem dL_law_2389 : decode cL_law 2389 = .ok (.iload 5, 2) := by decide +kernel
theorem dL_law_2391 : decode cL_law 2391 = .ok (.iconst 1, 1) := by decide +kernel
theorem dL_law_2392 : decode cL_law 2392 = .ok (.iadd, 1) := by decide +kernel
theorem dL_law_2393 : decode cL_law 2393 = .ok (.iaload, 1) := by decide +kernel
theorem dL_law_2394 : decode cL_law 2394 = .ok (.aload_n 0, 1) := by decide +kernel
theorem dL_law_2395 : decode cL_law 2395 = .ok (.iload 5, 2) := by decide +kernel
theorem dL_law_2397 : decode cL_law 2397 = .ok (.iconst 2, 1) := by decide +kernel
theorem dL_law_2398 : decode cL_law 2398 = .ok (.iadd, 1) := by decide +kernel
theorem dL_law_2399 : decode cL_law 2399 = .ok (.iaload, 1) := by decide +kernel
theorem dL_law_2400 : decode cL_law 2400 = .ok (.invokevirtual 379, 3) := by decide +kernel
theorem dL_law_2403 : decode cL_law 2403 = .ok (.lstore 7, 2) := by decide +kernel
theorem dL_law_2405 : decode cL_law 2405 = .ok (.goto 519, 3) := by decide +kernel
theorem dL_law_2408 : decode cL_law 2408 = .ok (.aload_n 1, 1) := by decide +kernel
theorem dL_law_2409 : decode cL_law 2409 = .ok (.aload_n 0, 1) := by decide +kernel
theorem dL_law_2410 : decode cL_law 2410 = .ok (.iload 5, 2) := by decide +kernel
theorem dL_law_2412 : decode cL_law 2412 = .ok (.iconst 1, 1) := by decide +kernel
theorem dL_law_2413 : decode cL_law 2413 = .ok (.iadd, 1) := by decide +kernel
theorem dL_law_2414 : decode cL_law 2414 = .ok (.iaload, 1) := by decide +kernel
theorem dL_law_2415 : decode cL_law 2415 = .ok (.aload_n 0, 1) := by decide +kernel
theorem dL_law_2416 : decode cL_law 2416 = .ok (.iload 5, 2) := by decide +kernel
theorem dL_law_2418 : decode cL_law 2418 = .ok (.iconst 2, 1) := by decide +kernel
theorem dL_law_2419 : decode cL_law 2419 = .ok (.iadd, 1) := by decide +kernel
theorem dL_law_2420 : decode cL_law 2420 = .ok (.iaload, 1) := by decide +kernel
theorem dL_law_2421 : decode cL_law 2421 = .ok (.aload_n 0, 1) := by decide +kernel
theorem dL_law_2422 : decode cL_law 2422 = .ok (.iload 5, 2) := by decide +kernel
theorem dL_law_2424 : decode cL_law 2424 = .ok (.iconst 3, 1) := by decide +kernel
theorem dL_law_2425 : decode cL_law 2425 = .ok (.iadd, 1) := by decide +kernel
theorem dL_law_2426 : decode cL_law 2426 = .ok (.iaload, 1) := by decide +kernel
theorem dL_law_2427 : decode cL_law 2427 = .ok (.aload_n 0, 1) := by decide +kernel
theorem dL_law_2428 : decode cL_law 2428 = .ok (.iload 5, 2) := by decide +kernel
theorem dL_law_2430 : decode cL_law 2430 = .ok (.iconst 4, 1) := by decide +kernel
theorem dL_law_2431 : decode cL_law 2431 = .ok (.iadd, 1) := by decide +kernel
theorem dL_law_2432 : decode cL_law 2432 = .ok (.iaload, 1) := by decide +kernel
theorem dL_law_2433 : decode cL_law 2433 = .ok (.aload_n 3, 1) := by decide +kernel
theorem dL_law_2434 : decode cL_law 2434 = .ok (.invokestatic 380, 3) := by decide +kernel
theorem dL_law_2437 : decode cL_law 2437 = .ok (.istore 6, 2) := by decide +kernel
theorem dL_law_2439 : decode cL_law 2439 = .ok (.aload_n 2, 1) := by decide +kernel
theorem dL_law_2440 : decode cL_law 2440 = .ok (.aload_n 0, 1) := by decide +kernel
theorem dL_law_2441 : decode cL_law 2441 = .ok (.iload 5, 2) := by decide +kernel
theorem dL_law_2443 : decode cL_law 2443 = .ok (.iconst 1, 1) := by decide +kernel
theorem dL_law_2444 : decode cL_law 2444 = .ok (.iadd, 1) := by decide +kernel
theorem dL_law_2445 : decode cL_law 2445 = .ok (.iaload, 1) := by decide +kernel
theorem dL_law_2446 : decode cL_law 2446 = .ok (.aload_n 0, 1) := by decide +kernel
theorem dL_law_2447 : decode cL_law 2447 = .ok (.iload 5, 2) := by decide +kernel
theorem dL_law_2449 : decode cL_law 2449 = .ok (.iconst 2, 1) := by decide +kernel
theorem dL_law_2450 : decode cL_law 2450 = .ok (.iadd, 1) := by decide +kernel
theorem dL_law_2451 : decode cL_law 2451 = .ok (.iaload, 1) := by decide +kernel
theorem dL_law_2452 : decode cL_law 2452 = .ok (.aload_n 0, 1) := by decide +kernel
theorem dL_law_2453 : decode cL_law 2453 = .ok (.iload 5, 2) := by decide +kernel
theorem dL_law_2455 : decode cL_law 2455 = .ok (.iconst 3, 1) := by decide +kernel
theorem dL_law_2456 : decode cL_law 2456 = .ok (.iadd, 1) := by decide +kernel
theorem dL_law_2457 : decode cL_law 2457 = .ok (.iaload, 1) := by decide +kernel
theorem dL_law_2458 : decode cL_law 2458 = .ok (.aload_n 0, 1) := by decide +kernel
theorem dL_law_2459 : decode cL_law 2459 = .ok (.iload 5, 2) := by decide +kernel
theorem dL_law_2461 : decode cL_law 2461 = .ok (.iconst 4, 1) := by decide +kernel
theorem dL_law_2462 : decode cL_law 2462 = .ok (.iadd, 1) := by decide +kernel
theorem dL_law_2463 : decode cL_law 2463 = .ok (.iaload, 1) := by decide +kernel
theorem dL_law_2464 : decode cL_law 2464 = .ok (.invokevirtual 382, 3) := by decide +kernel
theorem dL_law_2467 : decode cL_law 2467 = .ok (.istore 7, 2) := by decide +kernel
theorem dL_law_2469 : decode cL_law 2469 = .ok (.goto 455, 3) := by decide +kernel
theorem dL_law_2472 : decode cL_law 2472 = .ok (.aload_n 1, 1) := by decide +kernel
theorem dL_law_2473 : decode cL_law 2473 = .ok (.aload_n 0, 1) := by decide +kernel
theorem dL_law_2474 : decode cL_law 2474 = .ok (.iload 5, 2) := by decide +kernel
theorem dL_law_2476 : decode cL_law 2476 = .ok (.iconst 1, 1) := by decide +kernel
theorem dL_law_2477 : decode cL_law 2477 = .ok (.iadd, 1) := by decide +kernel
theorem dL_law_2478 : decode cL_law 2478 = .ok (.iaload, 1) := by decide +kernel
theorem dL_law_2479 : decode cL_law 2479 = .ok (.aload_n 3, 1) := by decide +kernel
theorem dL_law_2480 : decode cL_law 2480 = .ok (.invokestatic 383, 3) := by decide +kernel
theorem dL_law_2483 : decode cL_law 2483 = .ok (.istore 6, 2) := by decide +kernel
theorem dL_law_2485 : decode cL_law 2485 = .ok (.aload_n 2, 1) := by decide +kernel
theorem dL_law_2486 : decode cL_law 2486 = .ok (.aload_n 0, 1) := by decide +kernel
theorem dL_law_2487 : decode cL_law 2487 = .ok (.iload 5, 2) := by decide +kernel
theorem dL_law_2489 : decode cL_law 2489 = .ok (.iconst 1, 1) := by decide +kernel
theorem dL_law_2490 : decode cL_law 2490 = .ok (.iadd, 1) := by decide +kernel
theorem dL_law_2491 : decode cL_law 2491 = .ok (.iaload, 1) := by decide +kernel
theorem dL_law_2492 : decode cL_law 2492 = .ok (.invokevirtual 385, 3) := by decide +kernel
theorem dL_law_2495 : decode cL_law 2495 = .ok (.lstore 7, 2) := by decide +kernel
theorem dL_law_2497 : decode cL_law 2497 = .ok (.goto 427, 3) := by decide +kernel
theorem dL_law_2500 : decode cL_law 2500 = .ok (.aload_n 1, 1) := by decide +kernel
theorem dL_law_2501 : decode cL_law 2501 = .ok (.aload_n 0, 1) := by decide +kernel
theorem dL_law_2502 : decode cL_law 2502 = .ok (.iload 5, 2) := by decide +kernel
theorem dL_law_2504 : decode cL_law 2504 = .ok (.iconst 1, 1) := by decide +kernel
theorem dL_law_2505 : decode cL_law 2505 = .ok (.iadd, 1) := by decide +kernel
theorem dL_law_2506 : decode cL_law 2506 = .ok (.iaload, 1) := by decide +kernel
theorem dL_law_2507 : decode cL_law 2507 = .ok (.aload_n 0, 1) := by decide +kernel
theorem dL_law_2508 : decode cL_law 2508 = .ok (.iload 5, 2) := by decide +kernel
theorem dL_law_2510 : decode cL_law 2510 = .ok (.iconst 2, 1) := by decide +kernel
theorem dL_law_2511 : decode cL_law 2511 = .ok (.iadd, 1) := by decide +kernel
theorem dL_law_2512 : decode cL_law 2512 = .ok (.iaload, 1) := by decide +kernel
theorem dL_law_2513 : decode cL_law 2513 = .ok (.aload_n 0, 1) := by decide +kernel
theorem dL_law_2514 : decode cL_law 2514 = .ok (.iload 5, 2) := by decide +kernel
theorem dL_law_2516 : decode cL_law 2516 = .ok (.iconst 3, 1) := by decide +kernel
theorem dL_law_2517 : decode cL_law 2517 = .ok (.iadd, 1) := by decide +kernel
theorem dL_law_2518 : decode cL_law 2518 = .ok (.iaload, 1) := by decide +kernel
theorem dL_law_2519 : decode cL_law 2519 = .ok (.aload_n 3, 1) := by decide +kernel
theorem dL_law_2520 : decode cL_law 2520 = .ok (.invokestatic 386, 3) := by decide +kernel
theorem dL_law_2523 : decode cL_law 2523 = .ok (.istore 6, 2) := by decide +kernel
theorem dL_law_2525 : decode cL_law 2525 = .ok (.aload_n 2, 1) := by decide +kernel
theorem dL_law_2526 : decode cL_law 2526 = .ok (.aload_n 0, 1) := by decide +kernel
theorem dL_law_2527 : decode cL_law 2527 = .ok (.iload 5, 2) := by decide +kernel
theorem dL_law_2529 : decode cL_law 2529 = .ok (.iconst 1, 1) := by decide +kernel
theorem dL_law_2530 : decode cL_law 2530 = .ok (.iadd, 1) := by decide +kernel
theorem dL_law_2531 : decode cL_law 2531 = .ok (.iaload, 1) := by decide +kernel
theorem dL_law_2532 : decode cL_law 2532 = .ok (.aload_n 0, 1) := by decide +kernel
theorem dL_law_2533 : decode cL_law 2533 = .ok (.iload 5, 2) := by decide +kernel
theorem dL_law_2535 : decode cL_law 2535 = .ok (.iconst 2, 1) := by decide +kernel
theorem dL_law_2536 : decode cL_law 2536 = .ok (.iadd, 1) := by decide +kernel
theorem dL_law_2537 : decode cL_law 2537 = .ok (.iaload, 1) := by decide +kernel
theorem dL_law_2538 : decode cL_law 2538 = .ok (.aload_n 0, 1) := by decide +kernel
theorem dL_law_2539 : decode cL_law 2539 = .ok (.iload 5, 2) := by decide +kernel
theorem dL_law_2541 : decode cL_law 2541 = .ok (.iconst 3, 1) := by decide +kernel
theorem dL_law_2542 : decode cL_law 2542 = .ok (.iadd, 1) := by decide +kernel
theorem dL_law_2543 : decode cL_law 2543 = .ok (.iaload, 1) := by decide +kernel
theorem dL_law_2544 : decode cL_law 2544 = .ok (.invokevirtual 388, 3) := by decide +kernel
theorem dL_law_2547 : decode cL_law 2547 = .ok (.istore 7, 2) := by decide +kernel
theorem dL_law_2549 : decode cL_law 2549 = .ok (.goto 375, 3) := by decide +kernel
theorem dL_law_2552 : decode cL_law 2552 = .ok (.aload_n 1, 1) := by decide +kernel
theorem dL_law_2553 : decode cL_law 2553 = .ok (.aload_n 0, 1) := by decide +kernel
theorem dL_law_2554 : decode cL_law 2554 = .ok (.iload 5, 2) := by decide +kernel
theorem dL_law_2556 : decode cL_law 2556 = .ok (.iconst 1, 1) := by decide +kernel
theorem dL_law_2557 : decode cL_law 2557 = .ok (.iadd, 1) := by decide +kernel
theorem dL_law_2558 : decode cL_law 2558 = .ok (.iaload, 1) := by decide +kernel
theorem dL_law_2559 : decode cL_law 2559 = .ok (.aload_n 3, 1) := by decide +kernel
theorem dL_law_2560 : decode cL_law 2560 = .ok (.invokestatic 389, 3) := by decide +kernel
theorem dL_law_2563 : decode cL_law 2563 = .ok (.istore 6, 2) := by decide +kernel
theorem dL_law_2565 : decode cL_law 2565 = .ok (.aload_n 2, 1) := by decide +kernel
theorem dL_law_2566 : decode cL_law 2566 = .ok (.aload_n 0, 1) := by decide +kernel
theorem dL_law_2567 : decode cL_law 2567 = .ok (.iload 5, 2) := by decide +kernel
theorem dL_law_2569 : decode cL_law 2569 = .ok (.iconst 1, 1) := by decide +kernel
theorem dL_law_2570 : decode cL_law 2570 = .ok (.iadd, 1) := by decide +kernel
theorem dL_law_2571 : decode cL_law 2571 = .ok (.iaload, 1) := by decide +kernel
theorem dL_law_2572 : decode cL_law 2572 = .ok (.invokevirtual 391, 3) := by decide +kernel
theorem dL_law_2575 : decode cL_law 2575 = .ok (.istore 7, 2) := by decide +kernel
theorem dL_law_2577 : decode cL_law 2577 = .ok (.goto 347, 3) := by decide +kernel
theorem dL_law_2580 : decode cL_law 2580 = .ok (.aload_n 1, 1) := by decide +kernel
theorem dL_law_2581 : decode cL_law 2581 = .ok (.aload_n 0, 1) := by decide +kernel
theorem dL_law_2582 : decode cL_law 2582 = .ok (.iload 5, 2) := by decide +kernel
theorem dL_law_2584 : decode cL_law 2584 = .ok (.iconst 1, 1) := by decide +kernel
theorem dL_law_2585 : decode cL_law 2585 = .ok (.iadd, 1) := by decide +kernel
theorem dL_law_2586 : decode cL_law 2586 = .ok (.iaload, 1) := by decide +kernel
theorem dL_law_2587 : decode cL_law 2587 = .ok (.aload_n 3, 1) := by decide +kernel
theorem dL_law_2588 : decode cL_law 2588 = .ok (.invokestatic 392, 3) := by decide +kernel
theorem dL_law_2591 : decode cL_law 2591 = .ok (.istore 6, 2) := by decide +kernel
theorem dL_law_2593 : decode cL_law 2593 = .ok (.aload_n 2, 1) := by decide +kernel
theorem dL_law_2594 : decode cL_law 2594 = .ok (.aload_n 0, 1) := by decide +kernel
theorem dL_law_2595 : decode cL_law 2595 = .ok (.iload 5, 2) := by decide +kernel
theorem dL_law_2597 : decode cL_law 2597 = .ok (.iconst 1, 1) := by decide +kernel
theorem dL_law_2598 : decode cL_law 2598 = .ok (.iadd, 1) := by decide +kernel
theorem dL_law_2599 : decode cL_law 2599 = .ok (.iaload, 1) := by decide +kernel
theorem dL_law_2600 : decode cL_law 2600 = .ok (.invokevirtual 394, 3) := by decide +kernel
theorem dL_law_2603 : decode cL_law 2603 = .ok (.istore 7, 2) := by decide +kernel
theorem dL_law_2605 : decode cL_law 2605 = .ok (.goto 319, 3) := by decide +kernel
theorem dL_law_2608 : decode cL_law 2608 = .ok (.aload_n 1, 1) := by decide +kernel
theorem dL_law_2609 : decode cL_law 2609 = .ok (.aload_n 0, 1) := by decide +kernel
theorem dL_law_2610 : decode cL_law 2610 = .ok (.iload 5, 2) := by decide +kernel
theorem dL_law_2612 : decode cL_law 2612 = .ok (.iconst 1, 1) := by decide +kernel
theorem dL_law_2613 : decode cL_law 2613 = .ok (.iadd, 1) := by decide +kernel
theorem dL_law_2614 : decode cL_law 2614 = .ok (.iaload, 1) := by decide +kernel
theorem dL_law_2615 : decode cL_law 2615 = .ok (.i2c, 1) := by decide +kernel
theorem dL_law_2616 : decode cL_law 2616 = .ok (.aload_n 0, 1) := by decide +kernel
theorem dL_law_2617 : decode cL_law 2617 = .ok (.iload 5, 2) := by decide +kernel
theorem dL_law_2619 : decode cL_law 2619 = .ok (.iconst 2, 1) := by decide +kernel
theorem dL_law_2620 : decode cL_law 2620 = .ok (.iadd, 1) := by decide +kernel
theorem dL_law_2621 : decode cL_law 2621 = .ok (.iaload, 1) := by decide +kernel
theorem dL_law_2622 : decode cL_law 2622 = .ok (.aload_n 3, 1) := by decide +kernel
theorem dL_law_2623 : decode cL_law 2623 = .ok (.invokestatic 395, 3) := by decide +kernel
theorem dL_law_2626 : decode cL_law 2626 = .ok (.istore 6, 2) := by decide +kernel
theorem dL_law_2628 : decode cL_law 2628 = .ok (.aload_n 2, 1) := by decide +kernel
theorem dL_law_2629 : decode cL_law 2629 = .ok (.aload_n 0, 1) := by decide +kernel
theorem dL_law_2630 : decode cL_law 2630 = .ok (.iload 5, 2) := by decide +kernel
theorem dL_law_2632 : decode cL_law 2632 = .ok (.iconst 1, 1) := by decide +kernel
theorem dL_law_2633 : decode cL_law 2633 = .ok (.iadd, 1) := by decide +kernel
theorem dL_law_2634 : decode cL_law 2634 = .ok (.iaload, 1) := by decide +kernel
theorem dL_law_2635 : decode cL_law 2635 = .ok (.i2c, 1) := by decide +kernel
theorem dL_law_2636 : decode cL_law 2636 = .ok (.aload_n 0, 1) := by decide +kernel
theorem dL_law_2637 : decode cL_law 2637 = .ok (.iload 5, 2) := by decide +kernel
theorem dL_law_2639 : decode cL_law 2639 = .ok (.iconst 2, 1) := by decide +kernel
theorem dL_law_2640 : decode cL_law 2640 = .ok (.iadd, 1) := by decide +kernel
theorem dL_law_2641 : decode cL_law 2641 = .ok (.iaload, 1) := by decide +kernel
theorem dL_law_2642 : decode cL_law 2642 = .ok (.invokevirtual 398, 3) := by decide +kernel
theorem dL_law_2645 : decode cL_law 2645 = .ok (.istore 7, 2) := by decide +kernel
theorem dL_law_2647 : decode cL_law 2647 = .ok (.goto 277, 3) := by decide +kernel
theorem dL_law_2650 : decode cL_law 2650 = .ok (.aload_n 1, 1) := by decide +kernel
theorem dL_law_2651 : decode cL_law 2651 = .ok (.aload_n 0, 1) := by decide +kernel
theorem dL_law_2652 : decode cL_law 2652 = .ok (.iload 5, 2) := by decide +kernel
theorem dL_law_2654 : decode cL_law 2654 = .ok (.iconst 1, 1) := by decide +kernel
theorem dL_law_2655 : decode cL_law 2655 = .ok (.iadd, 1) := by decide +kernel
theorem dL_law_2656 : decode cL_law 2656 = .ok (.iaload, 1) := by decide +kernel
theorem dL_law_2657 : decode cL_law 2657 = .ok (.aload_n 0, 1) := by decide +kernel
theorem dL_law_2658 : decode cL_law 2658 = .ok (.iload 5, 2) := by decide +kernel
theorem dL_law_2660 : decode cL_law 2660 = .ok (.iconst 2, 1) := by decide +kernel
theorem dL_law_2661 : decode cL_law 2661 = .ok (.iadd, 1) := by decide +kernel
theorem dL_law_2662 : decode cL_law 2662 = .ok (.iaload, 1) := by decide +kernel
theorem dL_law_2663 : decode cL_law 2663 = .ok (.aload_n 3, 1) := by decide +kernel
theorem dL_law_2664 : decode cL_law 2664 = .ok (.invokestatic 399, 3) := by decide +kernel
theorem dL_law_2667 : decode cL_law 2667 = .ok (.istore 6, 2) := by decide +kernel
theorem dL_law_2669 : decode cL_law 2669 = .ok (.aload_n 2, 1) := by decide +kernel
theorem dL_law_2670 : decode cL_law 2670 = .ok (.aload_n 0, 1) := by decide +kernel
theorem dL_law_2671 : decode cL_law 2671 = .ok (.iload 5, 2) := by decide +kernel
theorem dL_law_2673 : decode cL_law 2673 = .ok (.iconst 1, 1) := by decide +kernel
theorem dL_law_2674 : decode cL_law 2674 = .ok (.iadd, 1) := by decide +kernel
theorem dL_law_2675 : decode cL_law 2675 = .ok (.iaload, 1) := by decide +kernel
theorem dL_law_2676 : decode cL_law 2676 = .ok (.aload_n 0, 1) := by decide +kernel
theorem dL_law_2677 : decode cL_law 2677 = .ok (.iload 5, 2) := by decide +kernel
theorem dL_law_2679 : decode cL_law 2679 = .ok (.iconst 2, 1) := by decide +kernel
theorem dL_law_2680 : decode cL_law 2680 = .ok (.iadd, 1) := by decide +kernel
theorem dL_law_2681 : decode cL_law 2681 = .ok (.iaload, 1) := by decide +kernel
theorem dL_law_2682 : decode cL_law 2682 = .ok (.invokevirtual 401, 3) := by decide +kernel
theorem dL_law_2685 : decode cL_law 2685 = .ok (.istore 7, 2) := by decide +kernel
theorem dL_law_2687 : decode cL_law 2687 = .ok (.goto 237, 3) := by decide +kernel
theorem dL_law_2690 : decode cL_law 2690 = .ok (.aload_n 1, 1) := by decide +kernel
theorem dL_law_2691 : decode cL_law 2691 = .ok (.aload_n 0, 1) := by decide +kernel
theorem dL_law_2692 : decode cL_law 2692 = .ok (.iload 5, 2) := by decide +kernel
theorem dL_law_2694 : decode cL_law 2694 = .ok (.iconst 1, 1) := by decide +kernel
theorem dL_law_2695 : decode cL_law 2695 = .ok (.iadd, 1) := by decide +kernel
theorem dL_law_2696 : decode cL_law 2696 = .ok (.iaload, 1) := by decide +kernel
theorem dL_law_2697 : decode cL_law 2697 = .ok (.aload_n 0, 1) := by decide +kernel
theorem dL_law_2698 : decode cL_law 2698 = .ok (.iload 5, 2) := by decide +kernel
theorem dL_law_2700 : decode cL_law 2700 = .ok (.iconst 2, 1) := by decide +kernel
theorem dL_law_2701 : decode cL_law 2701 = .ok (.iadd, 1) := by decide +kernel
theorem dL_law_2702 : decode cL_law 2702 = .ok (.iaload, 1) := by decide +kernel
theorem dL_law_2703 : decode cL_law 2703 = .ok (.i2c, 1) := by decide +kernel
theorem dL_law_2704 : decode cL_law 2704 = .ok (.aload_n 3, 1) := by decide +kernel
theorem dL_law_2705 : decode cL_law 2705 = .ok (.invokestatic 402, 3) := by decide +kernel
theorem dL_law_2708 : decode cL_law 2708 = .ok (.istore 6, 2) := by decide +kernel
theorem dL_law_2710 : decode cL_law 2710 = .ok (.aload_n 2, 1) := by decide +kernel
theorem dL_law_2711 : decode cL_law 2711 = .ok (.aload_n 0, 1) := by decide +kernel
theorem dL_law_2712 : decode cL_law 2712 = .ok (.iload 5, 2) := by decide +kernel
theorem dL_law_2714 : decode cL_law 2714 = .ok (.iconst 1, 1) := by decide +kernel
theorem dL_law_2715 : decode cL_law 2715 = .ok (.iadd, 1) := by decide +kernel
theorem dL_law_2716 : decode cL_law 2716 = .ok (.iaload, 1) := by decide +kernel
theorem dL_law_2717 : decode cL_law 2717 = .ok (.aload_n 0, 1) := by decide +kernel
theorem dL_law_2718 : decode cL_law 2718 = .ok (.iload 5, 2) := by decide +kernel
theorem dL_law_2720 : decode cL_law 2720 = .ok (.iconst 2, 1) := by decide +kernel
theorem dL_law_2721 : decode cL_law 2721 = .ok (.iadd, 1) := by decide +kernel
theorem dL_law_2722 : decode cL_law 2722 = .ok (.iaload, 1) := by decide +kernel
theorem dL_law_2723 : decode cL_law 2723 = .ok (.i2c, 1) := by decide +kernel
theorem dL_law_2724 : decode cL_law 2724 = .ok (.invokevirtual 405, 3) := by decide +kernel
theorem dL_law_2727 : decode cL_law 2727 = .ok (.istore 7, 2) := by decide +kernel
theorem dL_law_2729 : decode cL_law 2729 = .ok (.goto 195, 3) := by decide +kernel
theorem dL_law_2732 : decode cL_law 2732 = .ok (.aload_n 1, 1) := by decide +kernel
theorem dL_law_2733 : decode cL_law 2733 = .ok (.aload_n 0, 1) := by decide +kernel
theorem dL_law_2734 : decode cL_law 2734 = .ok (.iload 5, 2) := by decide +kernel
theorem dL_law_2736 : decode cL_law 2736 = .ok (.iconst 1, 1) := by decide +kernel
theorem dL_law_2737 : decode cL_law 2737 = .ok (.iadd, 1) := by decide +kernel
theorem dL_law_2738 : decode cL_law 2738 = .ok (.iaload, 1) := by decide +kernel
theorem dL_law_2739 : decode cL_law 2739 = .ok (.aload_n 3, 1) := by decide +kernel
theorem dL_law_2740 : decode cL_law 2740 = .ok (.invokestatic 406, 3) := by decide +kernel
theorem dL_law_2743 : decode cL_law 2743 = .ok (.istore 6, 2) := by decide +kernel
theorem dL_law_2745 : decode cL_law 2745 = .ok (.aload_n 2, 1) := by decide +kernel
theorem dL_law_2746 : decode cL_law 2746 = .ok (.aload_n 0, 1) := by decide +kernel
theorem dL_law_2747 : decode cL_law 2747 = .ok (.iload 5, 2) := by decide +kernel
theorem dL_law_2749 : decode cL_law 2749 = .ok (.iconst 1, 1) := by decide +kernel
theorem dL_law_2750 : decode cL_law 2750 = .ok (.iadd, 1) := by decide +kernel
theorem dL_law_2751 : decode cL_law 2751 = .ok (.iaload, 1) := by decide +kernel
theorem dL_law_2752 : decode cL_law 2752 = .ok (.invokevirtual 408, 3) := by decide +kernel
theorem dL_law_2755 : decode cL_law 2755 = .ok (.istore 7, 2) := by decide +kernel
theorem dL_law_2757 : decode cL_law 2757 = .ok (.goto 167, 3) := by decide +kernel
theorem dL_law_2760 : decode cL_law 2760 = .ok (.aload_n 1, 1) := by decide +kernel
theorem dL_law_2761 : decode cL_law 2761 = .ok (.aload_n 0, 1) := by decide +kernel
theorem dL_law_2762 : decode cL_law 2762 = .ok (.iload 5, 2) := by decide +kernel
theorem dL_law_2764 : decode cL_law 2764 = .ok (.iconst 1, 1) := by decide +kernel
theorem dL_law_2765 : decode cL_law 2765 = .ok (.iadd, 1) := by decide +kernel
theorem dL_law_2766 : decode cL_law 2766 = .ok (.iaload, 1) := by decide +kernel
theorem dL_law_2767 : decode cL_law 2767 = .ok (.aload_n 0, 1) := by decide +kernel
theorem dL_law_2768 : decode cL_law 2768 = .ok (.iload 5, 2) := by decide +kernel
theorem dL_law_2770 : decode cL_law 2770 = .ok (.iconst 2, 1) := by decide +kernel
theorem dL_law_2771 : decode cL_law 2771 = .ok (.iadd, 1) := by decide +kernel
theorem dL_law_2772 : decode cL_law 2772 = .ok (.iaload, 1) := by decide +kernel
theorem dL_law_2773 : decode cL_law 2773 = .ok (.aload_n 0, 1) := by decide +kernel
theorem dL_law_2774 : decode cL_law 2774 = .ok (.iload 5, 2) := by decide +kernel
theorem dL_law_2776 : decode cL_law 2776 = .ok (.iconst 3, 1) := by decide +kernel
theorem dL_law_2777 : decode cL_law 2777 = .ok (.iadd, 1) := by decide +kernel
theorem dL_law_2778 : decode cL_law 2778 = .ok (.iaload, 1) := by decide +kernel
theorem dL_law_2779 : decode cL_law 2779 = .ok (.aload_n 3, 1) := by decide +kernel
theorem dL_law_2780 : decode cL_law 2780 = .ok (.invokestatic 409, 3) := by decide +kernel
theorem dL_law_2783 : decode cL_law 2783 = .ok (.istore 6, 2) := by decide +kernel
theorem dL_law_2785 : decode cL_law 2785 = .ok (.aload_n 2, 1) := by decide +kernel
theorem dL_law_2786 : decode cL_law 2786 = .ok (.aload_n 0, 1) := by decide +kernel
theorem dL_law_2787 : decode cL_law 2787 = .ok (.iload 5, 2) := by decide +kernel
theorem dL_law_2789 : decode cL_law 2789 = .ok (.iconst 1, 1) := by decide +kernel
theorem dL_law_2790 : decode cL_law 2790 = .ok (.iadd, 1) := by decide +kernel
theorem dL_law_2791 : decode cL_law 2791 = .ok (.iaload, 1) := by decide +kernel
theorem dL_law_2792 : decode cL_law 2792 = .ok (.aload_n 0, 1) := by decide +kernel
theorem dL_law_2793 : decode cL_law 2793 = .ok (.iload 5, 2) := by decide +kernel
theorem dL_law_2795 : decode cL_law 2795 = .ok (.iconst 2, 1) := by decide +kernel
theorem dL_law_2796 : decode cL_law 2796 = .ok (.iadd, 1) := by decide +kernel
theorem dL_law_2797 : decode cL_law 2797 = .ok (.iaload, 1) := by decide +kernel
theorem dL_law_2798 : decode cL_law 2798 = .ok (.aload_n 0, 1) := by decide +kernel
theorem dL_law_2799 : decode cL_law 2799 = .ok (.iload 5, 2) := by decide +kernel
theorem dL_law_2801 : decode cL_law 2801 = .ok (.iconst 3, 1) := by decide +kernel
theorem dL_law_2802 : decode cL_law 2802 = .ok (.iadd, 1) := by decide +kernel
theorem dL_law_2803 : decode cL_law 2803 = .ok (.iaload, 1) := by decide +kernel
theorem dL_law_2804 : decode cL_law 2804 = .ok (.invokevirtual 411, 3) := by decide +kernel
theorem dL_law_2807 : decode cL_law 2807 = .ok (.istore 7, 2) := by decide +kernel
theorem dL_law_2809 : decode cL_law 2809 = .ok (.goto 115, 3) := by decide +kernel
theorem dL_law_2812 : decode cL_law 2812 = .ok (.aload_n 1, 1) := by decide +kernel
theorem dL_law_2813 : decode cL_law 2813 = .ok (.aload_n 0, 1) := by decide +kernel
theorem dL_law_2814 : decode cL_law 2814 = .ok (.iload 5, 2) := by decide +kernel
theorem dL_law_2816 : decode cL_law 2816 = .ok (.iconst 1, 1) := by decide +kernel
theorem dL_law_2817 : decode cL_law 2817 = .ok (.iadd, 1) := by decide +kernel
theorem dL_law_2818 : decode cL_law 2818 = .ok (.iaload, 1) := by decide +kernel
theorem dL_law_2819 : decode cL_law 2819 = .ok (.aload_n 0, 1) := by decide +kernel
theorem dL_law_2820 : decode cL_law 2820 = .ok (.iload 5, 2) := by decide +kernel
theorem dL_law_2822 : decode cL_law 2822 = .ok (.iconst 2, 1) := by decide +kernel
theorem dL_law_2823 : decode cL_law 2823 = .ok (.iadd, 1) := by decide +kernel
theorem dL_law_2824 : decode cL_law 2824 = .ok (.iaload, 1) := by decide +kernel
theorem dL_law_2825 : decode cL_law 2825 = .ok (.aload_n 0, 1) := by decide +kernel
theorem dL_law_2826 : decode cL_law 2826 = .ok (.iload 5, 2) := by decide +kernel
theorem dL_law_2828 : decode cL_law 2828 = .ok (.iconst 3, 1) := by decide +kernel
theorem dL_law_2829 : decode cL_law 2829 = .ok (.iadd, 1) := by decide +kernel
theorem dL_law_2830 : decode cL_law 2830 = .ok (.iaload, 1) := by decide +kernel
theorem dL_law_2831 : decode cL_law 2831 = .ok (.aload_n 3, 1) := by decide +kernel
theorem dL_law_2832 : decode cL_law 2832 = .ok (.invokestatic 412, 3) := by decide +kernel
theorem dL_law_2835 : decode cL_law 2835 = .ok (.istore 6, 2) := by decide +kernel
theorem dL_law_2837 : decode cL_law 2837 = .ok (.aload_n 2, 1) := by decide +kernel
theorem dL_law_2838 : decode cL_law 2838 = .ok (.aload_n 0, 1) := by decide +kernel
theorem dL_law_2839 : decode cL_law 2839 = .ok (.iload 5, 2) := by decide +kernel
theorem dL_law_2841 : decode cL_law 2841 = .ok (.iconst 1, 1) := by decide +kernel
theorem dL_law_2842 : decode cL_law 2842 = .ok (.iadd, 1) := by decide +kernel
theorem dL_law_2843 : decode cL_law 2843 = .ok (.iaload, 1) := by decide +kernel
theorem dL_law_2844 : decode cL_law 2844 = .ok (.aload_n 0, 1) := by decide +kernel
theorem dL_law_2845 : decode cL_law 2845 = .ok (.iload 5, 2) := by decide +kernel
theorem dL_law_2847 : decode cL_law 2847 = .ok (.iconst 2, 1) := by decide +kernel
theorem dL_law_2848 : decode cL_law 2848 = .ok (.iadd, 1) := by decide +kernel
theorem dL_law_2849 : decode cL_law 2849 = .ok (.iaload, 1) := by decide +kernel
theorem dL_law_2850 : decode cL_law 2850 = .ok (.aload_n 0, 1) := by decide +kernel
theorem dL_law_2851 : decode cL_law 2851 = .ok (.iload 5, 2) := by decide +kernel
theorem dL_law_2853 : decode cL_law 2853 = .ok (.iconst 3, 1) := by decide +kernel
theorem dL_law_2854 : decode cL_law 2854 = .ok (.iadd, 1) := by decide +kernel
theorem dL_law_2855 : decode cL_law 2855 = .ok (.iaload, 1) := by decide +kernel
theorem dL_law_2856 : decode cL_law 2856 = .ok (.invokevirtual 414, 3) := by decide +kernel
theorem dL_law_2859 : decode cL_law 2859 = .ok (.istore 7, 2) := by decide +kernel
theorem dL_law_2861 : decode cL_law 2861 = .ok (.goto 63, 3) := by decide +kernel
theorem dL_law_2864 : decode cL_law 2864 = .ok (.aload_n 1, 1) := by decide +kernel
theorem dL_law_2865 : decode cL_law 2865 = .ok (.invokevirtual 415, 3) := by decide +kernel
theorem dL_law_2868 : decode cL_law 2868 = .ok (.pop2, 1) := by decide +kernel
theorem dL_law_2869 : decode cL_law 2869 = .ok (.aload_n 2, 1) := by decide +kernel
theorem dL_law_2870 : decode cL_law 2870 = .ok (.invokevirtual 419, 3) := by decide +kernel
theorem dL_law_2873 : decode cL_law 2873 = .ok (.pop2, 1) := by decide +kernel
theorem dL_law_2874 : decode cL_law 2874 = .ok (.goto 50, 3) := by decide +kernel
theorem dL_law_2877 : decode cL_law 2877 = .ok (.aload_n 1, 1) := by decide +kernel
theorem dL_law_2878 : decode cL_law 2878 = .ok (.aload 4, 2) := by decide +kernel
theorem dL_law_2880 : decode cL_law 2880 = .ok (.invokestatic 420, 3) := by decide +kernel
theorem dL_law_2883 : decode cL_law 2883 = .ok (.istore 6, 2) := by decide +kernel
theorem dL_law_2885 : decode cL_law 2885 = .ok (.aload_n 2, 1) := by decide +kernel
theorem dL_law_2886 : decode cL_law 2886 = .ok (.invokevirtual 423, 3) := by decide +kernel
theorem dL_law_2889 : decode cL_law 2889 = .ok (.fstore 7, 2) := by decide +kernel
theorem dL_law_2891 : decode cL_law 2891 = .ok (.goto 33, 3) := by decide +kernel
theorem dL_law_2894 : decode cL_law 2894 = .ok (.aload_n 1, 1) := by decide +kernel
theorem dL_law_2895 : decode cL_law 2895 = .ok (.aload 4, 2) := by decide +kernel
theorem dL_law_2897 : decode cL_law 2897 = .ok (.invokestatic 424, 3) := by decide +kernel
theorem dL_law_2900 : decode cL_law 2900 = .ok (.istore 6, 2) := by decide +kernel
theorem dL_law_2902 : decode cL_law 2902 = .ok (.aload_n 2, 1) := by decide +kernel
theorem dL_law_2903 : decode cL_law 2903 = .ok (.invokevirtual 426, 3) := by decide +kernel
theorem dL_law_2906 : decode cL_law 2906 = .ok (.dstore 7, 2) := by decide +kernel
theorem dL_law_2908 : decode cL_law 2908 = .ok (.goto 16, 3) := by decide +kernel
theorem dL_law_2911 : decode cL_law 2911 = .ok (.aload_n 1, 1) := by decide +kernel
theorem dL_law_2912 : decode cL_law 2912 = .ok (.invokevirtual 427, 3) := by decide +kernel
theorem dL_law_2915 : decode cL_law 2915 = .ok (.pop, 1) := by decide +kernel
theorem dL_law_2916 : decode cL_law 2916 = .ok (.aload_n 2, 1) := by decide +kernel
theorem dL_law_2917 : decode cL_law 2917 = .ok (.invokevirtual 431, 3) := by decide +kernel
theorem dL_law_2920 : decode cL_law 2920 = .ok (.pop, 1) := by decide +kernel
theorem dL_law_2921 : decode cL_law 2921 = .ok (.goto 3, 3) := by decide +kernel
theorem dL_law_2924 : decode cL_law 2924 = .ok (.iinc 5 5, 3) := by decide +kernel
theorem dL_law_2927 : decode cL_law 2927 = .ok (.goto (-2899), 3) := by decide +kernel
theorem dL_law_2930 : decode cL_law 2930 = .ok (.iconst 1, 1) := by decide +kernel
theorem dL_law_2931 : decode cL_law 2931 = .ok (.ireturn, 1) := by decide +kernel

