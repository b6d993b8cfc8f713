def dlL_law_1937 : List (Nat × Instr × Nat) := [(1937, .iaload, 1), (1938, .aload_n 0, 1), (1939, .iload 5, 2), (1941, .iconst 3, 1), (1942, .iadd, 1), (1943, .iaload, 1), (1944, .invokevirtual 343, 3), (1947, .istore 7, 2), (1949, .goto 975, 3), (1952, .aload_n 1, 1), (1953, .aload_n 0, 1), (1954, .iload 5, 2), (1956, .iconst 1, 1), (1957, .iadd, 1), (1958, .iaload, 1), (1959, .aload_n 3, 1), (1960, .invokestatic 344, 3), (1963, .istore 6, 2), (1965, .aload_n 2, 1), (1966, .aload_n 0, 1), (1967, .iload 5, 2), (1969, .iconst 1, 1), (1970, .iadd, 1), (1971, .iaload, 1), (1972, .invokevirtual 346, 3), (1975, .istore 7, 2), (1977, .goto 947, 3), (1980, .aload_n 1, 1), (1981, .aload_n 0, 1), (1982, .iload 5, 2), (1984, .iconst 1, 1), (1985, .iadd, 1), (1986, .iaload, 1), (1987, .aload_n 0, 1), (1988, .iload 5, 2), (1990, .iconst 2, 1), (1991, .iadd, 1), (1992, .iaload, 1), (1993, .aload_n 0, 1), (1994, .iload 5, 2), (1996, .iconst 3, 1), (1997, .iadd, 1), (1998, .iaload, 1), (1999, .aload_n 3, 1), (2000, .invokestatic 347, 3), (2003, .istore 6, 2), (2005, .aload_n 2, 1), (2006, .aload_n 0, 1), (2007, .iload 5, 2), (2009, .iconst 1, 1), (2010, .iadd, 1), (2011, .iaload, 1), (2012, .aload_n 0, 1), (2013, .iload 5, 2), (2015, .iconst 2, 1), (2016, .iadd, 1), (2017, .iaload, 1), (2018, .aload_n 0, 1), (2019, .iload 5, 2), (2021, .iconst 3, 1), (2022, .iadd, 1), (2023, .iaload, 1), (2024, .invokevirtual 349, 3), (2027, .istore 7, 2), (2029, .goto 895, 3), (2032, .aload_n 1, 1), (2033, .aload_n 0, 1), (2034, .iload 5, 2), (2036, .iconst 1, 1), (2037, .iadd, 1), (2038, .iaload, 1), (2039, .aload_n 3, 1), (2040, .invokestatic 350, 3), (2043, .istore 6, 2), (2045, .aload_n 2, 1), (2046, .aload_n 0, 1), (2047, .iload 5, 2), (2049, .iconst 1, 1), (2050, .iadd, 1), (2051, .iaload, 1)]
theorem dbL_law_1937 : ∀ q ∈ dlL_law_1937, decode cL_law q.1 = .ok q.2 := by decide +kernel
theorem dL_law_1937 : decode cL_law 1937 = .ok (.iaload, 1) := dgt dbL_law_1937 0 rfl
theorem dL_law_1938 : decode cL_law 1938 = .ok (.aload_n 0, 1) := dgt dbL_law_1937 1 rfl
theorem dL_law_1939 : decode cL_law 1939 = .ok (.iload 5, 2) := dgt dbL_law_1937 2 rfl
theorem dL_law_1941 : decode cL_law 1941 = .ok (.iconst 3, 1) := dgt dbL_law_1937 3 rfl
theorem dL_law_1942 : decode cL_law 1942 = .ok (.iadd, 1) := dgt dbL_law_1937 4 rfl
theorem dL_law_1943 : decode cL_law 1943 = .ok (.iaload, 1) := dgt dbL_law_1937 5 rfl
theorem dL_law_1944 : decode cL_law 1944 = .ok (.invokevirtual 343, 3) := dgt dbL_law_1937 6 rfl
theorem dL_law_1947 : decode cL_law 1947 = .ok (.istore 7, 2) := dgt dbL_law_1937 7 rfl
theorem dL_law_1949 : decode cL_law 1949 = .ok (.goto 975, 3) := dgt dbL_law_1937 8 rfl
theorem dL_law_1952 : decode cL_law 1952 = .ok (.aload_n 1, 1) := dgt dbL_law_1937 9 rfl
theorem dL_law_1953 : decode cL_law 1953 = .ok (.aload_n 0, 1) := dgt dbL_law_1937 10 rfl
theorem dL_law_1954 : decode cL_law 1954 = .ok (.iload 5, 2) := dgt dbL_law_1937 11 rfl
theorem dL_law_1956 : decode cL_law 1956 = .ok (.iconst 1, 1) := dgt dbL_law_1937 12 rfl
theorem dL_law_1957 : decode cL_law 1957 = .ok (.iadd, 1) := dgt dbL_law_1937 13 rfl
theorem dL_law_1958 : decode cL_law 1958 = .ok (.iaload, 1) := dgt dbL_law_1937 14 rfl
theorem dL_law_1959 : decode cL_law 1959 = .ok (.aload_n 3, 1) := dgt dbL_law_1937 15 rfl
theorem dL_law_1960 : decode cL_law 1960 = .ok (.invokestatic 344, 3) := dgt dbL_law_1937 16 rfl
theorem dL_law_1963 : decode cL_law 1963 = .ok (.istore 6, 2) := dgt dbL_law_1937 17 rfl
theorem dL_law_1965 : decode cL_law 1965 = .ok (.aload_n 2, 1) := dgt dbL_law_1937 18 rfl
theorem dL_law_1966 : decode cL_law 1966 = .ok (.aload_n 0, 1) := dgt dbL_law_1937 19 rfl
theorem dL_law_1967 : decode cL_law 1967 = .ok (.iload 5, 2) := dgt dbL_law_1937 20 rfl
theorem dL_law_1969 : decode cL_law 1969 = .ok (.iconst 1, 1) := dgt dbL_law_1937 21 rfl
theorem dL_law_1970 : decode cL_law 1970 = .ok (.iadd, 1) := dgt dbL_law_1937 22 rfl
theorem dL_law_1971 : decode cL_law 1971 = .ok (.iaload, 1) := dgt dbL_law_1937 23 rfl
theorem dL_law_1972 : decode cL_law 1972 = .ok (.invokevirtual 346, 3) := dgt dbL_law_1937 24 rfl
theorem dL_law_1975 : decode cL_law 1975 = .ok (.istore 7, 2) := dgt dbL_law_1937 25 rfl
theorem dL_law_1977 : decode cL_law 1977 = .ok (.goto 947, 3) := dgt dbL_law_1937 26 rfl
theorem dL_law_1980 : decode cL_law 1980 = .ok (.aload_n 1, 1) := dgt dbL_law_1937 27 rfl
theorem dL_law_1981 : decode cL_law 1981 = .ok (.aload_n 0, 1) := dgt dbL_law_1937 28 rfl
theorem dL_law_1982 : decode cL_law 1982 = .ok (.iload 5, 2) := dgt dbL_law_1937 29 rfl
theorem dL_law_1984 : decode cL_law 1984 = .ok (.iconst 1, 1) := dgt dbL_law_1937 30 rfl
theorem dL_law_1985 : decode cL_law 1985 = .ok (.iadd, 1) := dgt dbL_law_1937 31 rfl
theorem dL_law_1986 : decode cL_law 1986 = .ok (.iaload, 1) := dgt dbL_law_1937 32 rfl
theorem dL_law_1987 : decode cL_law 1987 = .ok (.aload_n 0, 1) := dgt dbL_law_1937 33 rfl
theorem dL_law_1988 : decode cL_law 1988 = .ok (.iload 5, 2) := dgt dbL_law_1937 34 rfl
theorem dL_law_1990 : decode cL_law 1990 = .ok (.iconst 2, 1) := dgt dbL_law_1937 35 rfl
theorem dL_law_1991 : decode cL_law 1991 = .ok (.iadd, 1) := dgt dbL_law_1937 36 rfl
theorem dL_law_1992 : decode cL_law 1992 = .ok (.iaload, 1) := dgt dbL_law_1937 37 rfl
theorem dL_law_1993 : decode cL_law 1993 = .ok (.aload_n 0, 1) := dgt dbL_law_1937 38 rfl
theorem dL_law_1994 : decode cL_law 1994 = .ok (.iload 5, 2) := dgt dbL_law_1937 39 rfl
theorem dL_law_1996 : decode cL_law 1996 = .ok (.iconst 3, 1) := dgt dbL_law_1937 40 rfl
theorem dL_law_1997 : decode cL_law 1997 = .ok (.iadd, 1) := dgt dbL_law_1937 41 rfl
theorem dL_law_1998 : decode cL_law 1998 = .ok (.iaload, 1) := dgt dbL_law_1937 42 rfl
theorem dL_law_1999 : decode cL_law 1999 = .ok (.aload_n 3, 1) := dgt dbL_law_1937 43 rfl
theorem dL_law_2000 : decode cL_law 2000 = .ok (.invokestatic 347, 3) := dgt dbL_law_1937 44 rfl
theorem dL_law_2003 : decode cL_law 2003 = .ok (.istore 6, 2) := dgt dbL_law_1937 45 rfl
theorem dL_law_2005 : decode cL_law 2005 = .ok (.aload_n 2, 1) := dgt dbL_law_1937 46 rfl
theorem dL_law_2006 : decode cL_law 2006 = .ok (.aload_n 0, 1) := dgt dbL_law_1937 47 rfl
theorem dL_law_2007 : decode cL_law 2007 = .ok (.iload 5, 2) := dgt dbL_law_1937 48 rfl
theorem dL_law_2009 : decode cL_law 2009 = .ok (.iconst 1, 1) := dgt dbL_law_1937 49 rfl
theorem dL_law_2010 : decode cL_law 2010 = .ok (.iadd, 1) := dgt dbL_law_1937 50 rfl
theorem dL_law_2011 : decode cL_law 2011 = .ok (.iaload, 1) := dgt dbL_law_1937 51 rfl
theorem dL_law_2012 : decode cL_law 2012 = .ok (.aload_n 0, 1) := dgt dbL_law_1937 52 rfl
theorem dL_law_2013 : decode cL_law 2013 = .ok (.iload 5, 2) := dgt dbL_law_1937 53 rfl
theorem dL_law_2015 : decode cL_law 2015 = .ok (.iconst 2, 1) := dgt dbL_law_1937 54 rfl
theorem dL_law_2016 : decode cL_law 2016 = .ok (.iadd, 1) := dgt dbL_law_1937 55 rfl
theorem dL_law_2017 : decode cL_law 2017 = .ok (.iaload, 1) := dgt dbL_law_1937 56 rfl
theorem dL_law_2018 : decode cL_law 2018 = .ok (.aload_n 0, 1) := dgt dbL_law_1937 57 rfl
theorem dL_law_2019 : decode cL_law 2019 = .ok (.iload 5, 2) := dgt dbL_law_1937 58 rfl
theorem dL_law_2021 : decode cL_law 2021 = .ok (.iconst 3, 1) := dgt dbL_law_1937 59 rfl
theorem dL_law_2022 : decode cL_law 2022 = .ok (.iadd, 1) := dgt dbL_law_1937 60 rfl
theorem dL_law_2023 : decode cL_law 2023 = .ok (.iaload, 1) := dgt dbL_law_1937 61 rfl
theorem dL_law_2024 : decode cL_law 2024 = .ok (.invokevirtual 349, 3) := dgt dbL_law_1937 62 rfl
theorem dL_law_2027 : decode cL_law 2027 = .ok (.istore 7, 2) := dgt dbL_law_1937 63 rfl
theorem dL_law_2029 : decode cL_law 2029 = .ok (.goto 895, 3) := dgt dbL_law_1937 64 rfl
theorem dL_law_2032 : decode cL_law 2032 = .ok (.aload_n 1, 1) := dgt dbL_law_1937 65 rfl
theorem dL_law_2033 : decode cL_law 2033 = .ok (.aload_n 0, 1) := dgt dbL_law_1937 66 rfl
theorem dL_law_2034 : decode cL_law 2034 = .ok (.iload 5, 2) := dgt dbL_law_1937 67 rfl
theorem dL_law_2036 : decode cL_law 2036 = .ok (.iconst 1, 1) := dgt dbL_law_1937 68 rfl
theorem dL_law_2037 : decode cL_law 2037 = .ok (.iadd, 1) := dgt dbL_law_1937 69 rfl
theorem dL_law_2038 : decode cL_law 2038 = .ok (.iaload, 1) := dgt dbL_law_1937 70 rfl
theorem dL_law_2039 : decode cL_law 2039 = .ok (.aload_n 3, 1) := dgt dbL_law_1937 71 rfl
theorem dL_law_2040 : decode cL_law 2040 = .ok (.invokestatic 350, 3) := dgt dbL_law_1937 72 rfl
theorem dL_law_2043 : decode cL_law 2043 = .ok (.istore 6, 2) := dgt dbL_law_1937 73 rfl
theorem dL_law_2045 : decode cL_law 2045 = .ok (.aload_n 2, 1) := dgt dbL_law_1937 74 rfl
theorem dL_law_2046 : decode cL_law 2046 = .ok (.aload_n 0, 1) := dgt dbL_law_1937 75 rfl
theorem dL_law_2047 : decode cL_law 2047 = .ok (.iload 5, 2) := dgt dbL_law_1937 76 rfl
theorem dL_law_2049 : decode cL_law 2049 = .ok (.iconst 1, 1) := dgt dbL_law_1937 77 rfl
theorem dL_law_2050 : decode cL_law 2050 = .ok (.iadd, 1) := dgt dbL_law_1937 78 rfl
theorem dL_law_2051 : decode cL_law 2051 = .ok (.iaload, 1) := dgt dbL_law_1937 79 rfl
def dlL_law_2052 : List (Nat × Instr × Nat) := [(2052, .invokevirtual 352, 3), (2055, .istore 7, 2), (2057, .goto 867, 3), (2060, .aload_n 1, 1), (2061, .aload_n 0, 1), (2062, .iload 5, 2), (2064, .iconst 1, 1), (2065, .iadd, 1), (2066, .iaload, 1), (2067, .aload_n 3, 1), (2068, .invokestatic 353, 3), (2071, .istore 6, 2), (2073, .aload_n 2, 1), (2074, .aload_n 0, 1), (2075, .iload 5, 2), (2077, .iconst 1, 1), (2078, .iadd, 1), (2079, .iaload, 1), (2080, .invokevirtual 355, 3), (2083, .istore 7, 2), (2085, .goto 839, 3), (2088, .aload_n 1, 1), (2089, .aload_n 0, 1), (2090, .iload 5, 2), (2092, .iconst 1, 1), (2093, .iadd, 1), (2094, .iaload, 1), (2095, .aload_n 0, 1), (2096, .iload 5, 2), (2098, .iconst 2, 1), (2099, .iadd, 1), (2100, .iaload, 1), (2101, .aload_n 3, 1), (2102, .invokestatic 356, 3), (2105, .istore 6, 2), (2107, .aload_n 2, 1), (2108, .aload_n 0, 1), (2109, .iload 5, 2), (2111, .iconst 1, 1), (2112, .iadd, 1), (2113, .iaload, 1), (2114, .aload_n 0, 1), (2115, .iload 5, 2), (2117, .iconst 2, 1), (2118, .iadd, 1), (2119, .iaload, 1), (2120, .invokevirtual 358, 3), (2123, .istore 7, 2), (2125, .goto 799, 3), (2128, .aload_n 1, 1), (2129, .aload_n 0, 1), (2130, .iload 5, 2), (2132, .iconst 1, 1), (2133, .iadd, 1), (2134, .iaload, 1), (2135, .aload_n 3, 1), (2136, .invokestatic 359, 3), (2139, .istore 6, 2), (2141, .aload_n 2, 1), (2142, .aload_n 0, 1), (2143, .iload 5, 2), (2145, .iconst 1, 1), (2146, .iadd, 1), (2147, .iaload, 1), (2148, .invokevirtual 361, 3), (2151, .istore 7, 2), (2153, .goto 771, 3), (2156, .aload_n 1, 1), (2157, .aload_n 0, 1), (2158, .iload 5, 2), (2160, .iconst 1, 1), (2161, .iadd, 1), (2162, .iaload, 1), (2163, .aload_n 0, 1), (2164, .iload 5, 2), (2166, .iconst 2, 1), (2167, .iadd, 1), (2168, .iaload, 1), (2169, .aload_n 0, 1), (2170, .iload 5, 2)]
theorem dbL_law_2052 : ∀ q ∈ dlL_law_2052, decode cL_law q.1 = .ok q.2 := by decide +kernel
theorem dL_law_2052 : decode cL_law 2052 = .ok (.invokevirtual 352, 3) := dgt dbL_law_2052 0 rfl
theorem dL_law_2055 : decode cL_law 2055 = .ok (.istore 7, 2) := dgt dbL_law_2052 1 rfl
theorem dL_law_2057 : decode cL_law 2057 = .ok (.goto 867, 3) := dgt dbL_law_2052 2 rfl
theorem dL_law_2060 : decode cL_law 2060 = .ok (.aload_n 1, 1) := dgt dbL_law_2052 3 rfl
theorem dL_law_2061 : decode cL_law 2061 = .ok (.aload_n 0, 1) := dgt dbL_law_2052 4 rfl
theorem dL_law_2062 : decode cL_law 2062 = .ok (.iload 5, 2) := dgt dbL_law_2052 5 rfl
theorem dL_law_2064 : decode cL_law 2064 = .ok (.iconst 1, 1) := dgt dbL_law_2052 6 rfl
theorem dL_law_2065 : decode cL_law 2065 = .ok (.iadd, 1) := dgt dbL_law_2052 7 rfl
theorem dL_law_2066 : decode cL_law 2066 = .ok (.iaload, 1) := dgt dbL_law_2052 8 rfl
theorem dL_law_2067 : decode cL_law 2067 = .ok (.aload_n 3, 1) := dgt dbL_law_2052 9 rfl
theorem dL_law_2068 : decode cL_law 2068 = .ok (.invokestatic 353, 3) := dgt dbL_law_2052 10 rfl
theorem dL_law_2071 : decode cL_law 2071 = .ok (.istore 6, 2) := dgt dbL_law_2052 11 rfl
theorem dL_law_2073 : decode cL_law 2073 = .ok (.aload_n 2, 1) := dgt dbL_law_2052 12 rfl
theorem dL_law_2074 : decode cL_law 2074 = .ok (.aload_n 0, 1) := dgt dbL_law_2052 13 rfl
theorem dL_law_2075 : decode cL_law 2075 = .ok (.iload 5, 2) := dgt dbL_law_2052 14 rfl
theorem dL_law_2077 : decode cL_law 2077 = .ok (.iconst 1, 1) := dgt dbL_law_2052 15 rfl
theorem dL_law_2078 : decode cL_law 2078 = .ok (.iadd, 1) := dgt dbL_law_2052 16 rfl
theorem dL_law_2079 : decode cL_law 2079 = .ok (.iaload, 1) := dgt dbL_law_2052 17 rfl
theorem dL_law_2080 : decode cL_law 2080 = .ok (.invokevirtual 355, 3) := dgt dbL_law_2052 18 rfl
theorem dL_law_2083 : decode cL_law 2083 = .ok (.istore 7, 2) := dgt dbL_law_2052 19 rfl
theorem dL_law_2085 : decode cL_law 2085 = .ok (.goto 839, 3) := dgt dbL_law_2052 20 rfl
theorem dL_law_2088 : decode cL_law 2088 = .ok (.aload_n 1, 1) := dgt dbL_law_2052 21 rfl
theorem dL_law_2089 : decode cL_law 2089 = .ok (.aload_n 0, 1) := dgt dbL_law_2052 22 rfl
theorem dL_law_2090 : decode cL_law 2090 = .ok (.iload 5, 2) := dgt dbL_law_2052 23 rfl
theorem dL_law_2092 : decode cL_law 2092 = .ok (.iconst 1, 1) := dgt dbL_law_2052 24 rfl
theorem dL_law_2093 : decode cL_law 2093 = .ok (.iadd, 1) := dgt dbL_law_2052 25 rfl
theorem dL_law_2094 : decode cL_law 2094 = .ok (.iaload, 1) := dgt dbL_law_2052 26 rfl
theorem dL_law_2095 : decode cL_law 2095 = .ok (.aload_n 0, 1) := dgt dbL_law_2052 27 rfl
theorem dL_law_2096 : decode cL_law 2096 = .ok (.iload 5, 2) := dgt dbL_law_2052 28 rfl
theorem dL_law_2098 : decode cL_law 2098 = .ok (.iconst 2, 1) := dgt dbL_law_2052 29 rfl
theorem dL_law_2099 : decode cL_law 2099 = .ok (.iadd, 1) := dgt dbL_law_2052 30 rfl
theorem dL_law_2100 : decode cL_law 2100 = .ok (.iaload, 1) := dgt dbL_law_2052 31 rfl
theorem dL_law_2101 : decode cL_law 2101 = .ok (.aload_n 3, 1) := dgt dbL_law_2052 32 rfl
theorem dL_law_2102 : decode cL_law 2102 = .ok (.invokestatic 356, 3) := dgt dbL_law_2052 33 rfl
theorem dL_law_2105 : decode cL_law 2105 = .ok (.istore 6, 2) := dgt dbL_law_2052 34 rfl
theorem dL_law_2107 : decode cL_law 2107 = .ok (.aload_n 2, 1) := dgt dbL_law_2052 35 rfl
theorem dL_law_2108 : decode cL_law 2108 = .ok (.aload_n 0, 1) := dgt dbL_law_2052 36 rfl
theorem dL_law_2109 : decode cL_law 2109 = .ok (.iload 5, 2) := dgt dbL_law_2052 37 rfl
theorem dL_law_2111 : decode cL_law 2111 = .ok (.iconst 1, 1) := dgt dbL_law_2052 38 rfl
theorem dL_law_2112 : decode cL_law 2112 = .ok (.iadd, 1) := dgt dbL_law_2052 39 rfl
theorem dL_law_2113 : decode cL_law 2113 = .ok (.iaload, 1) := dgt dbL_law_2052 40 rfl
theorem dL_law_2114 : decode cL_law 2114 = .ok (.aload_n 0, 1) := dgt dbL_law_2052 41 rfl
theorem dL_law_2115 : decode cL_law 2115 = .ok (.iload 5, 2) := dgt dbL_law_2052 42 rfl
theorem dL_law_2117 : decode cL_law 2117 = .ok (.iconst 2, 1) := dgt dbL_law_2052 43 rfl
theorem dL_law_2118 : decode cL_law 2118 = .ok (.iadd, 1) := dgt dbL_law_2052 44 rfl
theorem dL_law_2119 : decode cL_law 2119 = .ok (.iaload, 1) := dgt dbL_law_2052 45 rfl
theorem dL_law_2120 : decode cL_law 2120 = .ok (.invokevirtual 358, 3) := dgt dbL_law_2052 46 rfl
theorem dL_law_2123 : decode cL_law 2123 = .ok (.istore 7, 2) := dgt dbL_law_2052 47 rfl
theorem dL_law_2125 : decode cL_law 2125 = .ok (.goto 799, 3) := dgt dbL_law_2052 48 rfl
theorem dL_law_2128 : decode cL_law 2128 = .ok (.aload_n 1, 1) := dgt dbL_law_2052 49 rfl
theorem dL_law_2129 : decode cL_law 2129 = .ok (.aload_n 0, 1) := dgt dbL_law_2052 50 rfl
theorem dL_law_2130 : decode cL_law 2130 = .ok (.iload 5, 2) := dgt dbL_law_2052 51 rfl
theorem dL_law_2132 : decode cL_law 2132 = .ok (.iconst 1, 1) := dgt dbL_law_2052 52 rfl
theorem dL_law_2133 : decode cL_law 2133 = .ok (.iadd, 1) := dgt dbL_law_2052 53 rfl
theorem dL_law_2134 : decode cL_law 2134 = .ok (.iaload, 1) := dgt dbL_law_2052 54 rfl
theorem dL_law_2135 : decode cL_law 2135 = .ok (.aload_n 3, 1) := dgt dbL_law_2052 55 rfl
theorem dL_law_2136 : decode cL_law 2136 = .ok (.invokestatic 359, 3) := dgt dbL_law_2052 56 rfl
theorem dL_law_2139 : decode cL_law 2139 = .ok (.istore 6, 2) := dgt dbL_law_2052 57 rfl
theorem dL_law_2141 : decode cL_law 2141 = .ok (.aload_n 2, 1) := dgt dbL_law_2052 58 rfl
theorem dL_law_2142 : decode cL_law 2142 = .ok (.aload_n 0, 1) := dgt dbL_law_2052 59 rfl
theorem dL_law_2143 : decode cL_law 2143 = .ok (.iload 5, 2) := dgt dbL_law_2052 60 rfl
theorem dL_law_2145 : decode cL_law 2145 = .ok (.iconst 1, 1) := dgt dbL_law_2052 61 rfl
theorem dL_law_2146 : decode cL_law 2146 = .ok (.iadd, 1) := dgt dbL_law_2052 62 rfl
theorem dL_law_2147 : decode cL_law 2147 = .ok (.iaload, 1) := dgt dbL_law_2052 63 rfl
theorem dL_law_2148 : decode cL_law 2148 = .ok (.invokevirtual 361, 3) := dgt dbL_law_2052 64 rfl
theorem dL_law_2151 : decode cL_law 2151 = .ok (.istore 7, 2) := dgt dbL_law_2052 65 rfl
theorem dL_law_2153 : decode cL_law 2153 = .ok (.goto 771, 3) := dgt dbL_law_2052 66 rfl
theorem dL_law_2156 : decode cL_law 2156 = .ok (.aload_n 1, 1) := dgt dbL_law_2052 67 rfl
theorem dL_law_2157 : decode cL_law 2157 = .ok (.aload_n 0, 1) := dgt dbL_law_2052 68 rfl
theorem dL_law_2158 : decode cL_law 2158 = .ok (.iload 5, 2) := dgt dbL_law_2052 69 rfl
theorem dL_law_2160 : decode cL_law 2160 = .ok (.iconst 1, 1) := dgt dbL_law_2052 70 rfl
theorem dL_law_2161 : decode cL_law 2161 = .ok (.iadd, 1) := dgt dbL_law_2052 71 rfl
theorem dL_law_2162 : decode cL_law 2162 = .ok (.iaload, 1) := dgt dbL_law_2052 72 rfl
theorem dL_law_2163 : decode cL_law 2163 = .ok (.aload_n 0, 1) := dgt dbL_law_2052 73 rfl
theorem dL_law_2164 : decode cL_law 2164 = .ok (.iload 5, 2) := dgt dbL_law_2052 74 rfl
theorem dL_law_2166 : decode cL_law 2166 = .ok (.iconst 2, 1) := dgt dbL_law_2052 75 rfl
theorem dL_law_2167 : decode cL_law 2167 = .ok (.iadd, 1) := dgt dbL_law_2052 76 rfl
theorem dL_law_2168 : decode cL_law 2168 = .ok (.iaload, 1) := dgt dbL_law_2052 77 rfl
theorem dL_law_2169 : decode cL_law 2169 = .ok (.aload_n 0, 1) := dgt dbL_law_2052 78 rfl
theorem dL_law_2170 : decode cL_law 2170 = .ok (.iload 5, 2) := dgt dbL_law_2052 79 rfl
def dlL_law_2172 : List (Nat × Instr × Nat) := [(2172, .iconst 3, 1), (2173, .iadd, 1), (2174, .iaload, 1), (2175, .aload_n 3, 1), (2176, .invokestatic 362, 3), (2179, .istore 6, 2), (2181, .aload_n 2, 1), (2182, .aload_n 0, 1), (2183, .iload 5, 2), (2185, .iconst 1, 1), (2186, .iadd, 1), (2187, .iaload, 1), (2188, .aload_n 0, 1), (2189, .iload 5, 2), (2191, .iconst 2, 1), (2192, .iadd, 1), (2193, .iaload, 1), (2194, .aload_n 0, 1), (2195, .iload 5, 2), (2197, .iconst 3, 1), (2198, .iadd, 1), (2199, .iaload, 1), (2200, .invokevirtual 364, 3), (2203, .istore 7, 2), (2205, .goto 719, 3), (2208, .aload_n 1, 1), (2209, .aload_n 0, 1), (2210, .iload 5, 2), (2212, .iconst 1, 1), (2213, .iadd, 1), (2214, .iaload, 1), (2215, .aload_n 0, 1), (2216, .iload 5, 2), (2218, .iconst 2, 1), (2219, .iadd, 1), (2220, .iaload, 1), (2221, .aload_n 3, 1), (2222, .invokestatic 365, 3), (2225, .istore 6, 2), (2227, .aload_n 2, 1), (2228, .aload_n 0, 1), (2229, .iload 5, 2), (2231, .iconst 1, 1), (2232, .iadd, 1), (2233, .iaload, 1), (2234, .aload_n 0, 1), (2235, .iload 5, 2), (2237, .iconst 2, 1), (2238, .iadd, 1), (2239, .iaload, 1), (2240, .invokevirtual 367, 3), (2243, .istore 7, 2), (2245, .goto 679, 3), (2248, .aload_n 1, 1), (2249, .aload_n 0, 1), (2250, .iload 5, 2), (2252, .iconst 1, 1), (2253, .iadd, 1), (2254, .iaload, 1), (2255, .aload_n 0, 1), (2256, .iload 5, 2), (2258, .iconst 2, 1), (2259, .iadd, 1), (2260, .iaload, 1), (2261, .aload_n 0, 1), (2262, .iload 5, 2), (2264, .iconst 3, 1), (2265, .iadd, 1), (2266, .iaload, 1), (2267, .aload_n 3, 1), (2268, .invokestatic 368, 3), (2271, .istore 6, 2), (2273, .aload_n 2, 1), (2274, .aload_n 0, 1), (2275, .iload 5, 2), (2277, .iconst 1, 1), (2278, .iadd, 1), (2279, .iaload, 1), (2280, .aload_n 0, 1), (2281, .iload 5, 2)]
theorem dbL_law_2172 : ∀ q ∈ dlL_law_2172, decode cL_law q.1 = .ok q.2 := by decide +kernel
theorem dL_law_2172 : decode cL_law 2172 = .ok (.iconst 3, 1) := dgt dbL_law_2172 0 rfl
theorem dL_law_2173 : decode cL_law 2173 = .ok (.iadd, 1) := dgt dbL_law_2172 1 rfl
theorem dL_law_2174 : decode cL_law 2174 = .ok (.iaload, 1) := dgt dbL_law_2172 2 rfl
theorem dL_law_2175 : decode cL_law 2175 = .ok (.aload_n 3, 1) := dgt dbL_law_2172 3 rfl
theorem dL_law_2176 : decode cL_law 2176 = .ok (.invokestatic 362, 3) := dgt dbL_law_2172 4 rfl
theorem dL_law_2179 : decode cL_law 2179 = .ok (.istore 6, 2) := dgt dbL_law_2172 5 rfl
theorem dL_law_2181 : decode cL_law 2181 = .ok (.aload_n 2, 1) := dgt dbL_law_2172 6 rfl
theorem dL_law_2182 : decode cL_law 2182 = .ok (.aload_n 0, 1) := dgt dbL_law_2172 7 rfl
theorem dL_law_2183 : decode cL_law 2183 = .ok (.iload 5, 2) := dgt dbL_law_2172 8 rfl
theorem dL_law_2185 : decode cL_law 2185 = .ok (.iconst 1, 1) := dgt dbL_law_2172 9 rfl
theorem dL_law_2186 : decode cL_law 2186 = .ok (.iadd, 1) := dgt dbL_law_2172 10 rfl
theorem dL_law_2187 : decode cL_law 2187 = .ok (.iaload, 1) := dgt dbL_law_2172 11 rfl
theorem dL_law_2188 : decode cL_law 2188 = .ok (.aload_n 0, 1) := dgt dbL_law_2172 12 rfl
theorem dL_law_2189 : decode cL_law 2189 = .ok (.iload 5, 2) := dgt dbL_law_2172 13 rfl
theorem dL_law_2191 : decode cL_law 2191 = .ok (.iconst 2, 1) := dgt dbL_law_2172 14 rfl
theorem dL_law_2192 : decode cL_law 2192 = .ok (.iadd, 1) := dgt dbL_law_2172 15 rfl
theorem dL_law_2193 : decode cL_law 2193 = .ok (.iaload, 1) := dgt dbL_law_2172 16 rfl
theorem dL_law_2194 : decode cL_law 2194 = .ok (.aload_n 0, 1) := dgt dbL_law_2172 17 rfl
theorem dL_law_2195 : decode cL_law 2195 = .ok (.iload 5, 2) := dgt dbL_law_2172 18 rfl
theorem dL_law_2197 : decode cL_law 2197 = .ok (.iconst 3, 1) := dgt dbL_law_2172 19 rfl
theorem dL_law_2198 : decode cL_law 2198 = .ok (.iadd, 1) := dgt dbL_law_2172 20 rfl
theorem dL_law_2199 : decode cL_law 2199 = .ok (.iaload, 1) := dgt dbL_law_2172 21 rfl
theorem dL_law_2200 : decode cL_law 2200 = .ok (.invokevirtual 364, 3) := dgt dbL_law_2172 22 rfl
theorem dL_law_2203 : decode cL_law 2203 = .ok (.istore 7, 2) := dgt dbL_law_2172 23 rfl
theorem dL_law_2205 : decode cL_law 2205 = .ok (.goto 719, 3) := dgt dbL_law_2172 24 rfl
theorem dL_law_2208 : decode cL_law 2208 = .ok (.aload_n 1, 1) := dgt dbL_law_2172 25 rfl
theorem dL_law_2209 : decode cL_law 2209 = .ok (.aload_n 0, 1) := dgt dbL_law_2172 26 rfl
theorem dL_law_2210 : decode cL_law 2210 = .ok (.iload 5, 2) := dgt dbL_law_2172 27 rfl
theorem dL_law_2212 : decode cL_law 2212 = .ok (.iconst 1, 1) := dgt dbL_law_2172 28 rfl
theorem dL_law_2213 : decode cL_law 2213 = .ok (.iadd, 1) := dgt dbL_law_2172 29 rfl
theorem dL_law_2214 : decode cL_law 2214 = .ok (.iaload, 1) := dgt dbL_law_2172 30 rfl
theorem dL_law_2215 : decode cL_law 2215 = .ok (.aload_n 0, 1) := dgt dbL_law_2172 31 rfl
theorem dL_law_2216 : decode cL_law 2216 = .ok (.iload 5, 2) := dgt dbL_law_2172 32 rfl
theorem dL_law_2218 : decode cL_law 2218 = .ok (.iconst 2, 1) := dgt dbL_law_2172 33 rfl
theorem dL_law_2219 : decode cL_law 2219 = .ok (.iadd, 1) := dgt dbL_law_2172 34 rfl
theorem dL_law_2220 : decode cL_law 2220 = .ok (.iaload, 1) := dgt dbL_law_2172 35 rfl
theorem dL_law_2221 : decode cL_law 2221 = .ok (.aload_n 3, 1) := dgt dbL_law_2172 36 rfl
theorem dL_law_2222 : decode cL_law 2222 = .ok (.invokestatic 365, 3) := dgt dbL_law_2172 37 rfl
theorem dL_law_2225 : decode cL_law 2225 = .ok (.istore 6, 2) := dgt dbL_law_2172 38 rfl
theorem dL_law_2227 : decode cL_law 2227 = .ok (.aload_n 2, 1) := dgt dbL_law_2172 39 rfl
theorem dL_law_2228 : decode cL_law 2228 = .ok (.aload_n 0, 1) := dgt dbL_law_2172 40 rfl
theorem dL_law_2229 : decode cL_law 2229 = .ok (.iload 5, 2) := dgt dbL_law_2172 41 rfl
theorem dL_law_2231 : decode cL_law 2231 = .ok (.iconst 1, 1) := dgt dbL_law_2172 42 rfl
theorem dL_law_2232 : decode cL_law 2232 = .ok (.iadd, 1) := dgt dbL_law_2172 43 rfl
theorem dL_law_2233 : decode cL_law 2233 = .ok (.iaload, 1) := dgt dbL_law_2172 44 rfl
theorem dL_law_2234 : decode cL_law 2234 = .ok (.aload_n 0, 1) := dgt dbL_law_2172 45 rfl
theorem dL_law_2235 : decode cL_law 2235 = .ok (.iload 5, 2) := dgt dbL_law_2172 46 rfl
theorem dL_law_2237 : decode cL_law 2237 = .ok (.iconst 2, 1) := dgt dbL_law_2172 47 rfl
theorem dL_law_2238 : decode cL_law 2238 = .ok (.iadd, 1) := dgt dbL_law_2172 48 rfl
theorem dL_law_2239 : decode cL_law 2239 = .ok (.iaload, 1) := dgt dbL_law_2172 49 rfl
theorem dL_law_2240 : decode cL_law 2240 = .ok (.invokevirtual 367, 3) := dgt dbL_law_2172 50 rfl
theorem dL_law_2243 : decode cL_law 2243 = .ok (.istore 7, 2) := dgt dbL_law_2172 51 rfl
theorem dL_law_2245 : decode cL_law 2245 = .ok (.goto 679, 3) := dgt dbL_law_2172 52 rfl
theorem dL_law_2248 : decode cL_law 2248 = .ok (.aload_n 1, 1) := dgt dbL_law_2172 53 rfl
theorem dL_law_2249 : decode cL_law 2249 = .ok (.aload_n 0, 1) := dgt dbL_law_2172 54 rfl
theorem dL_law_2250 : decode cL_law 2250 = .ok (.iload 5, 2) := dgt dbL_law_2172 55 rfl
theorem dL_law_2252 : decode cL_law 2252 = .ok (.iconst 1, 1) := dgt dbL_law_2172 56 rfl
theorem dL_law_2253 : decode cL_law 2253 = .ok (.iadd, 1) := dgt dbL_law_2172 57 rfl
theorem dL_law_2254 : decode cL_law 2254 = .ok (.iaload, 1) := dgt dbL_law_2172 58 rfl
theorem dL_law_2255 : decode cL_law 2255 = .ok (.aload_n 0, 1) := dgt dbL_law_2172 59 rfl
theorem dL_law_2256 : decode cL_law 2256 = .ok (.iload 5, 2) := dgt dbL_law_2172 60 rfl
theorem dL_law_2258 : decode cL_law 2258 = .ok (.iconst 2, 1) := dgt dbL_law_2172 61 rfl
theorem dL_law_2259 : decode cL_law 2259 = .ok (.iadd, 1) := dgt dbL_law_2172 62 rfl
theorem dL_law_2260 : decode cL_law 2260 = .ok (.iaload, 1) := dgt dbL_law_2172 63 rfl
theorem dL_law_2261 : decode cL_law 2261 = .ok (.aload_n 0, 1) := dgt dbL_law_2172 64 rfl
theorem dL_law_2262 : decode cL_law 2262 = .ok (.iload 5, 2) := dgt dbL_law_2172 65 rfl
theorem dL_law_2264 : decode cL_law 2264 = .ok (.iconst 3, 1) := dgt dbL_law_2172 66 rfl
theorem dL_law_2265 : decode cL_law 2265 = .ok (.iadd, 1) := dgt dbL_law_2172 67 rfl
theorem dL_law_2266 : decode cL_law 2266 = .ok (.iaload, 1) := dgt dbL_law_2172 68 rfl
theorem dL_law_2267 : decode cL_law 2267 = .ok (.aload_n 3, 1) := dgt dbL_law_2172 69 rfl
theorem dL_law_2268 : decode cL_law 2268 = .ok (.invokestatic 368, 3) := dgt dbL_law_2172 70 rfl
theorem dL_law_2271 : decode cL_law 2271 = .ok (.istore 6, 2) := dgt dbL_law_2172 71 rfl
theorem dL_law_2273 : decode cL_law 2273 = .ok (.aload_n 2, 1) := dgt dbL_law_2172 72 rfl
theorem dL_law_2274 : decode cL_law 2274 = .ok (.aload_n 0, 1) := dgt dbL_law_2172 73 rfl
theorem dL_law_2275 : decode cL_law 2275 = .ok (.iload 5, 2) := dgt dbL_law_2172 74 rfl
theorem dL_law_2277 : decode cL_law 2277 = .ok (.iconst 1, 1) := dgt dbL_law_2172 75 rfl
theorem dL_law_2278 : decode cL_law 2278 = .ok (.iadd, 1) := dgt dbL_law_2172 76 rfl
theorem dL_law_2279 : decode cL_law 2279 = .ok (.iaload, 1) := dgt dbL_law_2172 77 rfl
theorem dL_law_2280 : decode cL_law 2280 = .ok (.aload_n 0, 1) := dgt dbL_law_2172 78 rfl
theorem dL_law_2281 : decode cL_law 2281 = .ok (.iload 5, 2) := dgt dbL_law_2172 79 rfl
def dlL_law_2283 : List (Nat × Instr × Nat) := [(2283, .iconst 2, 1), (2284, .iadd, 1), (2285, .iaload, 1), (2286, .aload_n 0, 1), (2287, .iload 5, 2), (2289, .iconst 3, 1), (2290, .iadd, 1), (2291, .iaload, 1), (2292, .invokevirtual 370, 3), (2295, .istore 7, 2), (2297, .goto 627, 3), (2300, .aload_n 1, 1), (2301, .aload_n 0, 1), (2302, .iload 5, 2), (2304, .iconst 1, 1), (2305, .iadd, 1), (2306, .iaload, 1), (2307, .aload_n 0, 1), (2308, .iload 5, 2), (2310, .iconst 2, 1), (2311, .iadd, 1), (2312, .iaload, 1), (2313, .aload_n 3, 1), (2314, .invokestatic 371, 3), (2317, .istore 6, 2), (2319, .aload_n 2, 1), (2320, .aload_n 0, 1), (2321, .iload 5, 2), (2323, .iconst 1, 1), (2324, .iadd, 1), (2325, .iaload, 1), (2326, .aload_n 0, 1), (2327, .iload 5, 2), (2329, .iconst 2, 1), (2330, .iadd, 1), (2331, .iaload, 1), (2332, .invokevirtual 373, 3), (2335, .istore 7, 2), (2337, .goto 587, 3), (2340, .aload_n 1, 1), (2341, .aload_n 0, 1), (2342, .iload 5, 2), (2344, .iconst 1, 1), (2345, .iadd, 1), (2346, .iaload, 1), (2347, .aload_n 3, 1), (2348, .invokestatic 374, 3), (2351, .istore 6, 2), (2353, .aload_n 2, 1), (2354, .aload_n 0, 1), (2355, .iload 5, 2), (2357, .iconst 1, 1), (2358, .iadd, 1), (2359, .iaload, 1), (2360, .invokevirtual 376, 3), (2363, .istore 7, 2), (2365, .goto 559, 3), (2368, .aload_n 1, 1), (2369, .aload_n 0, 1), (2370, .iload 5, 2), (2372, .iconst 1, 1), (2373, .iadd, 1), (2374, .iaload, 1), (2375, .aload_n 0, 1), (2376, .iload 5, 2), (2378, .iconst 2, 1), (2379, .iadd, 1), (2380, .iaload, 1), (2381, .aload_n 3, 1), (2382, .invokestatic 377, 3), (2385, .istore 6, 2), (2387, .aload_n 2, 1), (2388, .aload_n 0, 1), (2389, .iload 5, 2), (2391, .iconst 1, 1), (2392, .iadd, 1), (2393, .iaload, 1), (2394, .aload_n 0, 1), (2395, .iload 5, 2), (2397, .iconst 2, 1)]
theorem dbL_law_2283 : ∀ q ∈ dlL_law_2283, decode cL_law q.1 = .ok q.2 := by decide +kernel
theorem dL_law_2283 : decode cL_law 2283 = .ok (.iconst 2, 1) := dgt dbL_law_2283 0 rfl
theorem dL_law_2284 : decode cL_law 2284 = .ok (.iadd, 1) := dgt dbL_law_2283 1 rfl
theorem dL_law_2285 : decode cL_law 2285 = .ok (.iaload, 1) := dgt dbL_law_2283 2 rfl
theorem dL_law_2286 : decode cL_law 2286 = .ok (.aload_n 0, 1) := dgt dbL_law_2283 3 rfl
theorem dL_law_2287 : decode cL_law 2287 = .ok (.iload 5, 2) := dgt dbL_law_2283 4 rfl
theorem dL_law_2289 : decode cL_law 2289 = .ok (.iconst 3, 1) := dgt dbL_law_2283 5 rfl
theorem dL_law_2290 : decode cL_law 2290 = .ok (.iadd, 1) := dgt dbL_law_2283 6 rfl
theorem dL_law_2291 : decode cL_law 2291 = .ok (.iaload, 1) := dgt dbL_law_2283 7 rfl
theorem dL_law_2292 : decode cL_law 2292 = .ok (.invokevirtual 370, 3) := dgt dbL_law_2283 8 rfl
theorem dL_law_2295 : decode cL_law 2295 = .ok (.istore 7, 2) := dgt dbL_law_2283 9 rfl
theorem dL_law_2297 : decode cL_law 2297 = .ok (.goto 627, 3) := dgt dbL_law_2283 10 rfl
theorem dL_law_2300 : decode cL_law 2300 = .ok (.aload_n 1, 1) := dgt dbL_law_2283 11 rfl
theorem dL_law_2301 : decode cL_law 2301 = .ok (.aload_n 0, 1) := dgt dbL_law_2283 12 rfl
theorem dL_law_2302 : decode cL_law 2302 = .ok (.iload 5, 2) := dgt dbL_law_2283 13 rfl
theorem dL_law_2304 : decode cL_law 2304 = .ok (.iconst 1, 1) := dgt dbL_law_2283 14 rfl
theorem dL_law_2305 : decode cL_law 2305 = .ok (.iadd, 1) := dgt dbL_law_2283 15 rfl
theorem dL_law_2306 : decode cL_law 2306 = .ok (.iaload, 1) := dgt dbL_law_2283 16 rfl
theorem dL_law_2307 : decode cL_law 2307 = .ok (.aload_n 0, 1) := dgt dbL_law_2283 17 rfl
theorem dL_law_2308 : decode cL_law 2308 = .ok (.iload 5, 2) := dgt dbL_law_2283 18 rfl
theorem dL_law_2310 : decode cL_law 2310 = .ok (.iconst 2, 1) := dgt dbL_law_2283 19 rfl
theorem dL_law_2311 : decode cL_law 2311 = .ok (.iadd, 1) := dgt dbL_law_2283 20 rfl
theorem dL_law_2312 : decode cL_law 2312 = .ok (.iaload, 1) := dgt dbL_law_2283 21 rfl
theorem dL_law_2313 : decode cL_law 2313 = .ok (.aload_n 3, 1) := dgt dbL_law_2283 22 rfl
theorem dL_law_2314 : decode cL_law 2314 = .ok (.invokestatic 371, 3) := dgt dbL_law_2283 23 rfl
theorem dL_law_2317 : decode cL_law 2317 = .ok (.istore 6, 2) := dgt dbL_law_2283 24 rfl
theorem dL_law_2319 : decode cL_law 2319 = .ok (.aload_n 2, 1) := dgt dbL_law_2283 25 rfl
theorem dL_law_2320 : decode cL_law 2320 = .ok (.aload_n 0, 1) := dgt dbL_law_2283 26 rfl
theorem dL_law_2321 : decode cL_law 2321 = .ok (.iload 5, 2) := dgt dbL_law_2283 27 rfl
theorem dL_law_2323 : decode cL_law 2323 = .ok (.iconst 1, 1) := dgt dbL_law_2283 28 rfl
theorem dL_law_2324 : decode cL_law 2324 = .ok (.iadd, 1) := dgt dbL_law_2283 29 rfl
theorem dL_law_2325 : decode cL_law 2325 = .ok (.iaload, 1) := dgt dbL_law_2283 30 rfl
theorem dL_law_2326 : decode cL_law 2326 = .ok (.aload_n 0, 1) := dgt dbL_law_2283 31 rfl
theorem dL_law_2327 : decode cL_law 2327 = .ok (.iload 5, 2) := dgt dbL_law_2283 32 rfl
theorem dL_law_2329 : decode cL_law 2329 = .ok (.iconst 2, 1) := dgt dbL_law_2283 33 rfl
theorem dL_law_2330 : decode cL_law 2330 = .ok (.iadd, 1) := dgt dbL_law_2283 34 rfl
theorem dL_law_2331 : decode cL_law 2331 = .ok (.iaload, 1) := dgt dbL_law_2283 35 rfl
theorem dL_law_2332 : decode cL_law 2332 = .ok (.invokevirtual 373, 3) := dgt dbL_law_2283 36 rfl
theorem dL_law_2335 : decode cL_law 2335 = .ok (.istore 7, 2) := dgt dbL_law_2283 37 rfl
theorem dL_law_2337 : decode cL_law 2337 = .ok (.goto 587, 3) := dgt dbL_law_2283 38 rfl
theorem dL_law_2340 : decode cL_law 2340 = .ok (.aload_n 1, 1) := dgt dbL_law_2283 39 rfl
theorem dL_law_2341 : decode cL_law 2341 = .ok (.aload_n 0, 1) := dgt dbL_law_2283 40 rfl
theorem dL_law_2342 : decode cL_law 2342 = .ok (.iload 5, 2) := dgt dbL_law_2283 41 rfl
theorem dL_law_2344 : decode cL_law 2344 = .ok (.iconst 1, 1) := dgt dbL_law_2283 42 rfl
theorem dL_law_2345 : decode cL_law 2345 = .ok (.iadd, 1) := dgt dbL_law_2283 43 rfl
theorem dL_law_2346 : decode cL_law 2346 = .ok (.iaload, 1) := dgt dbL_law_2283 44 rfl
theorem dL_law_2347 : decode cL_law 2347 = .ok (.aload_n 3, 1) := dgt dbL_law_2283 45 rfl
theorem dL_law_2348 : decode cL_law 2348 = .ok (.invokestatic 374, 3) := dgt dbL_law_2283 46 rfl
theorem dL_law_2351 : decode cL_law 2351 = .ok (.istore 6, 2) := dgt dbL_law_2283 47 rfl
theorem dL_law_2353 : decode cL_law 2353 = .ok (.aload_n 2, 1) := dgt dbL_law_2283 48 rfl
theorem dL_law_2354 : decode cL_law 2354 = .ok (.aload_n 0, 1) := dgt dbL_law_2283 49 rfl
theorem dL_law_2355 : decode cL_law 2355 = .ok (.iload 5, 2) := dgt dbL_law_2283 50 rfl
theorem dL_law_2357 : decode cL_law 2357 = .ok (.iconst 1, 1) := dgt dbL_law_2283 51 rfl
theorem dL_law_2358 : decode cL_law 2358 = .ok (.iadd, 1) := dgt dbL_law_2283 52 rfl
theorem dL_law_2359 : decode cL_law 2359 = .ok (.iaload, 1) := dgt dbL_law_2283 53 rfl
theorem dL_law_2360 : decode cL_law 2360 = .ok (.invokevirtual 376, 3) := dgt dbL_law_2283 54 rfl
theorem dL_law_2363 : decode cL_law 2363 = .ok (.istore 7, 2) := dgt dbL_law_2283 55 rfl
theorem dL_law_2365 : decode cL_law 2365 = .ok (.goto 559, 3) := dgt dbL_law_2283 56 rfl
theorem dL_law_2368 : decode cL_law 2368 = .ok (.aload_n 1, 1) := dgt dbL_law_2283 57 rfl
theorem dL_law_2369 : decode cL_law 2369 = .ok (.aload_n 0, 1) := dgt dbL_law_2283 58 rfl
theorem dL_law_2370 : decode cL_law 2370 = .ok (.iload 5, 2) := dgt dbL_law_2283 59 rfl
theorem dL_law_2372 : decode cL_law 2372 = .ok (.iconst 1, 1) := dgt dbL_law_2283 60 rfl
theorem dL_law_2373 : decode cL_law 2373 = .ok (.iadd, 1) := dgt dbL_law_2283 61 rfl
theorem dL_law_2374 : decode cL_law 2374 = .ok (.iaload, 1) := dgt dbL_law_2283 62 rfl
theorem dL_law_2375 : decode cL_law 2375 = .ok (.aload_n 0, 1) := dgt dbL_law_2283 63 rfl
theorem dL_law_2376 : decode cL_law 2376 = .ok (.iload 5, 2) := dgt dbL_law_2283 64 rfl
theorem dL_law_2378 : decode cL_law 2378 = .ok (.iconst 2, 1) := dgt dbL_law_2283 65 rfl
theorem dL_law_2379 : decode cL_law 2379 = .ok (.iadd, 1) := dgt dbL_law_2283 66 rfl
theorem dL_law_2380 : decode cL_law 2380 = .ok (.iaload, 1) := dgt dbL_law_2283 67 rfl
theorem dL_law_2381 : decode cL_law 2381 = .ok (.aload_n 3, 1) := dgt dbL_law_2283 68 rfl
theorem dL_law_2382 : decode cL_law 2382 = .ok (.invokestatic 377, 3) := dgt dbL_law_2283 69 rfl
theorem dL_law_2385 : decode cL_law 2385 = .ok (.istore 6, 2) := dgt dbL_law_2283 70 rfl
theorem dL_law_2387 : decode cL_law 2387 = .ok (.aload_n 2, 1) := dgt dbL_law_2283 71 rfl
theorem dL_law_2388 : decode cL_law 2388 = .ok (.aload_n 0, 1) := dgt dbL_law_2283 72 rfl
theorem dL_law_2389 : decode cL_law 2389 = .ok (.iload 5, 2) := dgt dbL_law_2283 73 rfl
theorem dL_law_2391 : decode cL_law 2391 = .ok (.iconst 1, 1) := dgt dbL_law_2283 74 rfl
theorem dL_law_2392 : decode cL_law 2392 = .ok (.iadd, 1) := dgt dbL_law_2283 75 rfl
theorem dL_law_2393 : decode cL_law 2393 = .ok (.iaload, 1) := dgt dbL_law_2283 76 rfl
theorem dL_law_2394 : decode cL_law 2394 = .ok (.aload_n 0, 1) := dgt dbL_law_2283 77 rfl
theorem dL_law_2395 : decode cL_law 2395 = .ok (.iload 5, 2) := dgt dbL_law_2283 78 rfl
theorem dL_law_2397 : decode cL_law 2397 = .ok (.iconst 2, 1) := dgt dbL_law_2283 79 rfl
def dlL_law_2398 : List (Nat × Instr × Nat) := [(2398, .iadd, 1), (2399, .iaload, 1), (2400, .invokevirtual 379, 3), (2403, .lstore 7, 2), (2405, .goto 519, 3), (2408, .aload_n 1, 1), (2409, .aload_n 0, 1), (2410, .iload 5, 2), (2412, .iconst 1, 1), (2413, .iadd, 1), (2414, .iaload, 1), (2415, .aload_n 0, 1), (2416, .iload 5, 2), (2418, .iconst 2, 1), (2419, .iadd, 1), (2420, .iaload, 1), (2421, .aload_n 0, 1), (2422, .iload 5, 2), (2424, .iconst 3, 1), (2425, .iadd, 1), (2426, .iaload, 1), (2427, .aload_n 0, 1), (2428, .iload 5, 2), (2430, .iconst 4, 1), (2431, .iadd, 1), (2432, .iaload, 1), (2433, .aload_n 3, 1), (2434, .invokestatic 380, 3), (2437, .istore 6, 2), (2439, .aload_n 2, 1), (2440, .aload_n 0, 1), (2441, .iload 5, 2), (2443, .iconst 1, 1), (2444, .iadd, 1), (2445, .iaload, 1), (2446, .aload_n 0, 1), (2447, .iload 5, 2), (2449, .iconst 2, 1), (2450, .iadd, 1), (2451, .iaload, 1), (2452, .aload_n 0, 1), (2453, .iload 5, 2), (2455, .iconst 3, 1), (2456, .iadd, 1), (2457, .iaload, 1), (2458, .aload_n 0, 1), (2459, .iload 5, 2), (2461, .iconst 4, 1), (2462, .iadd, 1), (2463, .iaload, 1), (2464, .invokevirtual 382, 3), (2467, .istore 7, 2), (2469, .goto 455, 3), (2472, .aload_n 1, 1), (2473, .aload_n 0, 1), (2474, .iload 5, 2), (2476, .iconst 1, 1), (2477, .iadd, 1), (2478, .iaload, 1), (2479, .aload_n 3, 1), (2480, .invokestatic 383, 3), (2483, .istore 6, 2), (2485, .aload_n 2, 1), (2486, .aload_n 0, 1), (2487, .iload 5, 2), (2489, .iconst 1, 1), (2490, .iadd, 1), (2491, .iaload, 1), (2492, .invokevirtual 385, 3), (2495, .lstore 7, 2), (2497, .goto 427, 3), (2500, .aload_n 1, 1), (2501, .aload_n 0, 1), (2502, .iload 5, 2), (2504, .iconst 1, 1), (2505, .iadd, 1), (2506, .iaload, 1), (2507, .aload_n 0, 1), (2508, .iload 5, 2), (2510, .iconst 2, 1)]
theorem dbL_law_2398 : ∀ q ∈ dlL_law_2398, decode cL_law q.1 = .ok q.2 := by decide +kernel
theorem dL_law_2398 : decode cL_law 2398 = .ok (.iadd, 1) := dgt dbL_law_2398 0 rfl
theorem dL_law_2399 : decode cL_law 2399 = .ok (.iaload, 1) := dgt dbL_law_2398 1 rfl
theorem dL_law_2400 : decode cL_law 2400 = .ok (.invokevirtual 379, 3) := dgt dbL_law_2398 2 rfl
theorem dL_law_2403 : decode cL_law 2403 = .ok (.lstore 7, 2) := dgt dbL_law_2398 3 rfl
theorem dL_law_2405 : decode cL_law 2405 = .ok (.goto 519, 3) := dgt dbL_law_2398 4 rfl
theorem dL_law_2408 : decode cL_law 2408 = .ok (.aload_n 1, 1) := dgt dbL_law_2398 5 rfl
theorem dL_law_2409 : decode cL_law 2409 = .ok (.aload_n 0, 1) := dgt dbL_law_2398 6 rfl
theorem dL_law_2410 : decode cL_law 2410 = .ok (.iload 5, 2) := dgt dbL_law_2398 7 rfl
theorem dL_law_2412 : decode cL_law 2412 = .ok (.iconst 1, 1) := dgt dbL_law_2398 8 rfl
theorem dL_law_2413 : decode cL_law 2413 = .ok (.iadd, 1) := dgt dbL_law_2398 9 rfl
theorem dL_law_2414 : decode cL_law 2414 = .ok (.iaload, 1) := dgt dbL_law_2398 10 rfl
theorem dL_law_2415 : decode cL_law 2415 = .ok (.aload_n 0, 1) := dgt dbL_law_2398 11 rfl
theorem dL_law_2416 : decode cL_law 2416 = .ok (.iload 5, 2) := dgt dbL_law_2398 12 rfl
theorem dL_law_2418 : decode cL_law 2418 = .ok (.iconst 2, 1) := dgt dbL_law_2398 13 rfl
theorem dL_law_2419 : decode cL_law 2419 = .ok (.iadd, 1) := dgt dbL_law_2398 14 rfl
theorem dL_law_2420 : decode cL_law 2420 = .ok (.iaload, 1) := dgt dbL_law_2398 15 rfl
theorem dL_law_2421 : decode cL_law 2421 = .ok (.aload_n 0, 1) := dgt dbL_law_2398 16 rfl
theorem dL_law_2422 : decode cL_law 2422 = .ok (.iload 5, 2) := dgt dbL_law_2398 17 rfl
theorem dL_law_2424 : decode cL_law 2424 = .ok (.iconst 3, 1) := dgt dbL_law_2398 18 rfl
theorem dL_law_2425 : decode cL_law 2425 = .ok (.iadd, 1) := dgt dbL_law_2398 19 rfl
theorem dL_law_2426 : decode cL_law 2426 = .ok (.iaload, 1) := dgt dbL_law_2398 20 rfl
theorem dL_law_2427 : decode cL_law 2427 = .ok (.aload_n 0, 1) := dgt dbL_law_2398 21 rfl
theorem dL_law_2428 : decode cL_law 2428 = .ok (.iload 5, 2) := dgt dbL_law_2398 22 rfl
theorem dL_law_2430 : decode cL_law 2430 = .ok (.iconst 4, 1) := dgt dbL_law_2398 23 rfl
theorem dL_law_2431 : decode cL_law 2431 = .ok (.iadd, 1) := dgt dbL_law_2398 24 rfl
theorem dL_law_2432 : decode cL_law 2432 = .ok (.iaload, 1) := dgt dbL_law_2398 25 rfl
theorem dL_law_2433 : decode cL_law 2433 = .ok (.aload_n 3, 1) := dgt dbL_law_2398 26 rfl
theorem dL_law_2434 : decode cL_law 2434 = .ok (.invokestatic 380, 3) := dgt dbL_law_2398 27 rfl
theorem dL_law_2437 : decode cL_law 2437 = .ok (.istore 6, 2) := dgt dbL_law_2398 28 rfl
theorem dL_law_2439 : decode cL_law 2439 = .ok (.aload_n 2, 1) := dgt dbL_law_2398 29 rfl
theorem dL_law_2440 : decode cL_law 2440 = .ok (.aload_n 0, 1) := dgt dbL_law_2398 30 rfl
theorem dL_law_2441 : decode cL_law 2441 = .ok (.iload 5, 2) := dgt dbL_law_2398 31 rfl
theorem dL_law_2443 : decode cL_law 2443 = .ok (.iconst 1, 1) := dgt dbL_law_2398 32 rfl
theorem dL_law_2444 : decode cL_law 2444 = .ok (.iadd, 1) := dgt dbL_law_2398 33 rfl
theorem dL_law_2445 : decode cL_law 2445 = .ok (.iaload, 1) := dgt dbL_law_2398 34 rfl
theorem dL_law_2446 : decode cL_law 2446 = .ok (.aload_n 0, 1) := dgt dbL_law_2398 35 rfl
theorem dL_law_2447 : decode cL_law 2447 = .ok (.iload 5, 2) := dgt dbL_law_2398 36 rfl
theorem dL_law_2449 : decode cL_law 2449 = .ok (.iconst 2, 1) := dgt dbL_law_2398 37 rfl
theorem dL_law_2450 : decode cL_law 2450 = .ok (.iadd, 1) := dgt dbL_law_2398 38 rfl
theorem dL_law_2451 : decode cL_law 2451 = .ok (.iaload, 1) := dgt dbL_law_2398 39 rfl
theorem dL_law_2452 : decode cL_law 2452 = .ok (.aload_n 0, 1) := dgt dbL_law_2398 40 rfl
theorem dL_law_2453 : decode cL_law 2453 = .ok (.iload 5, 2) := dgt dbL_law_2398 41 rfl
theorem dL_law_2455 : decode cL_law 2455 = .ok (.iconst 3, 1) := dgt dbL_law_2398 42 rfl
theorem dL_law_2456 : decode cL_law 2456 = .ok (.iadd, 1) := dgt dbL_law_2398 43 rfl
theorem dL_law_2457 : decode cL_law 2457 = .ok (.iaload, 1) := dgt dbL_law_2398 44 rfl
theorem dL_law_2458 : decode cL_law 2458 = .ok (.aload_n 0, 1) := dgt dbL_law_2398 45 rfl
theorem dL_law_2459 : decode cL_law 2459 = .ok (.iload 5, 2) := dgt dbL_law_2398 46 rfl
theorem dL_law_2461 : decode cL_law 2461 = .ok (.iconst 4, 1) := dgt dbL_law_2398 47 rfl
theorem dL_law_2462 : decode cL_law 2462 = .ok (.iadd, 1) := dgt dbL_law_2398 48 rfl
theorem dL_law_2463 : decode cL_law 2463 = .ok (.iaload, 1) := dgt dbL_law_2398 49 rfl
theorem dL_law_2464 : decode cL_law 2464 = .ok (.invokevirtual 382, 3) := dgt dbL_law_2398 50 rfl
theorem dL_law_2467 : decode cL_law 2467 = .ok (.istore 7, 2) := dgt dbL_law_2398 51 rfl
theorem dL_law_2469 : decode cL_law 2469 = .ok (.goto 455, 3) := dgt dbL_law_2398 52 rfl
theorem dL_law_2472 : decode cL_law 2472 = .ok (.aload_n 1, 1) := dgt dbL_law_2398 53 rfl
theorem dL_law_2473 : decode cL_law 2473 = .ok (.aload_n 0, 1) := dgt dbL_law_2398 54 rfl
theorem dL_law_2474 : decode cL_law 2474 = .ok (.iload 5, 2) := dgt dbL_law_2398 55 rfl
theorem dL_law_2476 : decode cL_law 2476 = .ok (.iconst 1, 1) := dgt dbL_law_2398 56 rfl
theorem dL_law_2477 : decode cL_law 2477 = .ok (.iadd, 1) := dgt dbL_law_2398 57 rfl
theorem dL_law_2478 : decode cL_law 2478 = .ok (.iaload, 1) := dgt dbL_law_2398 58 rfl
theorem dL_law_2479 : decode cL_law 2479 = .ok (.aload_n 3, 1) := dgt dbL_law_2398 59 rfl
theorem dL_law_2480 : decode cL_law 2480 = .ok (.invokestatic 383, 3) := dgt dbL_law_2398 60 rfl
theorem dL_law_2483 : decode cL_law 2483 = .ok (.istore 6, 2) := dgt dbL_law_2398 61 rfl
theorem dL_law_2485 : decode cL_law 2485 = .ok (.aload_n 2, 1) := dgt dbL_law_2398 62 rfl
theorem dL_law_2486 : decode cL_law 2486 = .ok (.aload_n 0, 1) := dgt dbL_law_2398 63 rfl
theorem dL_law_2487 : decode cL_law 2487 = .ok (.iload 5, 2) := dgt dbL_law_2398 64 rfl
theorem dL_law_2489 : decode cL_law 2489 = .ok (.iconst 1, 1) := dgt dbL_law_2398 65 rfl
theorem dL_law_2490 : decode cL_law 2490 = .ok (.iadd, 1) := dgt dbL_law_2398 66 rfl
theorem dL_law_2491 : decode cL_law 2491 = .ok (.iaload, 1) := dgt dbL_law_2398 67 rfl
theorem dL_law_2492 : decode cL_law 2492 = .ok (.invokevirtual 385, 3) := dgt dbL_law_2398 68 rfl
theorem dL_law_2495 : decode cL_law 2495 = .ok (.lstore 7, 2) := dgt dbL_law_2398 69 rfl
theorem dL_law_2497 : decode cL_law 2497 = .ok (.goto 427, 3) := dgt dbL_law_2398 70 rfl
theorem dL_law_2500 : decode cL_law 2500 = .ok (.aload_n 1, 1) := dgt dbL_law_2398 71 rfl
theorem dL_law_2501 : decode cL_law 2501 = .ok (.aload_n 0, 1) := dgt dbL_law_2398 72 rfl
theorem dL_law_2502 : decode cL_law 2502 = .ok (.iload 5, 2) := dgt dbL_law_2398 73 rfl
theorem dL_law_2504 : decode cL_law 2504 = .ok (.iconst 1, 1) := dgt dbL_law_2398 74 rfl
theorem dL_law_2505 : decode cL_law 2505 = .ok (.iadd, 1) := dgt dbL_law_2398 75 rfl
theorem dL_law_2506 : decode cL_law 2506 = .ok (.iaload, 1) := dgt dbL_law_2398 76 rfl
theorem dL_law_2507 : decode cL_law 2507 = .ok (.aload_n 0, 1) := dgt dbL_law_2398 77 rfl
theorem dL_law_2508 : decode cL_law 2508 = .ok (.iload 5, 2) := dgt dbL_law_2398 78 rfl
theorem dL_law_2510 : decode cL_law 2510 = .ok (.iconst 2, 1) := dgt dbL_law_2398 79 rfl
def dlL_law_2511 : List (Nat × Instr × Nat) := [(2511, .iadd, 1), (2512, .iaload, 1), (2513, .aload_n 0, 1), (2514, .iload 5, 2), (2516, .iconst 3, 1), (2517, .iadd, 1), (2518, .iaload, 1), (2519, .aload_n 3, 1), (2520, .invokestatic 386, 3), (2523, .istore 6, 2), (2525, .aload_n 2, 1), (2526, .aload_n 0, 1), (2527, .iload 5, 2), (2529, .iconst 1, 1), (2530, .iadd, 1), (2531, .iaload, 1), (2532, .aload_n 0, 1), (2533, .iload 5, 2), (2535, .iconst 2, 1), (2536, .iadd, 1), (2537, .iaload, 1), (2538, .aload_n 0, 1), (2539, .iload 5, 2), (2541, .iconst 3, 1), (2542, .iadd, 1), (2543, .iaload, 1), (2544, .invokevirtual 388, 3), (2547, .istore 7, 2), (2549, .goto 375, 3), (2552, .aload_n 1, 1), (2553, .aload_n 0, 1), (2554, .iload 5, 2), (2556, .iconst 1, 1), (2557, .iadd, 1), (2558, .iaload, 1), (2559, .aload_n 3, 1), (2560, .invokestatic 389, 3), (2563, .istore 6, 2), (2565, .aload_n 2, 1), (2566, .aload_n 0, 1), (2567, .iload 5, 2), (2569, .iconst 1, 1), (2570, .iadd, 1), (2571, .iaload, 1), (2572, .invokevirtual 391, 3), (2575, .istore 7, 2), (2577, .goto 347, 3), (2580, .aload_n 1, 1), (2581, .aload_n 0, 1), (2582, .iload 5, 2), (2584, .iconst 1, 1), (2585, .iadd, 1), (2586, .iaload, 1), (2587, .aload_n 3, 1), (2588, .invokestatic 392, 3), (2591, .istore 6, 2), (2593, .aload_n 2, 1), (2594, .aload_n 0, 1), (2595, .iload 5, 2), (2597, .iconst 1, 1), (2598, .iadd, 1), (2599, .iaload, 1), (2600, .invokevirtual 394, 3), (2603, .istore 7, 2), (2605, .goto 319, 3), (2608, .aload_n 1, 1), (2609, .aload_n 0, 1), (2610, .iload 5, 2), (2612, .iconst 1, 1), (2613, .iadd, 1), (2614, .iaload, 1), (2615, .i2c, 1), (2616, .aload_n 0, 1), (2617, .iload 5, 2), (2619, .iconst 2, 1), (2620, .iadd, 1), (2621, .iaload, 1), (2622, .aload_n 3, 1), (2623, .invokestatic 395, 3), (2626, .istore 6, 2)]
theorem dbL_law_2511 : ∀ q ∈ dlL_law_2511, decode cL_law q.1 = .ok q.2 := by decide +kernel
theorem dL_law_2511 : decode cL_law 2511 = .ok (.iadd, 1) := dgt dbL_law_2511 0 rfl
theorem dL_law_2512 : decode cL_law 2512 = .ok (.iaload, 1) := dgt dbL_law_2511 1 rfl
theorem dL_law_2513 : decode cL_law 2513 = .ok (.aload_n 0, 1) := dgt dbL_law_2511 2 rfl
theorem dL_law_2514 : decode cL_law 2514 = .ok (.iload 5, 2) := dgt dbL_law_2511 3 rfl
theorem dL_law_2516 : decode cL_law 2516 = .ok (.iconst 3, 1) := dgt dbL_law_2511 4 rfl
theorem dL_law_2517 : decode cL_law 2517 = .ok (.iadd, 1) := dgt dbL_law_2511 5 rfl
theorem dL_law_2518 : decode cL_law 2518 = .ok (.iaload, 1) := dgt dbL_law_2511 6 rfl
theorem dL_law_2519 : decode cL_law 2519 = .ok (.aload_n 3, 1) := dgt dbL_law_2511 7 rfl
theorem dL_law_2520 : decode cL_law 2520 = .ok (.invokestatic 386, 3) := dgt dbL_law_2511 8 rfl
theorem dL_law_2523 : decode cL_law 2523 = .ok (.istore 6, 2) := dgt dbL_law_2511 9 rfl
theorem dL_law_2525 : decode cL_law 2525 = .ok (.aload_n 2, 1) := dgt dbL_law_2511 10 rfl
theorem dL_law_2526 : decode cL_law 2526 = .ok (.aload_n 0, 1) := dgt dbL_law_2511 11 rfl
theorem dL_law_2527 : decode cL_law 2527 = .ok (.iload 5, 2) := dgt dbL_law_2511 12 rfl
theorem dL_law_2529 : decode cL_law 2529 = .ok (.iconst 1, 1) := dgt dbL_law_2511 13 rfl
theorem dL_law_2530 : decode cL_law 2530 = .ok (.iadd, 1) := dgt dbL_law_2511 14 rfl
theorem dL_law_2531 : decode cL_law 2531 = .ok (.iaload, 1) := dgt dbL_law_2511 15 rfl
theorem dL_law_2532 : decode cL_law 2532 = .ok (.aload_n 0, 1) := dgt dbL_law_2511 16 rfl
theorem dL_law_2533 : decode cL_law 2533 = .ok (.iload 5, 2) := dgt dbL_law_2511 17 rfl
theorem dL_law_2535 : decode cL_law 2535 = .ok (.iconst 2, 1) := dgt dbL_law_2511 18 rfl
theorem dL_law_2536 : decode cL_law 2536 = .ok (.iadd, 1) := dgt dbL_law_2511 19 rfl
theorem dL_law_2537 : decode cL_law 2537 = .ok (.iaload, 1) := dgt dbL_law_2511 20 rfl
theorem dL_law_2538 : decode cL_law 2538 = .ok (.aload_n 0, 1) := dgt dbL_law_2511 21 rfl
theorem dL_law_2539 : decode cL_law 2539 = .ok (.iload 5, 2) := dgt dbL_law_2511 22 rfl
theorem dL_law_2541 : decode cL_law 2541 = .ok (.iconst 3, 1) := dgt dbL_law_2511 23 rfl
theorem dL_law_2542 : decode cL_law 2542 = .ok (.iadd, 1) := dgt dbL_law_2511 24 rfl
theorem dL_law_2543 : decode cL_law 2543 = .ok (.iaload, 1) := dgt dbL_law_2511 25 rfl
theorem dL_law_2544 : decode cL_law 2544 = .ok (.invokevirtual 388, 3) := dgt dbL_law_2511 26 rfl
theorem dL_law_2547 : decode cL_law 2547 = .ok (.istore 7, 2) := dgt dbL_law_2511 27 rfl
theorem dL_law_2549 : decode cL_law 2549 = .ok (.goto 375, 3) := dgt dbL_law_2511 28 rfl
theorem dL_law_2552 : decode cL_law 2552 = .ok (.aload_n 1, 1) := dgt dbL_law_2511 29 rfl
theorem dL_law_2553 : decode cL_law 2553 = .ok (.aload_n 0, 1) := dgt dbL_law_2511 30 rfl
theorem dL_law_2554 : decode cL_law 2554 = .ok (.iload 5, 2) := dgt dbL_law_2511 31 rfl
theorem dL_law_2556 : decode cL_law 2556 = .ok (.iconst 1, 1) := dgt dbL_law_2511 32 rfl
theorem dL_law_2557 : decode cL_law 2557 = .ok (.iadd, 1) := dgt dbL_law_2511 33 rfl
theorem dL_law_2558 : decode cL_law 2558 = .ok (.iaload, 1) := dgt dbL_law_2511 34 rfl
theorem dL_law_2559 : decode cL_law 2559 = .ok (.aload_n 3, 1) := dgt dbL_law_2511 35 rfl
theorem dL_law_2560 : decode cL_law 2560 = .ok (.invokestatic 389, 3) := dgt dbL_law_2511 36 rfl
theorem dL_law_2563 : decode cL_law 2563 = .ok (.istore 6, 2) := dgt dbL_law_2511 37 rfl
theorem dL_law_2565 : decode cL_law 2565 = .ok (.aload_n 2, 1) := dgt dbL_law_2511 38 rfl
theorem dL_law_2566 : decode cL_law 2566 = .ok (.aload_n 0, 1) := dgt dbL_law_2511 39 rfl
theorem dL_law_2567 : decode cL_law 2567 = .ok (.iload 5, 2) := dgt dbL_law_2511 40 rfl
theorem dL_law_2569 : decode cL_law 2569 = .ok (.iconst 1, 1) := dgt dbL_law_2511 41 rfl
theorem dL_law_2570 : decode cL_law 2570 = .ok (.iadd, 1) := dgt dbL_law_2511 42 rfl
theorem dL_law_2571 : decode cL_law 2571 = .ok (.iaload, 1) := dgt dbL_law_2511 43 rfl
theorem dL_law_2572 : decode cL_law 2572 = .ok (.invokevirtual 391, 3) := dgt dbL_law_2511 44 rfl
theorem dL_law_2575 : decode cL_law 2575 = .ok (.istore 7, 2) := dgt dbL_law_2511 45 rfl
theorem dL_law_2577 : decode cL_law 2577 = .ok (.goto 347, 3) := dgt dbL_law_2511 46 rfl
theorem dL_law_2580 : decode cL_law 2580 = .ok (.aload_n 1, 1) := dgt dbL_law_2511 47 rfl
theorem dL_law_2581 : decode cL_law 2581 = .ok (.aload_n 0, 1) := dgt dbL_law_2511 48 rfl
theorem dL_law_2582 : decode cL_law 2582 = .ok (.iload 5, 2) := dgt dbL_law_2511 49 rfl
theorem dL_law_2584 : decode cL_law 2584 = .ok (.iconst 1, 1) := dgt dbL_law_2511 50 rfl
theorem dL_law_2585 : decode cL_law 2585 = .ok (.iadd, 1) := dgt dbL_law_2511 51 rfl
theorem dL_law_2586 : decode cL_law 2586 = .ok (.iaload, 1) := dgt dbL_law_2511 52 rfl
theorem dL_law_2587 : decode cL_law 2587 = .ok (.aload_n 3, 1) := dgt dbL_law_2511 53 rfl
theorem dL_law_2588 : decode cL_law 2588 = .ok (.invokestatic 392, 3) := dgt dbL_law_2511 54 rfl
theorem dL_law_2591 : decode cL_law 2591 = .ok (.istore 6, 2) := dgt dbL_law_2511 55 rfl
theorem dL_law_2593 : decode cL_law 2593 = .ok (.aload_n 2, 1) := dgt dbL_law_2511 56 rfl
theorem dL_law_2594 : decode cL_law 2594 = .ok (.aload_n 0, 1) := dgt dbL_law_2511 57 rfl
theorem dL_law_2595 : decode cL_law 2595 = .ok (.iload 5, 2) := dgt dbL_law_2511 58 rfl
theorem dL_law_2597 : decode cL_law 2597 = .ok (.iconst 1, 1) := dgt dbL_law_2511 59 rfl
theorem dL_law_2598 : decode cL_law 2598 = .ok (.iadd, 1) := dgt dbL_law_2511 60 rfl
theorem dL_law_2599 : decode cL_law 2599 = .ok (.iaload, 1) := dgt dbL_law_2511 61 rfl
theorem dL_law_2600 : decode cL_law 2600 = .ok (.invokevirtual 394, 3) := dgt dbL_law_2511 62 rfl
theorem dL_law_2603 : decode cL_law 2603 = .ok (.istore 7, 2) := dgt dbL_law_2511 63 rfl
theorem dL_law_2605 : decode cL_law 2605 = .ok (.goto 319, 3) := dgt dbL_law_2511 64 rfl
theorem dL_law_2608 : decode cL_law 2608 = .ok (.aload_n 1, 1) := dgt dbL_law_2511 65 rfl
theorem dL_law_2609 : decode cL_law 2609 = .ok (.aload_n 0, 1) := dgt dbL_law_2511 66 rfl
theorem dL_law_2610 : decode cL_law 2610 = .ok (.iload 5, 2) := dgt dbL_law_2511 67 rfl
theorem dL_law_2612 : decode cL_law 2612 = .ok (.iconst 1, 1) := dgt dbL_law_2511 68 rfl
theorem dL_law_2613 : decode cL_law 2613 = .ok (.iadd, 1) := dgt dbL_law_2511 69 rfl
theorem dL_law_2614 : decode cL_law 2614 = .ok (.iaload, 1) := dgt dbL_law_2511 70 rfl
theorem dL_law_2615 : decode cL_law 2615 = .ok (.i2c, 1) := dgt dbL_law_2511 71 rfl
theorem dL_law_2616 : decode cL_law 2616 = .ok (.aload_n 0, 1) := dgt dbL_law_2511 72 rfl
theorem dL_law_2617 : decode cL_law 2617 = .ok (.iload 5, 2) := dgt dbL_law_2511 73 rfl
theorem dL_law_2619 : decode cL_law 2619 = .ok (.iconst 2, 1) := dgt dbL_law_2511 74 rfl
theorem dL_law_2620 : decode cL_law 2620 = .ok (.iadd, 1) := dgt dbL_law_2511 75 rfl
theorem dL_law_2621 : decode cL_law 2621 = .ok (.iaload, 1) := dgt dbL_law_2511 76 rfl
theorem dL_law_2622 : decode cL_law 2622 = .ok (.aload_n 3, 1) := dgt dbL_law_2511 77 rfl
theorem dL_law_2623 : decode cL_law 2623 = .ok (.invokestatic 395, 3) := dgt dbL_law_2511 78 rfl
theorem dL_law_2626 : decode cL_law 2626 = .ok (.istore 6, 2) := dgt dbL_law_2511 79 rfl
def dlL_law_2628 : List (Nat × Instr × Nat) := [(2628, .aload_n 2, 1), (2629, .aload_n 0, 1), (2630, .iload 5, 2), (2632, .iconst 1, 1), (2633, .iadd, 1), (2634, .iaload, 1), (2635, .i2c, 1), (2636, .aload_n 0, 1), (2637, .iload 5, 2), (2639, .iconst 2, 1), (2640, .iadd, 1), (2641, .iaload, 1), (2642, .invokevirtual 398, 3), (2645, .istore 7, 2), (2647, .goto 277, 3), (2650, .aload_n 1, 1), (2651, .aload_n 0, 1), (2652, .iload 5, 2), (2654, .iconst 1, 1), (2655, .iadd, 1), (2656, .iaload, 1), (2657, .aload_n 0, 1), (2658, .iload 5, 2), (2660, .iconst 2, 1), (2661, .iadd, 1), (2662, .iaload, 1), (2663, .aload_n 3, 1), (2664, .invokestatic 399, 3), (2667, .istore 6, 2), (2669, .aload_n 2, 1), (2670, .aload_n 0, 1), (2671, .iload 5, 2), (2673, .iconst 1, 1), (2674, .iadd, 1), (2675, .iaload, 1), (2676, .aload_n 0, 1), (2677, .iload 5, 2), (2679, .iconst 2, 1), (2680, .iadd, 1), (2681, .iaload, 1), (2682, .invokevirtual 401, 3), (2685, .istore 7, 2), (2687, .goto 237, 3), (2690, .aload_n 1, 1), (2691, .aload_n 0, 1), (2692, .iload 5, 2), (2694, .iconst 1, 1), (2695, .iadd, 1), (2696, .iaload, 1), (2697, .aload_n 0, 1), (2698, .iload 5, 2), (2700, .iconst 2, 1), (2701, .iadd, 1), (2702, .iaload, 1), (2703, .i2c, 1), (2704, .aload_n 3, 1), (2705, .invokestatic 402, 3), (2708, .istore 6, 2), (2710, .aload_n 2, 1), (2711, .aload_n 0, 1), (2712, .iload 5, 2), (2714, .iconst 1, 1), (2715, .iadd, 1), (2716, .iaload, 1), (2717, .aload_n 0, 1), (2718, .iload 5, 2), (2720, .iconst 2, 1), (2721, .iadd, 1), (2722, .iaload, 1), (2723, .i2c, 1), (2724, .invokevirtual 405, 3), (2727, .istore 7, 2), (2729, .goto 195, 3), (2732, .aload_n 1, 1), (2733, .aload_n 0, 1), (2734, .iload 5, 2), (2736, .iconst 1, 1), (2737, .iadd, 1), (2738, .iaload, 1), (2739, .aload_n 3, 1)]
theorem dbL_law_2628 : ∀ q ∈ dlL_law_2628, decode cL_law q.1 = .ok q.2 := by decide +kernel
theorem dL_law_2628 : decode cL_law 2628 = .ok (.aload_n 2, 1) := dgt dbL_law_2628 0 rfl
theorem dL_law_2629 : decode cL_law 2629 = .ok (.aload_n 0, 1) := dgt dbL_law_2628 1 rfl
theorem dL_law_2630 : decode cL_law 2630 = .ok (.iload 5, 2) := dgt dbL_law_2628 2 rfl
theorem dL_law_2632 : decode cL_law 2632 = .ok (.iconst 1, 1) := dgt dbL_law_2628 3 rfl
theorem dL_law_2633 : decode cL_law 2633 = .ok (.iadd, 1) := dgt dbL_law_2628 4 rfl
theorem dL_law_2634 : decode cL_law 2634 = .ok (.iaload, 1) := dgt dbL_law_2628 5 rfl
theorem dL_law_2635 : decode cL_law 2635 = .ok (.i2c, 1) := dgt dbL_law_2628 6 rfl
theorem dL_law_2636 : decode cL_law 2636 = .ok (.aload_n 0, 1) := dgt dbL_law_2628 7 rfl
theorem dL_law_2637 : decode cL_law 2637 = .ok (.iload 5, 2) := dgt dbL_law_2628 8 rfl
theorem dL_law_2639 : decode cL_law 2639 = .ok (.iconst 2, 1) := dgt dbL_law_2628 9 rfl
theorem dL_law_2640 : decode cL_law 2640 = .ok (.iadd, 1) := dgt dbL_law_2628 10 rfl
theorem dL_law_2641 : decode cL_law 2641 = .ok (.iaload, 1) := dgt dbL_law_2628 11 rfl
theorem dL_law_2642 : decode cL_law 2642 = .ok (.invokevirtual 398, 3) := dgt dbL_law_2628 12 rfl
theorem dL_law_2645 : decode cL_law 2645 = .ok (.istore 7, 2) := dgt dbL_law_2628 13 rfl
theorem dL_law_2647 : decode cL_law 2647 = .ok (.goto 277, 3) := dgt dbL_law_2628 14 rfl
theorem dL_law_2650 : decode cL_law 2650 = .ok (.aload_n 1, 1) := dgt dbL_law_2628 15 rfl
theorem dL_law_2651 : decode cL_law 2651 = .ok (.aload_n 0, 1) := dgt dbL_law_2628 16 rfl
theorem dL_law_2652 : decode cL_law 2652 = .ok (.iload 5, 2) := dgt dbL_law_2628 17 rfl
theorem dL_law_2654 : decode cL_law 2654 = .ok (.iconst 1, 1) := dgt dbL_law_2628 18 rfl
theorem dL_law_2655 : decode cL_law 2655 = .ok (.iadd, 1) := dgt dbL_law_2628 19 rfl
theorem dL_law_2656 : decode cL_law 2656 = .ok (.iaload, 1) := dgt dbL_law_2628 20 rfl
theorem dL_law_2657 : decode cL_law 2657 = .ok (.aload_n 0, 1) := dgt dbL_law_2628 21 rfl
theorem dL_law_2658 : decode cL_law 2658 = .ok (.iload 5, 2) := dgt dbL_law_2628 22 rfl
theorem dL_law_2660 : decode cL_law 2660 = .ok (.iconst 2, 1) := dgt dbL_law_2628 23 rfl
theorem dL_law_2661 : decode cL_law 2661 = .ok (.iadd, 1) := dgt dbL_law_2628 24 rfl
theorem dL_law_2662 : decode cL_law 2662 = .ok (.iaload, 1) := dgt dbL_law_2628 25 rfl
theorem dL_law_2663 : decode cL_law 2663 = .ok (.aload_n 3, 1) := dgt dbL_law_2628 26 rfl
theorem dL_law_2664 : decode cL_law 2664 = .ok (.invokestatic 399, 3) := dgt dbL_law_2628 27 rfl
theorem dL_law_2667 : decode cL_law 2667 = .ok (.istore 6, 2) := dgt dbL_law_2628 28 rfl
theorem dL_law_2669 : decode cL_law 2669 = .ok (.aload_n 2, 1) := dgt dbL_law_2628 29 rfl
theorem dL_law_2670 : decode cL_law 2670 = .ok (.aload_n 0, 1) := dgt dbL_law_2628 30 rfl
theorem dL_law_2671 : decode cL_law 2671 = .ok (.iload 5, 2) := dgt dbL_law_2628 31 rfl
theorem dL_law_2673 : decode cL_law 2673 = .ok (.iconst 1, 1) := dgt dbL_law_2628 32 rfl
theorem dL_law_2674 : decode cL_law 2674 = .ok (.iadd, 1) := dgt dbL_law_2628 33 rfl
theorem dL_law_2675 : decode cL_law 2675 = .ok (.iaload, 1) := dgt dbL_law_2628 34 rfl
theorem dL_law_2676 : decode cL_law 2676 = .ok (.aload_n 0, 1) := dgt dbL_law_2628 35 rfl
theorem dL_law_2677 : decode cL_law 2677 = .ok (.iload 5, 2) := dgt dbL_law_2628 36 rfl
theorem dL_law_2679 : decode cL_law 2679 = .ok (.iconst 2, 1) := dgt dbL_law_2628 37 rfl
theorem dL_law_2680 : decode cL_law 2680 = .ok (.iadd, 1) := dgt dbL_law_2628 38 rfl
theorem dL_law_2681 : decode cL_law 2681 = .ok (.iaload, 1) := dgt dbL_law_2628 39 rfl
theorem dL_law_2682 : decode cL_law 2682 = .ok (.invokevirtual 401, 3) := dgt dbL_law_2628 40 rfl
theorem dL_law_2685 : decode cL_law 2685 = .ok (.istore 7, 2) := dgt dbL_law_2628 41 rfl
theorem dL_law_2687 : decode cL_law 2687 = .ok (.goto 237, 3) := dgt dbL_law_2628 42 rfl
theorem dL_law_2690 : decode cL_law 2690 = .ok (.aload_n 1, 1) := dgt dbL_law_2628 43 rfl
theorem dL_law_2691 : decode cL_law 2691 = .ok (.aload_n 0, 1) := dgt dbL_law_2628 44 rfl
theorem dL_law_2692 : decode cL_law 2692 = .ok (.iload 5, 2) := dgt dbL_law_2628 45 rfl
theorem dL_law_2694 : decode cL_law 2694 = .ok (.iconst 1, 1) := dgt dbL_law_2628 46 rfl
theorem dL_law_2695 : decode cL_law 2695 = .ok (.iadd, 1) := dgt dbL_law_2628 47 rfl
theorem dL_law_2696 : decode cL_law 2696 = .ok (.iaload, 1) := dgt dbL_law_2628 48 rfl
theorem dL_law_2697 : decode cL_law 2697 = .ok (.aload_n 0, 1) := dgt dbL_law_2628 49 rfl
theorem dL_law_2698 : decode cL_law 2698 = .ok (.iload 5, 2) := dgt dbL_law_2628 50 rfl
theorem dL_law_2700 : decode cL_law 2700 = .ok (.iconst 2, 1) := dgt dbL_law_2628 51 rfl
theorem dL_law_2701 : decode cL_law 2701 = .ok (.iadd, 1) := dgt dbL_law_2628 52 rfl
theorem dL_law_2702 : decode cL_law 2702 = .ok (.iaload, 1) := dgt dbL_law_2628 53 rfl
theorem dL_law_2703 : decode cL_law 2703 = .ok (.i2c, 1) := dgt dbL_law_2628 54 rfl
theorem dL_law_2704 : decode cL_law 2704 = .ok (.aload_n 3, 1) := dgt dbL_law_2628 55 rfl
theorem dL_law_2705 : decode cL_law 2705 = .ok (.invokestatic 402, 3) := dgt dbL_law_2628 56 rfl
theorem dL_law_2708 : decode cL_law 2708 = .ok (.istore 6, 2) := dgt dbL_law_2628 57 rfl
theorem dL_law_2710 : decode cL_law 2710 = .ok (.aload_n 2, 1) := dgt dbL_law_2628 58 rfl
theorem dL_law_2711 : decode cL_law 2711 = .ok (.aload_n 0, 1) := dgt dbL_law_2628 59 rfl
theorem dL_law_2712 : decode cL_law 2712 = .ok (.iload 5, 2) := dgt dbL_law_2628 60 rfl
theorem dL_law_2714 : decode cL_law 2714 = .ok (.iconst 1, 1) := dgt dbL_law_2628 61 rfl
theorem dL_law_2715 : decode cL_law 2715 = .ok (.iadd, 1) := dgt dbL_law_2628 62 rfl
theorem dL_law_2716 : decode cL_law 2716 = .ok (.iaload, 1) := dgt dbL_law_2628 63 rfl
theorem dL_law_2717 : decode cL_law 2717 = .ok (.aload_n 0, 1) := dgt dbL_law_2628 64 rfl
theorem dL_law_2718 : decode cL_law 2718 = .ok (.iload 5, 2) := dgt dbL_law_2628 65 rfl
theorem dL_law_2720 : decode cL_law 2720 = .ok (.iconst 2, 1) := dgt dbL_law_2628 66 rfl
theorem dL_law_2721 : decode cL_law 2721 = .ok (.iadd, 1) := dgt dbL_law_2628 67 rfl
theorem dL_law_2722 : decode cL_law 2722 = .ok (.iaload, 1) := dgt dbL_law_2628 68 rfl
theorem dL_law_2723 : decode cL_law 2723 = .ok (.i2c, 1) := dgt dbL_law_2628 69 rfl
theorem dL_law_2724 : decode cL_law 2724 = .ok (.invokevirtual 405, 3) := dgt dbL_law_2628 70 rfl
theorem dL_law_2727 : decode cL_law 2727 = .ok (.istore 7, 2) := dgt dbL_law_2628 71 rfl
theorem dL_law_2729 : decode cL_law 2729 = .ok (.goto 195, 3) := dgt dbL_law_2628 72 rfl
theorem dL_law_2732 : decode cL_law 2732 = .ok (.aload_n 1, 1) := dgt dbL_law_2628 73 rfl
theorem dL_law_2733 : decode cL_law 2733 = .ok (.aload_n 0, 1) := dgt dbL_law_2628 74 rfl
theorem dL_law_2734 : decode cL_law 2734 = .ok (.iload 5, 2) := dgt dbL_law_2628 75 rfl
theorem dL_law_2736 : decode cL_law 2736 = .ok (.iconst 1, 1) := dgt dbL_law_2628 76 rfl
theorem dL_law_2737 : decode cL_law 2737 = .ok (.iadd, 1) := dgt dbL_law_2628 77 rfl
theorem dL_law_2738 : decode cL_law 2738 = .ok (.iaload, 1) := dgt dbL_law_2628 78 rfl
theorem dL_law_2739 : decode cL_law 2739 = .ok (.aload_n 3, 1) := dgt dbL_law_2628 79 rfl
def dlL_law_2740 : List (Nat × Instr × Nat) := [(2740, .invokestatic 406, 3), (2743, .istore 6, 2), (2745, .aload_n 2, 1), (2746, .aload_n 0, 1), (2747, .iload 5, 2), (2749, .iconst 1, 1), (2750, .iadd, 1), (2751, .iaload, 1), (2752, .invokevirtual 408, 3), (2755, .istore 7, 2), (2757, .goto 167, 3), (2760, .aload_n 1, 1), (2761, .aload_n 0, 1), (2762, .iload 5, 2), (2764, .iconst 1, 1), (2765, .iadd, 1), (2766, .iaload, 1), (2767, .aload_n 0, 1), (2768, .iload 5, 2), (2770, .iconst 2, 1), (2771, .iadd, 1), (2772, .iaload, 1), (2773, .aload_n 0, 1), (2774, .iload 5, 2), (2776, .iconst 3, 1), (2777, .iadd, 1), (2778, .iaload, 1), (2779, .aload_n 3, 1), (2780, .invokestatic 409, 3), (2783, .istore 6, 2), (2785, .aload_n 2, 1), (2786, .aload_n 0, 1), (2787, .iload 5, 2), (2789, .iconst 1, 1), (2790, .iadd, 1), (2791, .iaload, 1), (2792, .aload_n 0, 1), (2793, .iload 5, 2), (2795, .iconst 2, 1), (2796, .iadd, 1), (2797, .iaload, 1), (2798, .aload_n 0, 1), (2799, .iload 5, 2), (2801, .iconst 3, 1), (2802, .iadd, 1), (2803, .iaload, 1), (2804, .invokevirtual 411, 3), (2807, .istore 7, 2), (2809, .goto 115, 3), (2812, .aload_n 1, 1), (2813, .aload_n 0, 1), (2814, .iload 5, 2), (2816, .iconst 1, 1), (2817, .iadd, 1), (2818, .iaload, 1), (2819, .aload_n 0, 1), (2820, .iload 5, 2), (2822, .iconst 2, 1), (2823, .iadd, 1), (2824, .iaload, 1), (2825, .aload_n 0, 1), (2826, .iload 5, 2), (2828, .iconst 3, 1), (2829, .iadd, 1), (2830, .iaload, 1), (2831, .aload_n 3, 1), (2832, .invokestatic 412, 3), (2835, .istore 6, 2), (2837, .aload_n 2, 1), (2838, .aload_n 0, 1), (2839, .iload 5, 2), (2841, .iconst 1, 1), (2842, .iadd, 1), (2843, .iaload, 1), (2844, .aload_n 0, 1), (2845, .iload 5, 2), (2847, .iconst 2, 1), (2848, .iadd, 1), (2849, .iaload, 1), (2850, .aload_n 0, 1)]
theorem dbL_law_2740 : ∀ q ∈ dlL_law_2740, decode cL_law q.1 = .ok q.2 := by decide +kernel
theorem dL_law_2740 : decode cL_law 2740 = .ok (.invokestatic 406, 3) := dgt dbL_law_2740 0 rfl
theorem dL_law_2743 : decode cL_law 2743 = .ok (.istore 6, 2) := dgt dbL_law_2740 1 rfl
theorem dL_law_2745 : decode cL_law 2745 = .ok (.aload_n 2, 1) := dgt dbL_law_2740 2 rfl
theorem dL_law_2746 : decode cL_law 2746 = .ok (.aload_n 0, 1) := dgt dbL_law_2740 3 rfl
theorem dL_law_2747 : decode cL_law 2747 = .ok (.iload 5, 2) := dgt dbL_law_2740 4 rfl
theorem dL_law_2749 : decode cL_law 2749 = .ok (.iconst 1, 1) := dgt dbL_law_2740 5 rfl
theorem dL_law_2750 : decode cL_law 2750 = .ok (.iadd, 1) := dgt dbL_law_2740 6 rfl
theorem dL_law_2751 : decode cL_law 2751 = .ok (.iaload, 1) := dgt dbL_law_2740 7 rfl
theorem dL_law_2752 : decode cL_law 2752 = .ok (.invokevirtual 408, 3) := dgt dbL_law_2740 8 rfl
theorem dL_law_2755 : decode cL_law 2755 = .ok (.istore 7, 2) := dgt dbL_law_2740 9 rfl
theorem dL_law_2757 : decode cL_law 2757 = .ok (.goto 167, 3) := dgt dbL_law_2740 10 rfl
theorem dL_law_2760 : decode cL_law 2760 = .ok (.aload_n 1, 1) := dgt dbL_law_2740 11 rfl
theorem dL_law_2761 : decode cL_law 2761 = .ok (.aload_n 0, 1) := dgt dbL_law_2740 12 rfl
theorem dL_law_2762 : decode cL_law 2762 = .ok (.iload 5, 2) := dgt dbL_law_2740 13 rfl
theorem dL_law_2764 : decode cL_law 2764 = .ok (.iconst 1, 1) := dgt dbL_law_2740 14 rfl
theorem dL_law_2765 : decode cL_law 2765 = .ok (.iadd, 1) := dgt dbL_law_2740 15 rfl
theorem dL_law_2766 : decode cL_law 2766 = .ok (.iaload, 1) := dgt dbL_law_2740 16 rfl
theorem dL_law_2767 : decode cL_law 2767 = .ok (.aload_n 0, 1) := dgt dbL_law_2740 17 rfl
theorem dL_law_2768 : decode cL_law 2768 = .ok (.iload 5, 2) := dgt dbL_law_2740 18 rfl
theorem dL_law_2770 : decode cL_law 2770 = .ok (.iconst 2, 1) := dgt dbL_law_2740 19 rfl
theorem dL_law_2771 : decode cL_law 2771 = .ok (.iadd, 1) := dgt dbL_law_2740 20 rfl
theorem dL_law_2772 : decode cL_law 2772 = .ok (.iaload, 1) := dgt dbL_law_2740 21 rfl
theorem dL_law_2773 : decode cL_law 2773 = .ok (.aload_n 0, 1) := dgt dbL_law_2740 22 rfl
theorem dL_law_2774 : decode cL_law 2774 = .ok (.iload 5, 2) := dgt dbL_law_2740 23 rfl
theorem dL_law_2776 : decode cL_law 2776 = .ok (.iconst 3, 1) := dgt dbL_law_2740 24 rfl
theorem dL_law_2777 : decode cL_law 2777 = .ok (.iadd, 1) := dgt dbL_law_2740 25 rfl
theorem dL_law_2778 : decode cL_law 2778 = .ok (.iaload, 1) := dgt dbL_law_2740 26 rfl
theorem dL_law_2779 : decode cL_law 2779 = .ok (.aload_n 3, 1) := dgt dbL_law_2740 27 rfl
theorem dL_law_2780 : decode cL_law 2780 = .ok (.invokestatic 409, 3) := dgt dbL_law_2740 28 rfl
theorem dL_law_2783 : decode cL_law 2783 = .ok (.istore 6, 2) := dgt dbL_law_2740 29 rfl
theorem dL_law_2785 : decode cL_law 2785 = .ok (.aload_n 2, 1) := dgt dbL_law_2740 30 rfl
theorem dL_law_2786 : decode cL_law 2786 = .ok (.aload_n 0, 1) := dgt dbL_law_2740 31 rfl
theorem dL_law_2787 : decode cL_law 2787 = .ok (.iload 5, 2) := dgt dbL_law_2740 32 rfl
theorem dL_law_2789 : decode cL_law 2789 = .ok (.iconst 1, 1) := dgt dbL_law_2740 33 rfl
theorem dL_law_2790 : decode cL_law 2790 = .ok (.iadd, 1) := dgt dbL_law_2740 34 rfl
theorem dL_law_2791 : decode cL_law 2791 = .ok (.iaload, 1) := dgt dbL_law_2740 35 rfl
theorem dL_law_2792 : decode cL_law 2792 = .ok (.aload_n 0, 1) := dgt dbL_law_2740 36 rfl
theorem dL_law_2793 : decode cL_law 2793 = .ok (.iload 5, 2) := dgt dbL_law_2740 37 rfl
theorem dL_law_2795 : decode cL_law 2795 = .ok (.iconst 2, 1) := dgt dbL_law_2740 38 rfl
theorem dL_law_2796 : decode cL_law 2796 = .ok (.iadd, 1) := dgt dbL_law_2740 39 rfl
theorem dL_law_2797 : decode cL_law 2797 = .ok (.iaload, 1) := dgt dbL_law_2740 40 rfl
theorem dL_law_2798 : decode cL_law 2798 = .ok (.aload_n 0, 1) := dgt dbL_law_2740 41 rfl
theorem dL_law_2799 : decode cL_law 2799 = .ok (.iload 5, 2) := dgt dbL_law_2740 42 rfl
theorem dL_law_2801 : decode cL_law 2801 = .ok (.iconst 3, 1) := dgt dbL_law_2740 43 rfl
theorem dL_law_2802 : decode cL_law 2802 = .ok (.iadd, 1) := dgt dbL_law_2740 44 rfl
theorem dL_law_2803 : decode cL_law 2803 = .ok (.iaload, 1) := dgt dbL_law_2740 45 rfl
theorem dL_law_2804 : decode cL_law 2804 = .ok (.invokevirtual 411, 3) := dgt dbL_law_2740 46 rfl
theorem dL_law_2807 : decode cL_law 2807 = .ok (.istore 7, 2) := dgt dbL_law_2740 47 rfl
theorem dL_law_2809 : decode cL_law 2809 = .ok (.goto 115, 3) := dgt dbL_law_2740 48 rfl
theorem dL_law_2812 : decode cL_law 2812 = .ok (.aload_n 1, 1) := dgt dbL_law_2740 49 rfl
theorem dL_law_2813 : decode cL_law 2813 = .ok (.aload_n 0, 1) := dgt dbL_law_2740 50 rfl
theorem dL_law_2814 : decode cL_law 2814 = .ok (.iload 5, 2) := dgt dbL_law_2740 51 rfl
theorem dL_law_2816 : decode cL_law 2816 = .ok (.iconst 1, 1) := dgt dbL_law_2740 52 rfl
theorem dL_law_2817 : decode cL_law 2817 = .ok (.iadd, 1) := dgt dbL_law_2740 53 rfl
theorem dL_law_2818 : decode cL_law 2818 = .ok (.iaload, 1) := dgt dbL_law_2740 54 rfl
theorem dL_law_2819 : decode cL_law 2819 = .ok (.aload_n 0, 1) := dgt dbL_law_2740 55 rfl
theorem dL_law_2820 : decode cL_law 2820 = .ok (.iload 5, 2) := dgt dbL_law_2740 56 rfl
theorem dL_law_2822 : decode cL_law 2822 = .ok (.iconst 2, 1) := dgt dbL_law_2740 57 rfl
theorem dL_law_2823 : decode cL_law 2823 = .ok (.iadd, 1) := dgt dbL_law_2740 58 rfl
theorem dL_law_2824 : decode cL_law 2824 = .ok (.iaload, 1) := dgt dbL_law_2740 59 rfl
theorem dL_law_2825 : decode cL_law 2825 = .ok (.aload_n 0, 1) := dgt dbL_law_2740 60 rfl
theorem dL_law_2826 : decode cL_law 2826 = .ok (.iload 5, 2) := dgt dbL_law_2740 61 rfl
theorem dL_law_2828 : decode cL_law 2828 = .ok (.iconst 3, 1) := dgt dbL_law_2740 62 rfl
theorem dL_law_2829 : decode cL_law 2829 = .ok (.iadd, 1) := dgt dbL_law_2740 63 rfl
theorem dL_law_2830 : decode cL_law 2830 = .ok (.iaload, 1) := dgt dbL_law_2740 64 rfl
theorem dL_law_2831 : decode cL_law 2831 = .ok (.aload_n 3, 1) := dgt dbL_law_2740 65 rfl
theorem dL_law_2832 : decode cL_law 2832 = .ok (.invokestatic 412, 3) := dgt dbL_law_2740 66 rfl
theorem dL_law_2835 : decode cL_law 2835 = .ok (.istore 6, 2) := dgt dbL_law_2740 67 rfl
theorem dL_law_2837 : decode cL_law 2837 = .ok (.aload_n 2, 1) := dgt dbL_law_2740 68 rfl
theorem dL_law_2838 : decode cL_law 2838 = .ok (.aload_n 0, 1) := dgt dbL_law_2740 69 rfl
theorem dL_law_2839 : decode cL_law 2839 = .ok (.iload 5, 2) := dgt dbL_law_2740 70 rfl
theorem dL_law_2841 : decode cL_law 2841 = .ok (.iconst 1, 1) := dgt dbL_law_2740 71 rfl
theorem dL_law_2842 : decode cL_law 2842 = .ok (.iadd, 1) := dgt dbL_law_2740 72 rfl
theorem dL_law_2843 : decode cL_law 2843 = .ok (.iaload, 1) := dgt dbL_law_2740 73 rfl
theorem dL_law_2844 : decode cL_law 2844 = .ok (.aload_n 0, 1) := dgt dbL_law_2740 74 rfl
theorem dL_law_2845 : decode cL_law 2845 = .ok (.iload 5, 2) := dgt dbL_law_2740 75 rfl
theorem dL_law_2847 : decode cL_law 2847 = .ok (.iconst 2, 1) := dgt dbL_law_2740 76 rfl
theorem dL_law_2848 : decode cL_law 2848 = .ok (.iadd, 1) := dgt dbL_law_2740 77 rfl
theorem dL_law_2849 : decode cL_law 2849 = .ok (.iaload, 1) := dgt dbL_law_2740 78 rfl
theorem dL_law_2850 : decode cL_law 2850 = .ok (.aload_n 0, 1) := dgt dbL_law_2740 79 rfl
def dlL_law_2851 : List (Nat × Instr × Nat) := [(2851, .iload 5, 2), (2853, .iconst 3, 1), (2854, .iadd, 1), (2855, .iaload, 1), (2856, .invokevirtual 414, 3), (2859, .istore 7, 2), (2861, .goto 63, 3), (2864, .aload_n 1, 1), (2865, .invokevirtual 415, 3), (2868, .pop2, 1), (2869, .aload_n 2, 1), (2870, .invokevirtual 419, 3), (2873, .pop2, 1), (2874, .goto 50, 3), (2877, .aload_n 1, 1), (2878, .aload 4, 2), (2880, .invokestatic 420, 3), (2883, .istore 6, 2), (2885, .aload_n 2, 1), (2886, .invokevirtual 423, 3), (2889, .fstore 7, 2), (2891, .goto 33, 3), (2894, .aload_n 1, 1), (2895, .aload 4, 2), (2897, .invokestatic 424, 3), (2900, .istore 6, 2), (2902, .aload_n 2, 1), (2903, .invokevirtual 426, 3), (2906, .dstore 7, 2), (2908, .goto 16, 3), (2911, .aload_n 1, 1), (2912, .invokevirtual 427, 3), (2915, .pop, 1), (2916, .aload_n 2, 1), (2917, .invokevirtual 431, 3), (2920, .pop, 1), (2921, .goto 3, 3), (2924, .iinc 5 5, 3), (2927, .goto (-2899), 3), (2930, .iconst 1, 1), (2931, .ireturn, 1)]
theorem dbL_law_2851 : ∀ q ∈ dlL_law_2851, decode cL_law q.1 = .ok q.2 := by decide +kernel
theorem dL_law_2851 : decode cL_law 2851 = .ok (.iload 5, 2) := dgt dbL_law_2851 0 rfl
theorem dL_law_2853 : decode cL_law 2853 = .ok (.iconst 3, 1) := dgt dbL_law_2851 1 rfl
theorem dL_law_2854 : decode cL_law 2854 = .ok (.iadd, 1) := dgt dbL_law_2851 2 rfl
theorem dL_law_2855 : decode cL_law 2855 = .ok (.iaload, 1) := dgt dbL_law_2851 3 rfl
theorem dL_law_2856 : decode cL_law 2856 = .ok (.invokevirtual 414, 3) := dgt dbL_law_2851 4 rfl
theorem dL_law_2859 : decode cL_law 2859 = .ok (.istore 7, 2) := dgt dbL_law_2851 5 rfl
theorem dL_law_2861 : decode cL_law 2861 = .ok (.goto 63, 3) := dgt dbL_law_2851 6 rfl
theorem dL_law_2864 : decode cL_law 2864 = .ok (.aload_n 1, 1) := dgt dbL_law_2851 7 rfl
theorem dL_law_2865 : decode cL_law 2865 = .ok (.invokevirtual 415, 3) := dgt dbL_law_2851 8 rfl
theorem dL_law_2868 : decode cL_law 2868 = .ok (.pop2, 1) := dgt dbL_law_2851 9 rfl
theorem dL_law_2869 : decode cL_law 2869 = .ok (.aload_n 2, 1) := dgt dbL_law_2851 10 rfl
theorem dL_law_2870 : decode cL_law 2870 = .ok (.invokevirtual 419, 3) := dgt dbL_law_2851 11 rfl
theorem dL_law_2873 : decode cL_law 2873 = .ok (.pop2, 1) := dgt dbL_law_2851 12 rfl
theorem dL_law_2874 : decode cL_law 2874 = .ok (.goto 50, 3) := dgt dbL_law_2851 13 rfl
theorem dL_law_2877 : decode cL_law 2877 = .ok (.aload_n 1, 1) := dgt dbL_law_2851 14 rfl
theorem dL_law_2878 : decode cL_law 2878 = .ok (.aload 4, 2) := dgt dbL_law_2851 15 rfl
theorem dL_law_2880 : decode cL_law 2880 = .ok (.invokestatic 420, 3) := dgt dbL_law_2851 16 rfl
theorem dL_law_2883 : decode cL_law 2883 = .ok (.istore 6, 2) := dgt dbL_law_2851 17 rfl
theorem dL_law_2885 : decode cL_law 2885 = .ok (.aload_n 2, 1) := dgt dbL_law_2851 18 rfl
theorem dL_law_2886 : decode cL_law 2886 = .ok (.invokevirtual 423, 3) := dgt dbL_law_2851 19 rfl
theorem dL_law_2889 : decode cL_law 2889 = .ok (.fstore 7, 2) := dgt dbL_law_2851 20 rfl
theorem dL_law_2891 : decode cL_law 2891 = .ok (.goto 33, 3) := dgt dbL_law_2851 21 rfl
theorem dL_law_2894 : decode cL_law 2894 = .ok (.aload_n 1, 1) := dgt dbL_law_2851 22 rfl
theorem dL_law_2895 : decode cL_law 2895 = .ok (.aload 4, 2) := dgt dbL_law_2851 23 rfl
theorem dL_law_2897 : decode cL_law 2897 = .ok (.invokestatic 424, 3) := dgt dbL_law_2851 24 rfl
theorem dL_law_2900 : decode cL_law 2900 = .ok (.istore 6, 2) := dgt dbL_law_2851 25 rfl
theorem dL_law_2902 : decode cL_law 2902 = .ok (.aload_n 2, 1) := dgt dbL_law_2851 26 rfl
theorem dL_law_2903 : decode cL_law 2903 = .ok (.invokevirtual 426, 3) := dgt dbL_law_2851 27 rfl
theorem dL_law_2906 : decode cL_law 2906 = .ok (.dstore 7, 2) := dgt dbL_law_2851 28 rfl
theorem dL_law_2908 : decode cL_law 2908 = .ok (.goto 16, 3) := dgt dbL_law_2851 29 rfl
theorem dL_law_2911 : decode cL_law 2911 = .ok (.aload_n 1, 1) := dgt dbL_law_2851 30 rfl
theorem dL_law_2912 : decode cL_law 2912 = .ok (.invokevirtual 427, 3) := dgt dbL_law_2851 31 rfl
theorem dL_law_2915 : decode cL_law 2915 = .ok (.pop, 1) := dgt dbL_law_2851 32 rfl
theorem dL_law_2916 : decode cL_law 2916 = .ok (.aload_n 2, 1) := dgt dbL_law_2851 33 rfl
theorem dL_law_2917 : decode cL_law 2917 = .ok (.invokevirtual 431, 3) := dgt dbL_law_2851 34 rfl
theorem dL_law_2920 : decode cL_law 2920 = .ok (.pop, 1) := dgt dbL_law_2851 35 rfl
theorem dL_law_2921 : decode cL_law 2921 = .ok (.goto 3, 3) := dgt dbL_law_2851 36 rfl
theorem dL_law_2924 : decode cL_law 2924 = .ok (.iinc 5 5, 3) := dgt dbL_law_2851 37 rfl
theorem dL_law_2927 : decode cL_law 2927 = .ok (.goto (-2899), 3) := dgt dbL_law_2851 38 rfl
theorem dL_law_2930 : decode cL_law 2930 = .ok (.iconst 1, 1) := dgt dbL_law_2851 39 rfl
theorem dL_law_2931 : decode cL_law 2931 = .ok (.ireturn, 1) := dgt dbL_law_2851 40 rfl

