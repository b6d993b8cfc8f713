def dsL_law_1937 : ByteArray := ⟨#[46, 42, 21, 5, 6, 96, 46, 182, 1, 87, 54, 7, 167, 3, 207, 43, 42, 21, 5, 4, 96, 46, 45, 184, 1, 88, 54, 6, 44, 42, 21, 5, 4, 96, 46, 182, 1, 90, 54, 7, 167, 3, 179, 43, 42, 21, 5, 4, 96, 46, 42, 21, 5, 5, 96, 46, 42, 21, 5, 6, 96, 46, 45, 184, 1, 91, 54, 6, 44, 42, 21, 5, 4, 96, 46, 42, 21, 5, 5, 96, 46, 42, 21, 5, 6, 96, 46, 182, 1, 93, 54, 7, 167, 3, 127, 43, 42, 21, 5, 4, 96, 46, 45, 184, 1, 94, 54, 6, 44, 42, 21, 5, 4, 96, 46]⟩
theorem daL_law_1937 : agB cL_law dsL_law_1937 1937 := agB_of (n := 115) (by decide +kernel)
def dlL_law_1937 : List (Nat × Instr × Nat) := [(0, .iaload, 1), (1, .aload_n 0, 1), (2, .iload 5, 2), (4, .iconst 3, 1), (5, .iadd, 1), (6, .iaload, 1), (7, .invokevirtual 343, 3), (10, .istore 7, 2), (12, .goto 975, 3), (15, .aload_n 1, 1), (16, .aload_n 0, 1), (17, .iload 5, 2), (19, .iconst 1, 1), (20, .iadd, 1), (21, .iaload, 1), (22, .aload_n 3, 1), (23, .invokestatic 344, 3), (26, .istore 6, 2), (28, .aload_n 2, 1), (29, .aload_n 0, 1), (30, .iload 5, 2), (32, .iconst 1, 1), (33, .iadd, 1), (34, .iaload, 1), (35, .invokevirtual 346, 3), (38, .istore 7, 2), (40, .goto 947, 3), (43, .aload_n 1, 1), (44, .aload_n 0, 1), (45, .iload 5, 2), (47, .iconst 1, 1), (48, .iadd, 1), (49, .iaload, 1), (50, .aload_n 0, 1), (51, .iload 5, 2), (53, .iconst 2, 1), (54, .iadd, 1), (55, .iaload, 1), (56, .aload_n 0, 1), (57, .iload 5, 2), (59, .iconst 3, 1), (60, .iadd, 1), (61, .iaload, 1), (62, .aload_n 3, 1), (63, .invokestatic 347, 3), (66, .istore 6, 2), (68, .aload_n 2, 1), (69, .aload_n 0, 1), (70, .iload 5, 2), (72, .iconst 1, 1), (73, .iadd, 1), (74, .iaload, 1), (75, .aload_n 0, 1), (76, .iload 5, 2), (78, .iconst 2, 1), (79, .iadd, 1), (80, .iaload, 1), (81, .aload_n 0, 1), (82, .iload 5, 2), (84, .iconst 3, 1), (85, .iadd, 1), (86, .iaload, 1), (87, .invokevirtual 349, 3), (90, .istore 7, 2), (92, .goto 895, 3), (95, .aload_n 1, 1), (96, .aload_n 0, 1), (97, .iload 5, 2), (99, .iconst 1, 1), (100, .iadd, 1), (101, .iaload, 1), (102, .aload_n 3, 1), (103, .invokestatic 350, 3), (106, .istore 6, 2), (108, .aload_n 2, 1), (109, .aload_n 0, 1), (110, .iload 5, 2), (112, .iconst 1, 1), (113, .iadd, 1), (114, .iaload, 1)]
theorem dbL_law_1937 : ∀ z ∈ dlL_law_1937, decode dsL_law_1937 z.1 = Except.ok z.2 ∧ okop dsL_law_1937 z.1 = true := by decide +kernel
theorem dL_law_1937 : decode cL_law 1937 = .ok (.iaload, 1) := dgs daL_law_1937 dbL_law_1937 0 0 rfl
theorem dL_law_1938 : decode cL_law 1938 = .ok (.aload_n 0, 1) := dgs daL_law_1937 dbL_law_1937 1 1 rfl
theorem dL_law_1939 : decode cL_law 1939 = .ok (.iload 5, 2) := dgs daL_law_1937 dbL_law_1937 2 2 rfl
theorem dL_law_1941 : decode cL_law 1941 = .ok (.iconst 3, 1) := dgs daL_law_1937 dbL_law_1937 3 4 rfl
theorem dL_law_1942 : decode cL_law 1942 = .ok (.iadd, 1) := dgs daL_law_1937 dbL_law_1937 4 5 rfl
theorem dL_law_1943 : decode cL_law 1943 = .ok (.iaload, 1) := dgs daL_law_1937 dbL_law_1937 5 6 rfl
theorem dL_law_1944 : decode cL_law 1944 = .ok (.invokevirtual 343, 3) := dgs daL_law_1937 dbL_law_1937 6 7 rfl
theorem dL_law_1947 : decode cL_law 1947 = .ok (.istore 7, 2) := dgs daL_law_1937 dbL_law_1937 7 10 rfl
theorem dL_law_1949 : decode cL_law 1949 = .ok (.goto 975, 3) := dgs daL_law_1937 dbL_law_1937 8 12 rfl
theorem dL_law_1952 : decode cL_law 1952 = .ok (.aload_n 1, 1) := dgs daL_law_1937 dbL_law_1937 9 15 rfl
theorem dL_law_1953 : decode cL_law 1953 = .ok (.aload_n 0, 1) := dgs daL_law_1937 dbL_law_1937 10 16 rfl
theorem dL_law_1954 : decode cL_law 1954 = .ok (.iload 5, 2) := dgs daL_law_1937 dbL_law_1937 11 17 rfl
theorem dL_law_1956 : decode cL_law 1956 = .ok (.iconst 1, 1) := dgs daL_law_1937 dbL_law_1937 12 19 rfl
theorem dL_law_1957 : decode cL_law 1957 = .ok (.iadd, 1) := dgs daL_law_1937 dbL_law_1937 13 20 rfl
theorem dL_law_1958 : decode cL_law 1958 = .ok (.iaload, 1) := dgs daL_law_1937 dbL_law_1937 14 21 rfl
theorem dL_law_1959 : decode cL_law 1959 = .ok (.aload_n 3, 1) := dgs daL_law_1937 dbL_law_1937 15 22 rfl
theorem dL_law_1960 : decode cL_law 1960 = .ok (.invokestatic 344, 3) := dgs daL_law_1937 dbL_law_1937 16 23 rfl
theorem dL_law_1963 : decode cL_law 1963 = .ok (.istore 6, 2) := dgs daL_law_1937 dbL_law_1937 17 26 rfl
theorem dL_law_1965 : decode cL_law 1965 = .ok (.aload_n 2, 1) := dgs daL_law_1937 dbL_law_1937 18 28 rfl
theorem dL_law_1966 : decode cL_law 1966 = .ok (.aload_n 0, 1) := dgs daL_law_1937 dbL_law_1937 19 29 rfl
theorem dL_law_1967 : decode cL_law 1967 = .ok (.iload 5, 2) := dgs daL_law_1937 dbL_law_1937 20 30 rfl
theorem dL_law_1969 : decode cL_law 1969 = .ok (.iconst 1, 1) := dgs daL_law_1937 dbL_law_1937 21 32 rfl
theorem dL_law_1970 : decode cL_law 1970 = .ok (.iadd, 1) := dgs daL_law_1937 dbL_law_1937 22 33 rfl
theorem dL_law_1971 : decode cL_law 1971 = .ok (.iaload, 1) := dgs daL_law_1937 dbL_law_1937 23 34 rfl
theorem dL_law_1972 : decode cL_law 1972 = .ok (.invokevirtual 346, 3) := dgs daL_law_1937 dbL_law_1937 24 35 rfl
theorem dL_law_1975 : decode cL_law 1975 = .ok (.istore 7, 2) := dgs daL_law_1937 dbL_law_1937 25 38 rfl
theorem dL_law_1977 : decode cL_law 1977 = .ok (.goto 947, 3) := dgs daL_law_1937 dbL_law_1937 26 40 rfl
theorem dL_law_1980 : decode cL_law 1980 = .ok (.aload_n 1, 1) := dgs daL_law_1937 dbL_law_1937 27 43 rfl
theorem dL_law_1981 : decode cL_law 1981 = .ok (.aload_n 0, 1) := dgs daL_law_1937 dbL_law_1937 28 44 rfl
theorem dL_law_1982 : decode cL_law 1982 = .ok (.iload 5, 2) := dgs daL_law_1937 dbL_law_1937 29 45 rfl
theorem dL_law_1984 : decode cL_law 1984 = .ok (.iconst 1, 1) := dgs daL_law_1937 dbL_law_1937 30 47 rfl
theorem dL_law_1985 : decode cL_law 1985 = .ok (.iadd, 1) := dgs daL_law_1937 dbL_law_1937 31 48 rfl
theorem dL_law_1986 : decode cL_law 1986 = .ok (.iaload, 1) := dgs daL_law_1937 dbL_law_1937 32 49 rfl
theorem dL_law_1987 : decode cL_law 1987 = .ok (.aload_n 0, 1) := dgs daL_law_1937 dbL_law_1937 33 50 rfl
theorem dL_law_1988 : decode cL_law 1988 = .ok (.iload 5, 2) := dgs daL_law_1937 dbL_law_1937 34 51 rfl
theorem dL_law_1990 : decode cL_law 1990 = .ok (.iconst 2, 1) := dgs daL_law_1937 dbL_law_1937 35 53 rfl
theorem dL_law_1991 : decode cL_law 1991 = .ok (.iadd, 1) := dgs daL_law_1937 dbL_law_1937 36 54 rfl
theorem dL_law_1992 : decode cL_law 1992 = .ok (.iaload, 1) := dgs daL_law_1937 dbL_law_1937 37 55 rfl
theorem dL_law_1993 : decode cL_law 1993 = .ok (.aload_n 0, 1) := dgs daL_law_1937 dbL_law_1937 38 56 rfl
theorem dL_law_1994 : decode cL_law 1994 = .ok (.iload 5, 2) := dgs daL_law_1937 dbL_law_1937 39 57 rfl
theorem dL_law_1996 : decode cL_law 1996 = .ok (.iconst 3, 1) := dgs daL_law_1937 dbL_law_1937 40 59 rfl
theorem dL_law_1997 : decode cL_law 1997 = .ok (.iadd, 1) := dgs daL_law_1937 dbL_law_1937 41 60 rfl
theorem dL_law_1998 : decode cL_law 1998 = .ok (.iaload, 1) := dgs daL_law_1937 dbL_law_1937 42 61 rfl
theorem dL_law_1999 : decode cL_law 1999 = .ok (.aload_n 3, 1) := dgs daL_law_1937 dbL_law_1937 43 62 rfl
theorem dL_law_2000 : decode cL_law 2000 = .ok (.invokestatic 347, 3) := dgs daL_law_1937 dbL_law_1937 44 63 rfl
theorem dL_law_2003 : decode cL_law 2003 = .ok (.istore 6, 2) := dgs daL_law_1937 dbL_law_1937 45 66 rfl
theorem dL_law_2005 : decode cL_law 2005 = .ok (.aload_n 2, 1) := dgs daL_law_1937 dbL_law_1937 46 68 rfl
theorem dL_law_2006 : decode cL_law 2006 = .ok (.aload_n 0, 1) := dgs daL_law_1937 dbL_law_1937 47 69 rfl
theorem dL_law_2007 : decode cL_law 2007 = .ok (.iload 5, 2) := dgs daL_law_1937 dbL_law_1937 48 70 rfl
theorem dL_law_2009 : decode cL_law 2009 = .ok (.iconst 1, 1) := dgs daL_law_1937 dbL_law_1937 49 72 rfl
theorem dL_law_2010 : decode cL_law 2010 = .ok (.iadd, 1) := dgs daL_law_1937 dbL_law_1937 50 73 rfl
theorem dL_law_2011 : decode cL_law 2011 = .ok (.iaload, 1) := dgs daL_law_1937 dbL_law_1937 51 74 rfl
theorem dL_law_2012 : decode cL_law 2012 = .ok (.aload_n 0, 1) := dgs daL_law_1937 dbL_law_1937 52 75 rfl
theorem dL_law_2013 : decode cL_law 2013 = .ok (.iload 5, 2) := dgs daL_law_1937 dbL_law_1937 53 76 rfl
theorem dL_law_2015 : decode cL_law 2015 = .ok (.iconst 2, 1) := dgs daL_law_1937 dbL_law_1937 54 78 rfl
theorem dL_law_2016 : decode cL_law 2016 = .ok (.iadd, 1) := dgs daL_law_1937 dbL_law_1937 55 79 rfl
theorem dL_law_2017 : decode cL_law 2017 = .ok (.iaload, 1) := dgs daL_law_1937 dbL_law_1937 56 80 rfl
theorem dL_law_2018 : decode cL_law 2018 = .ok (.aload_n 0, 1) := dgs daL_law_1937 dbL_law_1937 57 81 rfl
theorem dL_law_2019 : decode cL_law 2019 = .ok (.iload 5, 2) := dgs daL_law_1937 dbL_law_1937 58 82 rfl
theorem dL_law_2021 : decode cL_law 2021 = .ok (.iconst 3, 1) := dgs daL_law_1937 dbL_law_1937 59 84 rfl
theorem dL_law_2022 : decode cL_law 2022 = .ok (.iadd, 1) := dgs daL_law_1937 dbL_law_1937 60 85 rfl
theorem dL_law_2023 : decode cL_law 2023 = .ok (.iaload, 1) := dgs daL_law_1937 dbL_law_1937 61 86 rfl
theorem dL_law_2024 : decode cL_law 2024 = .ok (.invokevirtual 349, 3) := dgs daL_law_1937 dbL_law_1937 62 87 rfl
theorem dL_law_2027 : decode cL_law 2027 = .ok (.istore 7, 2) := dgs daL_law_1937 dbL_law_1937 63 90 rfl
theorem dL_law_2029 : decode cL_law 2029 = .ok (.goto 895, 3) := dgs daL_law_1937 dbL_law_1937 64 92 rfl
theorem dL_law_2032 : decode cL_law 2032 = .ok (.aload_n 1, 1) := dgs daL_law_1937 dbL_law_1937 65 95 rfl
theorem dL_law_2033 : decode cL_law 2033 = .ok (.aload_n 0, 1) := dgs daL_law_1937 dbL_law_1937 66 96 rfl
theorem dL_law_2034 : decode cL_law 2034 = .ok (.iload 5, 2) := dgs daL_law_1937 dbL_law_1937 67 97 rfl
theorem dL_law_2036 : decode cL_law 2036 = .ok (.iconst 1, 1) := dgs daL_law_1937 dbL_law_1937 68 99 rfl
theorem dL_law_2037 : decode cL_law 2037 = .ok (.iadd, 1) := dgs daL_law_1937 dbL_law_1937 69 100 rfl
theorem dL_law_2038 : decode cL_law 2038 = .ok (.iaload, 1) := dgs daL_law_1937 dbL_law_1937 70 101 rfl
theorem dL_law_2039 : decode cL_law 2039 = .ok (.aload_n 3, 1) := dgs daL_law_1937 dbL_law_1937 71 102 rfl
theorem dL_law_2040 : decode cL_law 2040 = .ok (.invokestatic 350, 3) := dgs daL_law_1937 dbL_law_1937 72 103 rfl
theorem dL_law_2043 : decode cL_law 2043 = .ok (.istore 6, 2) := dgs daL_law_1937 dbL_law_1937 73 106 rfl
theorem dL_law_2045 : decode cL_law 2045 = .ok (.aload_n 2, 1) := dgs daL_law_1937 dbL_law_1937 74 108 rfl
theorem dL_law_2046 : decode cL_law 2046 = .ok (.aload_n 0, 1) := dgs daL_law_1937 dbL_law_1937 75 109 rfl
theorem dL_law_2047 : decode cL_law 2047 = .ok (.iload 5, 2) := dgs daL_law_1937 dbL_law_1937 76 110 rfl
theorem dL_law_2049 : decode cL_law 2049 = .ok (.iconst 1, 1) := dgs daL_law_1937 dbL_law_1937 77 112 rfl
theorem dL_law_2050 : decode cL_law 2050 = .ok (.iadd, 1) := dgs daL_law_1937 dbL_law_1937 78 113 rfl
theorem dL_law_2051 : decode cL_law 2051 = .ok (.iaload, 1) := dgs daL_law_1937 dbL_law_1937 79 114 rfl
def dsL_law_2052 : ByteArray := ⟨#[182, 1, 96, 54, 7, 167, 3, 99, 43, 42, 21, 5, 4, 96, 46, 45, 184, 1, 97, 54, 6, 44, 42, 21, 5, 4, 96, 46, 182, 1, 99, 54, 7, 167, 3, 71, 43, 42, 21, 5, 4, 96, 46, 42, 21, 5, 5, 96, 46, 45, 184, 1, 100, 54, 6, 44, 42, 21, 5, 4, 96, 46, 42, 21, 5, 5, 96, 46, 182, 1, 102, 54, 7, 167, 3, 31, 43, 42, 21, 5, 4, 96, 46, 45, 184, 1, 103, 54, 6, 44, 42, 21, 5, 4, 96, 46, 182, 1, 105, 54, 7, 167, 3, 3, 43, 42, 21, 5, 4, 96, 46, 42, 21, 5, 5, 96, 46, 42, 21, 5]⟩
theorem daL_law_2052 : agB cL_law dsL_law_2052 2052 := agB_of (n := 120) (by decide +kernel)
def dlL_law_2052 : List (Nat × Instr × Nat) := [(0, .invokevirtual 352, 3), (3, .istore 7, 2), (5, .goto 867, 3), (8, .aload_n 1, 1), (9, .aload_n 0, 1), (10, .iload 5, 2), (12, .iconst 1, 1), (13, .iadd, 1), (14, .iaload, 1), (15, .aload_n 3, 1), (16, .invokestatic 353, 3), (19, .istore 6, 2), (21, .aload_n 2, 1), (22, .aload_n 0, 1), (23, .iload 5, 2), (25, .iconst 1, 1), (26, .iadd, 1), (27, .iaload, 1), (28, .invokevirtual 355, 3), (31, .istore 7, 2), (33, .goto 839, 3), (36, .aload_n 1, 1), (37, .aload_n 0, 1), (38, .iload 5, 2), (40, .iconst 1, 1), (41, .iadd, 1), (42, .iaload, 1), (43, .aload_n 0, 1), (44, .iload 5, 2), (46, .iconst 2, 1), (47, .iadd, 1), (48, .iaload, 1), (49, .aload_n 3, 1), (50, .invokestatic 356, 3), (53, .istore 6, 2), (55, .aload_n 2, 1), (56, .aload_n 0, 1), (57, .iload 5, 2), (59, .iconst 1, 1), (60, .iadd, 1), (61, .iaload, 1), (62, .aload_n 0, 1), (63, .iload 5, 2), (65, .iconst 2, 1), (66, .iadd, 1), (67, .iaload, 1), (68, .invokevirtual 358, 3), (71, .istore 7, 2), (73, .goto 799, 3), (76, .aload_n 1, 1), (77, .aload_n 0, 1), (78, .iload 5, 2), (80, .iconst 1, 1), (81, .iadd, 1), (82, .iaload, 1), (83, .aload_n 3, 1), (84, .invokestatic 359, 3), (87, .istore 6, 2), (89, .aload_n 2, 1), (90, .aload_n 0, 1), (91, .iload 5, 2), (93, .iconst 1, 1), (94, .iadd, 1), (95, .iaload, 1), (96, .invokevirtual 361, 3), (99, .istore 7, 2), (101, .goto 771, 3), (104, .aload_n 1, 1), (105, .aload_n 0, 1), (106, .iload 5, 2), (108, .iconst 1, 1), (109, .iadd, 1), (110, .iaload, 1), (111, .aload_n 0, 1), (112, .iload 5, 2), (114, .iconst 2, 1), (115, .iadd, 1), (116, .iaload, 1), (117, .aload_n 0, 1), (118, .iload 5, 2)]
theorem dbL_law_2052 : ∀ z ∈ dlL_law_2052, decode dsL_law_2052 z.1 = Except.ok z.2 ∧ okop dsL_law_2052 z.1 = true := by decide +kernel
theorem dL_law_2052 : decode cL_law 2052 = .ok (.invokevirtual 352, 3) := dgs daL_law_2052 dbL_law_2052 0 0 rfl
theorem dL_law_2055 : decode cL_law 2055 = .ok (.istore 7, 2) := dgs daL_law_2052 dbL_law_2052 1 3 rfl
theorem dL_law_2057 : decode cL_law 2057 = .ok (.goto 867, 3) := dgs daL_law_2052 dbL_law_2052 2 5 rfl
theorem dL_law_2060 : decode cL_law 2060 = .ok (.aload_n 1, 1) := dgs daL_law_2052 dbL_law_2052 3 8 rfl
theorem dL_law_2061 : decode cL_law 2061 = .ok (.aload_n 0, 1) := dgs daL_law_2052 dbL_law_2052 4 9 rfl
theorem dL_law_2062 : decode cL_law 2062 = .ok (.iload 5, 2) := dgs daL_law_2052 dbL_law_2052 5 10 rfl
theorem dL_law_2064 : decode cL_law 2064 = .ok (.iconst 1, 1) := dgs daL_law_2052 dbL_law_2052 6 12 rfl
theorem dL_law_2065 : decode cL_law 2065 = .ok (.iadd, 1) := dgs daL_law_2052 dbL_law_2052 7 13 rfl
theorem dL_law_2066 : decode cL_law 2066 = .ok (.iaload, 1) := dgs daL_law_2052 dbL_law_2052 8 14 rfl
theorem dL_law_2067 : decode cL_law 2067 = .ok (.aload_n 3, 1) := dgs daL_law_2052 dbL_law_2052 9 15 rfl
theorem dL_law_2068 : decode cL_law 2068 = .ok (.invokestatic 353, 3) := dgs daL_law_2052 dbL_law_2052 10 16 rfl
theorem dL_law_2071 : decode cL_law 2071 = .ok (.istore 6, 2) := dgs daL_law_2052 dbL_law_2052 11 19 rfl
theorem dL_law_2073 : decode cL_law 2073 = .ok (.aload_n 2, 1) := dgs daL_law_2052 dbL_law_2052 12 21 rfl
theorem dL_law_2074 : decode cL_law 2074 = .ok (.aload_n 0, 1) := dgs daL_law_2052 dbL_law_2052 13 22 rfl
theorem dL_law_2075 : decode cL_law 2075 = .ok (.iload 5, 2) := dgs daL_law_2052 dbL_law_2052 14 23 rfl
theorem dL_law_2077 : decode cL_law 2077 = .ok (.iconst 1, 1) := dgs daL_law_2052 dbL_law_2052 15 25 rfl
theorem dL_law_2078 : decode cL_law 2078 = .ok (.iadd, 1) := dgs daL_law_2052 dbL_law_2052 16 26 rfl
theorem dL_law_2079 : decode cL_law 2079 = .ok (.iaload, 1) := dgs daL_law_2052 dbL_law_2052 17 27 rfl
theorem dL_law_2080 : decode cL_law 2080 = .ok (.invokevirtual 355, 3) := dgs daL_law_2052 dbL_law_2052 18 28 rfl
theorem dL_law_2083 : decode cL_law 2083 = .ok (.istore 7, 2) := dgs daL_law_2052 dbL_law_2052 19 31 rfl
theorem dL_law_2085 : decode cL_law 2085 = .ok (.goto 839, 3) := dgs daL_law_2052 dbL_law_2052 20 33 rfl
theorem dL_law_2088 : decode cL_law 2088 = .ok (.aload_n 1, 1) := dgs daL_law_2052 dbL_law_2052 21 36 rfl
theorem dL_law_2089 : decode cL_law 2089 = .ok (.aload_n 0, 1) := dgs daL_law_2052 dbL_law_2052 22 37 rfl
theorem dL_law_2090 : decode cL_law 2090 = .ok (.iload 5, 2) := dgs daL_law_2052 dbL_law_2052 23 38 rfl
theorem dL_law_2092 : decode cL_law 2092 = .ok (.iconst 1, 1) := dgs daL_law_2052 dbL_law_2052 24 40 rfl
theorem dL_law_2093 : decode cL_law 2093 = .ok (.iadd, 1) := dgs daL_law_2052 dbL_law_2052 25 41 rfl
theorem dL_law_2094 : decode cL_law 2094 = .ok (.iaload, 1) := dgs daL_law_2052 dbL_law_2052 26 42 rfl
theorem dL_law_2095 : decode cL_law 2095 = .ok (.aload_n 0, 1) := dgs daL_law_2052 dbL_law_2052 27 43 rfl
theorem dL_law_2096 : decode cL_law 2096 = .ok (.iload 5, 2) := dgs daL_law_2052 dbL_law_2052 28 44 rfl
theorem dL_law_2098 : decode cL_law 2098 = .ok (.iconst 2, 1) := dgs daL_law_2052 dbL_law_2052 29 46 rfl
theorem dL_law_2099 : decode cL_law 2099 = .ok (.iadd, 1) := dgs daL_law_2052 dbL_law_2052 30 47 rfl
theorem dL_law_2100 : decode cL_law 2100 = .ok (.iaload, 1) := dgs daL_law_2052 dbL_law_2052 31 48 rfl
theorem dL_law_2101 : decode cL_law 2101 = .ok (.aload_n 3, 1) := dgs daL_law_2052 dbL_law_2052 32 49 rfl
theorem dL_law_2102 : decode cL_law 2102 = .ok (.invokestatic 356, 3) := dgs daL_law_2052 dbL_law_2052 33 50 rfl
theorem dL_law_2105 : decode cL_law 2105 = .ok (.istore 6, 2) := dgs daL_law_2052 dbL_law_2052 34 53 rfl
theorem dL_law_2107 : decode cL_law 2107 = .ok (.aload_n 2, 1) := dgs daL_law_2052 dbL_law_2052 35 55 rfl
theorem dL_law_2108 : decode cL_law 2108 = .ok (.aload_n 0, 1) := dgs daL_law_2052 dbL_law_2052 36 56 rfl
theorem dL_law_2109 : decode cL_law 2109 = .ok (.iload 5, 2) := dgs daL_law_2052 dbL_law_2052 37 57 rfl
theorem dL_law_2111 : decode cL_law 2111 = .ok (.iconst 1, 1) := dgs daL_law_2052 dbL_law_2052 38 59 rfl
theorem dL_law_2112 : decode cL_law 2112 = .ok (.iadd, 1) := dgs daL_law_2052 dbL_law_2052 39 60 rfl
theorem dL_law_2113 : decode cL_law 2113 = .ok (.iaload, 1) := dgs daL_law_2052 dbL_law_2052 40 61 rfl
theorem dL_law_2114 : decode cL_law 2114 = .ok (.aload_n 0, 1) := dgs daL_law_2052 dbL_law_2052 41 62 rfl
theorem dL_law_2115 : decode cL_law 2115 = .ok (.iload 5, 2) := dgs daL_law_2052 dbL_law_2052 42 63 rfl
theorem dL_law_2117 : decode cL_law 2117 = .ok (.iconst 2, 1) := dgs daL_law_2052 dbL_law_2052 43 65 rfl
theorem dL_law_2118 : decode cL_law 2118 = .ok (.iadd, 1) := dgs daL_law_2052 dbL_law_2052 44 66 rfl
theorem dL_law_2119 : decode cL_law 2119 = .ok (.iaload, 1) := dgs daL_law_2052 dbL_law_2052 45 67 rfl
theorem dL_law_2120 : decode cL_law 2120 = .ok (.invokevirtual 358, 3) := dgs daL_law_2052 dbL_law_2052 46 68 rfl
theorem dL_law_2123 : decode cL_law 2123 = .ok (.istore 7, 2) := dgs daL_law_2052 dbL_law_2052 47 71 rfl
theorem dL_law_2125 : decode cL_law 2125 = .ok (.goto 799, 3) := dgs daL_law_2052 dbL_law_2052 48 73 rfl
theorem dL_law_2128 : decode cL_law 2128 = .ok (.aload_n 1, 1) := dgs daL_law_2052 dbL_law_2052 49 76 rfl
theorem dL_law_2129 : decode cL_law 2129 = .ok (.aload_n 0, 1) := dgs daL_law_2052 dbL_law_2052 50 77 rfl
theorem dL_law_2130 : decode cL_law 2130 = .ok (.iload 5, 2) := dgs daL_law_2052 dbL_law_2052 51 78 rfl
theorem dL_law_2132 : decode cL_law 2132 = .ok (.iconst 1, 1) := dgs daL_law_2052 dbL_law_2052 52 80 rfl
theorem dL_law_2133 : decode cL_law 2133 = .ok (.iadd, 1) := dgs daL_law_2052 dbL_law_2052 53 81 rfl
theorem dL_law_2134 : decode cL_law 2134 = .ok (.iaload, 1) := dgs daL_law_2052 dbL_law_2052 54 82 rfl
theorem dL_law_2135 : decode cL_law 2135 = .ok (.aload_n 3, 1) := dgs daL_law_2052 dbL_law_2052 55 83 rfl
theorem dL_law_2136 : decode cL_law 2136 = .ok (.invokestatic 359, 3) := dgs daL_law_2052 dbL_law_2052 56 84 rfl
theorem dL_law_2139 : decode cL_law 2139 = .ok (.istore 6, 2) := dgs daL_law_2052 dbL_law_2052 57 87 rfl
theorem dL_law_2141 : decode cL_law 2141 = .ok (.aload_n 2, 1) := dgs daL_law_2052 dbL_law_2052 58 89 rfl
theorem dL_law_2142 : decode cL_law 2142 = .ok (.aload_n 0, 1) := dgs daL_law_2052 dbL_law_2052 59 90 rfl
theorem dL_law_2143 : decode cL_law 2143 = .ok (.iload 5, 2) := dgs daL_law_2052 dbL_law_2052 60 91 rfl
theorem dL_law_2145 : decode cL_law 2145 = .ok (.iconst 1, 1) := dgs daL_law_2052 dbL_law_2052 61 93 rfl
theorem dL_law_2146 : decode cL_law 2146 = .ok (.iadd, 1) := dgs daL_law_2052 dbL_law_2052 62 94 rfl
theorem dL_law_2147 : decode cL_law 2147 = .ok (.iaload, 1) := dgs daL_law_2052 dbL_law_2052 63 95 rfl
theorem dL_law_2148 : decode cL_law 2148 = .ok (.invokevirtual 361, 3) := dgs daL_law_2052 dbL_law_2052 64 96 rfl
theorem dL_law_2151 : decode cL_law 2151 = .ok (.istore 7, 2) := dgs daL_law_2052 dbL_law_2052 65 99 rfl
theorem dL_law_2153 : decode cL_law 2153 = .ok (.goto 771, 3) := dgs daL_law_2052 dbL_law_2052 66 101 rfl
theorem dL_law_2156 : decode cL_law 2156 = .ok (.aload_n 1, 1) := dgs daL_law_2052 dbL_law_2052 67 104 rfl
theorem dL_law_2157 : decode cL_law 2157 = .ok (.aload_n 0, 1) := dgs daL_law_2052 dbL_law_2052 68 105 rfl
theorem dL_law_2158 : decode cL_law 2158 = .ok (.iload 5, 2) := dgs daL_law_2052 dbL_law_2052 69 106 rfl
theorem dL_law_2160 : decode cL_law 2160 = .ok (.iconst 1, 1) := dgs daL_law_2052 dbL_law_2052 70 108 rfl
theorem dL_law_2161 : decode cL_law 2161 = .ok (.iadd, 1) := dgs daL_law_2052 dbL_law_2052 71 109 rfl
theorem dL_law_2162 : decode cL_law 2162 = .ok (.iaload, 1) := dgs daL_law_2052 dbL_law_2052 72 110 rfl
theorem dL_law_2163 : decode cL_law 2163 = .ok (.aload_n 0, 1) := dgs daL_law_2052 dbL_law_2052 73 111 rfl
theorem dL_law_2164 : decode cL_law 2164 = .ok (.iload 5, 2) := dgs daL_law_2052 dbL_law_2052 74 112 rfl
theorem dL_law_2166 : decode cL_law 2166 = .ok (.iconst 2, 1) := dgs daL_law_2052 dbL_law_2052 75 114 rfl
theorem dL_law_2167 : decode cL_law 2167 = .ok (.iadd, 1) := dgs daL_law_2052 dbL_law_2052 76 115 rfl
theorem dL_law_2168 : decode cL_law 2168 = .ok (.iaload, 1) := dgs daL_law_2052 dbL_law_2052 77 116 rfl
theorem dL_law_2169 : decode cL_law 2169 = .ok (.aload_n 0, 1) := dgs daL_law_2052 dbL_law_2052 78 117 rfl
theorem dL_law_2170 : decode cL_law 2170 = .ok (.iload 5, 2) := dgs daL_law_2052 dbL_law_2052 79 118 rfl
def dsL_law_2172 : ByteArray := ⟨#[6, 96, 46, 45, 184, 1, 106, 54, 6, 44, 42, 21, 5, 4, 96, 46, 42, 21, 5, 5, 96, 46, 42, 21, 5, 6, 96, 46, 182, 1, 108, 54, 7, 167, 2, 207, 43, 42, 21, 5, 4, 96, 46, 42, 21, 5, 5, 96, 46, 45, 184, 1, 109, 54, 6, 44, 42, 21, 5, 4, 96, 46, 42, 21, 5, 5, 96, 46, 182, 1, 111, 54, 7, 167, 2, 167, 43, 42, 21, 5, 4, 96, 46, 42, 21, 5, 5, 96, 46, 42, 21, 5, 6, 96, 46, 45, 184, 1, 112, 54, 6, 44, 42, 21, 5, 4, 96, 46, 42, 21, 5]⟩
theorem daL_law_2172 : agB cL_law dsL_law_2172 2172 := agB_of (n := 111) (by decide +kernel)
def dlL_law_2172 : List (Nat × Instr × Nat) := [(0, .iconst 3, 1), (1, .iadd, 1), (2, .iaload, 1), (3, .aload_n 3, 1), (4, .invokestatic 362, 3), (7, .istore 6, 2), (9, .aload_n 2, 1), (10, .aload_n 0, 1), (11, .iload 5, 2), (13, .iconst 1, 1), (14, .iadd, 1), (15, .iaload, 1), (16, .aload_n 0, 1), (17, .iload 5, 2), (19, .iconst 2, 1), (20, .iadd, 1), (21, .iaload, 1), (22, .aload_n 0, 1), (23, .iload 5, 2), (25, .iconst 3, 1), (26, .iadd, 1), (27, .iaload, 1), (28, .invokevirtual 364, 3), (31, .istore 7, 2), (33, .goto 719, 3), (36, .aload_n 1, 1), (37, .aload_n 0, 1), (38, .iload 5, 2), (40, .iconst 1, 1), (41, .iadd, 1), (42, .iaload, 1), (43, .aload_n 0, 1), (44, .iload 5, 2), (46, .iconst 2, 1), (47, .iadd, 1), (48, .iaload, 1), (49, .aload_n 3, 1), (50, .invokestatic 365, 3), (53, .istore 6, 2), (55, .aload_n 2, 1), (56, .aload_n 0, 1), (57, .iload 5, 2), (59, .iconst 1, 1), (60, .iadd, 1), (61, .iaload, 1), (62, .aload_n 0, 1), (63, .iload 5, 2), (65, .iconst 2, 1), (66, .iadd, 1), (67, .iaload, 1), (68, .invokevirtual 367, 3), (71, .istore 7, 2), (73, .goto 679, 3), (76, .aload_n 1, 1), (77, .aload_n 0, 1), (78, .iload 5, 2), (80, .iconst 1, 1), (81, .iadd, 1), (82, .iaload, 1), (83, .aload_n 0, 1), (84, .iload 5, 2), (86, .iconst 2, 1), (87, .iadd, 1), (88, .iaload, 1), (89, .aload_n 0, 1), (90, .iload 5, 2), (92, .iconst 3, 1), (93, .iadd, 1), (94, .iaload, 1), (95, .aload_n 3, 1), (96, .invokestatic 368, 3), (99, .istore 6, 2), (101, .aload_n 2, 1), (102, .aload_n 0, 1), (103, .iload 5, 2), (105, .iconst 1, 1), (106, .iadd, 1), (107, .iaload, 1), (108, .aload_n 0, 1), (109, .iload 5, 2)]
theorem dbL_law_2172 : ∀ z ∈ dlL_law_2172, decode dsL_law_2172 z.1 = Except.ok z.2 ∧ okop dsL_law_2172 z.1 = true := by decide +kernel
theorem dL_law_2172 : decode cL_law 2172 = .ok (.iconst 3, 1) := dgs daL_law_2172 dbL_law_2172 0 0 rfl
theorem dL_law_2173 : decode cL_law 2173 = .ok (.iadd, 1) := dgs daL_law_2172 dbL_law_2172 1 1 rfl
theorem dL_law_2174 : decode cL_law 2174 = .ok (.iaload, 1) := dgs daL_law_2172 dbL_law_2172 2 2 rfl
theorem dL_law_2175 : decode cL_law 2175 = .ok (.aload_n 3, 1) := dgs daL_law_2172 dbL_law_2172 3 3 rfl
theorem dL_law_2176 : decode cL_law 2176 = .ok (.invokestatic 362, 3) := dgs daL_law_2172 dbL_law_2172 4 4 rfl
theorem dL_law_2179 : decode cL_law 2179 = .ok (.istore 6, 2) := dgs daL_law_2172 dbL_law_2172 5 7 rfl
theorem dL_law_2181 : decode cL_law 2181 = .ok (.aload_n 2, 1) := dgs daL_law_2172 dbL_law_2172 6 9 rfl
theorem dL_law_2182 : decode cL_law 2182 = .ok (.aload_n 0, 1) := dgs daL_law_2172 dbL_law_2172 7 10 rfl
theorem dL_law_2183 : decode cL_law 2183 = .ok (.iload 5, 2) := dgs daL_law_2172 dbL_law_2172 8 11 rfl
theorem dL_law_2185 : decode cL_law 2185 = .ok (.iconst 1, 1) := dgs daL_law_2172 dbL_law_2172 9 13 rfl
theorem dL_law_2186 : decode cL_law 2186 = .ok (.iadd, 1) := dgs daL_law_2172 dbL_law_2172 10 14 rfl
theorem dL_law_2187 : decode cL_law 2187 = .ok (.iaload, 1) := dgs daL_law_2172 dbL_law_2172 11 15 rfl
theorem dL_law_2188 : decode cL_law 2188 = .ok (.aload_n 0, 1) := dgs daL_law_2172 dbL_law_2172 12 16 rfl
theorem dL_law_2189 : decode cL_law 2189 = .ok (.iload 5, 2) := dgs daL_law_2172 dbL_law_2172 13 17 rfl
theorem dL_law_2191 : decode cL_law 2191 = .ok (.iconst 2, 1) := dgs daL_law_2172 dbL_law_2172 14 19 rfl
theorem dL_law_2192 : decode cL_law 2192 = .ok (.iadd, 1) := dgs daL_law_2172 dbL_law_2172 15 20 rfl
theorem dL_law_2193 : decode cL_law 2193 = .ok (.iaload, 1) := dgs daL_law_2172 dbL_law_2172 16 21 rfl
theorem dL_law_2194 : decode cL_law 2194 = .ok (.aload_n 0, 1) := dgs daL_law_2172 dbL_law_2172 17 22 rfl
theorem dL_law_2195 : decode cL_law 2195 = .ok (.iload 5, 2) := dgs daL_law_2172 dbL_law_2172 18 23 rfl
theorem dL_law_2197 : decode cL_law 2197 = .ok (.iconst 3, 1) := dgs daL_law_2172 dbL_law_2172 19 25 rfl
theorem dL_law_2198 : decode cL_law 2198 = .ok (.iadd, 1) := dgs daL_law_2172 dbL_law_2172 20 26 rfl
theorem dL_law_2199 : decode cL_law 2199 = .ok (.iaload, 1) := dgs daL_law_2172 dbL_law_2172 21 27 rfl
theorem dL_law_2200 : decode cL_law 2200 = .ok (.invokevirtual 364, 3) := dgs daL_law_2172 dbL_law_2172 22 28 rfl
theorem dL_law_2203 : decode cL_law 2203 = .ok (.istore 7, 2) := dgs daL_law_2172 dbL_law_2172 23 31 rfl
theorem dL_law_2205 : decode cL_law 2205 = .ok (.goto 719, 3) := dgs daL_law_2172 dbL_law_2172 24 33 rfl
theorem dL_law_2208 : decode cL_law 2208 = .ok (.aload_n 1, 1) := dgs daL_law_2172 dbL_law_2172 25 36 rfl
theorem dL_law_2209 : decode cL_law 2209 = .ok (.aload_n 0, 1) := dgs daL_law_2172 dbL_law_2172 26 37 rfl
theorem dL_law_2210 : decode cL_law 2210 = .ok (.iload 5, 2) := dgs daL_law_2172 dbL_law_2172 27 38 rfl
theorem dL_law_2212 : decode cL_law 2212 = .ok (.iconst 1, 1) := dgs daL_law_2172 dbL_law_2172 28 40 rfl
theorem dL_law_2213 : decode cL_law 2213 = .ok (.iadd, 1) := dgs daL_law_2172 dbL_law_2172 29 41 rfl
theorem dL_law_2214 : decode cL_law 2214 = .ok (.iaload, 1) := dgs daL_law_2172 dbL_law_2172 30 42 rfl
theorem dL_law_2215 : decode cL_law 2215 = .ok (.aload_n 0, 1) := dgs daL_law_2172 dbL_law_2172 31 43 rfl
theorem dL_law_2216 : decode cL_law 2216 = .ok (.iload 5, 2) := dgs daL_law_2172 dbL_law_2172 32 44 rfl
theorem dL_law_2218 : decode cL_law 2218 = .ok (.iconst 2, 1) := dgs daL_law_2172 dbL_law_2172 33 46 rfl
theorem dL_law_2219 : decode cL_law 2219 = .ok (.iadd, 1) := dgs daL_law_2172 dbL_law_2172 34 47 rfl
theorem dL_law_2220 : decode cL_law 2220 = .ok (.iaload, 1) := dgs daL_law_2172 dbL_law_2172 35 48 rfl
theorem dL_law_2221 : decode cL_law 2221 = .ok (.aload_n 3, 1) := dgs daL_law_2172 dbL_law_2172 36 49 rfl
theorem dL_law_2222 : decode cL_law 2222 = .ok (.invokestatic 365, 3) := dgs daL_law_2172 dbL_law_2172 37 50 rfl
theorem dL_law_2225 : decode cL_law 2225 = .ok (.istore 6, 2) := dgs daL_law_2172 dbL_law_2172 38 53 rfl
theorem dL_law_2227 : decode cL_law 2227 = .ok (.aload_n 2, 1) := dgs daL_law_2172 dbL_law_2172 39 55 rfl
theorem dL_law_2228 : decode cL_law 2228 = .ok (.aload_n 0, 1) := dgs daL_law_2172 dbL_law_2172 40 56 rfl
theorem dL_law_2229 : decode cL_law 2229 = .ok (.iload 5, 2) := dgs daL_law_2172 dbL_law_2172 41 57 rfl
theorem dL_law_2231 : decode cL_law 2231 = .ok (.iconst 1, 1) := dgs daL_law_2172 dbL_law_2172 42 59 rfl
theorem dL_law_2232 : decode cL_law 2232 = .ok (.iadd, 1) := dgs daL_law_2172 dbL_law_2172 43 60 rfl
theorem dL_law_2233 : decode cL_law 2233 = .ok (.iaload, 1) := dgs daL_law_2172 dbL_law_2172 44 61 rfl
theorem dL_law_2234 : decode cL_law 2234 = .ok (.aload_n 0, 1) := dgs daL_law_2172 dbL_law_2172 45 62 rfl
theorem dL_law_2235 : decode cL_law 2235 = .ok (.iload 5, 2) := dgs daL_law_2172 dbL_law_2172 46 63 rfl
theorem dL_law_2237 : decode cL_law 2237 = .ok (.iconst 2, 1) := dgs daL_law_2172 dbL_law_2172 47 65 rfl
theorem dL_law_2238 : decode cL_law 2238 = .ok (.iadd, 1) := dgs daL_law_2172 dbL_law_2172 48 66 rfl
theorem dL_law_2239 : decode cL_law 2239 = .ok (.iaload, 1) := dgs daL_law_2172 dbL_law_2172 49 67 rfl
theorem dL_law_2240 : decode cL_law 2240 = .ok (.invokevirtual 367, 3) := dgs daL_law_2172 dbL_law_2172 50 68 rfl
theorem dL_law_2243 : decode cL_law 2243 = .ok (.istore 7, 2) := dgs daL_law_2172 dbL_law_2172 51 71 rfl
theorem dL_law_2245 : decode cL_law 2245 = .ok (.goto 679, 3) := dgs daL_law_2172 dbL_law_2172 52 73 rfl
theorem dL_law_2248 : decode cL_law 2248 = .ok (.aload_n 1, 1) := dgs daL_law_2172 dbL_law_2172 53 76 rfl
theorem dL_law_2249 : decode cL_law 2249 = .ok (.aload_n 0, 1) := dgs daL_law_2172 dbL_law_2172 54 77 rfl
theorem dL_law_2250 : decode cL_law 2250 = .ok (.iload 5, 2) := dgs daL_law_2172 dbL_law_2172 55 78 rfl
theorem dL_law_2252 : decode cL_law 2252 = .ok (.iconst 1, 1) := dgs daL_law_2172 dbL_law_2172 56 80 rfl
theorem dL_law_2253 : decode cL_law 2253 = .ok (.iadd, 1) := dgs daL_law_2172 dbL_law_2172 57 81 rfl
theorem dL_law_2254 : decode cL_law 2254 = .ok (.iaload, 1) := dgs daL_law_2172 dbL_law_2172 58 82 rfl
theorem dL_law_2255 : decode cL_law 2255 = .ok (.aload_n 0, 1) := dgs daL_law_2172 dbL_law_2172 59 83 rfl
theorem dL_law_2256 : decode cL_law 2256 = .ok (.iload 5, 2) := dgs daL_law_2172 dbL_law_2172 60 84 rfl
theorem dL_law_2258 : decode cL_law 2258 = .ok (.iconst 2, 1) := dgs daL_law_2172 dbL_law_2172 61 86 rfl
theorem dL_law_2259 : decode cL_law 2259 = .ok (.iadd, 1) := dgs daL_law_2172 dbL_law_2172 62 87 rfl
theorem dL_law_2260 : decode cL_law 2260 = .ok (.iaload, 1) := dgs daL_law_2172 dbL_law_2172 63 88 rfl
theorem dL_law_2261 : decode cL_law 2261 = .ok (.aload_n 0, 1) := dgs daL_law_2172 dbL_law_2172 64 89 rfl
theorem dL_law_2262 : decode cL_law 2262 = .ok (.iload 5, 2) := dgs daL_law_2172 dbL_law_2172 65 90 rfl
theorem dL_law_2264 : decode cL_law 2264 = .ok (.iconst 3, 1) := dgs daL_law_2172 dbL_law_2172 66 92 rfl
theorem dL_law_2265 : decode cL_law 2265 = .ok (.iadd, 1) := dgs daL_law_2172 dbL_law_2172 67 93 rfl
theorem dL_law_2266 : decode cL_law 2266 = .ok (.iaload, 1) := dgs daL_law_2172 dbL_law_2172 68 94 rfl
theorem dL_law_2267 : decode cL_law 2267 = .ok (.aload_n 3, 1) := dgs daL_law_2172 dbL_law_2172 69 95 rfl
theorem dL_law_2268 : decode cL_law 2268 = .ok (.invokestatic 368, 3) := dgs daL_law_2172 dbL_law_2172 70 96 rfl
theorem dL_law_2271 : decode cL_law 2271 = .ok (.istore 6, 2) := dgs daL_law_2172 dbL_law_2172 71 99 rfl
theorem dL_law_2273 : decode cL_law 2273 = .ok (.aload_n 2, 1) := dgs daL_law_2172 dbL_law_2172 72 101 rfl
theorem dL_law_2274 : decode cL_law 2274 = .ok (.aload_n 0, 1) := dgs daL_law_2172 dbL_law_2172 73 102 rfl
theorem dL_law_2275 : decode cL_law 2275 = .ok (.iload 5, 2) := dgs daL_law_2172 dbL_law_2172 74 103 rfl
theorem dL_law_2277 : decode cL_law 2277 = .ok (.iconst 1, 1) := dgs daL_law_2172 dbL_law_2172 75 105 rfl
theorem dL_law_2278 : decode cL_law 2278 = .ok (.iadd, 1) := dgs daL_law_2172 dbL_law_2172 76 106 rfl
theorem dL_law_2279 : decode cL_law 2279 = .ok (.iaload, 1) := dgs daL_law_2172 dbL_law_2172 77 107 rfl
theorem dL_law_2280 : decode cL_law 2280 = .ok (.aload_n 0, 1) := dgs daL_law_2172 dbL_law_2172 78 108 rfl
theorem dL_law_2281 : decode cL_law 2281 = .ok (.iload 5, 2) := dgs daL_law_2172 dbL_law_2172 79 109 rfl
def dsL_law_2283 : ByteArray := ⟨#[5, 96, 46, 42, 21, 5, 6, 96, 46, 182, 1, 114, 54, 7, 167, 2, 115, 43, 42, 21, 5, 4, 96, 46, 42, 21, 5, 5, 96, 46, 45, 184, 1, 115, 54, 6, 44, 42, 21, 5, 4, 96, 46, 42, 21, 5, 5, 96, 46, 182, 1, 117, 54, 7, 167, 2, 75, 43, 42, 21, 5, 4, 96, 46, 45, 184, 1, 118, 54, 6, 44, 42, 21, 5, 4, 96, 46, 182, 1, 120, 54, 7, 167, 2, 47, 43, 42, 21, 5, 4, 96, 46, 42, 21, 5, 5, 96, 46, 45, 184, 1, 121, 54, 6, 44, 42, 21, 5, 4, 96, 46, 42, 21, 5, 5]⟩
theorem daL_law_2283 : agB cL_law dsL_law_2283 2283 := agB_of (n := 115) (by decide +kernel)
def dlL_law_2283 : List (Nat × Instr × Nat) := [(0, .iconst 2, 1), (1, .iadd, 1), (2, .iaload, 1), (3, .aload_n 0, 1), (4, .iload 5, 2), (6, .iconst 3, 1), (7, .iadd, 1), (8, .iaload, 1), (9, .invokevirtual 370, 3), (12, .istore 7, 2), (14, .goto 627, 3), (17, .aload_n 1, 1), (18, .aload_n 0, 1), (19, .iload 5, 2), (21, .iconst 1, 1), (22, .iadd, 1), (23, .iaload, 1), (24, .aload_n 0, 1), (25, .iload 5, 2), (27, .iconst 2, 1), (28, .iadd, 1), (29, .iaload, 1), (30, .aload_n 3, 1), (31, .invokestatic 371, 3), (34, .istore 6, 2), (36, .aload_n 2, 1), (37, .aload_n 0, 1), (38, .iload 5, 2), (40, .iconst 1, 1), (41, .iadd, 1), (42, .iaload, 1), (43, .aload_n 0, 1), (44, .iload 5, 2), (46, .iconst 2, 1), (47, .iadd, 1), (48, .iaload, 1), (49, .invokevirtual 373, 3), (52, .istore 7, 2), (54, .goto 587, 3), (57, .aload_n 1, 1), (58, .aload_n 0, 1), (59, .iload 5, 2), (61, .iconst 1, 1), (62, .iadd, 1), (63, .iaload, 1), (64, .aload_n 3, 1), (65, .invokestatic 374, 3), (68, .istore 6, 2), (70, .aload_n 2, 1), (71, .aload_n 0, 1), (72, .iload 5, 2), (74, .iconst 1, 1), (75, .iadd, 1), (76, .iaload, 1), (77, .invokevirtual 376, 3), (80, .istore 7, 2), (82, .goto 559, 3), (85, .aload_n 1, 1), (86, .aload_n 0, 1), (87, .iload 5, 2), (89, .iconst 1, 1), (90, .iadd, 1), (91, .iaload, 1), (92, .aload_n 0, 1), (93, .iload 5, 2), (95, .iconst 2, 1), (96, .iadd, 1), (97, .iaload, 1), (98, .aload_n 3, 1), (99, .invokestatic 377, 3), (102, .istore 6, 2), (104, .aload_n 2, 1), (105, .aload_n 0, 1), (106, .iload 5, 2), (108, .iconst 1, 1), (109, .iadd, 1), (110, .iaload, 1), (111, .aload_n 0, 1), (112, .iload 5, 2), (114, .iconst 2, 1)]
theorem dbL_law_2283 : ∀ z ∈ dlL_law_2283, decode dsL_law_2283 z.1 = Except.ok z.2 ∧ okop dsL_law_2283 z.1 = true := by decide +kernel
theorem dL_law_2283 : decode cL_law 2283 = .ok (.iconst 2, 1) := dgs daL_law_2283 dbL_law_2283 0 0 rfl
theorem dL_law_2284 : decode cL_law 2284 = .ok (.iadd, 1) := dgs daL_law_2283 dbL_law_2283 1 1 rfl
theorem dL_law_2285 : decode cL_law 2285 = .ok (.iaload, 1) := dgs daL_law_2283 dbL_law_2283 2 2 rfl
theorem dL_law_2286 : decode cL_law 2286 = .ok (.aload_n 0, 1) := dgs daL_law_2283 dbL_law_2283 3 3 rfl
theorem dL_law_2287 : decode cL_law 2287 = .ok (.iload 5, 2) := dgs daL_law_2283 dbL_law_2283 4 4 rfl
theorem dL_law_2289 : decode cL_law 2289 = .ok (.iconst 3, 1) := dgs daL_law_2283 dbL_law_2283 5 6 rfl
theorem dL_law_2290 : decode cL_law 2290 = .ok (.iadd, 1) := dgs daL_law_2283 dbL_law_2283 6 7 rfl
theorem dL_law_2291 : decode cL_law 2291 = .ok (.iaload, 1) := dgs daL_law_2283 dbL_law_2283 7 8 rfl
theorem dL_law_2292 : decode cL_law 2292 = .ok (.invokevirtual 370, 3) := dgs daL_law_2283 dbL_law_2283 8 9 rfl
theorem dL_law_2295 : decode cL_law 2295 = .ok (.istore 7, 2) := dgs daL_law_2283 dbL_law_2283 9 12 rfl
theorem dL_law_2297 : decode cL_law 2297 = .ok (.goto 627, 3) := dgs daL_law_2283 dbL_law_2283 10 14 rfl
theorem dL_law_2300 : decode cL_law 2300 = .ok (.aload_n 1, 1) := dgs daL_law_2283 dbL_law_2283 11 17 rfl
theorem dL_law_2301 : decode cL_law 2301 = .ok (.aload_n 0, 1) := dgs daL_law_2283 dbL_law_2283 12 18 rfl
theorem dL_law_2302 : decode cL_law 2302 = .ok (.iload 5, 2) := dgs daL_law_2283 dbL_law_2283 13 19 rfl
theorem dL_law_2304 : decode cL_law 2304 = .ok (.iconst 1, 1) := dgs daL_law_2283 dbL_law_2283 14 21 rfl
theorem dL_law_2305 : decode cL_law 2305 = .ok (.iadd, 1) := dgs daL_law_2283 dbL_law_2283 15 22 rfl
theorem dL_law_2306 : decode cL_law 2306 = .ok (.iaload, 1) := dgs daL_law_2283 dbL_law_2283 16 23 rfl
theorem dL_law_2307 : decode cL_law 2307 = .ok (.aload_n 0, 1) := dgs daL_law_2283 dbL_law_2283 17 24 rfl
theorem dL_law_2308 : decode cL_law 2308 = .ok (.iload 5, 2) := dgs daL_law_2283 dbL_law_2283 18 25 rfl
theorem dL_law_2310 : decode cL_law 2310 = .ok (.iconst 2, 1) := dgs daL_law_2283 dbL_law_2283 19 27 rfl
theorem dL_law_2311 : decode cL_law 2311 = .ok (.iadd, 1) := dgs daL_law_2283 dbL_law_2283 20 28 rfl
theorem dL_law_2312 : decode cL_law 2312 = .ok (.iaload, 1) := dgs daL_law_2283 dbL_law_2283 21 29 rfl
theorem dL_law_2313 : decode cL_law 2313 = .ok (.aload_n 3, 1) := dgs daL_law_2283 dbL_law_2283 22 30 rfl
theorem dL_law_2314 : decode cL_law 2314 = .ok (.invokestatic 371, 3) := dgs daL_law_2283 dbL_law_2283 23 31 rfl
theorem dL_law_2317 : decode cL_law 2317 = .ok (.istore 6, 2) := dgs daL_law_2283 dbL_law_2283 24 34 rfl
theorem dL_law_2319 : decode cL_law 2319 = .ok (.aload_n 2, 1) := dgs daL_law_2283 dbL_law_2283 25 36 rfl
theorem dL_law_2320 : decode cL_law 2320 = .ok (.aload_n 0, 1) := dgs daL_law_2283 dbL_law_2283 26 37 rfl
theorem dL_law_2321 : decode cL_law 2321 = .ok (.iload 5, 2) := dgs daL_law_2283 dbL_law_2283 27 38 rfl
theorem dL_law_2323 : decode cL_law 2323 = .ok (.iconst 1, 1) := dgs daL_law_2283 dbL_law_2283 28 40 rfl
theorem dL_law_2324 : decode cL_law 2324 = .ok (.iadd, 1) := dgs daL_law_2283 dbL_law_2283 29 41 rfl
theorem dL_law_2325 : decode cL_law 2325 = .ok (.iaload, 1) := dgs daL_law_2283 dbL_law_2283 30 42 rfl
theorem dL_law_2326 : decode cL_law 2326 = .ok (.aload_n 0, 1) := dgs daL_law_2283 dbL_law_2283 31 43 rfl
theorem dL_law_2327 : decode cL_law 2327 = .ok (.iload 5, 2) := dgs daL_law_2283 dbL_law_2283 32 44 rfl
theorem dL_law_2329 : decode cL_law 2329 = .ok (.iconst 2, 1) := dgs daL_law_2283 dbL_law_2283 33 46 rfl
theorem dL_law_2330 : decode cL_law 2330 = .ok (.iadd, 1) := dgs daL_law_2283 dbL_law_2283 34 47 rfl
theorem dL_law_2331 : decode cL_law 2331 = .ok (.iaload, 1) := dgs daL_law_2283 dbL_law_2283 35 48 rfl
theorem dL_law_2332 : decode cL_law 2332 = .ok (.invokevirtual 373, 3) := dgs daL_law_2283 dbL_law_2283 36 49 rfl
theorem dL_law_2335 : decode cL_law 2335 = .ok (.istore 7, 2) := dgs daL_law_2283 dbL_law_2283 37 52 rfl
theorem dL_law_2337 : decode cL_law 2337 = .ok (.goto 587, 3) := dgs daL_law_2283 dbL_law_2283 38 54 rfl
theorem dL_law_2340 : decode cL_law 2340 = .ok (.aload_n 1, 1) := dgs daL_law_2283 dbL_law_2283 39 57 rfl
theorem dL_law_2341 : decode cL_law 2341 = .ok (.aload_n 0, 1) := dgs daL_law_2283 dbL_law_2283 40 58 rfl
theorem dL_law_2342 : decode cL_law 2342 = .ok (.iload 5, 2) := dgs daL_law_2283 dbL_law_2283 41 59 rfl
theorem dL_law_2344 : decode cL_law 2344 = .ok (.iconst 1, 1) := dgs daL_law_2283 dbL_law_2283 42 61 rfl
theorem dL_law_2345 : decode cL_law 2345 = .ok (.iadd, 1) := dgs daL_law_2283 dbL_law_2283 43 62 rfl
theorem dL_law_2346 : decode cL_law 2346 = .ok (.iaload, 1) := dgs daL_law_2283 dbL_law_2283 44 63 rfl
theorem dL_law_2347 : decode cL_law 2347 = .ok (.aload_n 3, 1) := dgs daL_law_2283 dbL_law_2283 45 64 rfl
theorem dL_law_2348 : decode cL_law 2348 = .ok (.invokestatic 374, 3) := dgs daL_law_2283 dbL_law_2283 46 65 rfl
theorem dL_law_2351 : decode cL_law 2351 = .ok (.istore 6, 2) := dgs daL_law_2283 dbL_law_2283 47 68 rfl
theorem dL_law_2353 : decode cL_law 2353 = .ok (.aload_n 2, 1) := dgs daL_law_2283 dbL_law_2283 48 70 rfl
theorem dL_law_2354 : decode cL_law 2354 = .ok (.aload_n 0, 1) := dgs daL_law_2283 dbL_law_2283 49 71 rfl
theorem dL_law_2355 : decode cL_law 2355 = .ok (.iload 5, 2) := dgs daL_law_2283 dbL_law_2283 50 72 rfl
theorem dL_law_2357 : decode cL_law 2357 = .ok (.iconst 1, 1) := dgs daL_law_2283 dbL_law_2283 51 74 rfl
theorem dL_law_2358 : decode cL_law 2358 = .ok (.iadd, 1) := dgs daL_law_2283 dbL_law_2283 52 75 rfl
theorem dL_law_2359 : decode cL_law 2359 = .ok (.iaload, 1) := dgs daL_law_2283 dbL_law_2283 53 76 rfl
theorem dL_law_2360 : decode cL_law 2360 = .ok (.invokevirtual 376, 3) := dgs daL_law_2283 dbL_law_2283 54 77 rfl
theorem dL_law_2363 : decode cL_law 2363 = .ok (.istore 7, 2) := dgs daL_law_2283 dbL_law_2283 55 80 rfl
theorem dL_law_2365 : decode cL_law 2365 = .ok (.goto 559, 3) := dgs daL_law_2283 dbL_law_2283 56 82 rfl
theorem dL_law_2368 : decode cL_law 2368 = .ok (.aload_n 1, 1) := dgs daL_law_2283 dbL_law_2283 57 85 rfl
theorem dL_law_2369 : decode cL_law 2369 = .ok (.aload_n 0, 1) := dgs daL_law_2283 dbL_law_2283 58 86 rfl
theorem dL_law_2370 : decode cL_law 2370 = .ok (.iload 5, 2) := dgs daL_law_2283 dbL_law_2283 59 87 rfl
theorem dL_law_2372 : decode cL_law 2372 = .ok (.iconst 1, 1) := dgs daL_law_2283 dbL_law_2283 60 89 rfl
theorem dL_law_2373 : decode cL_law 2373 = .ok (.iadd, 1) := dgs daL_law_2283 dbL_law_2283 61 90 rfl
theorem dL_law_2374 : decode cL_law 2374 = .ok (.iaload, 1) := dgs daL_law_2283 dbL_law_2283 62 91 rfl
theorem dL_law_2375 : decode cL_law 2375 = .ok (.aload_n 0, 1) := dgs daL_law_2283 dbL_law_2283 63 92 rfl
theorem dL_law_2376 : decode cL_law 2376 = .ok (.iload 5, 2) := dgs daL_law_2283 dbL_law_2283 64 93 rfl
theorem dL_law_2378 : decode cL_law 2378 = .ok (.iconst 2, 1) := dgs daL_law_2283 dbL_law_2283 65 95 rfl
theorem dL_law_2379 : decode cL_law 2379 = .ok (.iadd, 1) := dgs daL_law_2283 dbL_law_2283 66 96 rfl
theorem dL_law_2380 : decode cL_law 2380 = .ok (.iaload, 1) := dgs daL_law_2283 dbL_law_2283 67 97 rfl
theorem dL_law_2381 : decode cL_law 2381 = .ok (.aload_n 3, 1) := dgs daL_law_2283 dbL_law_2283 68 98 rfl
theorem dL_law_2382 : decode cL_law 2382 = .ok (.invokestatic 377, 3) := dgs daL_law_2283 dbL_law_2283 69 99 rfl
theorem dL_law_2385 : decode cL_law 2385 = .ok (.istore 6, 2) := dgs daL_law_2283 dbL_law_2283 70 102 rfl
theorem dL_law_2387 : decode cL_law 2387 = .ok (.aload_n 2, 1) := dgs daL_law_2283 dbL_law_2283 71 104 rfl
theorem dL_law_2388 : decode cL_law 2388 = .ok (.aload_n 0, 1) := dgs daL_law_2283 dbL_law_2283 72 105 rfl
theorem dL_law_2389 : decode cL_law 2389 = .ok (.iload 5, 2) := dgs daL_law_2283 dbL_law_2283 73 106 rfl
theorem dL_law_2391 : decode cL_law 2391 = .ok (.iconst 1, 1) := dgs daL_law_2283 dbL_law_2283 74 108 rfl
theorem dL_law_2392 : decode cL_law 2392 = .ok (.iadd, 1) := dgs daL_law_2283 dbL_law_2283 75 109 rfl
theorem dL_law_2393 : decode cL_law 2393 = .ok (.iaload, 1) := dgs daL_law_2283 dbL_law_2283 76 110 rfl
theorem dL_law_2394 : decode cL_law 2394 = .ok (.aload_n 0, 1) := dgs daL_law_2283 dbL_law_2283 77 111 rfl
theorem dL_law_2395 : decode cL_law 2395 = .ok (.iload 5, 2) := dgs daL_law_2283 dbL_law_2283 78 112 rfl
theorem dL_law_2397 : decode cL_law 2397 = .ok (.iconst 2, 1) := dgs daL_law_2283 dbL_law_2283 79 114 rfl
def dsL_law_2398 : ByteArray := ⟨#[96, 46, 182, 1, 123, 55, 7, 167, 2, 7, 43, 42, 21, 5, 4, 96, 46, 42, 21, 5, 5, 96, 46, 42, 21, 5, 6, 96, 46, 42, 21, 5, 7, 96, 46, 45, 184, 1, 124, 54, 6, 44, 42, 21, 5, 4, 96, 46, 42, 21, 5, 5, 96, 46, 42, 21, 5, 6, 96, 46, 42, 21, 5, 7, 96, 46, 182, 1, 126, 54, 7, 167, 1, 199, 43, 42, 21, 5, 4, 96, 46, 45, 184, 1, 127, 54, 6, 44, 42, 21, 5, 4, 96, 46, 182, 1, 129, 55, 7, 167, 1, 171, 43, 42, 21, 5, 4, 96, 46, 42, 21, 5, 5]⟩
theorem daL_law_2398 : agB cL_law dsL_law_2398 2398 := agB_of (n := 113) (by decide +kernel)
def dlL_law_2398 : List (Nat × Instr × Nat) := [(0, .iadd, 1), (1, .iaload, 1), (2, .invokevirtual 379, 3), (5, .lstore 7, 2), (7, .goto 519, 3), (10, .aload_n 1, 1), (11, .aload_n 0, 1), (12, .iload 5, 2), (14, .iconst 1, 1), (15, .iadd, 1), (16, .iaload, 1), (17, .aload_n 0, 1), (18, .iload 5, 2), (20, .iconst 2, 1), (21, .iadd, 1), (22, .iaload, 1), (23, .aload_n 0, 1), (24, .iload 5, 2), (26, .iconst 3, 1), (27, .iadd, 1), (28, .iaload, 1), (29, .aload_n 0, 1), (30, .iload 5, 2), (32, .iconst 4, 1), (33, .iadd, 1), (34, .iaload, 1), (35, .aload_n 3, 1), (36, .invokestatic 380, 3), (39, .istore 6, 2), (41, .aload_n 2, 1), (42, .aload_n 0, 1), (43, .iload 5, 2), (45, .iconst 1, 1), (46, .iadd, 1), (47, .iaload, 1), (48, .aload_n 0, 1), (49, .iload 5, 2), (51, .iconst 2, 1), (52, .iadd, 1), (53, .iaload, 1), (54, .aload_n 0, 1), (55, .iload 5, 2), (57, .iconst 3, 1), (58, .iadd, 1), (59, .iaload, 1), (60, .aload_n 0, 1), (61, .iload 5, 2), (63, .iconst 4, 1), (64, .iadd, 1), (65, .iaload, 1), (66, .invokevirtual 382, 3), (69, .istore 7, 2), (71, .goto 455, 3), (74, .aload_n 1, 1), (75, .aload_n 0, 1), (76, .iload 5, 2), (78, .iconst 1, 1), (79, .iadd, 1), (80, .iaload, 1), (81, .aload_n 3, 1), (82, .invokestatic 383, 3), (85, .istore 6, 2), (87, .aload_n 2, 1), (88, .aload_n 0, 1), (89, .iload 5, 2), (91, .iconst 1, 1), (92, .iadd, 1), (93, .iaload, 1), (94, .invokevirtual 385, 3), (97, .lstore 7, 2), (99, .goto 427, 3), (102, .aload_n 1, 1), (103, .aload_n 0, 1), (104, .iload 5, 2), (106, .iconst 1, 1), (107, .iadd, 1), (108, .iaload, 1), (109, .aload_n 0, 1), (110, .iload 5, 2), (112, .iconst 2, 1)]
theorem dbL_law_2398 : ∀ z ∈ dlL_law_2398, decode dsL_law_2398 z.1 = Except.ok z.2 ∧ okop dsL_law_2398 z.1 = true := by decide +kernel
theorem dL_law_2398 : decode cL_law 2398 = .ok (.iadd, 1) := dgs daL_law_2398 dbL_law_2398 0 0 rfl
theorem dL_law_2399 : decode cL_law 2399 = .ok (.iaload, 1) := dgs daL_law_2398 dbL_law_2398 1 1 rfl
theorem dL_law_2400 : decode cL_law 2400 = .ok (.invokevirtual 379, 3) := dgs daL_law_2398 dbL_law_2398 2 2 rfl
theorem dL_law_2403 : decode cL_law 2403 = .ok (.lstore 7, 2) := dgs daL_law_2398 dbL_law_2398 3 5 rfl
theorem dL_law_2405 : decode cL_law 2405 = .ok (.goto 519, 3) := dgs daL_law_2398 dbL_law_2398 4 7 rfl
theorem dL_law_2408 : decode cL_law 2408 = .ok (.aload_n 1, 1) := dgs daL_law_2398 dbL_law_2398 5 10 rfl
theorem dL_law_2409 : decode cL_law 2409 = .ok (.aload_n 0, 1) := dgs daL_law_2398 dbL_law_2398 6 11 rfl
theorem dL_law_2410 : decode cL_law 2410 = .ok (.iload 5, 2) := dgs daL_law_2398 dbL_law_2398 7 12 rfl
theorem dL_law_2412 : decode cL_law 2412 = .ok (.iconst 1, 1) := dgs daL_law_2398 dbL_law_2398 8 14 rfl
theorem dL_law_2413 : decode cL_law 2413 = .ok (.iadd, 1) := dgs daL_law_2398 dbL_law_2398 9 15 rfl
theorem dL_law_2414 : decode cL_law 2414 = .ok (.iaload, 1) := dgs daL_law_2398 dbL_law_2398 10 16 rfl
theorem dL_law_2415 : decode cL_law 2415 = .ok (.aload_n 0, 1) := dgs daL_law_2398 dbL_law_2398 11 17 rfl
theorem dL_law_2416 : decode cL_law 2416 = .ok (.iload 5, 2) := dgs daL_law_2398 dbL_law_2398 12 18 rfl
theorem dL_law_2418 : decode cL_law 2418 = .ok (.iconst 2, 1) := dgs daL_law_2398 dbL_law_2398 13 20 rfl
theorem dL_law_2419 : decode cL_law 2419 = .ok (.iadd, 1) := dgs daL_law_2398 dbL_law_2398 14 21 rfl
theorem dL_law_2420 : decode cL_law 2420 = .ok (.iaload, 1) := dgs daL_law_2398 dbL_law_2398 15 22 rfl
theorem dL_law_2421 : decode cL_law 2421 = .ok (.aload_n 0, 1) := dgs daL_law_2398 dbL_law_2398 16 23 rfl
theorem dL_law_2422 : decode cL_law 2422 = .ok (.iload 5, 2) := dgs daL_law_2398 dbL_law_2398 17 24 rfl
theorem dL_law_2424 : decode cL_law 2424 = .ok (.iconst 3, 1) := dgs daL_law_2398 dbL_law_2398 18 26 rfl
theorem dL_law_2425 : decode cL_law 2425 = .ok (.iadd, 1) := dgs daL_law_2398 dbL_law_2398 19 27 rfl
theorem dL_law_2426 : decode cL_law 2426 = .ok (.iaload, 1) := dgs daL_law_2398 dbL_law_2398 20 28 rfl
theorem dL_law_2427 : decode cL_law 2427 = .ok (.aload_n 0, 1) := dgs daL_law_2398 dbL_law_2398 21 29 rfl
theorem dL_law_2428 : decode cL_law 2428 = .ok (.iload 5, 2) := dgs daL_law_2398 dbL_law_2398 22 30 rfl
theorem dL_law_2430 : decode cL_law 2430 = .ok (.iconst 4, 1) := dgs daL_law_2398 dbL_law_2398 23 32 rfl
theorem dL_law_2431 : decode cL_law 2431 = .ok (.iadd, 1) := dgs daL_law_2398 dbL_law_2398 24 33 rfl
theorem dL_law_2432 : decode cL_law 2432 = .ok (.iaload, 1) := dgs daL_law_2398 dbL_law_2398 25 34 rfl
theorem dL_law_2433 : decode cL_law 2433 = .ok (.aload_n 3, 1) := dgs daL_law_2398 dbL_law_2398 26 35 rfl
theorem dL_law_2434 : decode cL_law 2434 = .ok (.invokestatic 380, 3) := dgs daL_law_2398 dbL_law_2398 27 36 rfl
theorem dL_law_2437 : decode cL_law 2437 = .ok (.istore 6, 2) := dgs daL_law_2398 dbL_law_2398 28 39 rfl
theorem dL_law_2439 : decode cL_law 2439 = .ok (.aload_n 2, 1) := dgs daL_law_2398 dbL_law_2398 29 41 rfl
theorem dL_law_2440 : decode cL_law 2440 = .ok (.aload_n 0, 1) := dgs daL_law_2398 dbL_law_2398 30 42 rfl
theorem dL_law_2441 : decode cL_law 2441 = .ok (.iload 5, 2) := dgs daL_law_2398 dbL_law_2398 31 43 rfl
theorem dL_law_2443 : decode cL_law 2443 = .ok (.iconst 1, 1) := dgs daL_law_2398 dbL_law_2398 32 45 rfl
theorem dL_law_2444 : decode cL_law 2444 = .ok (.iadd, 1) := dgs daL_law_2398 dbL_law_2398 33 46 rfl
theorem dL_law_2445 : decode cL_law 2445 = .ok (.iaload, 1) := dgs daL_law_2398 dbL_law_2398 34 47 rfl
theorem dL_law_2446 : decode cL_law 2446 = .ok (.aload_n 0, 1) := dgs daL_law_2398 dbL_law_2398 35 48 rfl
theorem dL_law_2447 : decode cL_law 2447 = .ok (.iload 5, 2) := dgs daL_law_2398 dbL_law_2398 36 49 rfl
theorem dL_law_2449 : decode cL_law 2449 = .ok (.iconst 2, 1) := dgs daL_law_2398 dbL_law_2398 37 51 rfl
theorem dL_law_2450 : decode cL_law 2450 = .ok (.iadd, 1) := dgs daL_law_2398 dbL_law_2398 38 52 rfl
theorem dL_law_2451 : decode cL_law 2451 = .ok (.iaload, 1) := dgs daL_law_2398 dbL_law_2398 39 53 rfl
theorem dL_law_2452 : decode cL_law 2452 = .ok (.aload_n 0, 1) := dgs daL_law_2398 dbL_law_2398 40 54 rfl
theorem dL_law_2453 : decode cL_law 2453 = .ok (.iload 5, 2) := dgs daL_law_2398 dbL_law_2398 41 55 rfl
theorem dL_law_2455 : decode cL_law 2455 = .ok (.iconst 3, 1) := dgs daL_law_2398 dbL_law_2398 42 57 rfl
theorem dL_law_2456 : decode cL_law 2456 = .ok (.iadd, 1) := dgs daL_law_2398 dbL_law_2398 43 58 rfl
theorem dL_law_2457 : decode cL_law 2457 = .ok (.iaload, 1) := dgs daL_law_2398 dbL_law_2398 44 59 rfl
theorem dL_law_2458 : decode cL_law 2458 = .ok (.aload_n 0, 1) := dgs daL_law_2398 dbL_law_2398 45 60 rfl
theorem dL_law_2459 : decode cL_law 2459 = .ok (.iload 5, 2) := dgs daL_law_2398 dbL_law_2398 46 61 rfl
theorem dL_law_2461 : decode cL_law 2461 = .ok (.iconst 4, 1) := dgs daL_law_2398 dbL_law_2398 47 63 rfl
theorem dL_law_2462 : decode cL_law 2462 = .ok (.iadd, 1) := dgs daL_law_2398 dbL_law_2398 48 64 rfl
theorem dL_law_2463 : decode cL_law 2463 = .ok (.iaload, 1) := dgs daL_law_2398 dbL_law_2398 49 65 rfl
theorem dL_law_2464 : decode cL_law 2464 = .ok (.invokevirtual 382, 3) := dgs daL_law_2398 dbL_law_2398 50 66 rfl
theorem dL_law_2467 : decode cL_law 2467 = .ok (.istore 7, 2) := dgs daL_law_2398 dbL_law_2398 51 69 rfl
theorem dL_law_2469 : decode cL_law 2469 = .ok (.goto 455, 3) := dgs daL_law_2398 dbL_law_2398 52 71 rfl
theorem dL_law_2472 : decode cL_law 2472 = .ok (.aload_n 1, 1) := dgs daL_law_2398 dbL_law_2398 53 74 rfl
theorem dL_law_2473 : decode cL_law 2473 = .ok (.aload_n 0, 1) := dgs daL_law_2398 dbL_law_2398 54 75 rfl
theorem dL_law_2474 : decode cL_law 2474 = .ok (.iload 5, 2) := dgs daL_law_2398 dbL_law_2398 55 76 rfl
theorem dL_law_2476 : decode cL_law 2476 = .ok (.iconst 1, 1) := dgs daL_law_2398 dbL_law_2398 56 78 rfl
theorem dL_law_2477 : decode cL_law 2477 = .ok (.iadd, 1) := dgs daL_law_2398 dbL_law_2398 57 79 rfl
theorem dL_law_2478 : decode cL_law 2478 = .ok (.iaload, 1) := dgs daL_law_2398 dbL_law_2398 58 80 rfl
theorem dL_law_2479 : decode cL_law 2479 = .ok (.aload_n 3, 1) := dgs daL_law_2398 dbL_law_2398 59 81 rfl
theorem dL_law_2480 : decode cL_law 2480 = .ok (.invokestatic 383, 3) := dgs daL_law_2398 dbL_law_2398 60 82 rfl
theorem dL_law_2483 : decode cL_law 2483 = .ok (.istore 6, 2) := dgs daL_law_2398 dbL_law_2398 61 85 rfl
theorem dL_law_2485 : decode cL_law 2485 = .ok (.aload_n 2, 1) := dgs daL_law_2398 dbL_law_2398 62 87 rfl
theorem dL_law_2486 : decode cL_law 2486 = .ok (.aload_n 0, 1) := dgs daL_law_2398 dbL_law_2398 63 88 rfl
theorem dL_law_2487 : decode cL_law 2487 = .ok (.iload 5, 2) := dgs daL_law_2398 dbL_law_2398 64 89 rfl
theorem dL_law_2489 : decode cL_law 2489 = .ok (.iconst 1, 1) := dgs daL_law_2398 dbL_law_2398 65 91 rfl
theorem dL_law_2490 : decode cL_law 2490 = .ok (.iadd, 1) := dgs daL_law_2398 dbL_law_2398 66 92 rfl
theorem dL_law_2491 : decode cL_law 2491 = .ok (.iaload, 1) := dgs daL_law_2398 dbL_law_2398 67 93 rfl
theorem dL_law_2492 : decode cL_law 2492 = .ok (.invokevirtual 385, 3) := dgs daL_law_2398 dbL_law_2398 68 94 rfl
theorem dL_law_2495 : decode cL_law 2495 = .ok (.lstore 7, 2) := dgs daL_law_2398 dbL_law_2398 69 97 rfl
theorem dL_law_2497 : decode cL_law 2497 = .ok (.goto 427, 3) := dgs daL_law_2398 dbL_law_2398 70 99 rfl
theorem dL_law_2500 : decode cL_law 2500 = .ok (.aload_n 1, 1) := dgs daL_law_2398 dbL_law_2398 71 102 rfl
theorem dL_law_2501 : decode cL_law 2501 = .ok (.aload_n 0, 1) := dgs daL_law_2398 dbL_law_2398 72 103 rfl
theorem dL_law_2502 : decode cL_law 2502 = .ok (.iload 5, 2) := dgs daL_law_2398 dbL_law_2398 73 104 rfl
theorem dL_law_2504 : decode cL_law 2504 = .ok (.iconst 1, 1) := dgs daL_law_2398 dbL_law_2398 74 106 rfl
theorem dL_law_2505 : decode cL_law 2505 = .ok (.iadd, 1) := dgs daL_law_2398 dbL_law_2398 75 107 rfl
theorem dL_law_2506 : decode cL_law 2506 = .ok (.iaload, 1) := dgs daL_law_2398 dbL_law_2398 76 108 rfl
theorem dL_law_2507 : decode cL_law 2507 = .ok (.aload_n 0, 1) := dgs daL_law_2398 dbL_law_2398 77 109 rfl
theorem dL_law_2508 : decode cL_law 2508 = .ok (.iload 5, 2) := dgs daL_law_2398 dbL_law_2398 78 110 rfl
theorem dL_law_2510 : decode cL_law 2510 = .ok (.iconst 2, 1) := dgs daL_law_2398 dbL_law_2398 79 112 rfl
def dsL_law_2511 : ByteArray := ⟨#[96, 46, 42, 21, 5, 6, 96, 46, 45, 184, 1, 130, 54, 6, 44, 42, 21, 5, 4, 96, 46, 42, 21, 5, 5, 96, 46, 42, 21, 5, 6, 96, 46, 182, 1, 132, 54, 7, 167, 1, 119, 43, 42, 21, 5, 4, 96, 46, 45, 184, 1, 133, 54, 6, 44, 42, 21, 5, 4, 96, 46, 182, 1, 135, 54, 7, 167, 1, 91, 43, 42, 21, 5, 4, 96, 46, 45, 184, 1, 136, 54, 6, 44, 42, 21, 5, 4, 96, 46, 182, 1, 138, 54, 7, 167, 1, 63, 43, 42, 21, 5, 4, 96, 46, 146, 42, 21, 5, 5, 96, 46, 45, 184, 1, 139, 54, 6]⟩
theorem daL_law_2511 : agB cL_law dsL_law_2511 2511 := agB_of (n := 117) (by decide +kernel)
def dlL_law_2511 : List (Nat × Instr × Nat) := [(0, .iadd, 1), (1, .iaload, 1), (2, .aload_n 0, 1), (3, .iload 5, 2), (5, .iconst 3, 1), (6, .iadd, 1), (7, .iaload, 1), (8, .aload_n 3, 1), (9, .invokestatic 386, 3), (12, .istore 6, 2), (14, .aload_n 2, 1), (15, .aload_n 0, 1), (16, .iload 5, 2), (18, .iconst 1, 1), (19, .iadd, 1), (20, .iaload, 1), (21, .aload_n 0, 1), (22, .iload 5, 2), (24, .iconst 2, 1), (25, .iadd, 1), (26, .iaload, 1), (27, .aload_n 0, 1), (28, .iload 5, 2), (30, .iconst 3, 1), (31, .iadd, 1), (32, .iaload, 1), (33, .invokevirtual 388, 3), (36, .istore 7, 2), (38, .goto 375, 3), (41, .aload_n 1, 1), (42, .aload_n 0, 1), (43, .iload 5, 2), (45, .iconst 1, 1), (46, .iadd, 1), (47, .iaload, 1), (48, .aload_n 3, 1), (49, .invokestatic 389, 3), (52, .istore 6, 2), (54, .aload_n 2, 1), (55, .aload_n 0, 1), (56, .iload 5, 2), (58, .iconst 1, 1), (59, .iadd, 1), (60, .iaload, 1), (61, .invokevirtual 391, 3), (64, .istore 7, 2), (66, .goto 347, 3), (69, .aload_n 1, 1), (70, .aload_n 0, 1), (71, .iload 5, 2), (73, .iconst 1, 1), (74, .iadd, 1), (75, .iaload, 1), (76, .aload_n 3, 1), (77, .invokestatic 392, 3), (80, .istore 6, 2), (82, .aload_n 2, 1), (83, .aload_n 0, 1), (84, .iload 5, 2), (86, .iconst 1, 1), (87, .iadd, 1), (88, .iaload, 1), (89, .invokevirtual 394, 3), (92, .istore 7, 2), (94, .goto 319, 3), (97, .aload_n 1, 1), (98, .aload_n 0, 1), (99, .iload 5, 2), (101, .iconst 1, 1), (102, .iadd, 1), (103, .iaload, 1), (104, .i2c, 1), (105, .aload_n 0, 1), (106, .iload 5, 2), (108, .iconst 2, 1), (109, .iadd, 1), (110, .iaload, 1), (111, .aload_n 3, 1), (112, .invokestatic 395, 3), (115, .istore 6, 2)]
theorem dbL_law_2511 : ∀ z ∈ dlL_law_2511, decode dsL_law_2511 z.1 = Except.ok z.2 ∧ okop dsL_law_2511 z.1 = true := by decide +kernel
theorem dL_law_2511 : decode cL_law 2511 = .ok (.iadd, 1) := dgs daL_law_2511 dbL_law_2511 0 0 rfl
theorem dL_law_2512 : decode cL_law 2512 = .ok (.iaload, 1) := dgs daL_law_2511 dbL_law_2511 1 1 rfl
theorem dL_law_2513 : decode cL_law 2513 = .ok (.aload_n 0, 1) := dgs daL_law_2511 dbL_law_2511 2 2 rfl
theorem dL_law_2514 : decode cL_law 2514 = .ok (.iload 5, 2) := dgs daL_law_2511 dbL_law_2511 3 3 rfl
theorem dL_law_2516 : decode cL_law 2516 = .ok (.iconst 3, 1) := dgs daL_law_2511 dbL_law_2511 4 5 rfl
theorem dL_law_2517 : decode cL_law 2517 = .ok (.iadd, 1) := dgs daL_law_2511 dbL_law_2511 5 6 rfl
theorem dL_law_2518 : decode cL_law 2518 = .ok (.iaload, 1) := dgs daL_law_2511 dbL_law_2511 6 7 rfl
theorem dL_law_2519 : decode cL_law 2519 = .ok (.aload_n 3, 1) := dgs daL_law_2511 dbL_law_2511 7 8 rfl
theorem dL_law_2520 : decode cL_law 2520 = .ok (.invokestatic 386, 3) := dgs daL_law_2511 dbL_law_2511 8 9 rfl
theorem dL_law_2523 : decode cL_law 2523 = .ok (.istore 6, 2) := dgs daL_law_2511 dbL_law_2511 9 12 rfl
theorem dL_law_2525 : decode cL_law 2525 = .ok (.aload_n 2, 1) := dgs daL_law_2511 dbL_law_2511 10 14 rfl
theorem dL_law_2526 : decode cL_law 2526 = .ok (.aload_n 0, 1) := dgs daL_law_2511 dbL_law_2511 11 15 rfl
theorem dL_law_2527 : decode cL_law 2527 = .ok (.iload 5, 2) := dgs daL_law_2511 dbL_law_2511 12 16 rfl
theorem dL_law_2529 : decode cL_law 2529 = .ok (.iconst 1, 1) := dgs daL_law_2511 dbL_law_2511 13 18 rfl
theorem dL_law_2530 : decode cL_law 2530 = .ok (.iadd, 1) := dgs daL_law_2511 dbL_law_2511 14 19 rfl
theorem dL_law_2531 : decode cL_law 2531 = .ok (.iaload, 1) := dgs daL_law_2511 dbL_law_2511 15 20 rfl
theorem dL_law_2532 : decode cL_law 2532 = .ok (.aload_n 0, 1) := dgs daL_law_2511 dbL_law_2511 16 21 rfl
theorem dL_law_2533 : decode cL_law 2533 = .ok (.iload 5, 2) := dgs daL_law_2511 dbL_law_2511 17 22 rfl
theorem dL_law_2535 : decode cL_law 2535 = .ok (.iconst 2, 1) := dgs daL_law_2511 dbL_law_2511 18 24 rfl
theorem dL_law_2536 : decode cL_law 2536 = .ok (.iadd, 1) := dgs daL_law_2511 dbL_law_2511 19 25 rfl
theorem dL_law_2537 : decode cL_law 2537 = .ok (.iaload, 1) := dgs daL_law_2511 dbL_law_2511 20 26 rfl
theorem dL_law_2538 : decode cL_law 2538 = .ok (.aload_n 0, 1) := dgs daL_law_2511 dbL_law_2511 21 27 rfl
theorem dL_law_2539 : decode cL_law 2539 = .ok (.iload 5, 2) := dgs daL_law_2511 dbL_law_2511 22 28 rfl
theorem dL_law_2541 : decode cL_law 2541 = .ok (.iconst 3, 1) := dgs daL_law_2511 dbL_law_2511 23 30 rfl
theorem dL_law_2542 : decode cL_law 2542 = .ok (.iadd, 1) := dgs daL_law_2511 dbL_law_2511 24 31 rfl
theorem dL_law_2543 : decode cL_law 2543 = .ok (.iaload, 1) := dgs daL_law_2511 dbL_law_2511 25 32 rfl
theorem dL_law_2544 : decode cL_law 2544 = .ok (.invokevirtual 388, 3) := dgs daL_law_2511 dbL_law_2511 26 33 rfl
theorem dL_law_2547 : decode cL_law 2547 = .ok (.istore 7, 2) := dgs daL_law_2511 dbL_law_2511 27 36 rfl
theorem dL_law_2549 : decode cL_law 2549 = .ok (.goto 375, 3) := dgs daL_law_2511 dbL_law_2511 28 38 rfl
theorem dL_law_2552 : decode cL_law 2552 = .ok (.aload_n 1, 1) := dgs daL_law_2511 dbL_law_2511 29 41 rfl
theorem dL_law_2553 : decode cL_law 2553 = .ok (.aload_n 0, 1) := dgs daL_law_2511 dbL_law_2511 30 42 rfl
theorem dL_law_2554 : decode cL_law 2554 = .ok (.iload 5, 2) := dgs daL_law_2511 dbL_law_2511 31 43 rfl
theorem dL_law_2556 : decode cL_law 2556 = .ok (.iconst 1, 1) := dgs daL_law_2511 dbL_law_2511 32 45 rfl
theorem dL_law_2557 : decode cL_law 2557 = .ok (.iadd, 1) := dgs daL_law_2511 dbL_law_2511 33 46 rfl
theorem dL_law_2558 : decode cL_law 2558 = .ok (.iaload, 1) := dgs daL_law_2511 dbL_law_2511 34 47 rfl
theorem dL_law_2559 : decode cL_law 2559 = .ok (.aload_n 3, 1) := dgs daL_law_2511 dbL_law_2511 35 48 rfl
theorem dL_law_2560 : decode cL_law 2560 = .ok (.invokestatic 389, 3) := dgs daL_law_2511 dbL_law_2511 36 49 rfl
theorem dL_law_2563 : decode cL_law 2563 = .ok (.istore 6, 2) := dgs daL_law_2511 dbL_law_2511 37 52 rfl
theorem dL_law_2565 : decode cL_law 2565 = .ok (.aload_n 2, 1) := dgs daL_law_2511 dbL_law_2511 38 54 rfl
theorem dL_law_2566 : decode cL_law 2566 = .ok (.aload_n 0, 1) := dgs daL_law_2511 dbL_law_2511 39 55 rfl
theorem dL_law_2567 : decode cL_law 2567 = .ok (.iload 5, 2) := dgs daL_law_2511 dbL_law_2511 40 56 rfl
theorem dL_law_2569 : decode cL_law 2569 = .ok (.iconst 1, 1) := dgs daL_law_2511 dbL_law_2511 41 58 rfl
theorem dL_law_2570 : decode cL_law 2570 = .ok (.iadd, 1) := dgs daL_law_2511 dbL_law_2511 42 59 rfl
theorem dL_law_2571 : decode cL_law 2571 = .ok (.iaload, 1) := dgs daL_law_2511 dbL_law_2511 43 60 rfl
theorem dL_law_2572 : decode cL_law 2572 = .ok (.invokevirtual 391, 3) := dgs daL_law_2511 dbL_law_2511 44 61 rfl
theorem dL_law_2575 : decode cL_law 2575 = .ok (.istore 7, 2) := dgs daL_law_2511 dbL_law_2511 45 64 rfl
theorem dL_law_2577 : decode cL_law 2577 = .ok (.goto 347, 3) := dgs daL_law_2511 dbL_law_2511 46 66 rfl
theorem dL_law_2580 : decode cL_law 2580 = .ok (.aload_n 1, 1) := dgs daL_law_2511 dbL_law_2511 47 69 rfl
theorem dL_law_2581 : decode cL_law 2581 = .ok (.aload_n 0, 1) := dgs daL_law_2511 dbL_law_2511 48 70 rfl
theorem dL_law_2582 : decode cL_law 2582 = .ok (.iload 5, 2) := dgs daL_law_2511 dbL_law_2511 49 71 rfl
theorem dL_law_2584 : decode cL_law 2584 = .ok (.iconst 1, 1) := dgs daL_law_2511 dbL_law_2511 50 73 rfl
theorem dL_law_2585 : decode cL_law 2585 = .ok (.iadd, 1) := dgs daL_law_2511 dbL_law_2511 51 74 rfl
theorem dL_law_2586 : decode cL_law 2586 = .ok (.iaload, 1) := dgs daL_law_2511 dbL_law_2511 52 75 rfl
theorem dL_law_2587 : decode cL_law 2587 = .ok (.aload_n 3, 1) := dgs daL_law_2511 dbL_law_2511 53 76 rfl
theorem dL_law_2588 : decode cL_law 2588 = .ok (.invokestatic 392, 3) := dgs daL_law_2511 dbL_law_2511 54 77 rfl
theorem dL_law_2591 : decode cL_law 2591 = .ok (.istore 6, 2) := dgs daL_law_2511 dbL_law_2511 55 80 rfl
theorem dL_law_2593 : decode cL_law 2593 = .ok (.aload_n 2, 1) := dgs daL_law_2511 dbL_law_2511 56 82 rfl
theorem dL_law_2594 : decode cL_law 2594 = .ok (.aload_n 0, 1) := dgs daL_law_2511 dbL_law_2511 57 83 rfl
theorem dL_law_2595 : decode cL_law 2595 = .ok (.iload 5, 2) := dgs daL_law_2511 dbL_law_2511 58 84 rfl
theorem dL_law_2597 : decode cL_law 2597 = .ok (.iconst 1, 1) := dgs daL_law_2511 dbL_law_2511 59 86 rfl
theorem dL_law_2598 : decode cL_law 2598 = .ok (.iadd, 1) := dgs daL_law_2511 dbL_law_2511 60 87 rfl
theorem dL_law_2599 : decode cL_law 2599 = .ok (.iaload, 1) := dgs daL_law_2511 dbL_law_2511 61 88 rfl
theorem dL_law_2600 : decode cL_law 2600 = .ok (.invokevirtual 394, 3) := dgs daL_law_2511 dbL_law_2511 62 89 rfl
theorem dL_law_2603 : decode cL_law 2603 = .ok (.istore 7, 2) := dgs daL_law_2511 dbL_law_2511 63 92 rfl
theorem dL_law_2605 : decode cL_law 2605 = .ok (.goto 319, 3) := dgs daL_law_2511 dbL_law_2511 64 94 rfl
theorem dL_law_2608 : decode cL_law 2608 = .ok (.aload_n 1, 1) := dgs daL_law_2511 dbL_law_2511 65 97 rfl
theorem dL_law_2609 : decode cL_law 2609 = .ok (.aload_n 0, 1) := dgs daL_law_2511 dbL_law_2511 66 98 rfl
theorem dL_law_2610 : decode cL_law 2610 = .ok (.iload 5, 2) := dgs daL_law_2511 dbL_law_2511 67 99 rfl
theorem dL_law_2612 : decode cL_law 2612 = .ok (.iconst 1, 1) := dgs daL_law_2511 dbL_law_2511 68 101 rfl
theorem dL_law_2613 : decode cL_law 2613 = .ok (.iadd, 1) := dgs daL_law_2511 dbL_law_2511 69 102 rfl
theorem dL_law_2614 : decode cL_law 2614 = .ok (.iaload, 1) := dgs daL_law_2511 dbL_law_2511 70 103 rfl
theorem dL_law_2615 : decode cL_law 2615 = .ok (.i2c, 1) := dgs daL_law_2511 dbL_law_2511 71 104 rfl
theorem dL_law_2616 : decode cL_law 2616 = .ok (.aload_n 0, 1) := dgs daL_law_2511 dbL_law_2511 72 105 rfl
theorem dL_law_2617 : decode cL_law 2617 = .ok (.iload 5, 2) := dgs daL_law_2511 dbL_law_2511 73 106 rfl
theorem dL_law_2619 : decode cL_law 2619 = .ok (.iconst 2, 1) := dgs daL_law_2511 dbL_law_2511 74 108 rfl
theorem dL_law_2620 : decode cL_law 2620 = .ok (.iadd, 1) := dgs daL_law_2511 dbL_law_2511 75 109 rfl
theorem dL_law_2621 : decode cL_law 2621 = .ok (.iaload, 1) := dgs daL_law_2511 dbL_law_2511 76 110 rfl
theorem dL_law_2622 : decode cL_law 2622 = .ok (.aload_n 3, 1) := dgs daL_law_2511 dbL_law_2511 77 111 rfl
theorem dL_law_2623 : decode cL_law 2623 = .ok (.invokestatic 395, 3) := dgs daL_law_2511 dbL_law_2511 78 112 rfl
theorem dL_law_2626 : decode cL_law 2626 = .ok (.istore 6, 2) := dgs daL_law_2511 dbL_law_2511 79 115 rfl
def dsL_law_2628 : ByteArray := ⟨#[44, 42, 21, 5, 4, 96, 46, 146, 42, 21, 5, 5, 96, 46, 182, 1, 142, 54, 7, 167, 1, 21, 43, 42, 21, 5, 4, 96, 46, 42, 21, 5, 5, 96, 46, 45, 184, 1, 143, 54, 6, 44, 42, 21, 5, 4, 96, 46, 42, 21, 5, 5, 96, 46, 182, 1, 145, 54, 7, 167, 0, 237, 43, 42, 21, 5, 4, 96, 46, 42, 21, 5, 5, 96, 46, 146, 45, 184, 1, 146, 54, 6, 44, 42, 21, 5, 4, 96, 46, 42, 21, 5, 5, 96, 46, 146, 182, 1, 149, 54, 7, 167, 0, 195, 43, 42, 21, 5, 4, 96, 46, 45]⟩
theorem daL_law_2628 : agB cL_law dsL_law_2628 2628 := agB_of (n := 112) (by decide +kernel)
def dlL_law_2628 : List (Nat × Instr × Nat) := [(0, .aload_n 2, 1), (1, .aload_n 0, 1), (2, .iload 5, 2), (4, .iconst 1, 1), (5, .iadd, 1), (6, .iaload, 1), (7, .i2c, 1), (8, .aload_n 0, 1), (9, .iload 5, 2), (11, .iconst 2, 1), (12, .iadd, 1), (13, .iaload, 1), (14, .invokevirtual 398, 3), (17, .istore 7, 2), (19, .goto 277, 3), (22, .aload_n 1, 1), (23, .aload_n 0, 1), (24, .iload 5, 2), (26, .iconst 1, 1), (27, .iadd, 1), (28, .iaload, 1), (29, .aload_n 0, 1), (30, .iload 5, 2), (32, .iconst 2, 1), (33, .iadd, 1), (34, .iaload, 1), (35, .aload_n 3, 1), (36, .invokestatic 399, 3), (39, .istore 6, 2), (41, .aload_n 2, 1), (42, .aload_n 0, 1), (43, .iload 5, 2), (45, .iconst 1, 1), (46, .iadd, 1), (47, .iaload, 1), (48, .aload_n 0, 1), (49, .iload 5, 2), (51, .iconst 2, 1), (52, .iadd, 1), (53, .iaload, 1), (54, .invokevirtual 401, 3), (57, .istore 7, 2), (59, .goto 237, 3), (62, .aload_n 1, 1), (63, .aload_n 0, 1), (64, .iload 5, 2), (66, .iconst 1, 1), (67, .iadd, 1), (68, .iaload, 1), (69, .aload_n 0, 1), (70, .iload 5, 2), (72, .iconst 2, 1), (73, .iadd, 1), (74, .iaload, 1), (75, .i2c, 1), (76, .aload_n 3, 1), (77, .invokestatic 402, 3), (80, .istore 6, 2), (82, .aload_n 2, 1), (83, .aload_n 0, 1), (84, .iload 5, 2), (86, .iconst 1, 1), (87, .iadd, 1), (88, .iaload, 1), (89, .aload_n 0, 1), (90, .iload 5, 2), (92, .iconst 2, 1), (93, .iadd, 1), (94, .iaload, 1), (95, .i2c, 1), (96, .invokevirtual 405, 3), (99, .istore 7, 2), (101, .goto 195, 3), (104, .aload_n 1, 1), (105, .aload_n 0, 1), (106, .iload 5, 2), (108, .iconst 1, 1), (109, .iadd, 1), (110, .iaload, 1), (111, .aload_n 3, 1)]
theorem dbL_law_2628 : ∀ z ∈ dlL_law_2628, decode dsL_law_2628 z.1 = Except.ok z.2 ∧ okop dsL_law_2628 z.1 = true := by decide +kernel
theorem dL_law_2628 : decode cL_law 2628 = .ok (.aload_n 2, 1) := dgs daL_law_2628 dbL_law_2628 0 0 rfl
theorem dL_law_2629 : decode cL_law 2629 = .ok (.aload_n 0, 1) := dgs daL_law_2628 dbL_law_2628 1 1 rfl
theorem dL_law_2630 : decode cL_law 2630 = .ok (.iload 5, 2) := dgs daL_law_2628 dbL_law_2628 2 2 rfl
theorem dL_law_2632 : decode cL_law 2632 = .ok (.iconst 1, 1) := dgs daL_law_2628 dbL_law_2628 3 4 rfl
theorem dL_law_2633 : decode cL_law 2633 = .ok (.iadd, 1) := dgs daL_law_2628 dbL_law_2628 4 5 rfl
theorem dL_law_2634 : decode cL_law 2634 = .ok (.iaload, 1) := dgs daL_law_2628 dbL_law_2628 5 6 rfl
theorem dL_law_2635 : decode cL_law 2635 = .ok (.i2c, 1) := dgs daL_law_2628 dbL_law_2628 6 7 rfl
theorem dL_law_2636 : decode cL_law 2636 = .ok (.aload_n 0, 1) := dgs daL_law_2628 dbL_law_2628 7 8 rfl
theorem dL_law_2637 : decode cL_law 2637 = .ok (.iload 5, 2) := dgs daL_law_2628 dbL_law_2628 8 9 rfl
theorem dL_law_2639 : decode cL_law 2639 = .ok (.iconst 2, 1) := dgs daL_law_2628 dbL_law_2628 9 11 rfl
theorem dL_law_2640 : decode cL_law 2640 = .ok (.iadd, 1) := dgs daL_law_2628 dbL_law_2628 10 12 rfl
theorem dL_law_2641 : decode cL_law 2641 = .ok (.iaload, 1) := dgs daL_law_2628 dbL_law_2628 11 13 rfl
theorem dL_law_2642 : decode cL_law 2642 = .ok (.invokevirtual 398, 3) := dgs daL_law_2628 dbL_law_2628 12 14 rfl
theorem dL_law_2645 : decode cL_law 2645 = .ok (.istore 7, 2) := dgs daL_law_2628 dbL_law_2628 13 17 rfl
theorem dL_law_2647 : decode cL_law 2647 = .ok (.goto 277, 3) := dgs daL_law_2628 dbL_law_2628 14 19 rfl
theorem dL_law_2650 : decode cL_law 2650 = .ok (.aload_n 1, 1) := dgs daL_law_2628 dbL_law_2628 15 22 rfl
theorem dL_law_2651 : decode cL_law 2651 = .ok (.aload_n 0, 1) := dgs daL_law_2628 dbL_law_2628 16 23 rfl
theorem dL_law_2652 : decode cL_law 2652 = .ok (.iload 5, 2) := dgs daL_law_2628 dbL_law_2628 17 24 rfl
theorem dL_law_2654 : decode cL_law 2654 = .ok (.iconst 1, 1) := dgs daL_law_2628 dbL_law_2628 18 26 rfl
theorem dL_law_2655 : decode cL_law 2655 = .ok (.iadd, 1) := dgs daL_law_2628 dbL_law_2628 19 27 rfl
theorem dL_law_2656 : decode cL_law 2656 = .ok (.iaload, 1) := dgs daL_law_2628 dbL_law_2628 20 28 rfl
theorem dL_law_2657 : decode cL_law 2657 = .ok (.aload_n 0, 1) := dgs daL_law_2628 dbL_law_2628 21 29 rfl
theorem dL_law_2658 : decode cL_law 2658 = .ok (.iload 5, 2) := dgs daL_law_2628 dbL_law_2628 22 30 rfl
theorem dL_law_2660 : decode cL_law 2660 = .ok (.iconst 2, 1) := dgs daL_law_2628 dbL_law_2628 23 32 rfl
theorem dL_law_2661 : decode cL_law 2661 = .ok (.iadd, 1) := dgs daL_law_2628 dbL_law_2628 24 33 rfl
theorem dL_law_2662 : decode cL_law 2662 = .ok (.iaload, 1) := dgs daL_law_2628 dbL_law_2628 25 34 rfl
theorem dL_law_2663 : decode cL_law 2663 = .ok (.aload_n 3, 1) := dgs daL_law_2628 dbL_law_2628 26 35 rfl
theorem dL_law_2664 : decode cL_law 2664 = .ok (.invokestatic 399, 3) := dgs daL_law_2628 dbL_law_2628 27 36 rfl
theorem dL_law_2667 : decode cL_law 2667 = .ok (.istore 6, 2) := dgs daL_law_2628 dbL_law_2628 28 39 rfl
theorem dL_law_2669 : decode cL_law 2669 = .ok (.aload_n 2, 1) := dgs daL_law_2628 dbL_law_2628 29 41 rfl
theorem dL_law_2670 : decode cL_law 2670 = .ok (.aload_n 0, 1) := dgs daL_law_2628 dbL_law_2628 30 42 rfl
theorem dL_law_2671 : decode cL_law 2671 = .ok (.iload 5, 2) := dgs daL_law_2628 dbL_law_2628 31 43 rfl
theorem dL_law_2673 : decode cL_law 2673 = .ok (.iconst 1, 1) := dgs daL_law_2628 dbL_law_2628 32 45 rfl
theorem dL_law_2674 : decode cL_law 2674 = .ok (.iadd, 1) := dgs daL_law_2628 dbL_law_2628 33 46 rfl
theorem dL_law_2675 : decode cL_law 2675 = .ok (.iaload, 1) := dgs daL_law_2628 dbL_law_2628 34 47 rfl
theorem dL_law_2676 : decode cL_law 2676 = .ok (.aload_n 0, 1) := dgs daL_law_2628 dbL_law_2628 35 48 rfl
theorem dL_law_2677 : decode cL_law 2677 = .ok (.iload 5, 2) := dgs daL_law_2628 dbL_law_2628 36 49 rfl
theorem dL_law_2679 : decode cL_law 2679 = .ok (.iconst 2, 1) := dgs daL_law_2628 dbL_law_2628 37 51 rfl
theorem dL_law_2680 : decode cL_law 2680 = .ok (.iadd, 1) := dgs daL_law_2628 dbL_law_2628 38 52 rfl
theorem dL_law_2681 : decode cL_law 2681 = .ok (.iaload, 1) := dgs daL_law_2628 dbL_law_2628 39 53 rfl
theorem dL_law_2682 : decode cL_law 2682 = .ok (.invokevirtual 401, 3) := dgs daL_law_2628 dbL_law_2628 40 54 rfl
theorem dL_law_2685 : decode cL_law 2685 = .ok (.istore 7, 2) := dgs daL_law_2628 dbL_law_2628 41 57 rfl
theorem dL_law_2687 : decode cL_law 2687 = .ok (.goto 237, 3) := dgs daL_law_2628 dbL_law_2628 42 59 rfl
theorem dL_law_2690 : decode cL_law 2690 = .ok (.aload_n 1, 1) := dgs daL_law_2628 dbL_law_2628 43 62 rfl
theorem dL_law_2691 : decode cL_law 2691 = .ok (.aload_n 0, 1) := dgs daL_law_2628 dbL_law_2628 44 63 rfl
theorem dL_law_2692 : decode cL_law 2692 = .ok (.iload 5, 2) := dgs daL_law_2628 dbL_law_2628 45 64 rfl
theorem dL_law_2694 : decode cL_law 2694 = .ok (.iconst 1, 1) := dgs daL_law_2628 dbL_law_2628 46 66 rfl
theorem dL_law_2695 : decode cL_law 2695 = .ok (.iadd, 1) := dgs daL_law_2628 dbL_law_2628 47 67 rfl
theorem dL_law_2696 : decode cL_law 2696 = .ok (.iaload, 1) := dgs daL_law_2628 dbL_law_2628 48 68 rfl
theorem dL_law_2697 : decode cL_law 2697 = .ok (.aload_n 0, 1) := dgs daL_law_2628 dbL_law_2628 49 69 rfl
theorem dL_law_2698 : decode cL_law 2698 = .ok (.iload 5, 2) := dgs daL_law_2628 dbL_law_2628 50 70 rfl
theorem dL_law_2700 : decode cL_law 2700 = .ok (.iconst 2, 1) := dgs daL_law_2628 dbL_law_2628 51 72 rfl
theorem dL_law_2701 : decode cL_law 2701 = .ok (.iadd, 1) := dgs daL_law_2628 dbL_law_2628 52 73 rfl
theorem dL_law_2702 : decode cL_law 2702 = .ok (.iaload, 1) := dgs daL_law_2628 dbL_law_2628 53 74 rfl
theorem dL_law_2703 : decode cL_law 2703 = .ok (.i2c, 1) := dgs daL_law_2628 dbL_law_2628 54 75 rfl
theorem dL_law_2704 : decode cL_law 2704 = .ok (.aload_n 3, 1) := dgs daL_law_2628 dbL_law_2628 55 76 rfl
theorem dL_law_2705 : decode cL_law 2705 = .ok (.invokestatic 402, 3) := dgs daL_law_2628 dbL_law_2628 56 77 rfl
theorem dL_law_2708 : decode cL_law 2708 = .ok (.istore 6, 2) := dgs daL_law_2628 dbL_law_2628 57 80 rfl
theorem dL_law_2710 : decode cL_law 2710 = .ok (.aload_n 2, 1) := dgs daL_law_2628 dbL_law_2628 58 82 rfl
theorem dL_law_2711 : decode cL_law 2711 = .ok (.aload_n 0, 1) := dgs daL_law_2628 dbL_law_2628 59 83 rfl
theorem dL_law_2712 : decode cL_law 2712 = .ok (.iload 5, 2) := dgs daL_law_2628 dbL_law_2628 60 84 rfl
theorem dL_law_2714 : decode cL_law 2714 = .ok (.iconst 1, 1) := dgs daL_law_2628 dbL_law_2628 61 86 rfl
theorem dL_law_2715 : decode cL_law 2715 = .ok (.iadd, 1) := dgs daL_law_2628 dbL_law_2628 62 87 rfl
theorem dL_law_2716 : decode cL_law 2716 = .ok (.iaload, 1) := dgs daL_law_2628 dbL_law_2628 63 88 rfl
theorem dL_law_2717 : decode cL_law 2717 = .ok (.aload_n 0, 1) := dgs daL_law_2628 dbL_law_2628 64 89 rfl
theorem dL_law_2718 : decode cL_law 2718 = .ok (.iload 5, 2) := dgs daL_law_2628 dbL_law_2628 65 90 rfl
theorem dL_law_2720 : decode cL_law 2720 = .ok (.iconst 2, 1) := dgs daL_law_2628 dbL_law_2628 66 92 rfl
theorem dL_law_2721 : decode cL_law 2721 = .ok (.iadd, 1) := dgs daL_law_2628 dbL_law_2628 67 93 rfl
theorem dL_law_2722 : decode cL_law 2722 = .ok (.iaload, 1) := dgs daL_law_2628 dbL_law_2628 68 94 rfl
theorem dL_law_2723 : decode cL_law 2723 = .ok (.i2c, 1) := dgs daL_law_2628 dbL_law_2628 69 95 rfl
theorem dL_law_2724 : decode cL_law 2724 = .ok (.invokevirtual 405, 3) := dgs daL_law_2628 dbL_law_2628 70 96 rfl
theorem dL_law_2727 : decode cL_law 2727 = .ok (.istore 7, 2) := dgs daL_law_2628 dbL_law_2628 71 99 rfl
theorem dL_law_2729 : decode cL_law 2729 = .ok (.goto 195, 3) := dgs daL_law_2628 dbL_law_2628 72 101 rfl
theorem dL_law_2732 : decode cL_law 2732 = .ok (.aload_n 1, 1) := dgs daL_law_2628 dbL_law_2628 73 104 rfl
theorem dL_law_2733 : decode cL_law 2733 = .ok (.aload_n 0, 1) := dgs daL_law_2628 dbL_law_2628 74 105 rfl
theorem dL_law_2734 : decode cL_law 2734 = .ok (.iload 5, 2) := dgs daL_law_2628 dbL_law_2628 75 106 rfl
theorem dL_law_2736 : decode cL_law 2736 = .ok (.iconst 1, 1) := dgs daL_law_2628 dbL_law_2628 76 108 rfl
theorem dL_law_2737 : decode cL_law 2737 = .ok (.iadd, 1) := dgs daL_law_2628 dbL_law_2628 77 109 rfl
theorem dL_law_2738 : decode cL_law 2738 = .ok (.iaload, 1) := dgs daL_law_2628 dbL_law_2628 78 110 rfl
theorem dL_law_2739 : decode cL_law 2739 = .ok (.aload_n 3, 1) := dgs daL_law_2628 dbL_law_2628 79 111 rfl
def dsL_law_2740 : ByteArray := ⟨#[184, 1, 150, 54, 6, 44, 42, 21, 5, 4, 96, 46, 182, 1, 152, 54, 7, 167, 0, 167, 43, 42, 21, 5, 4, 96, 46, 42, 21, 5, 5, 96, 46, 42, 21, 5, 6, 96, 46, 45, 184, 1, 153, 54, 6, 44, 42, 21, 5, 4, 96, 46, 42, 21, 5, 5, 96, 46, 42, 21, 5, 6, 96, 46, 182, 1, 155, 54, 7, 167, 0, 115, 43, 42, 21, 5, 4, 96, 46, 42, 21, 5, 5, 96, 46, 42, 21, 5, 6, 96, 46, 45, 184, 1, 156, 54, 6, 44, 42, 21, 5, 4, 96, 46, 42, 21, 5, 5, 96, 46, 42]⟩
theorem daL_law_2740 : agB cL_law dsL_law_2740 2740 := agB_of (n := 111) (by decide +kernel)
def dlL_law_2740 : List (Nat × Instr × Nat) := [(0, .invokestatic 406, 3), (3, .istore 6, 2), (5, .aload_n 2, 1), (6, .aload_n 0, 1), (7, .iload 5, 2), (9, .iconst 1, 1), (10, .iadd, 1), (11, .iaload, 1), (12, .invokevirtual 408, 3), (15, .istore 7, 2), (17, .goto 167, 3), (20, .aload_n 1, 1), (21, .aload_n 0, 1), (22, .iload 5, 2), (24, .iconst 1, 1), (25, .iadd, 1), (26, .iaload, 1), (27, .aload_n 0, 1), (28, .iload 5, 2), (30, .iconst 2, 1), (31, .iadd, 1), (32, .iaload, 1), (33, .aload_n 0, 1), (34, .iload 5, 2), (36, .iconst 3, 1), (37, .iadd, 1), (38, .iaload, 1), (39, .aload_n 3, 1), (40, .invokestatic 409, 3), (43, .istore 6, 2), (45, .aload_n 2, 1), (46, .aload_n 0, 1), (47, .iload 5, 2), (49, .iconst 1, 1), (50, .iadd, 1), (51, .iaload, 1), (52, .aload_n 0, 1), (53, .iload 5, 2), (55, .iconst 2, 1), (56, .iadd, 1), (57, .iaload, 1), (58, .aload_n 0, 1), (59, .iload 5, 2), (61, .iconst 3, 1), (62, .iadd, 1), (63, .iaload, 1), (64, .invokevirtual 411, 3), (67, .istore 7, 2), (69, .goto 115, 3), (72, .aload_n 1, 1), (73, .aload_n 0, 1), (74, .iload 5, 2), (76, .iconst 1, 1), (77, .iadd, 1), (78, .iaload, 1), (79, .aload_n 0, 1), (80, .iload 5, 2), (82, .iconst 2, 1), (83, .iadd, 1), (84, .iaload, 1), (85, .aload_n 0, 1), (86, .iload 5, 2), (88, .iconst 3, 1), (89, .iadd, 1), (90, .iaload, 1), (91, .aload_n 3, 1), (92, .invokestatic 412, 3), (95, .istore 6, 2), (97, .aload_n 2, 1), (98, .aload_n 0, 1), (99, .iload 5, 2), (101, .iconst 1, 1), (102, .iadd, 1), (103, .iaload, 1), (104, .aload_n 0, 1), (105, .iload 5, 2), (107, .iconst 2, 1), (108, .iadd, 1), (109, .iaload, 1), (110, .aload_n 0, 1)]
theorem dbL_law_2740 : ∀ z ∈ dlL_law_2740, decode dsL_law_2740 z.1 = Except.ok z.2 ∧ okop dsL_law_2740 z.1 = true := by decide +kernel
theorem dL_law_2740 : decode cL_law 2740 = .ok (.invokestatic 406, 3) := dgs daL_law_2740 dbL_law_2740 0 0 rfl
theorem dL_law_2743 : decode cL_law 2743 = .ok (.istore 6, 2) := dgs daL_law_2740 dbL_law_2740 1 3 rfl
theorem dL_law_2745 : decode cL_law 2745 = .ok (.aload_n 2, 1) := dgs daL_law_2740 dbL_law_2740 2 5 rfl
theorem dL_law_2746 : decode cL_law 2746 = .ok (.aload_n 0, 1) := dgs daL_law_2740 dbL_law_2740 3 6 rfl
theorem dL_law_2747 : decode cL_law 2747 = .ok (.iload 5, 2) := dgs daL_law_2740 dbL_law_2740 4 7 rfl
theorem dL_law_2749 : decode cL_law 2749 = .ok (.iconst 1, 1) := dgs daL_law_2740 dbL_law_2740 5 9 rfl
theorem dL_law_2750 : decode cL_law 2750 = .ok (.iadd, 1) := dgs daL_law_2740 dbL_law_2740 6 10 rfl
theorem dL_law_2751 : decode cL_law 2751 = .ok (.iaload, 1) := dgs daL_law_2740 dbL_law_2740 7 11 rfl
theorem dL_law_2752 : decode cL_law 2752 = .ok (.invokevirtual 408, 3) := dgs daL_law_2740 dbL_law_2740 8 12 rfl
theorem dL_law_2755 : decode cL_law 2755 = .ok (.istore 7, 2) := dgs daL_law_2740 dbL_law_2740 9 15 rfl
theorem dL_law_2757 : decode cL_law 2757 = .ok (.goto 167, 3) := dgs daL_law_2740 dbL_law_2740 10 17 rfl
theorem dL_law_2760 : decode cL_law 2760 = .ok (.aload_n 1, 1) := dgs daL_law_2740 dbL_law_2740 11 20 rfl
theorem dL_law_2761 : decode cL_law 2761 = .ok (.aload_n 0, 1) := dgs daL_law_2740 dbL_law_2740 12 21 rfl
theorem dL_law_2762 : decode cL_law 2762 = .ok (.iload 5, 2) := dgs daL_law_2740 dbL_law_2740 13 22 rfl
theorem dL_law_2764 : decode cL_law 2764 = .ok (.iconst 1, 1) := dgs daL_law_2740 dbL_law_2740 14 24 rfl
theorem dL_law_2765 : decode cL_law 2765 = .ok (.iadd, 1) := dgs daL_law_2740 dbL_law_2740 15 25 rfl
theorem dL_law_2766 : decode cL_law 2766 = .ok (.iaload, 1) := dgs daL_law_2740 dbL_law_2740 16 26 rfl
theorem dL_law_2767 : decode cL_law 2767 = .ok (.aload_n 0, 1) := dgs daL_law_2740 dbL_law_2740 17 27 rfl
theorem dL_law_2768 : decode cL_law 2768 = .ok (.iload 5, 2) := dgs daL_law_2740 dbL_law_2740 18 28 rfl
theorem dL_law_2770 : decode cL_law 2770 = .ok (.iconst 2, 1) := dgs daL_law_2740 dbL_law_2740 19 30 rfl
theorem dL_law_2771 : decode cL_law 2771 = .ok (.iadd, 1) := dgs daL_law_2740 dbL_law_2740 20 31 rfl
theorem dL_law_2772 : decode cL_law 2772 = .ok (.iaload, 1) := dgs daL_law_2740 dbL_law_2740 21 32 rfl
theorem dL_law_2773 : decode cL_law 2773 = .ok (.aload_n 0, 1) := dgs daL_law_2740 dbL_law_2740 22 33 rfl
theorem dL_law_2774 : decode cL_law 2774 = .ok (.iload 5, 2) := dgs daL_law_2740 dbL_law_2740 23 34 rfl
theorem dL_law_2776 : decode cL_law 2776 = .ok (.iconst 3, 1) := dgs daL_law_2740 dbL_law_2740 24 36 rfl
theorem dL_law_2777 : decode cL_law 2777 = .ok (.iadd, 1) := dgs daL_law_2740 dbL_law_2740 25 37 rfl
theorem dL_law_2778 : decode cL_law 2778 = .ok (.iaload, 1) := dgs daL_law_2740 dbL_law_2740 26 38 rfl
theorem dL_law_2779 : decode cL_law 2779 = .ok (.aload_n 3, 1) := dgs daL_law_2740 dbL_law_2740 27 39 rfl
theorem dL_law_2780 : decode cL_law 2780 = .ok (.invokestatic 409, 3) := dgs daL_law_2740 dbL_law_2740 28 40 rfl
theorem dL_law_2783 : decode cL_law 2783 = .ok (.istore 6, 2) := dgs daL_law_2740 dbL_law_2740 29 43 rfl
theorem dL_law_2785 : decode cL_law 2785 = .ok (.aload_n 2, 1) := dgs daL_law_2740 dbL_law_2740 30 45 rfl
theorem dL_law_2786 : decode cL_law 2786 = .ok (.aload_n 0, 1) := dgs daL_law_2740 dbL_law_2740 31 46 rfl
theorem dL_law_2787 : decode cL_law 2787 = .ok (.iload 5, 2) := dgs daL_law_2740 dbL_law_2740 32 47 rfl
theorem dL_law_2789 : decode cL_law 2789 = .ok (.iconst 1, 1) := dgs daL_law_2740 dbL_law_2740 33 49 rfl
theorem dL_law_2790 : decode cL_law 2790 = .ok (.iadd, 1) := dgs daL_law_2740 dbL_law_2740 34 50 rfl
theorem dL_law_2791 : decode cL_law 2791 = .ok (.iaload, 1) := dgs daL_law_2740 dbL_law_2740 35 51 rfl
theorem dL_law_2792 : decode cL_law 2792 = .ok (.aload_n 0, 1) := dgs daL_law_2740 dbL_law_2740 36 52 rfl
theorem dL_law_2793 : decode cL_law 2793 = .ok (.iload 5, 2) := dgs daL_law_2740 dbL_law_2740 37 53 rfl
theorem dL_law_2795 : decode cL_law 2795 = .ok (.iconst 2, 1) := dgs daL_law_2740 dbL_law_2740 38 55 rfl
theorem dL_law_2796 : decode cL_law 2796 = .ok (.iadd, 1) := dgs daL_law_2740 dbL_law_2740 39 56 rfl
theorem dL_law_2797 : decode cL_law 2797 = .ok (.iaload, 1) := dgs daL_law_2740 dbL_law_2740 40 57 rfl
theorem dL_law_2798 : decode cL_law 2798 = .ok (.aload_n 0, 1) := dgs daL_law_2740 dbL_law_2740 41 58 rfl
theorem dL_law_2799 : decode cL_law 2799 = .ok (.iload 5, 2) := dgs daL_law_2740 dbL_law_2740 42 59 rfl
theorem dL_law_2801 : decode cL_law 2801 = .ok (.iconst 3, 1) := dgs daL_law_2740 dbL_law_2740 43 61 rfl
theorem dL_law_2802 : decode cL_law 2802 = .ok (.iadd, 1) := dgs daL_law_2740 dbL_law_2740 44 62 rfl
theorem dL_law_2803 : decode cL_law 2803 = .ok (.iaload, 1) := dgs daL_law_2740 dbL_law_2740 45 63 rfl
theorem dL_law_2804 : decode cL_law 2804 = .ok (.invokevirtual 411, 3) := dgs daL_law_2740 dbL_law_2740 46 64 rfl
theorem dL_law_2807 : decode cL_law 2807 = .ok (.istore 7, 2) := dgs daL_law_2740 dbL_law_2740 47 67 rfl
theorem dL_law_2809 : decode cL_law 2809 = .ok (.goto 115, 3) := dgs daL_law_2740 dbL_law_2740 48 69 rfl
theorem dL_law_2812 : decode cL_law 2812 = .ok (.aload_n 1, 1) := dgs daL_law_2740 dbL_law_2740 49 72 rfl
theorem dL_law_2813 : decode cL_law 2813 = .ok (.aload_n 0, 1) := dgs daL_law_2740 dbL_law_2740 50 73 rfl
theorem dL_law_2814 : decode cL_law 2814 = .ok (.iload 5, 2) := dgs daL_law_2740 dbL_law_2740 51 74 rfl
theorem dL_law_2816 : decode cL_law 2816 = .ok (.iconst 1, 1) := dgs daL_law_2740 dbL_law_2740 52 76 rfl
theorem dL_law_2817 : decode cL_law 2817 = .ok (.iadd, 1) := dgs daL_law_2740 dbL_law_2740 53 77 rfl
theorem dL_law_2818 : decode cL_law 2818 = .ok (.iaload, 1) := dgs daL_law_2740 dbL_law_2740 54 78 rfl
theorem dL_law_2819 : decode cL_law 2819 = .ok (.aload_n 0, 1) := dgs daL_law_2740 dbL_law_2740 55 79 rfl
theorem dL_law_2820 : decode cL_law 2820 = .ok (.iload 5, 2) := dgs daL_law_2740 dbL_law_2740 56 80 rfl
theorem dL_law_2822 : decode cL_law 2822 = .ok (.iconst 2, 1) := dgs daL_law_2740 dbL_law_2740 57 82 rfl
theorem dL_law_2823 : decode cL_law 2823 = .ok (.iadd, 1) := dgs daL_law_2740 dbL_law_2740 58 83 rfl
theorem dL_law_2824 : decode cL_law 2824 = .ok (.iaload, 1) := dgs daL_law_2740 dbL_law_2740 59 84 rfl
theorem dL_law_2825 : decode cL_law 2825 = .ok (.aload_n 0, 1) := dgs daL_law_2740 dbL_law_2740 60 85 rfl
theorem dL_law_2826 : decode cL_law 2826 = .ok (.iload 5, 2) := dgs daL_law_2740 dbL_law_2740 61 86 rfl
theorem dL_law_2828 : decode cL_law 2828 = .ok (.iconst 3, 1) := dgs daL_law_2740 dbL_law_2740 62 88 rfl
theorem dL_law_2829 : decode cL_law 2829 = .ok (.iadd, 1) := dgs daL_law_2740 dbL_law_2740 63 89 rfl
theorem dL_law_2830 : decode cL_law 2830 = .ok (.iaload, 1) := dgs daL_law_2740 dbL_law_2740 64 90 rfl
theorem dL_law_2831 : decode cL_law 2831 = .ok (.aload_n 3, 1) := dgs daL_law_2740 dbL_law_2740 65 91 rfl
theorem dL_law_2832 : decode cL_law 2832 = .ok (.invokestatic 412, 3) := dgs daL_law_2740 dbL_law_2740 66 92 rfl
theorem dL_law_2835 : decode cL_law 2835 = .ok (.istore 6, 2) := dgs daL_law_2740 dbL_law_2740 67 95 rfl
theorem dL_law_2837 : decode cL_law 2837 = .ok (.aload_n 2, 1) := dgs daL_law_2740 dbL_law_2740 68 97 rfl
theorem dL_law_2838 : decode cL_law 2838 = .ok (.aload_n 0, 1) := dgs daL_law_2740 dbL_law_2740 69 98 rfl
theorem dL_law_2839 : decode cL_law 2839 = .ok (.iload 5, 2) := dgs daL_law_2740 dbL_law_2740 70 99 rfl
theorem dL_law_2841 : decode cL_law 2841 = .ok (.iconst 1, 1) := dgs daL_law_2740 dbL_law_2740 71 101 rfl
theorem dL_law_2842 : decode cL_law 2842 = .ok (.iadd, 1) := dgs daL_law_2740 dbL_law_2740 72 102 rfl
theorem dL_law_2843 : decode cL_law 2843 = .ok (.iaload, 1) := dgs daL_law_2740 dbL_law_2740 73 103 rfl
theorem dL_law_2844 : decode cL_law 2844 = .ok (.aload_n 0, 1) := dgs daL_law_2740 dbL_law_2740 74 104 rfl
theorem dL_law_2845 : decode cL_law 2845 = .ok (.iload 5, 2) := dgs daL_law_2740 dbL_law_2740 75 105 rfl
theorem dL_law_2847 : decode cL_law 2847 = .ok (.iconst 2, 1) := dgs daL_law_2740 dbL_law_2740 76 107 rfl
theorem dL_law_2848 : decode cL_law 2848 = .ok (.iadd, 1) := dgs daL_law_2740 dbL_law_2740 77 108 rfl
theorem dL_law_2849 : decode cL_law 2849 = .ok (.iaload, 1) := dgs daL_law_2740 dbL_law_2740 78 109 rfl
theorem dL_law_2850 : decode cL_law 2850 = .ok (.aload_n 0, 1) := dgs daL_law_2740 dbL_law_2740 79 110 rfl
def dsL_law_2851 : ByteArray := ⟨#[21, 5, 6, 96, 46, 182, 1, 158, 54, 7, 167, 0, 63, 43, 182, 1, 159, 88, 44, 182, 1, 163, 88, 167, 0, 50, 43, 25, 4, 184, 1, 164, 54, 6, 44, 182, 1, 167, 56, 7, 167, 0, 33, 43, 25, 4, 184, 1, 168, 54, 6, 44, 182, 1, 170, 57, 7, 167, 0, 16, 43, 182, 1, 171, 87, 44, 182, 1, 175, 87, 167, 0, 3, 132, 5, 5, 167, 244, 173, 4, 172]⟩
theorem daL_law_2851 : agB cL_law dsL_law_2851 2851 := agB_of (n := 81) (by decide +kernel)
def dlL_law_2851 : List (Nat × Instr × Nat) := [(0, .iload 5, 2), (2, .iconst 3, 1), (3, .iadd, 1), (4, .iaload, 1), (5, .invokevirtual 414, 3), (8, .istore 7, 2), (10, .goto 63, 3), (13, .aload_n 1, 1), (14, .invokevirtual 415, 3), (17, .pop2, 1), (18, .aload_n 2, 1), (19, .invokevirtual 419, 3), (22, .pop2, 1), (23, .goto 50, 3), (26, .aload_n 1, 1), (27, .aload 4, 2), (29, .invokestatic 420, 3), (32, .istore 6, 2), (34, .aload_n 2, 1), (35, .invokevirtual 423, 3), (38, .fstore 7, 2), (40, .goto 33, 3), (43, .aload_n 1, 1), (44, .aload 4, 2), (46, .invokestatic 424, 3), (49, .istore 6, 2), (51, .aload_n 2, 1), (52, .invokevirtual 426, 3), (55, .dstore 7, 2), (57, .goto 16, 3), (60, .aload_n 1, 1), (61, .invokevirtual 427, 3), (64, .pop, 1), (65, .aload_n 2, 1), (66, .invokevirtual 431, 3), (69, .pop, 1), (70, .goto 3, 3), (73, .iinc 5 5, 3), (76, .goto (-2899), 3), (79, .iconst 1, 1), (80, .ireturn, 1)]
theorem dbL_law_2851 : ∀ z ∈ dlL_law_2851, decode dsL_law_2851 z.1 = Except.ok z.2 ∧ okop dsL_law_2851 z.1 = true := by decide +kernel
theorem dL_law_2851 : decode cL_law 2851 = .ok (.iload 5, 2) := dgs daL_law_2851 dbL_law_2851 0 0 rfl
theorem dL_law_2853 : decode cL_law 2853 = .ok (.iconst 3, 1) := dgs daL_law_2851 dbL_law_2851 1 2 rfl
theorem dL_law_2854 : decode cL_law 2854 = .ok (.iadd, 1) := dgs daL_law_2851 dbL_law_2851 2 3 rfl
theorem dL_law_2855 : decode cL_law 2855 = .ok (.iaload, 1) := dgs daL_law_2851 dbL_law_2851 3 4 rfl
theorem dL_law_2856 : decode cL_law 2856 = .ok (.invokevirtual 414, 3) := dgs daL_law_2851 dbL_law_2851 4 5 rfl
theorem dL_law_2859 : decode cL_law 2859 = .ok (.istore 7, 2) := dgs daL_law_2851 dbL_law_2851 5 8 rfl
theorem dL_law_2861 : decode cL_law 2861 = .ok (.goto 63, 3) := dgs daL_law_2851 dbL_law_2851 6 10 rfl
theorem dL_law_2864 : decode cL_law 2864 = .ok (.aload_n 1, 1) := dgs daL_law_2851 dbL_law_2851 7 13 rfl
theorem dL_law_2865 : decode cL_law 2865 = .ok (.invokevirtual 415, 3) := dgs daL_law_2851 dbL_law_2851 8 14 rfl
theorem dL_law_2868 : decode cL_law 2868 = .ok (.pop2, 1) := dgs daL_law_2851 dbL_law_2851 9 17 rfl
theorem dL_law_2869 : decode cL_law 2869 = .ok (.aload_n 2, 1) := dgs daL_law_2851 dbL_law_2851 10 18 rfl
theorem dL_law_2870 : decode cL_law 2870 = .ok (.invokevirtual 419, 3) := dgs daL_law_2851 dbL_law_2851 11 19 rfl
theorem dL_law_2873 : decode cL_law 2873 = .ok (.pop2, 1) := dgs daL_law_2851 dbL_law_2851 12 22 rfl
theorem dL_law_2874 : decode cL_law 2874 = .ok (.goto 50, 3) := dgs daL_law_2851 dbL_law_2851 13 23 rfl
theorem dL_law_2877 : decode cL_law 2877 = .ok (.aload_n 1, 1) := dgs daL_law_2851 dbL_law_2851 14 26 rfl
theorem dL_law_2878 : decode cL_law 2878 = .ok (.aload 4, 2) := dgs daL_law_2851 dbL_law_2851 15 27 rfl
theorem dL_law_2880 : decode cL_law 2880 = .ok (.invokestatic 420, 3) := dgs daL_law_2851 dbL_law_2851 16 29 rfl
theorem dL_law_2883 : decode cL_law 2883 = .ok (.istore 6, 2) := dgs daL_law_2851 dbL_law_2851 17 32 rfl
theorem dL_law_2885 : decode cL_law 2885 = .ok (.aload_n 2, 1) := dgs daL_law_2851 dbL_law_2851 18 34 rfl
theorem dL_law_2886 : decode cL_law 2886 = .ok (.invokevirtual 423, 3) := dgs daL_law_2851 dbL_law_2851 19 35 rfl
theorem dL_law_2889 : decode cL_law 2889 = .ok (.fstore 7, 2) := dgs daL_law_2851 dbL_law_2851 20 38 rfl
theorem dL_law_2891 : decode cL_law 2891 = .ok (.goto 33, 3) := dgs daL_law_2851 dbL_law_2851 21 40 rfl
theorem dL_law_2894 : decode cL_law 2894 = .ok (.aload_n 1, 1) := dgs daL_law_2851 dbL_law_2851 22 43 rfl
theorem dL_law_2895 : decode cL_law 2895 = .ok (.aload 4, 2) := dgs daL_law_2851 dbL_law_2851 23 44 rfl
theorem dL_law_2897 : decode cL_law 2897 = .ok (.invokestatic 424, 3) := dgs daL_law_2851 dbL_law_2851 24 46 rfl
theorem dL_law_2900 : decode cL_law 2900 = .ok (.istore 6, 2) := dgs daL_law_2851 dbL_law_2851 25 49 rfl
theorem dL_law_2902 : decode cL_law 2902 = .ok (.aload_n 2, 1) := dgs daL_law_2851 dbL_law_2851 26 51 rfl
theorem dL_law_2903 : decode cL_law 2903 = .ok (.invokevirtual 426, 3) := dgs daL_law_2851 dbL_law_2851 27 52 rfl
theorem dL_law_2906 : decode cL_law 2906 = .ok (.dstore 7, 2) := dgs daL_law_2851 dbL_law_2851 28 55 rfl
theorem dL_law_2908 : decode cL_law 2908 = .ok (.goto 16, 3) := dgs daL_law_2851 dbL_law_2851 29 57 rfl
theorem dL_law_2911 : decode cL_law 2911 = .ok (.aload_n 1, 1) := dgs daL_law_2851 dbL_law_2851 30 60 rfl
theorem dL_law_2912 : decode cL_law 2912 = .ok (.invokevirtual 427, 3) := dgs daL_law_2851 dbL_law_2851 31 61 rfl
theorem dL_law_2915 : decode cL_law 2915 = .ok (.pop, 1) := dgs daL_law_2851 dbL_law_2851 32 64 rfl
theorem dL_law_2916 : decode cL_law 2916 = .ok (.aload_n 2, 1) := dgs daL_law_2851 dbL_law_2851 33 65 rfl
theorem dL_law_2917 : decode cL_law 2917 = .ok (.invokevirtual 431, 3) := dgs daL_law_2851 dbL_law_2851 34 66 rfl
theorem dL_law_2920 : decode cL_law 2920 = .ok (.pop, 1) := dgs daL_law_2851 dbL_law_2851 35 69 rfl
theorem dL_law_2921 : decode cL_law 2921 = .ok (.goto 3, 3) := dgs daL_law_2851 dbL_law_2851 36 70 rfl
theorem dL_law_2924 : decode cL_law 2924 = .ok (.iinc 5 5, 3) := dgs daL_law_2851 dbL_law_2851 37 73 rfl
theorem dL_law_2927 : decode cL_law 2927 = .ok (.goto (-2899), 3) := dgs daL_law_2851 dbL_law_2851 38 76 rfl
theorem dL_law_2930 : decode cL_law 2930 = .ok (.iconst 1, 1) := dgs daL_law_2851 dbL_law_2851 39 79 rfl
theorem dL_law_2931 : decode cL_law 2931 = .ok (.ireturn, 1) := dgs daL_law_2851 dbL_law_2851 40 80 rfl

