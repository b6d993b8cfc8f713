def dsL_law_1940 : ByteArray := ⟨#[21, 5, 5, 96, 46, 42, 21, 5, 6, 96, 46, 182, 1, 87]⟩
theorem daL_law_1940 : agB cL_law dsL_law_1940 1940 := agB_of (n := 14) (by decide +kernel)
theorem dbL_law_1940 : (decode dsL_law_1940 0 = .ok (.iload 5, 2) ∧ okop dsL_law_1940 0 = true) ∧ (decode dsL_law_1940 2 = .ok (.iconst 2, 1) ∧ okop dsL_law_1940 2 = true) ∧ (decode dsL_law_1940 3 = .ok (.iadd, 1) ∧ okop dsL_law_1940 3 = true) ∧ (decode dsL_law_1940 4 = .ok (.iaload, 1) ∧ okop dsL_law_1940 4 = true) ∧ (decode dsL_law_1940 5 = .ok (.aload_n 0, 1) ∧ okop dsL_law_1940 5 = true) ∧ (decode dsL_law_1940 6 = .ok (.iload 5, 2) ∧ okop dsL_law_1940 6 = true) ∧ (decode dsL_law_1940 8 = .ok (.iconst 3, 1) ∧ okop dsL_law_1940 8 = true) ∧ (decode dsL_law_1940 9 = .ok (.iadd, 1) ∧ okop dsL_law_1940 9 = true) ∧ (decode dsL_law_1940 10 = .ok (.iaload, 1) ∧ okop dsL_law_1940 10 = true) ∧ (decode dsL_law_1940 11 = .ok (.invokevirtual 343, 3) ∧ okop dsL_law_1940 11 = true) := by decide +kernel
theorem dL_law_1940 : decode cL_law 1940 = .ok (.iload 5, 2) := dgq (p := 0) daL_law_1940 dbL_law_1940.1
theorem dL_law_1942 : decode cL_law 1942 = .ok (.iconst 2, 1) := dgq (p := 2) daL_law_1940 dbL_law_1940.2.1
theorem dL_law_1943 : decode cL_law 1943 = .ok (.iadd, 1) := dgq (p := 3) daL_law_1940 dbL_law_1940.2.2.1
theorem dL_law_1944 : decode cL_law 1944 = .ok (.iaload, 1) := dgq (p := 4) daL_law_1940 dbL_law_1940.2.2.2.1
theorem dL_law_1945 : decode cL_law 1945 = .ok (.aload_n 0, 1) := dgq (p := 5) daL_law_1940 dbL_law_1940.2.2.2.2.1
theorem dL_law_1946 : decode cL_law 1946 = .ok (.iload 5, 2) := dgq (p := 6) daL_law_1940 dbL_law_1940.2.2.2.2.2.1
theorem dL_law_1948 : decode cL_law 1948 = .ok (.iconst 3, 1) := dgq (p := 8) daL_law_1940 dbL_law_1940.2.2.2.2.2.2.1
theorem dL_law_1949 : decode cL_law 1949 = .ok (.iadd, 1) := dgq (p := 9) daL_law_1940 dbL_law_1940.2.2.2.2.2.2.2.1
theorem dL_law_1950 : decode cL_law 1950 = .ok (.iaload, 1) := dgq (p := 10) daL_law_1940 dbL_law_1940.2.2.2.2.2.2.2.2.1
theorem dL_law_1951 : decode cL_law 1951 = .ok (.invokevirtual 343, 3) := dgq (p := 11) daL_law_1940 dbL_law_1940.2.2.2.2.2.2.2.2.2
def dsL_law_1954 : ByteArray := ⟨#[54, 7, 167, 3, 207, 43, 42, 21, 5, 4, 96, 46, 45, 184, 1, 88]⟩
theorem daL_law_1954 : agB cL_law dsL_law_1954 1954 := agB_of (n := 16) (by decide +kernel)
theorem dbL_law_1954 : (decode dsL_law_1954 0 = .ok (.istore 7, 2) ∧ okop dsL_law_1954 0 = true) ∧ (decode dsL_law_1954 2 = .ok (.goto 975, 3) ∧ okop dsL_law_1954 2 = true) ∧ (decode dsL_law_1954 5 = .ok (.aload_n 1, 1) ∧ okop dsL_law_1954 5 = true) ∧ (decode dsL_law_1954 6 = .ok (.aload_n 0, 1) ∧ okop dsL_law_1954 6 = true) ∧ (decode dsL_law_1954 7 = .ok (.iload 5, 2) ∧ okop dsL_law_1954 7 = true) ∧ (decode dsL_law_1954 9 = .ok (.iconst 1, 1) ∧ okop dsL_law_1954 9 = true) ∧ (decode dsL_law_1954 10 = .ok (.iadd, 1) ∧ okop dsL_law_1954 10 = true) ∧ (decode dsL_law_1954 11 = .ok (.iaload, 1) ∧ okop dsL_law_1954 11 = true) ∧ (decode dsL_law_1954 12 = .ok (.aload_n 3, 1) ∧ okop dsL_law_1954 12 = true) ∧ (decode dsL_law_1954 13 = .ok (.invokestatic 344, 3) ∧ okop dsL_law_1954 13 = true) := by decide +kernel
theorem dL_law_1954 : decode cL_law 1954 = .ok (.istore 7, 2) := dgq (p := 0) daL_law_1954 dbL_law_1954.1
theorem dL_law_1956 : decode cL_law 1956 = .ok (.goto 975, 3) := dgq (p := 2) daL_law_1954 dbL_law_1954.2.1
theorem dL_law_1959 : decode cL_law 1959 = .ok (.aload_n 1, 1) := dgq (p := 5) daL_law_1954 dbL_law_1954.2.2.1
theorem dL_law_1960 : decode cL_law 1960 = .ok (.aload_n 0, 1) := dgq (p := 6) daL_law_1954 dbL_law_1954.2.2.2.1
theorem dL_law_1961 : decode cL_law 1961 = .ok (.iload 5, 2) := dgq (p := 7) daL_law_1954 dbL_law_1954.2.2.2.2.1
theorem dL_law_1963 : decode cL_law 1963 = .ok (.iconst 1, 1) := dgq (p := 9) daL_law_1954 dbL_law_1954.2.2.2.2.2.1
theorem dL_law_1964 : decode cL_law 1964 = .ok (.iadd, 1) := dgq (p := 10) daL_law_1954 dbL_law_1954.2.2.2.2.2.2.1
theorem dL_law_1965 : decode cL_law 1965 = .ok (.iaload, 1) := dgq (p := 11) daL_law_1954 dbL_law_1954.2.2.2.2.2.2.2.1
theorem dL_law_1966 : decode cL_law 1966 = .ok (.aload_n 3, 1) := dgq (p := 12) daL_law_1954 dbL_law_1954.2.2.2.2.2.2.2.2.1
theorem dL_law_1967 : decode cL_law 1967 = .ok (.invokestatic 344, 3) := dgq (p := 13) daL_law_1954 dbL_law_1954.2.2.2.2.2.2.2.2.2
def dsL_law_1970 : ByteArray := ⟨#[54, 6, 44, 42, 21, 5, 4, 96, 46, 182, 1, 90, 54, 7, 167, 3, 179]⟩
theorem daL_law_1970 : agB cL_law dsL_law_1970 1970 := agB_of (n := 17) (by decide +kernel)
theorem dbL_law_1970 : (decode dsL_law_1970 0 = .ok (.istore 6, 2) ∧ okop dsL_law_1970 0 = true) ∧ (decode dsL_law_1970 2 = .ok (.aload_n 2, 1) ∧ okop dsL_law_1970 2 = true) ∧ (decode dsL_law_1970 3 = .ok (.aload_n 0, 1) ∧ okop dsL_law_1970 3 = true) ∧ (decode dsL_law_1970 4 = .ok (.iload 5, 2) ∧ okop dsL_law_1970 4 = true) ∧ (decode dsL_law_1970 6 = .ok (.iconst 1, 1) ∧ okop dsL_law_1970 6 = true) ∧ (decode dsL_law_1970 7 = .ok (.iadd, 1) ∧ okop dsL_law_1970 7 = true) ∧ (decode dsL_law_1970 8 = .ok (.iaload, 1) ∧ okop dsL_law_1970 8 = true) ∧ (decode dsL_law_1970 9 = .ok (.invokevirtual 346, 3) ∧ okop dsL_law_1970 9 = true) ∧ (decode dsL_law_1970 12 = .ok (.istore 7, 2) ∧ okop dsL_law_1970 12 = true) ∧ (decode dsL_law_1970 14 = .ok (.goto 947, 3) ∧ okop dsL_law_1970 14 = true) := by decide +kernel
theorem dL_law_1970 : decode cL_law 1970 = .ok (.istore 6, 2) := dgq (p := 0) daL_law_1970 dbL_law_1970.1
theorem dL_law_1972 : decode cL_law 1972 = .ok (.aload_n 2, 1) := dgq (p := 2) daL_law_1970 dbL_law_1970.2.1
theorem dL_law_1973 : decode cL_law 1973 = .ok (.aload_n 0, 1) := dgq (p := 3) daL_law_1970 dbL_law_1970.2.2.1
theorem dL_law_1974 : decode cL_law 1974 = .ok (.iload 5, 2) := dgq (p := 4) daL_law_1970 dbL_law_1970.2.2.2.1
theorem dL_law_1976 : decode cL_law 1976 = .ok (.iconst 1, 1) := dgq (p := 6) daL_law_1970 dbL_law_1970.2.2.2.2.1
theorem dL_law_1977 : decode cL_law 1977 = .ok (.iadd, 1) := dgq (p := 7) daL_law_1970 dbL_law_1970.2.2.2.2.2.1
theorem dL_law_1978 : decode cL_law 1978 = .ok (.iaload, 1) := dgq (p := 8) daL_law_1970 dbL_law_1970.2.2.2.2.2.2.1
theorem dL_law_1979 : decode cL_law 1979 = .ok (.invokevirtual 346, 3) := dgq (p := 9) daL_law_1970 dbL_law_1970.2.2.2.2.2.2.2.1
theorem dL_law_1982 : decode cL_law 1982 = .ok (.istore 7, 2) := dgq (p := 12) daL_law_1970 dbL_law_1970.2.2.2.2.2.2.2.2.1
theorem dL_law_1984 : decode cL_law 1984 = .ok (.goto 947, 3) := dgq (p := 14) daL_law_1970 dbL_law_1970.2.2.2.2.2.2.2.2.2
def dsL_law_1987 : ByteArray := ⟨#[43, 42, 21, 5, 4, 96, 46, 42, 21, 5, 5, 96]⟩
theorem daL_law_1987 : agB cL_law dsL_law_1987 1987 := agB_of (n := 12) (by decide +kernel)
theorem dbL_law_1987 : (decode dsL_law_1987 0 = .ok (.aload_n 1, 1) ∧ okop dsL_law_1987 0 = true) ∧ (decode dsL_law_1987 1 = .ok (.aload_n 0, 1) ∧ okop dsL_law_1987 1 = true) ∧ (decode dsL_law_1987 2 = .ok (.iload 5, 2) ∧ okop dsL_law_1987 2 = true) ∧ (decode dsL_law_1987 4 = .ok (.iconst 1, 1) ∧ okop dsL_law_1987 4 = true) ∧ (decode dsL_law_1987 5 = .ok (.iadd, 1) ∧ okop dsL_law_1987 5 = true) ∧ (decode dsL_law_1987 6 = .ok (.iaload, 1) ∧ okop dsL_law_1987 6 = true) ∧ (decode dsL_law_1987 7 = .ok (.aload_n 0, 1) ∧ okop dsL_law_1987 7 = true) ∧ (decode dsL_law_1987 8 = .ok (.iload 5, 2) ∧ okop dsL_law_1987 8 = true) ∧ (decode dsL_law_1987 10 = .ok (.iconst 2, 1) ∧ okop dsL_law_1987 10 = true) ∧ (decode dsL_law_1987 11 = .ok (.iadd, 1) ∧ okop dsL_law_1987 11 = true) := by decide +kernel
theorem dL_law_1987 : decode cL_law 1987 = .ok (.aload_n 1, 1) := dgq (p := 0) daL_law_1987 dbL_law_1987.1
theorem dL_law_1988 : decode cL_law 1988 = .ok (.aload_n 0, 1) := dgq (p := 1) daL_law_1987 dbL_law_1987.2.1
theorem dL_law_1989 : decode cL_law 1989 = .ok (.iload 5, 2) := dgq (p := 2) daL_law_1987 dbL_law_1987.2.2.1
theorem dL_law_1991 : decode cL_law 1991 = .ok (.iconst 1, 1) := dgq (p := 4) daL_law_1987 dbL_law_1987.2.2.2.1
theorem dL_law_1992 : decode cL_law 1992 = .ok (.iadd, 1) := dgq (p := 5) daL_law_1987 dbL_law_1987.2.2.2.2.1
theorem dL_law_1993 : decode cL_law 1993 = .ok (.iaload, 1) := dgq (p := 6) daL_law_1987 dbL_law_1987.2.2.2.2.2.1
theorem dL_law_1994 : decode cL_law 1994 = .ok (.aload_n 0, 1) := dgq (p := 7) daL_law_1987 dbL_law_1987.2.2.2.2.2.2.1
theorem dL_law_1995 : decode cL_law 1995 = .ok (.iload 5, 2) := dgq (p := 8) daL_law_1987 dbL_law_1987.2.2.2.2.2.2.2.1
theorem dL_law_1997 : decode cL_law 1997 = .ok (.iconst 2, 1) := dgq (p := 10) daL_law_1987 dbL_law_1987.2.2.2.2.2.2.2.2.1
theorem dL_law_1998 : decode cL_law 1998 = .ok (.iadd, 1) := dgq (p := 11) daL_law_1987 dbL_law_1987.2.2.2.2.2.2.2.2.2
def dsL_law_1999 : ByteArray := ⟨#[46, 42, 21, 5, 6, 96, 46, 45, 184, 1, 91, 54, 6, 44]⟩
theorem daL_law_1999 : agB cL_law dsL_law_1999 1999 := agB_of (n := 14) (by decide +kernel)
theorem dbL_law_1999 : (decode dsL_law_1999 0 = .ok (.iaload, 1) ∧ okop dsL_law_1999 0 = true) ∧ (decode dsL_law_1999 1 = .ok (.aload_n 0, 1) ∧ okop dsL_law_1999 1 = true) ∧ (decode dsL_law_1999 2 = .ok (.iload 5, 2) ∧ okop dsL_law_1999 2 = true) ∧ (decode dsL_law_1999 4 = .ok (.iconst 3, 1) ∧ okop dsL_law_1999 4 = true) ∧ (decode dsL_law_1999 5 = .ok (.iadd, 1) ∧ okop dsL_law_1999 5 = true) ∧ (decode dsL_law_1999 6 = .ok (.iaload, 1) ∧ okop dsL_law_1999 6 = true) ∧ (decode dsL_law_1999 7 = .ok (.aload_n 3, 1) ∧ okop dsL_law_1999 7 = true) ∧ (decode dsL_law_1999 8 = .ok (.invokestatic 347, 3) ∧ okop dsL_law_1999 8 = true) ∧ (decode dsL_law_1999 11 = .ok (.istore 6, 2) ∧ okop dsL_law_1999 11 = true) ∧ (decode dsL_law_1999 13 = .ok (.aload_n 2, 1) ∧ okop dsL_law_1999 13 = true) := by decide +kernel
theorem dL_law_1999 : decode cL_law 1999 = .ok (.iaload, 1) := dgq (p := 0) daL_law_1999 dbL_law_1999.1
theorem dL_law_2000 : decode cL_law 2000 = .ok (.aload_n 0, 1) := dgq (p := 1) daL_law_1999 dbL_law_1999.2.1
theorem dL_law_2001 : decode cL_law 2001 = .ok (.iload 5, 2) := dgq (p := 2) daL_law_1999 dbL_law_1999.2.2.1
theorem dL_law_2003 : decode cL_law 2003 = .ok (.iconst 3, 1) := dgq (p := 4) daL_law_1999 dbL_law_1999.2.2.2.1
theorem dL_law_2004 : decode cL_law 2004 = .ok (.iadd, 1) := dgq (p := 5) daL_law_1999 dbL_law_1999.2.2.2.2.1
theorem dL_law_2005 : decode cL_law 2005 = .ok (.iaload, 1) := dgq (p := 6) daL_law_1999 dbL_law_1999.2.2.2.2.2.1
theorem dL_law_2006 : decode cL_law 2006 = .ok (.aload_n 3, 1) := dgq (p := 7) daL_law_1999 dbL_law_1999.2.2.2.2.2.2.1
theorem dL_law_2007 : decode cL_law 2007 = .ok (.invokestatic 347, 3) := dgq (p := 8) daL_law_1999 dbL_law_1999.2.2.2.2.2.2.2.1
theorem dL_law_2010 : decode cL_law 2010 = .ok (.istore 6, 2) := dgq (p := 11) daL_law_1999 dbL_law_1999.2.2.2.2.2.2.2.2.1
theorem dL_law_2012 : decode cL_law 2012 = .ok (.aload_n 2, 1) := dgq (p := 13) daL_law_1999 dbL_law_1999.2.2.2.2.2.2.2.2.2
def dsL_law_2013 : ByteArray := ⟨#[42, 21, 5, 4, 96, 46, 42, 21, 5, 5, 96, 46]⟩
theorem daL_law_2013 : agB cL_law dsL_law_2013 2013 := agB_of (n := 12) (by decide +kernel)
theorem dbL_law_2013 : (decode dsL_law_2013 0 = .ok (.aload_n 0, 1) ∧ okop dsL_law_2013 0 = true) ∧ (decode dsL_law_2013 1 = .ok (.iload 5, 2) ∧ okop dsL_law_2013 1 = true) ∧ (decode dsL_law_2013 3 = .ok (.iconst 1, 1) ∧ okop dsL_law_2013 3 = true) ∧ (decode dsL_law_2013 4 = .ok (.iadd, 1) ∧ okop dsL_law_2013 4 = true) ∧ (decode dsL_law_2013 5 = .ok (.iaload, 1) ∧ okop dsL_law_2013 5 = true) ∧ (decode dsL_law_2013 6 = .ok (.aload_n 0, 1) ∧ okop dsL_law_2013 6 = true) ∧ (decode dsL_law_2013 7 = .ok (.iload 5, 2) ∧ okop dsL_law_2013 7 = true) ∧ (decode dsL_law_2013 9 = .ok (.iconst 2, 1) ∧ okop dsL_law_2013 9 = true) ∧ (decode dsL_law_2013 10 = .ok (.iadd, 1) ∧ okop dsL_law_2013 10 = true) ∧ (decode dsL_law_2013 11 = .ok (.iaload, 1) ∧ okop dsL_law_2013 11 = true) := by decide +kernel
theorem dL_law_2013 : decode cL_law 2013 = .ok (.aload_n 0, 1) := dgq (p := 0) daL_law_2013 dbL_law_2013.1
theorem dL_law_2014 : decode cL_law 2014 = .ok (.iload 5, 2) := dgq (p := 1) daL_law_2013 dbL_law_2013.2.1
theorem dL_law_2016 : decode cL_law 2016 = .ok (.iconst 1, 1) := dgq (p := 3) daL_law_2013 dbL_law_2013.2.2.1
theorem dL_law_2017 : decode cL_law 2017 = .ok (.iadd, 1) := dgq (p := 4) daL_law_2013 dbL_law_2013.2.2.2.1
theorem dL_law_2018 : decode cL_law 2018 = .ok (.iaload, 1) := dgq (p := 5) daL_law_2013 dbL_law_2013.2.2.2.2.1
theorem dL_law_2019 : decode cL_law 2019 = .ok (.aload_n 0, 1) := dgq (p := 6) daL_law_2013 dbL_law_2013.2.2.2.2.2.1
theorem dL_law_2020 : decode cL_law 2020 = .ok (.iload 5, 2) := dgq (p := 7) daL_law_2013 dbL_law_2013.2.2.2.2.2.2.1
theorem dL_law_2022 : decode cL_law 2022 = .ok (.iconst 2, 1) := dgq (p := 9) daL_law_2013 dbL_law_2013.2.2.2.2.2.2.2.1
theorem dL_law_2023 : decode cL_law 2023 = .ok (.iadd, 1) := dgq (p := 10) daL_law_2013 dbL_law_2013.2.2.2.2.2.2.2.2.1
theorem dL_law_2024 : decode cL_law 2024 = .ok (.iaload, 1) := dgq (p := 11) daL_law_2013 dbL_law_2013.2.2.2.2.2.2.2.2.2
def dsL_law_2025 : ByteArray := ⟨#[42, 21, 5, 6, 96, 46, 182, 1, 93, 54, 7, 167, 3, 127, 43, 42]⟩
theorem daL_law_2025 : agB cL_law dsL_law_2025 2025 := agB_of (n := 16) (by decide +kernel)
theorem dbL_law_2025 : (decode dsL_law_2025 0 = .ok (.aload_n 0, 1) ∧ okop dsL_law_2025 0 = true) ∧ (decode dsL_law_2025 1 = .ok (.iload 5, 2) ∧ okop dsL_law_2025 1 = true) ∧ (decode dsL_law_2025 3 = .ok (.iconst 3, 1) ∧ okop dsL_law_2025 3 = true) ∧ (decode dsL_law_2025 4 = .ok (.iadd, 1) ∧ okop dsL_law_2025 4 = true) ∧ (decode dsL_law_2025 5 = .ok (.iaload, 1) ∧ okop dsL_law_2025 5 = true) ∧ (decode dsL_law_2025 6 = .ok (.invokevirtual 349, 3) ∧ okop dsL_law_2025 6 = true) ∧ (decode dsL_law_2025 9 = .ok (.istore 7, 2) ∧ okop dsL_law_2025 9 = true) ∧ (decode dsL_law_2025 11 = .ok (.goto 895, 3) ∧ okop dsL_law_2025 11 = true) ∧ (decode dsL_law_2025 14 = .ok (.aload_n 1, 1) ∧ okop dsL_law_2025 14 = true) ∧ (decode dsL_law_2025 15 = .ok (.aload_n 0, 1) ∧ okop dsL_law_2025 15 = true) := by decide +kernel
theorem dL_law_2025 : decode cL_law 2025 = .ok (.aload_n 0, 1) := dgq (p := 0) daL_law_2025 dbL_law_2025.1
theorem dL_law_2026 : decode cL_law 2026 = .ok (.iload 5, 2) := dgq (p := 1) daL_law_2025 dbL_law_2025.2.1
theorem dL_law_2028 : decode cL_law 2028 = .ok (.iconst 3, 1) := dgq (p := 3) daL_law_2025 dbL_law_2025.2.2.1
theorem dL_law_2029 : decode cL_law 2029 = .ok (.iadd, 1) := dgq (p := 4) daL_law_2025 dbL_law_2025.2.2.2.1
theorem dL_law_2030 : decode cL_law 2030 = .ok (.iaload, 1) := dgq (p := 5) daL_law_2025 dbL_law_2025.2.2.2.2.1
theorem dL_law_2031 : decode cL_law 2031 = .ok (.invokevirtual 349, 3) := dgq (p := 6) daL_law_2025 dbL_law_2025.2.2.2.2.2.1
theorem dL_law_2034 : decode cL_law 2034 = .ok (.istore 7, 2) := dgq (p := 9) daL_law_2025 dbL_law_2025.2.2.2.2.2.2.1
theorem dL_law_2036 : decode cL_law 2036 = .ok (.goto 895, 3) := dgq (p := 11) daL_law_2025 dbL_law_2025.2.2.2.2.2.2.2.1
theorem dL_law_2039 : decode cL_law 2039 = .ok (.aload_n 1, 1) := dgq (p := 14) daL_law_2025 dbL_law_2025.2.2.2.2.2.2.2.2.1
theorem dL_law_2040 : decode cL_law 2040 = .ok (.aload_n 0, 1) := dgq (p := 15) daL_law_2025 dbL_law_2025.2.2.2.2.2.2.2.2.2
def dsL_law_2041 : ByteArray := ⟨#[21, 5, 4, 96, 46, 45, 184, 1, 94, 54, 6, 44, 42, 21, 5]⟩
theorem daL_law_2041 : agB cL_law dsL_law_2041 2041 := agB_of (n := 15) (by decide +kernel)
theorem dbL_law_2041 : (decode dsL_law_2041 0 = .ok (.iload 5, 2) ∧ okop dsL_law_2041 0 = true) ∧ (decode dsL_law_2041 2 = .ok (.iconst 1, 1) ∧ okop dsL_law_2041 2 = true) ∧ (decode dsL_law_2041 3 = .ok (.iadd, 1) ∧ okop dsL_law_2041 3 = true) ∧ (decode dsL_law_2041 4 = .ok (.iaload, 1) ∧ okop dsL_law_2041 4 = true) ∧ (decode dsL_law_2041 5 = .ok (.aload_n 3, 1) ∧ okop dsL_law_2041 5 = true) ∧ (decode dsL_law_2041 6 = .ok (.invokestatic 350, 3) ∧ okop dsL_law_2041 6 = true) ∧ (decode dsL_law_2041 9 = .ok (.istore 6, 2) ∧ okop dsL_law_2041 9 = true) ∧ (decode dsL_law_2041 11 = .ok (.aload_n 2, 1) ∧ okop dsL_law_2041 11 = true) ∧ (decode dsL_law_2041 12 = .ok (.aload_n 0, 1) ∧ okop dsL_law_2041 12 = true) ∧ (decode dsL_law_2041 13 = .ok (.iload 5, 2) ∧ okop dsL_law_2041 13 = true) := by decide +kernel
theorem dL_law_2041 : decode cL_law 2041 = .ok (.iload 5, 2) := dgq (p := 0) daL_law_2041 dbL_law_2041.1
theorem dL_law_2043 : decode cL_law 2043 = .ok (.iconst 1, 1) := dgq (p := 2) daL_law_2041 dbL_law_2041.2.1
theorem dL_law_2044 : decode cL_law 2044 = .ok (.iadd, 1) := dgq (p := 3) daL_law_2041 dbL_law_2041.2.2.1
theorem dL_law_2045 : decode cL_law 2045 = .ok (.iaload, 1) := dgq (p := 4) daL_law_2041 dbL_law_2041.2.2.2.1
theorem dL_law_2046 : decode cL_law 2046 = .ok (.aload_n 3, 1) := dgq (p := 5) daL_law_2041 dbL_law_2041.2.2.2.2.1
theorem dL_law_2047 : decode cL_law 2047 = .ok (.invokestatic 350, 3) := dgq (p := 6) daL_law_2041 dbL_law_2041.2.2.2.2.2.1
theorem dL_law_2050 : decode cL_law 2050 = .ok (.istore 6, 2) := dgq (p := 9) daL_law_2041 dbL_law_2041.2.2.2.2.2.2.1
theorem dL_law_2052 : decode cL_law 2052 = .ok (.aload_n 2, 1) := dgq (p := 11) daL_law_2041 dbL_law_2041.2.2.2.2.2.2.2.1
theorem dL_law_2053 : decode cL_law 2053 = .ok (.aload_n 0, 1) := dgq (p := 12) daL_law_2041 dbL_law_2041.2.2.2.2.2.2.2.2.1
theorem dL_law_2054 : decode cL_law 2054 = .ok (.iload 5, 2) := dgq (p := 13) daL_law_2041 dbL_law_2041.2.2.2.2.2.2.2.2.2
def dsL_law_2056 : ByteArray := ⟨#[4, 96, 46, 182, 1, 96, 54, 7, 167, 3, 99, 43, 42, 21, 5, 4]⟩
theorem daL_law_2056 : agB cL_law dsL_law_2056 2056 := agB_of (n := 16) (by decide +kernel)
theorem dbL_law_2056 : (decode dsL_law_2056 0 = .ok (.iconst 1, 1) ∧ okop dsL_law_2056 0 = true) ∧ (decode dsL_law_2056 1 = .ok (.iadd, 1) ∧ okop dsL_law_2056 1 = true) ∧ (decode dsL_law_2056 2 = .ok (.iaload, 1) ∧ okop dsL_law_2056 2 = true) ∧ (decode dsL_law_2056 3 = .ok (.invokevirtual 352, 3) ∧ okop dsL_law_2056 3 = true) ∧ (decode dsL_law_2056 6 = .ok (.istore 7, 2) ∧ okop dsL_law_2056 6 = true) ∧ (decode dsL_law_2056 8 = .ok (.goto 867, 3) ∧ okop dsL_law_2056 8 = true) ∧ (decode dsL_law_2056 11 = .ok (.aload_n 1, 1) ∧ okop dsL_law_2056 11 = true) ∧ (decode dsL_law_2056 12 = .ok (.aload_n 0, 1) ∧ okop dsL_law_2056 12 = true) ∧ (decode dsL_law_2056 13 = .ok (.iload 5, 2) ∧ okop dsL_law_2056 13 = true) ∧ (decode dsL_law_2056 15 = .ok (.iconst 1, 1) ∧ okop dsL_law_2056 15 = true) := by decide +kernel
theorem dL_law_2056 : decode cL_law 2056 = .ok (.iconst 1, 1) := dgq (p := 0) daL_law_2056 dbL_law_2056.1
theorem dL_law_2057 : decode cL_law 2057 = .ok (.iadd, 1) := dgq (p := 1) daL_law_2056 dbL_law_2056.2.1
theorem dL_law_2058 : decode cL_law 2058 = .ok (.iaload, 1) := dgq (p := 2) daL_law_2056 dbL_law_2056.2.2.1
theorem dL_law_2059 : decode cL_law 2059 = .ok (.invokevirtual 352, 3) := dgq (p := 3) daL_law_2056 dbL_law_2056.2.2.2.1
theorem dL_law_2062 : decode cL_law 2062 = .ok (.istore 7, 2) := dgq (p := 6) daL_law_2056 dbL_law_2056.2.2.2.2.1
theorem dL_law_2064 : decode cL_law 2064 = .ok (.goto 867, 3) := dgq (p := 8) daL_law_2056 dbL_law_2056.2.2.2.2.2.1
theorem dL_law_2067 : decode cL_law 2067 = .ok (.aload_n 1, 1) := dgq (p := 11) daL_law_2056 dbL_law_2056.2.2.2.2.2.2.1
theorem dL_law_2068 : decode cL_law 2068 = .ok (.aload_n 0, 1) := dgq (p := 12) daL_law_2056 dbL_law_2056.2.2.2.2.2.2.2.1
theorem dL_law_2069 : decode cL_law 2069 = .ok (.iload 5, 2) := dgq (p := 13) daL_law_2056 dbL_law_2056.2.2.2.2.2.2.2.2.1
theorem dL_law_2071 : decode cL_law 2071 = .ok (.iconst 1, 1) := dgq (p := 15) daL_law_2056 dbL_law_2056.2.2.2.2.2.2.2.2.2
def dsL_law_2072 : ByteArray := ⟨#[96, 46, 45, 184, 1, 97, 54, 6, 44, 42, 21, 5, 4, 96]⟩
theorem daL_law_2072 : agB cL_law dsL_law_2072 2072 := agB_of (n := 14) (by decide +kernel)
theorem dbL_law_2072 : (decode dsL_law_2072 0 = .ok (.iadd, 1) ∧ okop dsL_law_2072 0 = true) ∧ (decode dsL_law_2072 1 = .ok (.iaload, 1) ∧ okop dsL_law_2072 1 = true) ∧ (decode dsL_law_2072 2 = .ok (.aload_n 3, 1) ∧ okop dsL_law_2072 2 = true) ∧ (decode dsL_law_2072 3 = .ok (.invokestatic 353, 3) ∧ okop dsL_law_2072 3 = true) ∧ (decode dsL_law_2072 6 = .ok (.istore 6, 2) ∧ okop dsL_law_2072 6 = true) ∧ (decode dsL_law_2072 8 = .ok (.aload_n 2, 1) ∧ okop dsL_law_2072 8 = true) ∧ (decode dsL_law_2072 9 = .ok (.aload_n 0, 1) ∧ okop dsL_law_2072 9 = true) ∧ (decode dsL_law_2072 10 = .ok (.iload 5, 2) ∧ okop dsL_law_2072 10 = true) ∧ (decode dsL_law_2072 12 = .ok (.iconst 1, 1) ∧ okop dsL_law_2072 12 = true) ∧ (decode dsL_law_2072 13 = .ok (.iadd, 1) ∧ okop dsL_law_2072 13 = true) := by decide +kernel
theorem dL_law_2072 : decode cL_law 2072 = .ok (.iadd, 1) := dgq (p := 0) daL_law_2072 dbL_law_2072.1
theorem dL_law_2073 : decode cL_law 2073 = .ok (.iaload, 1) := dgq (p := 1) daL_law_2072 dbL_law_2072.2.1
theorem dL_law_2074 : decode cL_law 2074 = .ok (.aload_n 3, 1) := dgq (p := 2) daL_law_2072 dbL_law_2072.2.2.1
theorem dL_law_2075 : decode cL_law 2075 = .ok (.invokestatic 353, 3) := dgq (p := 3) daL_law_2072 dbL_law_2072.2.2.2.1
theorem dL_law_2078 : decode cL_law 2078 = .ok (.istore 6, 2) := dgq (p := 6) daL_law_2072 dbL_law_2072.2.2.2.2.1
theorem dL_law_2080 : decode cL_law 2080 = .ok (.aload_n 2, 1) := dgq (p := 8) daL_law_2072 dbL_law_2072.2.2.2.2.2.1
theorem dL_law_2081 : decode cL_law 2081 = .ok (.aload_n 0, 1) := dgq (p := 9) daL_law_2072 dbL_law_2072.2.2.2.2.2.2.1
theorem dL_law_2082 : decode cL_law 2082 = .ok (.iload 5, 2) := dgq (p := 10) daL_law_2072 dbL_law_2072.2.2.2.2.2.2.2.1
theorem dL_law_2084 : decode cL_law 2084 = .ok (.iconst 1, 1) := dgq (p := 12) daL_law_2072 dbL_law_2072.2.2.2.2.2.2.2.2.1
theorem dL_law_2085 : decode cL_law 2085 = .ok (.iadd, 1) := dgq (p := 13) daL_law_2072 dbL_law_2072.2.2.2.2.2.2.2.2.2
def dsL_law_2086 : ByteArray := ⟨#[46, 182, 1, 99, 54, 7, 167, 3, 71, 43, 42, 21, 5, 4, 96, 46]⟩
theorem daL_law_2086 : agB cL_law dsL_law_2086 2086 := agB_of (n := 16) (by decide +kernel)
theorem dbL_law_2086 : (decode dsL_law_2086 0 = .ok (.iaload, 1) ∧ okop dsL_law_2086 0 = true) ∧ (decode dsL_law_2086 1 = .ok (.invokevirtual 355, 3) ∧ okop dsL_law_2086 1 = true) ∧ (decode dsL_law_2086 4 = .ok (.istore 7, 2) ∧ okop dsL_law_2086 4 = true) ∧ (decode dsL_law_2086 6 = .ok (.goto 839, 3) ∧ okop dsL_law_2086 6 = true) ∧ (decode dsL_law_2086 9 = .ok (.aload_n 1, 1) ∧ okop dsL_law_2086 9 = true) ∧ (decode dsL_law_2086 10 = .ok (.aload_n 0, 1) ∧ okop dsL_law_2086 10 = true) ∧ (decode dsL_law_2086 11 = .ok (.iload 5, 2) ∧ okop dsL_law_2086 11 = true) ∧ (decode dsL_law_2086 13 = .ok (.iconst 1, 1) ∧ okop dsL_law_2086 13 = true) ∧ (decode dsL_law_2086 14 = .ok (.iadd, 1) ∧ okop dsL_law_2086 14 = true) ∧ (decode dsL_law_2086 15 = .ok (.iaload, 1) ∧ okop dsL_law_2086 15 = true) := by decide +kernel
theorem dL_law_2086 : decode cL_law 2086 = .ok (.iaload, 1) := dgq (p := 0) daL_law_2086 dbL_law_2086.1
theorem dL_law_2087 : decode cL_law 2087 = .ok (.invokevirtual 355, 3) := dgq (p := 1) daL_law_2086 dbL_law_2086.2.1
theorem dL_law_2090 : decode cL_law 2090 = .ok (.istore 7, 2) := dgq (p := 4) daL_law_2086 dbL_law_2086.2.2.1
theorem dL_law_2092 : decode cL_law 2092 = .ok (.goto 839, 3) := dgq (p := 6) daL_law_2086 dbL_law_2086.2.2.2.1
theorem dL_law_2095 : decode cL_law 2095 = .ok (.aload_n 1, 1) := dgq (p := 9) daL_law_2086 dbL_law_2086.2.2.2.2.1
theorem dL_law_2096 : decode cL_law 2096 = .ok (.aload_n 0, 1) := dgq (p := 10) daL_law_2086 dbL_law_2086.2.2.2.2.2.1
theorem dL_law_2097 : decode cL_law 2097 = .ok (.iload 5, 2) := dgq (p := 11) daL_law_2086 dbL_law_2086.2.2.2.2.2.2.1
theorem dL_law_2099 : decode cL_law 2099 = .ok (.iconst 1, 1) := dgq (p := 13) daL_law_2086 dbL_law_2086.2.2.2.2.2.2.2.1
theorem dL_law_2100 : decode cL_law 2100 = .ok (.iadd, 1) := dgq (p := 14) daL_law_2086 dbL_law_2086.2.2.2.2.2.2.2.2.1
theorem dL_law_2101 : decode cL_law 2101 = .ok (.iaload, 1) := dgq (p := 15) daL_law_2086 dbL_law_2086.2.2.2.2.2.2.2.2.2
def dsL_law_2102 : ByteArray := ⟨#[42, 21, 5, 5, 96, 46, 45, 184, 1, 100, 54, 6, 44, 42]⟩
theorem daL_law_2102 : agB cL_law dsL_law_2102 2102 := agB_of (n := 14) (by decide +kernel)
theorem dbL_law_2102 : (decode dsL_law_2102 0 = .ok (.aload_n 0, 1) ∧ okop dsL_law_2102 0 = true) ∧ (decode dsL_law_2102 1 = .ok (.iload 5, 2) ∧ okop dsL_law_2102 1 = true) ∧ (decode dsL_law_2102 3 = .ok (.iconst 2, 1) ∧ okop dsL_law_2102 3 = true) ∧ (decode dsL_law_2102 4 = .ok (.iadd, 1) ∧ okop dsL_law_2102 4 = true) ∧ (decode dsL_law_2102 5 = .ok (.iaload, 1) ∧ okop dsL_law_2102 5 = true) ∧ (decode dsL_law_2102 6 = .ok (.aload_n 3, 1) ∧ okop dsL_law_2102 6 = true) ∧ (decode dsL_law_2102 7 = .ok (.invokestatic 356, 3) ∧ okop dsL_law_2102 7 = true) ∧ (decode dsL_law_2102 10 = .ok (.istore 6, 2) ∧ okop dsL_law_2102 10 = true) ∧ (decode dsL_law_2102 12 = .ok (.aload_n 2, 1) ∧ okop dsL_law_2102 12 = true) ∧ (decode dsL_law_2102 13 = .ok (.aload_n 0, 1) ∧ okop dsL_law_2102 13 = true) := by decide +kernel
theorem dL_law_2102 : decode cL_law 2102 = .ok (.aload_n 0, 1) := dgq (p := 0) daL_law_2102 dbL_law_2102.1
theorem dL_law_2103 : decode cL_law 2103 = .ok (.iload 5, 2) := dgq (p := 1) daL_law_2102 dbL_law_2102.2.1
theorem dL_law_2105 : decode cL_law 2105 = .ok (.iconst 2, 1) := dgq (p := 3) daL_law_2102 dbL_law_2102.2.2.1
theorem dL_law_2106 : decode cL_law 2106 = .ok (.iadd, 1) := dgq (p := 4) daL_law_2102 dbL_law_2102.2.2.2.1
theorem dL_law_2107 : decode cL_law 2107 = .ok (.iaload, 1) := dgq (p := 5) daL_law_2102 dbL_law_2102.2.2.2.2.1
theorem dL_law_2108 : decode cL_law 2108 = .ok (.aload_n 3, 1) := dgq (p := 6) daL_law_2102 dbL_law_2102.2.2.2.2.2.1
theorem dL_law_2109 : decode cL_law 2109 = .ok (.invokestatic 356, 3) := dgq (p := 7) daL_law_2102 dbL_law_2102.2.2.2.2.2.2.1
theorem dL_law_2112 : decode cL_law 2112 = .ok (.istore 6, 2) := dgq (p := 10) daL_law_2102 dbL_law_2102.2.2.2.2.2.2.2.1
theorem dL_law_2114 : decode cL_law 2114 = .ok (.aload_n 2, 1) := dgq (p := 12) daL_law_2102 dbL_law_2102.2.2.2.2.2.2.2.2.1
theorem dL_law_2115 : decode cL_law 2115 = .ok (.aload_n 0, 1) := dgq (p := 13) daL_law_2102 dbL_law_2102.2.2.2.2.2.2.2.2.2
def dsL_law_2116 : ByteArray := ⟨#[21, 5, 4, 96, 46, 42, 21, 5, 5, 96, 46, 182, 1, 102]⟩
theorem daL_law_2116 : agB cL_law dsL_law_2116 2116 := agB_of (n := 14) (by decide +kernel)
theorem dbL_law_2116 : (decode dsL_law_2116 0 = .ok (.iload 5, 2) ∧ okop dsL_law_2116 0 = true) ∧ (decode dsL_law_2116 2 = .ok (.iconst 1, 1) ∧ okop dsL_law_2116 2 = true) ∧ (decode dsL_law_2116 3 = .ok (.iadd, 1) ∧ okop dsL_law_2116 3 = true) ∧ (decode dsL_law_2116 4 = .ok (.iaload, 1) ∧ okop dsL_law_2116 4 = true) ∧ (decode dsL_law_2116 5 = .ok (.aload_n 0, 1) ∧ okop dsL_law_2116 5 = true) ∧ (decode dsL_law_2116 6 = .ok (.iload 5, 2) ∧ okop dsL_law_2116 6 = true) ∧ (decode dsL_law_2116 8 = .ok (.iconst 2, 1) ∧ okop dsL_law_2116 8 = true) ∧ (decode dsL_law_2116 9 = .ok (.iadd, 1) ∧ okop dsL_law_2116 9 = true) ∧ (decode dsL_law_2116 10 = .ok (.iaload, 1) ∧ okop dsL_law_2116 10 = true) ∧ (decode dsL_law_2116 11 = .ok (.invokevirtual 358, 3) ∧ okop dsL_law_2116 11 = true) := by decide +kernel
theorem dL_law_2116 : decode cL_law 2116 = .ok (.iload 5, 2) := dgq (p := 0) daL_law_2116 dbL_law_2116.1
theorem dL_law_2118 : decode cL_law 2118 = .ok (.iconst 1, 1) := dgq (p := 2) daL_law_2116 dbL_law_2116.2.1
theorem dL_law_2119 : decode cL_law 2119 = .ok (.iadd, 1) := dgq (p := 3) daL_law_2116 dbL_law_2116.2.2.1
theorem dL_law_2120 : decode cL_law 2120 = .ok (.iaload, 1) := dgq (p := 4) daL_law_2116 dbL_law_2116.2.2.2.1
theorem dL_law_2121 : decode cL_law 2121 = .ok (.aload_n 0, 1) := dgq (p := 5) daL_law_2116 dbL_law_2116.2.2.2.2.1
theorem dL_law_2122 : decode cL_law 2122 = .ok (.iload 5, 2) := dgq (p := 6) daL_law_2116 dbL_law_2116.2.2.2.2.2.1
theorem dL_law_2124 : decode cL_law 2124 = .ok (.iconst 2, 1) := dgq (p := 8) daL_law_2116 dbL_law_2116.2.2.2.2.2.2.1
theorem dL_law_2125 : decode cL_law 2125 = .ok (.iadd, 1) := dgq (p := 9) daL_law_2116 dbL_law_2116.2.2.2.2.2.2.2.1
theorem dL_law_2126 : decode cL_law 2126 = .ok (.iaload, 1) := dgq (p := 10) daL_law_2116 dbL_law_2116.2.2.2.2.2.2.2.2.1
theorem dL_law_2127 : decode cL_law 2127 = .ok (.invokevirtual 358, 3) := dgq (p := 11) daL_law_2116 dbL_law_2116.2.2.2.2.2.2.2.2.2
def dsL_law_2130 : ByteArray := ⟨#[54, 7, 167, 3, 31, 43, 42, 21, 5, 4, 96, 46, 45, 184, 1, 103]⟩
theorem daL_law_2130 : agB cL_law dsL_law_2130 2130 := agB_of (n := 16) (by decide +kernel)
theorem dbL_law_2130 : (decode dsL_law_2130 0 = .ok (.istore 7, 2) ∧ okop dsL_law_2130 0 = true) ∧ (decode dsL_law_2130 2 = .ok (.goto 799, 3) ∧ okop dsL_law_2130 2 = true) ∧ (decode dsL_law_2130 5 = .ok (.aload_n 1, 1) ∧ okop dsL_law_2130 5 = true) ∧ (decode dsL_law_2130 6 = .ok (.aload_n 0, 1) ∧ okop dsL_law_2130 6 = true) ∧ (decode dsL_law_2130 7 = .ok (.iload 5, 2) ∧ okop dsL_law_2130 7 = true) ∧ (decode dsL_law_2130 9 = .ok (.iconst 1, 1) ∧ okop dsL_law_2130 9 = true) ∧ (decode dsL_law_2130 10 = .ok (.iadd, 1) ∧ okop dsL_law_2130 10 = true) ∧ (decode dsL_law_2130 11 = .ok (.iaload, 1) ∧ okop dsL_law_2130 11 = true) ∧ (decode dsL_law_2130 12 = .ok (.aload_n 3, 1) ∧ okop dsL_law_2130 12 = true) ∧ (decode dsL_law_2130 13 = .ok (.invokestatic 359, 3) ∧ okop dsL_law_2130 13 = true) := by decide +kernel
theorem dL_law_2130 : decode cL_law 2130 = .ok (.istore 7, 2) := dgq (p := 0) daL_law_2130 dbL_law_2130.1
theorem dL_law_2132 : decode cL_law 2132 = .ok (.goto 799, 3) := dgq (p := 2) daL_law_2130 dbL_law_2130.2.1
theorem dL_law_2135 : decode cL_law 2135 = .ok (.aload_n 1, 1) := dgq (p := 5) daL_law_2130 dbL_law_2130.2.2.1
theorem dL_law_2136 : decode cL_law 2136 = .ok (.aload_n 0, 1) := dgq (p := 6) daL_law_2130 dbL_law_2130.2.2.2.1
theorem dL_law_2137 : decode cL_law 2137 = .ok (.iload 5, 2) := dgq (p := 7) daL_law_2130 dbL_law_2130.2.2.2.2.1
theorem dL_law_2139 : decode cL_law 2139 = .ok (.iconst 1, 1) := dgq (p := 9) daL_law_2130 dbL_law_2130.2.2.2.2.2.1
theorem dL_law_2140 : decode cL_law 2140 = .ok (.iadd, 1) := dgq (p := 10) daL_law_2130 dbL_law_2130.2.2.2.2.2.2.1
theorem dL_law_2141 : decode cL_law 2141 = .ok (.iaload, 1) := dgq (p := 11) daL_law_2130 dbL_law_2130.2.2.2.2.2.2.2.1
theorem dL_law_2142 : decode cL_law 2142 = .ok (.aload_n 3, 1) := dgq (p := 12) daL_law_2130 dbL_law_2130.2.2.2.2.2.2.2.2.1
theorem dL_law_2143 : decode cL_law 2143 = .ok (.invokestatic 359, 3) := dgq (p := 13) daL_law_2130 dbL_law_2130.2.2.2.2.2.2.2.2.2
def dsL_law_2146 : ByteArray := ⟨#[54, 6, 44, 42, 21, 5, 4, 96, 46, 182, 1, 105, 54, 7, 167, 3, 3]⟩
theorem daL_law_2146 : agB cL_law dsL_law_2146 2146 := agB_of (n := 17) (by decide +kernel)
theorem dbL_law_2146 : (decode dsL_law_2146 0 = .ok (.istore 6, 2) ∧ okop dsL_law_2146 0 = true) ∧ (decode dsL_law_2146 2 = .ok (.aload_n 2, 1) ∧ okop dsL_law_2146 2 = true) ∧ (decode dsL_law_2146 3 = .ok (.aload_n 0, 1) ∧ okop dsL_law_2146 3 = true) ∧ (decode dsL_law_2146 4 = .ok (.iload 5, 2) ∧ okop dsL_law_2146 4 = true) ∧ (decode dsL_law_2146 6 = .ok (.iconst 1, 1) ∧ okop dsL_law_2146 6 = true) ∧ (decode dsL_law_2146 7 = .ok (.iadd, 1) ∧ okop dsL_law_2146 7 = true) ∧ (decode dsL_law_2146 8 = .ok (.iaload, 1) ∧ okop dsL_law_2146 8 = true) ∧ (decode dsL_law_2146 9 = .ok (.invokevirtual 361, 3) ∧ okop dsL_law_2146 9 = true) ∧ (decode dsL_law_2146 12 = .ok (.istore 7, 2) ∧ okop dsL_law_2146 12 = true) ∧ (decode dsL_law_2146 14 = .ok (.goto 771, 3) ∧ okop dsL_law_2146 14 = true) := by decide +kernel
theorem dL_law_2146 : decode cL_law 2146 = .ok (.istore 6, 2) := dgq (p := 0) daL_law_2146 dbL_law_2146.1
theorem dL_law_2148 : decode cL_law 2148 = .ok (.aload_n 2, 1) := dgq (p := 2) daL_law_2146 dbL_law_2146.2.1
theorem dL_law_2149 : decode cL_law 2149 = .ok (.aload_n 0, 1) := dgq (p := 3) daL_law_2146 dbL_law_2146.2.2.1
theorem dL_law_2150 : decode cL_law 2150 = .ok (.iload 5, 2) := dgq (p := 4) daL_law_2146 dbL_law_2146.2.2.2.1
theorem dL_law_2152 : decode cL_law 2152 = .ok (.iconst 1, 1) := dgq (p := 6) daL_law_2146 dbL_law_2146.2.2.2.2.1
theorem dL_law_2153 : decode cL_law 2153 = .ok (.iadd, 1) := dgq (p := 7) daL_law_2146 dbL_law_2146.2.2.2.2.2.1
theorem dL_law_2154 : decode cL_law 2154 = .ok (.iaload, 1) := dgq (p := 8) daL_law_2146 dbL_law_2146.2.2.2.2.2.2.1
theorem dL_law_2155 : decode cL_law 2155 = .ok (.invokevirtual 361, 3) := dgq (p := 9) daL_law_2146 dbL_law_2146.2.2.2.2.2.2.2.1
theorem dL_law_2158 : decode cL_law 2158 = .ok (.istore 7, 2) := dgq (p := 12) daL_law_2146 dbL_law_2146.2.2.2.2.2.2.2.2.1
theorem dL_law_2160 : decode cL_law 2160 = .ok (.goto 771, 3) := dgq (p := 14) daL_law_2146 dbL_law_2146.2.2.2.2.2.2.2.2.2
def dsL_law_2163 : ByteArray := ⟨#[43, 42, 21, 5, 4, 96, 46, 42, 21, 5, 5, 96]⟩
theorem daL_law_2163 : agB cL_law dsL_law_2163 2163 := agB_of (n := 12) (by decide +kernel)
theorem dbL_law_2163 : (decode dsL_law_2163 0 = .ok (.aload_n 1, 1) ∧ okop dsL_law_2163 0 = true) ∧ (decode dsL_law_2163 1 = .ok (.aload_n 0, 1) ∧ okop dsL_law_2163 1 = true) ∧ (decode dsL_law_2163 2 = .ok (.iload 5, 2) ∧ okop dsL_law_2163 2 = true) ∧ (decode dsL_law_2163 4 = .ok (.iconst 1, 1) ∧ okop dsL_law_2163 4 = true) ∧ (decode dsL_law_2163 5 = .ok (.iadd, 1) ∧ okop dsL_law_2163 5 = true) ∧ (decode dsL_law_2163 6 = .ok (.iaload, 1) ∧ okop dsL_law_2163 6 = true) ∧ (decode dsL_law_2163 7 = .ok (.aload_n 0, 1) ∧ okop dsL_law_2163 7 = true) ∧ (decode dsL_law_2163 8 = .ok (.iload 5, 2) ∧ okop dsL_law_2163 8 = true) ∧ (decode dsL_law_2163 10 = .ok (.iconst 2, 1) ∧ okop dsL_law_2163 10 = true) ∧ (decode dsL_law_2163 11 = .ok (.iadd, 1) ∧ okop dsL_law_2163 11 = true) := by decide +kernel
theorem dL_law_2163 : decode cL_law 2163 = .ok (.aload_n 1, 1) := dgq (p := 0) daL_law_2163 dbL_law_2163.1
theorem dL_law_2164 : decode cL_law 2164 = .ok (.aload_n 0, 1) := dgq (p := 1) daL_law_2163 dbL_law_2163.2.1
theorem dL_law_2165 : decode cL_law 2165 = .ok (.iload 5, 2) := dgq (p := 2) daL_law_2163 dbL_law_2163.2.2.1
theorem dL_law_2167 : decode cL_law 2167 = .ok (.iconst 1, 1) := dgq (p := 4) daL_law_2163 dbL_law_2163.2.2.2.1
theorem dL_law_2168 : decode cL_law 2168 = .ok (.iadd, 1) := dgq (p := 5) daL_law_2163 dbL_law_2163.2.2.2.2.1
theorem dL_law_2169 : decode cL_law 2169 = .ok (.iaload, 1) := dgq (p := 6) daL_law_2163 dbL_law_2163.2.2.2.2.2.1
theorem dL_law_2170 : decode cL_law 2170 = .ok (.aload_n 0, 1) := dgq (p := 7) daL_law_2163 dbL_law_2163.2.2.2.2.2.2.1
theorem dL_law_2171 : decode cL_law 2171 = .ok (.iload 5, 2) := dgq (p := 8) daL_law_2163 dbL_law_2163.2.2.2.2.2.2.2.1
theorem dL_law_2173 : decode cL_law 2173 = .ok (.iconst 2, 1) := dgq (p := 10) daL_law_2163 dbL_law_2163.2.2.2.2.2.2.2.2.1
theorem dL_law_2174 : decode cL_law 2174 = .ok (.iadd, 1) := dgq (p := 11) daL_law_2163 dbL_law_2163.2.2.2.2.2.2.2.2.2
def dsL_law_2175 : ByteArray := ⟨#[46, 42, 21, 5, 6, 96, 46, 45, 184, 1, 106, 54, 6, 44]⟩
theorem daL_law_2175 : agB cL_law dsL_law_2175 2175 := agB_of (n := 14) (by decide +kernel)
theorem dbL_law_2175 : (decode dsL_law_2175 0 = .ok (.iaload, 1) ∧ okop dsL_law_2175 0 = true) ∧ (decode dsL_law_2175 1 = .ok (.aload_n 0, 1) ∧ okop dsL_law_2175 1 = true) ∧ (decode dsL_law_2175 2 = .ok (.iload 5, 2) ∧ okop dsL_law_2175 2 = true) ∧ (decode dsL_law_2175 4 = .ok (.iconst 3, 1) ∧ okop dsL_law_2175 4 = true) ∧ (decode dsL_law_2175 5 = .ok (.iadd, 1) ∧ okop dsL_law_2175 5 = true) ∧ (decode dsL_law_2175 6 = .ok (.iaload, 1) ∧ okop dsL_law_2175 6 = true) ∧ (decode dsL_law_2175 7 = .ok (.aload_n 3, 1) ∧ okop dsL_law_2175 7 = true) ∧ (decode dsL_law_2175 8 = .ok (.invokestatic 362, 3) ∧ okop dsL_law_2175 8 = true) ∧ (decode dsL_law_2175 11 = .ok (.istore 6, 2) ∧ okop dsL_law_2175 11 = true) ∧ (decode dsL_law_2175 13 = .ok (.aload_n 2, 1) ∧ okop dsL_law_2175 13 = true) := by decide +kernel
theorem dL_law_2175 : decode cL_law 2175 = .ok (.iaload, 1) := dgq (p := 0) daL_law_2175 dbL_law_2175.1
theorem dL_law_2176 : decode cL_law 2176 = .ok (.aload_n 0, 1) := dgq (p := 1) daL_law_2175 dbL_law_2175.2.1
theorem dL_law_2177 : decode cL_law 2177 = .ok (.iload 5, 2) := dgq (p := 2) daL_law_2175 dbL_law_2175.2.2.1
theorem dL_law_2179 : decode cL_law 2179 = .ok (.iconst 3, 1) := dgq (p := 4) daL_law_2175 dbL_law_2175.2.2.2.1
theorem dL_law_2180 : decode cL_law 2180 = .ok (.iadd, 1) := dgq (p := 5) daL_law_2175 dbL_law_2175.2.2.2.2.1
theorem dL_law_2181 : decode cL_law 2181 = .ok (.iaload, 1) := dgq (p := 6) daL_law_2175 dbL_law_2175.2.2.2.2.2.1
theorem dL_law_2182 : decode cL_law 2182 = .ok (.aload_n 3, 1) := dgq (p := 7) daL_law_2175 dbL_law_2175.2.2.2.2.2.2.1
theorem dL_law_2183 : decode cL_law 2183 = .ok (.invokestatic 362, 3) := dgq (p := 8) daL_law_2175 dbL_law_2175.2.2.2.2.2.2.2.1
theorem dL_law_2186 : decode cL_law 2186 = .ok (.istore 6, 2) := dgq (p := 11) daL_law_2175 dbL_law_2175.2.2.2.2.2.2.2.2.1
theorem dL_law_2188 : decode cL_law 2188 = .ok (.aload_n 2, 1) := dgq (p := 13) daL_law_2175 dbL_law_2175.2.2.2.2.2.2.2.2.2
def dsL_law_2189 : ByteArray := ⟨#[42, 21, 5, 4, 96, 46, 42, 21, 5, 5, 96, 46]⟩
theorem daL_law_2189 : agB cL_law dsL_law_2189 2189 := agB_of (n := 12) (by decide +kernel)
theorem dbL_law_2189 : (decode dsL_law_2189 0 = .ok (.aload_n 0, 1) ∧ okop dsL_law_2189 0 = true) ∧ (decode dsL_law_2189 1 = .ok (.iload 5, 2) ∧ okop dsL_law_2189 1 = true) ∧ (decode dsL_law_2189 3 = .ok (.iconst 1, 1) ∧ okop dsL_law_2189 3 = true) ∧ (decode dsL_law_2189 4 = .ok (.iadd, 1) ∧ okop dsL_law_2189 4 = true) ∧ (decode dsL_law_2189 5 = .ok (.iaload, 1) ∧ okop dsL_law_2189 5 = true) ∧ (decode dsL_law_2189 6 = .ok (.aload_n 0, 1) ∧ okop dsL_law_2189 6 = true) ∧ (decode dsL_law_2189 7 = .ok (.iload 5, 2) ∧ okop dsL_law_2189 7 = true) ∧ (decode dsL_law_2189 9 = .ok (.iconst 2, 1) ∧ okop dsL_law_2189 9 = true) ∧ (decode dsL_law_2189 10 = .ok (.iadd, 1) ∧ okop dsL_law_2189 10 = true) ∧ (decode dsL_law_2189 11 = .ok (.iaload, 1) ∧ okop dsL_law_2189 11 = true) := by decide +kernel
theorem dL_law_2189 : decode cL_law 2189 = .ok (.aload_n 0, 1) := dgq (p := 0) daL_law_2189 dbL_law_2189.1
theorem dL_law_2190 : decode cL_law 2190 = .ok (.iload 5, 2) := dgq (p := 1) daL_law_2189 dbL_law_2189.2.1
theorem dL_law_2192 : decode cL_law 2192 = .ok (.iconst 1, 1) := dgq (p := 3) daL_law_2189 dbL_law_2189.2.2.1
theorem dL_law_2193 : decode cL_law 2193 = .ok (.iadd, 1) := dgq (p := 4) daL_law_2189 dbL_law_2189.2.2.2.1
theorem dL_law_2194 : decode cL_law 2194 = .ok (.iaload, 1) := dgq (p := 5) daL_law_2189 dbL_law_2189.2.2.2.2.1
theorem dL_law_2195 : decode cL_law 2195 = .ok (.aload_n 0, 1) := dgq (p := 6) daL_law_2189 dbL_law_2189.2.2.2.2.2.1
theorem dL_law_2196 : decode cL_law 2196 = .ok (.iload 5, 2) := dgq (p := 7) daL_law_2189 dbL_law_2189.2.2.2.2.2.2.1
theorem dL_law_2198 : decode cL_law 2198 = .ok (.iconst 2, 1) := dgq (p := 9) daL_law_2189 dbL_law_2189.2.2.2.2.2.2.2.1
theorem dL_law_2199 : decode cL_law 2199 = .ok (.iadd, 1) := dgq (p := 10) daL_law_2189 dbL_law_2189.2.2.2.2.2.2.2.2.1
theorem dL_law_2200 : decode cL_law 2200 = .ok (.iaload, 1) := dgq (p := 11) daL_law_2189 dbL_law_2189.2.2.2.2.2.2.2.2.2
def dsL_law_2201 : ByteArray := ⟨#[42, 21, 5, 6, 96, 46, 182, 1, 108, 54, 7, 167, 2, 207, 43, 42]⟩
theorem daL_law_2201 : agB cL_law dsL_law_2201 2201 := agB_of (n := 16) (by decide +kernel)
theorem dbL_law_2201 : (decode dsL_law_2201 0 = .ok (.aload_n 0, 1) ∧ okop dsL_law_2201 0 = true) ∧ (decode dsL_law_2201 1 = .ok (.iload 5, 2) ∧ okop dsL_law_2201 1 = true) ∧ (decode dsL_law_2201 3 = .ok (.iconst 3, 1) ∧ okop dsL_law_2201 3 = true) ∧ (decode dsL_law_2201 4 = .ok (.iadd, 1) ∧ okop dsL_law_2201 4 = true) ∧ (decode dsL_law_2201 5 = .ok (.iaload, 1) ∧ okop dsL_law_2201 5 = true) ∧ (decode dsL_law_2201 6 = .ok (.invokevirtual 364, 3) ∧ okop dsL_law_2201 6 = true) ∧ (decode dsL_law_2201 9 = .ok (.istore 7, 2) ∧ okop dsL_law_2201 9 = true) ∧ (decode dsL_law_2201 11 = .ok (.goto 719, 3) ∧ okop dsL_law_2201 11 = true) ∧ (decode dsL_law_2201 14 = .ok (.aload_n 1, 1) ∧ okop dsL_law_2201 14 = true) ∧ (decode dsL_law_2201 15 = .ok (.aload_n 0, 1) ∧ okop dsL_law_2201 15 = true) := by decide +kernel
theorem dL_law_2201 : decode cL_law 2201 = .ok (.aload_n 0, 1) := dgq (p := 0) daL_law_2201 dbL_law_2201.1
theorem dL_law_2202 : decode cL_law 2202 = .ok (.iload 5, 2) := dgq (p := 1) daL_law_2201 dbL_law_2201.2.1
theorem dL_law_2204 : decode cL_law 2204 = .ok (.iconst 3, 1) := dgq (p := 3) daL_law_2201 dbL_law_2201.2.2.1
theorem dL_law_2205 : decode cL_law 2205 = .ok (.iadd, 1) := dgq (p := 4) daL_law_2201 dbL_law_2201.2.2.2.1
theorem dL_law_2206 : decode cL_law 2206 = .ok (.iaload, 1) := dgq (p := 5) daL_law_2201 dbL_law_2201.2.2.2.2.1
theorem dL_law_2207 : decode cL_law 2207 = .ok (.invokevirtual 364, 3) := dgq (p := 6) daL_law_2201 dbL_law_2201.2.2.2.2.2.1
theorem dL_law_2210 : decode cL_law 2210 = .ok (.istore 7, 2) := dgq (p := 9) daL_law_2201 dbL_law_2201.2.2.2.2.2.2.1
theorem dL_law_2212 : decode cL_law 2212 = .ok (.goto 719, 3) := dgq (p := 11) daL_law_2201 dbL_law_2201.2.2.2.2.2.2.2.1
theorem dL_law_2215 : decode cL_law 2215 = .ok (.aload_n 1, 1) := dgq (p := 14) daL_law_2201 dbL_law_2201.2.2.2.2.2.2.2.2.1
theorem dL_law_2216 : decode cL_law 2216 = .ok (.aload_n 0, 1) := dgq (p := 15) daL_law_2201 dbL_law_2201.2.2.2.2.2.2.2.2.2
def dsL_law_2217 : ByteArray := ⟨#[21, 5, 4, 96, 46, 42, 21, 5, 5, 96, 46, 45]⟩
theorem daL_law_2217 : agB cL_law dsL_law_2217 2217 := agB_of (n := 12) (by decide +kernel)
theorem dbL_law_2217 : (decode dsL_law_2217 0 = .ok (.iload 5, 2) ∧ okop dsL_law_2217 0 = true) ∧ (decode dsL_law_2217 2 = .ok (.iconst 1, 1) ∧ okop dsL_law_2217 2 = true) ∧ (decode dsL_law_2217 3 = .ok (.iadd, 1) ∧ okop dsL_law_2217 3 = true) ∧ (decode dsL_law_2217 4 = .ok (.iaload, 1) ∧ okop dsL_law_2217 4 = true) ∧ (decode dsL_law_2217 5 = .ok (.aload_n 0, 1) ∧ okop dsL_law_2217 5 = true) ∧ (decode dsL_law_2217 6 = .ok (.iload 5, 2) ∧ okop dsL_law_2217 6 = true) ∧ (decode dsL_law_2217 8 = .ok (.iconst 2, 1) ∧ okop dsL_law_2217 8 = true) ∧ (decode dsL_law_2217 9 = .ok (.iadd, 1) ∧ okop dsL_law_2217 9 = true) ∧ (decode dsL_law_2217 10 = .ok (.iaload, 1) ∧ okop dsL_law_2217 10 = true) ∧ (decode dsL_law_2217 11 = .ok (.aload_n 3, 1) ∧ okop dsL_law_2217 11 = true) := by decide +kernel
theorem dL_law_2217 : decode cL_law 2217 = .ok (.iload 5, 2) := dgq (p := 0) daL_law_2217 dbL_law_2217.1
theorem dL_law_2219 : decode cL_law 2219 = .ok (.iconst 1, 1) := dgq (p := 2) daL_law_2217 dbL_law_2217.2.1
theorem dL_law_2220 : decode cL_law 2220 = .ok (.iadd, 1) := dgq (p := 3) daL_law_2217 dbL_law_2217.2.2.1
theorem dL_law_2221 : decode cL_law 2221 = .ok (.iaload, 1) := dgq (p := 4) daL_law_2217 dbL_law_2217.2.2.2.1
theorem dL_law_2222 : decode cL_law 2222 = .ok (.aload_n 0, 1) := dgq (p := 5) daL_law_2217 dbL_law_2217.2.2.2.2.1
theorem dL_law_2223 : decode cL_law 2223 = .ok (.iload 5, 2) := dgq (p := 6) daL_law_2217 dbL_law_2217.2.2.2.2.2.1
theorem dL_law_2225 : decode cL_law 2225 = .ok (.iconst 2, 1) := dgq (p := 8) daL_law_2217 dbL_law_2217.2.2.2.2.2.2.1
theorem dL_law_2226 : decode cL_law 2226 = .ok (.iadd, 1) := dgq (p := 9) daL_law_2217 dbL_law_2217.2.2.2.2.2.2.2.1
theorem dL_law_2227 : decode cL_law 2227 = .ok (.iaload, 1) := dgq (p := 10) daL_law_2217 dbL_law_2217.2.2.2.2.2.2.2.2.1
theorem dL_law_2228 : decode cL_law 2228 = .ok (.aload_n 3, 1) := dgq (p := 11) daL_law_2217 dbL_law_2217.2.2.2.2.2.2.2.2.2
def dsL_law_2229 : ByteArray := ⟨#[184, 1, 109, 54, 6, 44, 42, 21, 5, 4, 96, 46, 42, 21, 5]⟩
theorem daL_law_2229 : agB cL_law dsL_law_2229 2229 := agB_of (n := 15) (by decide +kernel)
theorem dbL_law_2229 : (decode dsL_law_2229 0 = .ok (.invokestatic 365, 3) ∧ okop dsL_law_2229 0 = true) ∧ (decode dsL_law_2229 3 = .ok (.istore 6, 2) ∧ okop dsL_law_2229 3 = true) ∧ (decode dsL_law_2229 5 = .ok (.aload_n 2, 1) ∧ okop dsL_law_2229 5 = true) ∧ (decode dsL_law_2229 6 = .ok (.aload_n 0, 1) ∧ okop dsL_law_2229 6 = true) ∧ (decode dsL_law_2229 7 = .ok (.iload 5, 2) ∧ okop dsL_law_2229 7 = true) ∧ (decode dsL_law_2229 9 = .ok (.iconst 1, 1) ∧ okop dsL_law_2229 9 = true) ∧ (decode dsL_law_2229 10 = .ok (.iadd, 1) ∧ okop dsL_law_2229 10 = true) ∧ (decode dsL_law_2229 11 = .ok (.iaload, 1) ∧ okop dsL_law_2229 11 = true) ∧ (decode dsL_law_2229 12 = .ok (.aload_n 0, 1) ∧ okop dsL_law_2229 12 = true) ∧ (decode dsL_law_2229 13 = .ok (.iload 5, 2) ∧ okop dsL_law_2229 13 = true) := by decide +kernel
theorem dL_law_2229 : decode cL_law 2229 = .ok (.invokestatic 365, 3) := dgq (p := 0) daL_law_2229 dbL_law_2229.1
theorem dL_law_2232 : decode cL_law 2232 = .ok (.istore 6, 2) := dgq (p := 3) daL_law_2229 dbL_law_2229.2.1
theorem dL_law_2234 : decode cL_law 2234 = .ok (.aload_n 2, 1) := dgq (p := 5) daL_law_2229 dbL_law_2229.2.2.1
theorem dL_law_2235 : decode cL_law 2235 = .ok (.aload_n 0, 1) := dgq (p := 6) daL_law_2229 dbL_law_2229.2.2.2.1
theorem dL_law_2236 : decode cL_law 2236 = .ok (.iload 5, 2) := dgq (p := 7) daL_law_2229 dbL_law_2229.2.2.2.2.1
theorem dL_law_2238 : decode cL_law 2238 = .ok (.iconst 1, 1) := dgq (p := 9) daL_law_2229 dbL_law_2229.2.2.2.2.2.1
theorem dL_law_2239 : decode cL_law 2239 = .ok (.iadd, 1) := dgq (p := 10) daL_law_2229 dbL_law_2229.2.2.2.2.2.2.1
theorem dL_law_2240 : decode cL_law 2240 = .ok (.iaload, 1) := dgq (p := 11) daL_law_2229 dbL_law_2229.2.2.2.2.2.2.2.1
theorem dL_law_2241 : decode cL_law 2241 = .ok (.aload_n 0, 1) := dgq (p := 12) daL_law_2229 dbL_law_2229.2.2.2.2.2.2.2.2.1
theorem dL_law_2242 : decode cL_law 2242 = .ok (.iload 5, 2) := dgq (p := 13) daL_law_2229 dbL_law_2229.2.2.2.2.2.2.2.2.2
def dsL_law_2244 : ByteArray := ⟨#[5, 96, 46, 182, 1, 111, 54, 7, 167, 2, 167, 43, 42, 21, 5, 4]⟩
theorem daL_law_2244 : agB cL_law dsL_law_2244 2244 := agB_of (n := 16) (by decide +kernel)
theorem dbL_law_2244 : (decode dsL_law_2244 0 = .ok (.iconst 2, 1) ∧ okop dsL_law_2244 0 = true) ∧ (decode dsL_law_2244 1 = .ok (.iadd, 1) ∧ okop dsL_law_2244 1 = true) ∧ (decode dsL_law_2244 2 = .ok (.iaload, 1) ∧ okop dsL_law_2244 2 = true) ∧ (decode dsL_law_2244 3 = .ok (.invokevirtual 367, 3) ∧ okop dsL_law_2244 3 = true) ∧ (decode dsL_law_2244 6 = .ok (.istore 7, 2) ∧ okop dsL_law_2244 6 = true) ∧ (decode dsL_law_2244 8 = .ok (.goto 679, 3) ∧ okop dsL_law_2244 8 = true) ∧ (decode dsL_law_2244 11 = .ok (.aload_n 1, 1) ∧ okop dsL_law_2244 11 = true) ∧ (decode dsL_law_2244 12 = .ok (.aload_n 0, 1) ∧ okop dsL_law_2244 12 = true) ∧ (decode dsL_law_2244 13 = .ok (.iload 5, 2) ∧ okop dsL_law_2244 13 = true) ∧ (decode dsL_law_2244 15 = .ok (.iconst 1, 1) ∧ okop dsL_law_2244 15 = true) := by decide +kernel
theorem dL_law_2244 : decode cL_law 2244 = .ok (.iconst 2, 1) := dgq (p := 0) daL_law_2244 dbL_law_2244.1
theorem dL_law_2245 : decode cL_law 2245 = .ok (.iadd, 1) := dgq (p := 1) daL_law_2244 dbL_law_2244.2.1
theorem dL_law_2246 : decode cL_law 2246 = .ok (.iaload, 1) := dgq (p := 2) daL_law_2244 dbL_law_2244.2.2.1
theorem dL_law_2247 : decode cL_law 2247 = .ok (.invokevirtual 367, 3) := dgq (p := 3) daL_law_2244 dbL_law_2244.2.2.2.1
theorem dL_law_2250 : decode cL_law 2250 = .ok (.istore 7, 2) := dgq (p := 6) daL_law_2244 dbL_law_2244.2.2.2.2.1
theorem dL_law_2252 : decode cL_law 2252 = .ok (.goto 679, 3) := dgq (p := 8) daL_law_2244 dbL_law_2244.2.2.2.2.2.1
theorem dL_law_2255 : decode cL_law 2255 = .ok (.aload_n 1, 1) := dgq (p := 11) daL_law_2244 dbL_law_2244.2.2.2.2.2.2.1
theorem dL_law_2256 : decode cL_law 2256 = .ok (.aload_n 0, 1) := dgq (p := 12) daL_law_2244 dbL_law_2244.2.2.2.2.2.2.2.1
theorem dL_law_2257 : decode cL_law 2257 = .ok (.iload 5, 2) := dgq (p := 13) daL_law_2244 dbL_law_2244.2.2.2.2.2.2.2.2.1
theorem dL_law_2259 : decode cL_law 2259 = .ok (.iconst 1, 1) := dgq (p := 15) daL_law_2244 dbL_law_2244.2.2.2.2.2.2.2.2.2
def dsL_law_2260 : ByteArray := ⟨#[96, 46, 42, 21, 5, 5, 96, 46, 42, 21, 5, 6]⟩
theorem daL_law_2260 : agB cL_law dsL_law_2260 2260 := agB_of (n := 12) (by decide +kernel)
theorem dbL_law_2260 : (decode dsL_law_2260 0 = .ok (.iadd, 1) ∧ okop dsL_law_2260 0 = true) ∧ (decode dsL_law_2260 1 = .ok (.iaload, 1) ∧ okop dsL_law_2260 1 = true) ∧ (decode dsL_law_2260 2 = .ok (.aload_n 0, 1) ∧ okop dsL_law_2260 2 = true) ∧ (decode dsL_law_2260 3 = .ok (.iload 5, 2) ∧ okop dsL_law_2260 3 = true) ∧ (decode dsL_law_2260 5 = .ok (.iconst 2, 1) ∧ okop dsL_law_2260 5 = true) ∧ (decode dsL_law_2260 6 = .ok (.iadd, 1) ∧ okop dsL_law_2260 6 = true) ∧ (decode dsL_law_2260 7 = .ok (.iaload, 1) ∧ okop dsL_law_2260 7 = true) ∧ (decode dsL_law_2260 8 = .ok (.aload_n 0, 1) ∧ okop dsL_law_2260 8 = true) ∧ (decode dsL_law_2260 9 = .ok (.iload 5, 2) ∧ okop dsL_law_2260 9 = true) ∧ (decode dsL_law_2260 11 = .ok (.iconst 3, 1) ∧ okop dsL_law_2260 11 = true) := by decide +kernel
theorem dL_law_2260 : decode cL_law 2260 = .ok (.iadd, 1) := dgq (p := 0) daL_law_2260 dbL_law_2260.1
theorem dL_law_2261 : decode cL_law 2261 = .ok (.iaload, 1) := dgq (p := 1) daL_law_2260 dbL_law_2260.2.1
theorem dL_law_2262 : decode cL_law 2262 = .ok (.aload_n 0, 1) := dgq (p := 2) daL_law_2260 dbL_law_2260.2.2.1
theorem dL_law_2263 : decode cL_law 2263 = .ok (.iload 5, 2) := dgq (p := 3) daL_law_2260 dbL_law_2260.2.2.2.1
theorem dL_law_2265 : decode cL_law 2265 = .ok (.iconst 2, 1) := dgq (p := 5) daL_law_2260 dbL_law_2260.2.2.2.2.1
theorem dL_law_2266 : decode cL_law 2266 = .ok (.iadd, 1) := dgq (p := 6) daL_law_2260 dbL_law_2260.2.2.2.2.2.1
theorem dL_law_2267 : decode cL_law 2267 = .ok (.iaload, 1) := dgq (p := 7) daL_law_2260 dbL_law_2260.2.2.2.2.2.2.1
theorem dL_law_2268 : decode cL_law 2268 = .ok (.aload_n 0, 1) := dgq (p := 8) daL_law_2260 dbL_law_2260.2.2.2.2.2.2.2.1
theorem dL_law_2269 : decode cL_law 2269 = .ok (.iload 5, 2) := dgq (p := 9) daL_law_2260 dbL_law_2260.2.2.2.2.2.2.2.2.1
theorem dL_law_2271 : decode cL_law 2271 = .ok (.iconst 3, 1) := dgq (p := 11) daL_law_2260 dbL_law_2260.2.2.2.2.2.2.2.2.2
def dsL_law_2272 : ByteArray := ⟨#[96, 46, 45, 184, 1, 112, 54, 6, 44, 42, 21, 5, 4, 96]⟩
theorem daL_law_2272 : agB cL_law dsL_law_2272 2272 := agB_of (n := 14) (by decide +kernel)
theorem dbL_law_2272 : (decode dsL_law_2272 0 = .ok (.iadd, 1) ∧ okop dsL_law_2272 0 = true) ∧ (decode dsL_law_2272 1 = .ok (.iaload, 1) ∧ okop dsL_law_2272 1 = true) ∧ (decode dsL_law_2272 2 = .ok (.aload_n 3, 1) ∧ okop dsL_law_2272 2 = true) ∧ (decode dsL_law_2272 3 = .ok (.invokestatic 368, 3) ∧ okop dsL_law_2272 3 = true) ∧ (decode dsL_law_2272 6 = .ok (.istore 6, 2) ∧ okop dsL_law_2272 6 = true) ∧ (decode dsL_law_2272 8 = .ok (.aload_n 2, 1) ∧ okop dsL_law_2272 8 = true) ∧ (decode dsL_law_2272 9 = .ok (.aload_n 0, 1) ∧ okop dsL_law_2272 9 = true) ∧ (decode dsL_law_2272 10 = .ok (.iload 5, 2) ∧ okop dsL_law_2272 10 = true) ∧ (decode dsL_law_2272 12 = .ok (.iconst 1, 1) ∧ okop dsL_law_2272 12 = true) ∧ (decode dsL_law_2272 13 = .ok (.iadd, 1) ∧ okop dsL_law_2272 13 = true) := by decide +kernel
theorem dL_law_2272 : decode cL_law 2272 = .ok (.iadd, 1) := dgq (p := 0) daL_law_2272 dbL_law_2272.1
theorem dL_law_2273 : decode cL_law 2273 = .ok (.iaload, 1) := dgq (p := 1) daL_law_2272 dbL_law_2272.2.1
theorem dL_law_2274 : decode cL_law 2274 = .ok (.aload_n 3, 1) := dgq (p := 2) daL_law_2272 dbL_law_2272.2.2.1
theorem dL_law_2275 : decode cL_law 2275 = .ok (.invokestatic 368, 3) := dgq (p := 3) daL_law_2272 dbL_law_2272.2.2.2.1
theorem dL_law_2278 : decode cL_law 2278 = .ok (.istore 6, 2) := dgq (p := 6) daL_law_2272 dbL_law_2272.2.2.2.2.1
theorem dL_law_2280 : decode cL_law 2280 = .ok (.aload_n 2, 1) := dgq (p := 8) daL_law_2272 dbL_law_2272.2.2.2.2.2.1
theorem dL_law_2281 : decode cL_law 2281 = .ok (.aload_n 0, 1) := dgq (p := 9) daL_law_2272 dbL_law_2272.2.2.2.2.2.2.1
theorem dL_law_2282 : decode cL_law 2282 = .ok (.iload 5, 2) := dgq (p := 10) daL_law_2272 dbL_law_2272.2.2.2.2.2.2.2.1
theorem dL_law_2284 : decode cL_law 2284 = .ok (.iconst 1, 1) := dgq (p := 12) daL_law_2272 dbL_law_2272.2.2.2.2.2.2.2.2.1
theorem dL_law_2285 : decode cL_law 2285 = .ok (.iadd, 1) := dgq (p := 13) daL_law_2272 dbL_law_2272.2.2.2.2.2.2.2.2.2
def dsL_law_2286 : ByteArray := ⟨#[46, 42, 21, 5, 5, 96, 46, 42, 21, 5, 6, 96]⟩
theorem daL_law_2286 : agB cL_law dsL_law_2286 2286 := agB_of (n := 12) (by decide +kernel)
theorem dbL_law_2286 : (decode dsL_law_2286 0 = .ok (.iaload, 1) ∧ okop dsL_law_2286 0 = true) ∧ (decode dsL_law_2286 1 = .ok (.aload_n 0, 1) ∧ okop dsL_law_2286 1 = true) ∧ (decode dsL_law_2286 2 = .ok (.iload 5, 2) ∧ okop dsL_law_2286 2 = true) ∧ (decode dsL_law_2286 4 = .ok (.iconst 2, 1) ∧ okop dsL_law_2286 4 = true) ∧ (decode dsL_law_2286 5 = .ok (.iadd, 1) ∧ okop dsL_law_2286 5 = true) ∧ (decode dsL_law_2286 6 = .ok (.iaload, 1) ∧ okop dsL_law_2286 6 = true) ∧ (decode dsL_law_2286 7 = .ok (.aload_n 0, 1) ∧ okop dsL_law_2286 7 = true) ∧ (decode dsL_law_2286 8 = .ok (.iload 5, 2) ∧ okop dsL_law_2286 8 = true) ∧ (decode dsL_law_2286 10 = .ok (.iconst 3, 1) ∧ okop dsL_law_2286 10 = true) ∧ (decode dsL_law_2286 11 = .ok (.iadd, 1) ∧ okop dsL_law_2286 11 = true) := by decide +kernel
theorem dL_law_2286 : decode cL_law 2286 = .ok (.iaload, 1) := dgq (p := 0) daL_law_2286 dbL_law_2286.1
theorem dL_law_2287 : decode cL_law 2287 = .ok (.aload_n 0, 1) := dgq (p := 1) daL_law_2286 dbL_law_2286.2.1
theorem dL_law_2288 : decode cL_law 2288 = .ok (.iload 5, 2) := dgq (p := 2) daL_law_2286 dbL_law_2286.2.2.1
theorem dL_law_2290 : decode cL_law 2290 = .ok (.iconst 2, 1) := dgq (p := 4) daL_law_2286 dbL_law_2286.2.2.2.1
theorem dL_law_2291 : decode cL_law 2291 = .ok (.iadd, 1) := dgq (p := 5) daL_law_2286 dbL_law_2286.2.2.2.2.1
theorem dL_law_2292 : decode cL_law 2292 = .ok (.iaload, 1) := dgq (p := 6) daL_law_2286 dbL_law_2286.2.2.2.2.2.1
theorem dL_law_2293 : decode cL_law 2293 = .ok (.aload_n 0, 1) := dgq (p := 7) daL_law_2286 dbL_law_2286.2.2.2.2.2.2.1
theorem dL_law_2294 : decode cL_law 2294 = .ok (.iload 5, 2) := dgq (p := 8) daL_law_2286 dbL_law_2286.2.2.2.2.2.2.2.1
theorem dL_law_2296 : decode cL_law 2296 = .ok (.iconst 3, 1) := dgq (p := 10) daL_law_2286 dbL_law_2286.2.2.2.2.2.2.2.2.1
theorem dL_law_2297 : decode cL_law 2297 = .ok (.iadd, 1) := dgq (p := 11) daL_law_2286 dbL_law_2286.2.2.2.2.2.2.2.2.2
def dsL_law_2298 : ByteArray := ⟨#[46, 182, 1, 114, 54, 7, 167, 2, 115, 43, 42, 21, 5, 4, 96, 46]⟩
theorem daL_law_2298 : agB cL_law dsL_law_2298 2298 := agB_of (n := 16) (by decide +kernel)
theorem dbL_law_2298 : (decode dsL_law_2298 0 = .ok (.iaload, 1) ∧ okop dsL_law_2298 0 = true) ∧ (decode dsL_law_2298 1 = .ok (.invokevirtual 370, 3) ∧ okop dsL_law_2298 1 = true) ∧ (decode dsL_law_2298 4 = .ok (.istore 7, 2) ∧ okop dsL_law_2298 4 = true) ∧ (decode dsL_law_2298 6 = .ok (.goto 627, 3) ∧ okop dsL_law_2298 6 = true) ∧ (decode dsL_law_2298 9 = .ok (.aload_n 1, 1) ∧ okop dsL_law_2298 9 = true) ∧ (decode dsL_law_2298 10 = .ok (.aload_n 0, 1) ∧ okop dsL_law_2298 10 = true) ∧ (decode dsL_law_2298 11 = .ok (.iload 5, 2) ∧ okop dsL_law_2298 11 = true) ∧ (decode dsL_law_2298 13 = .ok (.iconst 1, 1) ∧ okop dsL_law_2298 13 = true) ∧ (decode dsL_law_2298 14 = .ok (.iadd, 1) ∧ okop dsL_law_2298 14 = true) ∧ (decode dsL_law_2298 15 = .ok (.iaload, 1) ∧ okop dsL_law_2298 15 = true) := by decide +kernel
theorem dL_law_2298 : decode cL_law 2298 = .ok (.iaload, 1) := dgq (p := 0) daL_law_2298 dbL_law_2298.1
theorem dL_law_2299 : decode cL_law 2299 = .ok (.invokevirtual 370, 3) := dgq (p := 1) daL_law_2298 dbL_law_2298.2.1
theorem dL_law_2302 : decode cL_law 2302 = .ok (.istore 7, 2) := dgq (p := 4) daL_law_2298 dbL_law_2298.2.2.1
theorem dL_law_2304 : decode cL_law 2304 = .ok (.goto 627, 3) := dgq (p := 6) daL_law_2298 dbL_law_2298.2.2.2.1
theorem dL_law_2307 : decode cL_law 2307 = .ok (.aload_n 1, 1) := dgq (p := 9) daL_law_2298 dbL_law_2298.2.2.2.2.1
theorem dL_law_2308 : decode cL_law 2308 = .ok (.aload_n 0, 1) := dgq (p := 10) daL_law_2298 dbL_law_2298.2.2.2.2.2.1
theorem dL_law_2309 : decode cL_law 2309 = .ok (.iload 5, 2) := dgq (p := 11) daL_law_2298 dbL_law_2298.2.2.2.2.2.2.1
theorem dL_law_2311 : decode cL_law 2311 = .ok (.iconst 1, 1) := dgq (p := 13) daL_law_2298 dbL_law_2298.2.2.2.2.2.2.2.1
theorem dL_law_2312 : decode cL_law 2312 = .ok (.iadd, 1) := dgq (p := 14) daL_law_2298 dbL_law_2298.2.2.2.2.2.2.2.2.1
theorem dL_law_2313 : decode cL_law 2313 = .ok (.iaload, 1) := dgq (p := 15) daL_law_2298 dbL_law_2298.2.2.2.2.2.2.2.2.2
def dsL_law_2314 : ByteArray := ⟨#[42, 21, 5, 5, 96, 46, 45, 184, 1, 115, 54, 6, 44, 42]⟩
theorem daL_law_2314 : agB cL_law dsL_law_2314 2314 := agB_of (n := 14) (by decide +kernel)
theorem dbL_law_2314 : (decode dsL_law_2314 0 = .ok (.aload_n 0, 1) ∧ okop dsL_law_2314 0 = true) ∧ (decode dsL_law_2314 1 = .ok (.iload 5, 2) ∧ okop dsL_law_2314 1 = true) ∧ (decode dsL_law_2314 3 = .ok (.iconst 2, 1) ∧ okop dsL_law_2314 3 = true) ∧ (decode dsL_law_2314 4 = .ok (.iadd, 1) ∧ okop dsL_law_2314 4 = true) ∧ (decode dsL_law_2314 5 = .ok (.iaload, 1) ∧ okop dsL_law_2314 5 = true) ∧ (decode dsL_law_2314 6 = .ok (.aload_n 3, 1) ∧ okop dsL_law_2314 6 = true) ∧ (decode dsL_law_2314 7 = .ok (.invokestatic 371, 3) ∧ okop dsL_law_2314 7 = true) ∧ (decode dsL_law_2314 10 = .ok (.istore 6, 2) ∧ okop dsL_law_2314 10 = true) ∧ (decode dsL_law_2314 12 = .ok (.aload_n 2, 1) ∧ okop dsL_law_2314 12 = true) ∧ (decode dsL_law_2314 13 = .ok (.aload_n 0, 1) ∧ okop dsL_law_2314 13 = true) := by decide +kernel
theorem dL_law_2314 : decode cL_law 2314 = .ok (.aload_n 0, 1) := dgq (p := 0) daL_law_2314 dbL_law_2314.1
theorem dL_law_2315 : decode cL_law 2315 = .ok (.iload 5, 2) := dgq (p := 1) daL_law_2314 dbL_law_2314.2.1
theorem dL_law_2317 : decode cL_law 2317 = .ok (.iconst 2, 1) := dgq (p := 3) daL_law_2314 dbL_law_2314.2.2.1
theorem dL_law_2318 : decode cL_law 2318 = .ok (.iadd, 1) := dgq (p := 4) daL_law_2314 dbL_law_2314.2.2.2.1
theorem dL_law_2319 : decode cL_law 2319 = .ok (.iaload, 1) := dgq (p := 5) daL_law_2314 dbL_law_2314.2.2.2.2.1
theorem dL_law_2320 : decode cL_law 2320 = .ok (.aload_n 3, 1) := dgq (p := 6) daL_law_2314 dbL_law_2314.2.2.2.2.2.1
theorem dL_law_2321 : decode cL_law 2321 = .ok (.invokestatic 371, 3) := dgq (p := 7) daL_law_2314 dbL_law_2314.2.2.2.2.2.2.1
theorem dL_law_2324 : decode cL_law 2324 = .ok (.istore 6, 2) := dgq (p := 10) daL_law_2314 dbL_law_2314.2.2.2.2.2.2.2.1
theorem dL_law_2326 : decode cL_law 2326 = .ok (.aload_n 2, 1) := dgq (p := 12) daL_law_2314 dbL_law_2314.2.2.2.2.2.2.2.2.1
theorem dL_law_2327 : decode cL_law 2327 = .ok (.aload_n 0, 1) := dgq (p := 13) daL_law_2314 dbL_law_2314.2.2.2.2.2.2.2.2.2
def dsL_law_2328 : ByteArray := ⟨#[21, 5, 4, 96, 46, 42, 21, 5, 5, 96, 46, 182, 1, 117]⟩
theorem daL_law_2328 : agB cL_law dsL_law_2328 2328 := agB_of (n := 14) (by decide +kernel)
theorem dbL_law_2328 : (decode dsL_law_2328 0 = .ok (.iload 5, 2) ∧ okop dsL_law_2328 0 = true) ∧ (decode dsL_law_2328 2 = .ok (.iconst 1, 1) ∧ okop dsL_law_2328 2 = true) ∧ (decode dsL_law_2328 3 = .ok (.iadd, 1) ∧ okop dsL_law_2328 3 = true) ∧ (decode dsL_law_2328 4 = .ok (.iaload, 1) ∧ okop dsL_law_2328 4 = true) ∧ (decode dsL_law_2328 5 = .ok (.aload_n 0, 1) ∧ okop dsL_law_2328 5 = true) ∧ (decode dsL_law_2328 6 = .ok (.iload 5, 2) ∧ okop dsL_law_2328 6 = true) ∧ (decode dsL_law_2328 8 = .ok (.iconst 2, 1) ∧ okop dsL_law_2328 8 = true) ∧ (decode dsL_law_2328 9 = .ok (.iadd, 1) ∧ okop dsL_law_2328 9 = true) ∧ (decode dsL_law_2328 10 = .ok (.iaload, 1) ∧ okop dsL_law_2328 10 = true) ∧ (decode dsL_law_2328 11 = .ok (.invokevirtual 373, 3) ∧ okop dsL_law_2328 11 = true) := by decide +kernel
theorem dL_law_2328 : decode cL_law 2328 = .ok (.iload 5, 2) := dgq (p := 0) daL_law_2328 dbL_law_2328.1
theorem dL_law_2330 : decode cL_law 2330 = .ok (.iconst 1, 1) := dgq (p := 2) daL_law_2328 dbL_law_2328.2.1
theorem dL_law_2331 : decode cL_law 2331 = .ok (.iadd, 1) := dgq (p := 3) daL_law_2328 dbL_law_2328.2.2.1
theorem dL_law_2332 : decode cL_law 2332 = .ok (.iaload, 1) := dgq (p := 4) daL_law_2328 dbL_law_2328.2.2.2.1
theorem dL_law_2333 : decode cL_law 2333 = .ok (.aload_n 0, 1) := dgq (p := 5) daL_law_2328 dbL_law_2328.2.2.2.2.1
theorem dL_law_2334 : decode cL_law 2334 = .ok (.iload 5, 2) := dgq (p := 6) daL_law_2328 dbL_law_2328.2.2.2.2.2.1
theorem dL_law_2336 : decode cL_law 2336 = .ok (.iconst 2, 1) := dgq (p := 8) daL_law_2328 dbL_law_2328.2.2.2.2.2.2.1
theorem dL_law_2337 : decode cL_law 2337 = .ok (.iadd, 1) := dgq (p := 9) daL_law_2328 dbL_law_2328.2.2.2.2.2.2.2.1
theorem dL_law_2338 : decode cL_law 2338 = .ok (.iaload, 1) := dgq (p := 10) daL_law_2328 dbL_law_2328.2.2.2.2.2.2.2.2.1
theorem dL_law_2339 : decode cL_law 2339 = .ok (.invokevirtual 373, 3) := dgq (p := 11) daL_law_2328 dbL_law_2328.2.2.2.2.2.2.2.2.2
def dsL_law_2342 : ByteArray := ⟨#[54, 7, 167, 2, 75, 43, 42, 21, 5, 4, 96, 46, 45, 184, 1, 118]⟩
theorem daL_law_2342 : agB cL_law dsL_law_2342 2342 := agB_of (n := 16) (by decide +kernel)
theorem dbL_law_2342 : (decode dsL_law_2342 0 = .ok (.istore 7, 2) ∧ okop dsL_law_2342 0 = true) ∧ (decode dsL_law_2342 2 = .ok (.goto 587, 3) ∧ okop dsL_law_2342 2 = true) ∧ (decode dsL_law_2342 5 = .ok (.aload_n 1, 1) ∧ okop dsL_law_2342 5 = true) ∧ (decode dsL_law_2342 6 = .ok (.aload_n 0, 1) ∧ okop dsL_law_2342 6 = true) ∧ (decode dsL_law_2342 7 = .ok (.iload 5, 2) ∧ okop dsL_law_2342 7 = true) ∧ (decode dsL_law_2342 9 = .ok (.iconst 1, 1) ∧ okop dsL_law_2342 9 = true) ∧ (decode dsL_law_2342 10 = .ok (.iadd, 1) ∧ okop dsL_law_2342 10 = true) ∧ (decode dsL_law_2342 11 = .ok (.iaload, 1) ∧ okop dsL_law_2342 11 = true) ∧ (decode dsL_law_2342 12 = .ok (.aload_n 3, 1) ∧ okop dsL_law_2342 12 = true) ∧ (decode dsL_law_2342 13 = .ok (.invokestatic 374, 3) ∧ okop dsL_law_2342 13 = true) := by decide +kernel
theorem dL_law_2342 : decode cL_law 2342 = .ok (.istore 7, 2) := dgq (p := 0) daL_law_2342 dbL_law_2342.1
theorem dL_law_2344 : decode cL_law 2344 = .ok (.goto 587, 3) := dgq (p := 2) daL_law_2342 dbL_law_2342.2.1
theorem dL_law_2347 : decode cL_law 2347 = .ok (.aload_n 1, 1) := dgq (p := 5) daL_law_2342 dbL_law_2342.2.2.1
theorem dL_law_2348 : decode cL_law 2348 = .ok (.aload_n 0, 1) := dgq (p := 6) daL_law_2342 dbL_law_2342.2.2.2.1
theorem dL_law_2349 : decode cL_law 2349 = .ok (.iload 5, 2) := dgq (p := 7) daL_law_2342 dbL_law_2342.2.2.2.2.1
theorem dL_law_2351 : decode cL_law 2351 = .ok (.iconst 1, 1) := dgq (p := 9) daL_law_2342 dbL_law_2342.2.2.2.2.2.1
theorem dL_law_2352 : decode cL_law 2352 = .ok (.iadd, 1) := dgq (p := 10) daL_law_2342 dbL_law_2342.2.2.2.2.2.2.1
theorem dL_law_2353 : decode cL_law 2353 = .ok (.iaload, 1) := dgq (p := 11) daL_law_2342 dbL_law_2342.2.2.2.2.2.2.2.1
theorem dL_law_2354 : decode cL_law 2354 = .ok (.aload_n 3, 1) := dgq (p := 12) daL_law_2342 dbL_law_2342.2.2.2.2.2.2.2.2.1
theorem dL_law_2355 : decode cL_law 2355 = .ok (.invokestatic 374, 3) := dgq (p := 13) daL_law_2342 dbL_law_2342.2.2.2.2.2.2.2.2.2
def dsL_law_2358 : ByteArray := ⟨#[54, 6, 44, 42, 21, 5, 4, 96, 46, 182, 1, 120, 54, 7, 167, 2, 47]⟩
theorem daL_law_2358 : agB cL_law dsL_law_2358 2358 := agB_of (n := 17) (by decide +kernel)
theorem dbL_law_2358 : (decode dsL_law_2358 0 = .ok (.istore 6, 2) ∧ okop dsL_law_2358 0 = true) ∧ (decode dsL_law_2358 2 = .ok (.aload_n 2, 1) ∧ okop dsL_law_2358 2 = true) ∧ (decode dsL_law_2358 3 = .ok (.aload_n 0, 1) ∧ okop dsL_law_2358 3 = true) ∧ (decode dsL_law_2358 4 = .ok (.iload 5, 2) ∧ okop dsL_law_2358 4 = true) ∧ (decode dsL_law_2358 6 = .ok (.iconst 1, 1) ∧ okop dsL_law_2358 6 = true) ∧ (decode dsL_law_2358 7 = .ok (.iadd, 1) ∧ okop dsL_law_2358 7 = true) ∧ (decode dsL_law_2358 8 = .ok (.iaload, 1) ∧ okop dsL_law_2358 8 = true) ∧ (decode dsL_law_2358 9 = .ok (.invokevirtual 376, 3) ∧ okop dsL_law_2358 9 = true) ∧ (decode dsL_law_2358 12 = .ok (.istore 7, 2) ∧ okop dsL_law_2358 12 = true) ∧ (decode dsL_law_2358 14 = .ok (.goto 559, 3) ∧ okop dsL_law_2358 14 = true) := by decide +kernel
theorem dL_law_2358 : decode cL_law 2358 = .ok (.istore 6, 2) := dgq (p := 0) daL_law_2358 dbL_law_2358.1
theorem dL_law_2360 : decode cL_law 2360 = .ok (.aload_n 2, 1) := dgq (p := 2) daL_law_2358 dbL_law_2358.2.1
theorem dL_law_2361 : decode cL_law 2361 = .ok (.aload_n 0, 1) := dgq (p := 3) daL_law_2358 dbL_law_2358.2.2.1
theorem dL_law_2362 : decode cL_law 2362 = .ok (.iload 5, 2) := dgq (p := 4) daL_law_2358 dbL_law_2358.2.2.2.1
theorem dL_law_2364 : decode cL_law 2364 = .ok (.iconst 1, 1) := dgq (p := 6) daL_law_2358 dbL_law_2358.2.2.2.2.1
theorem dL_law_2365 : decode cL_law 2365 = .ok (.iadd, 1) := dgq (p := 7) daL_law_2358 dbL_law_2358.2.2.2.2.2.1
theorem dL_law_2366 : decode cL_law 2366 = .ok (.iaload, 1) := dgq (p := 8) daL_law_2358 dbL_law_2358.2.2.2.2.2.2.1
theorem dL_law_2367 : decode cL_law 2367 = .ok (.invokevirtual 376, 3) := dgq (p := 9) daL_law_2358 dbL_law_2358.2.2.2.2.2.2.2.1
theorem dL_law_2370 : decode cL_law 2370 = .ok (.istore 7, 2) := dgq (p := 12) daL_law_2358 dbL_law_2358.2.2.2.2.2.2.2.2.1
theorem dL_law_2372 : decode cL_law 2372 = .ok (.goto 559, 3) := dgq (p := 14) daL_law_2358 dbL_law_2358.2.2.2.2.2.2.2.2.2
def dsL_law_2375 : ByteArray := ⟨#[43, 42, 21, 5, 4, 96, 46, 42, 21, 5, 5, 96]⟩
theorem daL_law_2375 : agB cL_law dsL_law_2375 2375 := agB_of (n := 12) (by decide +kernel)
theorem dbL_law_2375 : (decode dsL_law_2375 0 = .ok (.aload_n 1, 1) ∧ okop dsL_law_2375 0 = true) ∧ (decode dsL_law_2375 1 = .ok (.aload_n 0, 1) ∧ okop dsL_law_2375 1 = true) ∧ (decode dsL_law_2375 2 = .ok (.iload 5, 2) ∧ okop dsL_law_2375 2 = true) ∧ (decode dsL_law_2375 4 = .ok (.iconst 1, 1) ∧ okop dsL_law_2375 4 = true) ∧ (decode dsL_law_2375 5 = .ok (.iadd, 1) ∧ okop dsL_law_2375 5 = true) ∧ (decode dsL_law_2375 6 = .ok (.iaload, 1) ∧ okop dsL_law_2375 6 = true) ∧ (decode dsL_law_2375 7 = .ok (.aload_n 0, 1) ∧ okop dsL_law_2375 7 = true) ∧ (decode dsL_law_2375 8 = .ok (.iload 5, 2) ∧ okop dsL_law_2375 8 = true) ∧ (decode dsL_law_2375 10 = .ok (.iconst 2, 1) ∧ okop dsL_law_2375 10 = true) ∧ (decode dsL_law_2375 11 = .ok (.iadd, 1) ∧ okop dsL_law_2375 11 = true) := by decide +kernel
theorem dL_law_2375 : decode cL_law 2375 = .ok (.aload_n 1, 1) := dgq (p := 0) daL_law_2375 dbL_law_2375.1
theorem dL_law_2376 : decode cL_law 2376 = .ok (.aload_n 0, 1) := dgq (p := 1) daL_law_2375 dbL_law_2375.2.1
theorem dL_law_2377 : decode cL_law 2377 = .ok (.iload 5, 2) := dgq (p := 2) daL_law_2375 dbL_law_2375.2.2.1
theorem dL_law_2379 : decode cL_law 2379 = .ok (.iconst 1, 1) := dgq (p := 4) daL_law_2375 dbL_law_2375.2.2.2.1
theorem dL_law_2380 : decode cL_law 2380 = .ok (.iadd, 1) := dgq (p := 5) daL_law_2375 dbL_law_2375.2.2.2.2.1
theorem dL_law_2381 : decode cL_law 2381 = .ok (.iaload, 1) := dgq (p := 6) daL_law_2375 dbL_law_2375.2.2.2.2.2.1
theorem dL_law_2382 : decode cL_law 2382 = .ok (.aload_n 0, 1) := dgq (p := 7) daL_law_2375 dbL_law_2375.2.2.2.2.2.2.1
theorem dL_law_2383 : decode cL_law 2383 = .ok (.iload 5, 2) := dgq (p := 8) daL_law_2375 dbL_law_2375.2.2.2.2.2.2.2.1
theorem dL_law_2385 : decode cL_law 2385 = .ok (.iconst 2, 1) := dgq (p := 10) daL_law_2375 dbL_law_2375.2.2.2.2.2.2.2.2.1
theorem dL_law_2386 : decode cL_law 2386 = .ok (.iadd, 1) := dgq (p := 11) daL_law_2375 dbL_law_2375.2.2.2.2.2.2.2.2.2
def dsL_law_2387 : ByteArray := ⟨#[46, 45, 184, 1, 121, 54, 6, 44, 42, 21, 5, 4, 96, 46]⟩
theorem daL_law_2387 : agB cL_law dsL_law_2387 2387 := agB_of (n := 14) (by decide +kernel)
theorem dbL_law_2387 : (decode dsL_law_2387 0 = .ok (.iaload, 1) ∧ okop dsL_law_2387 0 = true) ∧ (decode dsL_law_2387 1 = .ok (.aload_n 3, 1) ∧ okop dsL_law_2387 1 = true) ∧ (decode dsL_law_2387 2 = .ok (.invokestatic 377, 3) ∧ okop dsL_law_2387 2 = true) ∧ (decode dsL_law_2387 5 = .ok (.istore 6, 2) ∧ okop dsL_law_2387 5 = true) ∧ (decode dsL_law_2387 7 = .ok (.aload_n 2, 1) ∧ okop dsL_law_2387 7 = true) ∧ (decode dsL_law_2387 8 = .ok (.aload_n 0, 1) ∧ okop dsL_law_2387 8 = true) ∧ (decode dsL_law_2387 9 = .ok (.iload 5, 2) ∧ okop dsL_law_2387 9 = true) ∧ (decode dsL_law_2387 11 = .ok (.iconst 1, 1) ∧ okop dsL_law_2387 11 = true) ∧ (decode dsL_law_2387 12 = .ok (.iadd, 1) ∧ okop dsL_law_2387 12 = true) ∧ (decode dsL_law_2387 13 = .ok (.iaload, 1) ∧ okop dsL_law_2387 13 = true) := by decide +kernel
theorem dL_law_2387 : decode cL_law 2387 = .ok (.iaload, 1) := dgq (p := 0) daL_law_2387 dbL_law_2387.1
theorem dL_law_2388 : decode cL_law 2388 = .ok (.aload_n 3, 1) := dgq (p := 1) daL_law_2387 dbL_law_2387.2.1
theorem dL_law_2389 : decode cL_law 2389 = .ok (.invokestatic 377, 3) := dgq (p := 2) daL_law_2387 dbL_law_2387.2.2.1
theorem dL_law_2392 : decode cL_law 2392 = .ok (.istore 6, 2) := dgq (p := 5) daL_law_2387 dbL_law_2387.2.2.2.1
theorem dL_law_2394 : decode cL_law 2394 = .ok (.aload_n 2, 1) := dgq (p := 7) daL_law_2387 dbL_law_2387.2.2.2.2.1
theorem dL_law_2395 : decode cL_law 2395 = .ok (.aload_n 0, 1) := dgq (p := 8) daL_law_2387 dbL_law_2387.2.2.2.2.2.1
theorem dL_law_2396 : decode cL_law 2396 = .ok (.iload 5, 2) := dgq (p := 9) daL_law_2387 dbL_law_2387.2.2.2.2.2.2.1
theorem dL_law_2398 : decode cL_law 2398 = .ok (.iconst 1, 1) := dgq (p := 11) daL_law_2387 dbL_law_2387.2.2.2.2.2.2.2.1
theorem dL_law_2399 : decode cL_law 2399 = .ok (.iadd, 1) := dgq (p := 12) daL_law_2387 dbL_law_2387.2.2.2.2.2.2.2.2.1
theorem dL_law_2400 : decode cL_law 2400 = .ok (.iaload, 1) := dgq (p := 13) daL_law_2387 dbL_law_2387.2.2.2.2.2.2.2.2.2
def dsL_law_2401 : ByteArray := ⟨#[42, 21, 5, 5, 96, 46, 182, 1, 123, 55, 7, 167, 2, 7, 43, 42]⟩
theorem daL_law_2401 : agB cL_law dsL_law_2401 2401 := agB_of (n := 16) (by decide +kernel)
theorem dbL_law_2401 : (decode dsL_law_2401 0 = .ok (.aload_n 0, 1) ∧ okop dsL_law_2401 0 = true) ∧ (decode dsL_law_2401 1 = .ok (.iload 5, 2) ∧ okop dsL_law_2401 1 = true) ∧ (decode dsL_law_2401 3 = .ok (.iconst 2, 1) ∧ okop dsL_law_2401 3 = true) ∧ (decode dsL_law_2401 4 = .ok (.iadd, 1) ∧ okop dsL_law_2401 4 = true) ∧ (decode dsL_law_2401 5 = .ok (.iaload, 1) ∧ okop dsL_law_2401 5 = true) ∧ (decode dsL_law_2401 6 = .ok (.invokevirtual 379, 3) ∧ okop dsL_law_2401 6 = true) ∧ (decode dsL_law_2401 9 = .ok (.lstore 7, 2) ∧ okop dsL_law_2401 9 = true) ∧ (decode dsL_law_2401 11 = .ok (.goto 519, 3) ∧ okop dsL_law_2401 11 = true) ∧ (decode dsL_law_2401 14 = .ok (.aload_n 1, 1) ∧ okop dsL_law_2401 14 = true) ∧ (decode dsL_law_2401 15 = .ok (.aload_n 0, 1) ∧ okop dsL_law_2401 15 = true) := by decide +kernel
theorem dL_law_2401 : decode cL_law 2401 = .ok (.aload_n 0, 1) := dgq (p := 0) daL_law_2401 dbL_law_2401.1
theorem dL_law_2402 : decode cL_law 2402 = .ok (.iload 5, 2) := dgq (p := 1) daL_law_2401 dbL_law_2401.2.1
theorem dL_law_2404 : decode cL_law 2404 = .ok (.iconst 2, 1) := dgq (p := 3) daL_law_2401 dbL_law_2401.2.2.1
theorem dL_law_2405 : decode cL_law 2405 = .ok (.iadd, 1) := dgq (p := 4) daL_law_2401 dbL_law_2401.2.2.2.1
theorem dL_law_2406 : decode cL_law 2406 = .ok (.iaload, 1) := dgq (p := 5) daL_law_2401 dbL_law_2401.2.2.2.2.1
theorem dL_law_2407 : decode cL_law 2407 = .ok (.invokevirtual 379, 3) := dgq (p := 6) daL_law_2401 dbL_law_2401.2.2.2.2.2.1
theorem dL_law_2410 : decode cL_law 2410 = .ok (.lstore 7, 2) := dgq (p := 9) daL_law_2401 dbL_law_2401.2.2.2.2.2.2.1
theorem dL_law_2412 : decode cL_law 2412 = .ok (.goto 519, 3) := dgq (p := 11) daL_law_2401 dbL_law_2401.2.2.2.2.2.2.2.1
theorem dL_law_2415 : decode cL_law 2415 = .ok (.aload_n 1, 1) := dgq (p := 14) daL_law_2401 dbL_law_2401.2.2.2.2.2.2.2.2.1
theorem dL_law_2416 : decode cL_law 2416 = .ok (.aload_n 0, 1) := dgq (p := 15) daL_law_2401 dbL_law_2401.2.2.2.2.2.2.2.2.2
def dsL_law_2417 : ByteArray := ⟨#[21, 5, 4, 96, 46, 42, 21, 5, 5, 96, 46, 42]⟩
theorem daL_law_2417 : agB cL_law dsL_law_2417 2417 := agB_of (n := 12) (by decide +kernel)
theorem dbL_law_2417 : (decode dsL_law_2417 0 = .ok (.iload 5, 2) ∧ okop dsL_law_2417 0 = true) ∧ (decode dsL_law_2417 2 = .ok (.iconst 1, 1) ∧ okop dsL_law_2417 2 = true) ∧ (decode dsL_law_2417 3 = .ok (.iadd, 1) ∧ okop dsL_law_2417 3 = true) ∧ (decode dsL_law_2417 4 = .ok (.iaload, 1) ∧ okop dsL_law_2417 4 = true) ∧ (decode dsL_law_2417 5 = .ok (.aload_n 0, 1) ∧ okop dsL_law_2417 5 = true) ∧ (decode dsL_law_2417 6 = .ok (.iload 5, 2) ∧ okop dsL_law_2417 6 = true) ∧ (decode dsL_law_2417 8 = .ok (.iconst 2, 1) ∧ okop dsL_law_2417 8 = true) ∧ (decode dsL_law_2417 9 = .ok (.iadd, 1) ∧ okop dsL_law_2417 9 = true) ∧ (decode dsL_law_2417 10 = .ok (.iaload, 1) ∧ okop dsL_law_2417 10 = true) ∧ (decode dsL_law_2417 11 = .ok (.aload_n 0, 1) ∧ okop dsL_law_2417 11 = true) := by decide +kernel
theorem dL_law_2417 : decode cL_law 2417 = .ok (.iload 5, 2) := dgq (p := 0) daL_law_2417 dbL_law_2417.1
theorem dL_law_2419 : decode cL_law 2419 = .ok (.iconst 1, 1) := dgq (p := 2) daL_law_2417 dbL_law_2417.2.1
theorem dL_law_2420 : decode cL_law 2420 = .ok (.iadd, 1) := dgq (p := 3) daL_law_2417 dbL_law_2417.2.2.1
theorem dL_law_2421 : decode cL_law 2421 = .ok (.iaload, 1) := dgq (p := 4) daL_law_2417 dbL_law_2417.2.2.2.1
theorem dL_law_2422 : decode cL_law 2422 = .ok (.aload_n 0, 1) := dgq (p := 5) daL_law_2417 dbL_law_2417.2.2.2.2.1
theorem dL_law_2423 : decode cL_law 2423 = .ok (.iload 5, 2) := dgq (p := 6) daL_law_2417 dbL_law_2417.2.2.2.2.2.1
theorem dL_law_2425 : decode cL_law 2425 = .ok (.iconst 2, 1) := dgq (p := 8) daL_law_2417 dbL_law_2417.2.2.2.2.2.2.1
theorem dL_law_2426 : decode cL_law 2426 = .ok (.iadd, 1) := dgq (p := 9) daL_law_2417 dbL_law_2417.2.2.2.2.2.2.2.1
theorem dL_law_2427 : decode cL_law 2427 = .ok (.iaload, 1) := dgq (p := 10) daL_law_2417 dbL_law_2417.2.2.2.2.2.2.2.2.1
theorem dL_law_2428 : decode cL_law 2428 = .ok (.aload_n 0, 1) := dgq (p := 11) daL_law_2417 dbL_law_2417.2.2.2.2.2.2.2.2.2
def dsL_law_2429 : ByteArray := ⟨#[21, 5, 6, 96, 46, 42, 21, 5, 7, 96, 46, 45]⟩
theorem daL_law_2429 : agB cL_law dsL_law_2429 2429 := agB_of (n := 12) (by decide +kernel)
theorem dbL_law_2429 : (decode dsL_law_2429 0 = .ok (.iload 5, 2) ∧ okop dsL_law_2429 0 = true) ∧ (decode dsL_law_2429 2 = .ok (.iconst 3, 1) ∧ okop dsL_law_2429 2 = true) ∧ (decode dsL_law_2429 3 = .ok (.iadd, 1) ∧ okop dsL_law_2429 3 = true) ∧ (decode dsL_law_2429 4 = .ok (.iaload, 1) ∧ okop dsL_law_2429 4 = true) ∧ (decode dsL_law_2429 5 = .ok (.aload_n 0, 1) ∧ okop dsL_law_2429 5 = true) ∧ (decode dsL_law_2429 6 = .ok (.iload 5, 2) ∧ okop dsL_law_2429 6 = true) ∧ (decode dsL_law_2429 8 = .ok (.iconst 4, 1) ∧ okop dsL_law_2429 8 = true) ∧ (decode dsL_law_2429 9 = .ok (.iadd, 1) ∧ okop dsL_law_2429 9 = true) ∧ (decode dsL_law_2429 10 = .ok (.iaload, 1) ∧ okop dsL_law_2429 10 = true) ∧ (decode dsL_law_2429 11 = .ok (.aload_n 3, 1) ∧ okop dsL_law_2429 11 = true) := by decide +kernel
theorem dL_law_2429 : decode cL_law 2429 = .ok (.iload 5, 2) := dgq (p := 0) daL_law_2429 dbL_law_2429.1
theorem dL_law_2431 : decode cL_law 2431 = .ok (.iconst 3, 1) := dgq (p := 2) daL_law_2429 dbL_law_2429.2.1
theorem dL_law_2432 : decode cL_law 2432 = .ok (.iadd, 1) := dgq (p := 3) daL_law_2429 dbL_law_2429.2.2.1
theorem dL_law_2433 : decode cL_law 2433 = .ok (.iaload, 1) := dgq (p := 4) daL_law_2429 dbL_law_2429.2.2.2.1
theorem dL_law_2434 : decode cL_law 2434 = .ok (.aload_n 0, 1) := dgq (p := 5) daL_law_2429 dbL_law_2429.2.2.2.2.1
theorem dL_law_2435 : decode cL_law 2435 = .ok (.iload 5, 2) := dgq (p := 6) daL_law_2429 dbL_law_2429.2.2.2.2.2.1
theorem dL_law_2437 : decode cL_law 2437 = .ok (.iconst 4, 1) := dgq (p := 8) daL_law_2429 dbL_law_2429.2.2.2.2.2.2.1
theorem dL_law_2438 : decode cL_law 2438 = .ok (.iadd, 1) := dgq (p := 9) daL_law_2429 dbL_law_2429.2.2.2.2.2.2.2.1
theorem dL_law_2439 : decode cL_law 2439 = .ok (.iaload, 1) := dgq (p := 10) daL_law_2429 dbL_law_2429.2.2.2.2.2.2.2.2.1
theorem dL_law_2440 : decode cL_law 2440 = .ok (.aload_n 3, 1) := dgq (p := 11) daL_law_2429 dbL_law_2429.2.2.2.2.2.2.2.2.2
def dsL_law_2441 : ByteArray := ⟨#[184, 1, 124, 54, 6, 44, 42, 21, 5, 4, 96, 46, 42, 21, 5]⟩
theorem daL_law_2441 : agB cL_law dsL_law_2441 2441 := agB_of (n := 15) (by decide +kernel)
theorem dbL_law_2441 : (decode dsL_law_2441 0 = .ok (.invokestatic 380, 3) ∧ okop dsL_law_2441 0 = true) ∧ (decode dsL_law_2441 3 = .ok (.istore 6, 2) ∧ okop dsL_law_2441 3 = true) ∧ (decode dsL_law_2441 5 = .ok (.aload_n 2, 1) ∧ okop dsL_law_2441 5 = true) ∧ (decode dsL_law_2441 6 = .ok (.aload_n 0, 1) ∧ okop dsL_law_2441 6 = true) ∧ (decode dsL_law_2441 7 = .ok (.iload 5, 2) ∧ okop dsL_law_2441 7 = true) ∧ (decode dsL_law_2441 9 = .ok (.iconst 1, 1) ∧ okop dsL_law_2441 9 = true) ∧ (decode dsL_law_2441 10 = .ok (.iadd, 1) ∧ okop dsL_law_2441 10 = true) ∧ (decode dsL_law_2441 11 = .ok (.iaload, 1) ∧ okop dsL_law_2441 11 = true) ∧ (decode dsL_law_2441 12 = .ok (.aload_n 0, 1) ∧ okop dsL_law_2441 12 = true) ∧ (decode dsL_law_2441 13 = .ok (.iload 5, 2) ∧ okop dsL_law_2441 13 = true) := by decide +kernel
theorem dL_law_2441 : decode cL_law 2441 = .ok (.invokestatic 380, 3) := dgq (p := 0) daL_law_2441 dbL_law_2441.1
theorem dL_law_2444 : decode cL_law 2444 = .ok (.istore 6, 2) := dgq (p := 3) daL_law_2441 dbL_law_2441.2.1
theorem dL_law_2446 : decode cL_law 2446 = .ok (.aload_n 2, 1) := dgq (p := 5) daL_law_2441 dbL_law_2441.2.2.1
theorem dL_law_2447 : decode cL_law 2447 = .ok (.aload_n 0, 1) := dgq (p := 6) daL_law_2441 dbL_law_2441.2.2.2.1
theorem dL_law_2448 : decode cL_law 2448 = .ok (.iload 5, 2) := dgq (p := 7) daL_law_2441 dbL_law_2441.2.2.2.2.1
theorem dL_law_2450 : decode cL_law 2450 = .ok (.iconst 1, 1) := dgq (p := 9) daL_law_2441 dbL_law_2441.2.2.2.2.2.1
theorem dL_law_2451 : decode cL_law 2451 = .ok (.iadd, 1) := dgq (p := 10) daL_law_2441 dbL_law_2441.2.2.2.2.2.2.1
theorem dL_law_2452 : decode cL_law 2452 = .ok (.iaload, 1) := dgq (p := 11) daL_law_2441 dbL_law_2441.2.2.2.2.2.2.2.1
theorem dL_law_2453 : decode cL_law 2453 = .ok (.aload_n 0, 1) := dgq (p := 12) daL_law_2441 dbL_law_2441.2.2.2.2.2.2.2.2.1
theorem dL_law_2454 : decode cL_law 2454 = .ok (.iload 5, 2) := dgq (p := 13) daL_law_2441 dbL_law_2441.2.2.2.2.2.2.2.2.2
def dsL_law_2456 : ByteArray := ⟨#[5, 96, 46, 42, 21, 5, 6, 96, 46, 42, 21, 5]⟩
theorem daL_law_2456 : agB cL_law dsL_law_2456 2456 := agB_of (n := 12) (by decide +kernel)
theorem dbL_law_2456 : (decode dsL_law_2456 0 = .ok (.iconst 2, 1) ∧ okop dsL_law_2456 0 = true) ∧ (decode dsL_law_2456 1 = .ok (.iadd, 1) ∧ okop dsL_law_2456 1 = true) ∧ (decode dsL_law_2456 2 = .ok (.iaload, 1) ∧ okop dsL_law_2456 2 = true) ∧ (decode dsL_law_2456 3 = .ok (.aload_n 0, 1) ∧ okop dsL_law_2456 3 = true) ∧ (decode dsL_law_2456 4 = .ok (.iload 5, 2) ∧ okop dsL_law_2456 4 = true) ∧ (decode dsL_law_2456 6 = .ok (.iconst 3, 1) ∧ okop dsL_law_2456 6 = true) ∧ (decode dsL_law_2456 7 = .ok (.iadd, 1) ∧ okop dsL_law_2456 7 = true) ∧ (decode dsL_law_2456 8 = .ok (.iaload, 1) ∧ okop dsL_law_2456 8 = true) ∧ (decode dsL_law_2456 9 = .ok (.aload_n 0, 1) ∧ okop dsL_law_2456 9 = true) ∧ (decode dsL_law_2456 10 = .ok (.iload 5, 2) ∧ okop dsL_law_2456 10 = true) := by decide +kernel
theorem dL_law_2456 : decode cL_law 2456 = .ok (.iconst 2, 1) := dgq (p := 0) daL_law_2456 dbL_law_2456.1
theorem dL_law_2457 : decode cL_law 2457 = .ok (.iadd, 1) := dgq (p := 1) daL_law_2456 dbL_law_2456.2.1
theorem dL_law_2458 : decode cL_law 2458 = .ok (.iaload, 1) := dgq (p := 2) daL_law_2456 dbL_law_2456.2.2.1
theorem dL_law_2459 : decode cL_law 2459 = .ok (.aload_n 0, 1) := dgq (p := 3) daL_law_2456 dbL_law_2456.2.2.2.1
theorem dL_law_2460 : decode cL_law 2460 = .ok (.iload 5, 2) := dgq (p := 4) daL_law_2456 dbL_law_2456.2.2.2.2.1
theorem dL_law_2462 : decode cL_law 2462 = .ok (.iconst 3, 1) := dgq (p := 6) daL_law_2456 dbL_law_2456.2.2.2.2.2.1
theorem dL_law_2463 : decode cL_law 2463 = .ok (.iadd, 1) := dgq (p := 7) daL_law_2456 dbL_law_2456.2.2.2.2.2.2.1
theorem dL_law_2464 : decode cL_law 2464 = .ok (.iaload, 1) := dgq (p := 8) daL_law_2456 dbL_law_2456.2.2.2.2.2.2.2.1
theorem dL_law_2465 : decode cL_law 2465 = .ok (.aload_n 0, 1) := dgq (p := 9) daL_law_2456 dbL_law_2456.2.2.2.2.2.2.2.2.1
theorem dL_law_2466 : decode cL_law 2466 = .ok (.iload 5, 2) := dgq (p := 10) daL_law_2456 dbL_law_2456.2.2.2.2.2.2.2.2.2
def dsL_law_2468 : ByteArray := ⟨#[7, 96, 46, 182, 1, 126, 54, 7, 167, 1, 199, 43, 42, 21, 5, 4]⟩
theorem daL_law_2468 : agB cL_law dsL_law_2468 2468 := agB_of (n := 16) (by decide +kernel)
theorem dbL_law_2468 : (decode dsL_law_2468 0 = .ok (.iconst 4, 1) ∧ okop dsL_law_2468 0 = true) ∧ (decode dsL_law_2468 1 = .ok (.iadd, 1) ∧ okop dsL_law_2468 1 = true) ∧ (decode dsL_law_2468 2 = .ok (.iaload, 1) ∧ okop dsL_law_2468 2 = true) ∧ (decode dsL_law_2468 3 = .ok (.invokevirtual 382, 3) ∧ okop dsL_law_2468 3 = true) ∧ (decode dsL_law_2468 6 = .ok (.istore 7, 2) ∧ okop dsL_law_2468 6 = true) ∧ (decode dsL_law_2468 8 = .ok (.goto 455, 3) ∧ okop dsL_law_2468 8 = true) ∧ (decode dsL_law_2468 11 = .ok (.aload_n 1, 1) ∧ okop dsL_law_2468 11 = true) ∧ (decode dsL_law_2468 12 = .ok (.aload_n 0, 1) ∧ okop dsL_law_2468 12 = true) ∧ (decode dsL_law_2468 13 = .ok (.iload 5, 2) ∧ okop dsL_law_2468 13 = true) ∧ (decode dsL_law_2468 15 = .ok (.iconst 1, 1) ∧ okop dsL_law_2468 15 = true) := by decide +kernel
theorem dL_law_2468 : decode cL_law 2468 = .ok (.iconst 4, 1) := dgq (p := 0) daL_law_2468 dbL_law_2468.1
theorem dL_law_2469 : decode cL_law 2469 = .ok (.iadd, 1) := dgq (p := 1) daL_law_2468 dbL_law_2468.2.1
theorem dL_law_2470 : decode cL_law 2470 = .ok (.iaload, 1) := dgq (p := 2) daL_law_2468 dbL_law_2468.2.2.1
theorem dL_law_2471 : decode cL_law 2471 = .ok (.invokevirtual 382, 3) := dgq (p := 3) daL_law_2468 dbL_law_2468.2.2.2.1
theorem dL_law_2474 : decode cL_law 2474 = .ok (.istore 7, 2) := dgq (p := 6) daL_law_2468 dbL_law_2468.2.2.2.2.1
theorem dL_law_2476 : decode cL_law 2476 = .ok (.goto 455, 3) := dgq (p := 8) daL_law_2468 dbL_law_2468.2.2.2.2.2.1
theorem dL_law_2479 : decode cL_law 2479 = .ok (.aload_n 1, 1) := dgq (p := 11) daL_law_2468 dbL_law_2468.2.2.2.2.2.2.1
theorem dL_law_2480 : decode cL_law 2480 = .ok (.aload_n 0, 1) := dgq (p := 12) daL_law_2468 dbL_law_2468.2.2.2.2.2.2.2.1
theorem dL_law_2481 : decode cL_law 2481 = .ok (.iload 5, 2) := dgq (p := 13) daL_law_2468 dbL_law_2468.2.2.2.2.2.2.2.2.1
theorem dL_law_2483 : decode cL_law 2483 = .ok (.iconst 1, 1) := dgq (p := 15) daL_law_2468 dbL_law_2468.2.2.2.2.2.2.2.2.2
def dsL_law_2484 : ByteArray := ⟨#[96, 46, 45, 184, 1, 127, 54, 6, 44, 42, 21, 5, 4, 96]⟩
theorem daL_law_2484 : agB cL_law dsL_law_2484 2484 := agB_of (n := 14) (by decide +kernel)
theorem dbL_law_2484 : (decode dsL_law_2484 0 = .ok (.iadd, 1) ∧ okop dsL_law_2484 0 = true) ∧ (decode dsL_law_2484 1 = .ok (.iaload, 1) ∧ okop dsL_law_2484 1 = true) ∧ (decode dsL_law_2484 2 = .ok (.aload_n 3, 1) ∧ okop dsL_law_2484 2 = true) ∧ (decode dsL_law_2484 3 = .ok (.invokestatic 383, 3) ∧ okop dsL_law_2484 3 = true) ∧ (decode dsL_law_2484 6 = .ok (.istore 6, 2) ∧ okop dsL_law_2484 6 = true) ∧ (decode dsL_law_2484 8 = .ok (.aload_n 2, 1) ∧ okop dsL_law_2484 8 = true) ∧ (decode dsL_law_2484 9 = .ok (.aload_n 0, 1) ∧ okop dsL_law_2484 9 = true) ∧ (decode dsL_law_2484 10 = .ok (.iload 5, 2) ∧ okop dsL_law_2484 10 = true) ∧ (decode dsL_law_2484 12 = .ok (.iconst 1, 1) ∧ okop dsL_law_2484 12 = true) ∧ (decode dsL_law_2484 13 = .ok (.iadd, 1) ∧ okop dsL_law_2484 13 = true) := by decide +kernel
theorem dL_law_2484 : decode cL_law 2484 = .ok (.iadd, 1) := dgq (p := 0) daL_law_2484 dbL_law_2484.1
theorem dL_law_2485 : decode cL_law 2485 = .ok (.iaload, 1) := dgq (p := 1) daL_law_2484 dbL_law_2484.2.1
theorem dL_law_2486 : decode cL_law 2486 = .ok (.aload_n 3, 1) := dgq (p := 2) daL_law_2484 dbL_law_2484.2.2.1
theorem dL_law_2487 : decode cL_law 2487 = .ok (.invokestatic 383, 3) := dgq (p := 3) daL_law_2484 dbL_law_2484.2.2.2.1
theorem dL_law_2490 : decode cL_law 2490 = .ok (.istore 6, 2) := dgq (p := 6) daL_law_2484 dbL_law_2484.2.2.2.2.1
theorem dL_law_2492 : decode cL_law 2492 = .ok (.aload_n 2, 1) := dgq (p := 8) daL_law_2484 dbL_law_2484.2.2.2.2.2.1
theorem dL_law_2493 : decode cL_law 2493 = .ok (.aload_n 0, 1) := dgq (p := 9) daL_law_2484 dbL_law_2484.2.2.2.2.2.2.1
theorem dL_law_2494 : decode cL_law 2494 = .ok (.iload 5, 2) := dgq (p := 10) daL_law_2484 dbL_law_2484.2.2.2.2.2.2.2.1
theorem dL_law_2496 : decode cL_law 2496 = .ok (.iconst 1, 1) := dgq (p := 12) daL_law_2484 dbL_law_2484.2.2.2.2.2.2.2.2.1
theorem dL_law_2497 : decode cL_law 2497 = .ok (.iadd, 1) := dgq (p := 13) daL_law_2484 dbL_law_2484.2.2.2.2.2.2.2.2.2
def dsL_law_2498 : ByteArray := ⟨#[46, 182, 1, 129, 55, 7, 167, 1, 171, 43, 42, 21, 5, 4, 96, 46]⟩
theorem daL_law_2498 : agB cL_law dsL_law_2498 2498 := agB_of (n := 16) (by decide +kernel)
theorem dbL_law_2498 : (decode dsL_law_2498 0 = .ok (.iaload, 1) ∧ okop dsL_law_2498 0 = true) ∧ (decode dsL_law_2498 1 = .ok (.invokevirtual 385, 3) ∧ okop dsL_law_2498 1 = true) ∧ (decode dsL_law_2498 4 = .ok (.lstore 7, 2) ∧ okop dsL_law_2498 4 = true) ∧ (decode dsL_law_2498 6 = .ok (.goto 427, 3) ∧ okop dsL_law_2498 6 = true) ∧ (decode dsL_law_2498 9 = .ok (.aload_n 1, 1) ∧ okop dsL_law_2498 9 = true) ∧ (decode dsL_law_2498 10 = .ok (.aload_n 0, 1) ∧ okop dsL_law_2498 10 = true) ∧ (decode dsL_law_2498 11 = .ok (.iload 5, 2) ∧ okop dsL_law_2498 11 = true) ∧ (decode dsL_law_2498 13 = .ok (.iconst 1, 1) ∧ okop dsL_law_2498 13 = true) ∧ (decode dsL_law_2498 14 = .ok (.iadd, 1) ∧ okop dsL_law_2498 14 = true) ∧ (decode dsL_law_2498 15 = .ok (.iaload, 1) ∧ okop dsL_law_2498 15 = true) := by decide +kernel
theorem dL_law_2498 : decode cL_law 2498 = .ok (.iaload, 1) := dgq (p := 0) daL_law_2498 dbL_law_2498.1
theorem dL_law_2499 : decode cL_law 2499 = .ok (.invokevirtual 385, 3) := dgq (p := 1) daL_law_2498 dbL_law_2498.2.1
theorem dL_law_2502 : decode cL_law 2502 = .ok (.lstore 7, 2) := dgq (p := 4) daL_law_2498 dbL_law_2498.2.2.1
theorem dL_law_2504 : decode cL_law 2504 = .ok (.goto 427, 3) := dgq (p := 6) daL_law_2498 dbL_law_2498.2.2.2.1
theorem dL_law_2507 : decode cL_law 2507 = .ok (.aload_n 1, 1) := dgq (p := 9) daL_law_2498 dbL_law_2498.2.2.2.2.1
theorem dL_law_2508 : decode cL_law 2508 = .ok (.aload_n 0, 1) := dgq (p := 10) daL_law_2498 dbL_law_2498.2.2.2.2.2.1
theorem dL_law_2509 : decode cL_law 2509 = .ok (.iload 5, 2) := dgq (p := 11) daL_law_2498 dbL_law_2498.2.2.2.2.2.2.1
theorem dL_law_2511 : decode cL_law 2511 = .ok (.iconst 1, 1) := dgq (p := 13) daL_law_2498 dbL_law_2498.2.2.2.2.2.2.2.1
theorem dL_law_2512 : decode cL_law 2512 = .ok (.iadd, 1) := dgq (p := 14) daL_law_2498 dbL_law_2498.2.2.2.2.2.2.2.2.1
theorem dL_law_2513 : decode cL_law 2513 = .ok (.iaload, 1) := dgq (p := 15) daL_law_2498 dbL_law_2498.2.2.2.2.2.2.2.2.2
def dsL_law_2514 : ByteArray := ⟨#[42, 21, 5, 5, 96, 46, 42, 21, 5, 6, 96, 46]⟩
theorem daL_law_2514 : agB cL_law dsL_law_2514 2514 := agB_of (n := 12) (by decide +kernel)
theorem dbL_law_2514 : (decode dsL_law_2514 0 = .ok (.aload_n 0, 1) ∧ okop dsL_law_2514 0 = true) ∧ (decode dsL_law_2514 1 = .ok (.iload 5, 2) ∧ okop dsL_law_2514 1 = true) ∧ (decode dsL_law_2514 3 = .ok (.iconst 2, 1) ∧ okop dsL_law_2514 3 = true) ∧ (decode dsL_law_2514 4 = .ok (.iadd, 1) ∧ okop dsL_law_2514 4 = true) ∧ (decode dsL_law_2514 5 = .ok (.iaload, 1) ∧ okop dsL_law_2514 5 = true) ∧ (decode dsL_law_2514 6 = .ok (.aload_n 0, 1) ∧ okop dsL_law_2514 6 = true) ∧ (decode dsL_law_2514 7 = .ok (.iload 5, 2) ∧ okop dsL_law_2514 7 = true) ∧ (decode dsL_law_2514 9 = .ok (.iconst 3, 1) ∧ okop dsL_law_2514 9 = true) ∧ (decode dsL_law_2514 10 = .ok (.iadd, 1) ∧ okop dsL_law_2514 10 = true) ∧ (decode dsL_law_2514 11 = .ok (.iaload, 1) ∧ okop dsL_law_2514 11 = true) := by decide +kernel
theorem dL_law_2514 : decode cL_law 2514 = .ok (.aload_n 0, 1) := dgq (p := 0) daL_law_2514 dbL_law_2514.1
theorem dL_law_2515 : decode cL_law 2515 = .ok (.iload 5, 2) := dgq (p := 1) daL_law_2514 dbL_law_2514.2.1
theorem dL_law_2517 : decode cL_law 2517 = .ok (.iconst 2, 1) := dgq (p := 3) daL_law_2514 dbL_law_2514.2.2.1
theorem dL_law_2518 : decode cL_law 2518 = .ok (.iadd, 1) := dgq (p := 4) daL_law_2514 dbL_law_2514.2.2.2.1
theorem dL_law_2519 : decode cL_law 2519 = .ok (.iaload, 1) := dgq (p := 5) daL_law_2514 dbL_law_2514.2.2.2.2.1
theorem dL_law_2520 : decode cL_law 2520 = .ok (.aload_n 0, 1) := dgq (p := 6) daL_law_2514 dbL_law_2514.2.2.2.2.2.1
theorem dL_law_2521 : decode cL_law 2521 = .ok (.iload 5, 2) := dgq (p := 7) daL_law_2514 dbL_law_2514.2.2.2.2.2.2.1
theorem dL_law_2523 : decode cL_law 2523 = .ok (.iconst 3, 1) := dgq (p := 9) daL_law_2514 dbL_law_2514.2.2.2.2.2.2.2.1
theorem dL_law_2524 : decode cL_law 2524 = .ok (.iadd, 1) := dgq (p := 10) daL_law_2514 dbL_law_2514.2.2.2.2.2.2.2.2.1
theorem dL_law_2525 : decode cL_law 2525 = .ok (.iaload, 1) := dgq (p := 11) daL_law_2514 dbL_law_2514.2.2.2.2.2.2.2.2.2
def dsL_law_2526 : ByteArray := ⟨#[45, 184, 1, 130, 54, 6, 44, 42, 21, 5, 4, 96, 46, 42]⟩
theorem daL_law_2526 : agB cL_law dsL_law_2526 2526 := agB_of (n := 14) (by decide +kernel)
theorem dbL_law_2526 : (decode dsL_law_2526 0 = .ok (.aload_n 3, 1) ∧ okop dsL_law_2526 0 = true) ∧ (decode dsL_law_2526 1 = .ok (.invokestatic 386, 3) ∧ okop dsL_law_2526 1 = true) ∧ (decode dsL_law_2526 4 = .ok (.istore 6, 2) ∧ okop dsL_law_2526 4 = true) ∧ (decode dsL_law_2526 6 = .ok (.aload_n 2, 1) ∧ okop dsL_law_2526 6 = true) ∧ (decode dsL_law_2526 7 = .ok (.aload_n 0, 1) ∧ okop dsL_law_2526 7 = true) ∧ (decode dsL_law_2526 8 = .ok (.iload 5, 2) ∧ okop dsL_law_2526 8 = true) ∧ (decode dsL_law_2526 10 = .ok (.iconst 1, 1) ∧ okop dsL_law_2526 10 = true) ∧ (decode dsL_law_2526 11 = .ok (.iadd, 1) ∧ okop dsL_law_2526 11 = true) ∧ (decode dsL_law_2526 12 = .ok (.iaload, 1) ∧ okop dsL_law_2526 12 = true) ∧ (decode dsL_law_2526 13 = .ok (.aload_n 0, 1) ∧ okop dsL_law_2526 13 = true) := by decide +kernel
theorem dL_law_2526 : decode cL_law 2526 = .ok (.aload_n 3, 1) := dgq (p := 0) daL_law_2526 dbL_law_2526.1
theorem dL_law_2527 : decode cL_law 2527 = .ok (.invokestatic 386, 3) := dgq (p := 1) daL_law_2526 dbL_law_2526.2.1
theorem dL_law_2530 : decode cL_law 2530 = .ok (.istore 6, 2) := dgq (p := 4) daL_law_2526 dbL_law_2526.2.2.1
theorem dL_law_2532 : decode cL_law 2532 = .ok (.aload_n 2, 1) := dgq (p := 6) daL_law_2526 dbL_law_2526.2.2.2.1
theorem dL_law_2533 : decode cL_law 2533 = .ok (.aload_n 0, 1) := dgq (p := 7) daL_law_2526 dbL_law_2526.2.2.2.2.1
theorem dL_law_2534 : decode cL_law 2534 = .ok (.iload 5, 2) := dgq (p := 8) daL_law_2526 dbL_law_2526.2.2.2.2.2.1
theorem dL_law_2536 : decode cL_law 2536 = .ok (.iconst 1, 1) := dgq (p := 10) daL_law_2526 dbL_law_2526.2.2.2.2.2.2.1
theorem dL_law_2537 : decode cL_law 2537 = .ok (.iadd, 1) := dgq (p := 11) daL_law_2526 dbL_law_2526.2.2.2.2.2.2.2.1
theorem dL_law_2538 : decode cL_law 2538 = .ok (.iaload, 1) := dgq (p := 12) daL_law_2526 dbL_law_2526.2.2.2.2.2.2.2.2.1
theorem dL_law_2539 : decode cL_law 2539 = .ok (.aload_n 0, 1) := dgq (p := 13) daL_law_2526 dbL_law_2526.2.2.2.2.2.2.2.2.2
def dsL_law_2540 : ByteArray := ⟨#[21, 5, 5, 96, 46, 42, 21, 5, 6, 96, 46, 182, 1, 132]⟩
theorem daL_law_2540 : agB cL_law dsL_law_2540 2540 := agB_of (n := 14) (by decide +kernel)
theorem dbL_law_2540 : (decode dsL_law_2540 0 = .ok (.iload 5, 2) ∧ okop dsL_law_2540 0 = true) ∧ (decode dsL_law_2540 2 = .ok (.iconst 2, 1) ∧ okop dsL_law_2540 2 = true) ∧ (decode dsL_law_2540 3 = .ok (.iadd, 1) ∧ okop dsL_law_2540 3 = true) ∧ (decode dsL_law_2540 4 = .ok (.iaload, 1) ∧ okop dsL_law_2540 4 = true) ∧ (decode dsL_law_2540 5 = .ok (.aload_n 0, 1) ∧ okop dsL_law_2540 5 = true) ∧ (decode dsL_law_2540 6 = .ok (.iload 5, 2) ∧ okop dsL_law_2540 6 = true) ∧ (decode dsL_law_2540 8 = .ok (.iconst 3, 1) ∧ okop dsL_law_2540 8 = true) ∧ (decode dsL_law_2540 9 = .ok (.iadd, 1) ∧ okop dsL_law_2540 9 = true) ∧ (decode dsL_law_2540 10 = .ok (.iaload, 1) ∧ okop dsL_law_2540 10 = true) ∧ (decode dsL_law_2540 11 = .ok (.invokevirtual 388, 3) ∧ okop dsL_law_2540 11 = true) := by decide +kernel
theorem dL_law_2540 : decode cL_law 2540 = .ok (.iload 5, 2) := dgq (p := 0) daL_law_2540 dbL_law_2540.1
theorem dL_law_2542 : decode cL_law 2542 = .ok (.iconst 2, 1) := dgq (p := 2) daL_law_2540 dbL_law_2540.2.1
theorem dL_law_2543 : decode cL_law 2543 = .ok (.iadd, 1) := dgq (p := 3) daL_law_2540 dbL_law_2540.2.2.1
theorem dL_law_2544 : decode cL_law 2544 = .ok (.iaload, 1) := dgq (p := 4) daL_law_2540 dbL_law_2540.2.2.2.1
theorem dL_law_2545 : decode cL_law 2545 = .ok (.aload_n 0, 1) := dgq (p := 5) daL_law_2540 dbL_law_2540.2.2.2.2.1
theorem dL_law_2546 : decode cL_law 2546 = .ok (.iload 5, 2) := dgq (p := 6) daL_law_2540 dbL_law_2540.2.2.2.2.2.1
theorem dL_law_2548 : decode cL_law 2548 = .ok (.iconst 3, 1) := dgq (p := 8) daL_law_2540 dbL_law_2540.2.2.2.2.2.2.1
theorem dL_law_2549 : decode cL_law 2549 = .ok (.iadd, 1) := dgq (p := 9) daL_law_2540 dbL_law_2540.2.2.2.2.2.2.2.1
theorem dL_law_2550 : decode cL_law 2550 = .ok (.iaload, 1) := dgq (p := 10) daL_law_2540 dbL_law_2540.2.2.2.2.2.2.2.2.1
theorem dL_law_2551 : decode cL_law 2551 = .ok (.invokevirtual 388, 3) := dgq (p := 11) daL_law_2540 dbL_law_2540.2.2.2.2.2.2.2.2.2
def dsL_law_2554 : ByteArray := ⟨#[54, 7, 167, 1, 119, 43, 42, 21, 5, 4, 96, 46, 45, 184, 1, 133]⟩
theorem daL_law_2554 : agB cL_law dsL_law_2554 2554 := agB_of (n := 16) (by decide +kernel)
theorem dbL_law_2554 : (decode dsL_law_2554 0 = .ok (.istore 7, 2) ∧ okop dsL_law_2554 0 = true) ∧ (decode dsL_law_2554 2 = .ok (.goto 375, 3) ∧ okop dsL_law_2554 2 = true) ∧ (decode dsL_law_2554 5 = .ok (.aload_n 1, 1) ∧ okop dsL_law_2554 5 = true) ∧ (decode dsL_law_2554 6 = .ok (.aload_n 0, 1) ∧ okop dsL_law_2554 6 = true) ∧ (decode dsL_law_2554 7 = .ok (.iload 5, 2) ∧ okop dsL_law_2554 7 = true) ∧ (decode dsL_law_2554 9 = .ok (.iconst 1, 1) ∧ okop dsL_law_2554 9 = true) ∧ (decode dsL_law_2554 10 = .ok (.iadd, 1) ∧ okop dsL_law_2554 10 = true) ∧ (decode dsL_law_2554 11 = .ok (.iaload, 1) ∧ okop dsL_law_2554 11 = true) ∧ (decode dsL_law_2554 12 = .ok (.aload_n 3, 1) ∧ okop dsL_law_2554 12 = true) ∧ (decode dsL_law_2554 13 = .ok (.invokestatic 389, 3) ∧ okop dsL_law_2554 13 = true) := by decide +kernel
theorem dL_law_2554 : decode cL_law 2554 = .ok (.istore 7, 2) := dgq (p := 0) daL_law_2554 dbL_law_2554.1
theorem dL_law_2556 : decode cL_law 2556 = .ok (.goto 375, 3) := dgq (p := 2) daL_law_2554 dbL_law_2554.2.1
theorem dL_law_2559 : decode cL_law 2559 = .ok (.aload_n 1, 1) := dgq (p := 5) daL_law_2554 dbL_law_2554.2.2.1
theorem dL_law_2560 : decode cL_law 2560 = .ok (.aload_n 0, 1) := dgq (p := 6) daL_law_2554 dbL_law_2554.2.2.2.1
theorem dL_law_2561 : decode cL_law 2561 = .ok (.iload 5, 2) := dgq (p := 7) daL_law_2554 dbL_law_2554.2.2.2.2.1
theorem dL_law_2563 : decode cL_law 2563 = .ok (.iconst 1, 1) := dgq (p := 9) daL_law_2554 dbL_law_2554.2.2.2.2.2.1
theorem dL_law_2564 : decode cL_law 2564 = .ok (.iadd, 1) := dgq (p := 10) daL_law_2554 dbL_law_2554.2.2.2.2.2.2.1
theorem dL_law_2565 : decode cL_law 2565 = .ok (.iaload, 1) := dgq (p := 11) daL_law_2554 dbL_law_2554.2.2.2.2.2.2.2.1
theorem dL_law_2566 : decode cL_law 2566 = .ok (.aload_n 3, 1) := dgq (p := 12) daL_law_2554 dbL_law_2554.2.2.2.2.2.2.2.2.1
theorem dL_law_2567 : decode cL_law 2567 = .ok (.invokestatic 389, 3) := dgq (p := 13) daL_law_2554 dbL_law_2554.2.2.2.2.2.2.2.2.2
def dsL_law_2570 : ByteArray := ⟨#[54, 6, 44, 42, 21, 5, 4, 96, 46, 182, 1, 135, 54, 7, 167, 1, 91]⟩
theorem daL_law_2570 : agB cL_law dsL_law_2570 2570 := agB_of (n := 17) (by decide +kernel)
theorem dbL_law_2570 : (decode dsL_law_2570 0 = .ok (.istore 6, 2) ∧ okop dsL_law_2570 0 = true) ∧ (decode dsL_law_2570 2 = .ok (.aload_n 2, 1) ∧ okop dsL_law_2570 2 = true) ∧ (decode dsL_law_2570 3 = .ok (.aload_n 0, 1) ∧ okop dsL_law_2570 3 = true) ∧ (decode dsL_law_2570 4 = .ok (.iload 5, 2) ∧ okop dsL_law_2570 4 = true) ∧ (decode dsL_law_2570 6 = .ok (.iconst 1, 1) ∧ okop dsL_law_2570 6 = true) ∧ (decode dsL_law_2570 7 = .ok (.iadd, 1) ∧ okop dsL_law_2570 7 = true) ∧ (decode dsL_law_2570 8 = .ok (.iaload, 1) ∧ okop dsL_law_2570 8 = true) ∧ (decode dsL_law_2570 9 = .ok (.invokevirtual 391, 3) ∧ okop dsL_law_2570 9 = true) ∧ (decode dsL_law_2570 12 = .ok (.istore 7, 2) ∧ okop dsL_law_2570 12 = true) ∧ (decode dsL_law_2570 14 = .ok (.goto 347, 3) ∧ okop dsL_law_2570 14 = true) := by decide +kernel
theorem dL_law_2570 : decode cL_law 2570 = .ok (.istore 6, 2) := dgq (p := 0) daL_law_2570 dbL_law_2570.1
theorem dL_law_2572 : decode cL_law 2572 = .ok (.aload_n 2, 1) := dgq (p := 2) daL_law_2570 dbL_law_2570.2.1
theorem dL_law_2573 : decode cL_law 2573 = .ok (.aload_n 0, 1) := dgq (p := 3) daL_law_2570 dbL_law_2570.2.2.1
theorem dL_law_2574 : decode cL_law 2574 = .ok (.iload 5, 2) := dgq (p := 4) daL_law_2570 dbL_law_2570.2.2.2.1
theorem dL_law_2576 : decode cL_law 2576 = .ok (.iconst 1, 1) := dgq (p := 6) daL_law_2570 dbL_law_2570.2.2.2.2.1
theorem dL_law_2577 : decode cL_law 2577 = .ok (.iadd, 1) := dgq (p := 7) daL_law_2570 dbL_law_2570.2.2.2.2.2.1
theorem dL_law_2578 : decode cL_law 2578 = .ok (.iaload, 1) := dgq (p := 8) daL_law_2570 dbL_law_2570.2.2.2.2.2.2.1
theorem dL_law_2579 : decode cL_law 2579 = .ok (.invokevirtual 391, 3) := dgq (p := 9) daL_law_2570 dbL_law_2570.2.2.2.2.2.2.2.1
theorem dL_law_2582 : decode cL_law 2582 = .ok (.istore 7, 2) := dgq (p := 12) daL_law_2570 dbL_law_2570.2.2.2.2.2.2.2.2.1
theorem dL_law_2584 : decode cL_law 2584 = .ok (.goto 347, 3) := dgq (p := 14) daL_law_2570 dbL_law_2570.2.2.2.2.2.2.2.2.2
def dsL_law_2587 : ByteArray := ⟨#[43, 42, 21, 5, 4, 96, 46, 45, 184, 1, 136, 54, 6, 44]⟩
theorem daL_law_2587 : agB cL_law dsL_law_2587 2587 := agB_of (n := 14) (by decide +kernel)
theorem dbL_law_2587 : (decode dsL_law_2587 0 = .ok (.aload_n 1, 1) ∧ okop dsL_law_2587 0 = true) ∧ (decode dsL_law_2587 1 = .ok (.aload_n 0, 1) ∧ okop dsL_law_2587 1 = true) ∧ (decode dsL_law_2587 2 = .ok (.iload 5, 2) ∧ okop dsL_law_2587 2 = true) ∧ (decode dsL_law_2587 4 = .ok (.iconst 1, 1) ∧ okop dsL_law_2587 4 = true) ∧ (decode dsL_law_2587 5 = .ok (.iadd, 1) ∧ okop dsL_law_2587 5 = true) ∧ (decode dsL_law_2587 6 = .ok (.iaload, 1) ∧ okop dsL_law_2587 6 = true) ∧ (decode dsL_law_2587 7 = .ok (.aload_n 3, 1) ∧ okop dsL_law_2587 7 = true) ∧ (decode dsL_law_2587 8 = .ok (.invokestatic 392, 3) ∧ okop dsL_law_2587 8 = true) ∧ (decode dsL_law_2587 11 = .ok (.istore 6, 2) ∧ okop dsL_law_2587 11 = true) ∧ (decode dsL_law_2587 13 = .ok (.aload_n 2, 1) ∧ okop dsL_law_2587 13 = true) := by decide +kernel
theorem dL_law_2587 : decode cL_law 2587 = .ok (.aload_n 1, 1) := dgq (p := 0) daL_law_2587 dbL_law_2587.1
theorem dL_law_2588 : decode cL_law 2588 = .ok (.aload_n 0, 1) := dgq (p := 1) daL_law_2587 dbL_law_2587.2.1
theorem dL_law_2589 : decode cL_law 2589 = .ok (.iload 5, 2) := dgq (p := 2) daL_law_2587 dbL_law_2587.2.2.1
theorem dL_law_2591 : decode cL_law 2591 = .ok (.iconst 1, 1) := dgq (p := 4) daL_law_2587 dbL_law_2587.2.2.2.1
theorem dL_law_2592 : decode cL_law 2592 = .ok (.iadd, 1) := dgq (p := 5) daL_law_2587 dbL_law_2587.2.2.2.2.1
theorem dL_law_2593 : decode cL_law 2593 = .ok (.iaload, 1) := dgq (p := 6) daL_law_2587 dbL_law_2587.2.2.2.2.2.1
theorem dL_law_2594 : decode cL_law 2594 = .ok (.aload_n 3, 1) := dgq (p := 7) daL_law_2587 dbL_law_2587.2.2.2.2.2.2.1
theorem dL_law_2595 : decode cL_law 2595 = .ok (.invokestatic 392, 3) := dgq (p := 8) daL_law_2587 dbL_law_2587.2.2.2.2.2.2.2.1
theorem dL_law_2598 : decode cL_law 2598 = .ok (.istore 6, 2) := dgq (p := 11) daL_law_2587 dbL_law_2587.2.2.2.2.2.2.2.2.1
theorem dL_law_2600 : decode cL_law 2600 = .ok (.aload_n 2, 1) := dgq (p := 13) daL_law_2587 dbL_law_2587.2.2.2.2.2.2.2.2.2
def dsL_law_2601 : ByteArray := ⟨#[42, 21, 5, 4, 96, 46, 182, 1, 138, 54, 7, 167, 1, 63, 43, 42]⟩
theorem daL_law_2601 : agB cL_law dsL_law_2601 2601 := agB_of (n := 16) (by decide +kernel)
theorem dbL_law_2601 : (decode dsL_law_2601 0 = .ok (.aload_n 0, 1) ∧ okop dsL_law_2601 0 = true) ∧ (decode dsL_law_2601 1 = .ok (.iload 5, 2) ∧ okop dsL_law_2601 1 = true) ∧ (decode dsL_law_2601 3 = .ok (.iconst 1, 1) ∧ okop dsL_law_2601 3 = true) ∧ (decode dsL_law_2601 4 = .ok (.iadd, 1) ∧ okop dsL_law_2601 4 = true) ∧ (decode dsL_law_2601 5 = .ok (.iaload, 1) ∧ okop dsL_law_2601 5 = true) ∧ (decode dsL_law_2601 6 = .ok (.invokevirtual 394, 3) ∧ okop dsL_law_2601 6 = true) ∧ (decode dsL_law_2601 9 = .ok (.istore 7, 2) ∧ okop dsL_law_2601 9 = true) ∧ (decode dsL_law_2601 11 = .ok (.goto 319, 3) ∧ okop dsL_law_2601 11 = true) ∧ (decode dsL_law_2601 14 = .ok (.aload_n 1, 1) ∧ okop dsL_law_2601 14 = true) ∧ (decode dsL_law_2601 15 = .ok (.aload_n 0, 1) ∧ okop dsL_law_2601 15 = true) := by decide +kernel
theorem dL_law_2601 : decode cL_law 2601 = .ok (.aload_n 0, 1) := dgq (p := 0) daL_law_2601 dbL_law_2601.1
theorem dL_law_2602 : decode cL_law 2602 = .ok (.iload 5, 2) := dgq (p := 1) daL_law_2601 dbL_law_2601.2.1
theorem dL_law_2604 : decode cL_law 2604 = .ok (.iconst 1, 1) := dgq (p := 3) daL_law_2601 dbL_law_2601.2.2.1
theorem dL_law_2605 : decode cL_law 2605 = .ok (.iadd, 1) := dgq (p := 4) daL_law_2601 dbL_law_2601.2.2.2.1
theorem dL_law_2606 : decode cL_law 2606 = .ok (.iaload, 1) := dgq (p := 5) daL_law_2601 dbL_law_2601.2.2.2.2.1
theorem dL_law_2607 : decode cL_law 2607 = .ok (.invokevirtual 394, 3) := dgq (p := 6) daL_law_2601 dbL_law_2601.2.2.2.2.2.1
theorem dL_law_2610 : decode cL_law 2610 = .ok (.istore 7, 2) := dgq (p := 9) daL_law_2601 dbL_law_2601.2.2.2.2.2.2.1
theorem dL_law_2612 : decode cL_law 2612 = .ok (.goto 319, 3) := dgq (p := 11) daL_law_2601 dbL_law_2601.2.2.2.2.2.2.2.1
theorem dL_law_2615 : decode cL_law 2615 = .ok (.aload_n 1, 1) := dgq (p := 14) daL_law_2601 dbL_law_2601.2.2.2.2.2.2.2.2.1
theorem dL_law_2616 : decode cL_law 2616 = .ok (.aload_n 0, 1) := dgq (p := 15) daL_law_2601 dbL_law_2601.2.2.2.2.2.2.2.2.2
def dsL_law_2617 : ByteArray := ⟨#[21, 5, 4, 96, 46, 146, 42, 21, 5, 5, 96, 46]⟩
theorem daL_law_2617 : agB cL_law dsL_law_2617 2617 := agB_of (n := 12) (by decide +kernel)
theorem dbL_law_2617 : (decode dsL_law_2617 0 = .ok (.iload 5, 2) ∧ okop dsL_law_2617 0 = true) ∧ (decode dsL_law_2617 2 = .ok (.iconst 1, 1) ∧ okop dsL_law_2617 2 = true) ∧ (decode dsL_law_2617 3 = .ok (.iadd, 1) ∧ okop dsL_law_2617 3 = true) ∧ (decode dsL_law_2617 4 = .ok (.iaload, 1) ∧ okop dsL_law_2617 4 = true) ∧ (decode dsL_law_2617 5 = .ok (.i2c, 1) ∧ okop dsL_law_2617 5 = true) ∧ (decode dsL_law_2617 6 = .ok (.aload_n 0, 1) ∧ okop dsL_law_2617 6 = true) ∧ (decode dsL_law_2617 7 = .ok (.iload 5, 2) ∧ okop dsL_law_2617 7 = true) ∧ (decode dsL_law_2617 9 = .ok (.iconst 2, 1) ∧ okop dsL_law_2617 9 = true) ∧ (decode dsL_law_2617 10 = .ok (.iadd, 1) ∧ okop dsL_law_2617 10 = true) ∧ (decode dsL_law_2617 11 = .ok (.iaload, 1) ∧ okop dsL_law_2617 11 = true) := by decide +kernel
theorem dL_law_2617 : decode cL_law 2617 = .ok (.iload 5, 2) := dgq (p := 0) daL_law_2617 dbL_law_2617.1
theorem dL_law_2619 : decode cL_law 2619 = .ok (.iconst 1, 1) := dgq (p := 2) daL_law_2617 dbL_law_2617.2.1
theorem dL_law_2620 : decode cL_law 2620 = .ok (.iadd, 1) := dgq (p := 3) daL_law_2617 dbL_law_2617.2.2.1
theorem dL_law_2621 : decode cL_law 2621 = .ok (.iaload, 1) := dgq (p := 4) daL_law_2617 dbL_law_2617.2.2.2.1
theorem dL_law_2622 : decode cL_law 2622 = .ok (.i2c, 1) := dgq (p := 5) daL_law_2617 dbL_law_2617.2.2.2.2.1
theorem dL_law_2623 : decode cL_law 2623 = .ok (.aload_n 0, 1) := dgq (p := 6) daL_law_2617 dbL_law_2617.2.2.2.2.2.1
theorem dL_law_2624 : decode cL_law 2624 = .ok (.iload 5, 2) := dgq (p := 7) daL_law_2617 dbL_law_2617.2.2.2.2.2.2.1
theorem dL_law_2626 : decode cL_law 2626 = .ok (.iconst 2, 1) := dgq (p := 9) daL_law_2617 dbL_law_2617.2.2.2.2.2.2.2.1
theorem dL_law_2627 : decode cL_law 2627 = .ok (.iadd, 1) := dgq (p := 10) daL_law_2617 dbL_law_2617.2.2.2.2.2.2.2.2.1
theorem dL_law_2628 : decode cL_law 2628 = .ok (.iaload, 1) := dgq (p := 11) daL_law_2617 dbL_law_2617.2.2.2.2.2.2.2.2.2
def dsL_law_2629 : ByteArray := ⟨#[45, 184, 1, 139, 54, 6, 44, 42, 21, 5, 4, 96, 46, 146]⟩
theorem daL_law_2629 : agB cL_law dsL_law_2629 2629 := agB_of (n := 14) (by decide +kernel)
theorem dbL_law_2629 : (decode dsL_law_2629 0 = .ok (.aload_n 3, 1) ∧ okop dsL_law_2629 0 = true) ∧ (decode dsL_law_2629 1 = .ok (.invokestatic 395, 3) ∧ okop dsL_law_2629 1 = true) ∧ (decode dsL_law_2629 4 = .ok (.istore 6, 2) ∧ okop dsL_law_2629 4 = true) ∧ (decode dsL_law_2629 6 = .ok (.aload_n 2, 1) ∧ okop dsL_law_2629 6 = true) ∧ (decode dsL_law_2629 7 = .ok (.aload_n 0, 1) ∧ okop dsL_law_2629 7 = true) ∧ (decode dsL_law_2629 8 = .ok (.iload 5, 2) ∧ okop dsL_law_2629 8 = true) ∧ (decode dsL_law_2629 10 = .ok (.iconst 1, 1) ∧ okop dsL_law_2629 10 = true) ∧ (decode dsL_law_2629 11 = .ok (.iadd, 1) ∧ okop dsL_law_2629 11 = true) ∧ (decode dsL_law_2629 12 = .ok (.iaload, 1) ∧ okop dsL_law_2629 12 = true) ∧ (decode dsL_law_2629 13 = .ok (.i2c, 1) ∧ okop dsL_law_2629 13 = true) := by decide +kernel
theorem dL_law_2629 : decode cL_law 2629 = .ok (.aload_n 3, 1) := dgq (p := 0) daL_law_2629 dbL_law_2629.1
theorem dL_law_2630 : decode cL_law 2630 = .ok (.invokestatic 395, 3) := dgq (p := 1) daL_law_2629 dbL_law_2629.2.1
theorem dL_law_2633 : decode cL_law 2633 = .ok (.istore 6, 2) := dgq (p := 4) daL_law_2629 dbL_law_2629.2.2.1
theorem dL_law_2635 : decode cL_law 2635 = .ok (.aload_n 2, 1) := dgq (p := 6) daL_law_2629 dbL_law_2629.2.2.2.1
theorem dL_law_2636 : decode cL_law 2636 = .ok (.aload_n 0, 1) := dgq (p := 7) daL_law_2629 dbL_law_2629.2.2.2.2.1
theorem dL_law_2637 : decode cL_law 2637 = .ok (.iload 5, 2) := dgq (p := 8) daL_law_2629 dbL_law_2629.2.2.2.2.2.1
theorem dL_law_2639 : decode cL_law 2639 = .ok (.iconst 1, 1) := dgq (p := 10) daL_law_2629 dbL_law_2629.2.2.2.2.2.2.1
theorem dL_law_2640 : decode cL_law 2640 = .ok (.iadd, 1) := dgq (p := 11) daL_law_2629 dbL_law_2629.2.2.2.2.2.2.2.1
theorem dL_law_2641 : decode cL_law 2641 = .ok (.iaload, 1) := dgq (p := 12) daL_law_2629 dbL_law_2629.2.2.2.2.2.2.2.2.1
theorem dL_law_2642 : decode cL_law 2642 = .ok (.i2c, 1) := dgq (p := 13) daL_law_2629 dbL_law_2629.2.2.2.2.2.2.2.2.2
def dsL_law_2643 : ByteArray := ⟨#[42, 21, 5, 5, 96, 46, 182, 1, 142, 54, 7, 167, 1, 21, 43, 42]⟩
theorem daL_law_2643 : agB cL_law dsL_law_2643 2643 := agB_of (n := 16) (by decide +kernel)
theorem dbL_law_2643 : (decode dsL_law_2643 0 = .ok (.aload_n 0, 1) ∧ okop dsL_law_2643 0 = true) ∧ (decode dsL_law_2643 1 = .ok (.iload 5, 2) ∧ okop dsL_law_2643 1 = true) ∧ (decode dsL_law_2643 3 = .ok (.iconst 2, 1) ∧ okop dsL_law_2643 3 = true) ∧ (decode dsL_law_2643 4 = .ok (.iadd, 1) ∧ okop dsL_law_2643 4 = true) ∧ (decode dsL_law_2643 5 = .ok (.iaload, 1) ∧ okop dsL_law_2643 5 = true) ∧ (decode dsL_law_2643 6 = .ok (.invokevirtual 398, 3) ∧ okop dsL_law_2643 6 = true) ∧ (decode dsL_law_2643 9 = .ok (.istore 7, 2) ∧ okop dsL_law_2643 9 = true) ∧ (decode dsL_law_2643 11 = .ok (.goto 277, 3) ∧ okop dsL_law_2643 11 = true) ∧ (decode dsL_law_2643 14 = .ok (.aload_n 1, 1) ∧ okop dsL_law_2643 14 = true) ∧ (decode dsL_law_2643 15 = .ok (.aload_n 0, 1) ∧ okop dsL_law_2643 15 = true) := by decide +kernel
theorem dL_law_2643 : decode cL_law 2643 = .ok (.aload_n 0, 1) := dgq (p := 0) daL_law_2643 dbL_law_2643.1
theorem dL_law_2644 : decode cL_law 2644 = .ok (.iload 5, 2) := dgq (p := 1) daL_law_2643 dbL_law_2643.2.1
theorem dL_law_2646 : decode cL_law 2646 = .ok (.iconst 2, 1) := dgq (p := 3) daL_law_2643 dbL_law_2643.2.2.1
theorem dL_law_2647 : decode cL_law 2647 = .ok (.iadd, 1) := dgq (p := 4) daL_law_2643 dbL_law_2643.2.2.2.1
theorem dL_law_2648 : decode cL_law 2648 = .ok (.iaload, 1) := dgq (p := 5) daL_law_2643 dbL_law_2643.2.2.2.2.1
theorem dL_law_2649 : decode cL_law 2649 = .ok (.invokevirtual 398, 3) := dgq (p := 6) daL_law_2643 dbL_law_2643.2.2.2.2.2.1
theorem dL_law_2652 : decode cL_law 2652 = .ok (.istore 7, 2) := dgq (p := 9) daL_law_2643 dbL_law_2643.2.2.2.2.2.2.1
theorem dL_law_2654 : decode cL_law 2654 = .ok (.goto 277, 3) := dgq (p := 11) daL_law_2643 dbL_law_2643.2.2.2.2.2.2.2.1
theorem dL_law_2657 : decode cL_law 2657 = .ok (.aload_n 1, 1) := dgq (p := 14) daL_law_2643 dbL_law_2643.2.2.2.2.2.2.2.2.1
theorem dL_law_2658 : decode cL_law 2658 = .ok (.aload_n 0, 1) := dgq (p := 15) daL_law_2643 dbL_law_2643.2.2.2.2.2.2.2.2.2
def dsL_law_2659 : ByteArray := ⟨#[21, 5, 4, 96, 46, 42, 21, 5, 5, 96, 46, 45]⟩
theorem daL_law_2659 : agB cL_law dsL_law_2659 2659 := agB_of (n := 12) (by decide +kernel)
theorem dbL_law_2659 : (decode dsL_law_2659 0 = .ok (.iload 5, 2) ∧ okop dsL_law_2659 0 = true) ∧ (decode dsL_law_2659 2 = .ok (.iconst 1, 1) ∧ okop dsL_law_2659 2 = true) ∧ (decode dsL_law_2659 3 = .ok (.iadd, 1) ∧ okop dsL_law_2659 3 = true) ∧ (decode dsL_law_2659 4 = .ok (.iaload, 1) ∧ okop dsL_law_2659 4 = true) ∧ (decode dsL_law_2659 5 = .ok (.aload_n 0, 1) ∧ okop dsL_law_2659 5 = true) ∧ (decode dsL_law_2659 6 = .ok (.iload 5, 2) ∧ okop dsL_law_2659 6 = true) ∧ (decode dsL_law_2659 8 = .ok (.iconst 2, 1) ∧ okop dsL_law_2659 8 = true) ∧ (decode dsL_law_2659 9 = .ok (.iadd, 1) ∧ okop dsL_law_2659 9 = true) ∧ (decode dsL_law_2659 10 = .ok (.iaload, 1) ∧ okop dsL_law_2659 10 = true) ∧ (decode dsL_law_2659 11 = .ok (.aload_n 3, 1) ∧ okop dsL_law_2659 11 = true) := by decide +kernel
theorem dL_law_2659 : decode cL_law 2659 = .ok (.iload 5, 2) := dgq (p := 0) daL_law_2659 dbL_law_2659.1
theorem dL_law_2661 : decode cL_law 2661 = .ok (.iconst 1, 1) := dgq (p := 2) daL_law_2659 dbL_law_2659.2.1
theorem dL_law_2662 : decode cL_law 2662 = .ok (.iadd, 1) := dgq (p := 3) daL_law_2659 dbL_law_2659.2.2.1
theorem dL_law_2663 : decode cL_law 2663 = .ok (.iaload, 1) := dgq (p := 4) daL_law_2659 dbL_law_2659.2.2.2.1
theorem dL_law_2664 : decode cL_law 2664 = .ok (.aload_n 0, 1) := dgq (p := 5) daL_law_2659 dbL_law_2659.2.2.2.2.1
theorem dL_law_2665 : decode cL_law 2665 = .ok (.iload 5, 2) := dgq (p := 6) daL_law_2659 dbL_law_2659.2.2.2.2.2.1
theorem dL_law_2667 : decode cL_law 2667 = .ok (.iconst 2, 1) := dgq (p := 8) daL_law_2659 dbL_law_2659.2.2.2.2.2.2.1
theorem dL_law_2668 : decode cL_law 2668 = .ok (.iadd, 1) := dgq (p := 9) daL_law_2659 dbL_law_2659.2.2.2.2.2.2.2.1
theorem dL_law_2669 : decode cL_law 2669 = .ok (.iaload, 1) := dgq (p := 10) daL_law_2659 dbL_law_2659.2.2.2.2.2.2.2.2.1
theorem dL_law_2670 : decode cL_law 2670 = .ok (.aload_n 3, 1) := dgq (p := 11) daL_law_2659 dbL_law_2659.2.2.2.2.2.2.2.2.2
def dsL_law_2671 : ByteArray := ⟨#[184, 1, 143, 54, 6, 44, 42, 21, 5, 4, 96, 46, 42, 21, 5]⟩
theorem daL_law_2671 : agB cL_law dsL_law_2671 2671 := agB_of (n := 15) (by decide +kernel)
theorem dbL_law_2671 : (decode dsL_law_2671 0 = .ok (.invokestatic 399, 3) ∧ okop dsL_law_2671 0 = true) ∧ (decode dsL_law_2671 3 = .ok (.istore 6, 2) ∧ okop dsL_law_2671 3 = true) ∧ (decode dsL_law_2671 5 = .ok (.aload_n 2, 1) ∧ okop dsL_law_2671 5 = true) ∧ (decode dsL_law_2671 6 = .ok (.aload_n 0, 1) ∧ okop dsL_law_2671 6 = true) ∧ (decode dsL_law_2671 7 = .ok (.iload 5, 2) ∧ okop dsL_law_2671 7 = true) ∧ (decode dsL_law_2671 9 = .ok (.iconst 1, 1) ∧ okop dsL_law_2671 9 = true) ∧ (decode dsL_law_2671 10 = .ok (.iadd, 1) ∧ okop dsL_law_2671 10 = true) ∧ (decode dsL_law_2671 11 = .ok (.iaload, 1) ∧ okop dsL_law_2671 11 = true) ∧ (decode dsL_law_2671 12 = .ok (.aload_n 0, 1) ∧ okop dsL_law_2671 12 = true) ∧ (decode dsL_law_2671 13 = .ok (.iload 5, 2) ∧ okop dsL_law_2671 13 = true) := by decide +kernel
theorem dL_law_2671 : decode cL_law 2671 = .ok (.invokestatic 399, 3) := dgq (p := 0) daL_law_2671 dbL_law_2671.1
theorem dL_law_2674 : decode cL_law 2674 = .ok (.istore 6, 2) := dgq (p := 3) daL_law_2671 dbL_law_2671.2.1
theorem dL_law_2676 : decode cL_law 2676 = .ok (.aload_n 2, 1) := dgq (p := 5) daL_law_2671 dbL_law_2671.2.2.1
theorem dL_law_2677 : decode cL_law 2677 = .ok (.aload_n 0, 1) := dgq (p := 6) daL_law_2671 dbL_law_2671.2.2.2.1
theorem dL_law_2678 : decode cL_law 2678 = .ok (.iload 5, 2) := dgq (p := 7) daL_law_2671 dbL_law_2671.2.2.2.2.1
theorem dL_law_2680 : decode cL_law 2680 = .ok (.iconst 1, 1) := dgq (p := 9) daL_law_2671 dbL_law_2671.2.2.2.2.2.1
theorem dL_law_2681 : decode cL_law 2681 = .ok (.iadd, 1) := dgq (p := 10) daL_law_2671 dbL_law_2671.2.2.2.2.2.2.1
theorem dL_law_2682 : decode cL_law 2682 = .ok (.iaload, 1) := dgq (p := 11) daL_law_2671 dbL_law_2671.2.2.2.2.2.2.2.1
theorem dL_law_2683 : decode cL_law 2683 = .ok (.aload_n 0, 1) := dgq (p := 12) daL_law_2671 dbL_law_2671.2.2.2.2.2.2.2.2.1
theorem dL_law_2684 : decode cL_law 2684 = .ok (.iload 5, 2) := dgq (p := 13) daL_law_2671 dbL_law_2671.2.2.2.2.2.2.2.2.2
def dsL_law_2686 : ByteArray := ⟨#[5, 96, 46, 182, 1, 145, 54, 7, 167, 0, 237, 43, 42, 21, 5, 4]⟩
theorem daL_law_2686 : agB cL_law dsL_law_2686 2686 := agB_of (n := 16) (by decide +kernel)
theorem dbL_law_2686 : (decode dsL_law_2686 0 = .ok (.iconst 2, 1) ∧ okop dsL_law_2686 0 = true) ∧ (decode dsL_law_2686 1 = .ok (.iadd, 1) ∧ okop dsL_law_2686 1 = true) ∧ (decode dsL_law_2686 2 = .ok (.iaload, 1) ∧ okop dsL_law_2686 2 = true) ∧ (decode dsL_law_2686 3 = .ok (.invokevirtual 401, 3) ∧ okop dsL_law_2686 3 = true) ∧ (decode dsL_law_2686 6 = .ok (.istore 7, 2) ∧ okop dsL_law_2686 6 = true) ∧ (decode dsL_law_2686 8 = .ok (.goto 237, 3) ∧ okop dsL_law_2686 8 = true) ∧ (decode dsL_law_2686 11 = .ok (.aload_n 1, 1) ∧ okop dsL_law_2686 11 = true) ∧ (decode dsL_law_2686 12 = .ok (.aload_n 0, 1) ∧ okop dsL_law_2686 12 = true) ∧ (decode dsL_law_2686 13 = .ok (.iload 5, 2) ∧ okop dsL_law_2686 13 = true) ∧ (decode dsL_law_2686 15 = .ok (.iconst 1, 1) ∧ okop dsL_law_2686 15 = true) := by decide +kernel
theorem dL_law_2686 : decode cL_law 2686 = .ok (.iconst 2, 1) := dgq (p := 0) daL_law_2686 dbL_law_2686.1
theorem dL_law_2687 : decode cL_law 2687 = .ok (.iadd, 1) := dgq (p := 1) daL_law_2686 dbL_law_2686.2.1
theorem dL_law_2688 : decode cL_law 2688 = .ok (.iaload, 1) := dgq (p := 2) daL_law_2686 dbL_law_2686.2.2.1
theorem dL_law_2689 : decode cL_law 2689 = .ok (.invokevirtual 401, 3) := dgq (p := 3) daL_law_2686 dbL_law_2686.2.2.2.1
theorem dL_law_2692 : decode cL_law 2692 = .ok (.istore 7, 2) := dgq (p := 6) daL_law_2686 dbL_law_2686.2.2.2.2.1
theorem dL_law_2694 : decode cL_law 2694 = .ok (.goto 237, 3) := dgq (p := 8) daL_law_2686 dbL_law_2686.2.2.2.2.2.1
theorem dL_law_2697 : decode cL_law 2697 = .ok (.aload_n 1, 1) := dgq (p := 11) daL_law_2686 dbL_law_2686.2.2.2.2.2.2.1
theorem dL_law_2698 : decode cL_law 2698 = .ok (.aload_n 0, 1) := dgq (p := 12) daL_law_2686 dbL_law_2686.2.2.2.2.2.2.2.1
theorem dL_law_2699 : decode cL_law 2699 = .ok (.iload 5, 2) := dgq (p := 13) daL_law_2686 dbL_law_2686.2.2.2.2.2.2.2.2.1
theorem dL_law_2701 : decode cL_law 2701 = .ok (.iconst 1, 1) := dgq (p := 15) daL_law_2686 dbL_law_2686.2.2.2.2.2.2.2.2.2
def dsL_law_2702 : ByteArray := ⟨#[96, 46, 42, 21, 5, 5, 96, 46, 146, 45, 184, 1, 146]⟩
theorem daL_law_2702 : agB cL_law dsL_law_2702 2702 := agB_of (n := 13) (by decide +kernel)
theorem dbL_law_2702 : (decode dsL_law_2702 0 = .ok (.iadd, 1) ∧ okop dsL_law_2702 0 = true) ∧ (decode dsL_law_2702 1 = .ok (.iaload, 1) ∧ okop dsL_law_2702 1 = true) ∧ (decode dsL_law_2702 2 = .ok (.aload_n 0, 1) ∧ okop dsL_law_2702 2 = true) ∧ (decode dsL_law_2702 3 = .ok (.iload 5, 2) ∧ okop dsL_law_2702 3 = true) ∧ (decode dsL_law_2702 5 = .ok (.iconst 2, 1) ∧ okop dsL_law_2702 5 = true) ∧ (decode dsL_law_2702 6 = .ok (.iadd, 1) ∧ okop dsL_law_2702 6 = true) ∧ (decode dsL_law_2702 7 = .ok (.iaload, 1) ∧ okop dsL_law_2702 7 = true) ∧ (decode dsL_law_2702 8 = .ok (.i2c, 1) ∧ okop dsL_law_2702 8 = true) ∧ (decode dsL_law_2702 9 = .ok (.aload_n 3, 1) ∧ okop dsL_law_2702 9 = true) ∧ (decode dsL_law_2702 10 = .ok (.invokestatic 402, 3) ∧ okop dsL_law_2702 10 = true) := by decide +kernel
theorem dL_law_2702 : decode cL_law 2702 = .ok (.iadd, 1) := dgq (p := 0) daL_law_2702 dbL_law_2702.1
theorem dL_law_2703 : decode cL_law 2703 = .ok (.iaload, 1) := dgq (p := 1) daL_law_2702 dbL_law_2702.2.1
theorem dL_law_2704 : decode cL_law 2704 = .ok (.aload_n 0, 1) := dgq (p := 2) daL_law_2702 dbL_law_2702.2.2.1
theorem dL_law_2705 : decode cL_law 2705 = .ok (.iload 5, 2) := dgq (p := 3) daL_law_2702 dbL_law_2702.2.2.2.1
theorem dL_law_2707 : decode cL_law 2707 = .ok (.iconst 2, 1) := dgq (p := 5) daL_law_2702 dbL_law_2702.2.2.2.2.1
theorem dL_law_2708 : decode cL_law 2708 = .ok (.iadd, 1) := dgq (p := 6) daL_law_2702 dbL_law_2702.2.2.2.2.2.1
theorem dL_law_2709 : decode cL_law 2709 = .ok (.iaload, 1) := dgq (p := 7) daL_law_2702 dbL_law_2702.2.2.2.2.2.2.1
theorem dL_law_2710 : decode cL_law 2710 = .ok (.i2c, 1) := dgq (p := 8) daL_law_2702 dbL_law_2702.2.2.2.2.2.2.2.1
theorem dL_law_2711 : decode cL_law 2711 = .ok (.aload_n 3, 1) := dgq (p := 9) daL_law_2702 dbL_law_2702.2.2.2.2.2.2.2.2.1
theorem dL_law_2712 : decode cL_law 2712 = .ok (.invokestatic 402, 3) := dgq (p := 10) daL_law_2702 dbL_law_2702.2.2.2.2.2.2.2.2.2
def dsL_law_2715 : ByteArray := ⟨#[54, 6, 44, 42, 21, 5, 4, 96, 46, 42, 21, 5, 5]⟩
theorem daL_law_2715 : agB cL_law dsL_law_2715 2715 := agB_of (n := 13) (by decide +kernel)
theorem dbL_law_2715 : (decode dsL_law_2715 0 = .ok (.istore 6, 2) ∧ okop dsL_law_2715 0 = true) ∧ (decode dsL_law_2715 2 = .ok (.aload_n 2, 1) ∧ okop dsL_law_2715 2 = true) ∧ (decode dsL_law_2715 3 = .ok (.aload_n 0, 1) ∧ okop dsL_law_2715 3 = true) ∧ (decode dsL_law_2715 4 = .ok (.iload 5, 2) ∧ okop dsL_law_2715 4 = true) ∧ (decode dsL_law_2715 6 = .ok (.iconst 1, 1) ∧ okop dsL_law_2715 6 = true) ∧ (decode dsL_law_2715 7 = .ok (.iadd, 1) ∧ okop dsL_law_2715 7 = true) ∧ (decode dsL_law_2715 8 = .ok (.iaload, 1) ∧ okop dsL_law_2715 8 = true) ∧ (decode dsL_law_2715 9 = .ok (.aload_n 0, 1) ∧ okop dsL_law_2715 9 = true) ∧ (decode dsL_law_2715 10 = .ok (.iload 5, 2) ∧ okop dsL_law_2715 10 = true) ∧ (decode dsL_law_2715 12 = .ok (.iconst 2, 1) ∧ okop dsL_law_2715 12 = true) := by decide +kernel
theorem dL_law_2715 : decode cL_law 2715 = .ok (.istore 6, 2) := dgq (p := 0) daL_law_2715 dbL_law_2715.1
theorem dL_law_2717 : decode cL_law 2717 = .ok (.aload_n 2, 1) := dgq (p := 2) daL_law_2715 dbL_law_2715.2.1
theorem dL_law_2718 : decode cL_law 2718 = .ok (.aload_n 0, 1) := dgq (p := 3) daL_law_2715 dbL_law_2715.2.2.1
theorem dL_law_2719 : decode cL_law 2719 = .ok (.iload 5, 2) := dgq (p := 4) daL_law_2715 dbL_law_2715.2.2.2.1
theorem dL_law_2721 : decode cL_law 2721 = .ok (.iconst 1, 1) := dgq (p := 6) daL_law_2715 dbL_law_2715.2.2.2.2.1
theorem dL_law_2722 : decode cL_law 2722 = .ok (.iadd, 1) := dgq (p := 7) daL_law_2715 dbL_law_2715.2.2.2.2.2.1
theorem dL_law_2723 : decode cL_law 2723 = .ok (.iaload, 1) := dgq (p := 8) daL_law_2715 dbL_law_2715.2.2.2.2.2.2.1
theorem dL_law_2724 : decode cL_law 2724 = .ok (.aload_n 0, 1) := dgq (p := 9) daL_law_2715 dbL_law_2715.2.2.2.2.2.2.2.1
theorem dL_law_2725 : decode cL_law 2725 = .ok (.iload 5, 2) := dgq (p := 10) daL_law_2715 dbL_law_2715.2.2.2.2.2.2.2.2.1
theorem dL_law_2727 : decode cL_law 2727 = .ok (.iconst 2, 1) := dgq (p := 12) daL_law_2715 dbL_law_2715.2.2.2.2.2.2.2.2.2
def dsL_law_2728 : ByteArray := ⟨#[96, 46, 146, 182, 1, 149, 54, 7, 167, 0, 195, 43, 42, 21, 5, 4]⟩
theorem daL_law_2728 : agB cL_law dsL_law_2728 2728 := agB_of (n := 16) (by decide +kernel)
theorem dbL_law_2728 : (decode dsL_law_2728 0 = .ok (.iadd, 1) ∧ okop dsL_law_2728 0 = true) ∧ (decode dsL_law_2728 1 = .ok (.iaload, 1) ∧ okop dsL_law_2728 1 = true) ∧ (decode dsL_law_2728 2 = .ok (.i2c, 1) ∧ okop dsL_law_2728 2 = true) ∧ (decode dsL_law_2728 3 = .ok (.invokevirtual 405, 3) ∧ okop dsL_law_2728 3 = true) ∧ (decode dsL_law_2728 6 = .ok (.istore 7, 2) ∧ okop dsL_law_2728 6 = true) ∧ (decode dsL_law_2728 8 = .ok (.goto 195, 3) ∧ okop dsL_law_2728 8 = true) ∧ (decode dsL_law_2728 11 = .ok (.aload_n 1, 1) ∧ okop dsL_law_2728 11 = true) ∧ (decode dsL_law_2728 12 = .ok (.aload_n 0, 1) ∧ okop dsL_law_2728 12 = true) ∧ (decode dsL_law_2728 13 = .ok (.iload 5, 2) ∧ okop dsL_law_2728 13 = true) ∧ (decode dsL_law_2728 15 = .ok (.iconst 1, 1) ∧ okop dsL_law_2728 15 = true) := by decide +kernel
theorem dL_law_2728 : decode cL_law 2728 = .ok (.iadd, 1) := dgq (p := 0) daL_law_2728 dbL_law_2728.1
theorem dL_law_2729 : decode cL_law 2729 = .ok (.iaload, 1) := dgq (p := 1) daL_law_2728 dbL_law_2728.2.1
theorem dL_law_2730 : decode cL_law 2730 = .ok (.i2c, 1) := dgq (p := 2) daL_law_2728 dbL_law_2728.2.2.1
theorem dL_law_2731 : decode cL_law 2731 = .ok (.invokevirtual 405, 3) := dgq (p := 3) daL_law_2728 dbL_law_2728.2.2.2.1
theorem dL_law_2734 : decode cL_law 2734 = .ok (.istore 7, 2) := dgq (p := 6) daL_law_2728 dbL_law_2728.2.2.2.2.1
theorem dL_law_2736 : decode cL_law 2736 = .ok (.goto 195, 3) := dgq (p := 8) daL_law_2728 dbL_law_2728.2.2.2.2.2.1
theorem dL_law_2739 : decode cL_law 2739 = .ok (.aload_n 1, 1) := dgq (p := 11) daL_law_2728 dbL_law_2728.2.2.2.2.2.2.1
theorem dL_law_2740 : decode cL_law 2740 = .ok (.aload_n 0, 1) := dgq (p := 12) daL_law_2728 dbL_law_2728.2.2.2.2.2.2.2.1
theorem dL_law_2741 : decode cL_law 2741 = .ok (.iload 5, 2) := dgq (p := 13) daL_law_2728 dbL_law_2728.2.2.2.2.2.2.2.2.1
theorem dL_law_2743 : decode cL_law 2743 = .ok (.iconst 1, 1) := dgq (p := 15) daL_law_2728 dbL_law_2728.2.2.2.2.2.2.2.2.2
def dsL_law_2744 : ByteArray := ⟨#[96, 46, 45, 184, 1, 150, 54, 6, 44, 42, 21, 5, 4, 96]⟩
theorem daL_law_2744 : agB cL_law dsL_law_2744 2744 := agB_of (n := 14) (by decide +kernel)
theorem dbL_law_2744 : (decode dsL_law_2744 0 = .ok (.iadd, 1) ∧ okop dsL_law_2744 0 = true) ∧ (decode dsL_law_2744 1 = .ok (.iaload, 1) ∧ okop dsL_law_2744 1 = true) ∧ (decode dsL_law_2744 2 = .ok (.aload_n 3, 1) ∧ okop dsL_law_2744 2 = true) ∧ (decode dsL_law_2744 3 = .ok (.invokestatic 406, 3) ∧ okop dsL_law_2744 3 = true) ∧ (decode dsL_law_2744 6 = .ok (.istore 6, 2) ∧ okop dsL_law_2744 6 = true) ∧ (decode dsL_law_2744 8 = .ok (.aload_n 2, 1) ∧ okop dsL_law_2744 8 = true) ∧ (decode dsL_law_2744 9 = .ok (.aload_n 0, 1) ∧ okop dsL_law_2744 9 = true) ∧ (decode dsL_law_2744 10 = .ok (.iload 5, 2) ∧ okop dsL_law_2744 10 = true) ∧ (decode dsL_law_2744 12 = .ok (.iconst 1, 1) ∧ okop dsL_law_2744 12 = true) ∧ (decode dsL_law_2744 13 = .ok (.iadd, 1) ∧ okop dsL_law_2744 13 = true) := by decide +kernel
theorem dL_law_2744 : decode cL_law 2744 = .ok (.iadd, 1) := dgq (p := 0) daL_law_2744 dbL_law_2744.1
theorem dL_law_2745 : decode cL_law 2745 = .ok (.iaload, 1) := dgq (p := 1) daL_law_2744 dbL_law_2744.2.1
theorem dL_law_2746 : decode cL_law 2746 = .ok (.aload_n 3, 1) := dgq (p := 2) daL_law_2744 dbL_law_2744.2.2.1
theorem dL_law_2747 : decode cL_law 2747 = .ok (.invokestatic 406, 3) := dgq (p := 3) daL_law_2744 dbL_law_2744.2.2.2.1
theorem dL_law_2750 : decode cL_law 2750 = .ok (.istore 6, 2) := dgq (p := 6) daL_law_2744 dbL_law_2744.2.2.2.2.1
theorem dL_law_2752 : decode cL_law 2752 = .ok (.aload_n 2, 1) := dgq (p := 8) daL_law_2744 dbL_law_2744.2.2.2.2.2.1
theorem dL_law_2753 : decode cL_law 2753 = .ok (.aload_n 0, 1) := dgq (p := 9) daL_law_2744 dbL_law_2744.2.2.2.2.2.2.1
theorem dL_law_2754 : decode cL_law 2754 = .ok (.iload 5, 2) := dgq (p := 10) daL_law_2744 dbL_law_2744.2.2.2.2.2.2.2.1
theorem dL_law_2756 : decode cL_law 2756 = .ok (.iconst 1, 1) := dgq (p := 12) daL_law_2744 dbL_law_2744.2.2.2.2.2.2.2.2.1
theorem dL_law_2757 : decode cL_law 2757 = .ok (.iadd, 1) := dgq (p := 13) daL_law_2744 dbL_law_2744.2.2.2.2.2.2.2.2.2
def dsL_law_2758 : ByteArray := ⟨#[46, 182, 1, 152, 54, 7, 167, 0, 167, 43, 42, 21, 5, 4, 96, 46]⟩
theorem daL_law_2758 : agB cL_law dsL_law_2758 2758 := agB_of (n := 16) (by decide +kernel)
theorem dbL_law_2758 : (decode dsL_law_2758 0 = .ok (.iaload, 1) ∧ okop dsL_law_2758 0 = true) ∧ (decode dsL_law_2758 1 = .ok (.invokevirtual 408, 3) ∧ okop dsL_law_2758 1 = true) ∧ (decode dsL_law_2758 4 = .ok (.istore 7, 2) ∧ okop dsL_law_2758 4 = true) ∧ (decode dsL_law_2758 6 = .ok (.goto 167, 3) ∧ okop dsL_law_2758 6 = true) ∧ (decode dsL_law_2758 9 = .ok (.aload_n 1, 1) ∧ okop dsL_law_2758 9 = true) ∧ (decode dsL_law_2758 10 = .ok (.aload_n 0, 1) ∧ okop dsL_law_2758 10 = true) ∧ (decode dsL_law_2758 11 = .ok (.iload 5, 2) ∧ okop dsL_law_2758 11 = true) ∧ (decode dsL_law_2758 13 = .ok (.iconst 1, 1) ∧ okop dsL_law_2758 13 = true) ∧ (decode dsL_law_2758 14 = .ok (.iadd, 1) ∧ okop dsL_law_2758 14 = true) ∧ (decode dsL_law_2758 15 = .ok (.iaload, 1) ∧ okop dsL_law_2758 15 = true) := by decide +kernel
theorem dL_law_2758 : decode cL_law 2758 = .ok (.iaload, 1) := dgq (p := 0) daL_law_2758 dbL_law_2758.1
theorem dL_law_2759 : decode cL_law 2759 = .ok (.invokevirtual 408, 3) := dgq (p := 1) daL_law_2758 dbL_law_2758.2.1
theorem dL_law_2762 : decode cL_law 2762 = .ok (.istore 7, 2) := dgq (p := 4) daL_law_2758 dbL_law_2758.2.2.1
theorem dL_law_2764 : decode cL_law 2764 = .ok (.goto 167, 3) := dgq (p := 6) daL_law_2758 dbL_law_2758.2.2.2.1
theorem dL_law_2767 : decode cL_law 2767 = .ok (.aload_n 1, 1) := dgq (p := 9) daL_law_2758 dbL_law_2758.2.2.2.2.1
theorem dL_law_2768 : decode cL_law 2768 = .ok (.aload_n 0, 1) := dgq (p := 10) daL_law_2758 dbL_law_2758.2.2.2.2.2.1
theorem dL_law_2769 : decode cL_law 2769 = .ok (.iload 5, 2) := dgq (p := 11) daL_law_2758 dbL_law_2758.2.2.2.2.2.2.1
theorem dL_law_2771 : decode cL_law 2771 = .ok (.iconst 1, 1) := dgq (p := 13) daL_law_2758 dbL_law_2758.2.2.2.2.2.2.2.1
theorem dL_law_2772 : decode cL_law 2772 = .ok (.iadd, 1) := dgq (p := 14) daL_law_2758 dbL_law_2758.2.2.2.2.2.2.2.2.1
theorem dL_law_2773 : decode cL_law 2773 = .ok (.iaload, 1) := dgq (p := 15) daL_law_2758 dbL_law_2758.2.2.2.2.2.2.2.2.2
def dsL_law_2774 : ByteArray := ⟨#[42, 21, 5, 5, 96, 46, 42, 21, 5, 6, 96, 46]⟩
theorem daL_law_2774 : agB cL_law dsL_law_2774 2774 := agB_of (n := 12) (by decide +kernel)
theorem dbL_law_2774 : (decode dsL_law_2774 0 = .ok (.aload_n 0, 1) ∧ okop dsL_law_2774 0 = true) ∧ (decode dsL_law_2774 1 = .ok (.iload 5, 2) ∧ okop dsL_law_2774 1 = true) ∧ (decode dsL_law_2774 3 = .ok (.iconst 2, 1) ∧ okop dsL_law_2774 3 = true) ∧ (decode dsL_law_2774 4 = .ok (.iadd, 1) ∧ okop dsL_law_2774 4 = true) ∧ (decode dsL_law_2774 5 = .ok (.iaload, 1) ∧ okop dsL_law_2774 5 = true) ∧ (decode dsL_law_2774 6 = .ok (.aload_n 0, 1) ∧ okop dsL_law_2774 6 = true) ∧ (decode dsL_law_2774 7 = .ok (.iload 5, 2) ∧ okop dsL_law_2774 7 = true) ∧ (decode dsL_law_2774 9 = .ok (.iconst 3, 1) ∧ okop dsL_law_2774 9 = true) ∧ (decode dsL_law_2774 10 = .ok (.iadd, 1) ∧ okop dsL_law_2774 10 = true) ∧ (decode dsL_law_2774 11 = .ok (.iaload, 1) ∧ okop dsL_law_2774 11 = true) := by decide +kernel
theorem dL_law_2774 : decode cL_law 2774 = .ok (.aload_n 0, 1) := dgq (p := 0) daL_law_2774 dbL_law_2774.1
theorem dL_law_2775 : decode cL_law 2775 = .ok (.iload 5, 2) := dgq (p := 1) daL_law_2774 dbL_law_2774.2.1
theorem dL_law_2777 : decode cL_law 2777 = .ok (.iconst 2, 1) := dgq (p := 3) daL_law_2774 dbL_law_2774.2.2.1
theorem dL_law_2778 : decode cL_law 2778 = .ok (.iadd, 1) := dgq (p := 4) daL_law_2774 dbL_law_2774.2.2.2.1
theorem dL_law_2779 : decode cL_law 2779 = .ok (.iaload, 1) := dgq (p := 5) daL_law_2774 dbL_law_2774.2.2.2.2.1
theorem dL_law_2780 : decode cL_law 2780 = .ok (.aload_n 0, 1) := dgq (p := 6) daL_law_2774 dbL_law_2774.2.2.2.2.2.1
theorem dL_law_2781 : decode cL_law 2781 = .ok (.iload 5, 2) := dgq (p := 7) daL_law_2774 dbL_law_2774.2.2.2.2.2.2.1
theorem dL_law_2783 : decode cL_law 2783 = .ok (.iconst 3, 1) := dgq (p := 9) daL_law_2774 dbL_law_2774.2.2.2.2.2.2.2.1
theorem dL_law_2784 : decode cL_law 2784 = .ok (.iadd, 1) := dgq (p := 10) daL_law_2774 dbL_law_2774.2.2.2.2.2.2.2.2.1
theorem dL_law_2785 : decode cL_law 2785 = .ok (.iaload, 1) := dgq (p := 11) daL_law_2774 dbL_law_2774.2.2.2.2.2.2.2.2.2
def dsL_law_2786 : ByteArray := ⟨#[45, 184, 1, 153, 54, 6, 44, 42, 21, 5, 4, 96, 46, 42]⟩
theorem daL_law_2786 : agB cL_law dsL_law_2786 2786 := agB_of (n := 14) (by decide +kernel)
theorem dbL_law_2786 : (decode dsL_law_2786 0 = .ok (.aload_n 3, 1) ∧ okop dsL_law_2786 0 = true) ∧ (decode dsL_law_2786 1 = .ok (.invokestatic 409, 3) ∧ okop dsL_law_2786 1 = true) ∧ (decode dsL_law_2786 4 = .ok (.istore 6, 2) ∧ okop dsL_law_2786 4 = true) ∧ (decode dsL_law_2786 6 = .ok (.aload_n 2, 1) ∧ okop dsL_law_2786 6 = true) ∧ (decode dsL_law_2786 7 = .ok (.aload_n 0, 1) ∧ okop dsL_law_2786 7 = true) ∧ (decode dsL_law_2786 8 = .ok (.iload 5, 2) ∧ okop dsL_law_2786 8 = true) ∧ (decode dsL_law_2786 10 = .ok (.iconst 1, 1) ∧ okop dsL_law_2786 10 = true) ∧ (decode dsL_law_2786 11 = .ok (.iadd, 1) ∧ okop dsL_law_2786 11 = true) ∧ (decode dsL_law_2786 12 = .ok (.iaload, 1) ∧ okop dsL_law_2786 12 = true) ∧ (decode dsL_law_2786 13 = .ok (.aload_n 0, 1) ∧ okop dsL_law_2786 13 = true) := by decide +kernel
theorem dL_law_2786 : decode cL_law 2786 = .ok (.aload_n 3, 1) := dgq (p := 0) daL_law_2786 dbL_law_2786.1
theorem dL_law_2787 : decode cL_law 2787 = .ok (.invokestatic 409, 3) := dgq (p := 1) daL_law_2786 dbL_law_2786.2.1
theorem dL_law_2790 : decode cL_law 2790 = .ok (.istore 6, 2) := dgq (p := 4) daL_law_2786 dbL_law_2786.2.2.1
theorem dL_law_2792 : decode cL_law 2792 = .ok (.aload_n 2, 1) := dgq (p := 6) daL_law_2786 dbL_law_2786.2.2.2.1
theorem dL_law_2793 : decode cL_law 2793 = .ok (.aload_n 0, 1) := dgq (p := 7) daL_law_2786 dbL_law_2786.2.2.2.2.1
theorem dL_law_2794 : decode cL_law 2794 = .ok (.iload 5, 2) := dgq (p := 8) daL_law_2786 dbL_law_2786.2.2.2.2.2.1
theorem dL_law_2796 : decode cL_law 2796 = .ok (.iconst 1, 1) := dgq (p := 10) daL_law_2786 dbL_law_2786.2.2.2.2.2.2.1
theorem dL_law_2797 : decode cL_law 2797 = .ok (.iadd, 1) := dgq (p := 11) daL_law_2786 dbL_law_2786.2.2.2.2.2.2.2.1
theorem dL_law_2798 : decode cL_law 2798 = .ok (.iaload, 1) := dgq (p := 12) daL_law_2786 dbL_law_2786.2.2.2.2.2.2.2.2.1
theorem dL_law_2799 : decode cL_law 2799 = .ok (.aload_n 0, 1) := dgq (p := 13) daL_law_2786 dbL_law_2786.2.2.2.2.2.2.2.2.2
def dsL_law_2800 : ByteArray := ⟨#[21, 5, 5, 96, 46, 42, 21, 5, 6, 96, 46, 182, 1, 155]⟩
theorem daL_law_2800 : agB cL_law dsL_law_2800 2800 := agB_of (n := 14) (by decide +kernel)
theorem dbL_law_2800 : (decode dsL_law_2800 0 = .ok (.iload 5, 2) ∧ okop dsL_law_2800 0 = true) ∧ (decode dsL_law_2800 2 = .ok (.iconst 2, 1) ∧ okop dsL_law_2800 2 = true) ∧ (decode dsL_law_2800 3 = .ok (.iadd, 1) ∧ okop dsL_law_2800 3 = true) ∧ (decode dsL_law_2800 4 = .ok (.iaload, 1) ∧ okop dsL_law_2800 4 = true) ∧ (decode dsL_law_2800 5 = .ok (.aload_n 0, 1) ∧ okop dsL_law_2800 5 = true) ∧ (decode dsL_law_2800 6 = .ok (.iload 5, 2) ∧ okop dsL_law_2800 6 = true) ∧ (decode dsL_law_2800 8 = .ok (.iconst 3, 1) ∧ okop dsL_law_2800 8 = true) ∧ (decode dsL_law_2800 9 = .ok (.iadd, 1) ∧ okop dsL_law_2800 9 = true) ∧ (decode dsL_law_2800 10 = .ok (.iaload, 1) ∧ okop dsL_law_2800 10 = true) ∧ (decode dsL_law_2800 11 = .ok (.invokevirtual 411, 3) ∧ okop dsL_law_2800 11 = true) := by decide +kernel
theorem dL_law_2800 : decode cL_law 2800 = .ok (.iload 5, 2) := dgq (p := 0) daL_law_2800 dbL_law_2800.1
theorem dL_law_2802 : decode cL_law 2802 = .ok (.iconst 2, 1) := dgq (p := 2) daL_law_2800 dbL_law_2800.2.1
theorem dL_law_2803 : decode cL_law 2803 = .ok (.iadd, 1) := dgq (p := 3) daL_law_2800 dbL_law_2800.2.2.1
theorem dL_law_2804 : decode cL_law 2804 = .ok (.iaload, 1) := dgq (p := 4) daL_law_2800 dbL_law_2800.2.2.2.1
theorem dL_law_2805 : decode cL_law 2805 = .ok (.aload_n 0, 1) := dgq (p := 5) daL_law_2800 dbL_law_2800.2.2.2.2.1
theorem dL_law_2806 : decode cL_law 2806 = .ok (.iload 5, 2) := dgq (p := 6) daL_law_2800 dbL_law_2800.2.2.2.2.2.1
theorem dL_law_2808 : decode cL_law 2808 = .ok (.iconst 3, 1) := dgq (p := 8) daL_law_2800 dbL_law_2800.2.2.2.2.2.2.1
theorem dL_law_2809 : decode cL_law 2809 = .ok (.iadd, 1) := dgq (p := 9) daL_law_2800 dbL_law_2800.2.2.2.2.2.2.2.1
theorem dL_law_2810 : decode cL_law 2810 = .ok (.iaload, 1) := dgq (p := 10) daL_law_2800 dbL_law_2800.2.2.2.2.2.2.2.2.1
theorem dL_law_2811 : decode cL_law 2811 = .ok (.invokevirtual 411, 3) := dgq (p := 11) daL_law_2800 dbL_law_2800.2.2.2.2.2.2.2.2.2
def dsL_law_2814 : ByteArray := ⟨#[54, 7, 167, 0, 115, 43, 42, 21, 5, 4, 96, 46, 42, 21, 5]⟩
theorem daL_law_2814 : agB cL_law dsL_law_2814 2814 := agB_of (n := 15) (by decide +kernel)
theorem dbL_law_2814 : (decode dsL_law_2814 0 = .ok (.istore 7, 2) ∧ okop dsL_law_2814 0 = true) ∧ (decode dsL_law_2814 2 = .ok (.goto 115, 3) ∧ okop dsL_law_2814 2 = true) ∧ (decode dsL_law_2814 5 = .ok (.aload_n 1, 1) ∧ okop dsL_law_2814 5 = true) ∧ (decode dsL_law_2814 6 = .ok (.aload_n 0, 1) ∧ okop dsL_law_2814 6 = true) ∧ (decode dsL_law_2814 7 = .ok (.iload 5, 2) ∧ okop dsL_law_2814 7 = true) ∧ (decode dsL_law_2814 9 = .ok (.iconst 1, 1) ∧ okop dsL_law_2814 9 = true) ∧ (decode dsL_law_2814 10 = .ok (.iadd, 1) ∧ okop dsL_law_2814 10 = true) ∧ (decode dsL_law_2814 11 = .ok (.iaload, 1) ∧ okop dsL_law_2814 11 = true) ∧ (decode dsL_law_2814 12 = .ok (.aload_n 0, 1) ∧ okop dsL_law_2814 12 = true) ∧ (decode dsL_law_2814 13 = .ok (.iload 5, 2) ∧ okop dsL_law_2814 13 = true) := by decide +kernel
theorem dL_law_2814 : decode cL_law 2814 = .ok (.istore 7, 2) := dgq (p := 0) daL_law_2814 dbL_law_2814.1
theorem dL_law_2816 : decode cL_law 2816 = .ok (.goto 115, 3) := dgq (p := 2) daL_law_2814 dbL_law_2814.2.1
theorem dL_law_2819 : decode cL_law 2819 = .ok (.aload_n 1, 1) := dgq (p := 5) daL_law_2814 dbL_law_2814.2.2.1
theorem dL_law_2820 : decode cL_law 2820 = .ok (.aload_n 0, 1) := dgq (p := 6) daL_law_2814 dbL_law_2814.2.2.2.1
theorem dL_law_2821 : decode cL_law 2821 = .ok (.iload 5, 2) := dgq (p := 7) daL_law_2814 dbL_law_2814.2.2.2.2.1
theorem dL_law_2823 : decode cL_law 2823 = .ok (.iconst 1, 1) := dgq (p := 9) daL_law_2814 dbL_law_2814.2.2.2.2.2.1
theorem dL_law_2824 : decode cL_law 2824 = .ok (.iadd, 1) := dgq (p := 10) daL_law_2814 dbL_law_2814.2.2.2.2.2.2.1
theorem dL_law_2825 : decode cL_law 2825 = .ok (.iaload, 1) := dgq (p := 11) daL_law_2814 dbL_law_2814.2.2.2.2.2.2.2.1
theorem dL_law_2826 : decode cL_law 2826 = .ok (.aload_n 0, 1) := dgq (p := 12) daL_law_2814 dbL_law_2814.2.2.2.2.2.2.2.2.1
theorem dL_law_2827 : decode cL_law 2827 = .ok (.iload 5, 2) := dgq (p := 13) daL_law_2814 dbL_law_2814.2.2.2.2.2.2.2.2.2
def dsL_law_2829 : ByteArray := ⟨#[5, 96, 46, 42, 21, 5, 6, 96, 46, 45, 184, 1, 156]⟩
theorem daL_law_2829 : agB cL_law dsL_law_2829 2829 := agB_of (n := 13) (by decide +kernel)
theorem dbL_law_2829 : (decode dsL_law_2829 0 = .ok (.iconst 2, 1) ∧ okop dsL_law_2829 0 = true) ∧ (decode dsL_law_2829 1 = .ok (.iadd, 1) ∧ okop dsL_law_2829 1 = true) ∧ (decode dsL_law_2829 2 = .ok (.iaload, 1) ∧ okop dsL_law_2829 2 = true) ∧ (decode dsL_law_2829 3 = .ok (.aload_n 0, 1) ∧ okop dsL_law_2829 3 = true) ∧ (decode dsL_law_2829 4 = .ok (.iload 5, 2) ∧ okop dsL_law_2829 4 = true) ∧ (decode dsL_law_2829 6 = .ok (.iconst 3, 1) ∧ okop dsL_law_2829 6 = true) ∧ (decode dsL_law_2829 7 = .ok (.iadd, 1) ∧ okop dsL_law_2829 7 = true) ∧ (decode dsL_law_2829 8 = .ok (.iaload, 1) ∧ okop dsL_law_2829 8 = true) ∧ (decode dsL_law_2829 9 = .ok (.aload_n 3, 1) ∧ okop dsL_law_2829 9 = true) ∧ (decode dsL_law_2829 10 = .ok (.invokestatic 412, 3) ∧ okop dsL_law_2829 10 = true) := by decide +kernel
theorem dL_law_2829 : decode cL_law 2829 = .ok (.iconst 2, 1) := dgq (p := 0) daL_law_2829 dbL_law_2829.1
theorem dL_law_2830 : decode cL_law 2830 = .ok (.iadd, 1) := dgq (p := 1) daL_law_2829 dbL_law_2829.2.1
theorem dL_law_2831 : decode cL_law 2831 = .ok (.iaload, 1) := dgq (p := 2) daL_law_2829 dbL_law_2829.2.2.1
theorem dL_law_2832 : decode cL_law 2832 = .ok (.aload_n 0, 1) := dgq (p := 3) daL_law_2829 dbL_law_2829.2.2.2.1
theorem dL_law_2833 : decode cL_law 2833 = .ok (.iload 5, 2) := dgq (p := 4) daL_law_2829 dbL_law_2829.2.2.2.2.1
theorem dL_law_2835 : decode cL_law 2835 = .ok (.iconst 3, 1) := dgq (p := 6) daL_law_2829 dbL_law_2829.2.2.2.2.2.1
theorem dL_law_2836 : decode cL_law 2836 = .ok (.iadd, 1) := dgq (p := 7) daL_law_2829 dbL_law_2829.2.2.2.2.2.2.1
theorem dL_law_2837 : decode cL_law 2837 = .ok (.iaload, 1) := dgq (p := 8) daL_law_2829 dbL_law_2829.2.2.2.2.2.2.2.1
theorem dL_law_2838 : decode cL_law 2838 = .ok (.aload_n 3, 1) := dgq (p := 9) daL_law_2829 dbL_law_2829.2.2.2.2.2.2.2.2.1
theorem dL_law_2839 : decode cL_law 2839 = .ok (.invokestatic 412, 3) := dgq (p := 10) daL_law_2829 dbL_law_2829.2.2.2.2.2.2.2.2.2
def dsL_law_2842 : ByteArray := ⟨#[54, 6, 44, 42, 21, 5, 4, 96, 46, 42, 21, 5, 5]⟩
theorem daL_law_2842 : agB cL_law dsL_law_2842 2842 := agB_of (n := 13) (by decide +kernel)
theorem dbL_law_2842 : (decode dsL_law_2842 0 = .ok (.istore 6, 2) ∧ okop dsL_law_2842 0 = true) ∧ (decode dsL_law_2842 2 = .ok (.aload_n 2, 1) ∧ okop dsL_law_2842 2 = true) ∧ (decode dsL_law_2842 3 = .ok (.aload_n 0, 1) ∧ okop dsL_law_2842 3 = true) ∧ (decode dsL_law_2842 4 = .ok (.iload 5, 2) ∧ okop dsL_law_2842 4 = true) ∧ (decode dsL_law_2842 6 = .ok (.iconst 1, 1) ∧ okop dsL_law_2842 6 = true) ∧ (decode dsL_law_2842 7 = .ok (.iadd, 1) ∧ okop dsL_law_2842 7 = true) ∧ (decode dsL_law_2842 8 = .ok (.iaload, 1) ∧ okop dsL_law_2842 8 = true) ∧ (decode dsL_law_2842 9 = .ok (.aload_n 0, 1) ∧ okop dsL_law_2842 9 = true) ∧ (decode dsL_law_2842 10 = .ok (.iload 5, 2) ∧ okop dsL_law_2842 10 = true) ∧ (decode dsL_law_2842 12 = .ok (.iconst 2, 1) ∧ okop dsL_law_2842 12 = true) := by decide +kernel
theorem dL_law_2842 : decode cL_law 2842 = .ok (.istore 6, 2) := dgq (p := 0) daL_law_2842 dbL_law_2842.1
theorem dL_law_2844 : decode cL_law 2844 = .ok (.aload_n 2, 1) := dgq (p := 2) daL_law_2842 dbL_law_2842.2.1
theorem dL_law_2845 : decode cL_law 2845 = .ok (.aload_n 0, 1) := dgq (p := 3) daL_law_2842 dbL_law_2842.2.2.1
theorem dL_law_2846 : decode cL_law 2846 = .ok (.iload 5, 2) := dgq (p := 4) daL_law_2842 dbL_law_2842.2.2.2.1
theorem dL_law_2848 : decode cL_law 2848 = .ok (.iconst 1, 1) := dgq (p := 6) daL_law_2842 dbL_law_2842.2.2.2.2.1
theorem dL_law_2849 : decode cL_law 2849 = .ok (.iadd, 1) := dgq (p := 7) daL_law_2842 dbL_law_2842.2.2.2.2.2.1
theorem dL_law_2850 : decode cL_law 2850 = .ok (.iaload, 1) := dgq (p := 8) daL_law_2842 dbL_law_2842.2.2.2.2.2.2.1
theorem dL_law_2851 : decode cL_law 2851 = .ok (.aload_n 0, 1) := dgq (p := 9) daL_law_2842 dbL_law_2842.2.2.2.2.2.2.2.1
theorem dL_law_2852 : decode cL_law 2852 = .ok (.iload 5, 2) := dgq (p := 10) daL_law_2842 dbL_law_2842.2.2.2.2.2.2.2.2.1
theorem dL_law_2854 : decode cL_law 2854 = .ok (.iconst 2, 1) := dgq (p := 12) daL_law_2842 dbL_law_2842.2.2.2.2.2.2.2.2.2
def dsL_law_2855 : ByteArray := ⟨#[96, 46, 42, 21, 5, 6, 96, 46, 182, 1, 158, 54, 7, 167, 0, 63]⟩
theorem daL_law_2855 : agB cL_law dsL_law_2855 2855 := agB_of (n := 16) (by decide +kernel)
theorem dbL_law_2855 : (decode dsL_law_2855 0 = .ok (.iadd, 1) ∧ okop dsL_law_2855 0 = true) ∧ (decode dsL_law_2855 1 = .ok (.iaload, 1) ∧ okop dsL_law_2855 1 = true) ∧ (decode dsL_law_2855 2 = .ok (.aload_n 0, 1) ∧ okop dsL_law_2855 2 = true) ∧ (decode dsL_law_2855 3 = .ok (.iload 5, 2) ∧ okop dsL_law_2855 3 = true) ∧ (decode dsL_law_2855 5 = .ok (.iconst 3, 1) ∧ okop dsL_law_2855 5 = true) ∧ (decode dsL_law_2855 6 = .ok (.iadd, 1) ∧ okop dsL_law_2855 6 = true) ∧ (decode dsL_law_2855 7 = .ok (.iaload, 1) ∧ okop dsL_law_2855 7 = true) ∧ (decode dsL_law_2855 8 = .ok (.invokevirtual 414, 3) ∧ okop dsL_law_2855 8 = true) ∧ (decode dsL_law_2855 11 = .ok (.istore 7, 2) ∧ okop dsL_law_2855 11 = true) ∧ (decode dsL_law_2855 13 = .ok (.goto 63, 3) ∧ okop dsL_law_2855 13 = true) := by decide +kernel
theorem dL_law_2855 : decode cL_law 2855 = .ok (.iadd, 1) := dgq (p := 0) daL_law_2855 dbL_law_2855.1
theorem dL_law_2856 : decode cL_law 2856 = .ok (.iaload, 1) := dgq (p := 1) daL_law_2855 dbL_law_2855.2.1
theorem dL_law_2857 : decode cL_law 2857 = .ok (.aload_n 0, 1) := dgq (p := 2) daL_law_2855 dbL_law_2855.2.2.1
theorem dL_law_2858 : decode cL_law 2858 = .ok (.iload 5, 2) := dgq (p := 3) daL_law_2855 dbL_law_2855.2.2.2.1
theorem dL_law_2860 : decode cL_law 2860 = .ok (.iconst 3, 1) := dgq (p := 5) daL_law_2855 dbL_law_2855.2.2.2.2.1
theorem dL_law_2861 : decode cL_law 2861 = .ok (.iadd, 1) := dgq (p := 6) daL_law_2855 dbL_law_2855.2.2.2.2.2.1
theorem dL_law_2862 : decode cL_law 2862 = .ok (.iaload, 1) := dgq (p := 7) daL_law_2855 dbL_law_2855.2.2.2.2.2.2.1
theorem dL_law_2863 : decode cL_law 2863 = .ok (.invokevirtual 414, 3) := dgq (p := 8) daL_law_2855 dbL_law_2855.2.2.2.2.2.2.2.1
theorem dL_law_2866 : decode cL_law 2866 = .ok (.istore 7, 2) := dgq (p := 11) daL_law_2855 dbL_law_2855.2.2.2.2.2.2.2.2.1
theorem dL_law_2868 : decode cL_law 2868 = .ok (.goto 63, 3) := dgq (p := 13) daL_law_2855 dbL_law_2855.2.2.2.2.2.2.2.2.2
def dsL_law_2871 : ByteArray := ⟨#[43, 182, 1, 159, 88, 44, 182, 1, 163, 88, 167, 0, 50, 43, 25, 4, 184, 1, 164]⟩
theorem daL_law_2871 : agB cL_law dsL_law_2871 2871 := agB_of (n := 19) (by decide +kernel)
theorem dbL_law_2871 : (decode dsL_law_2871 0 = .ok (.aload_n 1, 1) ∧ okop dsL_law_2871 0 = true) ∧ (decode dsL_law_2871 1 = .ok (.invokevirtual 415, 3) ∧ okop dsL_law_2871 1 = true) ∧ (decode dsL_law_2871 4 = .ok (.pop2, 1) ∧ okop dsL_law_2871 4 = true) ∧ (decode dsL_law_2871 5 = .ok (.aload_n 2, 1) ∧ okop dsL_law_2871 5 = true) ∧ (decode dsL_law_2871 6 = .ok (.invokevirtual 419, 3) ∧ okop dsL_law_2871 6 = true) ∧ (decode dsL_law_2871 9 = .ok (.pop2, 1) ∧ okop dsL_law_2871 9 = true) ∧ (decode dsL_law_2871 10 = .ok (.goto 50, 3) ∧ okop dsL_law_2871 10 = true) ∧ (decode dsL_law_2871 13 = .ok (.aload_n 1, 1) ∧ okop dsL_law_2871 13 = true) ∧ (decode dsL_law_2871 14 = .ok (.aload 4, 2) ∧ okop dsL_law_2871 14 = true) ∧ (decode dsL_law_2871 16 = .ok (.invokestatic 420, 3) ∧ okop dsL_law_2871 16 = true) := by decide +kernel
theorem dL_law_2871 : decode cL_law 2871 = .ok (.aload_n 1, 1) := dgq (p := 0) daL_law_2871 dbL_law_2871.1
theorem dL_law_2872 : decode cL_law 2872 = .ok (.invokevirtual 415, 3) := dgq (p := 1) daL_law_2871 dbL_law_2871.2.1
theorem dL_law_2875 : decode cL_law 2875 = .ok (.pop2, 1) := dgq (p := 4) daL_law_2871 dbL_law_2871.2.2.1
theorem dL_law_2876 : decode cL_law 2876 = .ok (.aload_n 2, 1) := dgq (p := 5) daL_law_2871 dbL_law_2871.2.2.2.1
theorem dL_law_2877 : decode cL_law 2877 = .ok (.invokevirtual 419, 3) := dgq (p := 6) daL_law_2871 dbL_law_2871.2.2.2.2.1
theorem dL_law_2880 : decode cL_law 2880 = .ok (.pop2, 1) := dgq (p := 9) daL_law_2871 dbL_law_2871.2.2.2.2.2.1
theorem dL_law_2881 : decode cL_law 2881 = .ok (.goto 50, 3) := dgq (p := 10) daL_law_2871 dbL_law_2871.2.2.2.2.2.2.1
theorem dL_law_2884 : decode cL_law 2884 = .ok (.aload_n 1, 1) := dgq (p := 13) daL_law_2871 dbL_law_2871.2.2.2.2.2.2.2.1
theorem dL_law_2885 : decode cL_law 2885 = .ok (.aload 4, 2) := dgq (p := 14) daL_law_2871 dbL_law_2871.2.2.2.2.2.2.2.2.1
theorem dL_law_2887 : decode cL_law 2887 = .ok (.invokestatic 420, 3) := dgq (p := 16) daL_law_2871 dbL_law_2871.2.2.2.2.2.2.2.2.2
def dsL_law_2890 : ByteArray := ⟨#[54, 6, 44, 182, 1, 167, 56, 7, 167, 0, 33, 43, 25, 4, 184, 1, 168, 54, 6, 44]⟩
theorem daL_law_2890 : agB cL_law dsL_law_2890 2890 := agB_of (n := 20) (by decide +kernel)
theorem dbL_law_2890 : (decode dsL_law_2890 0 = .ok (.istore 6, 2) ∧ okop dsL_law_2890 0 = true) ∧ (decode dsL_law_2890 2 = .ok (.aload_n 2, 1) ∧ okop dsL_law_2890 2 = true) ∧ (decode dsL_law_2890 3 = .ok (.invokevirtual 423, 3) ∧ okop dsL_law_2890 3 = true) ∧ (decode dsL_law_2890 6 = .ok (.fstore 7, 2) ∧ okop dsL_law_2890 6 = true) ∧ (decode dsL_law_2890 8 = .ok (.goto 33, 3) ∧ okop dsL_law_2890 8 = true) ∧ (decode dsL_law_2890 11 = .ok (.aload_n 1, 1) ∧ okop dsL_law_2890 11 = true) ∧ (decode dsL_law_2890 12 = .ok (.aload 4, 2) ∧ okop dsL_law_2890 12 = true) ∧ (decode dsL_law_2890 14 = .ok (.invokestatic 424, 3) ∧ okop dsL_law_2890 14 = true) ∧ (decode dsL_law_2890 17 = .ok (.istore 6, 2) ∧ okop dsL_law_2890 17 = true) ∧ (decode dsL_law_2890 19 = .ok (.aload_n 2, 1) ∧ okop dsL_law_2890 19 = true) := by decide +kernel
theorem dL_law_2890 : decode cL_law 2890 = .ok (.istore 6, 2) := dgq (p := 0) daL_law_2890 dbL_law_2890.1
theorem dL_law_2892 : decode cL_law 2892 = .ok (.aload_n 2, 1) := dgq (p := 2) daL_law_2890 dbL_law_2890.2.1
theorem dL_law_2893 : decode cL_law 2893 = .ok (.invokevirtual 423, 3) := dgq (p := 3) daL_law_2890 dbL_law_2890.2.2.1
theorem dL_law_2896 : decode cL_law 2896 = .ok (.fstore 7, 2) := dgq (p := 6) daL_law_2890 dbL_law_2890.2.2.2.1
theorem dL_law_2898 : decode cL_law 2898 = .ok (.goto 33, 3) := dgq (p := 8) daL_law_2890 dbL_law_2890.2.2.2.2.1
theorem dL_law_2901 : decode cL_law 2901 = .ok (.aload_n 1, 1) := dgq (p := 11) daL_law_2890 dbL_law_2890.2.2.2.2.2.1
theorem dL_law_2902 : decode cL_law 2902 = .ok (.aload 4, 2) := dgq (p := 12) daL_law_2890 dbL_law_2890.2.2.2.2.2.2.1
theorem dL_law_2904 : decode cL_law 2904 = .ok (.invokestatic 424, 3) := dgq (p := 14) daL_law_2890 dbL_law_2890.2.2.2.2.2.2.2.1
theorem dL_law_2907 : decode cL_law 2907 = .ok (.istore 6, 2) := dgq (p := 17) daL_law_2890 dbL_law_2890.2.2.2.2.2.2.2.2.1
theorem dL_law_2909 : decode cL_law 2909 = .ok (.aload_n 2, 1) := dgq (p := 19) daL_law_2890 dbL_law_2890.2.2.2.2.2.2.2.2.2
def dsL_law_2910 : ByteArray := ⟨#[182, 1, 170, 57, 7, 167, 0, 16, 43, 182, 1, 171, 87, 44, 182, 1, 175, 87, 167, 0, 3]⟩
theorem daL_law_2910 : agB cL_law dsL_law_2910 2910 := agB_of (n := 21) (by decide +kernel)
theorem dbL_law_2910 : (decode dsL_law_2910 0 = .ok (.invokevirtual 426, 3) ∧ okop dsL_law_2910 0 = true) ∧ (decode dsL_law_2910 3 = .ok (.dstore 7, 2) ∧ okop dsL_law_2910 3 = true) ∧ (decode dsL_law_2910 5 = .ok (.goto 16, 3) ∧ okop dsL_law_2910 5 = true) ∧ (decode dsL_law_2910 8 = .ok (.aload_n 1, 1) ∧ okop dsL_law_2910 8 = true) ∧ (decode dsL_law_2910 9 = .ok (.invokevirtual 427, 3) ∧ okop dsL_law_2910 9 = true) ∧ (decode dsL_law_2910 12 = .ok (.pop, 1) ∧ okop dsL_law_2910 12 = true) ∧ (decode dsL_law_2910 13 = .ok (.aload_n 2, 1) ∧ okop dsL_law_2910 13 = true) ∧ (decode dsL_law_2910 14 = .ok (.invokevirtual 431, 3) ∧ okop dsL_law_2910 14 = true) ∧ (decode dsL_law_2910 17 = .ok (.pop, 1) ∧ okop dsL_law_2910 17 = true) ∧ (decode dsL_law_2910 18 = .ok (.goto 3, 3) ∧ okop dsL_law_2910 18 = true) := by decide +kernel
theorem dL_law_2910 : decode cL_law 2910 = .ok (.invokevirtual 426, 3) := dgq (p := 0) daL_law_2910 dbL_law_2910.1
theorem dL_law_2913 : decode cL_law 2913 = .ok (.dstore 7, 2) := dgq (p := 3) daL_law_2910 dbL_law_2910.2.1
theorem dL_law_2915 : decode cL_law 2915 = .ok (.goto 16, 3) := dgq (p := 5) daL_law_2910 dbL_law_2910.2.2.1
theorem dL_law_2918 : decode cL_law 2918 = .ok (.aload_n 1, 1) := dgq (p := 8) daL_law_2910 dbL_law_2910.2.2.2.1
theorem dL_law_2919 : decode cL_law 2919 = .ok (.invokevirtual 427, 3) := dgq (p := 9) daL_law_2910 dbL_law_2910.2.2.2.2.1
theorem dL_law_2922 : decode cL_law 2922 = .ok (.pop, 1) := dgq (p := 12) daL_law_2910 dbL_law_2910.2.2.2.2.2.1
theorem dL_law_2923 : decode cL_law 2923 = .ok (.aload_n 2, 1) := dgq (p := 13) daL_law_2910 dbL_law_2910.2.2.2.2.2.2.1
theorem dL_law_2924 : decode cL_law 2924 = .ok (.invokevirtual 431, 3) := dgq (p := 14) daL_law_2910 dbL_law_2910.2.2.2.2.2.2.2.1
theorem dL_law_2927 : decode cL_law 2927 = .ok (.pop, 1) := dgq (p := 17) daL_law_2910 dbL_law_2910.2.2.2.2.2.2.2.2.1
theorem dL_law_2928 : decode cL_law 2928 = .ok (.goto 3, 3) := dgq (p := 18) daL_law_2910 dbL_law_2910.2.2.2.2.2.2.2.2.2
def dsL_law_2931 : ByteArray := ⟨#[132, 5, 5, 167, 244, 166, 4, 172]⟩
theorem daL_law_2931 : agB cL_law dsL_law_2931 2931 := agB_of (n := 8) (by decide +kernel)
theorem dbL_law_2931 : (decode dsL_law_2931 0 = .ok (.iinc 5 5, 3) ∧ okop dsL_law_2931 0 = true) ∧ (decode dsL_law_2931 3 = .ok (.goto (-2906), 3) ∧ okop dsL_law_2931 3 = true) ∧ (decode dsL_law_2931 6 = .ok (.iconst 1, 1) ∧ okop dsL_law_2931 6 = true) ∧ (decode dsL_law_2931 7 = .ok (.ireturn, 1) ∧ okop dsL_law_2931 7 = true) := by decide +kernel
theorem dL_law_2931 : decode cL_law 2931 = .ok (.iinc 5 5, 3) := dgq (p := 0) daL_law_2931 dbL_law_2931.1
theorem dL_law_2934 : decode cL_law 2934 = .ok (.goto (-2906), 3) := dgq (p := 3) daL_law_2931 dbL_law_2931.2.1
theorem dL_law_2937 : decode cL_law 2937 = .ok (.iconst 1, 1) := dgq (p := 6) daL_law_2931 dbL_law_2931.2.2.1
theorem dL_law_2938 : decode cL_law 2938 = .ok (.ireturn, 1) := dgq (p := 7) daL_law_2931 dbL_law_2931.2.2.2

