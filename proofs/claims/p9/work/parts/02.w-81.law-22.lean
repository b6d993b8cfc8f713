def dsL_law_1940 : ByteArray := ⟨#[21, 5, 5, 96, 46, 42, 21, 5, 6, 96, 46, 182, 1, 87, 54, 7, 167, 3, 207, 43, 42, 21, 5, 4, 96, 46, 45, 184, 1, 88, 54, 6, 44, 42, 21, 5]⟩
theorem daL_law_1940 : agB cL_law dsL_law_1940 1940 := agB_of (n := 36) (by decide +kernel)
theorem dbL_law_1940 : (decode dsL_law_1940 0 = .ok (.iload 5, 2) ∧ okop dsL_law_1940 0 = true) ∧ (decode dsL_law_1940 2 = .ok (.iconst 2, 1) ∧ okop dsL_law_1940 2 = true) ∧ (decode dsL_law_1940 3 = .ok (.iadd, 1) ∧ okop dsL_law_1940 3 = true) ∧ (decode dsL_law_1940 4 = .ok (.iaload, 1) ∧ okop dsL_law_1940 4 = true) ∧ (decode dsL_law_1940 5 = .ok (.aload_n 0, 1) ∧ okop dsL_law_1940 5 = true) ∧ (decode dsL_law_1940 6 = .ok (.iload 5, 2) ∧ okop dsL_law_1940 6 = true) ∧ (decode dsL_law_1940 8 = .ok (.iconst 3, 1) ∧ okop dsL_law_1940 8 = true) ∧ (decode dsL_law_1940 9 = .ok (.iadd, 1) ∧ okop dsL_law_1940 9 = true) ∧ (decode dsL_law_1940 10 = .ok (.iaload, 1) ∧ okop dsL_law_1940 10 = true) ∧ (decode dsL_law_1940 11 = .ok (.invokevirtual 343, 3) ∧ okop dsL_law_1940 11 = true) ∧ (decode dsL_law_1940 14 = .ok (.istore 7, 2) ∧ okop dsL_law_1940 14 = true) ∧ (decode dsL_law_1940 16 = .ok (.goto 975, 3) ∧ okop dsL_law_1940 16 = true) ∧ (decode dsL_law_1940 19 = .ok (.aload_n 1, 1) ∧ okop dsL_law_1940 19 = true) ∧ (decode dsL_law_1940 20 = .ok (.aload_n 0, 1) ∧ okop dsL_law_1940 20 = true) ∧ (decode dsL_law_1940 21 = .ok (.iload 5, 2) ∧ okop dsL_law_1940 21 = true) ∧ (decode dsL_law_1940 23 = .ok (.iconst 1, 1) ∧ okop dsL_law_1940 23 = true) ∧ (decode dsL_law_1940 24 = .ok (.iadd, 1) ∧ okop dsL_law_1940 24 = true) ∧ (decode dsL_law_1940 25 = .ok (.iaload, 1) ∧ okop dsL_law_1940 25 = true) ∧ (decode dsL_law_1940 26 = .ok (.aload_n 3, 1) ∧ okop dsL_law_1940 26 = true) ∧ (decode dsL_law_1940 27 = .ok (.invokestatic 344, 3) ∧ okop dsL_law_1940 27 = true) ∧ (decode dsL_law_1940 30 = .ok (.istore 6, 2) ∧ okop dsL_law_1940 30 = true) ∧ (decode dsL_law_1940 32 = .ok (.aload_n 2, 1) ∧ okop dsL_law_1940 32 = true) ∧ (decode dsL_law_1940 33 = .ok (.aload_n 0, 1) ∧ okop dsL_law_1940 33 = true) ∧ (decode dsL_law_1940 34 = .ok (.iload 5, 2) ∧ okop dsL_law_1940 34 = true) := by decide +kernel
theorem dL_law_1940 : decode cL_law 1940 = .ok (.iload 5, 2) := dgq (p := 0) daL_law_1940 dbL_law_1940.1
theorem dL_law_1942 : decode cL_law 1942 = .ok (.iconst 2, 1) := dgq (p := 2) daL_law_1940 dbL_law_1940.2.1
theorem dL_law_1943 : decode cL_law 1943 = .ok (.iadd, 1) := dgq (p := 3) daL_law_1940 dbL_law_1940.2.2.1
theorem dL_law_1944 : decode cL_law 1944 = .ok (.iaload, 1) := dgq (p := 4) daL_law_1940 dbL_law_1940.2.2.2.1
theorem dL_law_1945 : decode cL_law 1945 = .ok (.aload_n 0, 1) := dgq (p := 5) daL_law_1940 dbL_law_1940.2.2.2.2.1
theorem dL_law_1946 : decode cL_law 1946 = .ok (.iload 5, 2) := dgq (p := 6) daL_law_1940 dbL_law_1940.2.2.2.2.2.1
theorem dL_law_1948 : decode cL_law 1948 = .ok (.iconst 3, 1) := dgq (p := 8) daL_law_1940 dbL_law_1940.2.2.2.2.2.2.1
theorem dL_law_1949 : decode cL_law 1949 = .ok (.iadd, 1) := dgq (p := 9) daL_law_1940 dbL_law_1940.2.2.2.2.2.2.2.1
theorem dL_law_1950 : decode cL_law 1950 = .ok (.iaload, 1) := dgq (p := 10) daL_law_1940 dbL_law_1940.2.2.2.2.2.2.2.2.1
theorem dL_law_1951 : decode cL_law 1951 = .ok (.invokevirtual 343, 3) := dgq (p := 11) daL_law_1940 dbL_law_1940.2.2.2.2.2.2.2.2.2.1
theorem dL_law_1954 : decode cL_law 1954 = .ok (.istore 7, 2) := dgq (p := 14) daL_law_1940 dbL_law_1940.2.2.2.2.2.2.2.2.2.2.1
theorem dL_law_1956 : decode cL_law 1956 = .ok (.goto 975, 3) := dgq (p := 16) daL_law_1940 dbL_law_1940.2.2.2.2.2.2.2.2.2.2.2.1
theorem dL_law_1959 : decode cL_law 1959 = .ok (.aload_n 1, 1) := dgq (p := 19) daL_law_1940 dbL_law_1940.2.2.2.2.2.2.2.2.2.2.2.2.1
theorem dL_law_1960 : decode cL_law 1960 = .ok (.aload_n 0, 1) := dgq (p := 20) daL_law_1940 dbL_law_1940.2.2.2.2.2.2.2.2.2.2.2.2.2.1
theorem dL_law_1961 : decode cL_law 1961 = .ok (.iload 5, 2) := dgq (p := 21) daL_law_1940 dbL_law_1940.2.2.2.2.2.2.2.2.2.2.2.2.2.2.1
theorem dL_law_1963 : decode cL_law 1963 = .ok (.iconst 1, 1) := dgq (p := 23) daL_law_1940 dbL_law_1940.2.2.2.2.2.2.2.2.2.2.2.2.2.2.2.1
theorem dL_law_1964 : decode cL_law 1964 = .ok (.iadd, 1) := dgq (p := 24) daL_law_1940 dbL_law_1940.2.2.2.2.2.2.2.2.2.2.2.2.2.2.2.2.1
theorem dL_law_1965 : decode cL_law 1965 = .ok (.iaload, 1) := dgq (p := 25) daL_law_1940 dbL_law_1940.2.2.2.2.2.2.2.2.2.2.2.2.2.2.2.2.2.1
theorem dL_law_1966 : decode cL_law 1966 = .ok (.aload_n 3, 1) := dgq (p := 26) daL_law_1940 dbL_law_1940.2.2.2.2.2.2.2.2.2.2.2.2.2.2.2.2.2.2.1
theorem dL_law_1967 : decode cL_law 1967 = .ok (.invokestatic 344, 3) := dgq (p := 27) daL_law_1940 dbL_law_1940.2.2.2.2.2.2.2.2.2.2.2.2.2.2.2.2.2.2.2.1
theorem dL_law_1970 : decode cL_law 1970 = .ok (.istore 6, 2) := dgq (p := 30) daL_law_1940 dbL_law_1940.2.2.2.2.2.2.2.2.2.2.2.2.2.2.2.2.2.2.2.2.1
theorem dL_law_1972 : decode cL_law 1972 = .ok (.aload_n 2, 1) := dgq (p := 32) daL_law_1940 dbL_law_1940.2.2.2.2.2.2.2.2.2.2.2.2.2.2.2.2.2.2.2.2.2.1
theorem dL_law_1973 : decode cL_law 1973 = .ok (.aload_n 0, 1) := dgq (p := 33) daL_law_1940 dbL_law_1940.2.2.2.2.2.2.2.2.2.2.2.2.2.2.2.2.2.2.2.2.2.2.1
theorem dL_law_1974 : decode cL_law 1974 = .ok (.iload 5, 2) := dgq (p := 34) daL_law_1940 dbL_law_1940.2.2.2.2.2.2.2.2.2.2.2.2.2.2.2.2.2.2.2.2.2.2.2
def dsL_law_1976 : ByteArray := ⟨#[4, 96, 46, 182, 1, 90, 54, 7, 167, 3, 179, 43, 42, 21, 5, 4, 96, 46, 42, 21, 5, 5, 96, 46, 42, 21, 5, 6, 96, 46, 45, 184, 1, 91]⟩
theorem daL_law_1976 : agB cL_law dsL_law_1976 1976 := agB_of (n := 34) (by decide +kernel)
theorem dbL_law_1976 : (decode dsL_law_1976 0 = .ok (.iconst 1, 1) ∧ okop dsL_law_1976 0 = true) ∧ (decode dsL_law_1976 1 = .ok (.iadd, 1) ∧ okop dsL_law_1976 1 = true) ∧ (decode dsL_law_1976 2 = .ok (.iaload, 1) ∧ okop dsL_law_1976 2 = true) ∧ (decode dsL_law_1976 3 = .ok (.invokevirtual 346, 3) ∧ okop dsL_law_1976 3 = true) ∧ (decode dsL_law_1976 6 = .ok (.istore 7, 2) ∧ okop dsL_law_1976 6 = true) ∧ (decode dsL_law_1976 8 = .ok (.goto 947, 3) ∧ okop dsL_law_1976 8 = true) ∧ (decode dsL_law_1976 11 = .ok (.aload_n 1, 1) ∧ okop dsL_law_1976 11 = true) ∧ (decode dsL_law_1976 12 = .ok (.aload_n 0, 1) ∧ okop dsL_law_1976 12 = true) ∧ (decode dsL_law_1976 13 = .ok (.iload 5, 2) ∧ okop dsL_law_1976 13 = true) ∧ (decode dsL_law_1976 15 = .ok (.iconst 1, 1) ∧ okop dsL_law_1976 15 = true) ∧ (decode dsL_law_1976 16 = .ok (.iadd, 1) ∧ okop dsL_law_1976 16 = true) ∧ (decode dsL_law_1976 17 = .ok (.iaload, 1) ∧ okop dsL_law_1976 17 = true) ∧ (decode dsL_law_1976 18 = .ok (.aload_n 0, 1) ∧ okop dsL_law_1976 18 = true) ∧ (decode dsL_law_1976 19 = .ok (.iload 5, 2) ∧ okop dsL_law_1976 19 = true) ∧ (decode dsL_law_1976 21 = .ok (.iconst 2, 1) ∧ okop dsL_law_1976 21 = true) ∧ (decode dsL_law_1976 22 = .ok (.iadd, 1) ∧ okop dsL_law_1976 22 = true) ∧ (decode dsL_law_1976 23 = .ok (.iaload, 1) ∧ okop dsL_law_1976 23 = true) ∧ (decode dsL_law_1976 24 = .ok (.aload_n 0, 1) ∧ okop dsL_law_1976 24 = true) ∧ (decode dsL_law_1976 25 = .ok (.iload 5, 2) ∧ okop dsL_law_1976 25 = true) ∧ (decode dsL_law_1976 27 = .ok (.iconst 3, 1) ∧ okop dsL_law_1976 27 = true) ∧ (decode dsL_law_1976 28 = .ok (.iadd, 1) ∧ okop dsL_law_1976 28 = true) ∧ (decode dsL_law_1976 29 = .ok (.iaload, 1) ∧ okop dsL_law_1976 29 = true) ∧ (decode dsL_law_1976 30 = .ok (.aload_n 3, 1) ∧ okop dsL_law_1976 30 = true) ∧ (decode dsL_law_1976 31 = .ok (.invokestatic 347, 3) ∧ okop dsL_law_1976 31 = true) := by decide +kernel
theorem dL_law_1976 : decode cL_law 1976 = .ok (.iconst 1, 1) := dgq (p := 0) daL_law_1976 dbL_law_1976.1
theorem dL_law_1977 : decode cL_law 1977 = .ok (.iadd, 1) := dgq (p := 1) daL_law_1976 dbL_law_1976.2.1
theorem dL_law_1978 : decode cL_law 1978 = .ok (.iaload, 1) := dgq (p := 2) daL_law_1976 dbL_law_1976.2.2.1
theorem dL_law_1979 : decode cL_law 1979 = .ok (.invokevirtual 346, 3) := dgq (p := 3) daL_law_1976 dbL_law_1976.2.2.2.1
theorem dL_law_1982 : decode cL_law 1982 = .ok (.istore 7, 2) := dgq (p := 6) daL_law_1976 dbL_law_1976.2.2.2.2.1
theorem dL_law_1984 : decode cL_law 1984 = .ok (.goto 947, 3) := dgq (p := 8) daL_law_1976 dbL_law_1976.2.2.2.2.2.1
theorem dL_law_1987 : decode cL_law 1987 = .ok (.aload_n 1, 1) := dgq (p := 11) daL_law_1976 dbL_law_1976.2.2.2.2.2.2.1
theorem dL_law_1988 : decode cL_law 1988 = .ok (.aload_n 0, 1) := dgq (p := 12) daL_law_1976 dbL_law_1976.2.2.2.2.2.2.2.1
theorem dL_law_1989 : decode cL_law 1989 = .ok (.iload 5, 2) := dgq (p := 13) daL_law_1976 dbL_law_1976.2.2.2.2.2.2.2.2.1
theorem dL_law_1991 : decode cL_law 1991 = .ok (.iconst 1, 1) := dgq (p := 15) daL_law_1976 dbL_law_1976.2.2.2.2.2.2.2.2.2.1
theorem dL_law_1992 : decode cL_law 1992 = .ok (.iadd, 1) := dgq (p := 16) daL_law_1976 dbL_law_1976.2.2.2.2.2.2.2.2.2.2.1
theorem dL_law_1993 : decode cL_law 1993 = .ok (.iaload, 1) := dgq (p := 17) daL_law_1976 dbL_law_1976.2.2.2.2.2.2.2.2.2.2.2.1
theorem dL_law_1994 : decode cL_law 1994 = .ok (.aload_n 0, 1) := dgq (p := 18) daL_law_1976 dbL_law_1976.2.2.2.2.2.2.2.2.2.2.2.2.1
theorem dL_law_1995 : decode cL_law 1995 = .ok (.iload 5, 2) := dgq (p := 19) daL_law_1976 dbL_law_1976.2.2.2.2.2.2.2.2.2.2.2.2.2.1
theorem dL_law_1997 : decode cL_law 1997 = .ok (.iconst 2, 1) := dgq (p := 21) daL_law_1976 dbL_law_1976.2.2.2.2.2.2.2.2.2.2.2.2.2.2.1
theorem dL_law_1998 : decode cL_law 1998 = .ok (.iadd, 1) := dgq (p := 22) daL_law_1976 dbL_law_1976.2.2.2.2.2.2.2.2.2.2.2.2.2.2.2.1
theorem dL_law_1999 : decode cL_law 1999 = .ok (.iaload, 1) := dgq (p := 23) daL_law_1976 dbL_law_1976.2.2.2.2.2.2.2.2.2.2.2.2.2.2.2.2.1
theorem dL_law_2000 : decode cL_law 2000 = .ok (.aload_n 0, 1) := dgq (p := 24) daL_law_1976 dbL_law_1976.2.2.2.2.2.2.2.2.2.2.2.2.2.2.2.2.2.1
theorem dL_law_2001 : decode cL_law 2001 = .ok (.iload 5, 2) := dgq (p := 25) daL_law_1976 dbL_law_1976.2.2.2.2.2.2.2.2.2.2.2.2.2.2.2.2.2.2.1
theorem dL_law_2003 : decode cL_law 2003 = .ok (.iconst 3, 1) := dgq (p := 27) daL_law_1976 dbL_law_1976.2.2.2.2.2.2.2.2.2.2.2.2.2.2.2.2.2.2.2.1
theorem dL_law_2004 : decode cL_law 2004 = .ok (.iadd, 1) := dgq (p := 28) daL_law_1976 dbL_law_1976.2.2.2.2.2.2.2.2.2.2.2.2.2.2.2.2.2.2.2.2.1
theorem dL_law_2005 : decode cL_law 2005 = .ok (.iaload, 1) := dgq (p := 29) daL_law_1976 dbL_law_1976.2.2.2.2.2.2.2.2.2.2.2.2.2.2.2.2.2.2.2.2.2.1
theorem dL_law_2006 : decode cL_law 2006 = .ok (.aload_n 3, 1) := dgq (p := 30) daL_law_1976 dbL_law_1976.2.2.2.2.2.2.2.2.2.2.2.2.2.2.2.2.2.2.2.2.2.2.1
theorem dL_law_2007 : decode cL_law 2007 = .ok (.invokestatic 347, 3) := dgq (p := 31) daL_law_1976 dbL_law_1976.2.2.2.2.2.2.2.2.2.2.2.2.2.2.2.2.2.2.2.2.2.2.2
def dsL_law_2010 : ByteArray := ⟨#[54, 6, 44, 42, 21, 5, 4, 96, 46, 42, 21, 5, 5, 96, 46, 42, 21, 5, 6, 96, 46, 182, 1, 93, 54, 7, 167, 3, 127, 43, 42, 21, 5, 4]⟩
theorem daL_law_2010 : agB cL_law dsL_law_2010 2010 := agB_of (n := 34) (by decide +kernel)
theorem dbL_law_2010 : (decode dsL_law_2010 0 = .ok (.istore 6, 2) ∧ okop dsL_law_2010 0 = true) ∧ (decode dsL_law_2010 2 = .ok (.aload_n 2, 1) ∧ okop dsL_law_2010 2 = true) ∧ (decode dsL_law_2010 3 = .ok (.aload_n 0, 1) ∧ okop dsL_law_2010 3 = true) ∧ (decode dsL_law_2010 4 = .ok (.iload 5, 2) ∧ okop dsL_law_2010 4 = true) ∧ (decode dsL_law_2010 6 = .ok (.iconst 1, 1) ∧ okop dsL_law_2010 6 = true) ∧ (decode dsL_law_2010 7 = .ok (.iadd, 1) ∧ okop dsL_law_2010 7 = true) ∧ (decode dsL_law_2010 8 = .ok (.iaload, 1) ∧ okop dsL_law_2010 8 = true) ∧ (decode dsL_law_2010 9 = .ok (.aload_n 0, 1) ∧ okop dsL_law_2010 9 = true) ∧ (decode dsL_law_2010 10 = .ok (.iload 5, 2) ∧ okop dsL_law_2010 10 = true) ∧ (decode dsL_law_2010 12 = .ok (.iconst 2, 1) ∧ okop dsL_law_2010 12 = true) ∧ (decode dsL_law_2010 13 = .ok (.iadd, 1) ∧ okop dsL_law_2010 13 = true) ∧ (decode dsL_law_2010 14 = .ok (.iaload, 1) ∧ okop dsL_law_2010 14 = true) ∧ (decode dsL_law_2010 15 = .ok (.aload_n 0, 1) ∧ okop dsL_law_2010 15 = true) ∧ (decode dsL_law_2010 16 = .ok (.iload 5, 2) ∧ okop dsL_law_2010 16 = true) ∧ (decode dsL_law_2010 18 = .ok (.iconst 3, 1) ∧ okop dsL_law_2010 18 = true) ∧ (decode dsL_law_2010 19 = .ok (.iadd, 1) ∧ okop dsL_law_2010 19 = true) ∧ (decode dsL_law_2010 20 = .ok (.iaload, 1) ∧ okop dsL_law_2010 20 = true) ∧ (decode dsL_law_2010 21 = .ok (.invokevirtual 349, 3) ∧ okop dsL_law_2010 21 = true) ∧ (decode dsL_law_2010 24 = .ok (.istore 7, 2) ∧ okop dsL_law_2010 24 = true) ∧ (decode dsL_law_2010 26 = .ok (.goto 895, 3) ∧ okop dsL_law_2010 26 = true) ∧ (decode dsL_law_2010 29 = .ok (.aload_n 1, 1) ∧ okop dsL_law_2010 29 = true) ∧ (decode dsL_law_2010 30 = .ok (.aload_n 0, 1) ∧ okop dsL_law_2010 30 = true) ∧ (decode dsL_law_2010 31 = .ok (.iload 5, 2) ∧ okop dsL_law_2010 31 = true) ∧ (decode dsL_law_2010 33 = .ok (.iconst 1, 1) ∧ okop dsL_law_2010 33 = true) := by decide +kernel
theorem dL_law_2010 : decode cL_law 2010 = .ok (.istore 6, 2) := dgq (p := 0) daL_law_2010 dbL_law_2010.1
theorem dL_law_2012 : decode cL_law 2012 = .ok (.aload_n 2, 1) := dgq (p := 2) daL_law_2010 dbL_law_2010.2.1
theorem dL_law_2013 : decode cL_law 2013 = .ok (.aload_n 0, 1) := dgq (p := 3) daL_law_2010 dbL_law_2010.2.2.1
theorem dL_law_2014 : decode cL_law 2014 = .ok (.iload 5, 2) := dgq (p := 4) daL_law_2010 dbL_law_2010.2.2.2.1
theorem dL_law_2016 : decode cL_law 2016 = .ok (.iconst 1, 1) := dgq (p := 6) daL_law_2010 dbL_law_2010.2.2.2.2.1
theorem dL_law_2017 : decode cL_law 2017 = .ok (.iadd, 1) := dgq (p := 7) daL_law_2010 dbL_law_2010.2.2.2.2.2.1
theorem dL_law_2018 : decode cL_law 2018 = .ok (.iaload, 1) := dgq (p := 8) daL_law_2010 dbL_law_2010.2.2.2.2.2.2.1
theorem dL_law_2019 : decode cL_law 2019 = .ok (.aload_n 0, 1) := dgq (p := 9) daL_law_2010 dbL_law_2010.2.2.2.2.2.2.2.1
theorem dL_law_2020 : decode cL_law 2020 = .ok (.iload 5, 2) := dgq (p := 10) daL_law_2010 dbL_law_2010.2.2.2.2.2.2.2.2.1
theorem dL_law_2022 : decode cL_law 2022 = .ok (.iconst 2, 1) := dgq (p := 12) daL_law_2010 dbL_law_2010.2.2.2.2.2.2.2.2.2.1
theorem dL_law_2023 : decode cL_law 2023 = .ok (.iadd, 1) := dgq (p := 13) daL_law_2010 dbL_law_2010.2.2.2.2.2.2.2.2.2.2.1
theorem dL_law_2024 : decode cL_law 2024 = .ok (.iaload, 1) := dgq (p := 14) daL_law_2010 dbL_law_2010.2.2.2.2.2.2.2.2.2.2.2.1
theorem dL_law_2025 : decode cL_law 2025 = .ok (.aload_n 0, 1) := dgq (p := 15) daL_law_2010 dbL_law_2010.2.2.2.2.2.2.2.2.2.2.2.2.1
theorem dL_law_2026 : decode cL_law 2026 = .ok (.iload 5, 2) := dgq (p := 16) daL_law_2010 dbL_law_2010.2.2.2.2.2.2.2.2.2.2.2.2.2.1
theorem dL_law_2028 : decode cL_law 2028 = .ok (.iconst 3, 1) := dgq (p := 18) daL_law_2010 dbL_law_2010.2.2.2.2.2.2.2.2.2.2.2.2.2.2.1
theorem dL_law_2029 : decode cL_law 2029 = .ok (.iadd, 1) := dgq (p := 19) daL_law_2010 dbL_law_2010.2.2.2.2.2.2.2.2.2.2.2.2.2.2.2.1
theorem dL_law_2030 : decode cL_law 2030 = .ok (.iaload, 1) := dgq (p := 20) daL_law_2010 dbL_law_2010.2.2.2.2.2.2.2.2.2.2.2.2.2.2.2.2.1
theorem dL_law_2031 : decode cL_law 2031 = .ok (.invokevirtual 349, 3) := dgq (p := 21) daL_law_2010 dbL_law_2010.2.2.2.2.2.2.2.2.2.2.2.2.2.2.2.2.2.1
theorem dL_law_2034 : decode cL_law 2034 = .ok (.istore 7, 2) := dgq (p := 24) daL_law_2010 dbL_law_2010.2.2.2.2.2.2.2.2.2.2.2.2.2.2.2.2.2.2.1
theorem dL_law_2036 : decode cL_law 2036 = .ok (.goto 895, 3) := dgq (p := 26) daL_law_2010 dbL_law_2010.2.2.2.2.2.2.2.2.2.2.2.2.2.2.2.2.2.2.2.1
theorem dL_law_2039 : decode cL_law 2039 = .ok (.aload_n 1, 1) := dgq (p := 29) daL_law_2010 dbL_law_2010.2.2.2.2.2.2.2.2.2.2.2.2.2.2.2.2.2.2.2.2.1
theorem dL_law_2040 : decode cL_law 2040 = .ok (.aload_n 0, 1) := dgq (p := 30) daL_law_2010 dbL_law_2010.2.2.2.2.2.2.2.2.2.2.2.2.2.2.2.2.2.2.2.2.2.1
theorem dL_law_2041 : decode cL_law 2041 = .ok (.iload 5, 2) := dgq (p := 31) daL_law_2010 dbL_law_2010.2.2.2.2.2.2.2.2.2.2.2.2.2.2.2.2.2.2.2.2.2.2.1
theorem dL_law_2043 : decode cL_law 2043 = .ok (.iconst 1, 1) := dgq (p := 33) daL_law_2010 dbL_law_2010.2.2.2.2.2.2.2.2.2.2.2.2.2.2.2.2.2.2.2.2.2.2.2
def dsL_law_2044 : ByteArray := ⟨#[96, 46, 45, 184, 1, 94, 54, 6, 44, 42, 21, 5, 4, 96, 46, 182, 1, 96, 54, 7, 167, 3, 99, 43, 42, 21, 5, 4, 96, 46, 45, 184, 1, 97, 54, 6, 44]⟩
theorem daL_law_2044 : agB cL_law dsL_law_2044 2044 := agB_of (n := 37) (by decide +kernel)
theorem dbL_law_2044 : (decode dsL_law_2044 0 = .ok (.iadd, 1) ∧ okop dsL_law_2044 0 = true) ∧ (decode dsL_law_2044 1 = .ok (.iaload, 1) ∧ okop dsL_law_2044 1 = true) ∧ (decode dsL_law_2044 2 = .ok (.aload_n 3, 1) ∧ okop dsL_law_2044 2 = true) ∧ (decode dsL_law_2044 3 = .ok (.invokestatic 350, 3) ∧ okop dsL_law_2044 3 = true) ∧ (decode dsL_law_2044 6 = .ok (.istore 6, 2) ∧ okop dsL_law_2044 6 = true) ∧ (decode dsL_law_2044 8 = .ok (.aload_n 2, 1) ∧ okop dsL_law_2044 8 = true) ∧ (decode dsL_law_2044 9 = .ok (.aload_n 0, 1) ∧ okop dsL_law_2044 9 = true) ∧ (decode dsL_law_2044 10 = .ok (.iload 5, 2) ∧ okop dsL_law_2044 10 = true) ∧ (decode dsL_law_2044 12 = .ok (.iconst 1, 1) ∧ okop dsL_law_2044 12 = true) ∧ (decode dsL_law_2044 13 = .ok (.iadd, 1) ∧ okop dsL_law_2044 13 = true) ∧ (decode dsL_law_2044 14 = .ok (.iaload, 1) ∧ okop dsL_law_2044 14 = true) ∧ (decode dsL_law_2044 15 = .ok (.invokevirtual 352, 3) ∧ okop dsL_law_2044 15 = true) ∧ (decode dsL_law_2044 18 = .ok (.istore 7, 2) ∧ okop dsL_law_2044 18 = true) ∧ (decode dsL_law_2044 20 = .ok (.goto 867, 3) ∧ okop dsL_law_2044 20 = true) ∧ (decode dsL_law_2044 23 = .ok (.aload_n 1, 1) ∧ okop dsL_law_2044 23 = true) ∧ (decode dsL_law_2044 24 = .ok (.aload_n 0, 1) ∧ okop dsL_law_2044 24 = true) ∧ (decode dsL_law_2044 25 = .ok (.iload 5, 2) ∧ okop dsL_law_2044 25 = true) ∧ (decode dsL_law_2044 27 = .ok (.iconst 1, 1) ∧ okop dsL_law_2044 27 = true) ∧ (decode dsL_law_2044 28 = .ok (.iadd, 1) ∧ okop dsL_law_2044 28 = true) ∧ (decode dsL_law_2044 29 = .ok (.iaload, 1) ∧ okop dsL_law_2044 29 = true) ∧ (decode dsL_law_2044 30 = .ok (.aload_n 3, 1) ∧ okop dsL_law_2044 30 = true) ∧ (decode dsL_law_2044 31 = .ok (.invokestatic 353, 3) ∧ okop dsL_law_2044 31 = true) ∧ (decode dsL_law_2044 34 = .ok (.istore 6, 2) ∧ okop dsL_law_2044 34 = true) ∧ (decode dsL_law_2044 36 = .ok (.aload_n 2, 1) ∧ okop dsL_law_2044 36 = true) := by decide +kernel
theorem dL_law_2044 : decode cL_law 2044 = .ok (.iadd, 1) := dgq (p := 0) daL_law_2044 dbL_law_2044.1
theorem dL_law_2045 : decode cL_law 2045 = .ok (.iaload, 1) := dgq (p := 1) daL_law_2044 dbL_law_2044.2.1
theorem dL_law_2046 : decode cL_law 2046 = .ok (.aload_n 3, 1) := dgq (p := 2) daL_law_2044 dbL_law_2044.2.2.1
theorem dL_law_2047 : decode cL_law 2047 = .ok (.invokestatic 350, 3) := dgq (p := 3) daL_law_2044 dbL_law_2044.2.2.2.1
theorem dL_law_2050 : decode cL_law 2050 = .ok (.istore 6, 2) := dgq (p := 6) daL_law_2044 dbL_law_2044.2.2.2.2.1
theorem dL_law_2052 : decode cL_law 2052 = .ok (.aload_n 2, 1) := dgq (p := 8) daL_law_2044 dbL_law_2044.2.2.2.2.2.1
theorem dL_law_2053 : decode cL_law 2053 = .ok (.aload_n 0, 1) := dgq (p := 9) daL_law_2044 dbL_law_2044.2.2.2.2.2.2.1
theorem dL_law_2054 : decode cL_law 2054 = .ok (.iload 5, 2) := dgq (p := 10) daL_law_2044 dbL_law_2044.2.2.2.2.2.2.2.1
theorem dL_law_2056 : decode cL_law 2056 = .ok (.iconst 1, 1) := dgq (p := 12) daL_law_2044 dbL_law_2044.2.2.2.2.2.2.2.2.1
theorem dL_law_2057 : decode cL_law 2057 = .ok (.iadd, 1) := dgq (p := 13) daL_law_2044 dbL_law_2044.2.2.2.2.2.2.2.2.2.1
theorem dL_law_2058 : decode cL_law 2058 = .ok (.iaload, 1) := dgq (p := 14) daL_law_2044 dbL_law_2044.2.2.2.2.2.2.2.2.2.2.1
theorem dL_law_2059 : decode cL_law 2059 = .ok (.invokevirtual 352, 3) := dgq (p := 15) daL_law_2044 dbL_law_2044.2.2.2.2.2.2.2.2.2.2.2.1
theorem dL_law_2062 : decode cL_law 2062 = .ok (.istore 7, 2) := dgq (p := 18) daL_law_2044 dbL_law_2044.2.2.2.2.2.2.2.2.2.2.2.2.1
theorem dL_law_2064 : decode cL_law 2064 = .ok (.goto 867, 3) := dgq (p := 20) daL_law_2044 dbL_law_2044.2.2.2.2.2.2.2.2.2.2.2.2.2.1
theorem dL_law_2067 : decode cL_law 2067 = .ok (.aload_n 1, 1) := dgq (p := 23) daL_law_2044 dbL_law_2044.2.2.2.2.2.2.2.2.2.2.2.2.2.2.1
theorem dL_law_2068 : decode cL_law 2068 = .ok (.aload_n 0, 1) := dgq (p := 24) daL_law_2044 dbL_law_2044.2.2.2.2.2.2.2.2.2.2.2.2.2.2.2.1
theorem dL_law_2069 : decode cL_law 2069 = .ok (.iload 5, 2) := dgq (p := 25) daL_law_2044 dbL_law_2044.2.2.2.2.2.2.2.2.2.2.2.2.2.2.2.2.1
theorem dL_law_2071 : decode cL_law 2071 = .ok (.iconst 1, 1) := dgq (p := 27) daL_law_2044 dbL_law_2044.2.2.2.2.2.2.2.2.2.2.2.2.2.2.2.2.2.1
theorem dL_law_2072 : decode cL_law 2072 = .ok (.iadd, 1) := dgq (p := 28) daL_law_2044 dbL_law_2044.2.2.2.2.2.2.2.2.2.2.2.2.2.2.2.2.2.2.1
theorem dL_law_2073 : decode cL_law 2073 = .ok (.iaload, 1) := dgq (p := 29) daL_law_2044 dbL_law_2044.2.2.2.2.2.2.2.2.2.2.2.2.2.2.2.2.2.2.2.1
theorem dL_law_2074 : decode cL_law 2074 = .ok (.aload_n 3, 1) := dgq (p := 30) daL_law_2044 dbL_law_2044.2.2.2.2.2.2.2.2.2.2.2.2.2.2.2.2.2.2.2.2.1
theorem dL_law_2075 : decode cL_law 2075 = .ok (.invokestatic 353, 3) := dgq (p := 31) daL_law_2044 dbL_law_2044.2.2.2.2.2.2.2.2.2.2.2.2.2.2.2.2.2.2.2.2.2.1
theorem dL_law_2078 : decode cL_law 2078 = .ok (.istore 6, 2) := dgq (p := 34) daL_law_2044 dbL_law_2044.2.2.2.2.2.2.2.2.2.2.2.2.2.2.2.2.2.2.2.2.2.2.1
theorem dL_law_2080 : decode cL_law 2080 = .ok (.aload_n 2, 1) := dgq (p := 36) daL_law_2044 dbL_law_2044.2.2.2.2.2.2.2.2.2.2.2.2.2.2.2.2.2.2.2.2.2.2.2
def dsL_law_2081 : ByteArray := ⟨#[42, 21, 5, 4, 96, 46, 182, 1, 99, 54, 7, 167, 3, 71, 43, 42, 21, 5, 4, 96, 46, 42, 21, 5, 5, 96, 46, 45, 184, 1, 100, 54, 6, 44, 42]⟩
theorem daL_law_2081 : agB cL_law dsL_law_2081 2081 := agB_of (n := 35) (by decide +kernel)
theorem dbL_law_2081 : (decode dsL_law_2081 0 = .ok (.aload_n 0, 1) ∧ okop dsL_law_2081 0 = true) ∧ (decode dsL_law_2081 1 = .ok (.iload 5, 2) ∧ okop dsL_law_2081 1 = true) ∧ (decode dsL_law_2081 3 = .ok (.iconst 1, 1) ∧ okop dsL_law_2081 3 = true) ∧ (decode dsL_law_2081 4 = .ok (.iadd, 1) ∧ okop dsL_law_2081 4 = true) ∧ (decode dsL_law_2081 5 = .ok (.iaload, 1) ∧ okop dsL_law_2081 5 = true) ∧ (decode dsL_law_2081 6 = .ok (.invokevirtual 355, 3) ∧ okop dsL_law_2081 6 = true) ∧ (decode dsL_law_2081 9 = .ok (.istore 7, 2) ∧ okop dsL_law_2081 9 = true) ∧ (decode dsL_law_2081 11 = .ok (.goto 839, 3) ∧ okop dsL_law_2081 11 = true) ∧ (decode dsL_law_2081 14 = .ok (.aload_n 1, 1) ∧ okop dsL_law_2081 14 = true) ∧ (decode dsL_law_2081 15 = .ok (.aload_n 0, 1) ∧ okop dsL_law_2081 15 = true) ∧ (decode dsL_law_2081 16 = .ok (.iload 5, 2) ∧ okop dsL_law_2081 16 = true) ∧ (decode dsL_law_2081 18 = .ok (.iconst 1, 1) ∧ okop dsL_law_2081 18 = true) ∧ (decode dsL_law_2081 19 = .ok (.iadd, 1) ∧ okop dsL_law_2081 19 = true) ∧ (decode dsL_law_2081 20 = .ok (.iaload, 1) ∧ okop dsL_law_2081 20 = true) ∧ (decode dsL_law_2081 21 = .ok (.aload_n 0, 1) ∧ okop dsL_law_2081 21 = true) ∧ (decode dsL_law_2081 22 = .ok (.iload 5, 2) ∧ okop dsL_law_2081 22 = true) ∧ (decode dsL_law_2081 24 = .ok (.iconst 2, 1) ∧ okop dsL_law_2081 24 = true) ∧ (decode dsL_law_2081 25 = .ok (.iadd, 1) ∧ okop dsL_law_2081 25 = true) ∧ (decode dsL_law_2081 26 = .ok (.iaload, 1) ∧ okop dsL_law_2081 26 = true) ∧ (decode dsL_law_2081 27 = .ok (.aload_n 3, 1) ∧ okop dsL_law_2081 27 = true) ∧ (decode dsL_law_2081 28 = .ok (.invokestatic 356, 3) ∧ okop dsL_law_2081 28 = true) ∧ (decode dsL_law_2081 31 = .ok (.istore 6, 2) ∧ okop dsL_law_2081 31 = true) ∧ (decode dsL_law_2081 33 = .ok (.aload_n 2, 1) ∧ okop dsL_law_2081 33 = true) ∧ (decode dsL_law_2081 34 = .ok (.aload_n 0, 1) ∧ okop dsL_law_2081 34 = true) := by decide +kernel
theorem dL_law_2081 : decode cL_law 2081 = .ok (.aload_n 0, 1) := dgq (p := 0) daL_law_2081 dbL_law_2081.1
theorem dL_law_2082 : decode cL_law 2082 = .ok (.iload 5, 2) := dgq (p := 1) daL_law_2081 dbL_law_2081.2.1
theorem dL_law_2084 : decode cL_law 2084 = .ok (.iconst 1, 1) := dgq (p := 3) daL_law_2081 dbL_law_2081.2.2.1
theorem dL_law_2085 : decode cL_law 2085 = .ok (.iadd, 1) := dgq (p := 4) daL_law_2081 dbL_law_2081.2.2.2.1
theorem dL_law_2086 : decode cL_law 2086 = .ok (.iaload, 1) := dgq (p := 5) daL_law_2081 dbL_law_2081.2.2.2.2.1
theorem dL_law_2087 : decode cL_law 2087 = .ok (.invokevirtual 355, 3) := dgq (p := 6) daL_law_2081 dbL_law_2081.2.2.2.2.2.1
theorem dL_law_2090 : decode cL_law 2090 = .ok (.istore 7, 2) := dgq (p := 9) daL_law_2081 dbL_law_2081.2.2.2.2.2.2.1
theorem dL_law_2092 : decode cL_law 2092 = .ok (.goto 839, 3) := dgq (p := 11) daL_law_2081 dbL_law_2081.2.2.2.2.2.2.2.1
theorem dL_law_2095 : decode cL_law 2095 = .ok (.aload_n 1, 1) := dgq (p := 14) daL_law_2081 dbL_law_2081.2.2.2.2.2.2.2.2.1
theorem dL_law_2096 : decode cL_law 2096 = .ok (.aload_n 0, 1) := dgq (p := 15) daL_law_2081 dbL_law_2081.2.2.2.2.2.2.2.2.2.1
theorem dL_law_2097 : decode cL_law 2097 = .ok (.iload 5, 2) := dgq (p := 16) daL_law_2081 dbL_law_2081.2.2.2.2.2.2.2.2.2.2.1
theorem dL_law_2099 : decode cL_law 2099 = .ok (.iconst 1, 1) := dgq (p := 18) daL_law_2081 dbL_law_2081.2.2.2.2.2.2.2.2.2.2.2.1
theorem dL_law_2100 : decode cL_law 2100 = .ok (.iadd, 1) := dgq (p := 19) daL_law_2081 dbL_law_2081.2.2.2.2.2.2.2.2.2.2.2.2.1
theorem dL_law_2101 : decode cL_law 2101 = .ok (.iaload, 1) := dgq (p := 20) daL_law_2081 dbL_law_2081.2.2.2.2.2.2.2.2.2.2.2.2.2.1
theorem dL_law_2102 : decode cL_law 2102 = .ok (.aload_n 0, 1) := dgq (p := 21) daL_law_2081 dbL_law_2081.2.2.2.2.2.2.2.2.2.2.2.2.2.2.1
theorem dL_law_2103 : decode cL_law 2103 = .ok (.iload 5, 2) := dgq (p := 22) daL_law_2081 dbL_law_2081.2.2.2.2.2.2.2.2.2.2.2.2.2.2.2.1
theorem dL_law_2105 : decode cL_law 2105 = .ok (.iconst 2, 1) := dgq (p := 24) daL_law_2081 dbL_law_2081.2.2.2.2.2.2.2.2.2.2.2.2.2.2.2.2.1
theorem dL_law_2106 : decode cL_law 2106 = .ok (.iadd, 1) := dgq (p := 25) daL_law_2081 dbL_law_2081.2.2.2.2.2.2.2.2.2.2.2.2.2.2.2.2.2.1
theorem dL_law_2107 : decode cL_law 2107 = .ok (.iaload, 1) := dgq (p := 26) daL_law_2081 dbL_law_2081.2.2.2.2.2.2.2.2.2.2.2.2.2.2.2.2.2.2.1
theorem dL_law_2108 : decode cL_law 2108 = .ok (.aload_n 3, 1) := dgq (p := 27) daL_law_2081 dbL_law_2081.2.2.2.2.2.2.2.2.2.2.2.2.2.2.2.2.2.2.2.1
theorem dL_law_2109 : decode cL_law 2109 = .ok (.invokestatic 356, 3) := dgq (p := 28) daL_law_2081 dbL_law_2081.2.2.2.2.2.2.2.2.2.2.2.2.2.2.2.2.2.2.2.2.1
theorem dL_law_2112 : decode cL_law 2112 = .ok (.istore 6, 2) := dgq (p := 31) daL_law_2081 dbL_law_2081.2.2.2.2.2.2.2.2.2.2.2.2.2.2.2.2.2.2.2.2.2.1
theorem dL_law_2114 : decode cL_law 2114 = .ok (.aload_n 2, 1) := dgq (p := 33) daL_law_2081 dbL_law_2081.2.2.2.2.2.2.2.2.2.2.2.2.2.2.2.2.2.2.2.2.2.2.1
theorem dL_law_2115 : decode cL_law 2115 = .ok (.aload_n 0, 1) := dgq (p := 34) daL_law_2081 dbL_law_2081.2.2.2.2.2.2.2.2.2.2.2.2.2.2.2.2.2.2.2.2.2.2.2
def dsL_law_2116 : ByteArray := ⟨#[21, 5, 4, 96, 46, 42, 21, 5, 5, 96, 46, 182, 1, 102, 54, 7, 167, 3, 31, 43, 42, 21, 5, 4, 96, 46, 45, 184, 1, 103, 54, 6, 44, 42, 21, 5]⟩
theorem daL_law_2116 : agB cL_law dsL_law_2116 2116 := agB_of (n := 36) (by decide +kernel)
theorem dbL_law_2116 : (decode dsL_law_2116 0 = .ok (.iload 5, 2) ∧ okop dsL_law_2116 0 = true) ∧ (decode dsL_law_2116 2 = .ok (.iconst 1, 1) ∧ okop dsL_law_2116 2 = true) ∧ (decode dsL_law_2116 3 = .ok (.iadd, 1) ∧ okop dsL_law_2116 3 = true) ∧ (decode dsL_law_2116 4 = .ok (.iaload, 1) ∧ okop dsL_law_2116 4 = true) ∧ (decode dsL_law_2116 5 = .ok (.aload_n 0, 1) ∧ okop dsL_law_2116 5 = true) ∧ (decode dsL_law_2116 6 = .ok (.iload 5, 2) ∧ okop dsL_law_2116 6 = true) ∧ (decode dsL_law_2116 8 = .ok (.iconst 2, 1) ∧ okop dsL_law_2116 8 = true) ∧ (decode dsL_law_2116 9 = .ok (.iadd, 1) ∧ okop dsL_law_2116 9 = true) ∧ (decode dsL_law_2116 10 = .ok (.iaload, 1) ∧ okop dsL_law_2116 10 = true) ∧ (decode dsL_law_2116 11 = .ok (.invokevirtual 358, 3) ∧ okop dsL_law_2116 11 = true) ∧ (decode dsL_law_2116 14 = .ok (.istore 7, 2) ∧ okop dsL_law_2116 14 = true) ∧ (decode dsL_law_2116 16 = .ok (.goto 799, 3) ∧ okop dsL_law_2116 16 = true) ∧ (decode dsL_law_2116 19 = .ok (.aload_n 1, 1) ∧ okop dsL_law_2116 19 = true) ∧ (decode dsL_law_2116 20 = .ok (.aload_n 0, 1) ∧ okop dsL_law_2116 20 = true) ∧ (decode dsL_law_2116 21 = .ok (.iload 5, 2) ∧ okop dsL_law_2116 21 = true) ∧ (decode dsL_law_2116 23 = .ok (.iconst 1, 1) ∧ okop dsL_law_2116 23 = true) ∧ (decode dsL_law_2116 24 = .ok (.iadd, 1) ∧ okop dsL_law_2116 24 = true) ∧ (decode dsL_law_2116 25 = .ok (.iaload, 1) ∧ okop dsL_law_2116 25 = true) ∧ (decode dsL_law_2116 26 = .ok (.aload_n 3, 1) ∧ okop dsL_law_2116 26 = true) ∧ (decode dsL_law_2116 27 = .ok (.invokestatic 359, 3) ∧ okop dsL_law_2116 27 = true) ∧ (decode dsL_law_2116 30 = .ok (.istore 6, 2) ∧ okop dsL_law_2116 30 = true) ∧ (decode dsL_law_2116 32 = .ok (.aload_n 2, 1) ∧ okop dsL_law_2116 32 = true) ∧ (decode dsL_law_2116 33 = .ok (.aload_n 0, 1) ∧ okop dsL_law_2116 33 = true) ∧ (decode dsL_law_2116 34 = .ok (.iload 5, 2) ∧ okop dsL_law_2116 34 = true) := by decide +kernel
theorem dL_law_2116 : decode cL_law 2116 = .ok (.iload 5, 2) := dgq (p := 0) daL_law_2116 dbL_law_2116.1
theorem dL_law_2118 : decode cL_law 2118 = .ok (.iconst 1, 1) := dgq (p := 2) daL_law_2116 dbL_law_2116.2.1
theorem dL_law_2119 : decode cL_law 2119 = .ok (.iadd, 1) := dgq (p := 3) daL_law_2116 dbL_law_2116.2.2.1
theorem dL_law_2120 : decode cL_law 2120 = .ok (.iaload, 1) := dgq (p := 4) daL_law_2116 dbL_law_2116.2.2.2.1
theorem dL_law_2121 : decode cL_law 2121 = .ok (.aload_n 0, 1) := dgq (p := 5) daL_law_2116 dbL_law_2116.2.2.2.2.1
theorem dL_law_2122 : decode cL_law 2122 = .ok (.iload 5, 2) := dgq (p := 6) daL_law_2116 dbL_law_2116.2.2.2.2.2.1
theorem dL_law_2124 : decode cL_law 2124 = .ok (.iconst 2, 1) := dgq (p := 8) daL_law_2116 dbL_law_2116.2.2.2.2.2.2.1
theorem dL_law_2125 : decode cL_law 2125 = .ok (.iadd, 1) := dgq (p := 9) daL_law_2116 dbL_law_2116.2.2.2.2.2.2.2.1
theorem dL_law_2126 : decode cL_law 2126 = .ok (.iaload, 1) := dgq (p := 10) daL_law_2116 dbL_law_2116.2.2.2.2.2.2.2.2.1
theorem dL_law_2127 : decode cL_law 2127 = .ok (.invokevirtual 358, 3) := dgq (p := 11) daL_law_2116 dbL_law_2116.2.2.2.2.2.2.2.2.2.1
theorem dL_law_2130 : decode cL_law 2130 = .ok (.istore 7, 2) := dgq (p := 14) daL_law_2116 dbL_law_2116.2.2.2.2.2.2.2.2.2.2.1
theorem dL_law_2132 : decode cL_law 2132 = .ok (.goto 799, 3) := dgq (p := 16) daL_law_2116 dbL_law_2116.2.2.2.2.2.2.2.2.2.2.2.1
theorem dL_law_2135 : decode cL_law 2135 = .ok (.aload_n 1, 1) := dgq (p := 19) daL_law_2116 dbL_law_2116.2.2.2.2.2.2.2.2.2.2.2.2.1
theorem dL_law_2136 : decode cL_law 2136 = .ok (.aload_n 0, 1) := dgq (p := 20) daL_law_2116 dbL_law_2116.2.2.2.2.2.2.2.2.2.2.2.2.2.1
theorem dL_law_2137 : decode cL_law 2137 = .ok (.iload 5, 2) := dgq (p := 21) daL_law_2116 dbL_law_2116.2.2.2.2.2.2.2.2.2.2.2.2.2.2.1
theorem dL_law_2139 : decode cL_law 2139 = .ok (.iconst 1, 1) := dgq (p := 23) daL_law_2116 dbL_law_2116.2.2.2.2.2.2.2.2.2.2.2.2.2.2.2.1
theorem dL_law_2140 : decode cL_law 2140 = .ok (.iadd, 1) := dgq (p := 24) daL_law_2116 dbL_law_2116.2.2.2.2.2.2.2.2.2.2.2.2.2.2.2.2.1
theorem dL_law_2141 : decode cL_law 2141 = .ok (.iaload, 1) := dgq (p := 25) daL_law_2116 dbL_law_2116.2.2.2.2.2.2.2.2.2.2.2.2.2.2.2.2.2.1
theorem dL_law_2142 : decode cL_law 2142 = .ok (.aload_n 3, 1) := dgq (p := 26) daL_law_2116 dbL_law_2116.2.2.2.2.2.2.2.2.2.2.2.2.2.2.2.2.2.2.1
theorem dL_law_2143 : decode cL_law 2143 = .ok (.invokestatic 359, 3) := dgq (p := 27) daL_law_2116 dbL_law_2116.2.2.2.2.2.2.2.2.2.2.2.2.2.2.2.2.2.2.2.1
theorem dL_law_2146 : decode cL_law 2146 = .ok (.istore 6, 2) := dgq (p := 30) daL_law_2116 dbL_law_2116.2.2.2.2.2.2.2.2.2.2.2.2.2.2.2.2.2.2.2.2.1
theorem dL_law_2148 : decode cL_law 2148 = .ok (.aload_n 2, 1) := dgq (p := 32) daL_law_2116 dbL_law_2116.2.2.2.2.2.2.2.2.2.2.2.2.2.2.2.2.2.2.2.2.2.1
theorem dL_law_2149 : decode cL_law 2149 = .ok (.aload_n 0, 1) := dgq (p := 33) daL_law_2116 dbL_law_2116.2.2.2.2.2.2.2.2.2.2.2.2.2.2.2.2.2.2.2.2.2.2.1
theorem dL_law_2150 : decode cL_law 2150 = .ok (.iload 5, 2) := dgq (p := 34) daL_law_2116 dbL_law_2116.2.2.2.2.2.2.2.2.2.2.2.2.2.2.2.2.2.2.2.2.2.2.2
def dsL_law_2152 : ByteArray := ⟨#[4, 96, 46, 182, 1, 105, 54, 7, 167, 3, 3, 43, 42, 21, 5, 4, 96, 46, 42, 21, 5, 5, 96, 46, 42, 21, 5, 6, 96, 46, 45, 184, 1, 106]⟩
theorem daL_law_2152 : agB cL_law dsL_law_2152 2152 := agB_of (n := 34) (by decide +kernel)
theorem dbL_law_2152 : (decode dsL_law_2152 0 = .ok (.iconst 1, 1) ∧ okop dsL_law_2152 0 = true) ∧ (decode dsL_law_2152 1 = .ok (.iadd, 1) ∧ okop dsL_law_2152 1 = true) ∧ (decode dsL_law_2152 2 = .ok (.iaload, 1) ∧ okop dsL_law_2152 2 = true) ∧ (decode dsL_law_2152 3 = .ok (.invokevirtual 361, 3) ∧ okop dsL_law_2152 3 = true) ∧ (decode dsL_law_2152 6 = .ok (.istore 7, 2) ∧ okop dsL_law_2152 6 = true) ∧ (decode dsL_law_2152 8 = .ok (.goto 771, 3) ∧ okop dsL_law_2152 8 = true) ∧ (decode dsL_law_2152 11 = .ok (.aload_n 1, 1) ∧ okop dsL_law_2152 11 = true) ∧ (decode dsL_law_2152 12 = .ok (.aload_n 0, 1) ∧ okop dsL_law_2152 12 = true) ∧ (decode dsL_law_2152 13 = .ok (.iload 5, 2) ∧ okop dsL_law_2152 13 = true) ∧ (decode dsL_law_2152 15 = .ok (.iconst 1, 1) ∧ okop dsL_law_2152 15 = true) ∧ (decode dsL_law_2152 16 = .ok (.iadd, 1) ∧ okop dsL_law_2152 16 = true) ∧ (decode dsL_law_2152 17 = .ok (.iaload, 1) ∧ okop dsL_law_2152 17 = true) ∧ (decode dsL_law_2152 18 = .ok (.aload_n 0, 1) ∧ okop dsL_law_2152 18 = true) ∧ (decode dsL_law_2152 19 = .ok (.iload 5, 2) ∧ okop dsL_law_2152 19 = true) ∧ (decode dsL_law_2152 21 = .ok (.iconst 2, 1) ∧ okop dsL_law_2152 21 = true) ∧ (decode dsL_law_2152 22 = .ok (.iadd, 1) ∧ okop dsL_law_2152 22 = true) ∧ (decode dsL_law_2152 23 = .ok (.iaload, 1) ∧ okop dsL_law_2152 23 = true) ∧ (decode dsL_law_2152 24 = .ok (.aload_n 0, 1) ∧ okop dsL_law_2152 24 = true) ∧ (decode dsL_law_2152 25 = .ok (.iload 5, 2) ∧ okop dsL_law_2152 25 = true) ∧ (decode dsL_law_2152 27 = .ok (.iconst 3, 1) ∧ okop dsL_law_2152 27 = true) ∧ (decode dsL_law_2152 28 = .ok (.iadd, 1) ∧ okop dsL_law_2152 28 = true) ∧ (decode dsL_law_2152 29 = .ok (.iaload, 1) ∧ okop dsL_law_2152 29 = true) ∧ (decode dsL_law_2152 30 = .ok (.aload_n 3, 1) ∧ okop dsL_law_2152 30 = true) ∧ (decode dsL_law_2152 31 = .ok (.invokestatic 362, 3) ∧ okop dsL_law_2152 31 = true) := by decide +kernel
theorem dL_law_2152 : decode cL_law 2152 = .ok (.iconst 1, 1) := dgq (p := 0) daL_law_2152 dbL_law_2152.1
theorem dL_law_2153 : decode cL_law 2153 = .ok (.iadd, 1) := dgq (p := 1) daL_law_2152 dbL_law_2152.2.1
theorem dL_law_2154 : decode cL_law 2154 = .ok (.iaload, 1) := dgq (p := 2) daL_law_2152 dbL_law_2152.2.2.1
theorem dL_law_2155 : decode cL_law 2155 = .ok (.invokevirtual 361, 3) := dgq (p := 3) daL_law_2152 dbL_law_2152.2.2.2.1
theorem dL_law_2158 : decode cL_law 2158 = .ok (.istore 7, 2) := dgq (p := 6) daL_law_2152 dbL_law_2152.2.2.2.2.1
theorem dL_law_2160 : decode cL_law 2160 = .ok (.goto 771, 3) := dgq (p := 8) daL_law_2152 dbL_law_2152.2.2.2.2.2.1
theorem dL_law_2163 : decode cL_law 2163 = .ok (.aload_n 1, 1) := dgq (p := 11) daL_law_2152 dbL_law_2152.2.2.2.2.2.2.1
theorem dL_law_2164 : decode cL_law 2164 = .ok (.aload_n 0, 1) := dgq (p := 12) daL_law_2152 dbL_law_2152.2.2.2.2.2.2.2.1
theorem dL_law_2165 : decode cL_law 2165 = .ok (.iload 5, 2) := dgq (p := 13) daL_law_2152 dbL_law_2152.2.2.2.2.2.2.2.2.1
theorem dL_law_2167 : decode cL_law 2167 = .ok (.iconst 1, 1) := dgq (p := 15) daL_law_2152 dbL_law_2152.2.2.2.2.2.2.2.2.2.1
theorem dL_law_2168 : decode cL_law 2168 = .ok (.iadd, 1) := dgq (p := 16) daL_law_2152 dbL_law_2152.2.2.2.2.2.2.2.2.2.2.1
theorem dL_law_2169 : decode cL_law 2169 = .ok (.iaload, 1) := dgq (p := 17) daL_law_2152 dbL_law_2152.2.2.2.2.2.2.2.2.2.2.2.1
theorem dL_law_2170 : decode cL_law 2170 = .ok (.aload_n 0, 1) := dgq (p := 18) daL_law_2152 dbL_law_2152.2.2.2.2.2.2.2.2.2.2.2.2.1
theorem dL_law_2171 : decode cL_law 2171 = .ok (.iload 5, 2) := dgq (p := 19) daL_law_2152 dbL_law_2152.2.2.2.2.2.2.2.2.2.2.2.2.2.1
theorem dL_law_2173 : decode cL_law 2173 = .ok (.iconst 2, 1) := dgq (p := 21) daL_law_2152 dbL_law_2152.2.2.2.2.2.2.2.2.2.2.2.2.2.2.1
theorem dL_law_2174 : decode cL_law 2174 = .ok (.iadd, 1) := dgq (p := 22) daL_law_2152 dbL_law_2152.2.2.2.2.2.2.2.2.2.2.2.2.2.2.2.1
theorem dL_law_2175 : decode cL_law 2175 = .ok (.iaload, 1) := dgq (p := 23) daL_law_2152 dbL_law_2152.2.2.2.2.2.2.2.2.2.2.2.2.2.2.2.2.1
theorem dL_law_2176 : decode cL_law 2176 = .ok (.aload_n 0, 1) := dgq (p := 24) daL_law_2152 dbL_law_2152.2.2.2.2.2.2.2.2.2.2.2.2.2.2.2.2.2.1
theorem dL_law_2177 : decode cL_law 2177 = .ok (.iload 5, 2) := dgq (p := 25) daL_law_2152 dbL_law_2152.2.2.2.2.2.2.2.2.2.2.2.2.2.2.2.2.2.2.1
theorem dL_law_2179 : decode cL_law 2179 = .ok (.iconst 3, 1) := dgq (p := 27) daL_law_2152 dbL_law_2152.2.2.2.2.2.2.2.2.2.2.2.2.2.2.2.2.2.2.2.1
theorem dL_law_2180 : decode cL_law 2180 = .ok (.iadd, 1) := dgq (p := 28) daL_law_2152 dbL_law_2152.2.2.2.2.2.2.2.2.2.2.2.2.2.2.2.2.2.2.2.2.1
theorem dL_law_2181 : decode cL_law 2181 = .ok (.iaload, 1) := dgq (p := 29) daL_law_2152 dbL_law_2152.2.2.2.2.2.2.2.2.2.2.2.2.2.2.2.2.2.2.2.2.2.1
theorem dL_law_2182 : decode cL_law 2182 = .ok (.aload_n 3, 1) := dgq (p := 30) daL_law_2152 dbL_law_2152.2.2.2.2.2.2.2.2.2.2.2.2.2.2.2.2.2.2.2.2.2.2.1
theorem dL_law_2183 : decode cL_law 2183 = .ok (.invokestatic 362, 3) := dgq (p := 31) daL_law_2152 dbL_law_2152.2.2.2.2.2.2.2.2.2.2.2.2.2.2.2.2.2.2.2.2.2.2.2
def dsL_law_2186 : ByteArray := ⟨#[54, 6, 44, 42, 21, 5, 4, 96, 46, 42, 21, 5, 5, 96, 46, 42, 21, 5, 6, 96, 46, 182, 1, 108, 54, 7, 167, 2, 207, 43, 42, 21, 5, 4]⟩
theorem daL_law_2186 : agB cL_law dsL_law_2186 2186 := agB_of (n := 34) (by decide +kernel)
theorem dbL_law_2186 : (decode dsL_law_2186 0 = .ok (.istore 6, 2) ∧ okop dsL_law_2186 0 = true) ∧ (decode dsL_law_2186 2 = .ok (.aload_n 2, 1) ∧ okop dsL_law_2186 2 = true) ∧ (decode dsL_law_2186 3 = .ok (.aload_n 0, 1) ∧ okop dsL_law_2186 3 = true) ∧ (decode dsL_law_2186 4 = .ok (.iload 5, 2) ∧ okop dsL_law_2186 4 = true) ∧ (decode dsL_law_2186 6 = .ok (.iconst 1, 1) ∧ okop dsL_law_2186 6 = true) ∧ (decode dsL_law_2186 7 = .ok (.iadd, 1) ∧ okop dsL_law_2186 7 = true) ∧ (decode dsL_law_2186 8 = .ok (.iaload, 1) ∧ okop dsL_law_2186 8 = true) ∧ (decode dsL_law_2186 9 = .ok (.aload_n 0, 1) ∧ okop dsL_law_2186 9 = true) ∧ (decode dsL_law_2186 10 = .ok (.iload 5, 2) ∧ okop dsL_law_2186 10 = true) ∧ (decode dsL_law_2186 12 = .ok (.iconst 2, 1) ∧ okop dsL_law_2186 12 = true) ∧ (decode dsL_law_2186 13 = .ok (.iadd, 1) ∧ okop dsL_law_2186 13 = true) ∧ (decode dsL_law_2186 14 = .ok (.iaload, 1) ∧ okop dsL_law_2186 14 = true) ∧ (decode dsL_law_2186 15 = .ok (.aload_n 0, 1) ∧ okop dsL_law_2186 15 = true) ∧ (decode dsL_law_2186 16 = .ok (.iload 5, 2) ∧ okop dsL_law_2186 16 = true) ∧ (decode dsL_law_2186 18 = .ok (.iconst 3, 1) ∧ okop dsL_law_2186 18 = true) ∧ (decode dsL_law_2186 19 = .ok (.iadd, 1) ∧ okop dsL_law_2186 19 = true) ∧ (decode dsL_law_2186 20 = .ok (.iaload, 1) ∧ okop dsL_law_2186 20 = true) ∧ (decode dsL_law_2186 21 = .ok (.invokevirtual 364, 3) ∧ okop dsL_law_2186 21 = true) ∧ (decode dsL_law_2186 24 = .ok (.istore 7, 2) ∧ okop dsL_law_2186 24 = true) ∧ (decode dsL_law_2186 26 = .ok (.goto 719, 3) ∧ okop dsL_law_2186 26 = true) ∧ (decode dsL_law_2186 29 = .ok (.aload_n 1, 1) ∧ okop dsL_law_2186 29 = true) ∧ (decode dsL_law_2186 30 = .ok (.aload_n 0, 1) ∧ okop dsL_law_2186 30 = true) ∧ (decode dsL_law_2186 31 = .ok (.iload 5, 2) ∧ okop dsL_law_2186 31 = true) ∧ (decode dsL_law_2186 33 = .ok (.iconst 1, 1) ∧ okop dsL_law_2186 33 = true) := by decide +kernel
theorem dL_law_2186 : decode cL_law 2186 = .ok (.istore 6, 2) := dgq (p := 0) daL_law_2186 dbL_law_2186.1
theorem dL_law_2188 : decode cL_law 2188 = .ok (.aload_n 2, 1) := dgq (p := 2) daL_law_2186 dbL_law_2186.2.1
theorem dL_law_2189 : decode cL_law 2189 = .ok (.aload_n 0, 1) := dgq (p := 3) daL_law_2186 dbL_law_2186.2.2.1
theorem dL_law_2190 : decode cL_law 2190 = .ok (.iload 5, 2) := dgq (p := 4) daL_law_2186 dbL_law_2186.2.2.2.1
theorem dL_law_2192 : decode cL_law 2192 = .ok (.iconst 1, 1) := dgq (p := 6) daL_law_2186 dbL_law_2186.2.2.2.2.1
theorem dL_law_2193 : decode cL_law 2193 = .ok (.iadd, 1) := dgq (p := 7) daL_law_2186 dbL_law_2186.2.2.2.2.2.1
theorem dL_law_2194 : decode cL_law 2194 = .ok (.iaload, 1) := dgq (p := 8) daL_law_2186 dbL_law_2186.2.2.2.2.2.2.1
theorem dL_law_2195 : decode cL_law 2195 = .ok (.aload_n 0, 1) := dgq (p := 9) daL_law_2186 dbL_law_2186.2.2.2.2.2.2.2.1
theorem dL_law_2196 : decode cL_law 2196 = .ok (.iload 5, 2) := dgq (p := 10) daL_law_2186 dbL_law_2186.2.2.2.2.2.2.2.2.1
theorem dL_law_2198 : decode cL_law 2198 = .ok (.iconst 2, 1) := dgq (p := 12) daL_law_2186 dbL_law_2186.2.2.2.2.2.2.2.2.2.1
theorem dL_law_2199 : decode cL_law 2199 = .ok (.iadd, 1) := dgq (p := 13) daL_law_2186 dbL_law_2186.2.2.2.2.2.2.2.2.2.2.1
theorem dL_law_2200 : decode cL_law 2200 = .ok (.iaload, 1) := dgq (p := 14) daL_law_2186 dbL_law_2186.2.2.2.2.2.2.2.2.2.2.2.1
theorem dL_law_2201 : decode cL_law 2201 = .ok (.aload_n 0, 1) := dgq (p := 15) daL_law_2186 dbL_law_2186.2.2.2.2.2.2.2.2.2.2.2.2.1
theorem dL_law_2202 : decode cL_law 2202 = .ok (.iload 5, 2) := dgq (p := 16) daL_law_2186 dbL_law_2186.2.2.2.2.2.2.2.2.2.2.2.2.2.1
theorem dL_law_2204 : decode cL_law 2204 = .ok (.iconst 3, 1) := dgq (p := 18) daL_law_2186 dbL_law_2186.2.2.2.2.2.2.2.2.2.2.2.2.2.2.1
theorem dL_law_2205 : decode cL_law 2205 = .ok (.iadd, 1) := dgq (p := 19) daL_law_2186 dbL_law_2186.2.2.2.2.2.2.2.2.2.2.2.2.2.2.2.1
theorem dL_law_2206 : decode cL_law 2206 = .ok (.iaload, 1) := dgq (p := 20) daL_law_2186 dbL_law_2186.2.2.2.2.2.2.2.2.2.2.2.2.2.2.2.2.1
theorem dL_law_2207 : decode cL_law 2207 = .ok (.invokevirtual 364, 3) := dgq (p := 21) daL_law_2186 dbL_law_2186.2.2.2.2.2.2.2.2.2.2.2.2.2.2.2.2.2.1
theorem dL_law_2210 : decode cL_law 2210 = .ok (.istore 7, 2) := dgq (p := 24) daL_law_2186 dbL_law_2186.2.2.2.2.2.2.2.2.2.2.2.2.2.2.2.2.2.2.1
theorem dL_law_2212 : decode cL_law 2212 = .ok (.goto 719, 3) := dgq (p := 26) daL_law_2186 dbL_law_2186.2.2.2.2.2.2.2.2.2.2.2.2.2.2.2.2.2.2.2.1
theorem dL_law_2215 : decode cL_law 2215 = .ok (.aload_n 1, 1) := dgq (p := 29) daL_law_2186 dbL_law_2186.2.2.2.2.2.2.2.2.2.2.2.2.2.2.2.2.2.2.2.2.1
theorem dL_law_2216 : decode cL_law 2216 = .ok (.aload_n 0, 1) := dgq (p := 30) daL_law_2186 dbL_law_2186.2.2.2.2.2.2.2.2.2.2.2.2.2.2.2.2.2.2.2.2.2.1
theorem dL_law_2217 : decode cL_law 2217 = .ok (.iload 5, 2) := dgq (p := 31) daL_law_2186 dbL_law_2186.2.2.2.2.2.2.2.2.2.2.2.2.2.2.2.2.2.2.2.2.2.2.1
theorem dL_law_2219 : decode cL_law 2219 = .ok (.iconst 1, 1) := dgq (p := 33) daL_law_2186 dbL_law_2186.2.2.2.2.2.2.2.2.2.2.2.2.2.2.2.2.2.2.2.2.2.2.2
def dsL_law_2220 : ByteArray := ⟨#[96, 46, 42, 21, 5, 5, 96, 46, 45, 184, 1, 109, 54, 6, 44, 42, 21, 5, 4, 96, 46, 42, 21, 5, 5, 96, 46, 182, 1, 111, 54, 7, 167, 2, 167]⟩
theorem daL_law_2220 : agB cL_law dsL_law_2220 2220 := agB_of (n := 35) (by decide +kernel)
theorem dbL_law_2220 : (decode dsL_law_2220 0 = .ok (.iadd, 1) ∧ okop dsL_law_2220 0 = true) ∧ (decode dsL_law_2220 1 = .ok (.iaload, 1) ∧ okop dsL_law_2220 1 = true) ∧ (decode dsL_law_2220 2 = .ok (.aload_n 0, 1) ∧ okop dsL_law_2220 2 = true) ∧ (decode dsL_law_2220 3 = .ok (.iload 5, 2) ∧ okop dsL_law_2220 3 = true) ∧ (decode dsL_law_2220 5 = .ok (.iconst 2, 1) ∧ okop dsL_law_2220 5 = true) ∧ (decode dsL_law_2220 6 = .ok (.iadd, 1) ∧ okop dsL_law_2220 6 = true) ∧ (decode dsL_law_2220 7 = .ok (.iaload, 1) ∧ okop dsL_law_2220 7 = true) ∧ (decode dsL_law_2220 8 = .ok (.aload_n 3, 1) ∧ okop dsL_law_2220 8 = true) ∧ (decode dsL_law_2220 9 = .ok (.invokestatic 365, 3) ∧ okop dsL_law_2220 9 = true) ∧ (decode dsL_law_2220 12 = .ok (.istore 6, 2) ∧ okop dsL_law_2220 12 = true) ∧ (decode dsL_law_2220 14 = .ok (.aload_n 2, 1) ∧ okop dsL_law_2220 14 = true) ∧ (decode dsL_law_2220 15 = .ok (.aload_n 0, 1) ∧ okop dsL_law_2220 15 = true) ∧ (decode dsL_law_2220 16 = .ok (.iload 5, 2) ∧ okop dsL_law_2220 16 = true) ∧ (decode dsL_law_2220 18 = .ok (.iconst 1, 1) ∧ okop dsL_law_2220 18 = true) ∧ (decode dsL_law_2220 19 = .ok (.iadd, 1) ∧ okop dsL_law_2220 19 = true) ∧ (decode dsL_law_2220 20 = .ok (.iaload, 1) ∧ okop dsL_law_2220 20 = true) ∧ (decode dsL_law_2220 21 = .ok (.aload_n 0, 1) ∧ okop dsL_law_2220 21 = true) ∧ (decode dsL_law_2220 22 = .ok (.iload 5, 2) ∧ okop dsL_law_2220 22 = true) ∧ (decode dsL_law_2220 24 = .ok (.iconst 2, 1) ∧ okop dsL_law_2220 24 = true) ∧ (decode dsL_law_2220 25 = .ok (.iadd, 1) ∧ okop dsL_law_2220 25 = true) ∧ (decode dsL_law_2220 26 = .ok (.iaload, 1) ∧ okop dsL_law_2220 26 = true) ∧ (decode dsL_law_2220 27 = .ok (.invokevirtual 367, 3) ∧ okop dsL_law_2220 27 = true) ∧ (decode dsL_law_2220 30 = .ok (.istore 7, 2) ∧ okop dsL_law_2220 30 = true) ∧ (decode dsL_law_2220 32 = .ok (.goto 679, 3) ∧ okop dsL_law_2220 32 = true) := by decide +kernel
theorem dL_law_2220 : decode cL_law 2220 = .ok (.iadd, 1) := dgq (p := 0) daL_law_2220 dbL_law_2220.1
theorem dL_law_2221 : decode cL_law 2221 = .ok (.iaload, 1) := dgq (p := 1) daL_law_2220 dbL_law_2220.2.1
theorem dL_law_2222 : decode cL_law 2222 = .ok (.aload_n 0, 1) := dgq (p := 2) daL_law_2220 dbL_law_2220.2.2.1
theorem dL_law_2223 : decode cL_law 2223 = .ok (.iload 5, 2) := dgq (p := 3) daL_law_2220 dbL_law_2220.2.2.2.1
theorem dL_law_2225 : decode cL_law 2225 = .ok (.iconst 2, 1) := dgq (p := 5) daL_law_2220 dbL_law_2220.2.2.2.2.1
theorem dL_law_2226 : decode cL_law 2226 = .ok (.iadd, 1) := dgq (p := 6) daL_law_2220 dbL_law_2220.2.2.2.2.2.1
theorem dL_law_2227 : decode cL_law 2227 = .ok (.iaload, 1) := dgq (p := 7) daL_law_2220 dbL_law_2220.2.2.2.2.2.2.1
theorem dL_law_2228 : decode cL_law 2228 = .ok (.aload_n 3, 1) := dgq (p := 8) daL_law_2220 dbL_law_2220.2.2.2.2.2.2.2.1
theorem dL_law_2229 : decode cL_law 2229 = .ok (.invokestatic 365, 3) := dgq (p := 9) daL_law_2220 dbL_law_2220.2.2.2.2.2.2.2.2.1
theorem dL_law_2232 : decode cL_law 2232 = .ok (.istore 6, 2) := dgq (p := 12) daL_law_2220 dbL_law_2220.2.2.2.2.2.2.2.2.2.1
theorem dL_law_2234 : decode cL_law 2234 = .ok (.aload_n 2, 1) := dgq (p := 14) daL_law_2220 dbL_law_2220.2.2.2.2.2.2.2.2.2.2.1
theorem dL_law_2235 : decode cL_law 2235 = .ok (.aload_n 0, 1) := dgq (p := 15) daL_law_2220 dbL_law_2220.2.2.2.2.2.2.2.2.2.2.2.1
theorem dL_law_2236 : decode cL_law 2236 = .ok (.iload 5, 2) := dgq (p := 16) daL_law_2220 dbL_law_2220.2.2.2.2.2.2.2.2.2.2.2.2.1
theorem dL_law_2238 : decode cL_law 2238 = .ok (.iconst 1, 1) := dgq (p := 18) daL_law_2220 dbL_law_2220.2.2.2.2.2.2.2.2.2.2.2.2.2.1
theorem dL_law_2239 : decode cL_law 2239 = .ok (.iadd, 1) := dgq (p := 19) daL_law_2220 dbL_law_2220.2.2.2.2.2.2.2.2.2.2.2.2.2.2.1
theorem dL_law_2240 : decode cL_law 2240 = .ok (.iaload, 1) := dgq (p := 20) daL_law_2220 dbL_law_2220.2.2.2.2.2.2.2.2.2.2.2.2.2.2.2.1
theorem dL_law_2241 : decode cL_law 2241 = .ok (.aload_n 0, 1) := dgq (p := 21) daL_law_2220 dbL_law_2220.2.2.2.2.2.2.2.2.2.2.2.2.2.2.2.2.1
theorem dL_law_2242 : decode cL_law 2242 = .ok (.iload 5, 2) := dgq (p := 22) daL_law_2220 dbL_law_2220.2.2.2.2.2.2.2.2.2.2.2.2.2.2.2.2.2.1
theorem dL_law_2244 : decode cL_law 2244 = .ok (.iconst 2, 1) := dgq (p := 24) daL_law_2220 dbL_law_2220.2.2.2.2.2.2.2.2.2.2.2.2.2.2.2.2.2.2.1
theorem dL_law_2245 : decode cL_law 2245 = .ok (.iadd, 1) := dgq (p := 25) daL_law_2220 dbL_law_2220.2.2.2.2.2.2.2.2.2.2.2.2.2.2.2.2.2.2.2.1
theorem dL_law_2246 : decode cL_law 2246 = .ok (.iaload, 1) := dgq (p := 26) daL_law_2220 dbL_law_2220.2.2.2.2.2.2.2.2.2.2.2.2.2.2.2.2.2.2.2.2.1
theorem dL_law_2247 : decode cL_law 2247 = .ok (.invokevirtual 367, 3) := dgq (p := 27) daL_law_2220 dbL_law_2220.2.2.2.2.2.2.2.2.2.2.2.2.2.2.2.2.2.2.2.2.2.1
theorem dL_law_2250 : decode cL_law 2250 = .ok (.istore 7, 2) := dgq (p := 30) daL_law_2220 dbL_law_2220.2.2.2.2.2.2.2.2.2.2.2.2.2.2.2.2.2.2.2.2.2.2.1
theorem dL_law_2252 : decode cL_law 2252 = .ok (.goto 679, 3) := dgq (p := 32) daL_law_2220 dbL_law_2220.2.2.2.2.2.2.2.2.2.2.2.2.2.2.2.2.2.2.2.2.2.2.2
def dsL_law_2255 : ByteArray := ⟨#[43, 42, 21, 5, 4, 96, 46, 42, 21, 5, 5, 96, 46, 42, 21, 5, 6, 96, 46, 45, 184, 1, 112, 54, 6, 44, 42, 21, 5, 4, 96]⟩
theorem daL_law_2255 : agB cL_law dsL_law_2255 2255 := agB_of (n := 31) (by decide +kernel)
theorem dbL_law_2255 : (decode dsL_law_2255 0 = .ok (.aload_n 1, 1) ∧ okop dsL_law_2255 0 = true) ∧ (decode dsL_law_2255 1 = .ok (.aload_n 0, 1) ∧ okop dsL_law_2255 1 = true) ∧ (decode dsL_law_2255 2 = .ok (.iload 5, 2) ∧ okop dsL_law_2255 2 = true) ∧ (decode dsL_law_2255 4 = .ok (.iconst 1, 1) ∧ okop dsL_law_2255 4 = true) ∧ (decode dsL_law_2255 5 = .ok (.iadd, 1) ∧ okop dsL_law_2255 5 = true) ∧ (decode dsL_law_2255 6 = .ok (.iaload, 1) ∧ okop dsL_law_2255 6 = true) ∧ (decode dsL_law_2255 7 = .ok (.aload_n 0, 1) ∧ okop dsL_law_2255 7 = true) ∧ (decode dsL_law_2255 8 = .ok (.iload 5, 2) ∧ okop dsL_law_2255 8 = true) ∧ (decode dsL_law_2255 10 = .ok (.iconst 2, 1) ∧ okop dsL_law_2255 10 = true) ∧ (decode dsL_law_2255 11 = .ok (.iadd, 1) ∧ okop dsL_law_2255 11 = true) ∧ (decode dsL_law_2255 12 = .ok (.iaload, 1) ∧ okop dsL_law_2255 12 = true) ∧ (decode dsL_law_2255 13 = .ok (.aload_n 0, 1) ∧ okop dsL_law_2255 13 = true) ∧ (decode dsL_law_2255 14 = .ok (.iload 5, 2) ∧ okop dsL_law_2255 14 = true) ∧ (decode dsL_law_2255 16 = .ok (.iconst 3, 1) ∧ okop dsL_law_2255 16 = true) ∧ (decode dsL_law_2255 17 = .ok (.iadd, 1) ∧ okop dsL_law_2255 17 = true) ∧ (decode dsL_law_2255 18 = .ok (.iaload, 1) ∧ okop dsL_law_2255 18 = true) ∧ (decode dsL_law_2255 19 = .ok (.aload_n 3, 1) ∧ okop dsL_law_2255 19 = true) ∧ (decode dsL_law_2255 20 = .ok (.invokestatic 368, 3) ∧ okop dsL_law_2255 20 = true) ∧ (decode dsL_law_2255 23 = .ok (.istore 6, 2) ∧ okop dsL_law_2255 23 = true) ∧ (decode dsL_law_2255 25 = .ok (.aload_n 2, 1) ∧ okop dsL_law_2255 25 = true) ∧ (decode dsL_law_2255 26 = .ok (.aload_n 0, 1) ∧ okop dsL_law_2255 26 = true) ∧ (decode dsL_law_2255 27 = .ok (.iload 5, 2) ∧ okop dsL_law_2255 27 = true) ∧ (decode dsL_law_2255 29 = .ok (.iconst 1, 1) ∧ okop dsL_law_2255 29 = true) ∧ (decode dsL_law_2255 30 = .ok (.iadd, 1) ∧ okop dsL_law_2255 30 = true) := by decide +kernel
theorem dL_law_2255 : decode cL_law 2255 = .ok (.aload_n 1, 1) := dgq (p := 0) daL_law_2255 dbL_law_2255.1
theorem dL_law_2256 : decode cL_law 2256 = .ok (.aload_n 0, 1) := dgq (p := 1) daL_law_2255 dbL_law_2255.2.1
theorem dL_law_2257 : decode cL_law 2257 = .ok (.iload 5, 2) := dgq (p := 2) daL_law_2255 dbL_law_2255.2.2.1
theorem dL_law_2259 : decode cL_law 2259 = .ok (.iconst 1, 1) := dgq (p := 4) daL_law_2255 dbL_law_2255.2.2.2.1
theorem dL_law_2260 : decode cL_law 2260 = .ok (.iadd, 1) := dgq (p := 5) daL_law_2255 dbL_law_2255.2.2.2.2.1
theorem dL_law_2261 : decode cL_law 2261 = .ok (.iaload, 1) := dgq (p := 6) daL_law_2255 dbL_law_2255.2.2.2.2.2.1
theorem dL_law_2262 : decode cL_law 2262 = .ok (.aload_n 0, 1) := dgq (p := 7) daL_law_2255 dbL_law_2255.2.2.2.2.2.2.1
theorem dL_law_2263 : decode cL_law 2263 = .ok (.iload 5, 2) := dgq (p := 8) daL_law_2255 dbL_law_2255.2.2.2.2.2.2.2.1
theorem dL_law_2265 : decode cL_law 2265 = .ok (.iconst 2, 1) := dgq (p := 10) daL_law_2255 dbL_law_2255.2.2.2.2.2.2.2.2.1
theorem dL_law_2266 : decode cL_law 2266 = .ok (.iadd, 1) := dgq (p := 11) daL_law_2255 dbL_law_2255.2.2.2.2.2.2.2.2.2.1
theorem dL_law_2267 : decode cL_law 2267 = .ok (.iaload, 1) := dgq (p := 12) daL_law_2255 dbL_law_2255.2.2.2.2.2.2.2.2.2.2.1
theorem dL_law_2268 : decode cL_law 2268 = .ok (.aload_n 0, 1) := dgq (p := 13) daL_law_2255 dbL_law_2255.2.2.2.2.2.2.2.2.2.2.2.1
theorem dL_law_2269 : decode cL_law 2269 = .ok (.iload 5, 2) := dgq (p := 14) daL_law_2255 dbL_law_2255.2.2.2.2.2.2.2.2.2.2.2.2.1
theorem dL_law_2271 : decode cL_law 2271 = .ok (.iconst 3, 1) := dgq (p := 16) daL_law_2255 dbL_law_2255.2.2.2.2.2.2.2.2.2.2.2.2.2.1
theorem dL_law_2272 : decode cL_law 2272 = .ok (.iadd, 1) := dgq (p := 17) daL_law_2255 dbL_law_2255.2.2.2.2.2.2.2.2.2.2.2.2.2.2.1
theorem dL_law_2273 : decode cL_law 2273 = .ok (.iaload, 1) := dgq (p := 18) daL_law_2255 dbL_law_2255.2.2.2.2.2.2.2.2.2.2.2.2.2.2.2.1
theorem dL_law_2274 : decode cL_law 2274 = .ok (.aload_n 3, 1) := dgq (p := 19) daL_law_2255 dbL_law_2255.2.2.2.2.2.2.2.2.2.2.2.2.2.2.2.2.1
theorem dL_law_2275 : decode cL_law 2275 = .ok (.invokestatic 368, 3) := dgq (p := 20) daL_law_2255 dbL_law_2255.2.2.2.2.2.2.2.2.2.2.2.2.2.2.2.2.2.1
theorem dL_law_2278 : decode cL_law 2278 = .ok (.istore 6, 2) := dgq (p := 23) daL_law_2255 dbL_law_2255.2.2.2.2.2.2.2.2.2.2.2.2.2.2.2.2.2.2.1
theorem dL_law_2280 : decode cL_law 2280 = .ok (.aload_n 2, 1) := dgq (p := 25) daL_law_2255 dbL_law_2255.2.2.2.2.2.2.2.2.2.2.2.2.2.2.2.2.2.2.2.1
theorem dL_law_2281 : decode cL_law 2281 = .ok (.aload_n 0, 1) := dgq (p := 26) daL_law_2255 dbL_law_2255.2.2.2.2.2.2.2.2.2.2.2.2.2.2.2.2.2.2.2.2.1
theorem dL_law_2282 : decode cL_law 2282 = .ok (.iload 5, 2) := dgq (p := 27) daL_law_2255 dbL_law_2255.2.2.2.2.2.2.2.2.2.2.2.2.2.2.2.2.2.2.2.2.2.1
theorem dL_law_2284 : decode cL_law 2284 = .ok (.iconst 1, 1) := dgq (p := 29) daL_law_2255 dbL_law_2255.2.2.2.2.2.2.2.2.2.2.2.2.2.2.2.2.2.2.2.2.2.2.1
theorem dL_law_2285 : decode cL_law 2285 = .ok (.iadd, 1) := dgq (p := 30) daL_law_2255 dbL_law_2255.2.2.2.2.2.2.2.2.2.2.2.2.2.2.2.2.2.2.2.2.2.2.2
def dsL_law_2286 : ByteArray := ⟨#[46, 42, 21, 5, 5, 96, 46, 42, 21, 5, 6, 96, 46, 182, 1, 114, 54, 7, 167, 2, 115, 43, 42, 21, 5, 4, 96, 46, 42, 21, 5, 5, 96]⟩
theorem daL_law_2286 : agB cL_law dsL_law_2286 2286 := agB_of (n := 33) (by decide +kernel)
theorem dbL_law_2286 : (decode dsL_law_2286 0 = .ok (.iaload, 1) ∧ okop dsL_law_2286 0 = true) ∧ (decode dsL_law_2286 1 = .ok (.aload_n 0, 1) ∧ okop dsL_law_2286 1 = true) ∧ (decode dsL_law_2286 2 = .ok (.iload 5, 2) ∧ okop dsL_law_2286 2 = true) ∧ (decode dsL_law_2286 4 = .ok (.iconst 2, 1) ∧ okop dsL_law_2286 4 = true) ∧ (decode dsL_law_2286 5 = .ok (.iadd, 1) ∧ okop dsL_law_2286 5 = true) ∧ (decode dsL_law_2286 6 = .ok (.iaload, 1) ∧ okop dsL_law_2286 6 = true) ∧ (decode dsL_law_2286 7 = .ok (.aload_n 0, 1) ∧ okop dsL_law_2286 7 = true) ∧ (decode dsL_law_2286 8 = .ok (.iload 5, 2) ∧ okop dsL_law_2286 8 = true) ∧ (decode dsL_law_2286 10 = .ok (.iconst 3, 1) ∧ okop dsL_law_2286 10 = true) ∧ (decode dsL_law_2286 11 = .ok (.iadd, 1) ∧ okop dsL_law_2286 11 = true) ∧ (decode dsL_law_2286 12 = .ok (.iaload, 1) ∧ okop dsL_law_2286 12 = true) ∧ (decode dsL_law_2286 13 = .ok (.invokevirtual 370, 3) ∧ okop dsL_law_2286 13 = true) ∧ (decode dsL_law_2286 16 = .ok (.istore 7, 2) ∧ okop dsL_law_2286 16 = true) ∧ (decode dsL_law_2286 18 = .ok (.goto 627, 3) ∧ okop dsL_law_2286 18 = true) ∧ (decode dsL_law_2286 21 = .ok (.aload_n 1, 1) ∧ okop dsL_law_2286 21 = true) ∧ (decode dsL_law_2286 22 = .ok (.aload_n 0, 1) ∧ okop dsL_law_2286 22 = true) ∧ (decode dsL_law_2286 23 = .ok (.iload 5, 2) ∧ okop dsL_law_2286 23 = true) ∧ (decode dsL_law_2286 25 = .ok (.iconst 1, 1) ∧ okop dsL_law_2286 25 = true) ∧ (decode dsL_law_2286 26 = .ok (.iadd, 1) ∧ okop dsL_law_2286 26 = true) ∧ (decode dsL_law_2286 27 = .ok (.iaload, 1) ∧ okop dsL_law_2286 27 = true) ∧ (decode dsL_law_2286 28 = .ok (.aload_n 0, 1) ∧ okop dsL_law_2286 28 = true) ∧ (decode dsL_law_2286 29 = .ok (.iload 5, 2) ∧ okop dsL_law_2286 29 = true) ∧ (decode dsL_law_2286 31 = .ok (.iconst 2, 1) ∧ okop dsL_law_2286 31 = true) ∧ (decode dsL_law_2286 32 = .ok (.iadd, 1) ∧ okop dsL_law_2286 32 = true) := by decide +kernel
theorem dL_law_2286 : decode cL_law 2286 = .ok (.iaload, 1) := dgq (p := 0) daL_law_2286 dbL_law_2286.1
theorem dL_law_2287 : decode cL_law 2287 = .ok (.aload_n 0, 1) := dgq (p := 1) daL_law_2286 dbL_law_2286.2.1
theorem dL_law_2288 : decode cL_law 2288 = .ok (.iload 5, 2) := dgq (p := 2) daL_law_2286 dbL_law_2286.2.2.1
theorem dL_law_2290 : decode cL_law 2290 = .ok (.iconst 2, 1) := dgq (p := 4) daL_law_2286 dbL_law_2286.2.2.2.1
theorem dL_law_2291 : decode cL_law 2291 = .ok (.iadd, 1) := dgq (p := 5) daL_law_2286 dbL_law_2286.2.2.2.2.1
theorem dL_law_2292 : decode cL_law 2292 = .ok (.iaload, 1) := dgq (p := 6) daL_law_2286 dbL_law_2286.2.2.2.2.2.1
theorem dL_law_2293 : decode cL_law 2293 = .ok (.aload_n 0, 1) := dgq (p := 7) daL_law_2286 dbL_law_2286.2.2.2.2.2.2.1
theorem dL_law_2294 : decode cL_law 2294 = .ok (.iload 5, 2) := dgq (p := 8) daL_law_2286 dbL_law_2286.2.2.2.2.2.2.2.1
theorem dL_law_2296 : decode cL_law 2296 = .ok (.iconst 3, 1) := dgq (p := 10) daL_law_2286 dbL_law_2286.2.2.2.2.2.2.2.2.1
theorem dL_law_2297 : decode cL_law 2297 = .ok (.iadd, 1) := dgq (p := 11) daL_law_2286 dbL_law_2286.2.2.2.2.2.2.2.2.2.1
theorem dL_law_2298 : decode cL_law 2298 = .ok (.iaload, 1) := dgq (p := 12) daL_law_2286 dbL_law_2286.2.2.2.2.2.2.2.2.2.2.1
theorem dL_law_2299 : decode cL_law 2299 = .ok (.invokevirtual 370, 3) := dgq (p := 13) daL_law_2286 dbL_law_2286.2.2.2.2.2.2.2.2.2.2.2.1
theorem dL_law_2302 : decode cL_law 2302 = .ok (.istore 7, 2) := dgq (p := 16) daL_law_2286 dbL_law_2286.2.2.2.2.2.2.2.2.2.2.2.2.1
theorem dL_law_2304 : decode cL_law 2304 = .ok (.goto 627, 3) := dgq (p := 18) daL_law_2286 dbL_law_2286.2.2.2.2.2.2.2.2.2.2.2.2.2.1
theorem dL_law_2307 : decode cL_law 2307 = .ok (.aload_n 1, 1) := dgq (p := 21) daL_law_2286 dbL_law_2286.2.2.2.2.2.2.2.2.2.2.2.2.2.2.1
theorem dL_law_2308 : decode cL_law 2308 = .ok (.aload_n 0, 1) := dgq (p := 22) daL_law_2286 dbL_law_2286.2.2.2.2.2.2.2.2.2.2.2.2.2.2.2.1
theorem dL_law_2309 : decode cL_law 2309 = .ok (.iload 5, 2) := dgq (p := 23) daL_law_2286 dbL_law_2286.2.2.2.2.2.2.2.2.2.2.2.2.2.2.2.2.1
theorem dL_law_2311 : decode cL_law 2311 = .ok (.iconst 1, 1) := dgq (p := 25) daL_law_2286 dbL_law_2286.2.2.2.2.2.2.2.2.2.2.2.2.2.2.2.2.2.1
theorem dL_law_2312 : decode cL_law 2312 = .ok (.iadd, 1) := dgq (p := 26) daL_law_2286 dbL_law_2286.2.2.2.2.2.2.2.2.2.2.2.2.2.2.2.2.2.2.1
theorem dL_law_2313 : decode cL_law 2313 = .ok (.iaload, 1) := dgq (p := 27) daL_law_2286 dbL_law_2286.2.2.2.2.2.2.2.2.2.2.2.2.2.2.2.2.2.2.2.1
theorem dL_law_2314 : decode cL_law 2314 = .ok (.aload_n 0, 1) := dgq (p := 28) daL_law_2286 dbL_law_2286.2.2.2.2.2.2.2.2.2.2.2.2.2.2.2.2.2.2.2.2.1
theorem dL_law_2315 : decode cL_law 2315 = .ok (.iload 5, 2) := dgq (p := 29) daL_law_2286 dbL_law_2286.2.2.2.2.2.2.2.2.2.2.2.2.2.2.2.2.2.2.2.2.2.1
theorem dL_law_2317 : decode cL_law 2317 = .ok (.iconst 2, 1) := dgq (p := 31) daL_law_2286 dbL_law_2286.2.2.2.2.2.2.2.2.2.2.2.2.2.2.2.2.2.2.2.2.2.2.1
theorem dL_law_2318 : decode cL_law 2318 = .ok (.iadd, 1) := dgq (p := 32) daL_law_2286 dbL_law_2286.2.2.2.2.2.2.2.2.2.2.2.2.2.2.2.2.2.2.2.2.2.2.2
def dsL_law_2319 : ByteArray := ⟨#[46, 45, 184, 1, 115, 54, 6, 44, 42, 21, 5, 4, 96, 46, 42, 21, 5, 5, 96, 46, 182, 1, 117, 54, 7, 167, 2, 75, 43, 42, 21, 5, 4, 96, 46]⟩
theorem daL_law_2319 : agB cL_law dsL_law_2319 2319 := agB_of (n := 35) (by decide +kernel)
theorem dbL_law_2319 : (decode dsL_law_2319 0 = .ok (.iaload, 1) ∧ okop dsL_law_2319 0 = true) ∧ (decode dsL_law_2319 1 = .ok (.aload_n 3, 1) ∧ okop dsL_law_2319 1 = true) ∧ (decode dsL_law_2319 2 = .ok (.invokestatic 371, 3) ∧ okop dsL_law_2319 2 = true) ∧ (decode dsL_law_2319 5 = .ok (.istore 6, 2) ∧ okop dsL_law_2319 5 = true) ∧ (decode dsL_law_2319 7 = .ok (.aload_n 2, 1) ∧ okop dsL_law_2319 7 = true) ∧ (decode dsL_law_2319 8 = .ok (.aload_n 0, 1) ∧ okop dsL_law_2319 8 = true) ∧ (decode dsL_law_2319 9 = .ok (.iload 5, 2) ∧ okop dsL_law_2319 9 = true) ∧ (decode dsL_law_2319 11 = .ok (.iconst 1, 1) ∧ okop dsL_law_2319 11 = true) ∧ (decode dsL_law_2319 12 = .ok (.iadd, 1) ∧ okop dsL_law_2319 12 = true) ∧ (decode dsL_law_2319 13 = .ok (.iaload, 1) ∧ okop dsL_law_2319 13 = true) ∧ (decode dsL_law_2319 14 = .ok (.aload_n 0, 1) ∧ okop dsL_law_2319 14 = true) ∧ (decode dsL_law_2319 15 = .ok (.iload 5, 2) ∧ okop dsL_law_2319 15 = true) ∧ (decode dsL_law_2319 17 = .ok (.iconst 2, 1) ∧ okop dsL_law_2319 17 = true) ∧ (decode dsL_law_2319 18 = .ok (.iadd, 1) ∧ okop dsL_law_2319 18 = true) ∧ (decode dsL_law_2319 19 = .ok (.iaload, 1) ∧ okop dsL_law_2319 19 = true) ∧ (decode dsL_law_2319 20 = .ok (.invokevirtual 373, 3) ∧ okop dsL_law_2319 20 = true) ∧ (decode dsL_law_2319 23 = .ok (.istore 7, 2) ∧ okop dsL_law_2319 23 = true) ∧ (decode dsL_law_2319 25 = .ok (.goto 587, 3) ∧ okop dsL_law_2319 25 = true) ∧ (decode dsL_law_2319 28 = .ok (.aload_n 1, 1) ∧ okop dsL_law_2319 28 = true) ∧ (decode dsL_law_2319 29 = .ok (.aload_n 0, 1) ∧ okop dsL_law_2319 29 = true) ∧ (decode dsL_law_2319 30 = .ok (.iload 5, 2) ∧ okop dsL_law_2319 30 = true) ∧ (decode dsL_law_2319 32 = .ok (.iconst 1, 1) ∧ okop dsL_law_2319 32 = true) ∧ (decode dsL_law_2319 33 = .ok (.iadd, 1) ∧ okop dsL_law_2319 33 = true) ∧ (decode dsL_law_2319 34 = .ok (.iaload, 1) ∧ okop dsL_law_2319 34 = true) := by decide +kernel
theorem dL_law_2319 : decode cL_law 2319 = .ok (.iaload, 1) := dgq (p := 0) daL_law_2319 dbL_law_2319.1
theorem dL_law_2320 : decode cL_law 2320 = .ok (.aload_n 3, 1) := dgq (p := 1) daL_law_2319 dbL_law_2319.2.1
theorem dL_law_2321 : decode cL_law 2321 = .ok (.invokestatic 371, 3) := dgq (p := 2) daL_law_2319 dbL_law_2319.2.2.1
theorem dL_law_2324 : decode cL_law 2324 = .ok (.istore 6, 2) := dgq (p := 5) daL_law_2319 dbL_law_2319.2.2.2.1
theorem dL_law_2326 : decode cL_law 2326 = .ok (.aload_n 2, 1) := dgq (p := 7) daL_law_2319 dbL_law_2319.2.2.2.2.1
theorem dL_law_2327 : decode cL_law 2327 = .ok (.aload_n 0, 1) := dgq (p := 8) daL_law_2319 dbL_law_2319.2.2.2.2.2.1
theorem dL_law_2328 : decode cL_law 2328 = .ok (.iload 5, 2) := dgq (p := 9) daL_law_2319 dbL_law_2319.2.2.2.2.2.2.1
theorem dL_law_2330 : decode cL_law 2330 = .ok (.iconst 1, 1) := dgq (p := 11) daL_law_2319 dbL_law_2319.2.2.2.2.2.2.2.1
theorem dL_law_2331 : decode cL_law 2331 = .ok (.iadd, 1) := dgq (p := 12) daL_law_2319 dbL_law_2319.2.2.2.2.2.2.2.2.1
theorem dL_law_2332 : decode cL_law 2332 = .ok (.iaload, 1) := dgq (p := 13) daL_law_2319 dbL_law_2319.2.2.2.2.2.2.2.2.2.1
theorem dL_law_2333 : decode cL_law 2333 = .ok (.aload_n 0, 1) := dgq (p := 14) daL_law_2319 dbL_law_2319.2.2.2.2.2.2.2.2.2.2.1
theorem dL_law_2334 : decode cL_law 2334 = .ok (.iload 5, 2) := dgq (p := 15) daL_law_2319 dbL_law_2319.2.2.2.2.2.2.2.2.2.2.2.1
theorem dL_law_2336 : decode cL_law 2336 = .ok (.iconst 2, 1) := dgq (p := 17) daL_law_2319 dbL_law_2319.2.2.2.2.2.2.2.2.2.2.2.2.1
theorem dL_law_2337 : decode cL_law 2337 = .ok (.iadd, 1) := dgq (p := 18) daL_law_2319 dbL_law_2319.2.2.2.2.2.2.2.2.2.2.2.2.2.1
theorem dL_law_2338 : decode cL_law 2338 = .ok (.iaload, 1) := dgq (p := 19) daL_law_2319 dbL_law_2319.2.2.2.2.2.2.2.2.2.2.2.2.2.2.1
theorem dL_law_2339 : decode cL_law 2339 = .ok (.invokevirtual 373, 3) := dgq (p := 20) daL_law_2319 dbL_law_2319.2.2.2.2.2.2.2.2.2.2.2.2.2.2.2.1
theorem dL_law_2342 : decode cL_law 2342 = .ok (.istore 7, 2) := dgq (p := 23) daL_law_2319 dbL_law_2319.2.2.2.2.2.2.2.2.2.2.2.2.2.2.2.2.1
theorem dL_law_2344 : decode cL_law 2344 = .ok (.goto 587, 3) := dgq (p := 25) daL_law_2319 dbL_law_2319.2.2.2.2.2.2.2.2.2.2.2.2.2.2.2.2.2.1
theorem dL_law_2347 : decode cL_law 2347 = .ok (.aload_n 1, 1) := dgq (p := 28) daL_law_2319 dbL_law_2319.2.2.2.2.2.2.2.2.2.2.2.2.2.2.2.2.2.2.1
theorem dL_law_2348 : decode cL_law 2348 = .ok (.aload_n 0, 1) := dgq (p := 29) daL_law_2319 dbL_law_2319.2.2.2.2.2.2.2.2.2.2.2.2.2.2.2.2.2.2.2.1
theorem dL_law_2349 : decode cL_law 2349 = .ok (.iload 5, 2) := dgq (p := 30) daL_law_2319 dbL_law_2319.2.2.2.2.2.2.2.2.2.2.2.2.2.2.2.2.2.2.2.2.1
theorem dL_law_2351 : decode cL_law 2351 = .ok (.iconst 1, 1) := dgq (p := 32) daL_law_2319 dbL_law_2319.2.2.2.2.2.2.2.2.2.2.2.2.2.2.2.2.2.2.2.2.2.1
theorem dL_law_2352 : decode cL_law 2352 = .ok (.iadd, 1) := dgq (p := 33) daL_law_2319 dbL_law_2319.2.2.2.2.2.2.2.2.2.2.2.2.2.2.2.2.2.2.2.2.2.2.1
theorem dL_law_2353 : decode cL_law 2353 = .ok (.iaload, 1) := dgq (p := 34) daL_law_2319 dbL_law_2319.2.2.2.2.2.2.2.2.2.2.2.2.2.2.2.2.2.2.2.2.2.2.2
def dsL_law_2354 : ByteArray := ⟨#[45, 184, 1, 118, 54, 6, 44, 42, 21, 5, 4, 96, 46, 182, 1, 120, 54, 7, 167, 2, 47, 43, 42, 21, 5, 4, 96, 46, 42, 21, 5, 5, 96, 46, 45]⟩
theorem daL_law_2354 : agB cL_law dsL_law_2354 2354 := agB_of (n := 35) (by decide +kernel)
theorem dbL_law_2354 : (decode dsL_law_2354 0 = .ok (.aload_n 3, 1) ∧ okop dsL_law_2354 0 = true) ∧ (decode dsL_law_2354 1 = .ok (.invokestatic 374, 3) ∧ okop dsL_law_2354 1 = true) ∧ (decode dsL_law_2354 4 = .ok (.istore 6, 2) ∧ okop dsL_law_2354 4 = true) ∧ (decode dsL_law_2354 6 = .ok (.aload_n 2, 1) ∧ okop dsL_law_2354 6 = true) ∧ (decode dsL_law_2354 7 = .ok (.aload_n 0, 1) ∧ okop dsL_law_2354 7 = true) ∧ (decode dsL_law_2354 8 = .ok (.iload 5, 2) ∧ okop dsL_law_2354 8 = true) ∧ (decode dsL_law_2354 10 = .ok (.iconst 1, 1) ∧ okop dsL_law_2354 10 = true) ∧ (decode dsL_law_2354 11 = .ok (.iadd, 1) ∧ okop dsL_law_2354 11 = true) ∧ (decode dsL_law_2354 12 = .ok (.iaload, 1) ∧ okop dsL_law_2354 12 = true) ∧ (decode dsL_law_2354 13 = .ok (.invokevirtual 376, 3) ∧ okop dsL_law_2354 13 = true) ∧ (decode dsL_law_2354 16 = .ok (.istore 7, 2) ∧ okop dsL_law_2354 16 = true) ∧ (decode dsL_law_2354 18 = .ok (.goto 559, 3) ∧ okop dsL_law_2354 18 = true) ∧ (decode dsL_law_2354 21 = .ok (.aload_n 1, 1) ∧ okop dsL_law_2354 21 = true) ∧ (decode dsL_law_2354 22 = .ok (.aload_n 0, 1) ∧ okop dsL_law_2354 22 = true) ∧ (decode dsL_law_2354 23 = .ok (.iload 5, 2) ∧ okop dsL_law_2354 23 = true) ∧ (decode dsL_law_2354 25 = .ok (.iconst 1, 1) ∧ okop dsL_law_2354 25 = true) ∧ (decode dsL_law_2354 26 = .ok (.iadd, 1) ∧ okop dsL_law_2354 26 = true) ∧ (decode dsL_law_2354 27 = .ok (.iaload, 1) ∧ okop dsL_law_2354 27 = true) ∧ (decode dsL_law_2354 28 = .ok (.aload_n 0, 1) ∧ okop dsL_law_2354 28 = true) ∧ (decode dsL_law_2354 29 = .ok (.iload 5, 2) ∧ okop dsL_law_2354 29 = true) ∧ (decode dsL_law_2354 31 = .ok (.iconst 2, 1) ∧ okop dsL_law_2354 31 = true) ∧ (decode dsL_law_2354 32 = .ok (.iadd, 1) ∧ okop dsL_law_2354 32 = true) ∧ (decode dsL_law_2354 33 = .ok (.iaload, 1) ∧ okop dsL_law_2354 33 = true) ∧ (decode dsL_law_2354 34 = .ok (.aload_n 3, 1) ∧ okop dsL_law_2354 34 = true) := by decide +kernel
theorem dL_law_2354 : decode cL_law 2354 = .ok (.aload_n 3, 1) := dgq (p := 0) daL_law_2354 dbL_law_2354.1
theorem dL_law_2355 : decode cL_law 2355 = .ok (.invokestatic 374, 3) := dgq (p := 1) daL_law_2354 dbL_law_2354.2.1
theorem dL_law_2358 : decode cL_law 2358 = .ok (.istore 6, 2) := dgq (p := 4) daL_law_2354 dbL_law_2354.2.2.1
theorem dL_law_2360 : decode cL_law 2360 = .ok (.aload_n 2, 1) := dgq (p := 6) daL_law_2354 dbL_law_2354.2.2.2.1
theorem dL_law_2361 : decode cL_law 2361 = .ok (.aload_n 0, 1) := dgq (p := 7) daL_law_2354 dbL_law_2354.2.2.2.2.1
theorem dL_law_2362 : decode cL_law 2362 = .ok (.iload 5, 2) := dgq (p := 8) daL_law_2354 dbL_law_2354.2.2.2.2.2.1
theorem dL_law_2364 : decode cL_law 2364 = .ok (.iconst 1, 1) := dgq (p := 10) daL_law_2354 dbL_law_2354.2.2.2.2.2.2.1
theorem dL_law_2365 : decode cL_law 2365 = .ok (.iadd, 1) := dgq (p := 11) daL_law_2354 dbL_law_2354.2.2.2.2.2.2.2.1
theorem dL_law_2366 : decode cL_law 2366 = .ok (.iaload, 1) := dgq (p := 12) daL_law_2354 dbL_law_2354.2.2.2.2.2.2.2.2.1
theorem dL_law_2367 : decode cL_law 2367 = .ok (.invokevirtual 376, 3) := dgq (p := 13) daL_law_2354 dbL_law_2354.2.2.2.2.2.2.2.2.2.1
theorem dL_law_2370 : decode cL_law 2370 = .ok (.istore 7, 2) := dgq (p := 16) daL_law_2354 dbL_law_2354.2.2.2.2.2.2.2.2.2.2.1
theorem dL_law_2372 : decode cL_law 2372 = .ok (.goto 559, 3) := dgq (p := 18) daL_law_2354 dbL_law_2354.2.2.2.2.2.2.2.2.2.2.2.1
theorem dL_law_2375 : decode cL_law 2375 = .ok (.aload_n 1, 1) := dgq (p := 21) daL_law_2354 dbL_law_2354.2.2.2.2.2.2.2.2.2.2.2.2.1
theorem dL_law_2376 : decode cL_law 2376 = .ok (.aload_n 0, 1) := dgq (p := 22) daL_law_2354 dbL_law_2354.2.2.2.2.2.2.2.2.2.2.2.2.2.1
theorem dL_law_2377 : decode cL_law 2377 = .ok (.iload 5, 2) := dgq (p := 23) daL_law_2354 dbL_law_2354.2.2.2.2.2.2.2.2.2.2.2.2.2.2.1
theorem dL_law_2379 : decode cL_law 2379 = .ok (.iconst 1, 1) := dgq (p := 25) daL_law_2354 dbL_law_2354.2.2.2.2.2.2.2.2.2.2.2.2.2.2.2.1
theorem dL_law_2380 : decode cL_law 2380 = .ok (.iadd, 1) := dgq (p := 26) daL_law_2354 dbL_law_2354.2.2.2.2.2.2.2.2.2.2.2.2.2.2.2.2.1
theorem dL_law_2381 : decode cL_law 2381 = .ok (.iaload, 1) := dgq (p := 27) daL_law_2354 dbL_law_2354.2.2.2.2.2.2.2.2.2.2.2.2.2.2.2.2.2.1
theorem dL_law_2382 : decode cL_law 2382 = .ok (.aload_n 0, 1) := dgq (p := 28) daL_law_2354 dbL_law_2354.2.2.2.2.2.2.2.2.2.2.2.2.2.2.2.2.2.2.1
theorem dL_law_2383 : decode cL_law 2383 = .ok (.iload 5, 2) := dgq (p := 29) daL_law_2354 dbL_law_2354.2.2.2.2.2.2.2.2.2.2.2.2.2.2.2.2.2.2.2.1
theorem dL_law_2385 : decode cL_law 2385 = .ok (.iconst 2, 1) := dgq (p := 31) daL_law_2354 dbL_law_2354.2.2.2.2.2.2.2.2.2.2.2.2.2.2.2.2.2.2.2.2.1
theorem dL_law_2386 : decode cL_law 2386 = .ok (.iadd, 1) := dgq (p := 32) daL_law_2354 dbL_law_2354.2.2.2.2.2.2.2.2.2.2.2.2.2.2.2.2.2.2.2.2.2.1
theorem dL_law_2387 : decode cL_law 2387 = .ok (.iaload, 1) := dgq (p := 33) daL_law_2354 dbL_law_2354.2.2.2.2.2.2.2.2.2.2.2.2.2.2.2.2.2.2.2.2.2.2.1
theorem dL_law_2388 : decode cL_law 2388 = .ok (.aload_n 3, 1) := dgq (p := 34) daL_law_2354 dbL_law_2354.2.2.2.2.2.2.2.2.2.2.2.2.2.2.2.2.2.2.2.2.2.2.2
def dsL_law_2389 : ByteArray := ⟨#[184, 1, 121, 54, 6, 44, 42, 21, 5, 4, 96, 46, 42, 21, 5, 5, 96, 46, 182, 1, 123, 55, 7, 167, 2, 7, 43, 42, 21, 5, 4, 96, 46, 42, 21, 5]⟩
theorem daL_law_2389 : agB cL_law dsL_law_2389 2389 := agB_of (n := 36) (by decide +kernel)
theorem dbL_law_2389 : (decode dsL_law_2389 0 = .ok (.invokestatic 377, 3) ∧ okop dsL_law_2389 0 = true) ∧ (decode dsL_law_2389 3 = .ok (.istore 6, 2) ∧ okop dsL_law_2389 3 = true) ∧ (decode dsL_law_2389 5 = .ok (.aload_n 2, 1) ∧ okop dsL_law_2389 5 = true) ∧ (decode dsL_law_2389 6 = .ok (.aload_n 0, 1) ∧ okop dsL_law_2389 6 = true) ∧ (decode dsL_law_2389 7 = .ok (.iload 5, 2) ∧ okop dsL_law_2389 7 = true) ∧ (decode dsL_law_2389 9 = .ok (.iconst 1, 1) ∧ okop dsL_law_2389 9 = true) ∧ (decode dsL_law_2389 10 = .ok (.iadd, 1) ∧ okop dsL_law_2389 10 = true) ∧ (decode dsL_law_2389 11 = .ok (.iaload, 1) ∧ okop dsL_law_2389 11 = true) ∧ (decode dsL_law_2389 12 = .ok (.aload_n 0, 1) ∧ okop dsL_law_2389 12 = true) ∧ (decode dsL_law_2389 13 = .ok (.iload 5, 2) ∧ okop dsL_law_2389 13 = true) ∧ (decode dsL_law_2389 15 = .ok (.iconst 2, 1) ∧ okop dsL_law_2389 15 = true) ∧ (decode dsL_law_2389 16 = .ok (.iadd, 1) ∧ okop dsL_law_2389 16 = true) ∧ (decode dsL_law_2389 17 = .ok (.iaload, 1) ∧ okop dsL_law_2389 17 = true) ∧ (decode dsL_law_2389 18 = .ok (.invokevirtual 379, 3) ∧ okop dsL_law_2389 18 = true) ∧ (decode dsL_law_2389 21 = .ok (.lstore 7, 2) ∧ okop dsL_law_2389 21 = true) ∧ (decode dsL_law_2389 23 = .ok (.goto 519, 3) ∧ okop dsL_law_2389 23 = true) ∧ (decode dsL_law_2389 26 = .ok (.aload_n 1, 1) ∧ okop dsL_law_2389 26 = true) ∧ (decode dsL_law_2389 27 = .ok (.aload_n 0, 1) ∧ okop dsL_law_2389 27 = true) ∧ (decode dsL_law_2389 28 = .ok (.iload 5, 2) ∧ okop dsL_law_2389 28 = true) ∧ (decode dsL_law_2389 30 = .ok (.iconst 1, 1) ∧ okop dsL_law_2389 30 = true) ∧ (decode dsL_law_2389 31 = .ok (.iadd, 1) ∧ okop dsL_law_2389 31 = true) ∧ (decode dsL_law_2389 32 = .ok (.iaload, 1) ∧ okop dsL_law_2389 32 = true) ∧ (decode dsL_law_2389 33 = .ok (.aload_n 0, 1) ∧ okop dsL_law_2389 33 = true) ∧ (decode dsL_law_2389 34 = .ok (.iload 5, 2) ∧ okop dsL_law_2389 34 = true) := by decide +kernel
theorem dL_law_2389 : decode cL_law 2389 = .ok (.invokestatic 377, 3) := dgq (p := 0) daL_law_2389 dbL_law_2389.1
theorem dL_law_2392 : decode cL_law 2392 = .ok (.istore 6, 2) := dgq (p := 3) daL_law_2389 dbL_law_2389.2.1
theorem dL_law_2394 : decode cL_law 2394 = .ok (.aload_n 2, 1) := dgq (p := 5) daL_law_2389 dbL_law_2389.2.2.1
theorem dL_law_2395 : decode cL_law 2395 = .ok (.aload_n 0, 1) := dgq (p := 6) daL_law_2389 dbL_law_2389.2.2.2.1
theorem dL_law_2396 : decode cL_law 2396 = .ok (.iload 5, 2) := dgq (p := 7) daL_law_2389 dbL_law_2389.2.2.2.2.1
theorem dL_law_2398 : decode cL_law 2398 = .ok (.iconst 1, 1) := dgq (p := 9) daL_law_2389 dbL_law_2389.2.2.2.2.2.1
theorem dL_law_2399 : decode cL_law 2399 = .ok (.iadd, 1) := dgq (p := 10) daL_law_2389 dbL_law_2389.2.2.2.2.2.2.1
theorem dL_law_2400 : decode cL_law 2400 = .ok (.iaload, 1) := dgq (p := 11) daL_law_2389 dbL_law_2389.2.2.2.2.2.2.2.1
theorem dL_law_2401 : decode cL_law 2401 = .ok (.aload_n 0, 1) := dgq (p := 12) daL_law_2389 dbL_law_2389.2.2.2.2.2.2.2.2.1
theorem dL_law_2402 : decode cL_law 2402 = .ok (.iload 5, 2) := dgq (p := 13) daL_law_2389 dbL_law_2389.2.2.2.2.2.2.2.2.2.1
theorem dL_law_2404 : decode cL_law 2404 = .ok (.iconst 2, 1) := dgq (p := 15) daL_law_2389 dbL_law_2389.2.2.2.2.2.2.2.2.2.2.1
theorem dL_law_2405 : decode cL_law 2405 = .ok (.iadd, 1) := dgq (p := 16) daL_law_2389 dbL_law_2389.2.2.2.2.2.2.2.2.2.2.2.1
theorem dL_law_2406 : decode cL_law 2406 = .ok (.iaload, 1) := dgq (p := 17) daL_law_2389 dbL_law_2389.2.2.2.2.2.2.2.2.2.2.2.2.1
theorem dL_law_2407 : decode cL_law 2407 = .ok (.invokevirtual 379, 3) := dgq (p := 18) daL_law_2389 dbL_law_2389.2.2.2.2.2.2.2.2.2.2.2.2.2.1
theorem dL_law_2410 : decode cL_law 2410 = .ok (.lstore 7, 2) := dgq (p := 21) daL_law_2389 dbL_law_2389.2.2.2.2.2.2.2.2.2.2.2.2.2.2.1
theorem dL_law_2412 : decode cL_law 2412 = .ok (.goto 519, 3) := dgq (p := 23) daL_law_2389 dbL_law_2389.2.2.2.2.2.2.2.2.2.2.2.2.2.2.2.1
theorem dL_law_2415 : decode cL_law 2415 = .ok (.aload_n 1, 1) := dgq (p := 26) daL_law_2389 dbL_law_2389.2.2.2.2.2.2.2.2.2.2.2.2.2.2.2.2.1
theorem dL_law_2416 : decode cL_law 2416 = .ok (.aload_n 0, 1) := dgq (p := 27) daL_law_2389 dbL_law_2389.2.2.2.2.2.2.2.2.2.2.2.2.2.2.2.2.2.1
theorem dL_law_2417 : decode cL_law 2417 = .ok (.iload 5, 2) := dgq (p := 28) daL_law_2389 dbL_law_2389.2.2.2.2.2.2.2.2.2.2.2.2.2.2.2.2.2.2.1
theorem dL_law_2419 : decode cL_law 2419 = .ok (.iconst 1, 1) := dgq (p := 30) daL_law_2389 dbL_law_2389.2.2.2.2.2.2.2.2.2.2.2.2.2.2.2.2.2.2.2.1
theorem dL_law_2420 : decode cL_law 2420 = .ok (.iadd, 1) := dgq (p := 31) daL_law_2389 dbL_law_2389.2.2.2.2.2.2.2.2.2.2.2.2.2.2.2.2.2.2.2.2.1
theorem dL_law_2421 : decode cL_law 2421 = .ok (.iaload, 1) := dgq (p := 32) daL_law_2389 dbL_law_2389.2.2.2.2.2.2.2.2.2.2.2.2.2.2.2.2.2.2.2.2.2.1
theorem dL_law_2422 : decode cL_law 2422 = .ok (.aload_n 0, 1) := dgq (p := 33) daL_law_2389 dbL_law_2389.2.2.2.2.2.2.2.2.2.2.2.2.2.2.2.2.2.2.2.2.2.2.1
theorem dL_law_2423 : decode cL_law 2423 = .ok (.iload 5, 2) := dgq (p := 34) daL_law_2389 dbL_law_2389.2.2.2.2.2.2.2.2.2.2.2.2.2.2.2.2.2.2.2.2.2.2.2
def dsL_law_2425 : ByteArray := ⟨#[5, 96, 46, 42, 21, 5, 6, 96, 46, 42, 21, 5, 7, 96, 46, 45, 184, 1, 124, 54, 6, 44, 42, 21, 5, 4, 96, 46, 42, 21, 5]⟩
theorem daL_law_2425 : agB cL_law dsL_law_2425 2425 := agB_of (n := 31) (by decide +kernel)
theorem dbL_law_2425 : (decode dsL_law_2425 0 = .ok (.iconst 2, 1) ∧ okop dsL_law_2425 0 = true) ∧ (decode dsL_law_2425 1 = .ok (.iadd, 1) ∧ okop dsL_law_2425 1 = true) ∧ (decode dsL_law_2425 2 = .ok (.iaload, 1) ∧ okop dsL_law_2425 2 = true) ∧ (decode dsL_law_2425 3 = .ok (.aload_n 0, 1) ∧ okop dsL_law_2425 3 = true) ∧ (decode dsL_law_2425 4 = .ok (.iload 5, 2) ∧ okop dsL_law_2425 4 = true) ∧ (decode dsL_law_2425 6 = .ok (.iconst 3, 1) ∧ okop dsL_law_2425 6 = true) ∧ (decode dsL_law_2425 7 = .ok (.iadd, 1) ∧ okop dsL_law_2425 7 = true) ∧ (decode dsL_law_2425 8 = .ok (.iaload, 1) ∧ okop dsL_law_2425 8 = true) ∧ (decode dsL_law_2425 9 = .ok (.aload_n 0, 1) ∧ okop dsL_law_2425 9 = true) ∧ (decode dsL_law_2425 10 = .ok (.iload 5, 2) ∧ okop dsL_law_2425 10 = true) ∧ (decode dsL_law_2425 12 = .ok (.iconst 4, 1) ∧ okop dsL_law_2425 12 = true) ∧ (decode dsL_law_2425 13 = .ok (.iadd, 1) ∧ okop dsL_law_2425 13 = true) ∧ (decode dsL_law_2425 14 = .ok (.iaload, 1) ∧ okop dsL_law_2425 14 = true) ∧ (decode dsL_law_2425 15 = .ok (.aload_n 3, 1) ∧ okop dsL_law_2425 15 = true) ∧ (decode dsL_law_2425 16 = .ok (.invokestatic 380, 3) ∧ okop dsL_law_2425 16 = true) ∧ (decode dsL_law_2425 19 = .ok (.istore 6, 2) ∧ okop dsL_law_2425 19 = true) ∧ (decode dsL_law_2425 21 = .ok (.aload_n 2, 1) ∧ okop dsL_law_2425 21 = true) ∧ (decode dsL_law_2425 22 = .ok (.aload_n 0, 1) ∧ okop dsL_law_2425 22 = true) ∧ (decode dsL_law_2425 23 = .ok (.iload 5, 2) ∧ okop dsL_law_2425 23 = true) ∧ (decode dsL_law_2425 25 = .ok (.iconst 1, 1) ∧ okop dsL_law_2425 25 = true) ∧ (decode dsL_law_2425 26 = .ok (.iadd, 1) ∧ okop dsL_law_2425 26 = true) ∧ (decode dsL_law_2425 27 = .ok (.iaload, 1) ∧ okop dsL_law_2425 27 = true) ∧ (decode dsL_law_2425 28 = .ok (.aload_n 0, 1) ∧ okop dsL_law_2425 28 = true) ∧ (decode dsL_law_2425 29 = .ok (.iload 5, 2) ∧ okop dsL_law_2425 29 = true) := by decide +kernel
theorem dL_law_2425 : decode cL_law 2425 = .ok (.iconst 2, 1) := dgq (p := 0) daL_law_2425 dbL_law_2425.1
theorem dL_law_2426 : decode cL_law 2426 = .ok (.iadd, 1) := dgq (p := 1) daL_law_2425 dbL_law_2425.2.1
theorem dL_law_2427 : decode cL_law 2427 = .ok (.iaload, 1) := dgq (p := 2) daL_law_2425 dbL_law_2425.2.2.1
theorem dL_law_2428 : decode cL_law 2428 = .ok (.aload_n 0, 1) := dgq (p := 3) daL_law_2425 dbL_law_2425.2.2.2.1
theorem dL_law_2429 : decode cL_law 2429 = .ok (.iload 5, 2) := dgq (p := 4) daL_law_2425 dbL_law_2425.2.2.2.2.1
theorem dL_law_2431 : decode cL_law 2431 = .ok (.iconst 3, 1) := dgq (p := 6) daL_law_2425 dbL_law_2425.2.2.2.2.2.1
theorem dL_law_2432 : decode cL_law 2432 = .ok (.iadd, 1) := dgq (p := 7) daL_law_2425 dbL_law_2425.2.2.2.2.2.2.1
theorem dL_law_2433 : decode cL_law 2433 = .ok (.iaload, 1) := dgq (p := 8) daL_law_2425 dbL_law_2425.2.2.2.2.2.2.2.1
theorem dL_law_2434 : decode cL_law 2434 = .ok (.aload_n 0, 1) := dgq (p := 9) daL_law_2425 dbL_law_2425.2.2.2.2.2.2.2.2.1
theorem dL_law_2435 : decode cL_law 2435 = .ok (.iload 5, 2) := dgq (p := 10) daL_law_2425 dbL_law_2425.2.2.2.2.2.2.2.2.2.1
theorem dL_law_2437 : decode cL_law 2437 = .ok (.iconst 4, 1) := dgq (p := 12) daL_law_2425 dbL_law_2425.2.2.2.2.2.2.2.2.2.2.1
theorem dL_law_2438 : decode cL_law 2438 = .ok (.iadd, 1) := dgq (p := 13) daL_law_2425 dbL_law_2425.2.2.2.2.2.2.2.2.2.2.2.1
theorem dL_law_2439 : decode cL_law 2439 = .ok (.iaload, 1) := dgq (p := 14) daL_law_2425 dbL_law_2425.2.2.2.2.2.2.2.2.2.2.2.2.1
theorem dL_law_2440 : decode cL_law 2440 = .ok (.aload_n 3, 1) := dgq (p := 15) daL_law_2425 dbL_law_2425.2.2.2.2.2.2.2.2.2.2.2.2.2.1
theorem dL_law_2441 : decode cL_law 2441 = .ok (.invokestatic 380, 3) := dgq (p := 16) daL_law_2425 dbL_law_2425.2.2.2.2.2.2.2.2.2.2.2.2.2.2.1
theorem dL_law_2444 : decode cL_law 2444 = .ok (.istore 6, 2) := dgq (p := 19) daL_law_2425 dbL_law_2425.2.2.2.2.2.2.2.2.2.2.2.2.2.2.2.1
theorem dL_law_2446 : decode cL_law 2446 = .ok (.aload_n 2, 1) := dgq (p := 21) daL_law_2425 dbL_law_2425.2.2.2.2.2.2.2.2.2.2.2.2.2.2.2.2.1
theorem dL_law_2447 : decode cL_law 2447 = .ok (.aload_n 0, 1) := dgq (p := 22) daL_law_2425 dbL_law_2425.2.2.2.2.2.2.2.2.2.2.2.2.2.2.2.2.2.1
theorem dL_law_2448 : decode cL_law 2448 = .ok (.iload 5, 2) := dgq (p := 23) daL_law_2425 dbL_law_2425.2.2.2.2.2.2.2.2.2.2.2.2.2.2.2.2.2.2.1
theorem dL_law_2450 : decode cL_law 2450 = .ok (.iconst 1, 1) := dgq (p := 25) daL_law_2425 dbL_law_2425.2.2.2.2.2.2.2.2.2.2.2.2.2.2.2.2.2.2.2.1
theorem dL_law_2451 : decode cL_law 2451 = .ok (.iadd, 1) := dgq (p := 26) daL_law_2425 dbL_law_2425.2.2.2.2.2.2.2.2.2.2.2.2.2.2.2.2.2.2.2.2.1
theorem dL_law_2452 : decode cL_law 2452 = .ok (.iaload, 1) := dgq (p := 27) daL_law_2425 dbL_law_2425.2.2.2.2.2.2.2.2.2.2.2.2.2.2.2.2.2.2.2.2.2.1
theorem dL_law_2453 : decode cL_law 2453 = .ok (.aload_n 0, 1) := dgq (p := 28) daL_law_2425 dbL_law_2425.2.2.2.2.2.2.2.2.2.2.2.2.2.2.2.2.2.2.2.2.2.2.1
theorem dL_law_2454 : decode cL_law 2454 = .ok (.iload 5, 2) := dgq (p := 29) daL_law_2425 dbL_law_2425.2.2.2.2.2.2.2.2.2.2.2.2.2.2.2.2.2.2.2.2.2.2.2
def dsL_law_2456 : ByteArray := ⟨#[5, 96, 46, 42, 21, 5, 6, 96, 46, 42, 21, 5, 7, 96, 46, 182, 1, 126, 54, 7, 167, 1, 199, 43, 42, 21, 5, 4, 96, 46, 45, 184, 1, 127]⟩
theorem daL_law_2456 : agB cL_law dsL_law_2456 2456 := agB_of (n := 34) (by decide +kernel)
theorem dbL_law_2456 : (decode dsL_law_2456 0 = .ok (.iconst 2, 1) ∧ okop dsL_law_2456 0 = true) ∧ (decode dsL_law_2456 1 = .ok (.iadd, 1) ∧ okop dsL_law_2456 1 = true) ∧ (decode dsL_law_2456 2 = .ok (.iaload, 1) ∧ okop dsL_law_2456 2 = true) ∧ (decode dsL_law_2456 3 = .ok (.aload_n 0, 1) ∧ okop dsL_law_2456 3 = true) ∧ (decode dsL_law_2456 4 = .ok (.iload 5, 2) ∧ okop dsL_law_2456 4 = true) ∧ (decode dsL_law_2456 6 = .ok (.iconst 3, 1) ∧ okop dsL_law_2456 6 = true) ∧ (decode dsL_law_2456 7 = .ok (.iadd, 1) ∧ okop dsL_law_2456 7 = true) ∧ (decode dsL_law_2456 8 = .ok (.iaload, 1) ∧ okop dsL_law_2456 8 = true) ∧ (decode dsL_law_2456 9 = .ok (.aload_n 0, 1) ∧ okop dsL_law_2456 9 = true) ∧ (decode dsL_law_2456 10 = .ok (.iload 5, 2) ∧ okop dsL_law_2456 10 = true) ∧ (decode dsL_law_2456 12 = .ok (.iconst 4, 1) ∧ okop dsL_law_2456 12 = true) ∧ (decode dsL_law_2456 13 = .ok (.iadd, 1) ∧ okop dsL_law_2456 13 = true) ∧ (decode dsL_law_2456 14 = .ok (.iaload, 1) ∧ okop dsL_law_2456 14 = true) ∧ (decode dsL_law_2456 15 = .ok (.invokevirtual 382, 3) ∧ okop dsL_law_2456 15 = true) ∧ (decode dsL_law_2456 18 = .ok (.istore 7, 2) ∧ okop dsL_law_2456 18 = true) ∧ (decode dsL_law_2456 20 = .ok (.goto 455, 3) ∧ okop dsL_law_2456 20 = true) ∧ (decode dsL_law_2456 23 = .ok (.aload_n 1, 1) ∧ okop dsL_law_2456 23 = true) ∧ (decode dsL_law_2456 24 = .ok (.aload_n 0, 1) ∧ okop dsL_law_2456 24 = true) ∧ (decode dsL_law_2456 25 = .ok (.iload 5, 2) ∧ okop dsL_law_2456 25 = true) ∧ (decode dsL_law_2456 27 = .ok (.iconst 1, 1) ∧ okop dsL_law_2456 27 = true) ∧ (decode dsL_law_2456 28 = .ok (.iadd, 1) ∧ okop dsL_law_2456 28 = true) ∧ (decode dsL_law_2456 29 = .ok (.iaload, 1) ∧ okop dsL_law_2456 29 = true) ∧ (decode dsL_law_2456 30 = .ok (.aload_n 3, 1) ∧ okop dsL_law_2456 30 = true) ∧ (decode dsL_law_2456 31 = .ok (.invokestatic 383, 3) ∧ okop dsL_law_2456 31 = true) := by decide +kernel
theorem dL_law_2456 : decode cL_law 2456 = .ok (.iconst 2, 1) := dgq (p := 0) daL_law_2456 dbL_law_2456.1
theorem dL_law_2457 : decode cL_law 2457 = .ok (.iadd, 1) := dgq (p := 1) daL_law_2456 dbL_law_2456.2.1
theorem dL_law_2458 : decode cL_law 2458 = .ok (.iaload, 1) := dgq (p := 2) daL_law_2456 dbL_law_2456.2.2.1
theorem dL_law_2459 : decode cL_law 2459 = .ok (.aload_n 0, 1) := dgq (p := 3) daL_law_2456 dbL_law_2456.2.2.2.1
theorem dL_law_2460 : decode cL_law 2460 = .ok (.iload 5, 2) := dgq (p := 4) daL_law_2456 dbL_law_2456.2.2.2.2.1
theorem dL_law_2462 : decode cL_law 2462 = .ok (.iconst 3, 1) := dgq (p := 6) daL_law_2456 dbL_law_2456.2.2.2.2.2.1
theorem dL_law_2463 : decode cL_law 2463 = .ok (.iadd, 1) := dgq (p := 7) daL_law_2456 dbL_law_2456.2.2.2.2.2.2.1
theorem dL_law_2464 : decode cL_law 2464 = .ok (.iaload, 1) := dgq (p := 8) daL_law_2456 dbL_law_2456.2.2.2.2.2.2.2.1
theorem dL_law_2465 : decode cL_law 2465 = .ok (.aload_n 0, 1) := dgq (p := 9) daL_law_2456 dbL_law_2456.2.2.2.2.2.2.2.2.1
theorem dL_law_2466 : decode cL_law 2466 = .ok (.iload 5, 2) := dgq (p := 10) daL_law_2456 dbL_law_2456.2.2.2.2.2.2.2.2.2.1
theorem dL_law_2468 : decode cL_law 2468 = .ok (.iconst 4, 1) := dgq (p := 12) daL_law_2456 dbL_law_2456.2.2.2.2.2.2.2.2.2.2.1
theorem dL_law_2469 : decode cL_law 2469 = .ok (.iadd, 1) := dgq (p := 13) daL_law_2456 dbL_law_2456.2.2.2.2.2.2.2.2.2.2.2.1
theorem dL_law_2470 : decode cL_law 2470 = .ok (.iaload, 1) := dgq (p := 14) daL_law_2456 dbL_law_2456.2.2.2.2.2.2.2.2.2.2.2.2.1
theorem dL_law_2471 : decode cL_law 2471 = .ok (.invokevirtual 382, 3) := dgq (p := 15) daL_law_2456 dbL_law_2456.2.2.2.2.2.2.2.2.2.2.2.2.2.1
theorem dL_law_2474 : decode cL_law 2474 = .ok (.istore 7, 2) := dgq (p := 18) daL_law_2456 dbL_law_2456.2.2.2.2.2.2.2.2.2.2.2.2.2.2.1
theorem dL_law_2476 : decode cL_law 2476 = .ok (.goto 455, 3) := dgq (p := 20) daL_law_2456 dbL_law_2456.2.2.2.2.2.2.2.2.2.2.2.2.2.2.2.1
theorem dL_law_2479 : decode cL_law 2479 = .ok (.aload_n 1, 1) := dgq (p := 23) daL_law_2456 dbL_law_2456.2.2.2.2.2.2.2.2.2.2.2.2.2.2.2.2.1
theorem dL_law_2480 : decode cL_law 2480 = .ok (.aload_n 0, 1) := dgq (p := 24) daL_law_2456 dbL_law_2456.2.2.2.2.2.2.2.2.2.2.2.2.2.2.2.2.2.1
theorem dL_law_2481 : decode cL_law 2481 = .ok (.iload 5, 2) := dgq (p := 25) daL_law_2456 dbL_law_2456.2.2.2.2.2.2.2.2.2.2.2.2.2.2.2.2.2.2.1
theorem dL_law_2483 : decode cL_law 2483 = .ok (.iconst 1, 1) := dgq (p := 27) daL_law_2456 dbL_law_2456.2.2.2.2.2.2.2.2.2.2.2.2.2.2.2.2.2.2.2.1
theorem dL_law_2484 : decode cL_law 2484 = .ok (.iadd, 1) := dgq (p := 28) daL_law_2456 dbL_law_2456.2.2.2.2.2.2.2.2.2.2.2.2.2.2.2.2.2.2.2.2.1
theorem dL_law_2485 : decode cL_law 2485 = .ok (.iaload, 1) := dgq (p := 29) daL_law_2456 dbL_law_2456.2.2.2.2.2.2.2.2.2.2.2.2.2.2.2.2.2.2.2.2.2.1
theorem dL_law_2486 : decode cL_law 2486 = .ok (.aload_n 3, 1) := dgq (p := 30) daL_law_2456 dbL_law_2456.2.2.2.2.2.2.2.2.2.2.2.2.2.2.2.2.2.2.2.2.2.2.1
theorem dL_law_2487 : decode cL_law 2487 = .ok (.invokestatic 383, 3) := dgq (p := 31) daL_law_2456 dbL_law_2456.2.2.2.2.2.2.2.2.2.2.2.2.2.2.2.2.2.2.2.2.2.2.2
def dsL_law_2490 : ByteArray := ⟨#[54, 6, 44, 42, 21, 5, 4, 96, 46, 182, 1, 129, 55, 7, 167, 1, 171, 43, 42, 21, 5, 4, 96, 46, 42, 21, 5, 5, 96, 46, 42, 21, 5, 6]⟩
theorem daL_law_2490 : agB cL_law dsL_law_2490 2490 := agB_of (n := 34) (by decide +kernel)
theorem dbL_law_2490 : (decode dsL_law_2490 0 = .ok (.istore 6, 2) ∧ okop dsL_law_2490 0 = true) ∧ (decode dsL_law_2490 2 = .ok (.aload_n 2, 1) ∧ okop dsL_law_2490 2 = true) ∧ (decode dsL_law_2490 3 = .ok (.aload_n 0, 1) ∧ okop dsL_law_2490 3 = true) ∧ (decode dsL_law_2490 4 = .ok (.iload 5, 2) ∧ okop dsL_law_2490 4 = true) ∧ (decode dsL_law_2490 6 = .ok (.iconst 1, 1) ∧ okop dsL_law_2490 6 = true) ∧ (decode dsL_law_2490 7 = .ok (.iadd, 1) ∧ okop dsL_law_2490 7 = true) ∧ (decode dsL_law_2490 8 = .ok (.iaload, 1) ∧ okop dsL_law_2490 8 = true) ∧ (decode dsL_law_2490 9 = .ok (.invokevirtual 385, 3) ∧ okop dsL_law_2490 9 = true) ∧ (decode dsL_law_2490 12 = .ok (.lstore 7, 2) ∧ okop dsL_law_2490 12 = true) ∧ (decode dsL_law_2490 14 = .ok (.goto 427, 3) ∧ okop dsL_law_2490 14 = true) ∧ (decode dsL_law_2490 17 = .ok (.aload_n 1, 1) ∧ okop dsL_law_2490 17 = true) ∧ (decode dsL_law_2490 18 = .ok (.aload_n 0, 1) ∧ okop dsL_law_2490 18 = true) ∧ (decode dsL_law_2490 19 = .ok (.iload 5, 2) ∧ okop dsL_law_2490 19 = true) ∧ (decode dsL_law_2490 21 = .ok (.iconst 1, 1) ∧ okop dsL_law_2490 21 = true) ∧ (decode dsL_law_2490 22 = .ok (.iadd, 1) ∧ okop dsL_law_2490 22 = true) ∧ (decode dsL_law_2490 23 = .ok (.iaload, 1) ∧ okop dsL_law_2490 23 = true) ∧ (decode dsL_law_2490 24 = .ok (.aload_n 0, 1) ∧ okop dsL_law_2490 24 = true) ∧ (decode dsL_law_2490 25 = .ok (.iload 5, 2) ∧ okop dsL_law_2490 25 = true) ∧ (decode dsL_law_2490 27 = .ok (.iconst 2, 1) ∧ okop dsL_law_2490 27 = true) ∧ (decode dsL_law_2490 28 = .ok (.iadd, 1) ∧ okop dsL_law_2490 28 = true) ∧ (decode dsL_law_2490 29 = .ok (.iaload, 1) ∧ okop dsL_law_2490 29 = true) ∧ (decode dsL_law_2490 30 = .ok (.aload_n 0, 1) ∧ okop dsL_law_2490 30 = true) ∧ (decode dsL_law_2490 31 = .ok (.iload 5, 2) ∧ okop dsL_law_2490 31 = true) ∧ (decode dsL_law_2490 33 = .ok (.iconst 3, 1) ∧ okop dsL_law_2490 33 = true) := by decide +kernel
theorem dL_law_2490 : decode cL_law 2490 = .ok (.istore 6, 2) := dgq (p := 0) daL_law_2490 dbL_law_2490.1
theorem dL_law_2492 : decode cL_law 2492 = .ok (.aload_n 2, 1) := dgq (p := 2) daL_law_2490 dbL_law_2490.2.1
theorem dL_law_2493 : decode cL_law 2493 = .ok (.aload_n 0, 1) := dgq (p := 3) daL_law_2490 dbL_law_2490.2.2.1
theorem dL_law_2494 : decode cL_law 2494 = .ok (.iload 5, 2) := dgq (p := 4) daL_law_2490 dbL_law_2490.2.2.2.1
theorem dL_law_2496 : decode cL_law 2496 = .ok (.iconst 1, 1) := dgq (p := 6) daL_law_2490 dbL_law_2490.2.2.2.2.1
theorem dL_law_2497 : decode cL_law 2497 = .ok (.iadd, 1) := dgq (p := 7) daL_law_2490 dbL_law_2490.2.2.2.2.2.1
theorem dL_law_2498 : decode cL_law 2498 = .ok (.iaload, 1) := dgq (p := 8) daL_law_2490 dbL_law_2490.2.2.2.2.2.2.1
theorem dL_law_2499 : decode cL_law 2499 = .ok (.invokevirtual 385, 3) := dgq (p := 9) daL_law_2490 dbL_law_2490.2.2.2.2.2.2.2.1
theorem dL_law_2502 : decode cL_law 2502 = .ok (.lstore 7, 2) := dgq (p := 12) daL_law_2490 dbL_law_2490.2.2.2.2.2.2.2.2.1
theorem dL_law_2504 : decode cL_law 2504 = .ok (.goto 427, 3) := dgq (p := 14) daL_law_2490 dbL_law_2490.2.2.2.2.2.2.2.2.2.1
theorem dL_law_2507 : decode cL_law 2507 = .ok (.aload_n 1, 1) := dgq (p := 17) daL_law_2490 dbL_law_2490.2.2.2.2.2.2.2.2.2.2.1
theorem dL_law_2508 : decode cL_law 2508 = .ok (.aload_n 0, 1) := dgq (p := 18) daL_law_2490 dbL_law_2490.2.2.2.2.2.2.2.2.2.2.2.1
theorem dL_law_2509 : decode cL_law 2509 = .ok (.iload 5, 2) := dgq (p := 19) daL_law_2490 dbL_law_2490.2.2.2.2.2.2.2.2.2.2.2.2.1
theorem dL_law_2511 : decode cL_law 2511 = .ok (.iconst 1, 1) := dgq (p := 21) daL_law_2490 dbL_law_2490.2.2.2.2.2.2.2.2.2.2.2.2.2.1
theorem dL_law_2512 : decode cL_law 2512 = .ok (.iadd, 1) := dgq (p := 22) daL_law_2490 dbL_law_2490.2.2.2.2.2.2.2.2.2.2.2.2.2.2.1
theorem dL_law_2513 : decode cL_law 2513 = .ok (.iaload, 1) := dgq (p := 23) daL_law_2490 dbL_law_2490.2.2.2.2.2.2.2.2.2.2.2.2.2.2.2.1
theorem dL_law_2514 : decode cL_law 2514 = .ok (.aload_n 0, 1) := dgq (p := 24) daL_law_2490 dbL_law_2490.2.2.2.2.2.2.2.2.2.2.2.2.2.2.2.2.1
theorem dL_law_2515 : decode cL_law 2515 = .ok (.iload 5, 2) := dgq (p := 25) daL_law_2490 dbL_law_2490.2.2.2.2.2.2.2.2.2.2.2.2.2.2.2.2.2.1
theorem dL_law_2517 : decode cL_law 2517 = .ok (.iconst 2, 1) := dgq (p := 27) daL_law_2490 dbL_law_2490.2.2.2.2.2.2.2.2.2.2.2.2.2.2.2.2.2.2.1
theorem dL_law_2518 : decode cL_law 2518 = .ok (.iadd, 1) := dgq (p := 28) daL_law_2490 dbL_law_2490.2.2.2.2.2.2.2.2.2.2.2.2.2.2.2.2.2.2.2.1
theorem dL_law_2519 : decode cL_law 2519 = .ok (.iaload, 1) := dgq (p := 29) daL_law_2490 dbL_law_2490.2.2.2.2.2.2.2.2.2.2.2.2.2.2.2.2.2.2.2.2.1
theorem dL_law_2520 : decode cL_law 2520 = .ok (.aload_n 0, 1) := dgq (p := 30) daL_law_2490 dbL_law_2490.2.2.2.2.2.2.2.2.2.2.2.2.2.2.2.2.2.2.2.2.2.1
theorem dL_law_2521 : decode cL_law 2521 = .ok (.iload 5, 2) := dgq (p := 31) daL_law_2490 dbL_law_2490.2.2.2.2.2.2.2.2.2.2.2.2.2.2.2.2.2.2.2.2.2.2.1
theorem dL_law_2523 : decode cL_law 2523 = .ok (.iconst 3, 1) := dgq (p := 33) daL_law_2490 dbL_law_2490.2.2.2.2.2.2.2.2.2.2.2.2.2.2.2.2.2.2.2.2.2.2.2
def dsL_law_2524 : ByteArray := ⟨#[96, 46, 45, 184, 1, 130, 54, 6, 44, 42, 21, 5, 4, 96, 46, 42, 21, 5, 5, 96, 46, 42, 21, 5, 6, 96, 46, 182, 1, 132, 54, 7, 167, 1, 119]⟩
theorem daL_law_2524 : agB cL_law dsL_law_2524 2524 := agB_of (n := 35) (by decide +kernel)
theorem dbL_law_2524 : (decode dsL_law_2524 0 = .ok (.iadd, 1) ∧ okop dsL_law_2524 0 = true) ∧ (decode dsL_law_2524 1 = .ok (.iaload, 1) ∧ okop dsL_law_2524 1 = true) ∧ (decode dsL_law_2524 2 = .ok (.aload_n 3, 1) ∧ okop dsL_law_2524 2 = true) ∧ (decode dsL_law_2524 3 = .ok (.invokestatic 386, 3) ∧ okop dsL_law_2524 3 = true) ∧ (decode dsL_law_2524 6 = .ok (.istore 6, 2) ∧ okop dsL_law_2524 6 = true) ∧ (decode dsL_law_2524 8 = .ok (.aload_n 2, 1) ∧ okop dsL_law_2524 8 = true) ∧ (decode dsL_law_2524 9 = .ok (.aload_n 0, 1) ∧ okop dsL_law_2524 9 = true) ∧ (decode dsL_law_2524 10 = .ok (.iload 5, 2) ∧ okop dsL_law_2524 10 = true) ∧ (decode dsL_law_2524 12 = .ok (.iconst 1, 1) ∧ okop dsL_law_2524 12 = true) ∧ (decode dsL_law_2524 13 = .ok (.iadd, 1) ∧ okop dsL_law_2524 13 = true) ∧ (decode dsL_law_2524 14 = .ok (.iaload, 1) ∧ okop dsL_law_2524 14 = true) ∧ (decode dsL_law_2524 15 = .ok (.aload_n 0, 1) ∧ okop dsL_law_2524 15 = true) ∧ (decode dsL_law_2524 16 = .ok (.iload 5, 2) ∧ okop dsL_law_2524 16 = true) ∧ (decode dsL_law_2524 18 = .ok (.iconst 2, 1) ∧ okop dsL_law_2524 18 = true) ∧ (decode dsL_law_2524 19 = .ok (.iadd, 1) ∧ okop dsL_law_2524 19 = true) ∧ (decode dsL_law_2524 20 = .ok (.iaload, 1) ∧ okop dsL_law_2524 20 = true) ∧ (decode dsL_law_2524 21 = .ok (.aload_n 0, 1) ∧ okop dsL_law_2524 21 = true) ∧ (decode dsL_law_2524 22 = .ok (.iload 5, 2) ∧ okop dsL_law_2524 22 = true) ∧ (decode dsL_law_2524 24 = .ok (.iconst 3, 1) ∧ okop dsL_law_2524 24 = true) ∧ (decode dsL_law_2524 25 = .ok (.iadd, 1) ∧ okop dsL_law_2524 25 = true) ∧ (decode dsL_law_2524 26 = .ok (.iaload, 1) ∧ okop dsL_law_2524 26 = true) ∧ (decode dsL_law_2524 27 = .ok (.invokevirtual 388, 3) ∧ okop dsL_law_2524 27 = true) ∧ (decode dsL_law_2524 30 = .ok (.istore 7, 2) ∧ okop dsL_law_2524 30 = true) ∧ (decode dsL_law_2524 32 = .ok (.goto 375, 3) ∧ okop dsL_law_2524 32 = true) := by decide +kernel
theorem dL_law_2524 : decode cL_law 2524 = .ok (.iadd, 1) := dgq (p := 0) daL_law_2524 dbL_law_2524.1
theorem dL_law_2525 : decode cL_law 2525 = .ok (.iaload, 1) := dgq (p := 1) daL_law_2524 dbL_law_2524.2.1
theorem dL_law_2526 : decode cL_law 2526 = .ok (.aload_n 3, 1) := dgq (p := 2) daL_law_2524 dbL_law_2524.2.2.1
theorem dL_law_2527 : decode cL_law 2527 = .ok (.invokestatic 386, 3) := dgq (p := 3) daL_law_2524 dbL_law_2524.2.2.2.1
theorem dL_law_2530 : decode cL_law 2530 = .ok (.istore 6, 2) := dgq (p := 6) daL_law_2524 dbL_law_2524.2.2.2.2.1
theorem dL_law_2532 : decode cL_law 2532 = .ok (.aload_n 2, 1) := dgq (p := 8) daL_law_2524 dbL_law_2524.2.2.2.2.2.1
theorem dL_law_2533 : decode cL_law 2533 = .ok (.aload_n 0, 1) := dgq (p := 9) daL_law_2524 dbL_law_2524.2.2.2.2.2.2.1
theorem dL_law_2534 : decode cL_law 2534 = .ok (.iload 5, 2) := dgq (p := 10) daL_law_2524 dbL_law_2524.2.2.2.2.2.2.2.1
theorem dL_law_2536 : decode cL_law 2536 = .ok (.iconst 1, 1) := dgq (p := 12) daL_law_2524 dbL_law_2524.2.2.2.2.2.2.2.2.1
theorem dL_law_2537 : decode cL_law 2537 = .ok (.iadd, 1) := dgq (p := 13) daL_law_2524 dbL_law_2524.2.2.2.2.2.2.2.2.2.1
theorem dL_law_2538 : decode cL_law 2538 = .ok (.iaload, 1) := dgq (p := 14) daL_law_2524 dbL_law_2524.2.2.2.2.2.2.2.2.2.2.1
theorem dL_law_2539 : decode cL_law 2539 = .ok (.aload_n 0, 1) := dgq (p := 15) daL_law_2524 dbL_law_2524.2.2.2.2.2.2.2.2.2.2.2.1
theorem dL_law_2540 : decode cL_law 2540 = .ok (.iload 5, 2) := dgq (p := 16) daL_law_2524 dbL_law_2524.2.2.2.2.2.2.2.2.2.2.2.2.1
theorem dL_law_2542 : decode cL_law 2542 = .ok (.iconst 2, 1) := dgq (p := 18) daL_law_2524 dbL_law_2524.2.2.2.2.2.2.2.2.2.2.2.2.2.1
theorem dL_law_2543 : decode cL_law 2543 = .ok (.iadd, 1) := dgq (p := 19) daL_law_2524 dbL_law_2524.2.2.2.2.2.2.2.2.2.2.2.2.2.2.1
theorem dL_law_2544 : decode cL_law 2544 = .ok (.iaload, 1) := dgq (p := 20) daL_law_2524 dbL_law_2524.2.2.2.2.2.2.2.2.2.2.2.2.2.2.2.1
theorem dL_law_2545 : decode cL_law 2545 = .ok (.aload_n 0, 1) := dgq (p := 21) daL_law_2524 dbL_law_2524.2.2.2.2.2.2.2.2.2.2.2.2.2.2.2.2.1
theorem dL_law_2546 : decode cL_law 2546 = .ok (.iload 5, 2) := dgq (p := 22) daL_law_2524 dbL_law_2524.2.2.2.2.2.2.2.2.2.2.2.2.2.2.2.2.2.1
theorem dL_law_2548 : decode cL_law 2548 = .ok (.iconst 3, 1) := dgq (p := 24) daL_law_2524 dbL_law_2524.2.2.2.2.2.2.2.2.2.2.2.2.2.2.2.2.2.2.1
theorem dL_law_2549 : decode cL_law 2549 = .ok (.iadd, 1) := dgq (p := 25) daL_law_2524 dbL_law_2524.2.2.2.2.2.2.2.2.2.2.2.2.2.2.2.2.2.2.2.1
theorem dL_law_2550 : decode cL_law 2550 = .ok (.iaload, 1) := dgq (p := 26) daL_law_2524 dbL_law_2524.2.2.2.2.2.2.2.2.2.2.2.2.2.2.2.2.2.2.2.2.1
theorem dL_law_2551 : decode cL_law 2551 = .ok (.invokevirtual 388, 3) := dgq (p := 27) daL_law_2524 dbL_law_2524.2.2.2.2.2.2.2.2.2.2.2.2.2.2.2.2.2.2.2.2.2.1
theorem dL_law_2554 : decode cL_law 2554 = .ok (.istore 7, 2) := dgq (p := 30) daL_law_2524 dbL_law_2524.2.2.2.2.2.2.2.2.2.2.2.2.2.2.2.2.2.2.2.2.2.2.1
theorem dL_law_2556 : decode cL_law 2556 = .ok (.goto 375, 3) := dgq (p := 32) daL_law_2524 dbL_law_2524.2.2.2.2.2.2.2.2.2.2.2.2.2.2.2.2.2.2.2.2.2.2.2
def dsL_law_2559 : ByteArray := ⟨#[43, 42, 21, 5, 4, 96, 46, 45, 184, 1, 133, 54, 6, 44, 42, 21, 5, 4, 96, 46, 182, 1, 135, 54, 7, 167, 1, 91, 43, 42, 21, 5, 4, 96, 46]⟩
theorem daL_law_2559 : agB cL_law dsL_law_2559 2559 := agB_of (n := 35) (by decide +kernel)
theorem dbL_law_2559 : (decode dsL_law_2559 0 = .ok (.aload_n 1, 1) ∧ okop dsL_law_2559 0 = true) ∧ (decode dsL_law_2559 1 = .ok (.aload_n 0, 1) ∧ okop dsL_law_2559 1 = true) ∧ (decode dsL_law_2559 2 = .ok (.iload 5, 2) ∧ okop dsL_law_2559 2 = true) ∧ (decode dsL_law_2559 4 = .ok (.iconst 1, 1) ∧ okop dsL_law_2559 4 = true) ∧ (decode dsL_law_2559 5 = .ok (.iadd, 1) ∧ okop dsL_law_2559 5 = true) ∧ (decode dsL_law_2559 6 = .ok (.iaload, 1) ∧ okop dsL_law_2559 6 = true) ∧ (decode dsL_law_2559 7 = .ok (.aload_n 3, 1) ∧ okop dsL_law_2559 7 = true) ∧ (decode dsL_law_2559 8 = .ok (.invokestatic 389, 3) ∧ okop dsL_law_2559 8 = true) ∧ (decode dsL_law_2559 11 = .ok (.istore 6, 2) ∧ okop dsL_law_2559 11 = true) ∧ (decode dsL_law_2559 13 = .ok (.aload_n 2, 1) ∧ okop dsL_law_2559 13 = true) ∧ (decode dsL_law_2559 14 = .ok (.aload_n 0, 1) ∧ okop dsL_law_2559 14 = true) ∧ (decode dsL_law_2559 15 = .ok (.iload 5, 2) ∧ okop dsL_law_2559 15 = true) ∧ (decode dsL_law_2559 17 = .ok (.iconst 1, 1) ∧ okop dsL_law_2559 17 = true) ∧ (decode dsL_law_2559 18 = .ok (.iadd, 1) ∧ okop dsL_law_2559 18 = true) ∧ (decode dsL_law_2559 19 = .ok (.iaload, 1) ∧ okop dsL_law_2559 19 = true) ∧ (decode dsL_law_2559 20 = .ok (.invokevirtual 391, 3) ∧ okop dsL_law_2559 20 = true) ∧ (decode dsL_law_2559 23 = .ok (.istore 7, 2) ∧ okop dsL_law_2559 23 = true) ∧ (decode dsL_law_2559 25 = .ok (.goto 347, 3) ∧ okop dsL_law_2559 25 = true) ∧ (decode dsL_law_2559 28 = .ok (.aload_n 1, 1) ∧ okop dsL_law_2559 28 = true) ∧ (decode dsL_law_2559 29 = .ok (.aload_n 0, 1) ∧ okop dsL_law_2559 29 = true) ∧ (decode dsL_law_2559 30 = .ok (.iload 5, 2) ∧ okop dsL_law_2559 30 = true) ∧ (decode dsL_law_2559 32 = .ok (.iconst 1, 1) ∧ okop dsL_law_2559 32 = true) ∧ (decode dsL_law_2559 33 = .ok (.iadd, 1) ∧ okop dsL_law_2559 33 = true) ∧ (decode dsL_law_2559 34 = .ok (.iaload, 1) ∧ okop dsL_law_2559 34 = true) := by decide +kernel
theorem dL_law_2559 : decode cL_law 2559 = .ok (.aload_n 1, 1) := dgq (p := 0) daL_law_2559 dbL_law_2559.1
theorem dL_law_2560 : decode cL_law 2560 = .ok (.aload_n 0, 1) := dgq (p := 1) daL_law_2559 dbL_law_2559.2.1
theorem dL_law_2561 : decode cL_law 2561 = .ok (.iload 5, 2) := dgq (p := 2) daL_law_2559 dbL_law_2559.2.2.1
theorem dL_law_2563 : decode cL_law 2563 = .ok (.iconst 1, 1) := dgq (p := 4) daL_law_2559 dbL_law_2559.2.2.2.1
theorem dL_law_2564 : decode cL_law 2564 = .ok (.iadd, 1) := dgq (p := 5) daL_law_2559 dbL_law_2559.2.2.2.2.1
theorem dL_law_2565 : decode cL_law 2565 = .ok (.iaload, 1) := dgq (p := 6) daL_law_2559 dbL_law_2559.2.2.2.2.2.1
theorem dL_law_2566 : decode cL_law 2566 = .ok (.aload_n 3, 1) := dgq (p := 7) daL_law_2559 dbL_law_2559.2.2.2.2.2.2.1
theorem dL_law_2567 : decode cL_law 2567 = .ok (.invokestatic 389, 3) := dgq (p := 8) daL_law_2559 dbL_law_2559.2.2.2.2.2.2.2.1
theorem dL_law_2570 : decode cL_law 2570 = .ok (.istore 6, 2) := dgq (p := 11) daL_law_2559 dbL_law_2559.2.2.2.2.2.2.2.2.1
theorem dL_law_2572 : decode cL_law 2572 = .ok (.aload_n 2, 1) := dgq (p := 13) daL_law_2559 dbL_law_2559.2.2.2.2.2.2.2.2.2.1
theorem dL_law_2573 : decode cL_law 2573 = .ok (.aload_n 0, 1) := dgq (p := 14) daL_law_2559 dbL_law_2559.2.2.2.2.2.2.2.2.2.2.1
theorem dL_law_2574 : decode cL_law 2574 = .ok (.iload 5, 2) := dgq (p := 15) daL_law_2559 dbL_law_2559.2.2.2.2.2.2.2.2.2.2.2.1
theorem dL_law_2576 : decode cL_law 2576 = .ok (.iconst 1, 1) := dgq (p := 17) daL_law_2559 dbL_law_2559.2.2.2.2.2.2.2.2.2.2.2.2.1
theorem dL_law_2577 : decode cL_law 2577 = .ok (.iadd, 1) := dgq (p := 18) daL_law_2559 dbL_law_2559.2.2.2.2.2.2.2.2.2.2.2.2.2.1
theorem dL_law_2578 : decode cL_law 2578 = .ok (.iaload, 1) := dgq (p := 19) daL_law_2559 dbL_law_2559.2.2.2.2.2.2.2.2.2.2.2.2.2.2.1
theorem dL_law_2579 : decode cL_law 2579 = .ok (.invokevirtual 391, 3) := dgq (p := 20) daL_law_2559 dbL_law_2559.2.2.2.2.2.2.2.2.2.2.2.2.2.2.2.1
theorem dL_law_2582 : decode cL_law 2582 = .ok (.istore 7, 2) := dgq (p := 23) daL_law_2559 dbL_law_2559.2.2.2.2.2.2.2.2.2.2.2.2.2.2.2.2.1
theorem dL_law_2584 : decode cL_law 2584 = .ok (.goto 347, 3) := dgq (p := 25) daL_law_2559 dbL_law_2559.2.2.2.2.2.2.2.2.2.2.2.2.2.2.2.2.2.1
theorem dL_law_2587 : decode cL_law 2587 = .ok (.aload_n 1, 1) := dgq (p := 28) daL_law_2559 dbL_law_2559.2.2.2.2.2.2.2.2.2.2.2.2.2.2.2.2.2.2.1
theorem dL_law_2588 : decode cL_law 2588 = .ok (.aload_n 0, 1) := dgq (p := 29) daL_law_2559 dbL_law_2559.2.2.2.2.2.2.2.2.2.2.2.2.2.2.2.2.2.2.2.1
theorem dL_law_2589 : decode cL_law 2589 = .ok (.iload 5, 2) := dgq (p := 30) daL_law_2559 dbL_law_2559.2.2.2.2.2.2.2.2.2.2.2.2.2.2.2.2.2.2.2.2.1
theorem dL_law_2591 : decode cL_law 2591 = .ok (.iconst 1, 1) := dgq (p := 32) daL_law_2559 dbL_law_2559.2.2.2.2.2.2.2.2.2.2.2.2.2.2.2.2.2.2.2.2.2.1
theorem dL_law_2592 : decode cL_law 2592 = .ok (.iadd, 1) := dgq (p := 33) daL_law_2559 dbL_law_2559.2.2.2.2.2.2.2.2.2.2.2.2.2.2.2.2.2.2.2.2.2.2.1
theorem dL_law_2593 : decode cL_law 2593 = .ok (.iaload, 1) := dgq (p := 34) daL_law_2559 dbL_law_2559.2.2.2.2.2.2.2.2.2.2.2.2.2.2.2.2.2.2.2.2.2.2.2
def dsL_law_2594 : ByteArray := ⟨#[45, 184, 1, 136, 54, 6, 44, 42, 21, 5, 4, 96, 46, 182, 1, 138, 54, 7, 167, 1, 63, 43, 42, 21, 5, 4, 96, 46, 146, 42, 21, 5, 5, 96, 46]⟩
theorem daL_law_2594 : agB cL_law dsL_law_2594 2594 := agB_of (n := 35) (by decide +kernel)
theorem dbL_law_2594 : (decode dsL_law_2594 0 = .ok (.aload_n 3, 1) ∧ okop dsL_law_2594 0 = true) ∧ (decode dsL_law_2594 1 = .ok (.invokestatic 392, 3) ∧ okop dsL_law_2594 1 = true) ∧ (decode dsL_law_2594 4 = .ok (.istore 6, 2) ∧ okop dsL_law_2594 4 = true) ∧ (decode dsL_law_2594 6 = .ok (.aload_n 2, 1) ∧ okop dsL_law_2594 6 = true) ∧ (decode dsL_law_2594 7 = .ok (.aload_n 0, 1) ∧ okop dsL_law_2594 7 = true) ∧ (decode dsL_law_2594 8 = .ok (.iload 5, 2) ∧ okop dsL_law_2594 8 = true) ∧ (decode dsL_law_2594 10 = .ok (.iconst 1, 1) ∧ okop dsL_law_2594 10 = true) ∧ (decode dsL_law_2594 11 = .ok (.iadd, 1) ∧ okop dsL_law_2594 11 = true) ∧ (decode dsL_law_2594 12 = .ok (.iaload, 1) ∧ okop dsL_law_2594 12 = true) ∧ (decode dsL_law_2594 13 = .ok (.invokevirtual 394, 3) ∧ okop dsL_law_2594 13 = true) ∧ (decode dsL_law_2594 16 = .ok (.istore 7, 2) ∧ okop dsL_law_2594 16 = true) ∧ (decode dsL_law_2594 18 = .ok (.goto 319, 3) ∧ okop dsL_law_2594 18 = true) ∧ (decode dsL_law_2594 21 = .ok (.aload_n 1, 1) ∧ okop dsL_law_2594 21 = true) ∧ (decode dsL_law_2594 22 = .ok (.aload_n 0, 1) ∧ okop dsL_law_2594 22 = true) ∧ (decode dsL_law_2594 23 = .ok (.iload 5, 2) ∧ okop dsL_law_2594 23 = true) ∧ (decode dsL_law_2594 25 = .ok (.iconst 1, 1) ∧ okop dsL_law_2594 25 = true) ∧ (decode dsL_law_2594 26 = .ok (.iadd, 1) ∧ okop dsL_law_2594 26 = true) ∧ (decode dsL_law_2594 27 = .ok (.iaload, 1) ∧ okop dsL_law_2594 27 = true) ∧ (decode dsL_law_2594 28 = .ok (.i2c, 1) ∧ okop dsL_law_2594 28 = true) ∧ (decode dsL_law_2594 29 = .ok (.aload_n 0, 1) ∧ okop dsL_law_2594 29 = true) ∧ (decode dsL_law_2594 30 = .ok (.iload 5, 2) ∧ okop dsL_law_2594 30 = true) ∧ (decode dsL_law_2594 32 = .ok (.iconst 2, 1) ∧ okop dsL_law_2594 32 = true) ∧ (decode dsL_law_2594 33 = .ok (.iadd, 1) ∧ okop dsL_law_2594 33 = true) ∧ (decode dsL_law_2594 34 = .ok (.iaload, 1) ∧ okop dsL_law_2594 34 = true) := by decide +kernel
theorem dL_law_2594 : decode cL_law 2594 = .ok (.aload_n 3, 1) := dgq (p := 0) daL_law_2594 dbL_law_2594.1
theorem dL_law_2595 : decode cL_law 2595 = .ok (.invokestatic 392, 3) := dgq (p := 1) daL_law_2594 dbL_law_2594.2.1
theorem dL_law_2598 : decode cL_law 2598 = .ok (.istore 6, 2) := dgq (p := 4) daL_law_2594 dbL_law_2594.2.2.1
theorem dL_law_2600 : decode cL_law 2600 = .ok (.aload_n 2, 1) := dgq (p := 6) daL_law_2594 dbL_law_2594.2.2.2.1
theorem dL_law_2601 : decode cL_law 2601 = .ok (.aload_n 0, 1) := dgq (p := 7) daL_law_2594 dbL_law_2594.2.2.2.2.1
theorem dL_law_2602 : decode cL_law 2602 = .ok (.iload 5, 2) := dgq (p := 8) daL_law_2594 dbL_law_2594.2.2.2.2.2.1
theorem dL_law_2604 : decode cL_law 2604 = .ok (.iconst 1, 1) := dgq (p := 10) daL_law_2594 dbL_law_2594.2.2.2.2.2.2.1
theorem dL_law_2605 : decode cL_law 2605 = .ok (.iadd, 1) := dgq (p := 11) daL_law_2594 dbL_law_2594.2.2.2.2.2.2.2.1
theorem dL_law_2606 : decode cL_law 2606 = .ok (.iaload, 1) := dgq (p := 12) daL_law_2594 dbL_law_2594.2.2.2.2.2.2.2.2.1
theorem dL_law_2607 : decode cL_law 2607 = .ok (.invokevirtual 394, 3) := dgq (p := 13) daL_law_2594 dbL_law_2594.2.2.2.2.2.2.2.2.2.1
theorem dL_law_2610 : decode cL_law 2610 = .ok (.istore 7, 2) := dgq (p := 16) daL_law_2594 dbL_law_2594.2.2.2.2.2.2.2.2.2.2.1
theorem dL_law_2612 : decode cL_law 2612 = .ok (.goto 319, 3) := dgq (p := 18) daL_law_2594 dbL_law_2594.2.2.2.2.2.2.2.2.2.2.2.1
theorem dL_law_2615 : decode cL_law 2615 = .ok (.aload_n 1, 1) := dgq (p := 21) daL_law_2594 dbL_law_2594.2.2.2.2.2.2.2.2.2.2.2.2.1
theorem dL_law_2616 : decode cL_law 2616 = .ok (.aload_n 0, 1) := dgq (p := 22) daL_law_2594 dbL_law_2594.2.2.2.2.2.2.2.2.2.2.2.2.2.1
theorem dL_law_2617 : decode cL_law 2617 = .ok (.iload 5, 2) := dgq (p := 23) daL_law_2594 dbL_law_2594.2.2.2.2.2.2.2.2.2.2.2.2.2.2.1
theorem dL_law_2619 : decode cL_law 2619 = .ok (.iconst 1, 1) := dgq (p := 25) daL_law_2594 dbL_law_2594.2.2.2.2.2.2.2.2.2.2.2.2.2.2.2.1
theorem dL_law_2620 : decode cL_law 2620 = .ok (.iadd, 1) := dgq (p := 26) daL_law_2594 dbL_law_2594.2.2.2.2.2.2.2.2.2.2.2.2.2.2.2.2.1
theorem dL_law_2621 : decode cL_law 2621 = .ok (.iaload, 1) := dgq (p := 27) daL_law_2594 dbL_law_2594.2.2.2.2.2.2.2.2.2.2.2.2.2.2.2.2.2.1
theorem dL_law_2622 : decode cL_law 2622 = .ok (.i2c, 1) := dgq (p := 28) daL_law_2594 dbL_law_2594.2.2.2.2.2.2.2.2.2.2.2.2.2.2.2.2.2.2.1
theorem dL_law_2623 : decode cL_law 2623 = .ok (.aload_n 0, 1) := dgq (p := 29) daL_law_2594 dbL_law_2594.2.2.2.2.2.2.2.2.2.2.2.2.2.2.2.2.2.2.2.1
theorem dL_law_2624 : decode cL_law 2624 = .ok (.iload 5, 2) := dgq (p := 30) daL_law_2594 dbL_law_2594.2.2.2.2.2.2.2.2.2.2.2.2.2.2.2.2.2.2.2.2.1
theorem dL_law_2626 : decode cL_law 2626 = .ok (.iconst 2, 1) := dgq (p := 32) daL_law_2594 dbL_law_2594.2.2.2.2.2.2.2.2.2.2.2.2.2.2.2.2.2.2.2.2.2.1
theorem dL_law_2627 : decode cL_law 2627 = .ok (.iadd, 1) := dgq (p := 33) daL_law_2594 dbL_law_2594.2.2.2.2.2.2.2.2.2.2.2.2.2.2.2.2.2.2.2.2.2.2.1
theorem dL_law_2628 : decode cL_law 2628 = .ok (.iaload, 1) := dgq (p := 34) daL_law_2594 dbL_law_2594.2.2.2.2.2.2.2.2.2.2.2.2.2.2.2.2.2.2.2.2.2.2.2
def dsL_law_2629 : ByteArray := ⟨#[45, 184, 1, 139, 54, 6, 44, 42, 21, 5, 4, 96, 46, 146, 42, 21, 5, 5, 96, 46, 182, 1, 142, 54, 7, 167, 1, 21, 43, 42, 21, 5, 4, 96, 46]⟩
theorem daL_law_2629 : agB cL_law dsL_law_2629 2629 := agB_of (n := 35) (by decide +kernel)
theorem dbL_law_2629 : (decode dsL_law_2629 0 = .ok (.aload_n 3, 1) ∧ okop dsL_law_2629 0 = true) ∧ (decode dsL_law_2629 1 = .ok (.invokestatic 395, 3) ∧ okop dsL_law_2629 1 = true) ∧ (decode dsL_law_2629 4 = .ok (.istore 6, 2) ∧ okop dsL_law_2629 4 = true) ∧ (decode dsL_law_2629 6 = .ok (.aload_n 2, 1) ∧ okop dsL_law_2629 6 = true) ∧ (decode dsL_law_2629 7 = .ok (.aload_n 0, 1) ∧ okop dsL_law_2629 7 = true) ∧ (decode dsL_law_2629 8 = .ok (.iload 5, 2) ∧ okop dsL_law_2629 8 = true) ∧ (decode dsL_law_2629 10 = .ok (.iconst 1, 1) ∧ okop dsL_law_2629 10 = true) ∧ (decode dsL_law_2629 11 = .ok (.iadd, 1) ∧ okop dsL_law_2629 11 = true) ∧ (decode dsL_law_2629 12 = .ok (.iaload, 1) ∧ okop dsL_law_2629 12 = true) ∧ (decode dsL_law_2629 13 = .ok (.i2c, 1) ∧ okop dsL_law_2629 13 = true) ∧ (decode dsL_law_2629 14 = .ok (.aload_n 0, 1) ∧ okop dsL_law_2629 14 = true) ∧ (decode dsL_law_2629 15 = .ok (.iload 5, 2) ∧ okop dsL_law_2629 15 = true) ∧ (decode dsL_law_2629 17 = .ok (.iconst 2, 1) ∧ okop dsL_law_2629 17 = true) ∧ (decode dsL_law_2629 18 = .ok (.iadd, 1) ∧ okop dsL_law_2629 18 = true) ∧ (decode dsL_law_2629 19 = .ok (.iaload, 1) ∧ okop dsL_law_2629 19 = true) ∧ (decode dsL_law_2629 20 = .ok (.invokevirtual 398, 3) ∧ okop dsL_law_2629 20 = true) ∧ (decode dsL_law_2629 23 = .ok (.istore 7, 2) ∧ okop dsL_law_2629 23 = true) ∧ (decode dsL_law_2629 25 = .ok (.goto 277, 3) ∧ okop dsL_law_2629 25 = true) ∧ (decode dsL_law_2629 28 = .ok (.aload_n 1, 1) ∧ okop dsL_law_2629 28 = true) ∧ (decode dsL_law_2629 29 = .ok (.aload_n 0, 1) ∧ okop dsL_law_2629 29 = true) ∧ (decode dsL_law_2629 30 = .ok (.iload 5, 2) ∧ okop dsL_law_2629 30 = true) ∧ (decode dsL_law_2629 32 = .ok (.iconst 1, 1) ∧ okop dsL_law_2629 32 = true) ∧ (decode dsL_law_2629 33 = .ok (.iadd, 1) ∧ okop dsL_law_2629 33 = true) ∧ (decode dsL_law_2629 34 = .ok (.iaload, 1) ∧ okop dsL_law_2629 34 = true) := by decide +kernel
theorem dL_law_2629 : decode cL_law 2629 = .ok (.aload_n 3, 1) := dgq (p := 0) daL_law_2629 dbL_law_2629.1
theorem dL_law_2630 : decode cL_law 2630 = .ok (.invokestatic 395, 3) := dgq (p := 1) daL_law_2629 dbL_law_2629.2.1
theorem dL_law_2633 : decode cL_law 2633 = .ok (.istore 6, 2) := dgq (p := 4) daL_law_2629 dbL_law_2629.2.2.1
theorem dL_law_2635 : decode cL_law 2635 = .ok (.aload_n 2, 1) := dgq (p := 6) daL_law_2629 dbL_law_2629.2.2.2.1
theorem dL_law_2636 : decode cL_law 2636 = .ok (.aload_n 0, 1) := dgq (p := 7) daL_law_2629 dbL_law_2629.2.2.2.2.1
theorem dL_law_2637 : decode cL_law 2637 = .ok (.iload 5, 2) := dgq (p := 8) daL_law_2629 dbL_law_2629.2.2.2.2.2.1
theorem dL_law_2639 : decode cL_law 2639 = .ok (.iconst 1, 1) := dgq (p := 10) daL_law_2629 dbL_law_2629.2.2.2.2.2.2.1
theorem dL_law_2640 : decode cL_law 2640 = .ok (.iadd, 1) := dgq (p := 11) daL_law_2629 dbL_law_2629.2.2.2.2.2.2.2.1
theorem dL_law_2641 : decode cL_law 2641 = .ok (.iaload, 1) := dgq (p := 12) daL_law_2629 dbL_law_2629.2.2.2.2.2.2.2.2.1
theorem dL_law_2642 : decode cL_law 2642 = .ok (.i2c, 1) := dgq (p := 13) daL_law_2629 dbL_law_2629.2.2.2.2.2.2.2.2.2.1
theorem dL_law_2643 : decode cL_law 2643 = .ok (.aload_n 0, 1) := dgq (p := 14) daL_law_2629 dbL_law_2629.2.2.2.2.2.2.2.2.2.2.1
theorem dL_law_2644 : decode cL_law 2644 = .ok (.iload 5, 2) := dgq (p := 15) daL_law_2629 dbL_law_2629.2.2.2.2.2.2.2.2.2.2.2.1
theorem dL_law_2646 : decode cL_law 2646 = .ok (.iconst 2, 1) := dgq (p := 17) daL_law_2629 dbL_law_2629.2.2.2.2.2.2.2.2.2.2.2.2.1
theorem dL_law_2647 : decode cL_law 2647 = .ok (.iadd, 1) := dgq (p := 18) daL_law_2629 dbL_law_2629.2.2.2.2.2.2.2.2.2.2.2.2.2.1
theorem dL_law_2648 : decode cL_law 2648 = .ok (.iaload, 1) := dgq (p := 19) daL_law_2629 dbL_law_2629.2.2.2.2.2.2.2.2.2.2.2.2.2.2.1
theorem dL_law_2649 : decode cL_law 2649 = .ok (.invokevirtual 398, 3) := dgq (p := 20) daL_law_2629 dbL_law_2629.2.2.2.2.2.2.2.2.2.2.2.2.2.2.2.1
theorem dL_law_2652 : decode cL_law 2652 = .ok (.istore 7, 2) := dgq (p := 23) daL_law_2629 dbL_law_2629.2.2.2.2.2.2.2.2.2.2.2.2.2.2.2.2.1
theorem dL_law_2654 : decode cL_law 2654 = .ok (.goto 277, 3) := dgq (p := 25) daL_law_2629 dbL_law_2629.2.2.2.2.2.2.2.2.2.2.2.2.2.2.2.2.2.1
theorem dL_law_2657 : decode cL_law 2657 = .ok (.aload_n 1, 1) := dgq (p := 28) daL_law_2629 dbL_law_2629.2.2.2.2.2.2.2.2.2.2.2.2.2.2.2.2.2.2.1
theorem dL_law_2658 : decode cL_law 2658 = .ok (.aload_n 0, 1) := dgq (p := 29) daL_law_2629 dbL_law_2629.2.2.2.2.2.2.2.2.2.2.2.2.2.2.2.2.2.2.2.1
theorem dL_law_2659 : decode cL_law 2659 = .ok (.iload 5, 2) := dgq (p := 30) daL_law_2629 dbL_law_2629.2.2.2.2.2.2.2.2.2.2.2.2.2.2.2.2.2.2.2.2.1
theorem dL_law_2661 : decode cL_law 2661 = .ok (.iconst 1, 1) := dgq (p := 32) daL_law_2629 dbL_law_2629.2.2.2.2.2.2.2.2.2.2.2.2.2.2.2.2.2.2.2.2.2.1
theorem dL_law_2662 : decode cL_law 2662 = .ok (.iadd, 1) := dgq (p := 33) daL_law_2629 dbL_law_2629.2.2.2.2.2.2.2.2.2.2.2.2.2.2.2.2.2.2.2.2.2.2.1
theorem dL_law_2663 : decode cL_law 2663 = .ok (.iaload, 1) := dgq (p := 34) daL_law_2629 dbL_law_2629.2.2.2.2.2.2.2.2.2.2.2.2.2.2.2.2.2.2.2.2.2.2.2
def dsL_law_2664 : ByteArray := ⟨#[42, 21, 5, 5, 96, 46, 45, 184, 1, 143, 54, 6, 44, 42, 21, 5, 4, 96, 46, 42, 21, 5, 5, 96, 46, 182, 1, 145, 54, 7, 167, 0, 237, 43, 42]⟩
theorem daL_law_2664 : agB cL_law dsL_law_2664 2664 := agB_of (n := 35) (by decide +kernel)
theorem dbL_law_2664 : (decode dsL_law_2664 0 = .ok (.aload_n 0, 1) ∧ okop dsL_law_2664 0 = true) ∧ (decode dsL_law_2664 1 = .ok (.iload 5, 2) ∧ okop dsL_law_2664 1 = true) ∧ (decode dsL_law_2664 3 = .ok (.iconst 2, 1) ∧ okop dsL_law_2664 3 = true) ∧ (decode dsL_law_2664 4 = .ok (.iadd, 1) ∧ okop dsL_law_2664 4 = true) ∧ (decode dsL_law_2664 5 = .ok (.iaload, 1) ∧ okop dsL_law_2664 5 = true) ∧ (decode dsL_law_2664 6 = .ok (.aload_n 3, 1) ∧ okop dsL_law_2664 6 = true) ∧ (decode dsL_law_2664 7 = .ok (.invokestatic 399, 3) ∧ okop dsL_law_2664 7 = true) ∧ (decode dsL_law_2664 10 = .ok (.istore 6, 2) ∧ okop dsL_law_2664 10 = true) ∧ (decode dsL_law_2664 12 = .ok (.aload_n 2, 1) ∧ okop dsL_law_2664 12 = true) ∧ (decode dsL_law_2664 13 = .ok (.aload_n 0, 1) ∧ okop dsL_law_2664 13 = true) ∧ (decode dsL_law_2664 14 = .ok (.iload 5, 2) ∧ okop dsL_law_2664 14 = true) ∧ (decode dsL_law_2664 16 = .ok (.iconst 1, 1) ∧ okop dsL_law_2664 16 = true) ∧ (decode dsL_law_2664 17 = .ok (.iadd, 1) ∧ okop dsL_law_2664 17 = true) ∧ (decode dsL_law_2664 18 = .ok (.iaload, 1) ∧ okop dsL_law_2664 18 = true) ∧ (decode dsL_law_2664 19 = .ok (.aload_n 0, 1) ∧ okop dsL_law_2664 19 = true) ∧ (decode dsL_law_2664 20 = .ok (.iload 5, 2) ∧ okop dsL_law_2664 20 = true) ∧ (decode dsL_law_2664 22 = .ok (.iconst 2, 1) ∧ okop dsL_law_2664 22 = true) ∧ (decode dsL_law_2664 23 = .ok (.iadd, 1) ∧ okop dsL_law_2664 23 = true) ∧ (decode dsL_law_2664 24 = .ok (.iaload, 1) ∧ okop dsL_law_2664 24 = true) ∧ (decode dsL_law_2664 25 = .ok (.invokevirtual 401, 3) ∧ okop dsL_law_2664 25 = true) ∧ (decode dsL_law_2664 28 = .ok (.istore 7, 2) ∧ okop dsL_law_2664 28 = true) ∧ (decode dsL_law_2664 30 = .ok (.goto 237, 3) ∧ okop dsL_law_2664 30 = true) ∧ (decode dsL_law_2664 33 = .ok (.aload_n 1, 1) ∧ okop dsL_law_2664 33 = true) ∧ (decode dsL_law_2664 34 = .ok (.aload_n 0, 1) ∧ okop dsL_law_2664 34 = true) := by decide +kernel
theorem dL_law_2664 : decode cL_law 2664 = .ok (.aload_n 0, 1) := dgq (p := 0) daL_law_2664 dbL_law_2664.1
theorem dL_law_2665 : decode cL_law 2665 = .ok (.iload 5, 2) := dgq (p := 1) daL_law_2664 dbL_law_2664.2.1
theorem dL_law_2667 : decode cL_law 2667 = .ok (.iconst 2, 1) := dgq (p := 3) daL_law_2664 dbL_law_2664.2.2.1
theorem dL_law_2668 : decode cL_law 2668 = .ok (.iadd, 1) := dgq (p := 4) daL_law_2664 dbL_law_2664.2.2.2.1
theorem dL_law_2669 : decode cL_law 2669 = .ok (.iaload, 1) := dgq (p := 5) daL_law_2664 dbL_law_2664.2.2.2.2.1
theorem dL_law_2670 : decode cL_law 2670 = .ok (.aload_n 3, 1) := dgq (p := 6) daL_law_2664 dbL_law_2664.2.2.2.2.2.1
theorem dL_law_2671 : decode cL_law 2671 = .ok (.invokestatic 399, 3) := dgq (p := 7) daL_law_2664 dbL_law_2664.2.2.2.2.2.2.1
theorem dL_law_2674 : decode cL_law 2674 = .ok (.istore 6, 2) := dgq (p := 10) daL_law_2664 dbL_law_2664.2.2.2.2.2.2.2.1
theorem dL_law_2676 : decode cL_law 2676 = .ok (.aload_n 2, 1) := dgq (p := 12) daL_law_2664 dbL_law_2664.2.2.2.2.2.2.2.2.1
theorem dL_law_2677 : decode cL_law 2677 = .ok (.aload_n 0, 1) := dgq (p := 13) daL_law_2664 dbL_law_2664.2.2.2.2.2.2.2.2.2.1
theorem dL_law_2678 : decode cL_law 2678 = .ok (.iload 5, 2) := dgq (p := 14) daL_law_2664 dbL_law_2664.2.2.2.2.2.2.2.2.2.2.1
theorem dL_law_2680 : decode cL_law 2680 = .ok (.iconst 1, 1) := dgq (p := 16) daL_law_2664 dbL_law_2664.2.2.2.2.2.2.2.2.2.2.2.1
theorem dL_law_2681 : decode cL_law 2681 = .ok (.iadd, 1) := dgq (p := 17) daL_law_2664 dbL_law_2664.2.2.2.2.2.2.2.2.2.2.2.2.1
theorem dL_law_2682 : decode cL_law 2682 = .ok (.iaload, 1) := dgq (p := 18) daL_law_2664 dbL_law_2664.2.2.2.2.2.2.2.2.2.2.2.2.2.1
theorem dL_law_2683 : decode cL_law 2683 = .ok (.aload_n 0, 1) := dgq (p := 19) daL_law_2664 dbL_law_2664.2.2.2.2.2.2.2.2.2.2.2.2.2.2.1
theorem dL_law_2684 : decode cL_law 2684 = .ok (.iload 5, 2) := dgq (p := 20) daL_law_2664 dbL_law_2664.2.2.2.2.2.2.2.2.2.2.2.2.2.2.2.1
theorem dL_law_2686 : decode cL_law 2686 = .ok (.iconst 2, 1) := dgq (p := 22) daL_law_2664 dbL_law_2664.2.2.2.2.2.2.2.2.2.2.2.2.2.2.2.2.1
theorem dL_law_2687 : decode cL_law 2687 = .ok (.iadd, 1) := dgq (p := 23) daL_law_2664 dbL_law_2664.2.2.2.2.2.2.2.2.2.2.2.2.2.2.2.2.2.1
theorem dL_law_2688 : decode cL_law 2688 = .ok (.iaload, 1) := dgq (p := 24) daL_law_2664 dbL_law_2664.2.2.2.2.2.2.2.2.2.2.2.2.2.2.2.2.2.2.1
theorem dL_law_2689 : decode cL_law 2689 = .ok (.invokevirtual 401, 3) := dgq (p := 25) daL_law_2664 dbL_law_2664.2.2.2.2.2.2.2.2.2.2.2.2.2.2.2.2.2.2.2.1
theorem dL_law_2692 : decode cL_law 2692 = .ok (.istore 7, 2) := dgq (p := 28) daL_law_2664 dbL_law_2664.2.2.2.2.2.2.2.2.2.2.2.2.2.2.2.2.2.2.2.2.1
theorem dL_law_2694 : decode cL_law 2694 = .ok (.goto 237, 3) := dgq (p := 30) daL_law_2664 dbL_law_2664.2.2.2.2.2.2.2.2.2.2.2.2.2.2.2.2.2.2.2.2.2.1
theorem dL_law_2697 : decode cL_law 2697 = .ok (.aload_n 1, 1) := dgq (p := 33) daL_law_2664 dbL_law_2664.2.2.2.2.2.2.2.2.2.2.2.2.2.2.2.2.2.2.2.2.2.2.1
theorem dL_law_2698 : decode cL_law 2698 = .ok (.aload_n 0, 1) := dgq (p := 34) daL_law_2664 dbL_law_2664.2.2.2.2.2.2.2.2.2.2.2.2.2.2.2.2.2.2.2.2.2.2.2
def dsL_law_2699 : ByteArray := ⟨#[21, 5, 4, 96, 46, 42, 21, 5, 5, 96, 46, 146, 45, 184, 1, 146, 54, 6, 44, 42, 21, 5, 4, 96, 46, 42, 21, 5, 5, 96, 46]⟩
theorem daL_law_2699 : agB cL_law dsL_law_2699 2699 := agB_of (n := 31) (by decide +kernel)
theorem dbL_law_2699 : (decode dsL_law_2699 0 = .ok (.iload 5, 2) ∧ okop dsL_law_2699 0 = true) ∧ (decode dsL_law_2699 2 = .ok (.iconst 1, 1) ∧ okop dsL_law_2699 2 = true) ∧ (decode dsL_law_2699 3 = .ok (.iadd, 1) ∧ okop dsL_law_2699 3 = true) ∧ (decode dsL_law_2699 4 = .ok (.iaload, 1) ∧ okop dsL_law_2699 4 = true) ∧ (decode dsL_law_2699 5 = .ok (.aload_n 0, 1) ∧ okop dsL_law_2699 5 = true) ∧ (decode dsL_law_2699 6 = .ok (.iload 5, 2) ∧ okop dsL_law_2699 6 = true) ∧ (decode dsL_law_2699 8 = .ok (.iconst 2, 1) ∧ okop dsL_law_2699 8 = true) ∧ (decode dsL_law_2699 9 = .ok (.iadd, 1) ∧ okop dsL_law_2699 9 = true) ∧ (decode dsL_law_2699 10 = .ok (.iaload, 1) ∧ okop dsL_law_2699 10 = true) ∧ (decode dsL_law_2699 11 = .ok (.i2c, 1) ∧ okop dsL_law_2699 11 = true) ∧ (decode dsL_law_2699 12 = .ok (.aload_n 3, 1) ∧ okop dsL_law_2699 12 = true) ∧ (decode dsL_law_2699 13 = .ok (.invokestatic 402, 3) ∧ okop dsL_law_2699 13 = true) ∧ (decode dsL_law_2699 16 = .ok (.istore 6, 2) ∧ okop dsL_law_2699 16 = true) ∧ (decode dsL_law_2699 18 = .ok (.aload_n 2, 1) ∧ okop dsL_law_2699 18 = true) ∧ (decode dsL_law_2699 19 = .ok (.aload_n 0, 1) ∧ okop dsL_law_2699 19 = true) ∧ (decode dsL_law_2699 20 = .ok (.iload 5, 2) ∧ okop dsL_law_2699 20 = true) ∧ (decode dsL_law_2699 22 = .ok (.iconst 1, 1) ∧ okop dsL_law_2699 22 = true) ∧ (decode dsL_law_2699 23 = .ok (.iadd, 1) ∧ okop dsL_law_2699 23 = true) ∧ (decode dsL_law_2699 24 = .ok (.iaload, 1) ∧ okop dsL_law_2699 24 = true) ∧ (decode dsL_law_2699 25 = .ok (.aload_n 0, 1) ∧ okop dsL_law_2699 25 = true) ∧ (decode dsL_law_2699 26 = .ok (.iload 5, 2) ∧ okop dsL_law_2699 26 = true) ∧ (decode dsL_law_2699 28 = .ok (.iconst 2, 1) ∧ okop dsL_law_2699 28 = true) ∧ (decode dsL_law_2699 29 = .ok (.iadd, 1) ∧ okop dsL_law_2699 29 = true) ∧ (decode dsL_law_2699 30 = .ok (.iaload, 1) ∧ okop dsL_law_2699 30 = true) := by decide +kernel
theorem dL_law_2699 : decode cL_law 2699 = .ok (.iload 5, 2) := dgq (p := 0) daL_law_2699 dbL_law_2699.1
theorem dL_law_2701 : decode cL_law 2701 = .ok (.iconst 1, 1) := dgq (p := 2) daL_law_2699 dbL_law_2699.2.1
theorem dL_law_2702 : decode cL_law 2702 = .ok (.iadd, 1) := dgq (p := 3) daL_law_2699 dbL_law_2699.2.2.1
theorem dL_law_2703 : decode cL_law 2703 = .ok (.iaload, 1) := dgq (p := 4) daL_law_2699 dbL_law_2699.2.2.2.1
theorem dL_law_2704 : decode cL_law 2704 = .ok (.aload_n 0, 1) := dgq (p := 5) daL_law_2699 dbL_law_2699.2.2.2.2.1
theorem dL_law_2705 : decode cL_law 2705 = .ok (.iload 5, 2) := dgq (p := 6) daL_law_2699 dbL_law_2699.2.2.2.2.2.1
theorem dL_law_2707 : decode cL_law 2707 = .ok (.iconst 2, 1) := dgq (p := 8) daL_law_2699 dbL_law_2699.2.2.2.2.2.2.1
theorem dL_law_2708 : decode cL_law 2708 = .ok (.iadd, 1) := dgq (p := 9) daL_law_2699 dbL_law_2699.2.2.2.2.2.2.2.1
theorem dL_law_2709 : decode cL_law 2709 = .ok (.iaload, 1) := dgq (p := 10) daL_law_2699 dbL_law_2699.2.2.2.2.2.2.2.2.1
theorem dL_law_2710 : decode cL_law 2710 = .ok (.i2c, 1) := dgq (p := 11) daL_law_2699 dbL_law_2699.2.2.2.2.2.2.2.2.2.1
theorem dL_law_2711 : decode cL_law 2711 = .ok (.aload_n 3, 1) := dgq (p := 12) daL_law_2699 dbL_law_2699.2.2.2.2.2.2.2.2.2.2.1
theorem dL_law_2712 : decode cL_law 2712 = .ok (.invokestatic 402, 3) := dgq (p := 13) daL_law_2699 dbL_law_2699.2.2.2.2.2.2.2.2.2.2.2.1
theorem dL_law_2715 : decode cL_law 2715 = .ok (.istore 6, 2) := dgq (p := 16) daL_law_2699 dbL_law_2699.2.2.2.2.2.2.2.2.2.2.2.2.1
theorem dL_law_2717 : decode cL_law 2717 = .ok (.aload_n 2, 1) := dgq (p := 18) daL_law_2699 dbL_law_2699.2.2.2.2.2.2.2.2.2.2.2.2.2.1
theorem dL_law_2718 : decode cL_law 2718 = .ok (.aload_n 0, 1) := dgq (p := 19) daL_law_2699 dbL_law_2699.2.2.2.2.2.2.2.2.2.2.2.2.2.2.1
theorem dL_law_2719 : decode cL_law 2719 = .ok (.iload 5, 2) := dgq (p := 20) daL_law_2699 dbL_law_2699.2.2.2.2.2.2.2.2.2.2.2.2.2.2.2.1
theorem dL_law_2721 : decode cL_law 2721 = .ok (.iconst 1, 1) := dgq (p := 22) daL_law_2699 dbL_law_2699.2.2.2.2.2.2.2.2.2.2.2.2.2.2.2.2.1
theorem dL_law_2722 : decode cL_law 2722 = .ok (.iadd, 1) := dgq (p := 23) daL_law_2699 dbL_law_2699.2.2.2.2.2.2.2.2.2.2.2.2.2.2.2.2.2.1
theorem dL_law_2723 : decode cL_law 2723 = .ok (.iaload, 1) := dgq (p := 24) daL_law_2699 dbL_law_2699.2.2.2.2.2.2.2.2.2.2.2.2.2.2.2.2.2.2.1
theorem dL_law_2724 : decode cL_law 2724 = .ok (.aload_n 0, 1) := dgq (p := 25) daL_law_2699 dbL_law_2699.2.2.2.2.2.2.2.2.2.2.2.2.2.2.2.2.2.2.2.1
theorem dL_law_2725 : decode cL_law 2725 = .ok (.iload 5, 2) := dgq (p := 26) daL_law_2699 dbL_law_2699.2.2.2.2.2.2.2.2.2.2.2.2.2.2.2.2.2.2.2.2.1
theorem dL_law_2727 : decode cL_law 2727 = .ok (.iconst 2, 1) := dgq (p := 28) daL_law_2699 dbL_law_2699.2.2.2.2.2.2.2.2.2.2.2.2.2.2.2.2.2.2.2.2.2.1
theorem dL_law_2728 : decode cL_law 2728 = .ok (.iadd, 1) := dgq (p := 29) daL_law_2699 dbL_law_2699.2.2.2.2.2.2.2.2.2.2.2.2.2.2.2.2.2.2.2.2.2.2.1
theorem dL_law_2729 : decode cL_law 2729 = .ok (.iaload, 1) := dgq (p := 30) daL_law_2699 dbL_law_2699.2.2.2.2.2.2.2.2.2.2.2.2.2.2.2.2.2.2.2.2.2.2.2
def dsL_law_2730 : ByteArray := ⟨#[146, 182, 1, 149, 54, 7, 167, 0, 195, 43, 42, 21, 5, 4, 96, 46, 45, 184, 1, 150, 54, 6, 44, 42, 21, 5, 4, 96, 46, 182, 1, 152, 54, 7, 167, 0, 167, 43, 42]⟩
theorem daL_law_2730 : agB cL_law dsL_law_2730 2730 := agB_of (n := 39) (by decide +kernel)
theorem dbL_law_2730 : (decode dsL_law_2730 0 = .ok (.i2c, 1) ∧ okop dsL_law_2730 0 = true) ∧ (decode dsL_law_2730 1 = .ok (.invokevirtual 405, 3) ∧ okop dsL_law_2730 1 = true) ∧ (decode dsL_law_2730 4 = .ok (.istore 7, 2) ∧ okop dsL_law_2730 4 = true) ∧ (decode dsL_law_2730 6 = .ok (.goto 195, 3) ∧ okop dsL_law_2730 6 = true) ∧ (decode dsL_law_2730 9 = .ok (.aload_n 1, 1) ∧ okop dsL_law_2730 9 = true) ∧ (decode dsL_law_2730 10 = .ok (.aload_n 0, 1) ∧ okop dsL_law_2730 10 = true) ∧ (decode dsL_law_2730 11 = .ok (.iload 5, 2) ∧ okop dsL_law_2730 11 = true) ∧ (decode dsL_law_2730 13 = .ok (.iconst 1, 1) ∧ okop dsL_law_2730 13 = true) ∧ (decode dsL_law_2730 14 = .ok (.iadd, 1) ∧ okop dsL_law_2730 14 = true) ∧ (decode dsL_law_2730 15 = .ok (.iaload, 1) ∧ okop dsL_law_2730 15 = true) ∧ (decode dsL_law_2730 16 = .ok (.aload_n 3, 1) ∧ okop dsL_law_2730 16 = true) ∧ (decode dsL_law_2730 17 = .ok (.invokestatic 406, 3) ∧ okop dsL_law_2730 17 = true) ∧ (decode dsL_law_2730 20 = .ok (.istore 6, 2) ∧ okop dsL_law_2730 20 = true) ∧ (decode dsL_law_2730 22 = .ok (.aload_n 2, 1) ∧ okop dsL_law_2730 22 = true) ∧ (decode dsL_law_2730 23 = .ok (.aload_n 0, 1) ∧ okop dsL_law_2730 23 = true) ∧ (decode dsL_law_2730 24 = .ok (.iload 5, 2) ∧ okop dsL_law_2730 24 = true) ∧ (decode dsL_law_2730 26 = .ok (.iconst 1, 1) ∧ okop dsL_law_2730 26 = true) ∧ (decode dsL_law_2730 27 = .ok (.iadd, 1) ∧ okop dsL_law_2730 27 = true) ∧ (decode dsL_law_2730 28 = .ok (.iaload, 1) ∧ okop dsL_law_2730 28 = true) ∧ (decode dsL_law_2730 29 = .ok (.invokevirtual 408, 3) ∧ okop dsL_law_2730 29 = true) ∧ (decode dsL_law_2730 32 = .ok (.istore 7, 2) ∧ okop dsL_law_2730 32 = true) ∧ (decode dsL_law_2730 34 = .ok (.goto 167, 3) ∧ okop dsL_law_2730 34 = true) ∧ (decode dsL_law_2730 37 = .ok (.aload_n 1, 1) ∧ okop dsL_law_2730 37 = true) ∧ (decode dsL_law_2730 38 = .ok (.aload_n 0, 1) ∧ okop dsL_law_2730 38 = true) := by decide +kernel
theorem dL_law_2730 : decode cL_law 2730 = .ok (.i2c, 1) := dgq (p := 0) daL_law_2730 dbL_law_2730.1
theorem dL_law_2731 : decode cL_law 2731 = .ok (.invokevirtual 405, 3) := dgq (p := 1) daL_law_2730 dbL_law_2730.2.1
theorem dL_law_2734 : decode cL_law 2734 = .ok (.istore 7, 2) := dgq (p := 4) daL_law_2730 dbL_law_2730.2.2.1
theorem dL_law_2736 : decode cL_law 2736 = .ok (.goto 195, 3) := dgq (p := 6) daL_law_2730 dbL_law_2730.2.2.2.1
theorem dL_law_2739 : decode cL_law 2739 = .ok (.aload_n 1, 1) := dgq (p := 9) daL_law_2730 dbL_law_2730.2.2.2.2.1
theorem dL_law_2740 : decode cL_law 2740 = .ok (.aload_n 0, 1) := dgq (p := 10) daL_law_2730 dbL_law_2730.2.2.2.2.2.1
theorem dL_law_2741 : decode cL_law 2741 = .ok (.iload 5, 2) := dgq (p := 11) daL_law_2730 dbL_law_2730.2.2.2.2.2.2.1
theorem dL_law_2743 : decode cL_law 2743 = .ok (.iconst 1, 1) := dgq (p := 13) daL_law_2730 dbL_law_2730.2.2.2.2.2.2.2.1
theorem dL_law_2744 : decode cL_law 2744 = .ok (.iadd, 1) := dgq (p := 14) daL_law_2730 dbL_law_2730.2.2.2.2.2.2.2.2.1
theorem dL_law_2745 : decode cL_law 2745 = .ok (.iaload, 1) := dgq (p := 15) daL_law_2730 dbL_law_2730.2.2.2.2.2.2.2.2.2.1
theorem dL_law_2746 : decode cL_law 2746 = .ok (.aload_n 3, 1) := dgq (p := 16) daL_law_2730 dbL_law_2730.2.2.2.2.2.2.2.2.2.2.1
theorem dL_law_2747 : decode cL_law 2747 = .ok (.invokestatic 406, 3) := dgq (p := 17) daL_law_2730 dbL_law_2730.2.2.2.2.2.2.2.2.2.2.2.1
theorem dL_law_2750 : decode cL_law 2750 = .ok (.istore 6, 2) := dgq (p := 20) daL_law_2730 dbL_law_2730.2.2.2.2.2.2.2.2.2.2.2.2.1
theorem dL_law_2752 : decode cL_law 2752 = .ok (.aload_n 2, 1) := dgq (p := 22) daL_law_2730 dbL_law_2730.2.2.2.2.2.2.2.2.2.2.2.2.2.1
theorem dL_law_2753 : decode cL_law 2753 = .ok (.aload_n 0, 1) := dgq (p := 23) daL_law_2730 dbL_law_2730.2.2.2.2.2.2.2.2.2.2.2.2.2.2.1
theorem dL_law_2754 : decode cL_law 2754 = .ok (.iload 5, 2) := dgq (p := 24) daL_law_2730 dbL_law_2730.2.2.2.2.2.2.2.2.2.2.2.2.2.2.2.1
theorem dL_law_2756 : decode cL_law 2756 = .ok (.iconst 1, 1) := dgq (p := 26) daL_law_2730 dbL_law_2730.2.2.2.2.2.2.2.2.2.2.2.2.2.2.2.2.1
theorem dL_law_2757 : decode cL_law 2757 = .ok (.iadd, 1) := dgq (p := 27) daL_law_2730 dbL_law_2730.2.2.2.2.2.2.2.2.2.2.2.2.2.2.2.2.2.1
theorem dL_law_2758 : decode cL_law 2758 = .ok (.iaload, 1) := dgq (p := 28) daL_law_2730 dbL_law_2730.2.2.2.2.2.2.2.2.2.2.2.2.2.2.2.2.2.2.1
theorem dL_law_2759 : decode cL_law 2759 = .ok (.invokevirtual 408, 3) := dgq (p := 29) daL_law_2730 dbL_law_2730.2.2.2.2.2.2.2.2.2.2.2.2.2.2.2.2.2.2.2.1
theorem dL_law_2762 : decode cL_law 2762 = .ok (.istore 7, 2) := dgq (p := 32) daL_law_2730 dbL_law_2730.2.2.2.2.2.2.2.2.2.2.2.2.2.2.2.2.2.2.2.2.1
theorem dL_law_2764 : decode cL_law 2764 = .ok (.goto 167, 3) := dgq (p := 34) daL_law_2730 dbL_law_2730.2.2.2.2.2.2.2.2.2.2.2.2.2.2.2.2.2.2.2.2.2.1
theorem dL_law_2767 : decode cL_law 2767 = .ok (.aload_n 1, 1) := dgq (p := 37) daL_law_2730 dbL_law_2730.2.2.2.2.2.2.2.2.2.2.2.2.2.2.2.2.2.2.2.2.2.2.1
theorem dL_law_2768 : decode cL_law 2768 = .ok (.aload_n 0, 1) := dgq (p := 38) daL_law_2730 dbL_law_2730.2.2.2.2.2.2.2.2.2.2.2.2.2.2.2.2.2.2.2.2.2.2.2
def dsL_law_2769 : ByteArray := ⟨#[21, 5, 4, 96, 46, 42, 21, 5, 5, 96, 46, 42, 21, 5, 6, 96, 46, 45, 184, 1, 153, 54, 6, 44, 42, 21, 5, 4, 96, 46, 42]⟩
theorem daL_law_2769 : agB cL_law dsL_law_2769 2769 := agB_of (n := 31) (by decide +kernel)
theorem dbL_law_2769 : (decode dsL_law_2769 0 = .ok (.iload 5, 2) ∧ okop dsL_law_2769 0 = true) ∧ (decode dsL_law_2769 2 = .ok (.iconst 1, 1) ∧ okop dsL_law_2769 2 = true) ∧ (decode dsL_law_2769 3 = .ok (.iadd, 1) ∧ okop dsL_law_2769 3 = true) ∧ (decode dsL_law_2769 4 = .ok (.iaload, 1) ∧ okop dsL_law_2769 4 = true) ∧ (decode dsL_law_2769 5 = .ok (.aload_n 0, 1) ∧ okop dsL_law_2769 5 = true) ∧ (decode dsL_law_2769 6 = .ok (.iload 5, 2) ∧ okop dsL_law_2769 6 = true) ∧ (decode dsL_law_2769 8 = .ok (.iconst 2, 1) ∧ okop dsL_law_2769 8 = true) ∧ (decode dsL_law_2769 9 = .ok (.iadd, 1) ∧ okop dsL_law_2769 9 = true) ∧ (decode dsL_law_2769 10 = .ok (.iaload, 1) ∧ okop dsL_law_2769 10 = true) ∧ (decode dsL_law_2769 11 = .ok (.aload_n 0, 1) ∧ okop dsL_law_2769 11 = true) ∧ (decode dsL_law_2769 12 = .ok (.iload 5, 2) ∧ okop dsL_law_2769 12 = true) ∧ (decode dsL_law_2769 14 = .ok (.iconst 3, 1) ∧ okop dsL_law_2769 14 = true) ∧ (decode dsL_law_2769 15 = .ok (.iadd, 1) ∧ okop dsL_law_2769 15 = true) ∧ (decode dsL_law_2769 16 = .ok (.iaload, 1) ∧ okop dsL_law_2769 16 = true) ∧ (decode dsL_law_2769 17 = .ok (.aload_n 3, 1) ∧ okop dsL_law_2769 17 = true) ∧ (decode dsL_law_2769 18 = .ok (.invokestatic 409, 3) ∧ okop dsL_law_2769 18 = true) ∧ (decode dsL_law_2769 21 = .ok (.istore 6, 2) ∧ okop dsL_law_2769 21 = true) ∧ (decode dsL_law_2769 23 = .ok (.aload_n 2, 1) ∧ okop dsL_law_2769 23 = true) ∧ (decode dsL_law_2769 24 = .ok (.aload_n 0, 1) ∧ okop dsL_law_2769 24 = true) ∧ (decode dsL_law_2769 25 = .ok (.iload 5, 2) ∧ okop dsL_law_2769 25 = true) ∧ (decode dsL_law_2769 27 = .ok (.iconst 1, 1) ∧ okop dsL_law_2769 27 = true) ∧ (decode dsL_law_2769 28 = .ok (.iadd, 1) ∧ okop dsL_law_2769 28 = true) ∧ (decode dsL_law_2769 29 = .ok (.iaload, 1) ∧ okop dsL_law_2769 29 = true) ∧ (decode dsL_law_2769 30 = .ok (.aload_n 0, 1) ∧ okop dsL_law_2769 30 = true) := by decide +kernel
theorem dL_law_2769 : decode cL_law 2769 = .ok (.iload 5, 2) := dgq (p := 0) daL_law_2769 dbL_law_2769.1
theorem dL_law_2771 : decode cL_law 2771 = .ok (.iconst 1, 1) := dgq (p := 2) daL_law_2769 dbL_law_2769.2.1
theorem dL_law_2772 : decode cL_law 2772 = .ok (.iadd, 1) := dgq (p := 3) daL_law_2769 dbL_law_2769.2.2.1
theorem dL_law_2773 : decode cL_law 2773 = .ok (.iaload, 1) := dgq (p := 4) daL_law_2769 dbL_law_2769.2.2.2.1
theorem dL_law_2774 : decode cL_law 2774 = .ok (.aload_n 0, 1) := dgq (p := 5) daL_law_2769 dbL_law_2769.2.2.2.2.1
theorem dL_law_2775 : decode cL_law 2775 = .ok (.iload 5, 2) := dgq (p := 6) daL_law_2769 dbL_law_2769.2.2.2.2.2.1
theorem dL_law_2777 : decode cL_law 2777 = .ok (.iconst 2, 1) := dgq (p := 8) daL_law_2769 dbL_law_2769.2.2.2.2.2.2.1
theorem dL_law_2778 : decode cL_law 2778 = .ok (.iadd, 1) := dgq (p := 9) daL_law_2769 dbL_law_2769.2.2.2.2.2.2.2.1
theorem dL_law_2779 : decode cL_law 2779 = .ok (.iaload, 1) := dgq (p := 10) daL_law_2769 dbL_law_2769.2.2.2.2.2.2.2.2.1
theorem dL_law_2780 : decode cL_law 2780 = .ok (.aload_n 0, 1) := dgq (p := 11) daL_law_2769 dbL_law_2769.2.2.2.2.2.2.2.2.2.1
theorem dL_law_2781 : decode cL_law 2781 = .ok (.iload 5, 2) := dgq (p := 12) daL_law_2769 dbL_law_2769.2.2.2.2.2.2.2.2.2.2.1
theorem dL_law_2783 : decode cL_law 2783 = .ok (.iconst 3, 1) := dgq (p := 14) daL_law_2769 dbL_law_2769.2.2.2.2.2.2.2.2.2.2.2.1
theorem dL_law_2784 : decode cL_law 2784 = .ok (.iadd, 1) := dgq (p := 15) daL_law_2769 dbL_law_2769.2.2.2.2.2.2.2.2.2.2.2.2.1
theorem dL_law_2785 : decode cL_law 2785 = .ok (.iaload, 1) := dgq (p := 16) daL_law_2769 dbL_law_2769.2.2.2.2.2.2.2.2.2.2.2.2.2.1
theorem dL_law_2786 : decode cL_law 2786 = .ok (.aload_n 3, 1) := dgq (p := 17) daL_law_2769 dbL_law_2769.2.2.2.2.2.2.2.2.2.2.2.2.2.2.1
theorem dL_law_2787 : decode cL_law 2787 = .ok (.invokestatic 409, 3) := dgq (p := 18) daL_law_2769 dbL_law_2769.2.2.2.2.2.2.2.2.2.2.2.2.2.2.2.1
theorem dL_law_2790 : decode cL_law 2790 = .ok (.istore 6, 2) := dgq (p := 21) daL_law_2769 dbL_law_2769.2.2.2.2.2.2.2.2.2.2.2.2.2.2.2.2.1
theorem dL_law_2792 : decode cL_law 2792 = .ok (.aload_n 2, 1) := dgq (p := 23) daL_law_2769 dbL_law_2769.2.2.2.2.2.2.2.2.2.2.2.2.2.2.2.2.2.1
theorem dL_law_2793 : decode cL_law 2793 = .ok (.aload_n 0, 1) := dgq (p := 24) daL_law_2769 dbL_law_2769.2.2.2.2.2.2.2.2.2.2.2.2.2.2.2.2.2.2.1
theorem dL_law_2794 : decode cL_law 2794 = .ok (.iload 5, 2) := dgq (p := 25) daL_law_2769 dbL_law_2769.2.2.2.2.2.2.2.2.2.2.2.2.2.2.2.2.2.2.2.1
theorem dL_law_2796 : decode cL_law 2796 = .ok (.iconst 1, 1) := dgq (p := 27) daL_law_2769 dbL_law_2769.2.2.2.2.2.2.2.2.2.2.2.2.2.2.2.2.2.2.2.2.1
theorem dL_law_2797 : decode cL_law 2797 = .ok (.iadd, 1) := dgq (p := 28) daL_law_2769 dbL_law_2769.2.2.2.2.2.2.2.2.2.2.2.2.2.2.2.2.2.2.2.2.2.1
theorem dL_law_2798 : decode cL_law 2798 = .ok (.iaload, 1) := dgq (p := 29) daL_law_2769 dbL_law_2769.2.2.2.2.2.2.2.2.2.2.2.2.2.2.2.2.2.2.2.2.2.2.1
theorem dL_law_2799 : decode cL_law 2799 = .ok (.aload_n 0, 1) := dgq (p := 30) daL_law_2769 dbL_law_2769.2.2.2.2.2.2.2.2.2.2.2.2.2.2.2.2.2.2.2.2.2.2.2
def dsL_law_2800 : ByteArray := ⟨#[21, 5, 5, 96, 46, 42, 21, 5, 6, 96, 46, 182, 1, 155, 54, 7, 167, 0, 115, 43, 42, 21, 5, 4, 96, 46, 42, 21, 5, 5, 96, 46, 42]⟩
theorem daL_law_2800 : agB cL_law dsL_law_2800 2800 := agB_of (n := 33) (by decide +kernel)
theorem dbL_law_2800 : (decode dsL_law_2800 0 = .ok (.iload 5, 2) ∧ okop dsL_law_2800 0 = true) ∧ (decode dsL_law_2800 2 = .ok (.iconst 2, 1) ∧ okop dsL_law_2800 2 = true) ∧ (decode dsL_law_2800 3 = .ok (.iadd, 1) ∧ okop dsL_law_2800 3 = true) ∧ (decode dsL_law_2800 4 = .ok (.iaload, 1) ∧ okop dsL_law_2800 4 = true) ∧ (decode dsL_law_2800 5 = .ok (.aload_n 0, 1) ∧ okop dsL_law_2800 5 = true) ∧ (decode dsL_law_2800 6 = .ok (.iload 5, 2) ∧ okop dsL_law_2800 6 = true) ∧ (decode dsL_law_2800 8 = .ok (.iconst 3, 1) ∧ okop dsL_law_2800 8 = true) ∧ (decode dsL_law_2800 9 = .ok (.iadd, 1) ∧ okop dsL_law_2800 9 = true) ∧ (decode dsL_law_2800 10 = .ok (.iaload, 1) ∧ okop dsL_law_2800 10 = true) ∧ (decode dsL_law_2800 11 = .ok (.invokevirtual 411, 3) ∧ okop dsL_law_2800 11 = true) ∧ (decode dsL_law_2800 14 = .ok (.istore 7, 2) ∧ okop dsL_law_2800 14 = true) ∧ (decode dsL_law_2800 16 = .ok (.goto 115, 3) ∧ okop dsL_law_2800 16 = true) ∧ (decode dsL_law_2800 19 = .ok (.aload_n 1, 1) ∧ okop dsL_law_2800 19 = true) ∧ (decode dsL_law_2800 20 = .ok (.aload_n 0, 1) ∧ okop dsL_law_2800 20 = true) ∧ (decode dsL_law_2800 21 = .ok (.iload 5, 2) ∧ okop dsL_law_2800 21 = true) ∧ (decode dsL_law_2800 23 = .ok (.iconst 1, 1) ∧ okop dsL_law_2800 23 = true) ∧ (decode dsL_law_2800 24 = .ok (.iadd, 1) ∧ okop dsL_law_2800 24 = true) ∧ (decode dsL_law_2800 25 = .ok (.iaload, 1) ∧ okop dsL_law_2800 25 = true) ∧ (decode dsL_law_2800 26 = .ok (.aload_n 0, 1) ∧ okop dsL_law_2800 26 = true) ∧ (decode dsL_law_2800 27 = .ok (.iload 5, 2) ∧ okop dsL_law_2800 27 = true) ∧ (decode dsL_law_2800 29 = .ok (.iconst 2, 1) ∧ okop dsL_law_2800 29 = true) ∧ (decode dsL_law_2800 30 = .ok (.iadd, 1) ∧ okop dsL_law_2800 30 = true) ∧ (decode dsL_law_2800 31 = .ok (.iaload, 1) ∧ okop dsL_law_2800 31 = true) ∧ (decode dsL_law_2800 32 = .ok (.aload_n 0, 1) ∧ okop dsL_law_2800 32 = true) := by decide +kernel
theorem dL_law_2800 : decode cL_law 2800 = .ok (.iload 5, 2) := dgq (p := 0) daL_law_2800 dbL_law_2800.1
theorem dL_law_2802 : decode cL_law 2802 = .ok (.iconst 2, 1) := dgq (p := 2) daL_law_2800 dbL_law_2800.2.1
theorem dL_law_2803 : decode cL_law 2803 = .ok (.iadd, 1) := dgq (p := 3) daL_law_2800 dbL_law_2800.2.2.1
theorem dL_law_2804 : decode cL_law 2804 = .ok (.iaload, 1) := dgq (p := 4) daL_law_2800 dbL_law_2800.2.2.2.1
theorem dL_law_2805 : decode cL_law 2805 = .ok (.aload_n 0, 1) := dgq (p := 5) daL_law_2800 dbL_law_2800.2.2.2.2.1
theorem dL_law_2806 : decode cL_law 2806 = .ok (.iload 5, 2) := dgq (p := 6) daL_law_2800 dbL_law_2800.2.2.2.2.2.1
theorem dL_law_2808 : decode cL_law 2808 = .ok (.iconst 3, 1) := dgq (p := 8) daL_law_2800 dbL_law_2800.2.2.2.2.2.2.1
theorem dL_law_2809 : decode cL_law 2809 = .ok (.iadd, 1) := dgq (p := 9) daL_law_2800 dbL_law_2800.2.2.2.2.2.2.2.1
theorem dL_law_2810 : decode cL_law 2810 = .ok (.iaload, 1) := dgq (p := 10) daL_law_2800 dbL_law_2800.2.2.2.2.2.2.2.2.1
theorem dL_law_2811 : decode cL_law 2811 = .ok (.invokevirtual 411, 3) := dgq (p := 11) daL_law_2800 dbL_law_2800.2.2.2.2.2.2.2.2.2.1
theorem dL_law_2814 : decode cL_law 2814 = .ok (.istore 7, 2) := dgq (p := 14) daL_law_2800 dbL_law_2800.2.2.2.2.2.2.2.2.2.2.1
theorem dL_law_2816 : decode cL_law 2816 = .ok (.goto 115, 3) := dgq (p := 16) daL_law_2800 dbL_law_2800.2.2.2.2.2.2.2.2.2.2.2.1
theorem dL_law_2819 : decode cL_law 2819 = .ok (.aload_n 1, 1) := dgq (p := 19) daL_law_2800 dbL_law_2800.2.2.2.2.2.2.2.2.2.2.2.2.1
theorem dL_law_2820 : decode cL_law 2820 = .ok (.aload_n 0, 1) := dgq (p := 20) daL_law_2800 dbL_law_2800.2.2.2.2.2.2.2.2.2.2.2.2.2.1
theorem dL_law_2821 : decode cL_law 2821 = .ok (.iload 5, 2) := dgq (p := 21) daL_law_2800 dbL_law_2800.2.2.2.2.2.2.2.2.2.2.2.2.2.2.1
theorem dL_law_2823 : decode cL_law 2823 = .ok (.iconst 1, 1) := dgq (p := 23) daL_law_2800 dbL_law_2800.2.2.2.2.2.2.2.2.2.2.2.2.2.2.2.1
theorem dL_law_2824 : decode cL_law 2824 = .ok (.iadd, 1) := dgq (p := 24) daL_law_2800 dbL_law_2800.2.2.2.2.2.2.2.2.2.2.2.2.2.2.2.2.1
theorem dL_law_2825 : decode cL_law 2825 = .ok (.iaload, 1) := dgq (p := 25) daL_law_2800 dbL_law_2800.2.2.2.2.2.2.2.2.2.2.2.2.2.2.2.2.2.1
theorem dL_law_2826 : decode cL_law 2826 = .ok (.aload_n 0, 1) := dgq (p := 26) daL_law_2800 dbL_law_2800.2.2.2.2.2.2.2.2.2.2.2.2.2.2.2.2.2.2.1
theorem dL_law_2827 : decode cL_law 2827 = .ok (.iload 5, 2) := dgq (p := 27) daL_law_2800 dbL_law_2800.2.2.2.2.2.2.2.2.2.2.2.2.2.2.2.2.2.2.2.1
theorem dL_law_2829 : decode cL_law 2829 = .ok (.iconst 2, 1) := dgq (p := 29) daL_law_2800 dbL_law_2800.2.2.2.2.2.2.2.2.2.2.2.2.2.2.2.2.2.2.2.2.1
theorem dL_law_2830 : decode cL_law 2830 = .ok (.iadd, 1) := dgq (p := 30) daL_law_2800 dbL_law_2800.2.2.2.2.2.2.2.2.2.2.2.2.2.2.2.2.2.2.2.2.2.1
theorem dL_law_2831 : decode cL_law 2831 = .ok (.iaload, 1) := dgq (p := 31) daL_law_2800 dbL_law_2800.2.2.2.2.2.2.2.2.2.2.2.2.2.2.2.2.2.2.2.2.2.2.1
theorem dL_law_2832 : decode cL_law 2832 = .ok (.aload_n 0, 1) := dgq (p := 32) daL_law_2800 dbL_law_2800.2.2.2.2.2.2.2.2.2.2.2.2.2.2.2.2.2.2.2.2.2.2.2
def dsL_law_2833 : ByteArray := ⟨#[21, 5, 6, 96, 46, 45, 184, 1, 156, 54, 6, 44, 42, 21, 5, 4, 96, 46, 42, 21, 5, 5, 96, 46, 42, 21, 5, 6, 96, 46, 182, 1, 158]⟩
theorem daL_law_2833 : agB cL_law dsL_law_2833 2833 := agB_of (n := 33) (by decide +kernel)
theorem dbL_law_2833 : (decode dsL_law_2833 0 = .ok (.iload 5, 2) ∧ okop dsL_law_2833 0 = true) ∧ (decode dsL_law_2833 2 = .ok (.iconst 3, 1) ∧ okop dsL_law_2833 2 = true) ∧ (decode dsL_law_2833 3 = .ok (.iadd, 1) ∧ okop dsL_law_2833 3 = true) ∧ (decode dsL_law_2833 4 = .ok (.iaload, 1) ∧ okop dsL_law_2833 4 = true) ∧ (decode dsL_law_2833 5 = .ok (.aload_n 3, 1) ∧ okop dsL_law_2833 5 = true) ∧ (decode dsL_law_2833 6 = .ok (.invokestatic 412, 3) ∧ okop dsL_law_2833 6 = true) ∧ (decode dsL_law_2833 9 = .ok (.istore 6, 2) ∧ okop dsL_law_2833 9 = true) ∧ (decode dsL_law_2833 11 = .ok (.aload_n 2, 1) ∧ okop dsL_law_2833 11 = true) ∧ (decode dsL_law_2833 12 = .ok (.aload_n 0, 1) ∧ okop dsL_law_2833 12 = true) ∧ (decode dsL_law_2833 13 = .ok (.iload 5, 2) ∧ okop dsL_law_2833 13 = true) ∧ (decode dsL_law_2833 15 = .ok (.iconst 1, 1) ∧ okop dsL_law_2833 15 = true) ∧ (decode dsL_law_2833 16 = .ok (.iadd, 1) ∧ okop dsL_law_2833 16 = true) ∧ (decode dsL_law_2833 17 = .ok (.iaload, 1) ∧ okop dsL_law_2833 17 = true) ∧ (decode dsL_law_2833 18 = .ok (.aload_n 0, 1) ∧ okop dsL_law_2833 18 = true) ∧ (decode dsL_law_2833 19 = .ok (.iload 5, 2) ∧ okop dsL_law_2833 19 = true) ∧ (decode dsL_law_2833 21 = .ok (.iconst 2, 1) ∧ okop dsL_law_2833 21 = true) ∧ (decode dsL_law_2833 22 = .ok (.iadd, 1) ∧ okop dsL_law_2833 22 = true) ∧ (decode dsL_law_2833 23 = .ok (.iaload, 1) ∧ okop dsL_law_2833 23 = true) ∧ (decode dsL_law_2833 24 = .ok (.aload_n 0, 1) ∧ okop dsL_law_2833 24 = true) ∧ (decode dsL_law_2833 25 = .ok (.iload 5, 2) ∧ okop dsL_law_2833 25 = true) ∧ (decode dsL_law_2833 27 = .ok (.iconst 3, 1) ∧ okop dsL_law_2833 27 = true) ∧ (decode dsL_law_2833 28 = .ok (.iadd, 1) ∧ okop dsL_law_2833 28 = true) ∧ (decode dsL_law_2833 29 = .ok (.iaload, 1) ∧ okop dsL_law_2833 29 = true) ∧ (decode dsL_law_2833 30 = .ok (.invokevirtual 414, 3) ∧ okop dsL_law_2833 30 = true) := by decide +kernel
theorem dL_law_2833 : decode cL_law 2833 = .ok (.iload 5, 2) := dgq (p := 0) daL_law_2833 dbL_law_2833.1
theorem dL_law_2835 : decode cL_law 2835 = .ok (.iconst 3, 1) := dgq (p := 2) daL_law_2833 dbL_law_2833.2.1
theorem dL_law_2836 : decode cL_law 2836 = .ok (.iadd, 1) := dgq (p := 3) daL_law_2833 dbL_law_2833.2.2.1
theorem dL_law_2837 : decode cL_law 2837 = .ok (.iaload, 1) := dgq (p := 4) daL_law_2833 dbL_law_2833.2.2.2.1
theorem dL_law_2838 : decode cL_law 2838 = .ok (.aload_n 3, 1) := dgq (p := 5) daL_law_2833 dbL_law_2833.2.2.2.2.1
theorem dL_law_2839 : decode cL_law 2839 = .ok (.invokestatic 412, 3) := dgq (p := 6) daL_law_2833 dbL_law_2833.2.2.2.2.2.1
theorem dL_law_2842 : decode cL_law 2842 = .ok (.istore 6, 2) := dgq (p := 9) daL_law_2833 dbL_law_2833.2.2.2.2.2.2.1
theorem dL_law_2844 : decode cL_law 2844 = .ok (.aload_n 2, 1) := dgq (p := 11) daL_law_2833 dbL_law_2833.2.2.2.2.2.2.2.1
theorem dL_law_2845 : decode cL_law 2845 = .ok (.aload_n 0, 1) := dgq (p := 12) daL_law_2833 dbL_law_2833.2.2.2.2.2.2.2.2.1
theorem dL_law_2846 : decode cL_law 2846 = .ok (.iload 5, 2) := dgq (p := 13) daL_law_2833 dbL_law_2833.2.2.2.2.2.2.2.2.2.1
theorem dL_law_2848 : decode cL_law 2848 = .ok (.iconst 1, 1) := dgq (p := 15) daL_law_2833 dbL_law_2833.2.2.2.2.2.2.2.2.2.2.1
theorem dL_law_2849 : decode cL_law 2849 = .ok (.iadd, 1) := dgq (p := 16) daL_law_2833 dbL_law_2833.2.2.2.2.2.2.2.2.2.2.2.1
theorem dL_law_2850 : decode cL_law 2850 = .ok (.iaload, 1) := dgq (p := 17) daL_law_2833 dbL_law_2833.2.2.2.2.2.2.2.2.2.2.2.2.1
theorem dL_law_2851 : decode cL_law 2851 = .ok (.aload_n 0, 1) := dgq (p := 18) daL_law_2833 dbL_law_2833.2.2.2.2.2.2.2.2.2.2.2.2.2.1
theorem dL_law_2852 : decode cL_law 2852 = .ok (.iload 5, 2) := dgq (p := 19) daL_law_2833 dbL_law_2833.2.2.2.2.2.2.2.2.2.2.2.2.2.2.1
theorem dL_law_2854 : decode cL_law 2854 = .ok (.iconst 2, 1) := dgq (p := 21) daL_law_2833 dbL_law_2833.2.2.2.2.2.2.2.2.2.2.2.2.2.2.2.1
theorem dL_law_2855 : decode cL_law 2855 = .ok (.iadd, 1) := dgq (p := 22) daL_law_2833 dbL_law_2833.2.2.2.2.2.2.2.2.2.2.2.2.2.2.2.2.1
theorem dL_law_2856 : decode cL_law 2856 = .ok (.iaload, 1) := dgq (p := 23) daL_law_2833 dbL_law_2833.2.2.2.2.2.2.2.2.2.2.2.2.2.2.2.2.2.1
theorem dL_law_2857 : decode cL_law 2857 = .ok (.aload_n 0, 1) := dgq (p := 24) daL_law_2833 dbL_law_2833.2.2.2.2.2.2.2.2.2.2.2.2.2.2.2.2.2.2.1
theorem dL_law_2858 : decode cL_law 2858 = .ok (.iload 5, 2) := dgq (p := 25) daL_law_2833 dbL_law_2833.2.2.2.2.2.2.2.2.2.2.2.2.2.2.2.2.2.2.2.1
theorem dL_law_2860 : decode cL_law 2860 = .ok (.iconst 3, 1) := dgq (p := 27) daL_law_2833 dbL_law_2833.2.2.2.2.2.2.2.2.2.2.2.2.2.2.2.2.2.2.2.2.1
theorem dL_law_2861 : decode cL_law 2861 = .ok (.iadd, 1) := dgq (p := 28) daL_law_2833 dbL_law_2833.2.2.2.2.2.2.2.2.2.2.2.2.2.2.2.2.2.2.2.2.2.1
theorem dL_law_2862 : decode cL_law 2862 = .ok (.iaload, 1) := dgq (p := 29) daL_law_2833 dbL_law_2833.2.2.2.2.2.2.2.2.2.2.2.2.2.2.2.2.2.2.2.2.2.2.1
theorem dL_law_2863 : decode cL_law 2863 = .ok (.invokevirtual 414, 3) := dgq (p := 30) daL_law_2833 dbL_law_2833.2.2.2.2.2.2.2.2.2.2.2.2.2.2.2.2.2.2.2.2.2.2.2
def dsL_law_2866 : ByteArray := ⟨#[54, 7, 167, 0, 63, 43, 182, 1, 159, 88, 44, 182, 1, 163, 88, 167, 0, 50, 43, 25, 4, 184, 1, 164, 54, 6, 44, 182, 1, 167, 56, 7, 167, 0, 33, 43, 25, 4, 184, 1, 168, 54, 6, 44, 182, 1, 170, 57, 7]⟩
theorem daL_law_2866 : agB cL_law dsL_law_2866 2866 := agB_of (n := 49) (by decide +kernel)
theorem dbL_law_2866 : (decode dsL_law_2866 0 = .ok (.istore 7, 2) ∧ okop dsL_law_2866 0 = true) ∧ (decode dsL_law_2866 2 = .ok (.goto 63, 3) ∧ okop dsL_law_2866 2 = true) ∧ (decode dsL_law_2866 5 = .ok (.aload_n 1, 1) ∧ okop dsL_law_2866 5 = true) ∧ (decode dsL_law_2866 6 = .ok (.invokevirtual 415, 3) ∧ okop dsL_law_2866 6 = true) ∧ (decode dsL_law_2866 9 = .ok (.pop2, 1) ∧ okop dsL_law_2866 9 = true) ∧ (decode dsL_law_2866 10 = .ok (.aload_n 2, 1) ∧ okop dsL_law_2866 10 = true) ∧ (decode dsL_law_2866 11 = .ok (.invokevirtual 419, 3) ∧ okop dsL_law_2866 11 = true) ∧ (decode dsL_law_2866 14 = .ok (.pop2, 1) ∧ okop dsL_law_2866 14 = true) ∧ (decode dsL_law_2866 15 = .ok (.goto 50, 3) ∧ okop dsL_law_2866 15 = true) ∧ (decode dsL_law_2866 18 = .ok (.aload_n 1, 1) ∧ okop dsL_law_2866 18 = true) ∧ (decode dsL_law_2866 19 = .ok (.aload 4, 2) ∧ okop dsL_law_2866 19 = true) ∧ (decode dsL_law_2866 21 = .ok (.invokestatic 420, 3) ∧ okop dsL_law_2866 21 = true) ∧ (decode dsL_law_2866 24 = .ok (.istore 6, 2) ∧ okop dsL_law_2866 24 = true) ∧ (decode dsL_law_2866 26 = .ok (.aload_n 2, 1) ∧ okop dsL_law_2866 26 = true) ∧ (decode dsL_law_2866 27 = .ok (.invokevirtual 423, 3) ∧ okop dsL_law_2866 27 = true) ∧ (decode dsL_law_2866 30 = .ok (.fstore 7, 2) ∧ okop dsL_law_2866 30 = true) ∧ (decode dsL_law_2866 32 = .ok (.goto 33, 3) ∧ okop dsL_law_2866 32 = true) ∧ (decode dsL_law_2866 35 = .ok (.aload_n 1, 1) ∧ okop dsL_law_2866 35 = true) ∧ (decode dsL_law_2866 36 = .ok (.aload 4, 2) ∧ okop dsL_law_2866 36 = true) ∧ (decode dsL_law_2866 38 = .ok (.invokestatic 424, 3) ∧ okop dsL_law_2866 38 = true) ∧ (decode dsL_law_2866 41 = .ok (.istore 6, 2) ∧ okop dsL_law_2866 41 = true) ∧ (decode dsL_law_2866 43 = .ok (.aload_n 2, 1) ∧ okop dsL_law_2866 43 = true) ∧ (decode dsL_law_2866 44 = .ok (.invokevirtual 426, 3) ∧ okop dsL_law_2866 44 = true) ∧ (decode dsL_law_2866 47 = .ok (.dstore 7, 2) ∧ okop dsL_law_2866 47 = true) := by decide +kernel
theorem dL_law_2866 : decode cL_law 2866 = .ok (.istore 7, 2) := dgq (p := 0) daL_law_2866 dbL_law_2866.1
theorem dL_law_2868 : decode cL_law 2868 = .ok (.goto 63, 3) := dgq (p := 2) daL_law_2866 dbL_law_2866.2.1
theorem dL_law_2871 : decode cL_law 2871 = .ok (.aload_n 1, 1) := dgq (p := 5) daL_law_2866 dbL_law_2866.2.2.1
theorem dL_law_2872 : decode cL_law 2872 = .ok (.invokevirtual 415, 3) := dgq (p := 6) daL_law_2866 dbL_law_2866.2.2.2.1
theorem dL_law_2875 : decode cL_law 2875 = .ok (.pop2, 1) := dgq (p := 9) daL_law_2866 dbL_law_2866.2.2.2.2.1
theorem dL_law_2876 : decode cL_law 2876 = .ok (.aload_n 2, 1) := dgq (p := 10) daL_law_2866 dbL_law_2866.2.2.2.2.2.1
theorem dL_law_2877 : decode cL_law 2877 = .ok (.invokevirtual 419, 3) := dgq (p := 11) daL_law_2866 dbL_law_2866.2.2.2.2.2.2.1
theorem dL_law_2880 : decode cL_law 2880 = .ok (.pop2, 1) := dgq (p := 14) daL_law_2866 dbL_law_2866.2.2.2.2.2.2.2.1
theorem dL_law_2881 : decode cL_law 2881 = .ok (.goto 50, 3) := dgq (p := 15) daL_law_2866 dbL_law_2866.2.2.2.2.2.2.2.2.1
theorem dL_law_2884 : decode cL_law 2884 = .ok (.aload_n 1, 1) := dgq (p := 18) daL_law_2866 dbL_law_2866.2.2.2.2.2.2.2.2.2.1
theorem dL_law_2885 : decode cL_law 2885 = .ok (.aload 4, 2) := dgq (p := 19) daL_law_2866 dbL_law_2866.2.2.2.2.2.2.2.2.2.2.1
theorem dL_law_2887 : decode cL_law 2887 = .ok (.invokestatic 420, 3) := dgq (p := 21) daL_law_2866 dbL_law_2866.2.2.2.2.2.2.2.2.2.2.2.1
theorem dL_law_2890 : decode cL_law 2890 = .ok (.istore 6, 2) := dgq (p := 24) daL_law_2866 dbL_law_2866.2.2.2.2.2.2.2.2.2.2.2.2.1
theorem dL_law_2892 : decode cL_law 2892 = .ok (.aload_n 2, 1) := dgq (p := 26) daL_law_2866 dbL_law_2866.2.2.2.2.2.2.2.2.2.2.2.2.2.1
theorem dL_law_2893 : decode cL_law 2893 = .ok (.invokevirtual 423, 3) := dgq (p := 27) daL_law_2866 dbL_law_2866.2.2.2.2.2.2.2.2.2.2.2.2.2.2.1
theorem dL_law_2896 : decode cL_law 2896 = .ok (.fstore 7, 2) := dgq (p := 30) daL_law_2866 dbL_law_2866.2.2.2.2.2.2.2.2.2.2.2.2.2.2.2.1
theorem dL_law_2898 : decode cL_law 2898 = .ok (.goto 33, 3) := dgq (p := 32) daL_law_2866 dbL_law_2866.2.2.2.2.2.2.2.2.2.2.2.2.2.2.2.2.1
theorem dL_law_2901 : decode cL_law 2901 = .ok (.aload_n 1, 1) := dgq (p := 35) daL_law_2866 dbL_law_2866.2.2.2.2.2.2.2.2.2.2.2.2.2.2.2.2.2.1
theorem dL_law_2902 : decode cL_law 2902 = .ok (.aload 4, 2) := dgq (p := 36) daL_law_2866 dbL_law_2866.2.2.2.2.2.2.2.2.2.2.2.2.2.2.2.2.2.2.1
theorem dL_law_2904 : decode cL_law 2904 = .ok (.invokestatic 424, 3) := dgq (p := 38) daL_law_2866 dbL_law_2866.2.2.2.2.2.2.2.2.2.2.2.2.2.2.2.2.2.2.2.1
theorem dL_law_2907 : decode cL_law 2907 = .ok (.istore 6, 2) := dgq (p := 41) daL_law_2866 dbL_law_2866.2.2.2.2.2.2.2.2.2.2.2.2.2.2.2.2.2.2.2.2.1
theorem dL_law_2909 : decode cL_law 2909 = .ok (.aload_n 2, 1) := dgq (p := 43) daL_law_2866 dbL_law_2866.2.2.2.2.2.2.2.2.2.2.2.2.2.2.2.2.2.2.2.2.2.1
theorem dL_law_2910 : decode cL_law 2910 = .ok (.invokevirtual 426, 3) := dgq (p := 44) daL_law_2866 dbL_law_2866.2.2.2.2.2.2.2.2.2.2.2.2.2.2.2.2.2.2.2.2.2.2.1
theorem dL_law_2913 : decode cL_law 2913 = .ok (.dstore 7, 2) := dgq (p := 47) daL_law_2866 dbL_law_2866.2.2.2.2.2.2.2.2.2.2.2.2.2.2.2.2.2.2.2.2.2.2.2
def dsL_law_2915 : ByteArray := ⟨#[167, 0, 16, 43, 182, 1, 171, 87, 44, 182, 1, 175, 87, 167, 0, 3, 132, 5, 5, 167, 244, 166, 4, 172]⟩
theorem daL_law_2915 : agB cL_law dsL_law_2915 2915 := agB_of (n := 24) (by decide +kernel)
theorem dbL_law_2915 : (decode dsL_law_2915 0 = .ok (.goto 16, 3) ∧ okop dsL_law_2915 0 = true) ∧ (decode dsL_law_2915 3 = .ok (.aload_n 1, 1) ∧ okop dsL_law_2915 3 = true) ∧ (decode dsL_law_2915 4 = .ok (.invokevirtual 427, 3) ∧ okop dsL_law_2915 4 = true) ∧ (decode dsL_law_2915 7 = .ok (.pop, 1) ∧ okop dsL_law_2915 7 = true) ∧ (decode dsL_law_2915 8 = .ok (.aload_n 2, 1) ∧ okop dsL_law_2915 8 = true) ∧ (decode dsL_law_2915 9 = .ok (.invokevirtual 431, 3) ∧ okop dsL_law_2915 9 = true) ∧ (decode dsL_law_2915 12 = .ok (.pop, 1) ∧ okop dsL_law_2915 12 = true) ∧ (decode dsL_law_2915 13 = .ok (.goto 3, 3) ∧ okop dsL_law_2915 13 = true) ∧ (decode dsL_law_2915 16 = .ok (.iinc 5 5, 3) ∧ okop dsL_law_2915 16 = true) ∧ (decode dsL_law_2915 19 = .ok (.goto (-2906), 3) ∧ okop dsL_law_2915 19 = true) ∧ (decode dsL_law_2915 22 = .ok (.iconst 1, 1) ∧ okop dsL_law_2915 22 = true) ∧ (decode dsL_law_2915 23 = .ok (.ireturn, 1) ∧ okop dsL_law_2915 23 = true) := by decide +kernel
theorem dL_law_2915 : decode cL_law 2915 = .ok (.goto 16, 3) := dgq (p := 0) daL_law_2915 dbL_law_2915.1
theorem dL_law_2918 : decode cL_law 2918 = .ok (.aload_n 1, 1) := dgq (p := 3) daL_law_2915 dbL_law_2915.2.1
theorem dL_law_2919 : decode cL_law 2919 = .ok (.invokevirtual 427, 3) := dgq (p := 4) daL_law_2915 dbL_law_2915.2.2.1
theorem dL_law_2922 : decode cL_law 2922 = .ok (.pop, 1) := dgq (p := 7) daL_law_2915 dbL_law_2915.2.2.2.1
theorem dL_law_2923 : decode cL_law 2923 = .ok (.aload_n 2, 1) := dgq (p := 8) daL_law_2915 dbL_law_2915.2.2.2.2.1
theorem dL_law_2924 : decode cL_law 2924 = .ok (.invokevirtual 431, 3) := dgq (p := 9) daL_law_2915 dbL_law_2915.2.2.2.2.2.1
theorem dL_law_2927 : decode cL_law 2927 = .ok (.pop, 1) := dgq (p := 12) daL_law_2915 dbL_law_2915.2.2.2.2.2.2.1
theorem dL_law_2928 : decode cL_law 2928 = .ok (.goto 3, 3) := dgq (p := 13) daL_law_2915 dbL_law_2915.2.2.2.2.2.2.2.1
theorem dL_law_2931 : decode cL_law 2931 = .ok (.iinc 5 5, 3) := dgq (p := 16) daL_law_2915 dbL_law_2915.2.2.2.2.2.2.2.2.1
theorem dL_law_2934 : decode cL_law 2934 = .ok (.goto (-2906), 3) := dgq (p := 19) daL_law_2915 dbL_law_2915.2.2.2.2.2.2.2.2.2.1
theorem dL_law_2937 : decode cL_law 2937 = .ok (.iconst 1, 1) := dgq (p := 22) daL_law_2915 dbL_law_2915.2.2.2.2.2.2.2.2.2.2.1
theorem dL_law_2938 : decode cL_law 2938 = .ok (.ireturn, 1) := dgq (p := 23) daL_law_2915 dbL_law_2915.2.2.2.2.2.2.2.2.2.2.2

