def dsL_law_1937 : ByteArray := ⟨#[42, 21, 5, 6, 96, 46, 182, 1, 87, 54, 7, 167, 3, 207, 43, 42]⟩
theorem daL_law_1937 : agB cL_law dsL_law_1937 1937 := agB_of (n := 16) (by decide +kernel)
theorem dbL_law_1937 : (decode dsL_law_1937 0 = .ok (.aload_n 0, 1) ∧ okop dsL_law_1937 0 = true) ∧ (decode dsL_law_1937 1 = .ok (.iload 5, 2) ∧ okop dsL_law_1937 1 = true) ∧ (decode dsL_law_1937 3 = .ok (.iconst 3, 1) ∧ okop dsL_law_1937 3 = true) ∧ (decode dsL_law_1937 4 = .ok (.iadd, 1) ∧ okop dsL_law_1937 4 = true) ∧ (decode dsL_law_1937 5 = .ok (.iaload, 1) ∧ okop dsL_law_1937 5 = true) ∧ (decode dsL_law_1937 6 = .ok (.invokevirtual 343, 3) ∧ okop dsL_law_1937 6 = true) ∧ (decode dsL_law_1937 9 = .ok (.istore 7, 2) ∧ okop dsL_law_1937 9 = true) ∧ (decode dsL_law_1937 11 = .ok (.goto 975, 3) ∧ okop dsL_law_1937 11 = true) ∧ (decode dsL_law_1937 14 = .ok (.aload_n 1, 1) ∧ okop dsL_law_1937 14 = true) ∧ (decode dsL_law_1937 15 = .ok (.aload_n 0, 1) ∧ okop dsL_law_1937 15 = true) := by decide +kernel
theorem dL_law_1937 : decode cL_law 1937 = .ok (.aload_n 0, 1) := dgq (p := 0) daL_law_1937 dbL_law_1937.1
theorem dL_law_1938 : decode cL_law 1938 = .ok (.iload 5, 2) := dgq (p := 1) daL_law_1937 dbL_law_1937.2.1
theorem dL_law_1940 : decode cL_law 1940 = .ok (.iconst 3, 1) := dgq (p := 3) daL_law_1937 dbL_law_1937.2.2.1
theorem dL_law_1941 : decode cL_law 1941 = .ok (.iadd, 1) := dgq (p := 4) daL_law_1937 dbL_law_1937.2.2.2.1
theorem dL_law_1942 : decode cL_law 1942 = .ok (.iaload, 1) := dgq (p := 5) daL_law_1937 dbL_law_1937.2.2.2.2.1
theorem dL_law_1943 : decode cL_law 1943 = .ok (.invokevirtual 343, 3) := dgq (p := 6) daL_law_1937 dbL_law_1937.2.2.2.2.2.1
theorem dL_law_1946 : decode cL_law 1946 = .ok (.istore 7, 2) := dgq (p := 9) daL_law_1937 dbL_law_1937.2.2.2.2.2.2.1
theorem dL_law_1948 : decode cL_law 1948 = .ok (.goto 975, 3) := dgq (p := 11) daL_law_1937 dbL_law_1937.2.2.2.2.2.2.2.1
theorem dL_law_1951 : decode cL_law 1951 = .ok (.aload_n 1, 1) := dgq (p := 14) daL_law_1937 dbL_law_1937.2.2.2.2.2.2.2.2.1
theorem dL_law_1952 : decode cL_law 1952 = .ok (.aload_n 0, 1) := dgq (p := 15) daL_law_1937 dbL_law_1937.2.2.2.2.2.2.2.2.2
def dsL_law_1953 : ByteArray := ⟨#[21, 5, 4, 96, 46, 45, 184, 1, 88, 54, 6, 44, 42, 21, 5]⟩
theorem daL_law_1953 : agB cL_law dsL_law_1953 1953 := agB_of (n := 15) (by decide +kernel)
theorem dbL_law_1953 : (decode dsL_law_1953 0 = .ok (.iload 5, 2) ∧ okop dsL_law_1953 0 = true) ∧ (decode dsL_law_1953 2 = .ok (.iconst 1, 1) ∧ okop dsL_law_1953 2 = true) ∧ (decode dsL_law_1953 3 = .ok (.iadd, 1) ∧ okop dsL_law_1953 3 = true) ∧ (decode dsL_law_1953 4 = .ok (.iaload, 1) ∧ okop dsL_law_1953 4 = true) ∧ (decode dsL_law_1953 5 = .ok (.aload_n 3, 1) ∧ okop dsL_law_1953 5 = true) ∧ (decode dsL_law_1953 6 = .ok (.invokestatic 344, 3) ∧ okop dsL_law_1953 6 = true) ∧ (decode dsL_law_1953 9 = .ok (.istore 6, 2) ∧ okop dsL_law_1953 9 = true) ∧ (decode dsL_law_1953 11 = .ok (.aload_n 2, 1) ∧ okop dsL_law_1953 11 = true) ∧ (decode dsL_law_1953 12 = .ok (.aload_n 0, 1) ∧ okop dsL_law_1953 12 = true) ∧ (decode dsL_law_1953 13 = .ok (.iload 5, 2) ∧ okop dsL_law_1953 13 = true) := by decide +kernel
theorem dL_law_1953 : decode cL_law 1953 = .ok (.iload 5, 2) := dgq (p := 0) daL_law_1953 dbL_law_1953.1
theorem dL_law_1955 : decode cL_law 1955 = .ok (.iconst 1, 1) := dgq (p := 2) daL_law_1953 dbL_law_1953.2.1
theorem dL_law_1956 : decode cL_law 1956 = .ok (.iadd, 1) := dgq (p := 3) daL_law_1953 dbL_law_1953.2.2.1
theorem dL_law_1957 : decode cL_law 1957 = .ok (.iaload, 1) := dgq (p := 4) daL_law_1953 dbL_law_1953.2.2.2.1
theorem dL_law_1958 : decode cL_law 1958 = .ok (.aload_n 3, 1) := dgq (p := 5) daL_law_1953 dbL_law_1953.2.2.2.2.1
theorem dL_law_1959 : decode cL_law 1959 = .ok (.invokestatic 344, 3) := dgq (p := 6) daL_law_1953 dbL_law_1953.2.2.2.2.2.1
theorem dL_law_1962 : decode cL_law 1962 = .ok (.istore 6, 2) := dgq (p := 9) daL_law_1953 dbL_law_1953.2.2.2.2.2.2.1
theorem dL_law_1964 : decode cL_law 1964 = .ok (.aload_n 2, 1) := dgq (p := 11) daL_law_1953 dbL_law_1953.2.2.2.2.2.2.2.1
theorem dL_law_1965 : decode cL_law 1965 = .ok (.aload_n 0, 1) := dgq (p := 12) daL_law_1953 dbL_law_1953.2.2.2.2.2.2.2.2.1
theorem dL_law_1966 : decode cL_law 1966 = .ok (.iload 5, 2) := dgq (p := 13) daL_law_1953 dbL_law_1953.2.2.2.2.2.2.2.2.2
def dsL_law_1968 : ByteArray := ⟨#[4, 96, 46, 182, 1, 90, 54, 7, 167, 3, 179, 43, 42, 21, 5, 4]⟩
theorem daL_law_1968 : agB cL_law dsL_law_1968 1968 := agB_of (n := 16) (by decide +kernel)
theorem dbL_law_1968 : (decode dsL_law_1968 0 = .ok (.iconst 1, 1) ∧ okop dsL_law_1968 0 = true) ∧ (decode dsL_law_1968 1 = .ok (.iadd, 1) ∧ okop dsL_law_1968 1 = true) ∧ (decode dsL_law_1968 2 = .ok (.iaload, 1) ∧ okop dsL_law_1968 2 = true) ∧ (decode dsL_law_1968 3 = .ok (.invokevirtual 346, 3) ∧ okop dsL_law_1968 3 = true) ∧ (decode dsL_law_1968 6 = .ok (.istore 7, 2) ∧ okop dsL_law_1968 6 = true) ∧ (decode dsL_law_1968 8 = .ok (.goto 947, 3) ∧ okop dsL_law_1968 8 = true) ∧ (decode dsL_law_1968 11 = .ok (.aload_n 1, 1) ∧ okop dsL_law_1968 11 = true) ∧ (decode dsL_law_1968 12 = .ok (.aload_n 0, 1) ∧ okop dsL_law_1968 12 = true) ∧ (decode dsL_law_1968 13 = .ok (.iload 5, 2) ∧ okop dsL_law_1968 13 = true) ∧ (decode dsL_law_1968 15 = .ok (.iconst 1, 1) ∧ okop dsL_law_1968 15 = true) := by decide +kernel
theorem dL_law_1968 : decode cL_law 1968 = .ok (.iconst 1, 1) := dgq (p := 0) daL_law_1968 dbL_law_1968.1
theorem dL_law_1969 : decode cL_law 1969 = .ok (.iadd, 1) := dgq (p := 1) daL_law_1968 dbL_law_1968.2.1
theorem dL_law_1970 : decode cL_law 1970 = .ok (.iaload, 1) := dgq (p := 2) daL_law_1968 dbL_law_1968.2.2.1
theorem dL_law_1971 : decode cL_law 1971 = .ok (.invokevirtual 346, 3) := dgq (p := 3) daL_law_1968 dbL_law_1968.2.2.2.1
theorem dL_law_1974 : decode cL_law 1974 = .ok (.istore 7, 2) := dgq (p := 6) daL_law_1968 dbL_law_1968.2.2.2.2.1
theorem dL_law_1976 : decode cL_law 1976 = .ok (.goto 947, 3) := dgq (p := 8) daL_law_1968 dbL_law_1968.2.2.2.2.2.1
theorem dL_law_1979 : decode cL_law 1979 = .ok (.aload_n 1, 1) := dgq (p := 11) daL_law_1968 dbL_law_1968.2.2.2.2.2.2.1
theorem dL_law_1980 : decode cL_law 1980 = .ok (.aload_n 0, 1) := dgq (p := 12) daL_law_1968 dbL_law_1968.2.2.2.2.2.2.2.1
theorem dL_law_1981 : decode cL_law 1981 = .ok (.iload 5, 2) := dgq (p := 13) daL_law_1968 dbL_law_1968.2.2.2.2.2.2.2.2.1
theorem dL_law_1983 : decode cL_law 1983 = .ok (.iconst 1, 1) := dgq (p := 15) daL_law_1968 dbL_law_1968.2.2.2.2.2.2.2.2.2
def dsL_law_1984 : ByteArray := ⟨#[96, 46, 42, 21, 5, 5, 96, 46, 42, 21, 5, 6]⟩
theorem daL_law_1984 : agB cL_law dsL_law_1984 1984 := agB_of (n := 12) (by decide +kernel)
theorem dbL_law_1984 : (decode dsL_law_1984 0 = .ok (.iadd, 1) ∧ okop dsL_law_1984 0 = true) ∧ (decode dsL_law_1984 1 = .ok (.iaload, 1) ∧ okop dsL_law_1984 1 = true) ∧ (decode dsL_law_1984 2 = .ok (.aload_n 0, 1) ∧ okop dsL_law_1984 2 = true) ∧ (decode dsL_law_1984 3 = .ok (.iload 5, 2) ∧ okop dsL_law_1984 3 = true) ∧ (decode dsL_law_1984 5 = .ok (.iconst 2, 1) ∧ okop dsL_law_1984 5 = true) ∧ (decode dsL_law_1984 6 = .ok (.iadd, 1) ∧ okop dsL_law_1984 6 = true) ∧ (decode dsL_law_1984 7 = .ok (.iaload, 1) ∧ okop dsL_law_1984 7 = true) ∧ (decode dsL_law_1984 8 = .ok (.aload_n 0, 1) ∧ okop dsL_law_1984 8 = true) ∧ (decode dsL_law_1984 9 = .ok (.iload 5, 2) ∧ okop dsL_law_1984 9 = true) ∧ (decode dsL_law_1984 11 = .ok (.iconst 3, 1) ∧ okop dsL_law_1984 11 = true) := by decide +kernel
theorem dL_law_1984 : decode cL_law 1984 = .ok (.iadd, 1) := dgq (p := 0) daL_law_1984 dbL_law_1984.1
theorem dL_law_1985 : decode cL_law 1985 = .ok (.iaload, 1) := dgq (p := 1) daL_law_1984 dbL_law_1984.2.1
theorem dL_law_1986 : decode cL_law 1986 = .ok (.aload_n 0, 1) := dgq (p := 2) daL_law_1984 dbL_law_1984.2.2.1
theorem dL_law_1987 : decode cL_law 1987 = .ok (.iload 5, 2) := dgq (p := 3) daL_law_1984 dbL_law_1984.2.2.2.1
theorem dL_law_1989 : decode cL_law 1989 = .ok (.iconst 2, 1) := dgq (p := 5) daL_law_1984 dbL_law_1984.2.2.2.2.1
theorem dL_law_1990 : decode cL_law 1990 = .ok (.iadd, 1) := dgq (p := 6) daL_law_1984 dbL_law_1984.2.2.2.2.2.1
theorem dL_law_1991 : decode cL_law 1991 = .ok (.iaload, 1) := dgq (p := 7) daL_law_1984 dbL_law_1984.2.2.2.2.2.2.1
theorem dL_law_1992 : decode cL_law 1992 = .ok (.aload_n 0, 1) := dgq (p := 8) daL_law_1984 dbL_law_1984.2.2.2.2.2.2.2.1
theorem dL_law_1993 : decode cL_law 1993 = .ok (.iload 5, 2) := dgq (p := 9) daL_law_1984 dbL_law_1984.2.2.2.2.2.2.2.2.1
theorem dL_law_1995 : decode cL_law 1995 = .ok (.iconst 3, 1) := dgq (p := 11) daL_law_1984 dbL_law_1984.2.2.2.2.2.2.2.2.2
def dsL_law_1996 : ByteArray := ⟨#[96, 46, 45, 184, 1, 91, 54, 6, 44, 42, 21, 5, 4, 96]⟩
theorem daL_law_1996 : agB cL_law dsL_law_1996 1996 := agB_of (n := 14) (by decide +kernel)
theorem dbL_law_1996 : (decode dsL_law_1996 0 = .ok (.iadd, 1) ∧ okop dsL_law_1996 0 = true) ∧ (decode dsL_law_1996 1 = .ok (.iaload, 1) ∧ okop dsL_law_1996 1 = true) ∧ (decode dsL_law_1996 2 = .ok (.aload_n 3, 1) ∧ okop dsL_law_1996 2 = true) ∧ (decode dsL_law_1996 3 = .ok (.invokestatic 347, 3) ∧ okop dsL_law_1996 3 = true) ∧ (decode dsL_law_1996 6 = .ok (.istore 6, 2) ∧ okop dsL_law_1996 6 = true) ∧ (decode dsL_law_1996 8 = .ok (.aload_n 2, 1) ∧ okop dsL_law_1996 8 = true) ∧ (decode dsL_law_1996 9 = .ok (.aload_n 0, 1) ∧ okop dsL_law_1996 9 = true) ∧ (decode dsL_law_1996 10 = .ok (.iload 5, 2) ∧ okop dsL_law_1996 10 = true) ∧ (decode dsL_law_1996 12 = .ok (.iconst 1, 1) ∧ okop dsL_law_1996 12 = true) ∧ (decode dsL_law_1996 13 = .ok (.iadd, 1) ∧ okop dsL_law_1996 13 = true) := by decide +kernel
theorem dL_law_1996 : decode cL_law 1996 = .ok (.iadd, 1) := dgq (p := 0) daL_law_1996 dbL_law_1996.1
theorem dL_law_1997 : decode cL_law 1997 = .ok (.iaload, 1) := dgq (p := 1) daL_law_1996 dbL_law_1996.2.1
theorem dL_law_1998 : decode cL_law 1998 = .ok (.aload_n 3, 1) := dgq (p := 2) daL_law_1996 dbL_law_1996.2.2.1
theorem dL_law_1999 : decode cL_law 1999 = .ok (.invokestatic 347, 3) := dgq (p := 3) daL_law_1996 dbL_law_1996.2.2.2.1
theorem dL_law_2002 : decode cL_law 2002 = .ok (.istore 6, 2) := dgq (p := 6) daL_law_1996 dbL_law_1996.2.2.2.2.1
theorem dL_law_2004 : decode cL_law 2004 = .ok (.aload_n 2, 1) := dgq (p := 8) daL_law_1996 dbL_law_1996.2.2.2.2.2.1
theorem dL_law_2005 : decode cL_law 2005 = .ok (.aload_n 0, 1) := dgq (p := 9) daL_law_1996 dbL_law_1996.2.2.2.2.2.2.1
theorem dL_law_2006 : decode cL_law 2006 = .ok (.iload 5, 2) := dgq (p := 10) daL_law_1996 dbL_law_1996.2.2.2.2.2.2.2.1
theorem dL_law_2008 : decode cL_law 2008 = .ok (.iconst 1, 1) := dgq (p := 12) daL_law_1996 dbL_law_1996.2.2.2.2.2.2.2.2.1
theorem dL_law_2009 : decode cL_law 2009 = .ok (.iadd, 1) := dgq (p := 13) daL_law_1996 dbL_law_1996.2.2.2.2.2.2.2.2.2
def dsL_law_2010 : ByteArray := ⟨#[46, 42, 21, 5, 5, 96, 46, 42, 21, 5, 6, 96]⟩
theorem daL_law_2010 : agB cL_law dsL_law_2010 2010 := agB_of (n := 12) (by decide +kernel)
theorem dbL_law_2010 : (decode dsL_law_2010 0 = .ok (.iaload, 1) ∧ okop dsL_law_2010 0 = true) ∧ (decode dsL_law_2010 1 = .ok (.aload_n 0, 1) ∧ okop dsL_law_2010 1 = true) ∧ (decode dsL_law_2010 2 = .ok (.iload 5, 2) ∧ okop dsL_law_2010 2 = true) ∧ (decode dsL_law_2010 4 = .ok (.iconst 2, 1) ∧ okop dsL_law_2010 4 = true) ∧ (decode dsL_law_2010 5 = .ok (.iadd, 1) ∧ okop dsL_law_2010 5 = true) ∧ (decode dsL_law_2010 6 = .ok (.iaload, 1) ∧ okop dsL_law_2010 6 = true) ∧ (decode dsL_law_2010 7 = .ok (.aload_n 0, 1) ∧ okop dsL_law_2010 7 = true) ∧ (decode dsL_law_2010 8 = .ok (.iload 5, 2) ∧ okop dsL_law_2010 8 = true) ∧ (decode dsL_law_2010 10 = .ok (.iconst 3, 1) ∧ okop dsL_law_2010 10 = true) ∧ (decode dsL_law_2010 11 = .ok (.iadd, 1) ∧ okop dsL_law_2010 11 = true) := by decide +kernel
theorem dL_law_2010 : decode cL_law 2010 = .ok (.iaload, 1) := dgq (p := 0) daL_law_2010 dbL_law_2010.1
theorem dL_law_2011 : decode cL_law 2011 = .ok (.aload_n 0, 1) := dgq (p := 1) daL_law_2010 dbL_law_2010.2.1
theorem dL_law_2012 : decode cL_law 2012 = .ok (.iload 5, 2) := dgq (p := 2) daL_law_2010 dbL_law_2010.2.2.1
theorem dL_law_2014 : decode cL_law 2014 = .ok (.iconst 2, 1) := dgq (p := 4) daL_law_2010 dbL_law_2010.2.2.2.1
theorem dL_law_2015 : decode cL_law 2015 = .ok (.iadd, 1) := dgq (p := 5) daL_law_2010 dbL_law_2010.2.2.2.2.1
theorem dL_law_2016 : decode cL_law 2016 = .ok (.iaload, 1) := dgq (p := 6) daL_law_2010 dbL_law_2010.2.2.2.2.2.1
theorem dL_law_2017 : decode cL_law 2017 = .ok (.aload_n 0, 1) := dgq (p := 7) daL_law_2010 dbL_law_2010.2.2.2.2.2.2.1
theorem dL_law_2018 : decode cL_law 2018 = .ok (.iload 5, 2) := dgq (p := 8) daL_law_2010 dbL_law_2010.2.2.2.2.2.2.2.1
theorem dL_law_2020 : decode cL_law 2020 = .ok (.iconst 3, 1) := dgq (p := 10) daL_law_2010 dbL_law_2010.2.2.2.2.2.2.2.2.1
theorem dL_law_2021 : decode cL_law 2021 = .ok (.iadd, 1) := dgq (p := 11) daL_law_2010 dbL_law_2010.2.2.2.2.2.2.2.2.2
def dsL_law_2022 : ByteArray := ⟨#[46, 182, 1, 93, 54, 7, 167, 3, 127, 43, 42, 21, 5, 4, 96, 46]⟩
theorem daL_law_2022 : agB cL_law dsL_law_2022 2022 := agB_of (n := 16) (by decide +kernel)
theorem dbL_law_2022 : (decode dsL_law_2022 0 = .ok (.iaload, 1) ∧ okop dsL_law_2022 0 = true) ∧ (decode dsL_law_2022 1 = .ok (.invokevirtual 349, 3) ∧ okop dsL_law_2022 1 = true) ∧ (decode dsL_law_2022 4 = .ok (.istore 7, 2) ∧ okop dsL_law_2022 4 = true) ∧ (decode dsL_law_2022 6 = .ok (.goto 895, 3) ∧ okop dsL_law_2022 6 = true) ∧ (decode dsL_law_2022 9 = .ok (.aload_n 1, 1) ∧ okop dsL_law_2022 9 = true) ∧ (decode dsL_law_2022 10 = .ok (.aload_n 0, 1) ∧ okop dsL_law_2022 10 = true) ∧ (decode dsL_law_2022 11 = .ok (.iload 5, 2) ∧ okop dsL_law_2022 11 = true) ∧ (decode dsL_law_2022 13 = .ok (.iconst 1, 1) ∧ okop dsL_law_2022 13 = true) ∧ (decode dsL_law_2022 14 = .ok (.iadd, 1) ∧ okop dsL_law_2022 14 = true) ∧ (decode dsL_law_2022 15 = .ok (.iaload, 1) ∧ okop dsL_law_2022 15 = true) := by decide +kernel
theorem dL_law_2022 : decode cL_law 2022 = .ok (.iaload, 1) := dgq (p := 0) daL_law_2022 dbL_law_2022.1
theorem dL_law_2023 : decode cL_law 2023 = .ok (.invokevirtual 349, 3) := dgq (p := 1) daL_law_2022 dbL_law_2022.2.1
theorem dL_law_2026 : decode cL_law 2026 = .ok (.istore 7, 2) := dgq (p := 4) daL_law_2022 dbL_law_2022.2.2.1
theorem dL_law_2028 : decode cL_law 2028 = .ok (.goto 895, 3) := dgq (p := 6) daL_law_2022 dbL_law_2022.2.2.2.1
theorem dL_law_2031 : decode cL_law 2031 = .ok (.aload_n 1, 1) := dgq (p := 9) daL_law_2022 dbL_law_2022.2.2.2.2.1
theorem dL_law_2032 : decode cL_law 2032 = .ok (.aload_n 0, 1) := dgq (p := 10) daL_law_2022 dbL_law_2022.2.2.2.2.2.1
theorem dL_law_2033 : decode cL_law 2033 = .ok (.iload 5, 2) := dgq (p := 11) daL_law_2022 dbL_law_2022.2.2.2.2.2.2.1
theorem dL_law_2035 : decode cL_law 2035 = .ok (.iconst 1, 1) := dgq (p := 13) daL_law_2022 dbL_law_2022.2.2.2.2.2.2.2.1
theorem dL_law_2036 : decode cL_law 2036 = .ok (.iadd, 1) := dgq (p := 14) daL_law_2022 dbL_law_2022.2.2.2.2.2.2.2.2.1
theorem dL_law_2037 : decode cL_law 2037 = .ok (.iaload, 1) := dgq (p := 15) daL_law_2022 dbL_law_2022.2.2.2.2.2.2.2.2.2
def dsL_law_2038 : ByteArray := ⟨#[45, 184, 1, 94, 54, 6, 44, 42, 21, 5, 4, 96, 46, 182, 1, 96]⟩
theorem daL_law_2038 : agB cL_law dsL_law_2038 2038 := agB_of (n := 16) (by decide +kernel)
theorem dbL_law_2038 : (decode dsL_law_2038 0 = .ok (.aload_n 3, 1) ∧ okop dsL_law_2038 0 = true) ∧ (decode dsL_law_2038 1 = .ok (.invokestatic 350, 3) ∧ okop dsL_law_2038 1 = true) ∧ (decode dsL_law_2038 4 = .ok (.istore 6, 2) ∧ okop dsL_law_2038 4 = true) ∧ (decode dsL_law_2038 6 = .ok (.aload_n 2, 1) ∧ okop dsL_law_2038 6 = true) ∧ (decode dsL_law_2038 7 = .ok (.aload_n 0, 1) ∧ okop dsL_law_2038 7 = true) ∧ (decode dsL_law_2038 8 = .ok (.iload 5, 2) ∧ okop dsL_law_2038 8 = true) ∧ (decode dsL_law_2038 10 = .ok (.iconst 1, 1) ∧ okop dsL_law_2038 10 = true) ∧ (decode dsL_law_2038 11 = .ok (.iadd, 1) ∧ okop dsL_law_2038 11 = true) ∧ (decode dsL_law_2038 12 = .ok (.iaload, 1) ∧ okop dsL_law_2038 12 = true) ∧ (decode dsL_law_2038 13 = .ok (.invokevirtual 352, 3) ∧ okop dsL_law_2038 13 = true) := by decide +kernel
theorem dL_law_2038 : decode cL_law 2038 = .ok (.aload_n 3, 1) := dgq (p := 0) daL_law_2038 dbL_law_2038.1
theorem dL_law_2039 : decode cL_law 2039 = .ok (.invokestatic 350, 3) := dgq (p := 1) daL_law_2038 dbL_law_2038.2.1
theorem dL_law_2042 : decode cL_law 2042 = .ok (.istore 6, 2) := dgq (p := 4) daL_law_2038 dbL_law_2038.2.2.1
theorem dL_law_2044 : decode cL_law 2044 = .ok (.aload_n 2, 1) := dgq (p := 6) daL_law_2038 dbL_law_2038.2.2.2.1
theorem dL_law_2045 : decode cL_law 2045 = .ok (.aload_n 0, 1) := dgq (p := 7) daL_law_2038 dbL_law_2038.2.2.2.2.1
theorem dL_law_2046 : decode cL_law 2046 = .ok (.iload 5, 2) := dgq (p := 8) daL_law_2038 dbL_law_2038.2.2.2.2.2.1
theorem dL_law_2048 : decode cL_law 2048 = .ok (.iconst 1, 1) := dgq (p := 10) daL_law_2038 dbL_law_2038.2.2.2.2.2.2.1
theorem dL_law_2049 : decode cL_law 2049 = .ok (.iadd, 1) := dgq (p := 11) daL_law_2038 dbL_law_2038.2.2.2.2.2.2.2.1
theorem dL_law_2050 : decode cL_law 2050 = .ok (.iaload, 1) := dgq (p := 12) daL_law_2038 dbL_law_2038.2.2.2.2.2.2.2.2.1
theorem dL_law_2051 : decode cL_law 2051 = .ok (.invokevirtual 352, 3) := dgq (p := 13) daL_law_2038 dbL_law_2038.2.2.2.2.2.2.2.2.2
def dsL_law_2054 : ByteArray := ⟨#[54, 7, 167, 3, 99, 43, 42, 21, 5, 4, 96, 46, 45, 184, 1, 97]⟩
theorem daL_law_2054 : agB cL_law dsL_law_2054 2054 := agB_of (n := 16) (by decide +kernel)
theorem dbL_law_2054 : (decode dsL_law_2054 0 = .ok (.istore 7, 2) ∧ okop dsL_law_2054 0 = true) ∧ (decode dsL_law_2054 2 = .ok (.goto 867, 3) ∧ okop dsL_law_2054 2 = true) ∧ (decode dsL_law_2054 5 = .ok (.aload_n 1, 1) ∧ okop dsL_law_2054 5 = true) ∧ (decode dsL_law_2054 6 = .ok (.aload_n 0, 1) ∧ okop dsL_law_2054 6 = true) ∧ (decode dsL_law_2054 7 = .ok (.iload 5, 2) ∧ okop dsL_law_2054 7 = true) ∧ (decode dsL_law_2054 9 = .ok (.iconst 1, 1) ∧ okop dsL_law_2054 9 = true) ∧ (decode dsL_law_2054 10 = .ok (.iadd, 1) ∧ okop dsL_law_2054 10 = true) ∧ (decode dsL_law_2054 11 = .ok (.iaload, 1) ∧ okop dsL_law_2054 11 = true) ∧ (decode dsL_law_2054 12 = .ok (.aload_n 3, 1) ∧ okop dsL_law_2054 12 = true) ∧ (decode dsL_law_2054 13 = .ok (.invokestatic 353, 3) ∧ okop dsL_law_2054 13 = true) := by decide +kernel
theorem dL_law_2054 : decode cL_law 2054 = .ok (.istore 7, 2) := dgq (p := 0) daL_law_2054 dbL_law_2054.1
theorem dL_law_2056 : decode cL_law 2056 = .ok (.goto 867, 3) := dgq (p := 2) daL_law_2054 dbL_law_2054.2.1
theorem dL_law_2059 : decode cL_law 2059 = .ok (.aload_n 1, 1) := dgq (p := 5) daL_law_2054 dbL_law_2054.2.2.1
theorem dL_law_2060 : decode cL_law 2060 = .ok (.aload_n 0, 1) := dgq (p := 6) daL_law_2054 dbL_law_2054.2.2.2.1
theorem dL_law_2061 : decode cL_law 2061 = .ok (.iload 5, 2) := dgq (p := 7) daL_law_2054 dbL_law_2054.2.2.2.2.1
theorem dL_law_2063 : decode cL_law 2063 = .ok (.iconst 1, 1) := dgq (p := 9) daL_law_2054 dbL_law_2054.2.2.2.2.2.1
theorem dL_law_2064 : decode cL_law 2064 = .ok (.iadd, 1) := dgq (p := 10) daL_law_2054 dbL_law_2054.2.2.2.2.2.2.1
theorem dL_law_2065 : decode cL_law 2065 = .ok (.iaload, 1) := dgq (p := 11) daL_law_2054 dbL_law_2054.2.2.2.2.2.2.2.1
theorem dL_law_2066 : decode cL_law 2066 = .ok (.aload_n 3, 1) := dgq (p := 12) daL_law_2054 dbL_law_2054.2.2.2.2.2.2.2.2.1
theorem dL_law_2067 : decode cL_law 2067 = .ok (.invokestatic 353, 3) := dgq (p := 13) daL_law_2054 dbL_law_2054.2.2.2.2.2.2.2.2.2
def dsL_law_2070 : ByteArray := ⟨#[54, 6, 44, 42, 21, 5, 4, 96, 46, 182, 1, 99, 54, 7, 167, 3, 71]⟩
theorem daL_law_2070 : agB cL_law dsL_law_2070 2070 := agB_of (n := 17) (by decide +kernel)
theorem dbL_law_2070 : (decode dsL_law_2070 0 = .ok (.istore 6, 2) ∧ okop dsL_law_2070 0 = true) ∧ (decode dsL_law_2070 2 = .ok (.aload_n 2, 1) ∧ okop dsL_law_2070 2 = true) ∧ (decode dsL_law_2070 3 = .ok (.aload_n 0, 1) ∧ okop dsL_law_2070 3 = true) ∧ (decode dsL_law_2070 4 = .ok (.iload 5, 2) ∧ okop dsL_law_2070 4 = true) ∧ (decode dsL_law_2070 6 = .ok (.iconst 1, 1) ∧ okop dsL_law_2070 6 = true) ∧ (decode dsL_law_2070 7 = .ok (.iadd, 1) ∧ okop dsL_law_2070 7 = true) ∧ (decode dsL_law_2070 8 = .ok (.iaload, 1) ∧ okop dsL_law_2070 8 = true) ∧ (decode dsL_law_2070 9 = .ok (.invokevirtual 355, 3) ∧ okop dsL_law_2070 9 = true) ∧ (decode dsL_law_2070 12 = .ok (.istore 7, 2) ∧ okop dsL_law_2070 12 = true) ∧ (decode dsL_law_2070 14 = .ok (.goto 839, 3) ∧ okop dsL_law_2070 14 = true) := by decide +kernel
theorem dL_law_2070 : decode cL_law 2070 = .ok (.istore 6, 2) := dgq (p := 0) daL_law_2070 dbL_law_2070.1
theorem dL_law_2072 : decode cL_law 2072 = .ok (.aload_n 2, 1) := dgq (p := 2) daL_law_2070 dbL_law_2070.2.1
theorem dL_law_2073 : decode cL_law 2073 = .ok (.aload_n 0, 1) := dgq (p := 3) daL_law_2070 dbL_law_2070.2.2.1
theorem dL_law_2074 : decode cL_law 2074 = .ok (.iload 5, 2) := dgq (p := 4) daL_law_2070 dbL_law_2070.2.2.2.1
theorem dL_law_2076 : decode cL_law 2076 = .ok (.iconst 1, 1) := dgq (p := 6) daL_law_2070 dbL_law_2070.2.2.2.2.1
theorem dL_law_2077 : decode cL_law 2077 = .ok (.iadd, 1) := dgq (p := 7) daL_law_2070 dbL_law_2070.2.2.2.2.2.1
theorem dL_law_2078 : decode cL_law 2078 = .ok (.iaload, 1) := dgq (p := 8) daL_law_2070 dbL_law_2070.2.2.2.2.2.2.1
theorem dL_law_2079 : decode cL_law 2079 = .ok (.invokevirtual 355, 3) := dgq (p := 9) daL_law_2070 dbL_law_2070.2.2.2.2.2.2.2.1
theorem dL_law_2082 : decode cL_law 2082 = .ok (.istore 7, 2) := dgq (p := 12) daL_law_2070 dbL_law_2070.2.2.2.2.2.2.2.2.1
theorem dL_law_2084 : decode cL_law 2084 = .ok (.goto 839, 3) := dgq (p := 14) daL_law_2070 dbL_law_2070.2.2.2.2.2.2.2.2.2
def dsL_law_2087 : ByteArray := ⟨#[43, 42, 21, 5, 4, 96, 46, 42, 21, 5, 5, 96]⟩
theorem daL_law_2087 : agB cL_law dsL_law_2087 2087 := agB_of (n := 12) (by decide +kernel)
theorem dbL_law_2087 : (decode dsL_law_2087 0 = .ok (.aload_n 1, 1) ∧ okop dsL_law_2087 0 = true) ∧ (decode dsL_law_2087 1 = .ok (.aload_n 0, 1) ∧ okop dsL_law_2087 1 = true) ∧ (decode dsL_law_2087 2 = .ok (.iload 5, 2) ∧ okop dsL_law_2087 2 = true) ∧ (decode dsL_law_2087 4 = .ok (.iconst 1, 1) ∧ okop dsL_law_2087 4 = true) ∧ (decode dsL_law_2087 5 = .ok (.iadd, 1) ∧ okop dsL_law_2087 5 = true) ∧ (decode dsL_law_2087 6 = .ok (.iaload, 1) ∧ okop dsL_law_2087 6 = true) ∧ (decode dsL_law_2087 7 = .ok (.aload_n 0, 1) ∧ okop dsL_law_2087 7 = true) ∧ (decode dsL_law_2087 8 = .ok (.iload 5, 2) ∧ okop dsL_law_2087 8 = true) ∧ (decode dsL_law_2087 10 = .ok (.iconst 2, 1) ∧ okop dsL_law_2087 10 = true) ∧ (decode dsL_law_2087 11 = .ok (.iadd, 1) ∧ okop dsL_law_2087 11 = true) := by decide +kernel
theorem dL_law_2087 : decode cL_law 2087 = .ok (.aload_n 1, 1) := dgq (p := 0) daL_law_2087 dbL_law_2087.1
theorem dL_law_2088 : decode cL_law 2088 = .ok (.aload_n 0, 1) := dgq (p := 1) daL_law_2087 dbL_law_2087.2.1
theorem dL_law_2089 : decode cL_law 2089 = .ok (.iload 5, 2) := dgq (p := 2) daL_law_2087 dbL_law_2087.2.2.1
theorem dL_law_2091 : decode cL_law 2091 = .ok (.iconst 1, 1) := dgq (p := 4) daL_law_2087 dbL_law_2087.2.2.2.1
theorem dL_law_2092 : decode cL_law 2092 = .ok (.iadd, 1) := dgq (p := 5) daL_law_2087 dbL_law_2087.2.2.2.2.1
theorem dL_law_2093 : decode cL_law 2093 = .ok (.iaload, 1) := dgq (p := 6) daL_law_2087 dbL_law_2087.2.2.2.2.2.1
theorem dL_law_2094 : decode cL_law 2094 = .ok (.aload_n 0, 1) := dgq (p := 7) daL_law_2087 dbL_law_2087.2.2.2.2.2.2.1
theorem dL_law_2095 : decode cL_law 2095 = .ok (.iload 5, 2) := dgq (p := 8) daL_law_2087 dbL_law_2087.2.2.2.2.2.2.2.1
theorem dL_law_2097 : decode cL_law 2097 = .ok (.iconst 2, 1) := dgq (p := 10) daL_law_2087 dbL_law_2087.2.2.2.2.2.2.2.2.1
theorem dL_law_2098 : decode cL_law 2098 = .ok (.iadd, 1) := dgq (p := 11) daL_law_2087 dbL_law_2087.2.2.2.2.2.2.2.2.2
def dsL_law_2099 : ByteArray := ⟨#[46, 45, 184, 1, 100, 54, 6, 44, 42, 21, 5, 4, 96, 46]⟩
theorem daL_law_2099 : agB cL_law dsL_law_2099 2099 := agB_of (n := 14) (by decide +kernel)
theorem dbL_law_2099 : (decode dsL_law_2099 0 = .ok (.iaload, 1) ∧ okop dsL_law_2099 0 = true) ∧ (decode dsL_law_2099 1 = .ok (.aload_n 3, 1) ∧ okop dsL_law_2099 1 = true) ∧ (decode dsL_law_2099 2 = .ok (.invokestatic 356, 3) ∧ okop dsL_law_2099 2 = true) ∧ (decode dsL_law_2099 5 = .ok (.istore 6, 2) ∧ okop dsL_law_2099 5 = true) ∧ (decode dsL_law_2099 7 = .ok (.aload_n 2, 1) ∧ okop dsL_law_2099 7 = true) ∧ (decode dsL_law_2099 8 = .ok (.aload_n 0, 1) ∧ okop dsL_law_2099 8 = true) ∧ (decode dsL_law_2099 9 = .ok (.iload 5, 2) ∧ okop dsL_law_2099 9 = true) ∧ (decode dsL_law_2099 11 = .ok (.iconst 1, 1) ∧ okop dsL_law_2099 11 = true) ∧ (decode dsL_law_2099 12 = .ok (.iadd, 1) ∧ okop dsL_law_2099 12 = true) ∧ (decode dsL_law_2099 13 = .ok (.iaload, 1) ∧ okop dsL_law_2099 13 = true) := by decide +kernel
theorem dL_law_2099 : decode cL_law 2099 = .ok (.iaload, 1) := dgq (p := 0) daL_law_2099 dbL_law_2099.1
theorem dL_law_2100 : decode cL_law 2100 = .ok (.aload_n 3, 1) := dgq (p := 1) daL_law_2099 dbL_law_2099.2.1
theorem dL_law_2101 : decode cL_law 2101 = .ok (.invokestatic 356, 3) := dgq (p := 2) daL_law_2099 dbL_law_2099.2.2.1
theorem dL_law_2104 : decode cL_law 2104 = .ok (.istore 6, 2) := dgq (p := 5) daL_law_2099 dbL_law_2099.2.2.2.1
theorem dL_law_2106 : decode cL_law 2106 = .ok (.aload_n 2, 1) := dgq (p := 7) daL_law_2099 dbL_law_2099.2.2.2.2.1
theorem dL_law_2107 : decode cL_law 2107 = .ok (.aload_n 0, 1) := dgq (p := 8) daL_law_2099 dbL_law_2099.2.2.2.2.2.1
theorem dL_law_2108 : decode cL_law 2108 = .ok (.iload 5, 2) := dgq (p := 9) daL_law_2099 dbL_law_2099.2.2.2.2.2.2.1
theorem dL_law_2110 : decode cL_law 2110 = .ok (.iconst 1, 1) := dgq (p := 11) daL_law_2099 dbL_law_2099.2.2.2.2.2.2.2.1
theorem dL_law_2111 : decode cL_law 2111 = .ok (.iadd, 1) := dgq (p := 12) daL_law_2099 dbL_law_2099.2.2.2.2.2.2.2.2.1
theorem dL_law_2112 : decode cL_law 2112 = .ok (.iaload, 1) := dgq (p := 13) daL_law_2099 dbL_law_2099.2.2.2.2.2.2.2.2.2
def dsL_law_2113 : ByteArray := ⟨#[42, 21, 5, 5, 96, 46, 182, 1, 102, 54, 7, 167, 3, 31, 43, 42]⟩
theorem daL_law_2113 : agB cL_law dsL_law_2113 2113 := agB_of (n := 16) (by decide +kernel)
theorem dbL_law_2113 : (decode dsL_law_2113 0 = .ok (.aload_n 0, 1) ∧ okop dsL_law_2113 0 = true) ∧ (decode dsL_law_2113 1 = .ok (.iload 5, 2) ∧ okop dsL_law_2113 1 = true) ∧ (decode dsL_law_2113 3 = .ok (.iconst 2, 1) ∧ okop dsL_law_2113 3 = true) ∧ (decode dsL_law_2113 4 = .ok (.iadd, 1) ∧ okop dsL_law_2113 4 = true) ∧ (decode dsL_law_2113 5 = .ok (.iaload, 1) ∧ okop dsL_law_2113 5 = true) ∧ (decode dsL_law_2113 6 = .ok (.invokevirtual 358, 3) ∧ okop dsL_law_2113 6 = true) ∧ (decode dsL_law_2113 9 = .ok (.istore 7, 2) ∧ okop dsL_law_2113 9 = true) ∧ (decode dsL_law_2113 11 = .ok (.goto 799, 3) ∧ okop dsL_law_2113 11 = true) ∧ (decode dsL_law_2113 14 = .ok (.aload_n 1, 1) ∧ okop dsL_law_2113 14 = true) ∧ (decode dsL_law_2113 15 = .ok (.aload_n 0, 1) ∧ okop dsL_law_2113 15 = true) := by decide +kernel
theorem dL_law_2113 : decode cL_law 2113 = .ok (.aload_n 0, 1) := dgq (p := 0) daL_law_2113 dbL_law_2113.1
theorem dL_law_2114 : decode cL_law 2114 = .ok (.iload 5, 2) := dgq (p := 1) daL_law_2113 dbL_law_2113.2.1
theorem dL_law_2116 : decode cL_law 2116 = .ok (.iconst 2, 1) := dgq (p := 3) daL_law_2113 dbL_law_2113.2.2.1
theorem dL_law_2117 : decode cL_law 2117 = .ok (.iadd, 1) := dgq (p := 4) daL_law_2113 dbL_law_2113.2.2.2.1
theorem dL_law_2118 : decode cL_law 2118 = .ok (.iaload, 1) := dgq (p := 5) daL_law_2113 dbL_law_2113.2.2.2.2.1
theorem dL_law_2119 : decode cL_law 2119 = .ok (.invokevirtual 358, 3) := dgq (p := 6) daL_law_2113 dbL_law_2113.2.2.2.2.2.1
theorem dL_law_2122 : decode cL_law 2122 = .ok (.istore 7, 2) := dgq (p := 9) daL_law_2113 dbL_law_2113.2.2.2.2.2.2.1
theorem dL_law_2124 : decode cL_law 2124 = .ok (.goto 799, 3) := dgq (p := 11) daL_law_2113 dbL_law_2113.2.2.2.2.2.2.2.1
theorem dL_law_2127 : decode cL_law 2127 = .ok (.aload_n 1, 1) := dgq (p := 14) daL_law_2113 dbL_law_2113.2.2.2.2.2.2.2.2.1
theorem dL_law_2128 : decode cL_law 2128 = .ok (.aload_n 0, 1) := dgq (p := 15) daL_law_2113 dbL_law_2113.2.2.2.2.2.2.2.2.2
def dsL_law_2129 : ByteArray := ⟨#[21, 5, 4, 96, 46, 45, 184, 1, 103, 54, 6, 44, 42, 21, 5]⟩
theorem daL_law_2129 : agB cL_law dsL_law_2129 2129 := agB_of (n := 15) (by decide +kernel)
theorem dbL_law_2129 : (decode dsL_law_2129 0 = .ok (.iload 5, 2) ∧ okop dsL_law_2129 0 = true) ∧ (decode dsL_law_2129 2 = .ok (.iconst 1, 1) ∧ okop dsL_law_2129 2 = true) ∧ (decode dsL_law_2129 3 = .ok (.iadd, 1) ∧ okop dsL_law_2129 3 = true) ∧ (decode dsL_law_2129 4 = .ok (.iaload, 1) ∧ okop dsL_law_2129 4 = true) ∧ (decode dsL_law_2129 5 = .ok (.aload_n 3, 1) ∧ okop dsL_law_2129 5 = true) ∧ (decode dsL_law_2129 6 = .ok (.invokestatic 359, 3) ∧ okop dsL_law_2129 6 = true) ∧ (decode dsL_law_2129 9 = .ok (.istore 6, 2) ∧ okop dsL_law_2129 9 = true) ∧ (decode dsL_law_2129 11 = .ok (.aload_n 2, 1) ∧ okop dsL_law_2129 11 = true) ∧ (decode dsL_law_2129 12 = .ok (.aload_n 0, 1) ∧ okop dsL_law_2129 12 = true) ∧ (decode dsL_law_2129 13 = .ok (.iload 5, 2) ∧ okop dsL_law_2129 13 = true) := by decide +kernel
theorem dL_law_2129 : decode cL_law 2129 = .ok (.iload 5, 2) := dgq (p := 0) daL_law_2129 dbL_law_2129.1
theorem dL_law_2131 : decode cL_law 2131 = .ok (.iconst 1, 1) := dgq (p := 2) daL_law_2129 dbL_law_2129.2.1
theorem dL_law_2132 : decode cL_law 2132 = .ok (.iadd, 1) := dgq (p := 3) daL_law_2129 dbL_law_2129.2.2.1
theorem dL_law_2133 : decode cL_law 2133 = .ok (.iaload, 1) := dgq (p := 4) daL_law_2129 dbL_law_2129.2.2.2.1
theorem dL_law_2134 : decode cL_law 2134 = .ok (.aload_n 3, 1) := dgq (p := 5) daL_law_2129 dbL_law_2129.2.2.2.2.1
theorem dL_law_2135 : decode cL_law 2135 = .ok (.invokestatic 359, 3) := dgq (p := 6) daL_law_2129 dbL_law_2129.2.2.2.2.2.1
theorem dL_law_2138 : decode cL_law 2138 = .ok (.istore 6, 2) := dgq (p := 9) daL_law_2129 dbL_law_2129.2.2.2.2.2.2.1
theorem dL_law_2140 : decode cL_law 2140 = .ok (.aload_n 2, 1) := dgq (p := 11) daL_law_2129 dbL_law_2129.2.2.2.2.2.2.2.1
theorem dL_law_2141 : decode cL_law 2141 = .ok (.aload_n 0, 1) := dgq (p := 12) daL_law_2129 dbL_law_2129.2.2.2.2.2.2.2.2.1
theorem dL_law_2142 : decode cL_law 2142 = .ok (.iload 5, 2) := dgq (p := 13) daL_law_2129 dbL_law_2129.2.2.2.2.2.2.2.2.2
def dsL_law_2144 : ByteArray := ⟨#[4, 96, 46, 182, 1, 105, 54, 7, 167, 3, 3, 43, 42, 21, 5, 4]⟩
theorem daL_law_2144 : agB cL_law dsL_law_2144 2144 := agB_of (n := 16) (by decide +kernel)
theorem dbL_law_2144 : (decode dsL_law_2144 0 = .ok (.iconst 1, 1) ∧ okop dsL_law_2144 0 = true) ∧ (decode dsL_law_2144 1 = .ok (.iadd, 1) ∧ okop dsL_law_2144 1 = true) ∧ (decode dsL_law_2144 2 = .ok (.iaload, 1) ∧ okop dsL_law_2144 2 = true) ∧ (decode dsL_law_2144 3 = .ok (.invokevirtual 361, 3) ∧ okop dsL_law_2144 3 = true) ∧ (decode dsL_law_2144 6 = .ok (.istore 7, 2) ∧ okop dsL_law_2144 6 = true) ∧ (decode dsL_law_2144 8 = .ok (.goto 771, 3) ∧ okop dsL_law_2144 8 = true) ∧ (decode dsL_law_2144 11 = .ok (.aload_n 1, 1) ∧ okop dsL_law_2144 11 = true) ∧ (decode dsL_law_2144 12 = .ok (.aload_n 0, 1) ∧ okop dsL_law_2144 12 = true) ∧ (decode dsL_law_2144 13 = .ok (.iload 5, 2) ∧ okop dsL_law_2144 13 = true) ∧ (decode dsL_law_2144 15 = .ok (.iconst 1, 1) ∧ okop dsL_law_2144 15 = true) := by decide +kernel
theorem dL_law_2144 : decode cL_law 2144 = .ok (.iconst 1, 1) := dgq (p := 0) daL_law_2144 dbL_law_2144.1
theorem dL_law_2145 : decode cL_law 2145 = .ok (.iadd, 1) := dgq (p := 1) daL_law_2144 dbL_law_2144.2.1
theorem dL_law_2146 : decode cL_law 2146 = .ok (.iaload, 1) := dgq (p := 2) daL_law_2144 dbL_law_2144.2.2.1
theorem dL_law_2147 : decode cL_law 2147 = .ok (.invokevirtual 361, 3) := dgq (p := 3) daL_law_2144 dbL_law_2144.2.2.2.1
theorem dL_law_2150 : decode cL_law 2150 = .ok (.istore 7, 2) := dgq (p := 6) daL_law_2144 dbL_law_2144.2.2.2.2.1
theorem dL_law_2152 : decode cL_law 2152 = .ok (.goto 771, 3) := dgq (p := 8) daL_law_2144 dbL_law_2144.2.2.2.2.2.1
theorem dL_law_2155 : decode cL_law 2155 = .ok (.aload_n 1, 1) := dgq (p := 11) daL_law_2144 dbL_law_2144.2.2.2.2.2.2.1
theorem dL_law_2156 : decode cL_law 2156 = .ok (.aload_n 0, 1) := dgq (p := 12) daL_law_2144 dbL_law_2144.2.2.2.2.2.2.2.1
theorem dL_law_2157 : decode cL_law 2157 = .ok (.iload 5, 2) := dgq (p := 13) daL_law_2144 dbL_law_2144.2.2.2.2.2.2.2.2.1
theorem dL_law_2159 : decode cL_law 2159 = .ok (.iconst 1, 1) := dgq (p := 15) daL_law_2144 dbL_law_2144.2.2.2.2.2.2.2.2.2
def dsL_law_2160 : ByteArray := ⟨#[96, 46, 42, 21, 5, 5, 96, 46, 42, 21, 5, 6]⟩
theorem daL_law_2160 : agB cL_law dsL_law_2160 2160 := agB_of (n := 12) (by decide +kernel)
theorem dbL_law_2160 : (decode dsL_law_2160 0 = .ok (.iadd, 1) ∧ okop dsL_law_2160 0 = true) ∧ (decode dsL_law_2160 1 = .ok (.iaload, 1) ∧ okop dsL_law_2160 1 = true) ∧ (decode dsL_law_2160 2 = .ok (.aload_n 0, 1) ∧ okop dsL_law_2160 2 = true) ∧ (decode dsL_law_2160 3 = .ok (.iload 5, 2) ∧ okop dsL_law_2160 3 = true) ∧ (decode dsL_law_2160 5 = .ok (.iconst 2, 1) ∧ okop dsL_law_2160 5 = true) ∧ (decode dsL_law_2160 6 = .ok (.iadd, 1) ∧ okop dsL_law_2160 6 = true) ∧ (decode dsL_law_2160 7 = .ok (.iaload, 1) ∧ okop dsL_law_2160 7 = true) ∧ (decode dsL_law_2160 8 = .ok (.aload_n 0, 1) ∧ okop dsL_law_2160 8 = true) ∧ (decode dsL_law_2160 9 = .ok (.iload 5, 2) ∧ okop dsL_law_2160 9 = true) ∧ (decode dsL_law_2160 11 = .ok (.iconst 3, 1) ∧ okop dsL_law_2160 11 = true) := by decide +kernel
theorem dL_law_2160 : decode cL_law 2160 = .ok (.iadd, 1) := dgq (p := 0) daL_law_2160 dbL_law_2160.1
theorem dL_law_2161 : decode cL_law 2161 = .ok (.iaload, 1) := dgq (p := 1) daL_law_2160 dbL_law_2160.2.1
theorem dL_law_2162 : decode cL_law 2162 = .ok (.aload_n 0, 1) := dgq (p := 2) daL_law_2160 dbL_law_2160.2.2.1
theorem dL_law_2163 : decode cL_law 2163 = .ok (.iload 5, 2) := dgq (p := 3) daL_law_2160 dbL_law_2160.2.2.2.1
theorem dL_law_2165 : decode cL_law 2165 = .ok (.iconst 2, 1) := dgq (p := 5) daL_law_2160 dbL_law_2160.2.2.2.2.1
theorem dL_law_2166 : decode cL_law 2166 = .ok (.iadd, 1) := dgq (p := 6) daL_law_2160 dbL_law_2160.2.2.2.2.2.1
theorem dL_law_2167 : decode cL_law 2167 = .ok (.iaload, 1) := dgq (p := 7) daL_law_2160 dbL_law_2160.2.2.2.2.2.2.1
theorem dL_law_2168 : decode cL_law 2168 = .ok (.aload_n 0, 1) := dgq (p := 8) daL_law_2160 dbL_law_2160.2.2.2.2.2.2.2.1
theorem dL_law_2169 : decode cL_law 2169 = .ok (.iload 5, 2) := dgq (p := 9) daL_law_2160 dbL_law_2160.2.2.2.2.2.2.2.2.1
theorem dL_law_2171 : decode cL_law 2171 = .ok (.iconst 3, 1) := dgq (p := 11) daL_law_2160 dbL_law_2160.2.2.2.2.2.2.2.2.2
def dsL_law_2172 : ByteArray := ⟨#[96, 46, 45, 184, 1, 106, 54, 6, 44, 42, 21, 5, 4, 96]⟩
theorem daL_law_2172 : agB cL_law dsL_law_2172 2172 := agB_of (n := 14) (by decide +kernel)
theorem dbL_law_2172 : (decode dsL_law_2172 0 = .ok (.iadd, 1) ∧ okop dsL_law_2172 0 = true) ∧ (decode dsL_law_2172 1 = .ok (.iaload, 1) ∧ okop dsL_law_2172 1 = true) ∧ (decode dsL_law_2172 2 = .ok (.aload_n 3, 1) ∧ okop dsL_law_2172 2 = true) ∧ (decode dsL_law_2172 3 = .ok (.invokestatic 362, 3) ∧ okop dsL_law_2172 3 = true) ∧ (decode dsL_law_2172 6 = .ok (.istore 6, 2) ∧ okop dsL_law_2172 6 = true) ∧ (decode dsL_law_2172 8 = .ok (.aload_n 2, 1) ∧ okop dsL_law_2172 8 = true) ∧ (decode dsL_law_2172 9 = .ok (.aload_n 0, 1) ∧ okop dsL_law_2172 9 = true) ∧ (decode dsL_law_2172 10 = .ok (.iload 5, 2) ∧ okop dsL_law_2172 10 = true) ∧ (decode dsL_law_2172 12 = .ok (.iconst 1, 1) ∧ okop dsL_law_2172 12 = true) ∧ (decode dsL_law_2172 13 = .ok (.iadd, 1) ∧ okop dsL_law_2172 13 = true) := by decide +kernel
theorem dL_law_2172 : decode cL_law 2172 = .ok (.iadd, 1) := dgq (p := 0) daL_law_2172 dbL_law_2172.1
theorem dL_law_2173 : decode cL_law 2173 = .ok (.iaload, 1) := dgq (p := 1) daL_law_2172 dbL_law_2172.2.1
theorem dL_law_2174 : decode cL_law 2174 = .ok (.aload_n 3, 1) := dgq (p := 2) daL_law_2172 dbL_law_2172.2.2.1
theorem dL_law_2175 : decode cL_law 2175 = .ok (.invokestatic 362, 3) := dgq (p := 3) daL_law_2172 dbL_law_2172.2.2.2.1
theorem dL_law_2178 : decode cL_law 2178 = .ok (.istore 6, 2) := dgq (p := 6) daL_law_2172 dbL_law_2172.2.2.2.2.1
theorem dL_law_2180 : decode cL_law 2180 = .ok (.aload_n 2, 1) := dgq (p := 8) daL_law_2172 dbL_law_2172.2.2.2.2.2.1
theorem dL_law_2181 : decode cL_law 2181 = .ok (.aload_n 0, 1) := dgq (p := 9) daL_law_2172 dbL_law_2172.2.2.2.2.2.2.1
theorem dL_law_2182 : decode cL_law 2182 = .ok (.iload 5, 2) := dgq (p := 10) daL_law_2172 dbL_law_2172.2.2.2.2.2.2.2.1
theorem dL_law_2184 : decode cL_law 2184 = .ok (.iconst 1, 1) := dgq (p := 12) daL_law_2172 dbL_law_2172.2.2.2.2.2.2.2.2.1
theorem dL_law_2185 : decode cL_law 2185 = .ok (.iadd, 1) := dgq (p := 13) daL_law_2172 dbL_law_2172.2.2.2.2.2.2.2.2.2
def dsL_law_2186 : ByteArray := ⟨#[46, 42, 21, 5, 5, 96, 46, 42, 21, 5, 6, 96]⟩
theorem daL_law_2186 : agB cL_law dsL_law_2186 2186 := agB_of (n := 12) (by decide +kernel)
theorem dbL_law_2186 : (decode dsL_law_2186 0 = .ok (.iaload, 1) ∧ okop dsL_law_2186 0 = true) ∧ (decode dsL_law_2186 1 = .ok (.aload_n 0, 1) ∧ okop dsL_law_2186 1 = true) ∧ (decode dsL_law_2186 2 = .ok (.iload 5, 2) ∧ okop dsL_law_2186 2 = true) ∧ (decode dsL_law_2186 4 = .ok (.iconst 2, 1) ∧ okop dsL_law_2186 4 = true) ∧ (decode dsL_law_2186 5 = .ok (.iadd, 1) ∧ okop dsL_law_2186 5 = true) ∧ (decode dsL_law_2186 6 = .ok (.iaload, 1) ∧ okop dsL_law_2186 6 = true) ∧ (decode dsL_law_2186 7 = .ok (.aload_n 0, 1) ∧ okop dsL_law_2186 7 = true) ∧ (decode dsL_law_2186 8 = .ok (.iload 5, 2) ∧ okop dsL_law_2186 8 = true) ∧ (decode dsL_law_2186 10 = .ok (.iconst 3, 1) ∧ okop dsL_law_2186 10 = true) ∧ (decode dsL_law_2186 11 = .ok (.iadd, 1) ∧ okop dsL_law_2186 11 = true) := by decide +kernel
theorem dL_law_2186 : decode cL_law 2186 = .ok (.iaload, 1) := dgq (p := 0) daL_law_2186 dbL_law_2186.1
theorem dL_law_2187 : decode cL_law 2187 = .ok (.aload_n 0, 1) := dgq (p := 1) daL_law_2186 dbL_law_2186.2.1
theorem dL_law_2188 : decode cL_law 2188 = .ok (.iload 5, 2) := dgq (p := 2) daL_law_2186 dbL_law_2186.2.2.1
theorem dL_law_2190 : decode cL_law 2190 = .ok (.iconst 2, 1) := dgq (p := 4) daL_law_2186 dbL_law_2186.2.2.2.1
theorem dL_law_2191 : decode cL_law 2191 = .ok (.iadd, 1) := dgq (p := 5) daL_law_2186 dbL_law_2186.2.2.2.2.1
theorem dL_law_2192 : decode cL_law 2192 = .ok (.iaload, 1) := dgq (p := 6) daL_law_2186 dbL_law_2186.2.2.2.2.2.1
theorem dL_law_2193 : decode cL_law 2193 = .ok (.aload_n 0, 1) := dgq (p := 7) daL_law_2186 dbL_law_2186.2.2.2.2.2.2.1
theorem dL_law_2194 : decode cL_law 2194 = .ok (.iload 5, 2) := dgq (p := 8) daL_law_2186 dbL_law_2186.2.2.2.2.2.2.2.1
theorem dL_law_2196 : decode cL_law 2196 = .ok (.iconst 3, 1) := dgq (p := 10) daL_law_2186 dbL_law_2186.2.2.2.2.2.2.2.2.1
theorem dL_law_2197 : decode cL_law 2197 = .ok (.iadd, 1) := dgq (p := 11) daL_law_2186 dbL_law_2186.2.2.2.2.2.2.2.2.2
def dsL_law_2198 : ByteArray := ⟨#[46, 182, 1, 108, 54, 7, 167, 2, 207, 43, 42, 21, 5, 4, 96, 46]⟩
theorem daL_law_2198 : agB cL_law dsL_law_2198 2198 := agB_of (n := 16) (by decide +kernel)
theorem dbL_law_2198 : (decode dsL_law_2198 0 = .ok (.iaload, 1) ∧ okop dsL_law_2198 0 = true) ∧ (decode dsL_law_2198 1 = .ok (.invokevirtual 364, 3) ∧ okop dsL_law_2198 1 = true) ∧ (decode dsL_law_2198 4 = .ok (.istore 7, 2) ∧ okop dsL_law_2198 4 = true) ∧ (decode dsL_law_2198 6 = .ok (.goto 719, 3) ∧ okop dsL_law_2198 6 = true) ∧ (decode dsL_law_2198 9 = .ok (.aload_n 1, 1) ∧ okop dsL_law_2198 9 = true) ∧ (decode dsL_law_2198 10 = .ok (.aload_n 0, 1) ∧ okop dsL_law_2198 10 = true) ∧ (decode dsL_law_2198 11 = .ok (.iload 5, 2) ∧ okop dsL_law_2198 11 = true) ∧ (decode dsL_law_2198 13 = .ok (.iconst 1, 1) ∧ okop dsL_law_2198 13 = true) ∧ (decode dsL_law_2198 14 = .ok (.iadd, 1) ∧ okop dsL_law_2198 14 = true) ∧ (decode dsL_law_2198 15 = .ok (.iaload, 1) ∧ okop dsL_law_2198 15 = true) := by decide +kernel
theorem dL_law_2198 : decode cL_law 2198 = .ok (.iaload, 1) := dgq (p := 0) daL_law_2198 dbL_law_2198.1
theorem dL_law_2199 : decode cL_law 2199 = .ok (.invokevirtual 364, 3) := dgq (p := 1) daL_law_2198 dbL_law_2198.2.1
theorem dL_law_2202 : decode cL_law 2202 = .ok (.istore 7, 2) := dgq (p := 4) daL_law_2198 dbL_law_2198.2.2.1
theorem dL_law_2204 : decode cL_law 2204 = .ok (.goto 719, 3) := dgq (p := 6) daL_law_2198 dbL_law_2198.2.2.2.1
theorem dL_law_2207 : decode cL_law 2207 = .ok (.aload_n 1, 1) := dgq (p := 9) daL_law_2198 dbL_law_2198.2.2.2.2.1
theorem dL_law_2208 : decode cL_law 2208 = .ok (.aload_n 0, 1) := dgq (p := 10) daL_law_2198 dbL_law_2198.2.2.2.2.2.1
theorem dL_law_2209 : decode cL_law 2209 = .ok (.iload 5, 2) := dgq (p := 11) daL_law_2198 dbL_law_2198.2.2.2.2.2.2.1
theorem dL_law_2211 : decode cL_law 2211 = .ok (.iconst 1, 1) := dgq (p := 13) daL_law_2198 dbL_law_2198.2.2.2.2.2.2.2.1
theorem dL_law_2212 : decode cL_law 2212 = .ok (.iadd, 1) := dgq (p := 14) daL_law_2198 dbL_law_2198.2.2.2.2.2.2.2.2.1
theorem dL_law_2213 : decode cL_law 2213 = .ok (.iaload, 1) := dgq (p := 15) daL_law_2198 dbL_law_2198.2.2.2.2.2.2.2.2.2
def dsL_law_2214 : ByteArray := ⟨#[42, 21, 5, 5, 96, 46, 45, 184, 1, 109, 54, 6, 44, 42]⟩
theorem daL_law_2214 : agB cL_law dsL_law_2214 2214 := agB_of (n := 14) (by decide +kernel)
theorem dbL_law_2214 : (decode dsL_law_2214 0 = .ok (.aload_n 0, 1) ∧ okop dsL_law_2214 0 = true) ∧ (decode dsL_law_2214 1 = .ok (.iload 5, 2) ∧ okop dsL_law_2214 1 = true) ∧ (decode dsL_law_2214 3 = .ok (.iconst 2, 1) ∧ okop dsL_law_2214 3 = true) ∧ (decode dsL_law_2214 4 = .ok (.iadd, 1) ∧ okop dsL_law_2214 4 = true) ∧ (decode dsL_law_2214 5 = .ok (.iaload, 1) ∧ okop dsL_law_2214 5 = true) ∧ (decode dsL_law_2214 6 = .ok (.aload_n 3, 1) ∧ okop dsL_law_2214 6 = true) ∧ (decode dsL_law_2214 7 = .ok (.invokestatic 365, 3) ∧ okop dsL_law_2214 7 = true) ∧ (decode dsL_law_2214 10 = .ok (.istore 6, 2) ∧ okop dsL_law_2214 10 = true) ∧ (decode dsL_law_2214 12 = .ok (.aload_n 2, 1) ∧ okop dsL_law_2214 12 = true) ∧ (decode dsL_law_2214 13 = .ok (.aload_n 0, 1) ∧ okop dsL_law_2214 13 = true) := by decide +kernel
theorem dL_law_2214 : decode cL_law 2214 = .ok (.aload_n 0, 1) := dgq (p := 0) daL_law_2214 dbL_law_2214.1
theorem dL_law_2215 : decode cL_law 2215 = .ok (.iload 5, 2) := dgq (p := 1) daL_law_2214 dbL_law_2214.2.1
theorem dL_law_2217 : decode cL_law 2217 = .ok (.iconst 2, 1) := dgq (p := 3) daL_law_2214 dbL_law_2214.2.2.1
theorem dL_law_2218 : decode cL_law 2218 = .ok (.iadd, 1) := dgq (p := 4) daL_law_2214 dbL_law_2214.2.2.2.1
theorem dL_law_2219 : decode cL_law 2219 = .ok (.iaload, 1) := dgq (p := 5) daL_law_2214 dbL_law_2214.2.2.2.2.1
theorem dL_law_2220 : decode cL_law 2220 = .ok (.aload_n 3, 1) := dgq (p := 6) daL_law_2214 dbL_law_2214.2.2.2.2.2.1
theorem dL_law_2221 : decode cL_law 2221 = .ok (.invokestatic 365, 3) := dgq (p := 7) daL_law_2214 dbL_law_2214.2.2.2.2.2.2.1
theorem dL_law_2224 : decode cL_law 2224 = .ok (.istore 6, 2) := dgq (p := 10) daL_law_2214 dbL_law_2214.2.2.2.2.2.2.2.1
theorem dL_law_2226 : decode cL_law 2226 = .ok (.aload_n 2, 1) := dgq (p := 12) daL_law_2214 dbL_law_2214.2.2.2.2.2.2.2.2.1
theorem dL_law_2227 : decode cL_law 2227 = .ok (.aload_n 0, 1) := dgq (p := 13) daL_law_2214 dbL_law_2214.2.2.2.2.2.2.2.2.2
def dsL_law_2228 : ByteArray := ⟨#[21, 5, 4, 96, 46, 42, 21, 5, 5, 96, 46, 182, 1, 111]⟩
theorem daL_law_2228 : agB cL_law dsL_law_2228 2228 := agB_of (n := 14) (by decide +kernel)
theorem dbL_law_2228 : (decode dsL_law_2228 0 = .ok (.iload 5, 2) ∧ okop dsL_law_2228 0 = true) ∧ (decode dsL_law_2228 2 = .ok (.iconst 1, 1) ∧ okop dsL_law_2228 2 = true) ∧ (decode dsL_law_2228 3 = .ok (.iadd, 1) ∧ okop dsL_law_2228 3 = true) ∧ (decode dsL_law_2228 4 = .ok (.iaload, 1) ∧ okop dsL_law_2228 4 = true) ∧ (decode dsL_law_2228 5 = .ok (.aload_n 0, 1) ∧ okop dsL_law_2228 5 = true) ∧ (decode dsL_law_2228 6 = .ok (.iload 5, 2) ∧ okop dsL_law_2228 6 = true) ∧ (decode dsL_law_2228 8 = .ok (.iconst 2, 1) ∧ okop dsL_law_2228 8 = true) ∧ (decode dsL_law_2228 9 = .ok (.iadd, 1) ∧ okop dsL_law_2228 9 = true) ∧ (decode dsL_law_2228 10 = .ok (.iaload, 1) ∧ okop dsL_law_2228 10 = true) ∧ (decode dsL_law_2228 11 = .ok (.invokevirtual 367, 3) ∧ okop dsL_law_2228 11 = true) := by decide +kernel
theorem dL_law_2228 : decode cL_law 2228 = .ok (.iload 5, 2) := dgq (p := 0) daL_law_2228 dbL_law_2228.1
theorem dL_law_2230 : decode cL_law 2230 = .ok (.iconst 1, 1) := dgq (p := 2) daL_law_2228 dbL_law_2228.2.1
theorem dL_law_2231 : decode cL_law 2231 = .ok (.iadd, 1) := dgq (p := 3) daL_law_2228 dbL_law_2228.2.2.1
theorem dL_law_2232 : decode cL_law 2232 = .ok (.iaload, 1) := dgq (p := 4) daL_law_2228 dbL_law_2228.2.2.2.1
theorem dL_law_2233 : decode cL_law 2233 = .ok (.aload_n 0, 1) := dgq (p := 5) daL_law_2228 dbL_law_2228.2.2.2.2.1
theorem dL_law_2234 : decode cL_law 2234 = .ok (.iload 5, 2) := dgq (p := 6) daL_law_2228 dbL_law_2228.2.2.2.2.2.1
theorem dL_law_2236 : decode cL_law 2236 = .ok (.iconst 2, 1) := dgq (p := 8) daL_law_2228 dbL_law_2228.2.2.2.2.2.2.1
theorem dL_law_2237 : decode cL_law 2237 = .ok (.iadd, 1) := dgq (p := 9) daL_law_2228 dbL_law_2228.2.2.2.2.2.2.2.1
theorem dL_law_2238 : decode cL_law 2238 = .ok (.iaload, 1) := dgq (p := 10) daL_law_2228 dbL_law_2228.2.2.2.2.2.2.2.2.1
theorem dL_law_2239 : decode cL_law 2239 = .ok (.invokevirtual 367, 3) := dgq (p := 11) daL_law_2228 dbL_law_2228.2.2.2.2.2.2.2.2.2
def dsL_law_2242 : ByteArray := ⟨#[54, 7, 167, 2, 167, 43, 42, 21, 5, 4, 96, 46, 42, 21, 5]⟩
theorem daL_law_2242 : agB cL_law dsL_law_2242 2242 := agB_of (n := 15) (by decide +kernel)
theorem dbL_law_2242 : (decode dsL_law_2242 0 = .ok (.istore 7, 2) ∧ okop dsL_law_2242 0 = true) ∧ (decode dsL_law_2242 2 = .ok (.goto 679, 3) ∧ okop dsL_law_2242 2 = true) ∧ (decode dsL_law_2242 5 = .ok (.aload_n 1, 1) ∧ okop dsL_law_2242 5 = true) ∧ (decode dsL_law_2242 6 = .ok (.aload_n 0, 1) ∧ okop dsL_law_2242 6 = true) ∧ (decode dsL_law_2242 7 = .ok (.iload 5, 2) ∧ okop dsL_law_2242 7 = true) ∧ (decode dsL_law_2242 9 = .ok (.iconst 1, 1) ∧ okop dsL_law_2242 9 = true) ∧ (decode dsL_law_2242 10 = .ok (.iadd, 1) ∧ okop dsL_law_2242 10 = true) ∧ (decode dsL_law_2242 11 = .ok (.iaload, 1) ∧ okop dsL_law_2242 11 = true) ∧ (decode dsL_law_2242 12 = .ok (.aload_n 0, 1) ∧ okop dsL_law_2242 12 = true) ∧ (decode dsL_law_2242 13 = .ok (.iload 5, 2) ∧ okop dsL_law_2242 13 = true) := by decide +kernel
theorem dL_law_2242 : decode cL_law 2242 = .ok (.istore 7, 2) := dgq (p := 0) daL_law_2242 dbL_law_2242.1
theorem dL_law_2244 : decode cL_law 2244 = .ok (.goto 679, 3) := dgq (p := 2) daL_law_2242 dbL_law_2242.2.1
theorem dL_law_2247 : decode cL_law 2247 = .ok (.aload_n 1, 1) := dgq (p := 5) daL_law_2242 dbL_law_2242.2.2.1
theorem dL_law_2248 : decode cL_law 2248 = .ok (.aload_n 0, 1) := dgq (p := 6) daL_law_2242 dbL_law_2242.2.2.2.1
theorem dL_law_2249 : decode cL_law 2249 = .ok (.iload 5, 2) := dgq (p := 7) daL_law_2242 dbL_law_2242.2.2.2.2.1
theorem dL_law_2251 : decode cL_law 2251 = .ok (.iconst 1, 1) := dgq (p := 9) daL_law_2242 dbL_law_2242.2.2.2.2.2.1
theorem dL_law_2252 : decode cL_law 2252 = .ok (.iadd, 1) := dgq (p := 10) daL_law_2242 dbL_law_2242.2.2.2.2.2.2.1
theorem dL_law_2253 : decode cL_law 2253 = .ok (.iaload, 1) := dgq (p := 11) daL_law_2242 dbL_law_2242.2.2.2.2.2.2.2.1
theorem dL_law_2254 : decode cL_law 2254 = .ok (.aload_n 0, 1) := dgq (p := 12) daL_law_2242 dbL_law_2242.2.2.2.2.2.2.2.2.1
theorem dL_law_2255 : decode cL_law 2255 = .ok (.iload 5, 2) := dgq (p := 13) daL_law_2242 dbL_law_2242.2.2.2.2.2.2.2.2.2
def dsL_law_2257 : ByteArray := ⟨#[5, 96, 46, 42, 21, 5, 6, 96, 46, 45, 184, 1, 112]⟩
theorem daL_law_2257 : agB cL_law dsL_law_2257 2257 := agB_of (n := 13) (by decide +kernel)
theorem dbL_law_2257 : (decode dsL_law_2257 0 = .ok (.iconst 2, 1) ∧ okop dsL_law_2257 0 = true) ∧ (decode dsL_law_2257 1 = .ok (.iadd, 1) ∧ okop dsL_law_2257 1 = true) ∧ (decode dsL_law_2257 2 = .ok (.iaload, 1) ∧ okop dsL_law_2257 2 = true) ∧ (decode dsL_law_2257 3 = .ok (.aload_n 0, 1) ∧ okop dsL_law_2257 3 = true) ∧ (decode dsL_law_2257 4 = .ok (.iload 5, 2) ∧ okop dsL_law_2257 4 = true) ∧ (decode dsL_law_2257 6 = .ok (.iconst 3, 1) ∧ okop dsL_law_2257 6 = true) ∧ (decode dsL_law_2257 7 = .ok (.iadd, 1) ∧ okop dsL_law_2257 7 = true) ∧ (decode dsL_law_2257 8 = .ok (.iaload, 1) ∧ okop dsL_law_2257 8 = true) ∧ (decode dsL_law_2257 9 = .ok (.aload_n 3, 1) ∧ okop dsL_law_2257 9 = true) ∧ (decode dsL_law_2257 10 = .ok (.invokestatic 368, 3) ∧ okop dsL_law_2257 10 = true) := by decide +kernel
theorem dL_law_2257 : decode cL_law 2257 = .ok (.iconst 2, 1) := dgq (p := 0) daL_law_2257 dbL_law_2257.1
theorem dL_law_2258 : decode cL_law 2258 = .ok (.iadd, 1) := dgq (p := 1) daL_law_2257 dbL_law_2257.2.1
theorem dL_law_2259 : decode cL_law 2259 = .ok (.iaload, 1) := dgq (p := 2) daL_law_2257 dbL_law_2257.2.2.1
theorem dL_law_2260 : decode cL_law 2260 = .ok (.aload_n 0, 1) := dgq (p := 3) daL_law_2257 dbL_law_2257.2.2.2.1
theorem dL_law_2261 : decode cL_law 2261 = .ok (.iload 5, 2) := dgq (p := 4) daL_law_2257 dbL_law_2257.2.2.2.2.1
theorem dL_law_2263 : decode cL_law 2263 = .ok (.iconst 3, 1) := dgq (p := 6) daL_law_2257 dbL_law_2257.2.2.2.2.2.1
theorem dL_law_2264 : decode cL_law 2264 = .ok (.iadd, 1) := dgq (p := 7) daL_law_2257 dbL_law_2257.2.2.2.2.2.2.1
theorem dL_law_2265 : decode cL_law 2265 = .ok (.iaload, 1) := dgq (p := 8) daL_law_2257 dbL_law_2257.2.2.2.2.2.2.2.1
theorem dL_law_2266 : decode cL_law 2266 = .ok (.aload_n 3, 1) := dgq (p := 9) daL_law_2257 dbL_law_2257.2.2.2.2.2.2.2.2.1
theorem dL_law_2267 : decode cL_law 2267 = .ok (.invokestatic 368, 3) := dgq (p := 10) daL_law_2257 dbL_law_2257.2.2.2.2.2.2.2.2.2
def dsL_law_2270 : ByteArray := ⟨#[54, 6, 44, 42, 21, 5, 4, 96, 46, 42, 21, 5, 5]⟩
theorem daL_law_2270 : agB cL_law dsL_law_2270 2270 := agB_of (n := 13) (by decide +kernel)
theorem dbL_law_2270 : (decode dsL_law_2270 0 = .ok (.istore 6, 2) ∧ okop dsL_law_2270 0 = true) ∧ (decode dsL_law_2270 2 = .ok (.aload_n 2, 1) ∧ okop dsL_law_2270 2 = true) ∧ (decode dsL_law_2270 3 = .ok (.aload_n 0, 1) ∧ okop dsL_law_2270 3 = true) ∧ (decode dsL_law_2270 4 = .ok (.iload 5, 2) ∧ okop dsL_law_2270 4 = true) ∧ (decode dsL_law_2270 6 = .ok (.iconst 1, 1) ∧ okop dsL_law_2270 6 = true) ∧ (decode dsL_law_2270 7 = .ok (.iadd, 1) ∧ okop dsL_law_2270 7 = true) ∧ (decode dsL_law_2270 8 = .ok (.iaload, 1) ∧ okop dsL_law_2270 8 = true) ∧ (decode dsL_law_2270 9 = .ok (.aload_n 0, 1) ∧ okop dsL_law_2270 9 = true) ∧ (decode dsL_law_2270 10 = .ok (.iload 5, 2) ∧ okop dsL_law_2270 10 = true) ∧ (decode dsL_law_2270 12 = .ok (.iconst 2, 1) ∧ okop dsL_law_2270 12 = true) := by decide +kernel
theorem dL_law_2270 : decode cL_law 2270 = .ok (.istore 6, 2) := dgq (p := 0) daL_law_2270 dbL_law_2270.1
theorem dL_law_2272 : decode cL_law 2272 = .ok (.aload_n 2, 1) := dgq (p := 2) daL_law_2270 dbL_law_2270.2.1
theorem dL_law_2273 : decode cL_law 2273 = .ok (.aload_n 0, 1) := dgq (p := 3) daL_law_2270 dbL_law_2270.2.2.1
theorem dL_law_2274 : decode cL_law 2274 = .ok (.iload 5, 2) := dgq (p := 4) daL_law_2270 dbL_law_2270.2.2.2.1
theorem dL_law_2276 : decode cL_law 2276 = .ok (.iconst 1, 1) := dgq (p := 6) daL_law_2270 dbL_law_2270.2.2.2.2.1
theorem dL_law_2277 : decode cL_law 2277 = .ok (.iadd, 1) := dgq (p := 7) daL_law_2270 dbL_law_2270.2.2.2.2.2.1
theorem dL_law_2278 : decode cL_law 2278 = .ok (.iaload, 1) := dgq (p := 8) daL_law_2270 dbL_law_2270.2.2.2.2.2.2.1
theorem dL_law_2279 : decode cL_law 2279 = .ok (.aload_n 0, 1) := dgq (p := 9) daL_law_2270 dbL_law_2270.2.2.2.2.2.2.2.1
theorem dL_law_2280 : decode cL_law 2280 = .ok (.iload 5, 2) := dgq (p := 10) daL_law_2270 dbL_law_2270.2.2.2.2.2.2.2.2.1
theorem dL_law_2282 : decode cL_law 2282 = .ok (.iconst 2, 1) := dgq (p := 12) daL_law_2270 dbL_law_2270.2.2.2.2.2.2.2.2.2
def dsL_law_2283 : ByteArray := ⟨#[96, 46, 42, 21, 5, 6, 96, 46, 182, 1, 114, 54, 7, 167, 2, 115]⟩
theorem daL_law_2283 : agB cL_law dsL_law_2283 2283 := agB_of (n := 16) (by decide +kernel)
theorem dbL_law_2283 : (decode dsL_law_2283 0 = .ok (.iadd, 1) ∧ okop dsL_law_2283 0 = true) ∧ (decode dsL_law_2283 1 = .ok (.iaload, 1) ∧ okop dsL_law_2283 1 = true) ∧ (decode dsL_law_2283 2 = .ok (.aload_n 0, 1) ∧ okop dsL_law_2283 2 = true) ∧ (decode dsL_law_2283 3 = .ok (.iload 5, 2) ∧ okop dsL_law_2283 3 = true) ∧ (decode dsL_law_2283 5 = .ok (.iconst 3, 1) ∧ okop dsL_law_2283 5 = true) ∧ (decode dsL_law_2283 6 = .ok (.iadd, 1) ∧ okop dsL_law_2283 6 = true) ∧ (decode dsL_law_2283 7 = .ok (.iaload, 1) ∧ okop dsL_law_2283 7 = true) ∧ (decode dsL_law_2283 8 = .ok (.invokevirtual 370, 3) ∧ okop dsL_law_2283 8 = true) ∧ (decode dsL_law_2283 11 = .ok (.istore 7, 2) ∧ okop dsL_law_2283 11 = true) ∧ (decode dsL_law_2283 13 = .ok (.goto 627, 3) ∧ okop dsL_law_2283 13 = true) := by decide +kernel
theorem dL_law_2283 : decode cL_law 2283 = .ok (.iadd, 1) := dgq (p := 0) daL_law_2283 dbL_law_2283.1
theorem dL_law_2284 : decode cL_law 2284 = .ok (.iaload, 1) := dgq (p := 1) daL_law_2283 dbL_law_2283.2.1
theorem dL_law_2285 : decode cL_law 2285 = .ok (.aload_n 0, 1) := dgq (p := 2) daL_law_2283 dbL_law_2283.2.2.1
theorem dL_law_2286 : decode cL_law 2286 = .ok (.iload 5, 2) := dgq (p := 3) daL_law_2283 dbL_law_2283.2.2.2.1
theorem dL_law_2288 : decode cL_law 2288 = .ok (.iconst 3, 1) := dgq (p := 5) daL_law_2283 dbL_law_2283.2.2.2.2.1
theorem dL_law_2289 : decode cL_law 2289 = .ok (.iadd, 1) := dgq (p := 6) daL_law_2283 dbL_law_2283.2.2.2.2.2.1
theorem dL_law_2290 : decode cL_law 2290 = .ok (.iaload, 1) := dgq (p := 7) daL_law_2283 dbL_law_2283.2.2.2.2.2.2.1
theorem dL_law_2291 : decode cL_law 2291 = .ok (.invokevirtual 370, 3) := dgq (p := 8) daL_law_2283 dbL_law_2283.2.2.2.2.2.2.2.1
theorem dL_law_2294 : decode cL_law 2294 = .ok (.istore 7, 2) := dgq (p := 11) daL_law_2283 dbL_law_2283.2.2.2.2.2.2.2.2.1
theorem dL_law_2296 : decode cL_law 2296 = .ok (.goto 627, 3) := dgq (p := 13) daL_law_2283 dbL_law_2283.2.2.2.2.2.2.2.2.2
def dsL_law_2299 : ByteArray := ⟨#[43, 42, 21, 5, 4, 96, 46, 42, 21, 5, 5, 96]⟩
theorem daL_law_2299 : agB cL_law dsL_law_2299 2299 := agB_of (n := 12) (by decide +kernel)
theorem dbL_law_2299 : (decode dsL_law_2299 0 = .ok (.aload_n 1, 1) ∧ okop dsL_law_2299 0 = true) ∧ (decode dsL_law_2299 1 = .ok (.aload_n 0, 1) ∧ okop dsL_law_2299 1 = true) ∧ (decode dsL_law_2299 2 = .ok (.iload 5, 2) ∧ okop dsL_law_2299 2 = true) ∧ (decode dsL_law_2299 4 = .ok (.iconst 1, 1) ∧ okop dsL_law_2299 4 = true) ∧ (decode dsL_law_2299 5 = .ok (.iadd, 1) ∧ okop dsL_law_2299 5 = true) ∧ (decode dsL_law_2299 6 = .ok (.iaload, 1) ∧ okop dsL_law_2299 6 = true) ∧ (decode dsL_law_2299 7 = .ok (.aload_n 0, 1) ∧ okop dsL_law_2299 7 = true) ∧ (decode dsL_law_2299 8 = .ok (.iload 5, 2) ∧ okop dsL_law_2299 8 = true) ∧ (decode dsL_law_2299 10 = .ok (.iconst 2, 1) ∧ okop dsL_law_2299 10 = true) ∧ (decode dsL_law_2299 11 = .ok (.iadd, 1) ∧ okop dsL_law_2299 11 = true) := by decide +kernel
theorem dL_law_2299 : decode cL_law 2299 = .ok (.aload_n 1, 1) := dgq (p := 0) daL_law_2299 dbL_law_2299.1
theorem dL_law_2300 : decode cL_law 2300 = .ok (.aload_n 0, 1) := dgq (p := 1) daL_law_2299 dbL_law_2299.2.1
theorem dL_law_2301 : decode cL_law 2301 = .ok (.iload 5, 2) := dgq (p := 2) daL_law_2299 dbL_law_2299.2.2.1
theorem dL_law_2303 : decode cL_law 2303 = .ok (.iconst 1, 1) := dgq (p := 4) daL_law_2299 dbL_law_2299.2.2.2.1
theorem dL_law_2304 : decode cL_law 2304 = .ok (.iadd, 1) := dgq (p := 5) daL_law_2299 dbL_law_2299.2.2.2.2.1
theorem dL_law_2305 : decode cL_law 2305 = .ok (.iaload, 1) := dgq (p := 6) daL_law_2299 dbL_law_2299.2.2.2.2.2.1
theorem dL_law_2306 : decode cL_law 2306 = .ok (.aload_n 0, 1) := dgq (p := 7) daL_law_2299 dbL_law_2299.2.2.2.2.2.2.1
theorem dL_law_2307 : decode cL_law 2307 = .ok (.iload 5, 2) := dgq (p := 8) daL_law_2299 dbL_law_2299.2.2.2.2.2.2.2.1
theorem dL_law_2309 : decode cL_law 2309 = .ok (.iconst 2, 1) := dgq (p := 10) daL_law_2299 dbL_law_2299.2.2.2.2.2.2.2.2.1
theorem dL_law_2310 : decode cL_law 2310 = .ok (.iadd, 1) := dgq (p := 11) daL_law_2299 dbL_law_2299.2.2.2.2.2.2.2.2.2
def dsL_law_2311 : ByteArray := ⟨#[46, 45, 184, 1, 115, 54, 6, 44, 42, 21, 5, 4, 96, 46]⟩
theorem daL_law_2311 : agB cL_law dsL_law_2311 2311 := agB_of (n := 14) (by decide +kernel)
theorem dbL_law_2311 : (decode dsL_law_2311 0 = .ok (.iaload, 1) ∧ okop dsL_law_2311 0 = true) ∧ (decode dsL_law_2311 1 = .ok (.aload_n 3, 1) ∧ okop dsL_law_2311 1 = true) ∧ (decode dsL_law_2311 2 = .ok (.invokestatic 371, 3) ∧ okop dsL_law_2311 2 = true) ∧ (decode dsL_law_2311 5 = .ok (.istore 6, 2) ∧ okop dsL_law_2311 5 = true) ∧ (decode dsL_law_2311 7 = .ok (.aload_n 2, 1) ∧ okop dsL_law_2311 7 = true) ∧ (decode dsL_law_2311 8 = .ok (.aload_n 0, 1) ∧ okop dsL_law_2311 8 = true) ∧ (decode dsL_law_2311 9 = .ok (.iload 5, 2) ∧ okop dsL_law_2311 9 = true) ∧ (decode dsL_law_2311 11 = .ok (.iconst 1, 1) ∧ okop dsL_law_2311 11 = true) ∧ (decode dsL_law_2311 12 = .ok (.iadd, 1) ∧ okop dsL_law_2311 12 = true) ∧ (decode dsL_law_2311 13 = .ok (.iaload, 1) ∧ okop dsL_law_2311 13 = true) := by decide +kernel
theorem dL_law_2311 : decode cL_law 2311 = .ok (.iaload, 1) := dgq (p := 0) daL_law_2311 dbL_law_2311.1
theorem dL_law_2312 : decode cL_law 2312 = .ok (.aload_n 3, 1) := dgq (p := 1) daL_law_2311 dbL_law_2311.2.1
theorem dL_law_2313 : decode cL_law 2313 = .ok (.invokestatic 371, 3) := dgq (p := 2) daL_law_2311 dbL_law_2311.2.2.1
theorem dL_law_2316 : decode cL_law 2316 = .ok (.istore 6, 2) := dgq (p := 5) daL_law_2311 dbL_law_2311.2.2.2.1
theorem dL_law_2318 : decode cL_law 2318 = .ok (.aload_n 2, 1) := dgq (p := 7) daL_law_2311 dbL_law_2311.2.2.2.2.1
theorem dL_law_2319 : decode cL_law 2319 = .ok (.aload_n 0, 1) := dgq (p := 8) daL_law_2311 dbL_law_2311.2.2.2.2.2.1
theorem dL_law_2320 : decode cL_law 2320 = .ok (.iload 5, 2) := dgq (p := 9) daL_law_2311 dbL_law_2311.2.2.2.2.2.2.1
theorem dL_law_2322 : decode cL_law 2322 = .ok (.iconst 1, 1) := dgq (p := 11) daL_law_2311 dbL_law_2311.2.2.2.2.2.2.2.1
theorem dL_law_2323 : decode cL_law 2323 = .ok (.iadd, 1) := dgq (p := 12) daL_law_2311 dbL_law_2311.2.2.2.2.2.2.2.2.1
theorem dL_law_2324 : decode cL_law 2324 = .ok (.iaload, 1) := dgq (p := 13) daL_law_2311 dbL_law_2311.2.2.2.2.2.2.2.2.2
def dsL_law_2325 : ByteArray := ⟨#[42, 21, 5, 5, 96, 46, 182, 1, 117, 54, 7, 167, 2, 75, 43, 42]⟩
theorem daL_law_2325 : agB cL_law dsL_law_2325 2325 := agB_of (n := 16) (by decide +kernel)
theorem dbL_law_2325 : (decode dsL_law_2325 0 = .ok (.aload_n 0, 1) ∧ okop dsL_law_2325 0 = true) ∧ (decode dsL_law_2325 1 = .ok (.iload 5, 2) ∧ okop dsL_law_2325 1 = true) ∧ (decode dsL_law_2325 3 = .ok (.iconst 2, 1) ∧ okop dsL_law_2325 3 = true) ∧ (decode dsL_law_2325 4 = .ok (.iadd, 1) ∧ okop dsL_law_2325 4 = true) ∧ (decode dsL_law_2325 5 = .ok (.iaload, 1) ∧ okop dsL_law_2325 5 = true) ∧ (decode dsL_law_2325 6 = .ok (.invokevirtual 373, 3) ∧ okop dsL_law_2325 6 = true) ∧ (decode dsL_law_2325 9 = .ok (.istore 7, 2) ∧ okop dsL_law_2325 9 = true) ∧ (decode dsL_law_2325 11 = .ok (.goto 587, 3) ∧ okop dsL_law_2325 11 = true) ∧ (decode dsL_law_2325 14 = .ok (.aload_n 1, 1) ∧ okop dsL_law_2325 14 = true) ∧ (decode dsL_law_2325 15 = .ok (.aload_n 0, 1) ∧ okop dsL_law_2325 15 = true) := by decide +kernel
theorem dL_law_2325 : decode cL_law 2325 = .ok (.aload_n 0, 1) := dgq (p := 0) daL_law_2325 dbL_law_2325.1
theorem dL_law_2326 : decode cL_law 2326 = .ok (.iload 5, 2) := dgq (p := 1) daL_law_2325 dbL_law_2325.2.1
theorem dL_law_2328 : decode cL_law 2328 = .ok (.iconst 2, 1) := dgq (p := 3) daL_law_2325 dbL_law_2325.2.2.1
theorem dL_law_2329 : decode cL_law 2329 = .ok (.iadd, 1) := dgq (p := 4) daL_law_2325 dbL_law_2325.2.2.2.1
theorem dL_law_2330 : decode cL_law 2330 = .ok (.iaload, 1) := dgq (p := 5) daL_law_2325 dbL_law_2325.2.2.2.2.1
theorem dL_law_2331 : decode cL_law 2331 = .ok (.invokevirtual 373, 3) := dgq (p := 6) daL_law_2325 dbL_law_2325.2.2.2.2.2.1
theorem dL_law_2334 : decode cL_law 2334 = .ok (.istore 7, 2) := dgq (p := 9) daL_law_2325 dbL_law_2325.2.2.2.2.2.2.1
theorem dL_law_2336 : decode cL_law 2336 = .ok (.goto 587, 3) := dgq (p := 11) daL_law_2325 dbL_law_2325.2.2.2.2.2.2.2.1
theorem dL_law_2339 : decode cL_law 2339 = .ok (.aload_n 1, 1) := dgq (p := 14) daL_law_2325 dbL_law_2325.2.2.2.2.2.2.2.2.1
theorem dL_law_2340 : decode cL_law 2340 = .ok (.aload_n 0, 1) := dgq (p := 15) daL_law_2325 dbL_law_2325.2.2.2.2.2.2.2.2.2
def dsL_law_2341 : ByteArray := ⟨#[21, 5, 4, 96, 46, 45, 184, 1, 118, 54, 6, 44, 42, 21, 5]⟩
theorem daL_law_2341 : agB cL_law dsL_law_2341 2341 := agB_of (n := 15) (by decide +kernel)
theorem dbL_law_2341 : (decode dsL_law_2341 0 = .ok (.iload 5, 2) ∧ okop dsL_law_2341 0 = true) ∧ (decode dsL_law_2341 2 = .ok (.iconst 1, 1) ∧ okop dsL_law_2341 2 = true) ∧ (decode dsL_law_2341 3 = .ok (.iadd, 1) ∧ okop dsL_law_2341 3 = true) ∧ (decode dsL_law_2341 4 = .ok (.iaload, 1) ∧ okop dsL_law_2341 4 = true) ∧ (decode dsL_law_2341 5 = .ok (.aload_n 3, 1) ∧ okop dsL_law_2341 5 = true) ∧ (decode dsL_law_2341 6 = .ok (.invokestatic 374, 3) ∧ okop dsL_law_2341 6 = true) ∧ (decode dsL_law_2341 9 = .ok (.istore 6, 2) ∧ okop dsL_law_2341 9 = true) ∧ (decode dsL_law_2341 11 = .ok (.aload_n 2, 1) ∧ okop dsL_law_2341 11 = true) ∧ (decode dsL_law_2341 12 = .ok (.aload_n 0, 1) ∧ okop dsL_law_2341 12 = true) ∧ (decode dsL_law_2341 13 = .ok (.iload 5, 2) ∧ okop dsL_law_2341 13 = true) := by decide +kernel
theorem dL_law_2341 : decode cL_law 2341 = .ok (.iload 5, 2) := dgq (p := 0) daL_law_2341 dbL_law_2341.1
theorem dL_law_2343 : decode cL_law 2343 = .ok (.iconst 1, 1) := dgq (p := 2) daL_law_2341 dbL_law_2341.2.1
theorem dL_law_2344 : decode cL_law 2344 = .ok (.iadd, 1) := dgq (p := 3) daL_law_2341 dbL_law_2341.2.2.1
theorem dL_law_2345 : decode cL_law 2345 = .ok (.iaload, 1) := dgq (p := 4) daL_law_2341 dbL_law_2341.2.2.2.1
theorem dL_law_2346 : decode cL_law 2346 = .ok (.aload_n 3, 1) := dgq (p := 5) daL_law_2341 dbL_law_2341.2.2.2.2.1
theorem dL_law_2347 : decode cL_law 2347 = .ok (.invokestatic 374, 3) := dgq (p := 6) daL_law_2341 dbL_law_2341.2.2.2.2.2.1
theorem dL_law_2350 : decode cL_law 2350 = .ok (.istore 6, 2) := dgq (p := 9) daL_law_2341 dbL_law_2341.2.2.2.2.2.2.1
theorem dL_law_2352 : decode cL_law 2352 = .ok (.aload_n 2, 1) := dgq (p := 11) daL_law_2341 dbL_law_2341.2.2.2.2.2.2.2.1
theorem dL_law_2353 : decode cL_law 2353 = .ok (.aload_n 0, 1) := dgq (p := 12) daL_law_2341 dbL_law_2341.2.2.2.2.2.2.2.2.1
theorem dL_law_2354 : decode cL_law 2354 = .ok (.iload 5, 2) := dgq (p := 13) daL_law_2341 dbL_law_2341.2.2.2.2.2.2.2.2.2
def dsL_law_2356 : ByteArray := ⟨#[4, 96, 46, 182, 1, 120, 54, 7, 167, 2, 47, 43, 42, 21, 5, 4]⟩
theorem daL_law_2356 : agB cL_law dsL_law_2356 2356 := agB_of (n := 16) (by decide +kernel)
theorem dbL_law_2356 : (decode dsL_law_2356 0 = .ok (.iconst 1, 1) ∧ okop dsL_law_2356 0 = true) ∧ (decode dsL_law_2356 1 = .ok (.iadd, 1) ∧ okop dsL_law_2356 1 = true) ∧ (decode dsL_law_2356 2 = .ok (.iaload, 1) ∧ okop dsL_law_2356 2 = true) ∧ (decode dsL_law_2356 3 = .ok (.invokevirtual 376, 3) ∧ okop dsL_law_2356 3 = true) ∧ (decode dsL_law_2356 6 = .ok (.istore 7, 2) ∧ okop dsL_law_2356 6 = true) ∧ (decode dsL_law_2356 8 = .ok (.goto 559, 3) ∧ okop dsL_law_2356 8 = true) ∧ (decode dsL_law_2356 11 = .ok (.aload_n 1, 1) ∧ okop dsL_law_2356 11 = true) ∧ (decode dsL_law_2356 12 = .ok (.aload_n 0, 1) ∧ okop dsL_law_2356 12 = true) ∧ (decode dsL_law_2356 13 = .ok (.iload 5, 2) ∧ okop dsL_law_2356 13 = true) ∧ (decode dsL_law_2356 15 = .ok (.iconst 1, 1) ∧ okop dsL_law_2356 15 = true) := by decide +kernel
theorem dL_law_2356 : decode cL_law 2356 = .ok (.iconst 1, 1) := dgq (p := 0) daL_law_2356 dbL_law_2356.1
theorem dL_law_2357 : decode cL_law 2357 = .ok (.iadd, 1) := dgq (p := 1) daL_law_2356 dbL_law_2356.2.1
theorem dL_law_2358 : decode cL_law 2358 = .ok (.iaload, 1) := dgq (p := 2) daL_law_2356 dbL_law_2356.2.2.1
theorem dL_law_2359 : decode cL_law 2359 = .ok (.invokevirtual 376, 3) := dgq (p := 3) daL_law_2356 dbL_law_2356.2.2.2.1
theorem dL_law_2362 : decode cL_law 2362 = .ok (.istore 7, 2) := dgq (p := 6) daL_law_2356 dbL_law_2356.2.2.2.2.1
theorem dL_law_2364 : decode cL_law 2364 = .ok (.goto 559, 3) := dgq (p := 8) daL_law_2356 dbL_law_2356.2.2.2.2.2.1
theorem dL_law_2367 : decode cL_law 2367 = .ok (.aload_n 1, 1) := dgq (p := 11) daL_law_2356 dbL_law_2356.2.2.2.2.2.2.1
theorem dL_law_2368 : decode cL_law 2368 = .ok (.aload_n 0, 1) := dgq (p := 12) daL_law_2356 dbL_law_2356.2.2.2.2.2.2.2.1
theorem dL_law_2369 : decode cL_law 2369 = .ok (.iload 5, 2) := dgq (p := 13) daL_law_2356 dbL_law_2356.2.2.2.2.2.2.2.2.1
theorem dL_law_2371 : decode cL_law 2371 = .ok (.iconst 1, 1) := dgq (p := 15) daL_law_2356 dbL_law_2356.2.2.2.2.2.2.2.2.2
def dsL_law_2372 : ByteArray := ⟨#[96, 46, 42, 21, 5, 5, 96, 46, 45, 184, 1, 121, 54, 6]⟩
theorem daL_law_2372 : agB cL_law dsL_law_2372 2372 := agB_of (n := 14) (by decide +kernel)
theorem dbL_law_2372 : (decode dsL_law_2372 0 = .ok (.iadd, 1) ∧ okop dsL_law_2372 0 = true) ∧ (decode dsL_law_2372 1 = .ok (.iaload, 1) ∧ okop dsL_law_2372 1 = true) ∧ (decode dsL_law_2372 2 = .ok (.aload_n 0, 1) ∧ okop dsL_law_2372 2 = true) ∧ (decode dsL_law_2372 3 = .ok (.iload 5, 2) ∧ okop dsL_law_2372 3 = true) ∧ (decode dsL_law_2372 5 = .ok (.iconst 2, 1) ∧ okop dsL_law_2372 5 = true) ∧ (decode dsL_law_2372 6 = .ok (.iadd, 1) ∧ okop dsL_law_2372 6 = true) ∧ (decode dsL_law_2372 7 = .ok (.iaload, 1) ∧ okop dsL_law_2372 7 = true) ∧ (decode dsL_law_2372 8 = .ok (.aload_n 3, 1) ∧ okop dsL_law_2372 8 = true) ∧ (decode dsL_law_2372 9 = .ok (.invokestatic 377, 3) ∧ okop dsL_law_2372 9 = true) ∧ (decode dsL_law_2372 12 = .ok (.istore 6, 2) ∧ okop dsL_law_2372 12 = true) := by decide +kernel
theorem dL_law_2372 : decode cL_law 2372 = .ok (.iadd, 1) := dgq (p := 0) daL_law_2372 dbL_law_2372.1
theorem dL_law_2373 : decode cL_law 2373 = .ok (.iaload, 1) := dgq (p := 1) daL_law_2372 dbL_law_2372.2.1
theorem dL_law_2374 : decode cL_law 2374 = .ok (.aload_n 0, 1) := dgq (p := 2) daL_law_2372 dbL_law_2372.2.2.1
theorem dL_law_2375 : decode cL_law 2375 = .ok (.iload 5, 2) := dgq (p := 3) daL_law_2372 dbL_law_2372.2.2.2.1
theorem dL_law_2377 : decode cL_law 2377 = .ok (.iconst 2, 1) := dgq (p := 5) daL_law_2372 dbL_law_2372.2.2.2.2.1
theorem dL_law_2378 : decode cL_law 2378 = .ok (.iadd, 1) := dgq (p := 6) daL_law_2372 dbL_law_2372.2.2.2.2.2.1
theorem dL_law_2379 : decode cL_law 2379 = .ok (.iaload, 1) := dgq (p := 7) daL_law_2372 dbL_law_2372.2.2.2.2.2.2.1
theorem dL_law_2380 : decode cL_law 2380 = .ok (.aload_n 3, 1) := dgq (p := 8) daL_law_2372 dbL_law_2372.2.2.2.2.2.2.2.1
theorem dL_law_2381 : decode cL_law 2381 = .ok (.invokestatic 377, 3) := dgq (p := 9) daL_law_2372 dbL_law_2372.2.2.2.2.2.2.2.2.1
theorem dL_law_2384 : decode cL_law 2384 = .ok (.istore 6, 2) := dgq (p := 12) daL_law_2372 dbL_law_2372.2.2.2.2.2.2.2.2.2
def dsL_law_2386 : ByteArray := ⟨#[44, 42, 21, 5, 4, 96, 46, 42, 21, 5, 5, 96]⟩
theorem daL_law_2386 : agB cL_law dsL_law_2386 2386 := agB_of (n := 12) (by decide +kernel)
theorem dbL_law_2386 : (decode dsL_law_2386 0 = .ok (.aload_n 2, 1) ∧ okop dsL_law_2386 0 = true) ∧ (decode dsL_law_2386 1 = .ok (.aload_n 0, 1) ∧ okop dsL_law_2386 1 = true) ∧ (decode dsL_law_2386 2 = .ok (.iload 5, 2) ∧ okop dsL_law_2386 2 = true) ∧ (decode dsL_law_2386 4 = .ok (.iconst 1, 1) ∧ okop dsL_law_2386 4 = true) ∧ (decode dsL_law_2386 5 = .ok (.iadd, 1) ∧ okop dsL_law_2386 5 = true) ∧ (decode dsL_law_2386 6 = .ok (.iaload, 1) ∧ okop dsL_law_2386 6 = true) ∧ (decode dsL_law_2386 7 = .ok (.aload_n 0, 1) ∧ okop dsL_law_2386 7 = true) ∧ (decode dsL_law_2386 8 = .ok (.iload 5, 2) ∧ okop dsL_law_2386 8 = true) ∧ (decode dsL_law_2386 10 = .ok (.iconst 2, 1) ∧ okop dsL_law_2386 10 = true) ∧ (decode dsL_law_2386 11 = .ok (.iadd, 1) ∧ okop dsL_law_2386 11 = true) := by decide +kernel
theorem dL_law_2386 : decode cL_law 2386 = .ok (.aload_n 2, 1) := dgq (p := 0) daL_law_2386 dbL_law_2386.1
theorem dL_law_2387 : decode cL_law 2387 = .ok (.aload_n 0, 1) := dgq (p := 1) daL_law_2386 dbL_law_2386.2.1
theorem dL_law_2388 : decode cL_law 2388 = .ok (.iload 5, 2) := dgq (p := 2) daL_law_2386 dbL_law_2386.2.2.1
theorem dL_law_2390 : decode cL_law 2390 = .ok (.iconst 1, 1) := dgq (p := 4) daL_law_2386 dbL_law_2386.2.2.2.1
theorem dL_law_2391 : decode cL_law 2391 = .ok (.iadd, 1) := dgq (p := 5) daL_law_2386 dbL_law_2386.2.2.2.2.1
theorem dL_law_2392 : decode cL_law 2392 = .ok (.iaload, 1) := dgq (p := 6) daL_law_2386 dbL_law_2386.2.2.2.2.2.1
theorem dL_law_2393 : decode cL_law 2393 = .ok (.aload_n 0, 1) := dgq (p := 7) daL_law_2386 dbL_law_2386.2.2.2.2.2.2.1
theorem dL_law_2394 : decode cL_law 2394 = .ok (.iload 5, 2) := dgq (p := 8) daL_law_2386 dbL_law_2386.2.2.2.2.2.2.2.1
theorem dL_law_2396 : decode cL_law 2396 = .ok (.iconst 2, 1) := dgq (p := 10) daL_law_2386 dbL_law_2386.2.2.2.2.2.2.2.2.1
theorem dL_law_2397 : decode cL_law 2397 = .ok (.iadd, 1) := dgq (p := 11) daL_law_2386 dbL_law_2386.2.2.2.2.2.2.2.2.2
def dsL_law_2398 : ByteArray := ⟨#[46, 182, 1, 123, 55, 7, 167, 2, 7, 43, 42, 21, 5, 4, 96, 46]⟩
theorem daL_law_2398 : agB cL_law dsL_law_2398 2398 := agB_of (n := 16) (by decide +kernel)
theorem dbL_law_2398 : (decode dsL_law_2398 0 = .ok (.iaload, 1) ∧ okop dsL_law_2398 0 = true) ∧ (decode dsL_law_2398 1 = .ok (.invokevirtual 379, 3) ∧ okop dsL_law_2398 1 = true) ∧ (decode dsL_law_2398 4 = .ok (.lstore 7, 2) ∧ okop dsL_law_2398 4 = true) ∧ (decode dsL_law_2398 6 = .ok (.goto 519, 3) ∧ okop dsL_law_2398 6 = true) ∧ (decode dsL_law_2398 9 = .ok (.aload_n 1, 1) ∧ okop dsL_law_2398 9 = true) ∧ (decode dsL_law_2398 10 = .ok (.aload_n 0, 1) ∧ okop dsL_law_2398 10 = true) ∧ (decode dsL_law_2398 11 = .ok (.iload 5, 2) ∧ okop dsL_law_2398 11 = true) ∧ (decode dsL_law_2398 13 = .ok (.iconst 1, 1) ∧ okop dsL_law_2398 13 = true) ∧ (decode dsL_law_2398 14 = .ok (.iadd, 1) ∧ okop dsL_law_2398 14 = true) ∧ (decode dsL_law_2398 15 = .ok (.iaload, 1) ∧ okop dsL_law_2398 15 = true) := by decide +kernel
theorem dL_law_2398 : decode cL_law 2398 = .ok (.iaload, 1) := dgq (p := 0) daL_law_2398 dbL_law_2398.1
theorem dL_law_2399 : decode cL_law 2399 = .ok (.invokevirtual 379, 3) := dgq (p := 1) daL_law_2398 dbL_law_2398.2.1
theorem dL_law_2402 : decode cL_law 2402 = .ok (.lstore 7, 2) := dgq (p := 4) daL_law_2398 dbL_law_2398.2.2.1
theorem dL_law_2404 : decode cL_law 2404 = .ok (.goto 519, 3) := dgq (p := 6) daL_law_2398 dbL_law_2398.2.2.2.1
theorem dL_law_2407 : decode cL_law 2407 = .ok (.aload_n 1, 1) := dgq (p := 9) daL_law_2398 dbL_law_2398.2.2.2.2.1
theorem dL_law_2408 : decode cL_law 2408 = .ok (.aload_n 0, 1) := dgq (p := 10) daL_law_2398 dbL_law_2398.2.2.2.2.2.1
theorem dL_law_2409 : decode cL_law 2409 = .ok (.iload 5, 2) := dgq (p := 11) daL_law_2398 dbL_law_2398.2.2.2.2.2.2.1
theorem dL_law_2411 : decode cL_law 2411 = .ok (.iconst 1, 1) := dgq (p := 13) daL_law_2398 dbL_law_2398.2.2.2.2.2.2.2.1
theorem dL_law_2412 : decode cL_law 2412 = .ok (.iadd, 1) := dgq (p := 14) daL_law_2398 dbL_law_2398.2.2.2.2.2.2.2.2.1
theorem dL_law_2413 : decode cL_law 2413 = .ok (.iaload, 1) := dgq (p := 15) daL_law_2398 dbL_law_2398.2.2.2.2.2.2.2.2.2
def dsL_law_2414 : ByteArray := ⟨#[42, 21, 5, 5, 96, 46, 42, 21, 5, 6, 96, 46]⟩
theorem daL_law_2414 : agB cL_law dsL_law_2414 2414 := agB_of (n := 12) (by decide +kernel)
theorem dbL_law_2414 : (decode dsL_law_2414 0 = .ok (.aload_n 0, 1) ∧ okop dsL_law_2414 0 = true) ∧ (decode dsL_law_2414 1 = .ok (.iload 5, 2) ∧ okop dsL_law_2414 1 = true) ∧ (decode dsL_law_2414 3 = .ok (.iconst 2, 1) ∧ okop dsL_law_2414 3 = true) ∧ (decode dsL_law_2414 4 = .ok (.iadd, 1) ∧ okop dsL_law_2414 4 = true) ∧ (decode dsL_law_2414 5 = .ok (.iaload, 1) ∧ okop dsL_law_2414 5 = true) ∧ (decode dsL_law_2414 6 = .ok (.aload_n 0, 1) ∧ okop dsL_law_2414 6 = true) ∧ (decode dsL_law_2414 7 = .ok (.iload 5, 2) ∧ okop dsL_law_2414 7 = true) ∧ (decode dsL_law_2414 9 = .ok (.iconst 3, 1) ∧ okop dsL_law_2414 9 = true) ∧ (decode dsL_law_2414 10 = .ok (.iadd, 1) ∧ okop dsL_law_2414 10 = true) ∧ (decode dsL_law_2414 11 = .ok (.iaload, 1) ∧ okop dsL_law_2414 11 = true) := by decide +kernel
theorem dL_law_2414 : decode cL_law 2414 = .ok (.aload_n 0, 1) := dgq (p := 0) daL_law_2414 dbL_law_2414.1
theorem dL_law_2415 : decode cL_law 2415 = .ok (.iload 5, 2) := dgq (p := 1) daL_law_2414 dbL_law_2414.2.1
theorem dL_law_2417 : decode cL_law 2417 = .ok (.iconst 2, 1) := dgq (p := 3) daL_law_2414 dbL_law_2414.2.2.1
theorem dL_law_2418 : decode cL_law 2418 = .ok (.iadd, 1) := dgq (p := 4) daL_law_2414 dbL_law_2414.2.2.2.1
theorem dL_law_2419 : decode cL_law 2419 = .ok (.iaload, 1) := dgq (p := 5) daL_law_2414 dbL_law_2414.2.2.2.2.1
theorem dL_law_2420 : decode cL_law 2420 = .ok (.aload_n 0, 1) := dgq (p := 6) daL_law_2414 dbL_law_2414.2.2.2.2.2.1
theorem dL_law_2421 : decode cL_law 2421 = .ok (.iload 5, 2) := dgq (p := 7) daL_law_2414 dbL_law_2414.2.2.2.2.2.2.1
theorem dL_law_2423 : decode cL_law 2423 = .ok (.iconst 3, 1) := dgq (p := 9) daL_law_2414 dbL_law_2414.2.2.2.2.2.2.2.1
theorem dL_law_2424 : decode cL_law 2424 = .ok (.iadd, 1) := dgq (p := 10) daL_law_2414 dbL_law_2414.2.2.2.2.2.2.2.2.1
theorem dL_law_2425 : decode cL_law 2425 = .ok (.iaload, 1) := dgq (p := 11) daL_law_2414 dbL_law_2414.2.2.2.2.2.2.2.2.2
def dsL_law_2426 : ByteArray := ⟨#[42, 21, 5, 7, 96, 46, 45, 184, 1, 124, 54, 6, 44, 42]⟩
theorem daL_law_2426 : agB cL_law dsL_law_2426 2426 := agB_of (n := 14) (by decide +kernel)
theorem dbL_law_2426 : (decode dsL_law_2426 0 = .ok (.aload_n 0, 1) ∧ okop dsL_law_2426 0 = true) ∧ (decode dsL_law_2426 1 = .ok (.iload 5, 2) ∧ okop dsL_law_2426 1 = true) ∧ (decode dsL_law_2426 3 = .ok (.iconst 4, 1) ∧ okop dsL_law_2426 3 = true) ∧ (decode dsL_law_2426 4 = .ok (.iadd, 1) ∧ okop dsL_law_2426 4 = true) ∧ (decode dsL_law_2426 5 = .ok (.iaload, 1) ∧ okop dsL_law_2426 5 = true) ∧ (decode dsL_law_2426 6 = .ok (.aload_n 3, 1) ∧ okop dsL_law_2426 6 = true) ∧ (decode dsL_law_2426 7 = .ok (.invokestatic 380, 3) ∧ okop dsL_law_2426 7 = true) ∧ (decode dsL_law_2426 10 = .ok (.istore 6, 2) ∧ okop dsL_law_2426 10 = true) ∧ (decode dsL_law_2426 12 = .ok (.aload_n 2, 1) ∧ okop dsL_law_2426 12 = true) ∧ (decode dsL_law_2426 13 = .ok (.aload_n 0, 1) ∧ okop dsL_law_2426 13 = true) := by decide +kernel
theorem dL_law_2426 : decode cL_law 2426 = .ok (.aload_n 0, 1) := dgq (p := 0) daL_law_2426 dbL_law_2426.1
theorem dL_law_2427 : decode cL_law 2427 = .ok (.iload 5, 2) := dgq (p := 1) daL_law_2426 dbL_law_2426.2.1
theorem dL_law_2429 : decode cL_law 2429 = .ok (.iconst 4, 1) := dgq (p := 3) daL_law_2426 dbL_law_2426.2.2.1
theorem dL_law_2430 : decode cL_law 2430 = .ok (.iadd, 1) := dgq (p := 4) daL_law_2426 dbL_law_2426.2.2.2.1
theorem dL_law_2431 : decode cL_law 2431 = .ok (.iaload, 1) := dgq (p := 5) daL_law_2426 dbL_law_2426.2.2.2.2.1
theorem dL_law_2432 : decode cL_law 2432 = .ok (.aload_n 3, 1) := dgq (p := 6) daL_law_2426 dbL_law_2426.2.2.2.2.2.1
theorem dL_law_2433 : decode cL_law 2433 = .ok (.invokestatic 380, 3) := dgq (p := 7) daL_law_2426 dbL_law_2426.2.2.2.2.2.2.1
theorem dL_law_2436 : decode cL_law 2436 = .ok (.istore 6, 2) := dgq (p := 10) daL_law_2426 dbL_law_2426.2.2.2.2.2.2.2.1
theorem dL_law_2438 : decode cL_law 2438 = .ok (.aload_n 2, 1) := dgq (p := 12) daL_law_2426 dbL_law_2426.2.2.2.2.2.2.2.2.1
theorem dL_law_2439 : decode cL_law 2439 = .ok (.aload_n 0, 1) := dgq (p := 13) daL_law_2426 dbL_law_2426.2.2.2.2.2.2.2.2.2
def dsL_law_2440 : ByteArray := ⟨#[21, 5, 4, 96, 46, 42, 21, 5, 5, 96, 46, 42]⟩
theorem daL_law_2440 : agB cL_law dsL_law_2440 2440 := agB_of (n := 12) (by decide +kernel)
theorem dbL_law_2440 : (decode dsL_law_2440 0 = .ok (.iload 5, 2) ∧ okop dsL_law_2440 0 = true) ∧ (decode dsL_law_2440 2 = .ok (.iconst 1, 1) ∧ okop dsL_law_2440 2 = true) ∧ (decode dsL_law_2440 3 = .ok (.iadd, 1) ∧ okop dsL_law_2440 3 = true) ∧ (decode dsL_law_2440 4 = .ok (.iaload, 1) ∧ okop dsL_law_2440 4 = true) ∧ (decode dsL_law_2440 5 = .ok (.aload_n 0, 1) ∧ okop dsL_law_2440 5 = true) ∧ (decode dsL_law_2440 6 = .ok (.iload 5, 2) ∧ okop dsL_law_2440 6 = true) ∧ (decode dsL_law_2440 8 = .ok (.iconst 2, 1) ∧ okop dsL_law_2440 8 = true) ∧ (decode dsL_law_2440 9 = .ok (.iadd, 1) ∧ okop dsL_law_2440 9 = true) ∧ (decode dsL_law_2440 10 = .ok (.iaload, 1) ∧ okop dsL_law_2440 10 = true) ∧ (decode dsL_law_2440 11 = .ok (.aload_n 0, 1) ∧ okop dsL_law_2440 11 = true) := by decide +kernel
theorem dL_law_2440 : decode cL_law 2440 = .ok (.iload 5, 2) := dgq (p := 0) daL_law_2440 dbL_law_2440.1
theorem dL_law_2442 : decode cL_law 2442 = .ok (.iconst 1, 1) := dgq (p := 2) daL_law_2440 dbL_law_2440.2.1
theorem dL_law_2443 : decode cL_law 2443 = .ok (.iadd, 1) := dgq (p := 3) daL_law_2440 dbL_law_2440.2.2.1
theorem dL_law_2444 : decode cL_law 2444 = .ok (.iaload, 1) := dgq (p := 4) daL_law_2440 dbL_law_2440.2.2.2.1
theorem dL_law_2445 : decode cL_law 2445 = .ok (.aload_n 0, 1) := dgq (p := 5) daL_law_2440 dbL_law_2440.2.2.2.2.1
theorem dL_law_2446 : decode cL_law 2446 = .ok (.iload 5, 2) := dgq (p := 6) daL_law_2440 dbL_law_2440.2.2.2.2.2.1
theorem dL_law_2448 : decode cL_law 2448 = .ok (.iconst 2, 1) := dgq (p := 8) daL_law_2440 dbL_law_2440.2.2.2.2.2.2.1
theorem dL_law_2449 : decode cL_law 2449 = .ok (.iadd, 1) := dgq (p := 9) daL_law_2440 dbL_law_2440.2.2.2.2.2.2.2.1
theorem dL_law_2450 : decode cL_law 2450 = .ok (.iaload, 1) := dgq (p := 10) daL_law_2440 dbL_law_2440.2.2.2.2.2.2.2.2.1
theorem dL_law_2451 : decode cL_law 2451 = .ok (.aload_n 0, 1) := dgq (p := 11) daL_law_2440 dbL_law_2440.2.2.2.2.2.2.2.2.2
def dsL_law_2452 : ByteArray := ⟨#[21, 5, 6, 96, 46, 42, 21, 5, 7, 96, 46, 182, 1, 126]⟩
theorem daL_law_2452 : agB cL_law dsL_law_2452 2452 := agB_of (n := 14) (by decide +kernel)
theorem dbL_law_2452 : (decode dsL_law_2452 0 = .ok (.iload 5, 2) ∧ okop dsL_law_2452 0 = true) ∧ (decode dsL_law_2452 2 = .ok (.iconst 3, 1) ∧ okop dsL_law_2452 2 = true) ∧ (decode dsL_law_2452 3 = .ok (.iadd, 1) ∧ okop dsL_law_2452 3 = true) ∧ (decode dsL_law_2452 4 = .ok (.iaload, 1) ∧ okop dsL_law_2452 4 = true) ∧ (decode dsL_law_2452 5 = .ok (.aload_n 0, 1) ∧ okop dsL_law_2452 5 = true) ∧ (decode dsL_law_2452 6 = .ok (.iload 5, 2) ∧ okop dsL_law_2452 6 = true) ∧ (decode dsL_law_2452 8 = .ok (.iconst 4, 1) ∧ okop dsL_law_2452 8 = true) ∧ (decode dsL_law_2452 9 = .ok (.iadd, 1) ∧ okop dsL_law_2452 9 = true) ∧ (decode dsL_law_2452 10 = .ok (.iaload, 1) ∧ okop dsL_law_2452 10 = true) ∧ (decode dsL_law_2452 11 = .ok (.invokevirtual 382, 3) ∧ okop dsL_law_2452 11 = true) := by decide +kernel
theorem dL_law_2452 : decode cL_law 2452 = .ok (.iload 5, 2) := dgq (p := 0) daL_law_2452 dbL_law_2452.1
theorem dL_law_2454 : decode cL_law 2454 = .ok (.iconst 3, 1) := dgq (p := 2) daL_law_2452 dbL_law_2452.2.1
theorem dL_law_2455 : decode cL_law 2455 = .ok (.iadd, 1) := dgq (p := 3) daL_law_2452 dbL_law_2452.2.2.1
theorem dL_law_2456 : decode cL_law 2456 = .ok (.iaload, 1) := dgq (p := 4) daL_law_2452 dbL_law_2452.2.2.2.1
theorem dL_law_2457 : decode cL_law 2457 = .ok (.aload_n 0, 1) := dgq (p := 5) daL_law_2452 dbL_law_2452.2.2.2.2.1
theorem dL_law_2458 : decode cL_law 2458 = .ok (.iload 5, 2) := dgq (p := 6) daL_law_2452 dbL_law_2452.2.2.2.2.2.1
theorem dL_law_2460 : decode cL_law 2460 = .ok (.iconst 4, 1) := dgq (p := 8) daL_law_2452 dbL_law_2452.2.2.2.2.2.2.1
theorem dL_law_2461 : decode cL_law 2461 = .ok (.iadd, 1) := dgq (p := 9) daL_law_2452 dbL_law_2452.2.2.2.2.2.2.2.1
theorem dL_law_2462 : decode cL_law 2462 = .ok (.iaload, 1) := dgq (p := 10) daL_law_2452 dbL_law_2452.2.2.2.2.2.2.2.2.1
theorem dL_law_2463 : decode cL_law 2463 = .ok (.invokevirtual 382, 3) := dgq (p := 11) daL_law_2452 dbL_law_2452.2.2.2.2.2.2.2.2.2
def dsL_law_2466 : ByteArray := ⟨#[54, 7, 167, 1, 199, 43, 42, 21, 5, 4, 96, 46, 45, 184, 1, 127]⟩
theorem daL_law_2466 : agB cL_law dsL_law_2466 2466 := agB_of (n := 16) (by decide +kernel)
theorem dbL_law_2466 : (decode dsL_law_2466 0 = .ok (.istore 7, 2) ∧ okop dsL_law_2466 0 = true) ∧ (decode dsL_law_2466 2 = .ok (.goto 455, 3) ∧ okop dsL_law_2466 2 = true) ∧ (decode dsL_law_2466 5 = .ok (.aload_n 1, 1) ∧ okop dsL_law_2466 5 = true) ∧ (decode dsL_law_2466 6 = .ok (.aload_n 0, 1) ∧ okop dsL_law_2466 6 = true) ∧ (decode dsL_law_2466 7 = .ok (.iload 5, 2) ∧ okop dsL_law_2466 7 = true) ∧ (decode dsL_law_2466 9 = .ok (.iconst 1, 1) ∧ okop dsL_law_2466 9 = true) ∧ (decode dsL_law_2466 10 = .ok (.iadd, 1) ∧ okop dsL_law_2466 10 = true) ∧ (decode dsL_law_2466 11 = .ok (.iaload, 1) ∧ okop dsL_law_2466 11 = true) ∧ (decode dsL_law_2466 12 = .ok (.aload_n 3, 1) ∧ okop dsL_law_2466 12 = true) ∧ (decode dsL_law_2466 13 = .ok (.invokestatic 383, 3) ∧ okop dsL_law_2466 13 = true) := by decide +kernel
theorem dL_law_2466 : decode cL_law 2466 = .ok (.istore 7, 2) := dgq (p := 0) daL_law_2466 dbL_law_2466.1
theorem dL_law_2468 : decode cL_law 2468 = .ok (.goto 455, 3) := dgq (p := 2) daL_law_2466 dbL_law_2466.2.1
theorem dL_law_2471 : decode cL_law 2471 = .ok (.aload_n 1, 1) := dgq (p := 5) daL_law_2466 dbL_law_2466.2.2.1
theorem dL_law_2472 : decode cL_law 2472 = .ok (.aload_n 0, 1) := dgq (p := 6) daL_law_2466 dbL_law_2466.2.2.2.1
theorem dL_law_2473 : decode cL_law 2473 = .ok (.iload 5, 2) := dgq (p := 7) daL_law_2466 dbL_law_2466.2.2.2.2.1
theorem dL_law_2475 : decode cL_law 2475 = .ok (.iconst 1, 1) := dgq (p := 9) daL_law_2466 dbL_law_2466.2.2.2.2.2.1
theorem dL_law_2476 : decode cL_law 2476 = .ok (.iadd, 1) := dgq (p := 10) daL_law_2466 dbL_law_2466.2.2.2.2.2.2.1
theorem dL_law_2477 : decode cL_law 2477 = .ok (.iaload, 1) := dgq (p := 11) daL_law_2466 dbL_law_2466.2.2.2.2.2.2.2.1
theorem dL_law_2478 : decode cL_law 2478 = .ok (.aload_n 3, 1) := dgq (p := 12) daL_law_2466 dbL_law_2466.2.2.2.2.2.2.2.2.1
theorem dL_law_2479 : decode cL_law 2479 = .ok (.invokestatic 383, 3) := dgq (p := 13) daL_law_2466 dbL_law_2466.2.2.2.2.2.2.2.2.2
def dsL_law_2482 : ByteArray := ⟨#[54, 6, 44, 42, 21, 5, 4, 96, 46, 182, 1, 129, 55, 7, 167, 1, 171]⟩
theorem daL_law_2482 : agB cL_law dsL_law_2482 2482 := agB_of (n := 17) (by decide +kernel)
theorem dbL_law_2482 : (decode dsL_law_2482 0 = .ok (.istore 6, 2) ∧ okop dsL_law_2482 0 = true) ∧ (decode dsL_law_2482 2 = .ok (.aload_n 2, 1) ∧ okop dsL_law_2482 2 = true) ∧ (decode dsL_law_2482 3 = .ok (.aload_n 0, 1) ∧ okop dsL_law_2482 3 = true) ∧ (decode dsL_law_2482 4 = .ok (.iload 5, 2) ∧ okop dsL_law_2482 4 = true) ∧ (decode dsL_law_2482 6 = .ok (.iconst 1, 1) ∧ okop dsL_law_2482 6 = true) ∧ (decode dsL_law_2482 7 = .ok (.iadd, 1) ∧ okop dsL_law_2482 7 = true) ∧ (decode dsL_law_2482 8 = .ok (.iaload, 1) ∧ okop dsL_law_2482 8 = true) ∧ (decode dsL_law_2482 9 = .ok (.invokevirtual 385, 3) ∧ okop dsL_law_2482 9 = true) ∧ (decode dsL_law_2482 12 = .ok (.lstore 7, 2) ∧ okop dsL_law_2482 12 = true) ∧ (decode dsL_law_2482 14 = .ok (.goto 427, 3) ∧ okop dsL_law_2482 14 = true) := by decide +kernel
theorem dL_law_2482 : decode cL_law 2482 = .ok (.istore 6, 2) := dgq (p := 0) daL_law_2482 dbL_law_2482.1
theorem dL_law_2484 : decode cL_law 2484 = .ok (.aload_n 2, 1) := dgq (p := 2) daL_law_2482 dbL_law_2482.2.1
theorem dL_law_2485 : decode cL_law 2485 = .ok (.aload_n 0, 1) := dgq (p := 3) daL_law_2482 dbL_law_2482.2.2.1
theorem dL_law_2486 : decode cL_law 2486 = .ok (.iload 5, 2) := dgq (p := 4) daL_law_2482 dbL_law_2482.2.2.2.1
theorem dL_law_2488 : decode cL_law 2488 = .ok (.iconst 1, 1) := dgq (p := 6) daL_law_2482 dbL_law_2482.2.2.2.2.1
theorem dL_law_2489 : decode cL_law 2489 = .ok (.iadd, 1) := dgq (p := 7) daL_law_2482 dbL_law_2482.2.2.2.2.2.1
theorem dL_law_2490 : decode cL_law 2490 = .ok (.iaload, 1) := dgq (p := 8) daL_law_2482 dbL_law_2482.2.2.2.2.2.2.1
theorem dL_law_2491 : decode cL_law 2491 = .ok (.invokevirtual 385, 3) := dgq (p := 9) daL_law_2482 dbL_law_2482.2.2.2.2.2.2.2.1
theorem dL_law_2494 : decode cL_law 2494 = .ok (.lstore 7, 2) := dgq (p := 12) daL_law_2482 dbL_law_2482.2.2.2.2.2.2.2.2.1
theorem dL_law_2496 : decode cL_law 2496 = .ok (.goto 427, 3) := dgq (p := 14) daL_law_2482 dbL_law_2482.2.2.2.2.2.2.2.2.2
def dsL_law_2499 : ByteArray := ⟨#[43, 42, 21, 5, 4, 96, 46, 42, 21, 5, 5, 96]⟩
theorem daL_law_2499 : agB cL_law dsL_law_2499 2499 := agB_of (n := 12) (by decide +kernel)
theorem dbL_law_2499 : (decode dsL_law_2499 0 = .ok (.aload_n 1, 1) ∧ okop dsL_law_2499 0 = true) ∧ (decode dsL_law_2499 1 = .ok (.aload_n 0, 1) ∧ okop dsL_law_2499 1 = true) ∧ (decode dsL_law_2499 2 = .ok (.iload 5, 2) ∧ okop dsL_law_2499 2 = true) ∧ (decode dsL_law_2499 4 = .ok (.iconst 1, 1) ∧ okop dsL_law_2499 4 = true) ∧ (decode dsL_law_2499 5 = .ok (.iadd, 1) ∧ okop dsL_law_2499 5 = true) ∧ (decode dsL_law_2499 6 = .ok (.iaload, 1) ∧ okop dsL_law_2499 6 = true) ∧ (decode dsL_law_2499 7 = .ok (.aload_n 0, 1) ∧ okop dsL_law_2499 7 = true) ∧ (decode dsL_law_2499 8 = .ok (.iload 5, 2) ∧ okop dsL_law_2499 8 = true) ∧ (decode dsL_law_2499 10 = .ok (.iconst 2, 1) ∧ okop dsL_law_2499 10 = true) ∧ (decode dsL_law_2499 11 = .ok (.iadd, 1) ∧ okop dsL_law_2499 11 = true) := by decide +kernel
theorem dL_law_2499 : decode cL_law 2499 = .ok (.aload_n 1, 1) := dgq (p := 0) daL_law_2499 dbL_law_2499.1
theorem dL_law_2500 : decode cL_law 2500 = .ok (.aload_n 0, 1) := dgq (p := 1) daL_law_2499 dbL_law_2499.2.1
theorem dL_law_2501 : decode cL_law 2501 = .ok (.iload 5, 2) := dgq (p := 2) daL_law_2499 dbL_law_2499.2.2.1
theorem dL_law_2503 : decode cL_law 2503 = .ok (.iconst 1, 1) := dgq (p := 4) daL_law_2499 dbL_law_2499.2.2.2.1
theorem dL_law_2504 : decode cL_law 2504 = .ok (.iadd, 1) := dgq (p := 5) daL_law_2499 dbL_law_2499.2.2.2.2.1
theorem dL_law_2505 : decode cL_law 2505 = .ok (.iaload, 1) := dgq (p := 6) daL_law_2499 dbL_law_2499.2.2.2.2.2.1
theorem dL_law_2506 : decode cL_law 2506 = .ok (.aload_n 0, 1) := dgq (p := 7) daL_law_2499 dbL_law_2499.2.2.2.2.2.2.1
theorem dL_law_2507 : decode cL_law 2507 = .ok (.iload 5, 2) := dgq (p := 8) daL_law_2499 dbL_law_2499.2.2.2.2.2.2.2.1
theorem dL_law_2509 : decode cL_law 2509 = .ok (.iconst 2, 1) := dgq (p := 10) daL_law_2499 dbL_law_2499.2.2.2.2.2.2.2.2.1
theorem dL_law_2510 : decode cL_law 2510 = .ok (.iadd, 1) := dgq (p := 11) daL_law_2499 dbL_law_2499.2.2.2.2.2.2.2.2.2
def dsL_law_2511 : ByteArray := ⟨#[46, 42, 21, 5, 6, 96, 46, 45, 184, 1, 130, 54, 6, 44]⟩
theorem daL_law_2511 : agB cL_law dsL_law_2511 2511 := agB_of (n := 14) (by decide +kernel)
theorem dbL_law_2511 : (decode dsL_law_2511 0 = .ok (.iaload, 1) ∧ okop dsL_law_2511 0 = true) ∧ (decode dsL_law_2511 1 = .ok (.aload_n 0, 1) ∧ okop dsL_law_2511 1 = true) ∧ (decode dsL_law_2511 2 = .ok (.iload 5, 2) ∧ okop dsL_law_2511 2 = true) ∧ (decode dsL_law_2511 4 = .ok (.iconst 3, 1) ∧ okop dsL_law_2511 4 = true) ∧ (decode dsL_law_2511 5 = .ok (.iadd, 1) ∧ okop dsL_law_2511 5 = true) ∧ (decode dsL_law_2511 6 = .ok (.iaload, 1) ∧ okop dsL_law_2511 6 = true) ∧ (decode dsL_law_2511 7 = .ok (.aload_n 3, 1) ∧ okop dsL_law_2511 7 = true) ∧ (decode dsL_law_2511 8 = .ok (.invokestatic 386, 3) ∧ okop dsL_law_2511 8 = true) ∧ (decode dsL_law_2511 11 = .ok (.istore 6, 2) ∧ okop dsL_law_2511 11 = true) ∧ (decode dsL_law_2511 13 = .ok (.aload_n 2, 1) ∧ okop dsL_law_2511 13 = true) := by decide +kernel
theorem dL_law_2511 : decode cL_law 2511 = .ok (.iaload, 1) := dgq (p := 0) daL_law_2511 dbL_law_2511.1
theorem dL_law_2512 : decode cL_law 2512 = .ok (.aload_n 0, 1) := dgq (p := 1) daL_law_2511 dbL_law_2511.2.1
theorem dL_law_2513 : decode cL_law 2513 = .ok (.iload 5, 2) := dgq (p := 2) daL_law_2511 dbL_law_2511.2.2.1
theorem dL_law_2515 : decode cL_law 2515 = .ok (.iconst 3, 1) := dgq (p := 4) daL_law_2511 dbL_law_2511.2.2.2.1
theorem dL_law_2516 : decode cL_law 2516 = .ok (.iadd, 1) := dgq (p := 5) daL_law_2511 dbL_law_2511.2.2.2.2.1
theorem dL_law_2517 : decode cL_law 2517 = .ok (.iaload, 1) := dgq (p := 6) daL_law_2511 dbL_law_2511.2.2.2.2.2.1
theorem dL_law_2518 : decode cL_law 2518 = .ok (.aload_n 3, 1) := dgq (p := 7) daL_law_2511 dbL_law_2511.2.2.2.2.2.2.1
theorem dL_law_2519 : decode cL_law 2519 = .ok (.invokestatic 386, 3) := dgq (p := 8) daL_law_2511 dbL_law_2511.2.2.2.2.2.2.2.1
theorem dL_law_2522 : decode cL_law 2522 = .ok (.istore 6, 2) := dgq (p := 11) daL_law_2511 dbL_law_2511.2.2.2.2.2.2.2.2.1
theorem dL_law_2524 : decode cL_law 2524 = .ok (.aload_n 2, 1) := dgq (p := 13) daL_law_2511 dbL_law_2511.2.2.2.2.2.2.2.2.2
def dsL_law_2525 : ByteArray := ⟨#[42, 21, 5, 4, 96, 46, 42, 21, 5, 5, 96, 46]⟩
theorem daL_law_2525 : agB cL_law dsL_law_2525 2525 := agB_of (n := 12) (by decide +kernel)
theorem dbL_law_2525 : (decode dsL_law_2525 0 = .ok (.aload_n 0, 1) ∧ okop dsL_law_2525 0 = true) ∧ (decode dsL_law_2525 1 = .ok (.iload 5, 2) ∧ okop dsL_law_2525 1 = true) ∧ (decode dsL_law_2525 3 = .ok (.iconst 1, 1) ∧ okop dsL_law_2525 3 = true) ∧ (decode dsL_law_2525 4 = .ok (.iadd, 1) ∧ okop dsL_law_2525 4 = true) ∧ (decode dsL_law_2525 5 = .ok (.iaload, 1) ∧ okop dsL_law_2525 5 = true) ∧ (decode dsL_law_2525 6 = .ok (.aload_n 0, 1) ∧ okop dsL_law_2525 6 = true) ∧ (decode dsL_law_2525 7 = .ok (.iload 5, 2) ∧ okop dsL_law_2525 7 = true) ∧ (decode dsL_law_2525 9 = .ok (.iconst 2, 1) ∧ okop dsL_law_2525 9 = true) ∧ (decode dsL_law_2525 10 = .ok (.iadd, 1) ∧ okop dsL_law_2525 10 = true) ∧ (decode dsL_law_2525 11 = .ok (.iaload, 1) ∧ okop dsL_law_2525 11 = true) := by decide +kernel
theorem dL_law_2525 : decode cL_law 2525 = .ok (.aload_n 0, 1) := dgq (p := 0) daL_law_2525 dbL_law_2525.1
theorem dL_law_2526 : decode cL_law 2526 = .ok (.iload 5, 2) := dgq (p := 1) daL_law_2525 dbL_law_2525.2.1
theorem dL_law_2528 : decode cL_law 2528 = .ok (.iconst 1, 1) := dgq (p := 3) daL_law_2525 dbL_law_2525.2.2.1
theorem dL_law_2529 : decode cL_law 2529 = .ok (.iadd, 1) := dgq (p := 4) daL_law_2525 dbL_law_2525.2.2.2.1
theorem dL_law_2530 : decode cL_law 2530 = .ok (.iaload, 1) := dgq (p := 5) daL_law_2525 dbL_law_2525.2.2.2.2.1
theorem dL_law_2531 : decode cL_law 2531 = .ok (.aload_n 0, 1) := dgq (p := 6) daL_law_2525 dbL_law_2525.2.2.2.2.2.1
theorem dL_law_2532 : decode cL_law 2532 = .ok (.iload 5, 2) := dgq (p := 7) daL_law_2525 dbL_law_2525.2.2.2.2.2.2.1
theorem dL_law_2534 : decode cL_law 2534 = .ok (.iconst 2, 1) := dgq (p := 9) daL_law_2525 dbL_law_2525.2.2.2.2.2.2.2.1
theorem dL_law_2535 : decode cL_law 2535 = .ok (.iadd, 1) := dgq (p := 10) daL_law_2525 dbL_law_2525.2.2.2.2.2.2.2.2.1
theorem dL_law_2536 : decode cL_law 2536 = .ok (.iaload, 1) := dgq (p := 11) daL_law_2525 dbL_law_2525.2.2.2.2.2.2.2.2.2
def dsL_law_2537 : ByteArray := ⟨#[42, 21, 5, 6, 96, 46, 182, 1, 132, 54, 7, 167, 1, 119, 43, 42]⟩
theorem daL_law_2537 : agB cL_law dsL_law_2537 2537 := agB_of (n := 16) (by decide +kernel)
theorem dbL_law_2537 : (decode dsL_law_2537 0 = .ok (.aload_n 0, 1) ∧ okop dsL_law_2537 0 = true) ∧ (decode dsL_law_2537 1 = .ok (.iload 5, 2) ∧ okop dsL_law_2537 1 = true) ∧ (decode dsL_law_2537 3 = .ok (.iconst 3, 1) ∧ okop dsL_law_2537 3 = true) ∧ (decode dsL_law_2537 4 = .ok (.iadd, 1) ∧ okop dsL_law_2537 4 = true) ∧ (decode dsL_law_2537 5 = .ok (.iaload, 1) ∧ okop dsL_law_2537 5 = true) ∧ (decode dsL_law_2537 6 = .ok (.invokevirtual 388, 3) ∧ okop dsL_law_2537 6 = true) ∧ (decode dsL_law_2537 9 = .ok (.istore 7, 2) ∧ okop dsL_law_2537 9 = true) ∧ (decode dsL_law_2537 11 = .ok (.goto 375, 3) ∧ okop dsL_law_2537 11 = true) ∧ (decode dsL_law_2537 14 = .ok (.aload_n 1, 1) ∧ okop dsL_law_2537 14 = true) ∧ (decode dsL_law_2537 15 = .ok (.aload_n 0, 1) ∧ okop dsL_law_2537 15 = true) := by decide +kernel
theorem dL_law_2537 : decode cL_law 2537 = .ok (.aload_n 0, 1) := dgq (p := 0) daL_law_2537 dbL_law_2537.1
theorem dL_law_2538 : decode cL_law 2538 = .ok (.iload 5, 2) := dgq (p := 1) daL_law_2537 dbL_law_2537.2.1
theorem dL_law_2540 : decode cL_law 2540 = .ok (.iconst 3, 1) := dgq (p := 3) daL_law_2537 dbL_law_2537.2.2.1
theorem dL_law_2541 : decode cL_law 2541 = .ok (.iadd, 1) := dgq (p := 4) daL_law_2537 dbL_law_2537.2.2.2.1
theorem dL_law_2542 : decode cL_law 2542 = .ok (.iaload, 1) := dgq (p := 5) daL_law_2537 dbL_law_2537.2.2.2.2.1
theorem dL_law_2543 : decode cL_law 2543 = .ok (.invokevirtual 388, 3) := dgq (p := 6) daL_law_2537 dbL_law_2537.2.2.2.2.2.1
theorem dL_law_2546 : decode cL_law 2546 = .ok (.istore 7, 2) := dgq (p := 9) daL_law_2537 dbL_law_2537.2.2.2.2.2.2.1
theorem dL_law_2548 : decode cL_law 2548 = .ok (.goto 375, 3) := dgq (p := 11) daL_law_2537 dbL_law_2537.2.2.2.2.2.2.2.1
theorem dL_law_2551 : decode cL_law 2551 = .ok (.aload_n 1, 1) := dgq (p := 14) daL_law_2537 dbL_law_2537.2.2.2.2.2.2.2.2.1
theorem dL_law_2552 : decode cL_law 2552 = .ok (.aload_n 0, 1) := dgq (p := 15) daL_law_2537 dbL_law_2537.2.2.2.2.2.2.2.2.2
def dsL_law_2553 : ByteArray := ⟨#[21, 5, 4, 96, 46, 45, 184, 1, 133, 54, 6, 44, 42, 21, 5]⟩
theorem daL_law_2553 : agB cL_law dsL_law_2553 2553 := agB_of (n := 15) (by decide +kernel)
theorem dbL_law_2553 : (decode dsL_law_2553 0 = .ok (.iload 5, 2) ∧ okop dsL_law_2553 0 = true) ∧ (decode dsL_law_2553 2 = .ok (.iconst 1, 1) ∧ okop dsL_law_2553 2 = true) ∧ (decode dsL_law_2553 3 = .ok (.iadd, 1) ∧ okop dsL_law_2553 3 = true) ∧ (decode dsL_law_2553 4 = .ok (.iaload, 1) ∧ okop dsL_law_2553 4 = true) ∧ (decode dsL_law_2553 5 = .ok (.aload_n 3, 1) ∧ okop dsL_law_2553 5 = true) ∧ (decode dsL_law_2553 6 = .ok (.invokestatic 389, 3) ∧ okop dsL_law_2553 6 = true) ∧ (decode dsL_law_2553 9 = .ok (.istore 6, 2) ∧ okop dsL_law_2553 9 = true) ∧ (decode dsL_law_2553 11 = .ok (.aload_n 2, 1) ∧ okop dsL_law_2553 11 = true) ∧ (decode dsL_law_2553 12 = .ok (.aload_n 0, 1) ∧ okop dsL_law_2553 12 = true) ∧ (decode dsL_law_2553 13 = .ok (.iload 5, 2) ∧ okop dsL_law_2553 13 = true) := by decide +kernel
theorem dL_law_2553 : decode cL_law 2553 = .ok (.iload 5, 2) := dgq (p := 0) daL_law_2553 dbL_law_2553.1
theorem dL_law_2555 : decode cL_law 2555 = .ok (.iconst 1, 1) := dgq (p := 2) daL_law_2553 dbL_law_2553.2.1
theorem dL_law_2556 : decode cL_law 2556 = .ok (.iadd, 1) := dgq (p := 3) daL_law_2553 dbL_law_2553.2.2.1
theorem dL_law_2557 : decode cL_law 2557 = .ok (.iaload, 1) := dgq (p := 4) daL_law_2553 dbL_law_2553.2.2.2.1
theorem dL_law_2558 : decode cL_law 2558 = .ok (.aload_n 3, 1) := dgq (p := 5) daL_law_2553 dbL_law_2553.2.2.2.2.1
theorem dL_law_2559 : decode cL_law 2559 = .ok (.invokestatic 389, 3) := dgq (p := 6) daL_law_2553 dbL_law_2553.2.2.2.2.2.1
theorem dL_law_2562 : decode cL_law 2562 = .ok (.istore 6, 2) := dgq (p := 9) daL_law_2553 dbL_law_2553.2.2.2.2.2.2.1
theorem dL_law_2564 : decode cL_law 2564 = .ok (.aload_n 2, 1) := dgq (p := 11) daL_law_2553 dbL_law_2553.2.2.2.2.2.2.2.1
theorem dL_law_2565 : decode cL_law 2565 = .ok (.aload_n 0, 1) := dgq (p := 12) daL_law_2553 dbL_law_2553.2.2.2.2.2.2.2.2.1
theorem dL_law_2566 : decode cL_law 2566 = .ok (.iload 5, 2) := dgq (p := 13) daL_law_2553 dbL_law_2553.2.2.2.2.2.2.2.2.2
def dsL_law_2568 : ByteArray := ⟨#[4, 96, 46, 182, 1, 135, 54, 7, 167, 1, 91, 43, 42, 21, 5, 4]⟩
theorem daL_law_2568 : agB cL_law dsL_law_2568 2568 := agB_of (n := 16) (by decide +kernel)
theorem dbL_law_2568 : (decode dsL_law_2568 0 = .ok (.iconst 1, 1) ∧ okop dsL_law_2568 0 = true) ∧ (decode dsL_law_2568 1 = .ok (.iadd, 1) ∧ okop dsL_law_2568 1 = true) ∧ (decode dsL_law_2568 2 = .ok (.iaload, 1) ∧ okop dsL_law_2568 2 = true) ∧ (decode dsL_law_2568 3 = .ok (.invokevirtual 391, 3) ∧ okop dsL_law_2568 3 = true) ∧ (decode dsL_law_2568 6 = .ok (.istore 7, 2) ∧ okop dsL_law_2568 6 = true) ∧ (decode dsL_law_2568 8 = .ok (.goto 347, 3) ∧ okop dsL_law_2568 8 = true) ∧ (decode dsL_law_2568 11 = .ok (.aload_n 1, 1) ∧ okop dsL_law_2568 11 = true) ∧ (decode dsL_law_2568 12 = .ok (.aload_n 0, 1) ∧ okop dsL_law_2568 12 = true) ∧ (decode dsL_law_2568 13 = .ok (.iload 5, 2) ∧ okop dsL_law_2568 13 = true) ∧ (decode dsL_law_2568 15 = .ok (.iconst 1, 1) ∧ okop dsL_law_2568 15 = true) := by decide +kernel
theorem dL_law_2568 : decode cL_law 2568 = .ok (.iconst 1, 1) := dgq (p := 0) daL_law_2568 dbL_law_2568.1
theorem dL_law_2569 : decode cL_law 2569 = .ok (.iadd, 1) := dgq (p := 1) daL_law_2568 dbL_law_2568.2.1
theorem dL_law_2570 : decode cL_law 2570 = .ok (.iaload, 1) := dgq (p := 2) daL_law_2568 dbL_law_2568.2.2.1
theorem dL_law_2571 : decode cL_law 2571 = .ok (.invokevirtual 391, 3) := dgq (p := 3) daL_law_2568 dbL_law_2568.2.2.2.1
theorem dL_law_2574 : decode cL_law 2574 = .ok (.istore 7, 2) := dgq (p := 6) daL_law_2568 dbL_law_2568.2.2.2.2.1
theorem dL_law_2576 : decode cL_law 2576 = .ok (.goto 347, 3) := dgq (p := 8) daL_law_2568 dbL_law_2568.2.2.2.2.2.1
theorem dL_law_2579 : decode cL_law 2579 = .ok (.aload_n 1, 1) := dgq (p := 11) daL_law_2568 dbL_law_2568.2.2.2.2.2.2.1
theorem dL_law_2580 : decode cL_law 2580 = .ok (.aload_n 0, 1) := dgq (p := 12) daL_law_2568 dbL_law_2568.2.2.2.2.2.2.2.1
theorem dL_law_2581 : decode cL_law 2581 = .ok (.iload 5, 2) := dgq (p := 13) daL_law_2568 dbL_law_2568.2.2.2.2.2.2.2.2.1
theorem dL_law_2583 : decode cL_law 2583 = .ok (.iconst 1, 1) := dgq (p := 15) daL_law_2568 dbL_law_2568.2.2.2.2.2.2.2.2.2
def dsL_law_2584 : ByteArray := ⟨#[96, 46, 45, 184, 1, 136, 54, 6, 44, 42, 21, 5, 4, 96]⟩
theorem daL_law_2584 : agB cL_law dsL_law_2584 2584 := agB_of (n := 14) (by decide +kernel)
theorem dbL_law_2584 : (decode dsL_law_2584 0 = .ok (.iadd, 1) ∧ okop dsL_law_2584 0 = true) ∧ (decode dsL_law_2584 1 = .ok (.iaload, 1) ∧ okop dsL_law_2584 1 = true) ∧ (decode dsL_law_2584 2 = .ok (.aload_n 3, 1) ∧ okop dsL_law_2584 2 = true) ∧ (decode dsL_law_2584 3 = .ok (.invokestatic 392, 3) ∧ okop dsL_law_2584 3 = true) ∧ (decode dsL_law_2584 6 = .ok (.istore 6, 2) ∧ okop dsL_law_2584 6 = true) ∧ (decode dsL_law_2584 8 = .ok (.aload_n 2, 1) ∧ okop dsL_law_2584 8 = true) ∧ (decode dsL_law_2584 9 = .ok (.aload_n 0, 1) ∧ okop dsL_law_2584 9 = true) ∧ (decode dsL_law_2584 10 = .ok (.iload 5, 2) ∧ okop dsL_law_2584 10 = true) ∧ (decode dsL_law_2584 12 = .ok (.iconst 1, 1) ∧ okop dsL_law_2584 12 = true) ∧ (decode dsL_law_2584 13 = .ok (.iadd, 1) ∧ okop dsL_law_2584 13 = true) := by decide +kernel
theorem dL_law_2584 : decode cL_law 2584 = .ok (.iadd, 1) := dgq (p := 0) daL_law_2584 dbL_law_2584.1
theorem dL_law_2585 : decode cL_law 2585 = .ok (.iaload, 1) := dgq (p := 1) daL_law_2584 dbL_law_2584.2.1
theorem dL_law_2586 : decode cL_law 2586 = .ok (.aload_n 3, 1) := dgq (p := 2) daL_law_2584 dbL_law_2584.2.2.1
theorem dL_law_2587 : decode cL_law 2587 = .ok (.invokestatic 392, 3) := dgq (p := 3) daL_law_2584 dbL_law_2584.2.2.2.1
theorem dL_law_2590 : decode cL_law 2590 = .ok (.istore 6, 2) := dgq (p := 6) daL_law_2584 dbL_law_2584.2.2.2.2.1
theorem dL_law_2592 : decode cL_law 2592 = .ok (.aload_n 2, 1) := dgq (p := 8) daL_law_2584 dbL_law_2584.2.2.2.2.2.1
theorem dL_law_2593 : decode cL_law 2593 = .ok (.aload_n 0, 1) := dgq (p := 9) daL_law_2584 dbL_law_2584.2.2.2.2.2.2.1
theorem dL_law_2594 : decode cL_law 2594 = .ok (.iload 5, 2) := dgq (p := 10) daL_law_2584 dbL_law_2584.2.2.2.2.2.2.2.1
theorem dL_law_2596 : decode cL_law 2596 = .ok (.iconst 1, 1) := dgq (p := 12) daL_law_2584 dbL_law_2584.2.2.2.2.2.2.2.2.1
theorem dL_law_2597 : decode cL_law 2597 = .ok (.iadd, 1) := dgq (p := 13) daL_law_2584 dbL_law_2584.2.2.2.2.2.2.2.2.2
def dsL_law_2598 : ByteArray := ⟨#[46, 182, 1, 138, 54, 7, 167, 1, 63, 43, 42, 21, 5, 4, 96, 46]⟩
theorem daL_law_2598 : agB cL_law dsL_law_2598 2598 := agB_of (n := 16) (by decide +kernel)
theorem dbL_law_2598 : (decode dsL_law_2598 0 = .ok (.iaload, 1) ∧ okop dsL_law_2598 0 = true) ∧ (decode dsL_law_2598 1 = .ok (.invokevirtual 394, 3) ∧ okop dsL_law_2598 1 = true) ∧ (decode dsL_law_2598 4 = .ok (.istore 7, 2) ∧ okop dsL_law_2598 4 = true) ∧ (decode dsL_law_2598 6 = .ok (.goto 319, 3) ∧ okop dsL_law_2598 6 = true) ∧ (decode dsL_law_2598 9 = .ok (.aload_n 1, 1) ∧ okop dsL_law_2598 9 = true) ∧ (decode dsL_law_2598 10 = .ok (.aload_n 0, 1) ∧ okop dsL_law_2598 10 = true) ∧ (decode dsL_law_2598 11 = .ok (.iload 5, 2) ∧ okop dsL_law_2598 11 = true) ∧ (decode dsL_law_2598 13 = .ok (.iconst 1, 1) ∧ okop dsL_law_2598 13 = true) ∧ (decode dsL_law_2598 14 = .ok (.iadd, 1) ∧ okop dsL_law_2598 14 = true) ∧ (decode dsL_law_2598 15 = .ok (.iaload, 1) ∧ okop dsL_law_2598 15 = true) := by decide +kernel
theorem dL_law_2598 : decode cL_law 2598 = .ok (.iaload, 1) := dgq (p := 0) daL_law_2598 dbL_law_2598.1
theorem dL_law_2599 : decode cL_law 2599 = .ok (.invokevirtual 394, 3) := dgq (p := 1) daL_law_2598 dbL_law_2598.2.1
theorem dL_law_2602 : decode cL_law 2602 = .ok (.istore 7, 2) := dgq (p := 4) daL_law_2598 dbL_law_2598.2.2.1
theorem dL_law_2604 : decode cL_law 2604 = .ok (.goto 319, 3) := dgq (p := 6) daL_law_2598 dbL_law_2598.2.2.2.1
theorem dL_law_2607 : decode cL_law 2607 = .ok (.aload_n 1, 1) := dgq (p := 9) daL_law_2598 dbL_law_2598.2.2.2.2.1
theorem dL_law_2608 : decode cL_law 2608 = .ok (.aload_n 0, 1) := dgq (p := 10) daL_law_2598 dbL_law_2598.2.2.2.2.2.1
theorem dL_law_2609 : decode cL_law 2609 = .ok (.iload 5, 2) := dgq (p := 11) daL_law_2598 dbL_law_2598.2.2.2.2.2.2.1
theorem dL_law_2611 : decode cL_law 2611 = .ok (.iconst 1, 1) := dgq (p := 13) daL_law_2598 dbL_law_2598.2.2.2.2.2.2.2.1
theorem dL_law_2612 : decode cL_law 2612 = .ok (.iadd, 1) := dgq (p := 14) daL_law_2598 dbL_law_2598.2.2.2.2.2.2.2.2.1
theorem dL_law_2613 : decode cL_law 2613 = .ok (.iaload, 1) := dgq (p := 15) daL_law_2598 dbL_law_2598.2.2.2.2.2.2.2.2.2
def dsL_law_2614 : ByteArray := ⟨#[146, 42, 21, 5, 5, 96, 46, 45, 184, 1, 139, 54, 6, 44]⟩
theorem daL_law_2614 : agB cL_law dsL_law_2614 2614 := agB_of (n := 14) (by decide +kernel)
theorem dbL_law_2614 : (decode dsL_law_2614 0 = .ok (.i2c, 1) ∧ okop dsL_law_2614 0 = true) ∧ (decode dsL_law_2614 1 = .ok (.aload_n 0, 1) ∧ okop dsL_law_2614 1 = true) ∧ (decode dsL_law_2614 2 = .ok (.iload 5, 2) ∧ okop dsL_law_2614 2 = true) ∧ (decode dsL_law_2614 4 = .ok (.iconst 2, 1) ∧ okop dsL_law_2614 4 = true) ∧ (decode dsL_law_2614 5 = .ok (.iadd, 1) ∧ okop dsL_law_2614 5 = true) ∧ (decode dsL_law_2614 6 = .ok (.iaload, 1) ∧ okop dsL_law_2614 6 = true) ∧ (decode dsL_law_2614 7 = .ok (.aload_n 3, 1) ∧ okop dsL_law_2614 7 = true) ∧ (decode dsL_law_2614 8 = .ok (.invokestatic 395, 3) ∧ okop dsL_law_2614 8 = true) ∧ (decode dsL_law_2614 11 = .ok (.istore 6, 2) ∧ okop dsL_law_2614 11 = true) ∧ (decode dsL_law_2614 13 = .ok (.aload_n 2, 1) ∧ okop dsL_law_2614 13 = true) := by decide +kernel
theorem dL_law_2614 : decode cL_law 2614 = .ok (.i2c, 1) := dgq (p := 0) daL_law_2614 dbL_law_2614.1
theorem dL_law_2615 : decode cL_law 2615 = .ok (.aload_n 0, 1) := dgq (p := 1) daL_law_2614 dbL_law_2614.2.1
theorem dL_law_2616 : decode cL_law 2616 = .ok (.iload 5, 2) := dgq (p := 2) daL_law_2614 dbL_law_2614.2.2.1
theorem dL_law_2618 : decode cL_law 2618 = .ok (.iconst 2, 1) := dgq (p := 4) daL_law_2614 dbL_law_2614.2.2.2.1
theorem dL_law_2619 : decode cL_law 2619 = .ok (.iadd, 1) := dgq (p := 5) daL_law_2614 dbL_law_2614.2.2.2.2.1
theorem dL_law_2620 : decode cL_law 2620 = .ok (.iaload, 1) := dgq (p := 6) daL_law_2614 dbL_law_2614.2.2.2.2.2.1
theorem dL_law_2621 : decode cL_law 2621 = .ok (.aload_n 3, 1) := dgq (p := 7) daL_law_2614 dbL_law_2614.2.2.2.2.2.2.1
theorem dL_law_2622 : decode cL_law 2622 = .ok (.invokestatic 395, 3) := dgq (p := 8) daL_law_2614 dbL_law_2614.2.2.2.2.2.2.2.1
theorem dL_law_2625 : decode cL_law 2625 = .ok (.istore 6, 2) := dgq (p := 11) daL_law_2614 dbL_law_2614.2.2.2.2.2.2.2.2.1
theorem dL_law_2627 : decode cL_law 2627 = .ok (.aload_n 2, 1) := dgq (p := 13) daL_law_2614 dbL_law_2614.2.2.2.2.2.2.2.2.2
def dsL_law_2628 : ByteArray := ⟨#[42, 21, 5, 4, 96, 46, 146, 42, 21, 5, 5, 96]⟩
theorem daL_law_2628 : agB cL_law dsL_law_2628 2628 := agB_of (n := 12) (by decide +kernel)
theorem dbL_law_2628 : (decode dsL_law_2628 0 = .ok (.aload_n 0, 1) ∧ okop dsL_law_2628 0 = true) ∧ (decode dsL_law_2628 1 = .ok (.iload 5, 2) ∧ okop dsL_law_2628 1 = true) ∧ (decode dsL_law_2628 3 = .ok (.iconst 1, 1) ∧ okop dsL_law_2628 3 = true) ∧ (decode dsL_law_2628 4 = .ok (.iadd, 1) ∧ okop dsL_law_2628 4 = true) ∧ (decode dsL_law_2628 5 = .ok (.iaload, 1) ∧ okop dsL_law_2628 5 = true) ∧ (decode dsL_law_2628 6 = .ok (.i2c, 1) ∧ okop dsL_law_2628 6 = true) ∧ (decode dsL_law_2628 7 = .ok (.aload_n 0, 1) ∧ okop dsL_law_2628 7 = true) ∧ (decode dsL_law_2628 8 = .ok (.iload 5, 2) ∧ okop dsL_law_2628 8 = true) ∧ (decode dsL_law_2628 10 = .ok (.iconst 2, 1) ∧ okop dsL_law_2628 10 = true) ∧ (decode dsL_law_2628 11 = .ok (.iadd, 1) ∧ okop dsL_law_2628 11 = true) := by decide +kernel
theorem dL_law_2628 : decode cL_law 2628 = .ok (.aload_n 0, 1) := dgq (p := 0) daL_law_2628 dbL_law_2628.1
theorem dL_law_2629 : decode cL_law 2629 = .ok (.iload 5, 2) := dgq (p := 1) daL_law_2628 dbL_law_2628.2.1
theorem dL_law_2631 : decode cL_law 2631 = .ok (.iconst 1, 1) := dgq (p := 3) daL_law_2628 dbL_law_2628.2.2.1
theorem dL_law_2632 : decode cL_law 2632 = .ok (.iadd, 1) := dgq (p := 4) daL_law_2628 dbL_law_2628.2.2.2.1
theorem dL_law_2633 : decode cL_law 2633 = .ok (.iaload, 1) := dgq (p := 5) daL_law_2628 dbL_law_2628.2.2.2.2.1
theorem dL_law_2634 : decode cL_law 2634 = .ok (.i2c, 1) := dgq (p := 6) daL_law_2628 dbL_law_2628.2.2.2.2.2.1
theorem dL_law_2635 : decode cL_law 2635 = .ok (.aload_n 0, 1) := dgq (p := 7) daL_law_2628 dbL_law_2628.2.2.2.2.2.2.1
theorem dL_law_2636 : decode cL_law 2636 = .ok (.iload 5, 2) := dgq (p := 8) daL_law_2628 dbL_law_2628.2.2.2.2.2.2.2.1
theorem dL_law_2638 : decode cL_law 2638 = .ok (.iconst 2, 1) := dgq (p := 10) daL_law_2628 dbL_law_2628.2.2.2.2.2.2.2.2.1
theorem dL_law_2639 : decode cL_law 2639 = .ok (.iadd, 1) := dgq (p := 11) daL_law_2628 dbL_law_2628.2.2.2.2.2.2.2.2.2
def dsL_law_2640 : ByteArray := ⟨#[46, 182, 1, 142, 54, 7, 167, 1, 21, 43, 42, 21, 5, 4, 96, 46]⟩
theorem daL_law_2640 : agB cL_law dsL_law_2640 2640 := agB_of (n := 16) (by decide +kernel)
theorem dbL_law_2640 : (decode dsL_law_2640 0 = .ok (.iaload, 1) ∧ okop dsL_law_2640 0 = true) ∧ (decode dsL_law_2640 1 = .ok (.invokevirtual 398, 3) ∧ okop dsL_law_2640 1 = true) ∧ (decode dsL_law_2640 4 = .ok (.istore 7, 2) ∧ okop dsL_law_2640 4 = true) ∧ (decode dsL_law_2640 6 = .ok (.goto 277, 3) ∧ okop dsL_law_2640 6 = true) ∧ (decode dsL_law_2640 9 = .ok (.aload_n 1, 1) ∧ okop dsL_law_2640 9 = true) ∧ (decode dsL_law_2640 10 = .ok (.aload_n 0, 1) ∧ okop dsL_law_2640 10 = true) ∧ (decode dsL_law_2640 11 = .ok (.iload 5, 2) ∧ okop dsL_law_2640 11 = true) ∧ (decode dsL_law_2640 13 = .ok (.iconst 1, 1) ∧ okop dsL_law_2640 13 = true) ∧ (decode dsL_law_2640 14 = .ok (.iadd, 1) ∧ okop dsL_law_2640 14 = true) ∧ (decode dsL_law_2640 15 = .ok (.iaload, 1) ∧ okop dsL_law_2640 15 = true) := by decide +kernel
theorem dL_law_2640 : decode cL_law 2640 = .ok (.iaload, 1) := dgq (p := 0) daL_law_2640 dbL_law_2640.1
theorem dL_law_2641 : decode cL_law 2641 = .ok (.invokevirtual 398, 3) := dgq (p := 1) daL_law_2640 dbL_law_2640.2.1
theorem dL_law_2644 : decode cL_law 2644 = .ok (.istore 7, 2) := dgq (p := 4) daL_law_2640 dbL_law_2640.2.2.1
theorem dL_law_2646 : decode cL_law 2646 = .ok (.goto 277, 3) := dgq (p := 6) daL_law_2640 dbL_law_2640.2.2.2.1
theorem dL_law_2649 : decode cL_law 2649 = .ok (.aload_n 1, 1) := dgq (p := 9) daL_law_2640 dbL_law_2640.2.2.2.2.1
theorem dL_law_2650 : decode cL_law 2650 = .ok (.aload_n 0, 1) := dgq (p := 10) daL_law_2640 dbL_law_2640.2.2.2.2.2.1
theorem dL_law_2651 : decode cL_law 2651 = .ok (.iload 5, 2) := dgq (p := 11) daL_law_2640 dbL_law_2640.2.2.2.2.2.2.1
theorem dL_law_2653 : decode cL_law 2653 = .ok (.iconst 1, 1) := dgq (p := 13) daL_law_2640 dbL_law_2640.2.2.2.2.2.2.2.1
theorem dL_law_2654 : decode cL_law 2654 = .ok (.iadd, 1) := dgq (p := 14) daL_law_2640 dbL_law_2640.2.2.2.2.2.2.2.2.1
theorem dL_law_2655 : decode cL_law 2655 = .ok (.iaload, 1) := dgq (p := 15) daL_law_2640 dbL_law_2640.2.2.2.2.2.2.2.2.2
def dsL_law_2656 : ByteArray := ⟨#[42, 21, 5, 5, 96, 46, 45, 184, 1, 143, 54, 6, 44, 42]⟩
theorem daL_law_2656 : agB cL_law dsL_law_2656 2656 := agB_of (n := 14) (by decide +kernel)
theorem dbL_law_2656 : (decode dsL_law_2656 0 = .ok (.aload_n 0, 1) ∧ okop dsL_law_2656 0 = true) ∧ (decode dsL_law_2656 1 = .ok (.iload 5, 2) ∧ okop dsL_law_2656 1 = true) ∧ (decode dsL_law_2656 3 = .ok (.iconst 2, 1) ∧ okop dsL_law_2656 3 = true) ∧ (decode dsL_law_2656 4 = .ok (.iadd, 1) ∧ okop dsL_law_2656 4 = true) ∧ (decode dsL_law_2656 5 = .ok (.iaload, 1) ∧ okop dsL_law_2656 5 = true) ∧ (decode dsL_law_2656 6 = .ok (.aload_n 3, 1) ∧ okop dsL_law_2656 6 = true) ∧ (decode dsL_law_2656 7 = .ok (.invokestatic 399, 3) ∧ okop dsL_law_2656 7 = true) ∧ (decode dsL_law_2656 10 = .ok (.istore 6, 2) ∧ okop dsL_law_2656 10 = true) ∧ (decode dsL_law_2656 12 = .ok (.aload_n 2, 1) ∧ okop dsL_law_2656 12 = true) ∧ (decode dsL_law_2656 13 = .ok (.aload_n 0, 1) ∧ okop dsL_law_2656 13 = true) := by decide +kernel
theorem dL_law_2656 : decode cL_law 2656 = .ok (.aload_n 0, 1) := dgq (p := 0) daL_law_2656 dbL_law_2656.1
theorem dL_law_2657 : decode cL_law 2657 = .ok (.iload 5, 2) := dgq (p := 1) daL_law_2656 dbL_law_2656.2.1
theorem dL_law_2659 : decode cL_law 2659 = .ok (.iconst 2, 1) := dgq (p := 3) daL_law_2656 dbL_law_2656.2.2.1
theorem dL_law_2660 : decode cL_law 2660 = .ok (.iadd, 1) := dgq (p := 4) daL_law_2656 dbL_law_2656.2.2.2.1
theorem dL_law_2661 : decode cL_law 2661 = .ok (.iaload, 1) := dgq (p := 5) daL_law_2656 dbL_law_2656.2.2.2.2.1
theorem dL_law_2662 : decode cL_law 2662 = .ok (.aload_n 3, 1) := dgq (p := 6) daL_law_2656 dbL_law_2656.2.2.2.2.2.1
theorem dL_law_2663 : decode cL_law 2663 = .ok (.invokestatic 399, 3) := dgq (p := 7) daL_law_2656 dbL_law_2656.2.2.2.2.2.2.1
theorem dL_law_2666 : decode cL_law 2666 = .ok (.istore 6, 2) := dgq (p := 10) daL_law_2656 dbL_law_2656.2.2.2.2.2.2.2.1
theorem dL_law_2668 : decode cL_law 2668 = .ok (.aload_n 2, 1) := dgq (p := 12) daL_law_2656 dbL_law_2656.2.2.2.2.2.2.2.2.1
theorem dL_law_2669 : decode cL_law 2669 = .ok (.aload_n 0, 1) := dgq (p := 13) daL_law_2656 dbL_law_2656.2.2.2.2.2.2.2.2.2
def dsL_law_2670 : ByteArray := ⟨#[21, 5, 4, 96, 46, 42, 21, 5, 5, 96, 46, 182, 1, 145]⟩
theorem daL_law_2670 : agB cL_law dsL_law_2670 2670 := agB_of (n := 14) (by decide +kernel)
theorem dbL_law_2670 : (decode dsL_law_2670 0 = .ok (.iload 5, 2) ∧ okop dsL_law_2670 0 = true) ∧ (decode dsL_law_2670 2 = .ok (.iconst 1, 1) ∧ okop dsL_law_2670 2 = true) ∧ (decode dsL_law_2670 3 = .ok (.iadd, 1) ∧ okop dsL_law_2670 3 = true) ∧ (decode dsL_law_2670 4 = .ok (.iaload, 1) ∧ okop dsL_law_2670 4 = true) ∧ (decode dsL_law_2670 5 = .ok (.aload_n 0, 1) ∧ okop dsL_law_2670 5 = true) ∧ (decode dsL_law_2670 6 = .ok (.iload 5, 2) ∧ okop dsL_law_2670 6 = true) ∧ (decode dsL_law_2670 8 = .ok (.iconst 2, 1) ∧ okop dsL_law_2670 8 = true) ∧ (decode dsL_law_2670 9 = .ok (.iadd, 1) ∧ okop dsL_law_2670 9 = true) ∧ (decode dsL_law_2670 10 = .ok (.iaload, 1) ∧ okop dsL_law_2670 10 = true) ∧ (decode dsL_law_2670 11 = .ok (.invokevirtual 401, 3) ∧ okop dsL_law_2670 11 = true) := by decide +kernel
theorem dL_law_2670 : decode cL_law 2670 = .ok (.iload 5, 2) := dgq (p := 0) daL_law_2670 dbL_law_2670.1
theorem dL_law_2672 : decode cL_law 2672 = .ok (.iconst 1, 1) := dgq (p := 2) daL_law_2670 dbL_law_2670.2.1
theorem dL_law_2673 : decode cL_law 2673 = .ok (.iadd, 1) := dgq (p := 3) daL_law_2670 dbL_law_2670.2.2.1
theorem dL_law_2674 : decode cL_law 2674 = .ok (.iaload, 1) := dgq (p := 4) daL_law_2670 dbL_law_2670.2.2.2.1
theorem dL_law_2675 : decode cL_law 2675 = .ok (.aload_n 0, 1) := dgq (p := 5) daL_law_2670 dbL_law_2670.2.2.2.2.1
theorem dL_law_2676 : decode cL_law 2676 = .ok (.iload 5, 2) := dgq (p := 6) daL_law_2670 dbL_law_2670.2.2.2.2.2.1
theorem dL_law_2678 : decode cL_law 2678 = .ok (.iconst 2, 1) := dgq (p := 8) daL_law_2670 dbL_law_2670.2.2.2.2.2.2.1
theorem dL_law_2679 : decode cL_law 2679 = .ok (.iadd, 1) := dgq (p := 9) daL_law_2670 dbL_law_2670.2.2.2.2.2.2.2.1
theorem dL_law_2680 : decode cL_law 2680 = .ok (.iaload, 1) := dgq (p := 10) daL_law_2670 dbL_law_2670.2.2.2.2.2.2.2.2.1
theorem dL_law_2681 : decode cL_law 2681 = .ok (.invokevirtual 401, 3) := dgq (p := 11) daL_law_2670 dbL_law_2670.2.2.2.2.2.2.2.2.2
def dsL_law_2684 : ByteArray := ⟨#[54, 7, 167, 0, 237, 43, 42, 21, 5, 4, 96, 46, 42, 21, 5]⟩
theorem daL_law_2684 : agB cL_law dsL_law_2684 2684 := agB_of (n := 15) (by decide +kernel)
theorem dbL_law_2684 : (decode dsL_law_2684 0 = .ok (.istore 7, 2) ∧ okop dsL_law_2684 0 = true) ∧ (decode dsL_law_2684 2 = .ok (.goto 237, 3) ∧ okop dsL_law_2684 2 = true) ∧ (decode dsL_law_2684 5 = .ok (.aload_n 1, 1) ∧ okop dsL_law_2684 5 = true) ∧ (decode dsL_law_2684 6 = .ok (.aload_n 0, 1) ∧ okop dsL_law_2684 6 = true) ∧ (decode dsL_law_2684 7 = .ok (.iload 5, 2) ∧ okop dsL_law_2684 7 = true) ∧ (decode dsL_law_2684 9 = .ok (.iconst 1, 1) ∧ okop dsL_law_2684 9 = true) ∧ (decode dsL_law_2684 10 = .ok (.iadd, 1) ∧ okop dsL_law_2684 10 = true) ∧ (decode dsL_law_2684 11 = .ok (.iaload, 1) ∧ okop dsL_law_2684 11 = true) ∧ (decode dsL_law_2684 12 = .ok (.aload_n 0, 1) ∧ okop dsL_law_2684 12 = true) ∧ (decode dsL_law_2684 13 = .ok (.iload 5, 2) ∧ okop dsL_law_2684 13 = true) := by decide +kernel
theorem dL_law_2684 : decode cL_law 2684 = .ok (.istore 7, 2) := dgq (p := 0) daL_law_2684 dbL_law_2684.1
theorem dL_law_2686 : decode cL_law 2686 = .ok (.goto 237, 3) := dgq (p := 2) daL_law_2684 dbL_law_2684.2.1
theorem dL_law_2689 : decode cL_law 2689 = .ok (.aload_n 1, 1) := dgq (p := 5) daL_law_2684 dbL_law_2684.2.2.1
theorem dL_law_2690 : decode cL_law 2690 = .ok (.aload_n 0, 1) := dgq (p := 6) daL_law_2684 dbL_law_2684.2.2.2.1
theorem dL_law_2691 : decode cL_law 2691 = .ok (.iload 5, 2) := dgq (p := 7) daL_law_2684 dbL_law_2684.2.2.2.2.1
theorem dL_law_2693 : decode cL_law 2693 = .ok (.iconst 1, 1) := dgq (p := 9) daL_law_2684 dbL_law_2684.2.2.2.2.2.1
theorem dL_law_2694 : decode cL_law 2694 = .ok (.iadd, 1) := dgq (p := 10) daL_law_2684 dbL_law_2684.2.2.2.2.2.2.1
theorem dL_law_2695 : decode cL_law 2695 = .ok (.iaload, 1) := dgq (p := 11) daL_law_2684 dbL_law_2684.2.2.2.2.2.2.2.1
theorem dL_law_2696 : decode cL_law 2696 = .ok (.aload_n 0, 1) := dgq (p := 12) daL_law_2684 dbL_law_2684.2.2.2.2.2.2.2.2.1
theorem dL_law_2697 : decode cL_law 2697 = .ok (.iload 5, 2) := dgq (p := 13) daL_law_2684 dbL_law_2684.2.2.2.2.2.2.2.2.2
def dsL_law_2699 : ByteArray := ⟨#[5, 96, 46, 146, 45, 184, 1, 146, 54, 6, 44, 42, 21, 5]⟩
theorem daL_law_2699 : agB cL_law dsL_law_2699 2699 := agB_of (n := 14) (by decide +kernel)
theorem dbL_law_2699 : (decode dsL_law_2699 0 = .ok (.iconst 2, 1) ∧ okop dsL_law_2699 0 = true) ∧ (decode dsL_law_2699 1 = .ok (.iadd, 1) ∧ okop dsL_law_2699 1 = true) ∧ (decode dsL_law_2699 2 = .ok (.iaload, 1) ∧ okop dsL_law_2699 2 = true) ∧ (decode dsL_law_2699 3 = .ok (.i2c, 1) ∧ okop dsL_law_2699 3 = true) ∧ (decode dsL_law_2699 4 = .ok (.aload_n 3, 1) ∧ okop dsL_law_2699 4 = true) ∧ (decode dsL_law_2699 5 = .ok (.invokestatic 402, 3) ∧ okop dsL_law_2699 5 = true) ∧ (decode dsL_law_2699 8 = .ok (.istore 6, 2) ∧ okop dsL_law_2699 8 = true) ∧ (decode dsL_law_2699 10 = .ok (.aload_n 2, 1) ∧ okop dsL_law_2699 10 = true) ∧ (decode dsL_law_2699 11 = .ok (.aload_n 0, 1) ∧ okop dsL_law_2699 11 = true) ∧ (decode dsL_law_2699 12 = .ok (.iload 5, 2) ∧ okop dsL_law_2699 12 = true) := by decide +kernel
theorem dL_law_2699 : decode cL_law 2699 = .ok (.iconst 2, 1) := dgq (p := 0) daL_law_2699 dbL_law_2699.1
theorem dL_law_2700 : decode cL_law 2700 = .ok (.iadd, 1) := dgq (p := 1) daL_law_2699 dbL_law_2699.2.1
theorem dL_law_2701 : decode cL_law 2701 = .ok (.iaload, 1) := dgq (p := 2) daL_law_2699 dbL_law_2699.2.2.1
theorem dL_law_2702 : decode cL_law 2702 = .ok (.i2c, 1) := dgq (p := 3) daL_law_2699 dbL_law_2699.2.2.2.1
theorem dL_law_2703 : decode cL_law 2703 = .ok (.aload_n 3, 1) := dgq (p := 4) daL_law_2699 dbL_law_2699.2.2.2.2.1
theorem dL_law_2704 : decode cL_law 2704 = .ok (.invokestatic 402, 3) := dgq (p := 5) daL_law_2699 dbL_law_2699.2.2.2.2.2.1
theorem dL_law_2707 : decode cL_law 2707 = .ok (.istore 6, 2) := dgq (p := 8) daL_law_2699 dbL_law_2699.2.2.2.2.2.2.1
theorem dL_law_2709 : decode cL_law 2709 = .ok (.aload_n 2, 1) := dgq (p := 10) daL_law_2699 dbL_law_2699.2.2.2.2.2.2.2.1
theorem dL_law_2710 : decode cL_law 2710 = .ok (.aload_n 0, 1) := dgq (p := 11) daL_law_2699 dbL_law_2699.2.2.2.2.2.2.2.2.1
theorem dL_law_2711 : decode cL_law 2711 = .ok (.iload 5, 2) := dgq (p := 12) daL_law_2699 dbL_law_2699.2.2.2.2.2.2.2.2.2
def dsL_law_2713 : ByteArray := ⟨#[4, 96, 46, 42, 21, 5, 5, 96, 46, 146, 182, 1, 149]⟩
theorem daL_law_2713 : agB cL_law dsL_law_2713 2713 := agB_of (n := 13) (by decide +kernel)
theorem dbL_law_2713 : (decode dsL_law_2713 0 = .ok (.iconst 1, 1) ∧ okop dsL_law_2713 0 = true) ∧ (decode dsL_law_2713 1 = .ok (.iadd, 1) ∧ okop dsL_law_2713 1 = true) ∧ (decode dsL_law_2713 2 = .ok (.iaload, 1) ∧ okop dsL_law_2713 2 = true) ∧ (decode dsL_law_2713 3 = .ok (.aload_n 0, 1) ∧ okop dsL_law_2713 3 = true) ∧ (decode dsL_law_2713 4 = .ok (.iload 5, 2) ∧ okop dsL_law_2713 4 = true) ∧ (decode dsL_law_2713 6 = .ok (.iconst 2, 1) ∧ okop dsL_law_2713 6 = true) ∧ (decode dsL_law_2713 7 = .ok (.iadd, 1) ∧ okop dsL_law_2713 7 = true) ∧ (decode dsL_law_2713 8 = .ok (.iaload, 1) ∧ okop dsL_law_2713 8 = true) ∧ (decode dsL_law_2713 9 = .ok (.i2c, 1) ∧ okop dsL_law_2713 9 = true) ∧ (decode dsL_law_2713 10 = .ok (.invokevirtual 405, 3) ∧ okop dsL_law_2713 10 = true) := by decide +kernel
theorem dL_law_2713 : decode cL_law 2713 = .ok (.iconst 1, 1) := dgq (p := 0) daL_law_2713 dbL_law_2713.1
theorem dL_law_2714 : decode cL_law 2714 = .ok (.iadd, 1) := dgq (p := 1) daL_law_2713 dbL_law_2713.2.1
theorem dL_law_2715 : decode cL_law 2715 = .ok (.iaload, 1) := dgq (p := 2) daL_law_2713 dbL_law_2713.2.2.1
theorem dL_law_2716 : decode cL_law 2716 = .ok (.aload_n 0, 1) := dgq (p := 3) daL_law_2713 dbL_law_2713.2.2.2.1
theorem dL_law_2717 : decode cL_law 2717 = .ok (.iload 5, 2) := dgq (p := 4) daL_law_2713 dbL_law_2713.2.2.2.2.1
theorem dL_law_2719 : decode cL_law 2719 = .ok (.iconst 2, 1) := dgq (p := 6) daL_law_2713 dbL_law_2713.2.2.2.2.2.1
theorem dL_law_2720 : decode cL_law 2720 = .ok (.iadd, 1) := dgq (p := 7) daL_law_2713 dbL_law_2713.2.2.2.2.2.2.1
theorem dL_law_2721 : decode cL_law 2721 = .ok (.iaload, 1) := dgq (p := 8) daL_law_2713 dbL_law_2713.2.2.2.2.2.2.2.1
theorem dL_law_2722 : decode cL_law 2722 = .ok (.i2c, 1) := dgq (p := 9) daL_law_2713 dbL_law_2713.2.2.2.2.2.2.2.2.1
theorem dL_law_2723 : decode cL_law 2723 = .ok (.invokevirtual 405, 3) := dgq (p := 10) daL_law_2713 dbL_law_2713.2.2.2.2.2.2.2.2.2
def dsL_law_2726 : ByteArray := ⟨#[54, 7, 167, 0, 195, 43, 42, 21, 5, 4, 96, 46, 45, 184, 1, 150]⟩
theorem daL_law_2726 : agB cL_law dsL_law_2726 2726 := agB_of (n := 16) (by decide +kernel)
theorem dbL_law_2726 : (decode dsL_law_2726 0 = .ok (.istore 7, 2) ∧ okop dsL_law_2726 0 = true) ∧ (decode dsL_law_2726 2 = .ok (.goto 195, 3) ∧ okop dsL_law_2726 2 = true) ∧ (decode dsL_law_2726 5 = .ok (.aload_n 1, 1) ∧ okop dsL_law_2726 5 = true) ∧ (decode dsL_law_2726 6 = .ok (.aload_n 0, 1) ∧ okop dsL_law_2726 6 = true) ∧ (decode dsL_law_2726 7 = .ok (.iload 5, 2) ∧ okop dsL_law_2726 7 = true) ∧ (decode dsL_law_2726 9 = .ok (.iconst 1, 1) ∧ okop dsL_law_2726 9 = true) ∧ (decode dsL_law_2726 10 = .ok (.iadd, 1) ∧ okop dsL_law_2726 10 = true) ∧ (decode dsL_law_2726 11 = .ok (.iaload, 1) ∧ okop dsL_law_2726 11 = true) ∧ (decode dsL_law_2726 12 = .ok (.aload_n 3, 1) ∧ okop dsL_law_2726 12 = true) ∧ (decode dsL_law_2726 13 = .ok (.invokestatic 406, 3) ∧ okop dsL_law_2726 13 = true) := by decide +kernel
theorem dL_law_2726 : decode cL_law 2726 = .ok (.istore 7, 2) := dgq (p := 0) daL_law_2726 dbL_law_2726.1
theorem dL_law_2728 : decode cL_law 2728 = .ok (.goto 195, 3) := dgq (p := 2) daL_law_2726 dbL_law_2726.2.1
theorem dL_law_2731 : decode cL_law 2731 = .ok (.aload_n 1, 1) := dgq (p := 5) daL_law_2726 dbL_law_2726.2.2.1
theorem dL_law_2732 : decode cL_law 2732 = .ok (.aload_n 0, 1) := dgq (p := 6) daL_law_2726 dbL_law_2726.2.2.2.1
theorem dL_law_2733 : decode cL_law 2733 = .ok (.iload 5, 2) := dgq (p := 7) daL_law_2726 dbL_law_2726.2.2.2.2.1
theorem dL_law_2735 : decode cL_law 2735 = .ok (.iconst 1, 1) := dgq (p := 9) daL_law_2726 dbL_law_2726.2.2.2.2.2.1
theorem dL_law_2736 : decode cL_law 2736 = .ok (.iadd, 1) := dgq (p := 10) daL_law_2726 dbL_law_2726.2.2.2.2.2.2.1
theorem dL_law_2737 : decode cL_law 2737 = .ok (.iaload, 1) := dgq (p := 11) daL_law_2726 dbL_law_2726.2.2.2.2.2.2.2.1
theorem dL_law_2738 : decode cL_law 2738 = .ok (.aload_n 3, 1) := dgq (p := 12) daL_law_2726 dbL_law_2726.2.2.2.2.2.2.2.2.1
theorem dL_law_2739 : decode cL_law 2739 = .ok (.invokestatic 406, 3) := dgq (p := 13) daL_law_2726 dbL_law_2726.2.2.2.2.2.2.2.2.2
def dsL_law_2742 : ByteArray := ⟨#[54, 6, 44, 42, 21, 5, 4, 96, 46, 182, 1, 152, 54, 7, 167, 0, 167]⟩
theorem daL_law_2742 : agB cL_law dsL_law_2742 2742 := agB_of (n := 17) (by decide +kernel)
theorem dbL_law_2742 : (decode dsL_law_2742 0 = .ok (.istore 6, 2) ∧ okop dsL_law_2742 0 = true) ∧ (decode dsL_law_2742 2 = .ok (.aload_n 2, 1) ∧ okop dsL_law_2742 2 = true) ∧ (decode dsL_law_2742 3 = .ok (.aload_n 0, 1) ∧ okop dsL_law_2742 3 = true) ∧ (decode dsL_law_2742 4 = .ok (.iload 5, 2) ∧ okop dsL_law_2742 4 = true) ∧ (decode dsL_law_2742 6 = .ok (.iconst 1, 1) ∧ okop dsL_law_2742 6 = true) ∧ (decode dsL_law_2742 7 = .ok (.iadd, 1) ∧ okop dsL_law_2742 7 = true) ∧ (decode dsL_law_2742 8 = .ok (.iaload, 1) ∧ okop dsL_law_2742 8 = true) ∧ (decode dsL_law_2742 9 = .ok (.invokevirtual 408, 3) ∧ okop dsL_law_2742 9 = true) ∧ (decode dsL_law_2742 12 = .ok (.istore 7, 2) ∧ okop dsL_law_2742 12 = true) ∧ (decode dsL_law_2742 14 = .ok (.goto 167, 3) ∧ okop dsL_law_2742 14 = true) := by decide +kernel
theorem dL_law_2742 : decode cL_law 2742 = .ok (.istore 6, 2) := dgq (p := 0) daL_law_2742 dbL_law_2742.1
theorem dL_law_2744 : decode cL_law 2744 = .ok (.aload_n 2, 1) := dgq (p := 2) daL_law_2742 dbL_law_2742.2.1
theorem dL_law_2745 : decode cL_law 2745 = .ok (.aload_n 0, 1) := dgq (p := 3) daL_law_2742 dbL_law_2742.2.2.1
theorem dL_law_2746 : decode cL_law 2746 = .ok (.iload 5, 2) := dgq (p := 4) daL_law_2742 dbL_law_2742.2.2.2.1
theorem dL_law_2748 : decode cL_law 2748 = .ok (.iconst 1, 1) := dgq (p := 6) daL_law_2742 dbL_law_2742.2.2.2.2.1
theorem dL_law_2749 : decode cL_law 2749 = .ok (.iadd, 1) := dgq (p := 7) daL_law_2742 dbL_law_2742.2.2.2.2.2.1
theorem dL_law_2750 : decode cL_law 2750 = .ok (.iaload, 1) := dgq (p := 8) daL_law_2742 dbL_law_2742.2.2.2.2.2.2.1
theorem dL_law_2751 : decode cL_law 2751 = .ok (.invokevirtual 408, 3) := dgq (p := 9) daL_law_2742 dbL_law_2742.2.2.2.2.2.2.2.1
theorem dL_law_2754 : decode cL_law 2754 = .ok (.istore 7, 2) := dgq (p := 12) daL_law_2742 dbL_law_2742.2.2.2.2.2.2.2.2.1
theorem dL_law_2756 : decode cL_law 2756 = .ok (.goto 167, 3) := dgq (p := 14) daL_law_2742 dbL_law_2742.2.2.2.2.2.2.2.2.2
def dsL_law_2759 : ByteArray := ⟨#[43, 42, 21, 5, 4, 96, 46, 42, 21, 5, 5, 96]⟩
theorem daL_law_2759 : agB cL_law dsL_law_2759 2759 := agB_of (n := 12) (by decide +kernel)
theorem dbL_law_2759 : (decode dsL_law_2759 0 = .ok (.aload_n 1, 1) ∧ okop dsL_law_2759 0 = true) ∧ (decode dsL_law_2759 1 = .ok (.aload_n 0, 1) ∧ okop dsL_law_2759 1 = true) ∧ (decode dsL_law_2759 2 = .ok (.iload 5, 2) ∧ okop dsL_law_2759 2 = true) ∧ (decode dsL_law_2759 4 = .ok (.iconst 1, 1) ∧ okop dsL_law_2759 4 = true) ∧ (decode dsL_law_2759 5 = .ok (.iadd, 1) ∧ okop dsL_law_2759 5 = true) ∧ (decode dsL_law_2759 6 = .ok (.iaload, 1) ∧ okop dsL_law_2759 6 = true) ∧ (decode dsL_law_2759 7 = .ok (.aload_n 0, 1) ∧ okop dsL_law_2759 7 = true) ∧ (decode dsL_law_2759 8 = .ok (.iload 5, 2) ∧ okop dsL_law_2759 8 = true) ∧ (decode dsL_law_2759 10 = .ok (.iconst 2, 1) ∧ okop dsL_law_2759 10 = true) ∧ (decode dsL_law_2759 11 = .ok (.iadd, 1) ∧ okop dsL_law_2759 11 = true) := by decide +kernel
theorem dL_law_2759 : decode cL_law 2759 = .ok (.aload_n 1, 1) := dgq (p := 0) daL_law_2759 dbL_law_2759.1
theorem dL_law_2760 : decode cL_law 2760 = .ok (.aload_n 0, 1) := dgq (p := 1) daL_law_2759 dbL_law_2759.2.1
theorem dL_law_2761 : decode cL_law 2761 = .ok (.iload 5, 2) := dgq (p := 2) daL_law_2759 dbL_law_2759.2.2.1
theorem dL_law_2763 : decode cL_law 2763 = .ok (.iconst 1, 1) := dgq (p := 4) daL_law_2759 dbL_law_2759.2.2.2.1
theorem dL_law_2764 : decode cL_law 2764 = .ok (.iadd, 1) := dgq (p := 5) daL_law_2759 dbL_law_2759.2.2.2.2.1
theorem dL_law_2765 : decode cL_law 2765 = .ok (.iaload, 1) := dgq (p := 6) daL_law_2759 dbL_law_2759.2.2.2.2.2.1
theorem dL_law_2766 : decode cL_law 2766 = .ok (.aload_n 0, 1) := dgq (p := 7) daL_law_2759 dbL_law_2759.2.2.2.2.2.2.1
theorem dL_law_2767 : decode cL_law 2767 = .ok (.iload 5, 2) := dgq (p := 8) daL_law_2759 dbL_law_2759.2.2.2.2.2.2.2.1
theorem dL_law_2769 : decode cL_law 2769 = .ok (.iconst 2, 1) := dgq (p := 10) daL_law_2759 dbL_law_2759.2.2.2.2.2.2.2.2.1
theorem dL_law_2770 : decode cL_law 2770 = .ok (.iadd, 1) := dgq (p := 11) daL_law_2759 dbL_law_2759.2.2.2.2.2.2.2.2.2
def dsL_law_2771 : ByteArray := ⟨#[46, 42, 21, 5, 6, 96, 46, 45, 184, 1, 153, 54, 6, 44]⟩
theorem daL_law_2771 : agB cL_law dsL_law_2771 2771 := agB_of (n := 14) (by decide +kernel)
theorem dbL_law_2771 : (decode dsL_law_2771 0 = .ok (.iaload, 1) ∧ okop dsL_law_2771 0 = true) ∧ (decode dsL_law_2771 1 = .ok (.aload_n 0, 1) ∧ okop dsL_law_2771 1 = true) ∧ (decode dsL_law_2771 2 = .ok (.iload 5, 2) ∧ okop dsL_law_2771 2 = true) ∧ (decode dsL_law_2771 4 = .ok (.iconst 3, 1) ∧ okop dsL_law_2771 4 = true) ∧ (decode dsL_law_2771 5 = .ok (.iadd, 1) ∧ okop dsL_law_2771 5 = true) ∧ (decode dsL_law_2771 6 = .ok (.iaload, 1) ∧ okop dsL_law_2771 6 = true) ∧ (decode dsL_law_2771 7 = .ok (.aload_n 3, 1) ∧ okop dsL_law_2771 7 = true) ∧ (decode dsL_law_2771 8 = .ok (.invokestatic 409, 3) ∧ okop dsL_law_2771 8 = true) ∧ (decode dsL_law_2771 11 = .ok (.istore 6, 2) ∧ okop dsL_law_2771 11 = true) ∧ (decode dsL_law_2771 13 = .ok (.aload_n 2, 1) ∧ okop dsL_law_2771 13 = true) := by decide +kernel
theorem dL_law_2771 : decode cL_law 2771 = .ok (.iaload, 1) := dgq (p := 0) daL_law_2771 dbL_law_2771.1
theorem dL_law_2772 : decode cL_law 2772 = .ok (.aload_n 0, 1) := dgq (p := 1) daL_law_2771 dbL_law_2771.2.1
theorem dL_law_2773 : decode cL_law 2773 = .ok (.iload 5, 2) := dgq (p := 2) daL_law_2771 dbL_law_2771.2.2.1
theorem dL_law_2775 : decode cL_law 2775 = .ok (.iconst 3, 1) := dgq (p := 4) daL_law_2771 dbL_law_2771.2.2.2.1
theorem dL_law_2776 : decode cL_law 2776 = .ok (.iadd, 1) := dgq (p := 5) daL_law_2771 dbL_law_2771.2.2.2.2.1
theorem dL_law_2777 : decode cL_law 2777 = .ok (.iaload, 1) := dgq (p := 6) daL_law_2771 dbL_law_2771.2.2.2.2.2.1
theorem dL_law_2778 : decode cL_law 2778 = .ok (.aload_n 3, 1) := dgq (p := 7) daL_law_2771 dbL_law_2771.2.2.2.2.2.2.1
theorem dL_law_2779 : decode cL_law 2779 = .ok (.invokestatic 409, 3) := dgq (p := 8) daL_law_2771 dbL_law_2771.2.2.2.2.2.2.2.1
theorem dL_law_2782 : decode cL_law 2782 = .ok (.istore 6, 2) := dgq (p := 11) daL_law_2771 dbL_law_2771.2.2.2.2.2.2.2.2.1
theorem dL_law_2784 : decode cL_law 2784 = .ok (.aload_n 2, 1) := dgq (p := 13) daL_law_2771 dbL_law_2771.2.2.2.2.2.2.2.2.2
def dsL_law_2785 : ByteArray := ⟨#[42, 21, 5, 4, 96, 46, 42, 21, 5, 5, 96, 46]⟩
theorem daL_law_2785 : agB cL_law dsL_law_2785 2785 := agB_of (n := 12) (by decide +kernel)
theorem dbL_law_2785 : (decode dsL_law_2785 0 = .ok (.aload_n 0, 1) ∧ okop dsL_law_2785 0 = true) ∧ (decode dsL_law_2785 1 = .ok (.iload 5, 2) ∧ okop dsL_law_2785 1 = true) ∧ (decode dsL_law_2785 3 = .ok (.iconst 1, 1) ∧ okop dsL_law_2785 3 = true) ∧ (decode dsL_law_2785 4 = .ok (.iadd, 1) ∧ okop dsL_law_2785 4 = true) ∧ (decode dsL_law_2785 5 = .ok (.iaload, 1) ∧ okop dsL_law_2785 5 = true) ∧ (decode dsL_law_2785 6 = .ok (.aload_n 0, 1) ∧ okop dsL_law_2785 6 = true) ∧ (decode dsL_law_2785 7 = .ok (.iload 5, 2) ∧ okop dsL_law_2785 7 = true) ∧ (decode dsL_law_2785 9 = .ok (.iconst 2, 1) ∧ okop dsL_law_2785 9 = true) ∧ (decode dsL_law_2785 10 = .ok (.iadd, 1) ∧ okop dsL_law_2785 10 = true) ∧ (decode dsL_law_2785 11 = .ok (.iaload, 1) ∧ okop dsL_law_2785 11 = true) := by decide +kernel
theorem dL_law_2785 : decode cL_law 2785 = .ok (.aload_n 0, 1) := dgq (p := 0) daL_law_2785 dbL_law_2785.1
theorem dL_law_2786 : decode cL_law 2786 = .ok (.iload 5, 2) := dgq (p := 1) daL_law_2785 dbL_law_2785.2.1
theorem dL_law_2788 : decode cL_law 2788 = .ok (.iconst 1, 1) := dgq (p := 3) daL_law_2785 dbL_law_2785.2.2.1
theorem dL_law_2789 : decode cL_law 2789 = .ok (.iadd, 1) := dgq (p := 4) daL_law_2785 dbL_law_2785.2.2.2.1
theorem dL_law_2790 : decode cL_law 2790 = .ok (.iaload, 1) := dgq (p := 5) daL_law_2785 dbL_law_2785.2.2.2.2.1
theorem dL_law_2791 : decode cL_law 2791 = .ok (.aload_n 0, 1) := dgq (p := 6) daL_law_2785 dbL_law_2785.2.2.2.2.2.1
theorem dL_law_2792 : decode cL_law 2792 = .ok (.iload 5, 2) := dgq (p := 7) daL_law_2785 dbL_law_2785.2.2.2.2.2.2.1
theorem dL_law_2794 : decode cL_law 2794 = .ok (.iconst 2, 1) := dgq (p := 9) daL_law_2785 dbL_law_2785.2.2.2.2.2.2.2.1
theorem dL_law_2795 : decode cL_law 2795 = .ok (.iadd, 1) := dgq (p := 10) daL_law_2785 dbL_law_2785.2.2.2.2.2.2.2.2.1
theorem dL_law_2796 : decode cL_law 2796 = .ok (.iaload, 1) := dgq (p := 11) daL_law_2785 dbL_law_2785.2.2.2.2.2.2.2.2.2
def dsL_law_2797 : ByteArray := ⟨#[42, 21, 5, 6, 96, 46, 182, 1, 155, 54, 7, 167, 0, 115, 43, 42]⟩
theorem daL_law_2797 : agB cL_law dsL_law_2797 2797 := agB_of (n := 16) (by decide +kernel)
theorem dbL_law_2797 : (decode dsL_law_2797 0 = .ok (.aload_n 0, 1) ∧ okop dsL_law_2797 0 = true) ∧ (decode dsL_law_2797 1 = .ok (.iload 5, 2) ∧ okop dsL_law_2797 1 = true) ∧ (decode dsL_law_2797 3 = .ok (.iconst 3, 1) ∧ okop dsL_law_2797 3 = true) ∧ (decode dsL_law_2797 4 = .ok (.iadd, 1) ∧ okop dsL_law_2797 4 = true) ∧ (decode dsL_law_2797 5 = .ok (.iaload, 1) ∧ okop dsL_law_2797 5 = true) ∧ (decode dsL_law_2797 6 = .ok (.invokevirtual 411, 3) ∧ okop dsL_law_2797 6 = true) ∧ (decode dsL_law_2797 9 = .ok (.istore 7, 2) ∧ okop dsL_law_2797 9 = true) ∧ (decode dsL_law_2797 11 = .ok (.goto 115, 3) ∧ okop dsL_law_2797 11 = true) ∧ (decode dsL_law_2797 14 = .ok (.aload_n 1, 1) ∧ okop dsL_law_2797 14 = true) ∧ (decode dsL_law_2797 15 = .ok (.aload_n 0, 1) ∧ okop dsL_law_2797 15 = true) := by decide +kernel
theorem dL_law_2797 : decode cL_law 2797 = .ok (.aload_n 0, 1) := dgq (p := 0) daL_law_2797 dbL_law_2797.1
theorem dL_law_2798 : decode cL_law 2798 = .ok (.iload 5, 2) := dgq (p := 1) daL_law_2797 dbL_law_2797.2.1
theorem dL_law_2800 : decode cL_law 2800 = .ok (.iconst 3, 1) := dgq (p := 3) daL_law_2797 dbL_law_2797.2.2.1
theorem dL_law_2801 : decode cL_law 2801 = .ok (.iadd, 1) := dgq (p := 4) daL_law_2797 dbL_law_2797.2.2.2.1
theorem dL_law_2802 : decode cL_law 2802 = .ok (.iaload, 1) := dgq (p := 5) daL_law_2797 dbL_law_2797.2.2.2.2.1
theorem dL_law_2803 : decode cL_law 2803 = .ok (.invokevirtual 411, 3) := dgq (p := 6) daL_law_2797 dbL_law_2797.2.2.2.2.2.1
theorem dL_law_2806 : decode cL_law 2806 = .ok (.istore 7, 2) := dgq (p := 9) daL_law_2797 dbL_law_2797.2.2.2.2.2.2.1
theorem dL_law_2808 : decode cL_law 2808 = .ok (.goto 115, 3) := dgq (p := 11) daL_law_2797 dbL_law_2797.2.2.2.2.2.2.2.1
theorem dL_law_2811 : decode cL_law 2811 = .ok (.aload_n 1, 1) := dgq (p := 14) daL_law_2797 dbL_law_2797.2.2.2.2.2.2.2.2.1
theorem dL_law_2812 : decode cL_law 2812 = .ok (.aload_n 0, 1) := dgq (p := 15) daL_law_2797 dbL_law_2797.2.2.2.2.2.2.2.2.2
def dsL_law_2813 : ByteArray := ⟨#[21, 5, 4, 96, 46, 42, 21, 5, 5, 96, 46, 42]⟩
theorem daL_law_2813 : agB cL_law dsL_law_2813 2813 := agB_of (n := 12) (by decide +kernel)
theorem dbL_law_2813 : (decode dsL_law_2813 0 = .ok (.iload 5, 2) ∧ okop dsL_law_2813 0 = true) ∧ (decode dsL_law_2813 2 = .ok (.iconst 1, 1) ∧ okop dsL_law_2813 2 = true) ∧ (decode dsL_law_2813 3 = .ok (.iadd, 1) ∧ okop dsL_law_2813 3 = true) ∧ (decode dsL_law_2813 4 = .ok (.iaload, 1) ∧ okop dsL_law_2813 4 = true) ∧ (decode dsL_law_2813 5 = .ok (.aload_n 0, 1) ∧ okop dsL_law_2813 5 = true) ∧ (decode dsL_law_2813 6 = .ok (.iload 5, 2) ∧ okop dsL_law_2813 6 = true) ∧ (decode dsL_law_2813 8 = .ok (.iconst 2, 1) ∧ okop dsL_law_2813 8 = true) ∧ (decode dsL_law_2813 9 = .ok (.iadd, 1) ∧ okop dsL_law_2813 9 = true) ∧ (decode dsL_law_2813 10 = .ok (.iaload, 1) ∧ okop dsL_law_2813 10 = true) ∧ (decode dsL_law_2813 11 = .ok (.aload_n 0, 1) ∧ okop dsL_law_2813 11 = true) := by decide +kernel
theorem dL_law_2813 : decode cL_law 2813 = .ok (.iload 5, 2) := dgq (p := 0) daL_law_2813 dbL_law_2813.1
theorem dL_law_2815 : decode cL_law 2815 = .ok (.iconst 1, 1) := dgq (p := 2) daL_law_2813 dbL_law_2813.2.1
theorem dL_law_2816 : decode cL_law 2816 = .ok (.iadd, 1) := dgq (p := 3) daL_law_2813 dbL_law_2813.2.2.1
theorem dL_law_2817 : decode cL_law 2817 = .ok (.iaload, 1) := dgq (p := 4) daL_law_2813 dbL_law_2813.2.2.2.1
theorem dL_law_2818 : decode cL_law 2818 = .ok (.aload_n 0, 1) := dgq (p := 5) daL_law_2813 dbL_law_2813.2.2.2.2.1
theorem dL_law_2819 : decode cL_law 2819 = .ok (.iload 5, 2) := dgq (p := 6) daL_law_2813 dbL_law_2813.2.2.2.2.2.1
theorem dL_law_2821 : decode cL_law 2821 = .ok (.iconst 2, 1) := dgq (p := 8) daL_law_2813 dbL_law_2813.2.2.2.2.2.2.1
theorem dL_law_2822 : decode cL_law 2822 = .ok (.iadd, 1) := dgq (p := 9) daL_law_2813 dbL_law_2813.2.2.2.2.2.2.2.1
theorem dL_law_2823 : decode cL_law 2823 = .ok (.iaload, 1) := dgq (p := 10) daL_law_2813 dbL_law_2813.2.2.2.2.2.2.2.2.1
theorem dL_law_2824 : decode cL_law 2824 = .ok (.aload_n 0, 1) := dgq (p := 11) daL_law_2813 dbL_law_2813.2.2.2.2.2.2.2.2.2
def dsL_law_2825 : ByteArray := ⟨#[21, 5, 6, 96, 46, 45, 184, 1, 156, 54, 6, 44, 42, 21, 5]⟩
theorem daL_law_2825 : agB cL_law dsL_law_2825 2825 := agB_of (n := 15) (by decide +kernel)
theorem dbL_law_2825 : (decode dsL_law_2825 0 = .ok (.iload 5, 2) ∧ okop dsL_law_2825 0 = true) ∧ (decode dsL_law_2825 2 = .ok (.iconst 3, 1) ∧ okop dsL_law_2825 2 = true) ∧ (decode dsL_law_2825 3 = .ok (.iadd, 1) ∧ okop dsL_law_2825 3 = true) ∧ (decode dsL_law_2825 4 = .ok (.iaload, 1) ∧ okop dsL_law_2825 4 = true) ∧ (decode dsL_law_2825 5 = .ok (.aload_n 3, 1) ∧ okop dsL_law_2825 5 = true) ∧ (decode dsL_law_2825 6 = .ok (.invokestatic 412, 3) ∧ okop dsL_law_2825 6 = true) ∧ (decode dsL_law_2825 9 = .ok (.istore 6, 2) ∧ okop dsL_law_2825 9 = true) ∧ (decode dsL_law_2825 11 = .ok (.aload_n 2, 1) ∧ okop dsL_law_2825 11 = true) ∧ (decode dsL_law_2825 12 = .ok (.aload_n 0, 1) ∧ okop dsL_law_2825 12 = true) ∧ (decode dsL_law_2825 13 = .ok (.iload 5, 2) ∧ okop dsL_law_2825 13 = true) := by decide +kernel
theorem dL_law_2825 : decode cL_law 2825 = .ok (.iload 5, 2) := dgq (p := 0) daL_law_2825 dbL_law_2825.1
theorem dL_law_2827 : decode cL_law 2827 = .ok (.iconst 3, 1) := dgq (p := 2) daL_law_2825 dbL_law_2825.2.1
theorem dL_law_2828 : decode cL_law 2828 = .ok (.iadd, 1) := dgq (p := 3) daL_law_2825 dbL_law_2825.2.2.1
theorem dL_law_2829 : decode cL_law 2829 = .ok (.iaload, 1) := dgq (p := 4) daL_law_2825 dbL_law_2825.2.2.2.1
theorem dL_law_2830 : decode cL_law 2830 = .ok (.aload_n 3, 1) := dgq (p := 5) daL_law_2825 dbL_law_2825.2.2.2.2.1
theorem dL_law_2831 : decode cL_law 2831 = .ok (.invokestatic 412, 3) := dgq (p := 6) daL_law_2825 dbL_law_2825.2.2.2.2.2.1
theorem dL_law_2834 : decode cL_law 2834 = .ok (.istore 6, 2) := dgq (p := 9) daL_law_2825 dbL_law_2825.2.2.2.2.2.2.1
theorem dL_law_2836 : decode cL_law 2836 = .ok (.aload_n 2, 1) := dgq (p := 11) daL_law_2825 dbL_law_2825.2.2.2.2.2.2.2.1
theorem dL_law_2837 : decode cL_law 2837 = .ok (.aload_n 0, 1) := dgq (p := 12) daL_law_2825 dbL_law_2825.2.2.2.2.2.2.2.2.1
theorem dL_law_2838 : decode cL_law 2838 = .ok (.iload 5, 2) := dgq (p := 13) daL_law_2825 dbL_law_2825.2.2.2.2.2.2.2.2.2
def dsL_law_2840 : ByteArray := ⟨#[4, 96, 46, 42, 21, 5, 5, 96, 46, 42, 21, 5]⟩
theorem daL_law_2840 : agB cL_law dsL_law_2840 2840 := agB_of (n := 12) (by decide +kernel)
theorem dbL_law_2840 : (decode dsL_law_2840 0 = .ok (.iconst 1, 1) ∧ okop dsL_law_2840 0 = true) ∧ (decode dsL_law_2840 1 = .ok (.iadd, 1) ∧ okop dsL_law_2840 1 = true) ∧ (decode dsL_law_2840 2 = .ok (.iaload, 1) ∧ okop dsL_law_2840 2 = true) ∧ (decode dsL_law_2840 3 = .ok (.aload_n 0, 1) ∧ okop dsL_law_2840 3 = true) ∧ (decode dsL_law_2840 4 = .ok (.iload 5, 2) ∧ okop dsL_law_2840 4 = true) ∧ (decode dsL_law_2840 6 = .ok (.iconst 2, 1) ∧ okop dsL_law_2840 6 = true) ∧ (decode dsL_law_2840 7 = .ok (.iadd, 1) ∧ okop dsL_law_2840 7 = true) ∧ (decode dsL_law_2840 8 = .ok (.iaload, 1) ∧ okop dsL_law_2840 8 = true) ∧ (decode dsL_law_2840 9 = .ok (.aload_n 0, 1) ∧ okop dsL_law_2840 9 = true) ∧ (decode dsL_law_2840 10 = .ok (.iload 5, 2) ∧ okop dsL_law_2840 10 = true) := by decide +kernel
theorem dL_law_2840 : decode cL_law 2840 = .ok (.iconst 1, 1) := dgq (p := 0) daL_law_2840 dbL_law_2840.1
theorem dL_law_2841 : decode cL_law 2841 = .ok (.iadd, 1) := dgq (p := 1) daL_law_2840 dbL_law_2840.2.1
theorem dL_law_2842 : decode cL_law 2842 = .ok (.iaload, 1) := dgq (p := 2) daL_law_2840 dbL_law_2840.2.2.1
theorem dL_law_2843 : decode cL_law 2843 = .ok (.aload_n 0, 1) := dgq (p := 3) daL_law_2840 dbL_law_2840.2.2.2.1
theorem dL_law_2844 : decode cL_law 2844 = .ok (.iload 5, 2) := dgq (p := 4) daL_law_2840 dbL_law_2840.2.2.2.2.1
theorem dL_law_2846 : decode cL_law 2846 = .ok (.iconst 2, 1) := dgq (p := 6) daL_law_2840 dbL_law_2840.2.2.2.2.2.1
theorem dL_law_2847 : decode cL_law 2847 = .ok (.iadd, 1) := dgq (p := 7) daL_law_2840 dbL_law_2840.2.2.2.2.2.2.1
theorem dL_law_2848 : decode cL_law 2848 = .ok (.iaload, 1) := dgq (p := 8) daL_law_2840 dbL_law_2840.2.2.2.2.2.2.2.1
theorem dL_law_2849 : decode cL_law 2849 = .ok (.aload_n 0, 1) := dgq (p := 9) daL_law_2840 dbL_law_2840.2.2.2.2.2.2.2.2.1
theorem dL_law_2850 : decode cL_law 2850 = .ok (.iload 5, 2) := dgq (p := 10) daL_law_2840 dbL_law_2840.2.2.2.2.2.2.2.2.2
def dsL_law_2852 : ByteArray := ⟨#[6, 96, 46, 182, 1, 158, 54, 7, 167, 0, 63, 43, 182, 1, 159, 88, 44]⟩
theorem daL_law_2852 : agB cL_law dsL_law_2852 2852 := agB_of (n := 17) (by decide +kernel)
theorem dbL_law_2852 : (decode dsL_law_2852 0 = .ok (.iconst 3, 1) ∧ okop dsL_law_2852 0 = true) ∧ (decode dsL_law_2852 1 = .ok (.iadd, 1) ∧ okop dsL_law_2852 1 = true) ∧ (decode dsL_law_2852 2 = .ok (.iaload, 1) ∧ okop dsL_law_2852 2 = true) ∧ (decode dsL_law_2852 3 = .ok (.invokevirtual 414, 3) ∧ okop dsL_law_2852 3 = true) ∧ (decode dsL_law_2852 6 = .ok (.istore 7, 2) ∧ okop dsL_law_2852 6 = true) ∧ (decode dsL_law_2852 8 = .ok (.goto 63, 3) ∧ okop dsL_law_2852 8 = true) ∧ (decode dsL_law_2852 11 = .ok (.aload_n 1, 1) ∧ okop dsL_law_2852 11 = true) ∧ (decode dsL_law_2852 12 = .ok (.invokevirtual 415, 3) ∧ okop dsL_law_2852 12 = true) ∧ (decode dsL_law_2852 15 = .ok (.pop2, 1) ∧ okop dsL_law_2852 15 = true) ∧ (decode dsL_law_2852 16 = .ok (.aload_n 2, 1) ∧ okop dsL_law_2852 16 = true) := by decide +kernel
theorem dL_law_2852 : decode cL_law 2852 = .ok (.iconst 3, 1) := dgq (p := 0) daL_law_2852 dbL_law_2852.1
theorem dL_law_2853 : decode cL_law 2853 = .ok (.iadd, 1) := dgq (p := 1) daL_law_2852 dbL_law_2852.2.1
theorem dL_law_2854 : decode cL_law 2854 = .ok (.iaload, 1) := dgq (p := 2) daL_law_2852 dbL_law_2852.2.2.1
theorem dL_law_2855 : decode cL_law 2855 = .ok (.invokevirtual 414, 3) := dgq (p := 3) daL_law_2852 dbL_law_2852.2.2.2.1
theorem dL_law_2858 : decode cL_law 2858 = .ok (.istore 7, 2) := dgq (p := 6) daL_law_2852 dbL_law_2852.2.2.2.2.1
theorem dL_law_2860 : decode cL_law 2860 = .ok (.goto 63, 3) := dgq (p := 8) daL_law_2852 dbL_law_2852.2.2.2.2.2.1
theorem dL_law_2863 : decode cL_law 2863 = .ok (.aload_n 1, 1) := dgq (p := 11) daL_law_2852 dbL_law_2852.2.2.2.2.2.2.1
theorem dL_law_2864 : decode cL_law 2864 = .ok (.invokevirtual 415, 3) := dgq (p := 12) daL_law_2852 dbL_law_2852.2.2.2.2.2.2.2.1
theorem dL_law_2867 : decode cL_law 2867 = .ok (.pop2, 1) := dgq (p := 15) daL_law_2852 dbL_law_2852.2.2.2.2.2.2.2.2.1
theorem dL_law_2868 : decode cL_law 2868 = .ok (.aload_n 2, 1) := dgq (p := 16) daL_law_2852 dbL_law_2852.2.2.2.2.2.2.2.2.2
def dsL_law_2869 : ByteArray := ⟨#[182, 1, 163, 88, 167, 0, 50, 43, 25, 4, 184, 1, 164, 54, 6, 44, 182, 1, 167, 56, 7]⟩
theorem daL_law_2869 : agB cL_law dsL_law_2869 2869 := agB_of (n := 21) (by decide +kernel)
theorem dbL_law_2869 : (decode dsL_law_2869 0 = .ok (.invokevirtual 419, 3) ∧ okop dsL_law_2869 0 = true) ∧ (decode dsL_law_2869 3 = .ok (.pop2, 1) ∧ okop dsL_law_2869 3 = true) ∧ (decode dsL_law_2869 4 = .ok (.goto 50, 3) ∧ okop dsL_law_2869 4 = true) ∧ (decode dsL_law_2869 7 = .ok (.aload_n 1, 1) ∧ okop dsL_law_2869 7 = true) ∧ (decode dsL_law_2869 8 = .ok (.aload 4, 2) ∧ okop dsL_law_2869 8 = true) ∧ (decode dsL_law_2869 10 = .ok (.invokestatic 420, 3) ∧ okop dsL_law_2869 10 = true) ∧ (decode dsL_law_2869 13 = .ok (.istore 6, 2) ∧ okop dsL_law_2869 13 = true) ∧ (decode dsL_law_2869 15 = .ok (.aload_n 2, 1) ∧ okop dsL_law_2869 15 = true) ∧ (decode dsL_law_2869 16 = .ok (.invokevirtual 423, 3) ∧ okop dsL_law_2869 16 = true) ∧ (decode dsL_law_2869 19 = .ok (.fstore 7, 2) ∧ okop dsL_law_2869 19 = true) := by decide +kernel
theorem dL_law_2869 : decode cL_law 2869 = .ok (.invokevirtual 419, 3) := dgq (p := 0) daL_law_2869 dbL_law_2869.1
theorem dL_law_2872 : decode cL_law 2872 = .ok (.pop2, 1) := dgq (p := 3) daL_law_2869 dbL_law_2869.2.1
theorem dL_law_2873 : decode cL_law 2873 = .ok (.goto 50, 3) := dgq (p := 4) daL_law_2869 dbL_law_2869.2.2.1
theorem dL_law_2876 : decode cL_law 2876 = .ok (.aload_n 1, 1) := dgq (p := 7) daL_law_2869 dbL_law_2869.2.2.2.1
theorem dL_law_2877 : decode cL_law 2877 = .ok (.aload 4, 2) := dgq (p := 8) daL_law_2869 dbL_law_2869.2.2.2.2.1
theorem dL_law_2879 : decode cL_law 2879 = .ok (.invokestatic 420, 3) := dgq (p := 10) daL_law_2869 dbL_law_2869.2.2.2.2.2.1
theorem dL_law_2882 : decode cL_law 2882 = .ok (.istore 6, 2) := dgq (p := 13) daL_law_2869 dbL_law_2869.2.2.2.2.2.2.1
theorem dL_law_2884 : decode cL_law 2884 = .ok (.aload_n 2, 1) := dgq (p := 15) daL_law_2869 dbL_law_2869.2.2.2.2.2.2.2.1
theorem dL_law_2885 : decode cL_law 2885 = .ok (.invokevirtual 423, 3) := dgq (p := 16) daL_law_2869 dbL_law_2869.2.2.2.2.2.2.2.2.1
theorem dL_law_2888 : decode cL_law 2888 = .ok (.fstore 7, 2) := dgq (p := 19) daL_law_2869 dbL_law_2869.2.2.2.2.2.2.2.2.2
def dsL_law_2890 : ByteArray := ⟨#[167, 0, 33, 43, 25, 4, 184, 1, 168, 54, 6, 44, 182, 1, 170, 57, 7, 167, 0, 16, 43]⟩
theorem daL_law_2890 : agB cL_law dsL_law_2890 2890 := agB_of (n := 21) (by decide +kernel)
theorem dbL_law_2890 : (decode dsL_law_2890 0 = .ok (.goto 33, 3) ∧ okop dsL_law_2890 0 = true) ∧ (decode dsL_law_2890 3 = .ok (.aload_n 1, 1) ∧ okop dsL_law_2890 3 = true) ∧ (decode dsL_law_2890 4 = .ok (.aload 4, 2) ∧ okop dsL_law_2890 4 = true) ∧ (decode dsL_law_2890 6 = .ok (.invokestatic 424, 3) ∧ okop dsL_law_2890 6 = true) ∧ (decode dsL_law_2890 9 = .ok (.istore 6, 2) ∧ okop dsL_law_2890 9 = true) ∧ (decode dsL_law_2890 11 = .ok (.aload_n 2, 1) ∧ okop dsL_law_2890 11 = true) ∧ (decode dsL_law_2890 12 = .ok (.invokevirtual 426, 3) ∧ okop dsL_law_2890 12 = true) ∧ (decode dsL_law_2890 15 = .ok (.dstore 7, 2) ∧ okop dsL_law_2890 15 = true) ∧ (decode dsL_law_2890 17 = .ok (.goto 16, 3) ∧ okop dsL_law_2890 17 = true) ∧ (decode dsL_law_2890 20 = .ok (.aload_n 1, 1) ∧ okop dsL_law_2890 20 = true) := by decide +kernel
theorem dL_law_2890 : decode cL_law 2890 = .ok (.goto 33, 3) := dgq (p := 0) daL_law_2890 dbL_law_2890.1
theorem dL_law_2893 : decode cL_law 2893 = .ok (.aload_n 1, 1) := dgq (p := 3) daL_law_2890 dbL_law_2890.2.1
theorem dL_law_2894 : decode cL_law 2894 = .ok (.aload 4, 2) := dgq (p := 4) daL_law_2890 dbL_law_2890.2.2.1
theorem dL_law_2896 : decode cL_law 2896 = .ok (.invokestatic 424, 3) := dgq (p := 6) daL_law_2890 dbL_law_2890.2.2.2.1
theorem dL_law_2899 : decode cL_law 2899 = .ok (.istore 6, 2) := dgq (p := 9) daL_law_2890 dbL_law_2890.2.2.2.2.1
theorem dL_law_2901 : decode cL_law 2901 = .ok (.aload_n 2, 1) := dgq (p := 11) daL_law_2890 dbL_law_2890.2.2.2.2.2.1
theorem dL_law_2902 : decode cL_law 2902 = .ok (.invokevirtual 426, 3) := dgq (p := 12) daL_law_2890 dbL_law_2890.2.2.2.2.2.2.1
theorem dL_law_2905 : decode cL_law 2905 = .ok (.dstore 7, 2) := dgq (p := 15) daL_law_2890 dbL_law_2890.2.2.2.2.2.2.2.1
theorem dL_law_2907 : decode cL_law 2907 = .ok (.goto 16, 3) := dgq (p := 17) daL_law_2890 dbL_law_2890.2.2.2.2.2.2.2.2.1
theorem dL_law_2910 : decode cL_law 2910 = .ok (.aload_n 1, 1) := dgq (p := 20) daL_law_2890 dbL_law_2890.2.2.2.2.2.2.2.2.2
def dsL_law_2911 : ByteArray := ⟨#[182, 1, 171, 87, 44, 182, 1, 175, 87, 167, 0, 3, 132, 5, 5, 167, 244, 174, 4, 172]⟩
theorem daL_law_2911 : agB cL_law dsL_law_2911 2911 := agB_of (n := 20) (by decide +kernel)
theorem dbL_law_2911 : (decode dsL_law_2911 0 = .ok (.invokevirtual 427, 3) ∧ okop dsL_law_2911 0 = true) ∧ (decode dsL_law_2911 3 = .ok (.pop, 1) ∧ okop dsL_law_2911 3 = true) ∧ (decode dsL_law_2911 4 = .ok (.aload_n 2, 1) ∧ okop dsL_law_2911 4 = true) ∧ (decode dsL_law_2911 5 = .ok (.invokevirtual 431, 3) ∧ okop dsL_law_2911 5 = true) ∧ (decode dsL_law_2911 8 = .ok (.pop, 1) ∧ okop dsL_law_2911 8 = true) ∧ (decode dsL_law_2911 9 = .ok (.goto 3, 3) ∧ okop dsL_law_2911 9 = true) ∧ (decode dsL_law_2911 12 = .ok (.iinc 5 5, 3) ∧ okop dsL_law_2911 12 = true) ∧ (decode dsL_law_2911 15 = .ok (.goto (-2898), 3) ∧ okop dsL_law_2911 15 = true) ∧ (decode dsL_law_2911 18 = .ok (.iconst 1, 1) ∧ okop dsL_law_2911 18 = true) ∧ (decode dsL_law_2911 19 = .ok (.ireturn, 1) ∧ okop dsL_law_2911 19 = true) := by decide +kernel
theorem dL_law_2911 : decode cL_law 2911 = .ok (.invokevirtual 427, 3) := dgq (p := 0) daL_law_2911 dbL_law_2911.1
theorem dL_law_2914 : decode cL_law 2914 = .ok (.pop, 1) := dgq (p := 3) daL_law_2911 dbL_law_2911.2.1
theorem dL_law_2915 : decode cL_law 2915 = .ok (.aload_n 2, 1) := dgq (p := 4) daL_law_2911 dbL_law_2911.2.2.1
theorem dL_law_2916 : decode cL_law 2916 = .ok (.invokevirtual 431, 3) := dgq (p := 5) daL_law_2911 dbL_law_2911.2.2.2.1
theorem dL_law_2919 : decode cL_law 2919 = .ok (.pop, 1) := dgq (p := 8) daL_law_2911 dbL_law_2911.2.2.2.2.1
theorem dL_law_2920 : decode cL_law 2920 = .ok (.goto 3, 3) := dgq (p := 9) daL_law_2911 dbL_law_2911.2.2.2.2.2.1
theorem dL_law_2923 : decode cL_law 2923 = .ok (.iinc 5 5, 3) := dgq (p := 12) daL_law_2911 dbL_law_2911.2.2.2.2.2.2.1
theorem dL_law_2926 : decode cL_law 2926 = .ok (.goto (-2898), 3) := dgq (p := 15) daL_law_2911 dbL_law_2911.2.2.2.2.2.2.2.1
theorem dL_law_2929 : decode cL_law 2929 = .ok (.iconst 1, 1) := dgq (p := 18) daL_law_2911 dbL_law_2911.2.2.2.2.2.2.2.2.1
theorem dL_law_2930 : decode cL_law 2930 = .ok (.ireturn, 1) := dgq (p := 19) daL_law_2911 dbL_law_2911.2.2.2.2.2.2.2.2.2

