def dsL_law_1935 : ByteArray := ⟨#[54, 6, 44, 42, 21, 5, 4, 96, 46, 182, 1, 86, 54, 7, 167, 3, 207]⟩
theorem daL_law_1935 : agB cL_law dsL_law_1935 1935 := agB_of (n := 17) (by decide +kernel)
theorem dbL_law_1935 : (decode dsL_law_1935 0 = .ok (.istore 6, 2) ∧ okop dsL_law_1935 0 = true) ∧ (decode dsL_law_1935 2 = .ok (.aload_n 2, 1) ∧ okop dsL_law_1935 2 = true) ∧ (decode dsL_law_1935 3 = .ok (.aload_n 0, 1) ∧ okop dsL_law_1935 3 = true) ∧ (decode dsL_law_1935 4 = .ok (.iload 5, 2) ∧ okop dsL_law_1935 4 = true) ∧ (decode dsL_law_1935 6 = .ok (.iconst 1, 1) ∧ okop dsL_law_1935 6 = true) ∧ (decode dsL_law_1935 7 = .ok (.iadd, 1) ∧ okop dsL_law_1935 7 = true) ∧ (decode dsL_law_1935 8 = .ok (.iaload, 1) ∧ okop dsL_law_1935 8 = true) ∧ (decode dsL_law_1935 9 = .ok (.invokevirtual 342, 3) ∧ okop dsL_law_1935 9 = true) ∧ (decode dsL_law_1935 12 = .ok (.istore 7, 2) ∧ okop dsL_law_1935 12 = true) ∧ (decode dsL_law_1935 14 = .ok (.goto 975, 3) ∧ okop dsL_law_1935 14 = true) := by decide +kernel
theorem dL_law_1935 : decode cL_law 1935 = .ok (.istore 6, 2) := dgq (p := 0) daL_law_1935 dbL_law_1935.1
theorem dL_law_1937 : decode cL_law 1937 = .ok (.aload_n 2, 1) := dgq (p := 2) daL_law_1935 dbL_law_1935.2.1
theorem dL_law_1938 : decode cL_law 1938 = .ok (.aload_n 0, 1) := dgq (p := 3) daL_law_1935 dbL_law_1935.2.2.1
theorem dL_law_1939 : decode cL_law 1939 = .ok (.iload 5, 2) := dgq (p := 4) daL_law_1935 dbL_law_1935.2.2.2.1
theorem dL_law_1941 : decode cL_law 1941 = .ok (.iconst 1, 1) := dgq (p := 6) daL_law_1935 dbL_law_1935.2.2.2.2.1
theorem dL_law_1942 : decode cL_law 1942 = .ok (.iadd, 1) := dgq (p := 7) daL_law_1935 dbL_law_1935.2.2.2.2.2.1
theorem dL_law_1943 : decode cL_law 1943 = .ok (.iaload, 1) := dgq (p := 8) daL_law_1935 dbL_law_1935.2.2.2.2.2.2.1
theorem dL_law_1944 : decode cL_law 1944 = .ok (.invokevirtual 342, 3) := dgq (p := 9) daL_law_1935 dbL_law_1935.2.2.2.2.2.2.2.1
theorem dL_law_1947 : decode cL_law 1947 = .ok (.istore 7, 2) := dgq (p := 12) daL_law_1935 dbL_law_1935.2.2.2.2.2.2.2.2.1
theorem dL_law_1949 : decode cL_law 1949 = .ok (.goto 975, 3) := dgq (p := 14) daL_law_1935 dbL_law_1935.2.2.2.2.2.2.2.2.2
def dsL_law_1952 : ByteArray := ⟨#[43, 42, 21, 5, 4, 96, 46, 42, 21, 5, 5, 96]⟩
theorem daL_law_1952 : agB cL_law dsL_law_1952 1952 := agB_of (n := 12) (by decide +kernel)
theorem dbL_law_1952 : (decode dsL_law_1952 0 = .ok (.aload_n 1, 1) ∧ okop dsL_law_1952 0 = true) ∧ (decode dsL_law_1952 1 = .ok (.aload_n 0, 1) ∧ okop dsL_law_1952 1 = true) ∧ (decode dsL_law_1952 2 = .ok (.iload 5, 2) ∧ okop dsL_law_1952 2 = true) ∧ (decode dsL_law_1952 4 = .ok (.iconst 1, 1) ∧ okop dsL_law_1952 4 = true) ∧ (decode dsL_law_1952 5 = .ok (.iadd, 1) ∧ okop dsL_law_1952 5 = true) ∧ (decode dsL_law_1952 6 = .ok (.iaload, 1) ∧ okop dsL_law_1952 6 = true) ∧ (decode dsL_law_1952 7 = .ok (.aload_n 0, 1) ∧ okop dsL_law_1952 7 = true) ∧ (decode dsL_law_1952 8 = .ok (.iload 5, 2) ∧ okop dsL_law_1952 8 = true) ∧ (decode dsL_law_1952 10 = .ok (.iconst 2, 1) ∧ okop dsL_law_1952 10 = true) ∧ (decode dsL_law_1952 11 = .ok (.iadd, 1) ∧ okop dsL_law_1952 11 = true) := by decide +kernel
theorem dL_law_1952 : decode cL_law 1952 = .ok (.aload_n 1, 1) := dgq (p := 0) daL_law_1952 dbL_law_1952.1
theorem dL_law_1953 : decode cL_law 1953 = .ok (.aload_n 0, 1) := dgq (p := 1) daL_law_1952 dbL_law_1952.2.1
theorem dL_law_1954 : decode cL_law 1954 = .ok (.iload 5, 2) := dgq (p := 2) daL_law_1952 dbL_law_1952.2.2.1
theorem dL_law_1956 : decode cL_law 1956 = .ok (.iconst 1, 1) := dgq (p := 4) daL_law_1952 dbL_law_1952.2.2.2.1
theorem dL_law_1957 : decode cL_law 1957 = .ok (.iadd, 1) := dgq (p := 5) daL_law_1952 dbL_law_1952.2.2.2.2.1
theorem dL_law_1958 : decode cL_law 1958 = .ok (.iaload, 1) := dgq (p := 6) daL_law_1952 dbL_law_1952.2.2.2.2.2.1
theorem dL_law_1959 : decode cL_law 1959 = .ok (.aload_n 0, 1) := dgq (p := 7) daL_law_1952 dbL_law_1952.2.2.2.2.2.2.1
theorem dL_law_1960 : decode cL_law 1960 = .ok (.iload 5, 2) := dgq (p := 8) daL_law_1952 dbL_law_1952.2.2.2.2.2.2.2.1
theorem dL_law_1962 : decode cL_law 1962 = .ok (.iconst 2, 1) := dgq (p := 10) daL_law_1952 dbL_law_1952.2.2.2.2.2.2.2.2.1
theorem dL_law_1963 : decode cL_law 1963 = .ok (.iadd, 1) := dgq (p := 11) daL_law_1952 dbL_law_1952.2.2.2.2.2.2.2.2.2
def dsL_law_1964 : ByteArray := ⟨#[46, 42, 21, 5, 6, 96, 46, 45, 184, 1, 87, 54, 6, 44]⟩
theorem daL_law_1964 : agB cL_law dsL_law_1964 1964 := agB_of (n := 14) (by decide +kernel)
theorem dbL_law_1964 : (decode dsL_law_1964 0 = .ok (.iaload, 1) ∧ okop dsL_law_1964 0 = true) ∧ (decode dsL_law_1964 1 = .ok (.aload_n 0, 1) ∧ okop dsL_law_1964 1 = true) ∧ (decode dsL_law_1964 2 = .ok (.iload 5, 2) ∧ okop dsL_law_1964 2 = true) ∧ (decode dsL_law_1964 4 = .ok (.iconst 3, 1) ∧ okop dsL_law_1964 4 = true) ∧ (decode dsL_law_1964 5 = .ok (.iadd, 1) ∧ okop dsL_law_1964 5 = true) ∧ (decode dsL_law_1964 6 = .ok (.iaload, 1) ∧ okop dsL_law_1964 6 = true) ∧ (decode dsL_law_1964 7 = .ok (.aload_n 3, 1) ∧ okop dsL_law_1964 7 = true) ∧ (decode dsL_law_1964 8 = .ok (.invokestatic 343, 3) ∧ okop dsL_law_1964 8 = true) ∧ (decode dsL_law_1964 11 = .ok (.istore 6, 2) ∧ okop dsL_law_1964 11 = true) ∧ (decode dsL_law_1964 13 = .ok (.aload_n 2, 1) ∧ okop dsL_law_1964 13 = true) := by decide +kernel
theorem dL_law_1964 : decode cL_law 1964 = .ok (.iaload, 1) := dgq (p := 0) daL_law_1964 dbL_law_1964.1
theorem dL_law_1965 : decode cL_law 1965 = .ok (.aload_n 0, 1) := dgq (p := 1) daL_law_1964 dbL_law_1964.2.1
theorem dL_law_1966 : decode cL_law 1966 = .ok (.iload 5, 2) := dgq (p := 2) daL_law_1964 dbL_law_1964.2.2.1
theorem dL_law_1968 : decode cL_law 1968 = .ok (.iconst 3, 1) := dgq (p := 4) daL_law_1964 dbL_law_1964.2.2.2.1
theorem dL_law_1969 : decode cL_law 1969 = .ok (.iadd, 1) := dgq (p := 5) daL_law_1964 dbL_law_1964.2.2.2.2.1
theorem dL_law_1970 : decode cL_law 1970 = .ok (.iaload, 1) := dgq (p := 6) daL_law_1964 dbL_law_1964.2.2.2.2.2.1
theorem dL_law_1971 : decode cL_law 1971 = .ok (.aload_n 3, 1) := dgq (p := 7) daL_law_1964 dbL_law_1964.2.2.2.2.2.2.1
theorem dL_law_1972 : decode cL_law 1972 = .ok (.invokestatic 343, 3) := dgq (p := 8) daL_law_1964 dbL_law_1964.2.2.2.2.2.2.2.1
theorem dL_law_1975 : decode cL_law 1975 = .ok (.istore 6, 2) := dgq (p := 11) daL_law_1964 dbL_law_1964.2.2.2.2.2.2.2.2.1
theorem dL_law_1977 : decode cL_law 1977 = .ok (.aload_n 2, 1) := dgq (p := 13) daL_law_1964 dbL_law_1964.2.2.2.2.2.2.2.2.2
def dsL_law_1978 : ByteArray := ⟨#[42, 21, 5, 4, 96, 46, 42, 21, 5, 5, 96, 46]⟩
theorem daL_law_1978 : agB cL_law dsL_law_1978 1978 := agB_of (n := 12) (by decide +kernel)
theorem dbL_law_1978 : (decode dsL_law_1978 0 = .ok (.aload_n 0, 1) ∧ okop dsL_law_1978 0 = true) ∧ (decode dsL_law_1978 1 = .ok (.iload 5, 2) ∧ okop dsL_law_1978 1 = true) ∧ (decode dsL_law_1978 3 = .ok (.iconst 1, 1) ∧ okop dsL_law_1978 3 = true) ∧ (decode dsL_law_1978 4 = .ok (.iadd, 1) ∧ okop dsL_law_1978 4 = true) ∧ (decode dsL_law_1978 5 = .ok (.iaload, 1) ∧ okop dsL_law_1978 5 = true) ∧ (decode dsL_law_1978 6 = .ok (.aload_n 0, 1) ∧ okop dsL_law_1978 6 = true) ∧ (decode dsL_law_1978 7 = .ok (.iload 5, 2) ∧ okop dsL_law_1978 7 = true) ∧ (decode dsL_law_1978 9 = .ok (.iconst 2, 1) ∧ okop dsL_law_1978 9 = true) ∧ (decode dsL_law_1978 10 = .ok (.iadd, 1) ∧ okop dsL_law_1978 10 = true) ∧ (decode dsL_law_1978 11 = .ok (.iaload, 1) ∧ okop dsL_law_1978 11 = true) := by decide +kernel
theorem dL_law_1978 : decode cL_law 1978 = .ok (.aload_n 0, 1) := dgq (p := 0) daL_law_1978 dbL_law_1978.1
theorem dL_law_1979 : decode cL_law 1979 = .ok (.iload 5, 2) := dgq (p := 1) daL_law_1978 dbL_law_1978.2.1
theorem dL_law_1981 : decode cL_law 1981 = .ok (.iconst 1, 1) := dgq (p := 3) daL_law_1978 dbL_law_1978.2.2.1
theorem dL_law_1982 : decode cL_law 1982 = .ok (.iadd, 1) := dgq (p := 4) daL_law_1978 dbL_law_1978.2.2.2.1
theorem dL_law_1983 : decode cL_law 1983 = .ok (.iaload, 1) := dgq (p := 5) daL_law_1978 dbL_law_1978.2.2.2.2.1
theorem dL_law_1984 : decode cL_law 1984 = .ok (.aload_n 0, 1) := dgq (p := 6) daL_law_1978 dbL_law_1978.2.2.2.2.2.1
theorem dL_law_1985 : decode cL_law 1985 = .ok (.iload 5, 2) := dgq (p := 7) daL_law_1978 dbL_law_1978.2.2.2.2.2.2.1
theorem dL_law_1987 : decode cL_law 1987 = .ok (.iconst 2, 1) := dgq (p := 9) daL_law_1978 dbL_law_1978.2.2.2.2.2.2.2.1
theorem dL_law_1988 : decode cL_law 1988 = .ok (.iadd, 1) := dgq (p := 10) daL_law_1978 dbL_law_1978.2.2.2.2.2.2.2.2.1
theorem dL_law_1989 : decode cL_law 1989 = .ok (.iaload, 1) := dgq (p := 11) daL_law_1978 dbL_law_1978.2.2.2.2.2.2.2.2.2
def dsL_law_1990 : ByteArray := ⟨#[42, 21, 5, 6, 96, 46, 182, 1, 89, 54, 7, 167, 3, 155, 43, 42]⟩
theorem daL_law_1990 : agB cL_law dsL_law_1990 1990 := agB_of (n := 16) (by decide +kernel)
theorem dbL_law_1990 : (decode dsL_law_1990 0 = .ok (.aload_n 0, 1) ∧ okop dsL_law_1990 0 = true) ∧ (decode dsL_law_1990 1 = .ok (.iload 5, 2) ∧ okop dsL_law_1990 1 = true) ∧ (decode dsL_law_1990 3 = .ok (.iconst 3, 1) ∧ okop dsL_law_1990 3 = true) ∧ (decode dsL_law_1990 4 = .ok (.iadd, 1) ∧ okop dsL_law_1990 4 = true) ∧ (decode dsL_law_1990 5 = .ok (.iaload, 1) ∧ okop dsL_law_1990 5 = true) ∧ (decode dsL_law_1990 6 = .ok (.invokevirtual 345, 3) ∧ okop dsL_law_1990 6 = true) ∧ (decode dsL_law_1990 9 = .ok (.istore 7, 2) ∧ okop dsL_law_1990 9 = true) ∧ (decode dsL_law_1990 11 = .ok (.goto 923, 3) ∧ okop dsL_law_1990 11 = true) ∧ (decode dsL_law_1990 14 = .ok (.aload_n 1, 1) ∧ okop dsL_law_1990 14 = true) ∧ (decode dsL_law_1990 15 = .ok (.aload_n 0, 1) ∧ okop dsL_law_1990 15 = true) := by decide +kernel
theorem dL_law_1990 : decode cL_law 1990 = .ok (.aload_n 0, 1) := dgq (p := 0) daL_law_1990 dbL_law_1990.1
theorem dL_law_1991 : decode cL_law 1991 = .ok (.iload 5, 2) := dgq (p := 1) daL_law_1990 dbL_law_1990.2.1
theorem dL_law_1993 : decode cL_law 1993 = .ok (.iconst 3, 1) := dgq (p := 3) daL_law_1990 dbL_law_1990.2.2.1
theorem dL_law_1994 : decode cL_law 1994 = .ok (.iadd, 1) := dgq (p := 4) daL_law_1990 dbL_law_1990.2.2.2.1
theorem dL_law_1995 : decode cL_law 1995 = .ok (.iaload, 1) := dgq (p := 5) daL_law_1990 dbL_law_1990.2.2.2.2.1
theorem dL_law_1996 : decode cL_law 1996 = .ok (.invokevirtual 345, 3) := dgq (p := 6) daL_law_1990 dbL_law_1990.2.2.2.2.2.1
theorem dL_law_1999 : decode cL_law 1999 = .ok (.istore 7, 2) := dgq (p := 9) daL_law_1990 dbL_law_1990.2.2.2.2.2.2.1
theorem dL_law_2001 : decode cL_law 2001 = .ok (.goto 923, 3) := dgq (p := 11) daL_law_1990 dbL_law_1990.2.2.2.2.2.2.2.1
theorem dL_law_2004 : decode cL_law 2004 = .ok (.aload_n 1, 1) := dgq (p := 14) daL_law_1990 dbL_law_1990.2.2.2.2.2.2.2.2.1
theorem dL_law_2005 : decode cL_law 2005 = .ok (.aload_n 0, 1) := dgq (p := 15) daL_law_1990 dbL_law_1990.2.2.2.2.2.2.2.2.2
def dsL_law_2006 : ByteArray := ⟨#[21, 5, 4, 96, 46, 45, 184, 1, 90, 54, 6, 44, 42, 21, 5]⟩
theorem daL_law_2006 : agB cL_law dsL_law_2006 2006 := agB_of (n := 15) (by decide +kernel)
theorem dbL_law_2006 : (decode dsL_law_2006 0 = .ok (.iload 5, 2) ∧ okop dsL_law_2006 0 = true) ∧ (decode dsL_law_2006 2 = .ok (.iconst 1, 1) ∧ okop dsL_law_2006 2 = true) ∧ (decode dsL_law_2006 3 = .ok (.iadd, 1) ∧ okop dsL_law_2006 3 = true) ∧ (decode dsL_law_2006 4 = .ok (.iaload, 1) ∧ okop dsL_law_2006 4 = true) ∧ (decode dsL_law_2006 5 = .ok (.aload_n 3, 1) ∧ okop dsL_law_2006 5 = true) ∧ (decode dsL_law_2006 6 = .ok (.invokestatic 346, 3) ∧ okop dsL_law_2006 6 = true) ∧ (decode dsL_law_2006 9 = .ok (.istore 6, 2) ∧ okop dsL_law_2006 9 = true) ∧ (decode dsL_law_2006 11 = .ok (.aload_n 2, 1) ∧ okop dsL_law_2006 11 = true) ∧ (decode dsL_law_2006 12 = .ok (.aload_n 0, 1) ∧ okop dsL_law_2006 12 = true) ∧ (decode dsL_law_2006 13 = .ok (.iload 5, 2) ∧ okop dsL_law_2006 13 = true) := by decide +kernel
theorem dL_law_2006 : decode cL_law 2006 = .ok (.iload 5, 2) := dgq (p := 0) daL_law_2006 dbL_law_2006.1
theorem dL_law_2008 : decode cL_law 2008 = .ok (.iconst 1, 1) := dgq (p := 2) daL_law_2006 dbL_law_2006.2.1
theorem dL_law_2009 : decode cL_law 2009 = .ok (.iadd, 1) := dgq (p := 3) daL_law_2006 dbL_law_2006.2.2.1
theorem dL_law_2010 : decode cL_law 2010 = .ok (.iaload, 1) := dgq (p := 4) daL_law_2006 dbL_law_2006.2.2.2.1
theorem dL_law_2011 : decode cL_law 2011 = .ok (.aload_n 3, 1) := dgq (p := 5) daL_law_2006 dbL_law_2006.2.2.2.2.1
theorem dL_law_2012 : decode cL_law 2012 = .ok (.invokestatic 346, 3) := dgq (p := 6) daL_law_2006 dbL_law_2006.2.2.2.2.2.1
theorem dL_law_2015 : decode cL_law 2015 = .ok (.istore 6, 2) := dgq (p := 9) daL_law_2006 dbL_law_2006.2.2.2.2.2.2.1
theorem dL_law_2017 : decode cL_law 2017 = .ok (.aload_n 2, 1) := dgq (p := 11) daL_law_2006 dbL_law_2006.2.2.2.2.2.2.2.1
theorem dL_law_2018 : decode cL_law 2018 = .ok (.aload_n 0, 1) := dgq (p := 12) daL_law_2006 dbL_law_2006.2.2.2.2.2.2.2.2.1
theorem dL_law_2019 : decode cL_law 2019 = .ok (.iload 5, 2) := dgq (p := 13) daL_law_2006 dbL_law_2006.2.2.2.2.2.2.2.2.2
def dsL_law_2021 : ByteArray := ⟨#[4, 96, 46, 182, 1, 92, 54, 7, 167, 3, 127, 43, 42, 21, 5, 4]⟩
theorem daL_law_2021 : agB cL_law dsL_law_2021 2021 := agB_of (n := 16) (by decide +kernel)
theorem dbL_law_2021 : (decode dsL_law_2021 0 = .ok (.iconst 1, 1) ∧ okop dsL_law_2021 0 = true) ∧ (decode dsL_law_2021 1 = .ok (.iadd, 1) ∧ okop dsL_law_2021 1 = true) ∧ (decode dsL_law_2021 2 = .ok (.iaload, 1) ∧ okop dsL_law_2021 2 = true) ∧ (decode dsL_law_2021 3 = .ok (.invokevirtual 348, 3) ∧ okop dsL_law_2021 3 = true) ∧ (decode dsL_law_2021 6 = .ok (.istore 7, 2) ∧ okop dsL_law_2021 6 = true) ∧ (decode dsL_law_2021 8 = .ok (.goto 895, 3) ∧ okop dsL_law_2021 8 = true) ∧ (decode dsL_law_2021 11 = .ok (.aload_n 1, 1) ∧ okop dsL_law_2021 11 = true) ∧ (decode dsL_law_2021 12 = .ok (.aload_n 0, 1) ∧ okop dsL_law_2021 12 = true) ∧ (decode dsL_law_2021 13 = .ok (.iload 5, 2) ∧ okop dsL_law_2021 13 = true) ∧ (decode dsL_law_2021 15 = .ok (.iconst 1, 1) ∧ okop dsL_law_2021 15 = true) := by decide +kernel
theorem dL_law_2021 : decode cL_law 2021 = .ok (.iconst 1, 1) := dgq (p := 0) daL_law_2021 dbL_law_2021.1
theorem dL_law_2022 : decode cL_law 2022 = .ok (.iadd, 1) := dgq (p := 1) daL_law_2021 dbL_law_2021.2.1
theorem dL_law_2023 : decode cL_law 2023 = .ok (.iaload, 1) := dgq (p := 2) daL_law_2021 dbL_law_2021.2.2.1
theorem dL_law_2024 : decode cL_law 2024 = .ok (.invokevirtual 348, 3) := dgq (p := 3) daL_law_2021 dbL_law_2021.2.2.2.1
theorem dL_law_2027 : decode cL_law 2027 = .ok (.istore 7, 2) := dgq (p := 6) daL_law_2021 dbL_law_2021.2.2.2.2.1
theorem dL_law_2029 : decode cL_law 2029 = .ok (.goto 895, 3) := dgq (p := 8) daL_law_2021 dbL_law_2021.2.2.2.2.2.1
theorem dL_law_2032 : decode cL_law 2032 = .ok (.aload_n 1, 1) := dgq (p := 11) daL_law_2021 dbL_law_2021.2.2.2.2.2.2.1
theorem dL_law_2033 : decode cL_law 2033 = .ok (.aload_n 0, 1) := dgq (p := 12) daL_law_2021 dbL_law_2021.2.2.2.2.2.2.2.1
theorem dL_law_2034 : decode cL_law 2034 = .ok (.iload 5, 2) := dgq (p := 13) daL_law_2021 dbL_law_2021.2.2.2.2.2.2.2.2.1
theorem dL_law_2036 : decode cL_law 2036 = .ok (.iconst 1, 1) := dgq (p := 15) daL_law_2021 dbL_law_2021.2.2.2.2.2.2.2.2.2
def dsL_law_2037 : ByteArray := ⟨#[96, 46, 45, 184, 1, 93, 54, 6, 44, 42, 21, 5, 4, 96]⟩
theorem daL_law_2037 : agB cL_law dsL_law_2037 2037 := agB_of (n := 14) (by decide +kernel)
theorem dbL_law_2037 : (decode dsL_law_2037 0 = .ok (.iadd, 1) ∧ okop dsL_law_2037 0 = true) ∧ (decode dsL_law_2037 1 = .ok (.iaload, 1) ∧ okop dsL_law_2037 1 = true) ∧ (decode dsL_law_2037 2 = .ok (.aload_n 3, 1) ∧ okop dsL_law_2037 2 = true) ∧ (decode dsL_law_2037 3 = .ok (.invokestatic 349, 3) ∧ okop dsL_law_2037 3 = true) ∧ (decode dsL_law_2037 6 = .ok (.istore 6, 2) ∧ okop dsL_law_2037 6 = true) ∧ (decode dsL_law_2037 8 = .ok (.aload_n 2, 1) ∧ okop dsL_law_2037 8 = true) ∧ (decode dsL_law_2037 9 = .ok (.aload_n 0, 1) ∧ okop dsL_law_2037 9 = true) ∧ (decode dsL_law_2037 10 = .ok (.iload 5, 2) ∧ okop dsL_law_2037 10 = true) ∧ (decode dsL_law_2037 12 = .ok (.iconst 1, 1) ∧ okop dsL_law_2037 12 = true) ∧ (decode dsL_law_2037 13 = .ok (.iadd, 1) ∧ okop dsL_law_2037 13 = true) := by decide +kernel
theorem dL_law_2037 : decode cL_law 2037 = .ok (.iadd, 1) := dgq (p := 0) daL_law_2037 dbL_law_2037.1
theorem dL_law_2038 : decode cL_law 2038 = .ok (.iaload, 1) := dgq (p := 1) daL_law_2037 dbL_law_2037.2.1
theorem dL_law_2039 : decode cL_law 2039 = .ok (.aload_n 3, 1) := dgq (p := 2) daL_law_2037 dbL_law_2037.2.2.1
theorem dL_law_2040 : decode cL_law 2040 = .ok (.invokestatic 349, 3) := dgq (p := 3) daL_law_2037 dbL_law_2037.2.2.2.1
theorem dL_law_2043 : decode cL_law 2043 = .ok (.istore 6, 2) := dgq (p := 6) daL_law_2037 dbL_law_2037.2.2.2.2.1
theorem dL_law_2045 : decode cL_law 2045 = .ok (.aload_n 2, 1) := dgq (p := 8) daL_law_2037 dbL_law_2037.2.2.2.2.2.1
theorem dL_law_2046 : decode cL_law 2046 = .ok (.aload_n 0, 1) := dgq (p := 9) daL_law_2037 dbL_law_2037.2.2.2.2.2.2.1
theorem dL_law_2047 : decode cL_law 2047 = .ok (.iload 5, 2) := dgq (p := 10) daL_law_2037 dbL_law_2037.2.2.2.2.2.2.2.1
theorem dL_law_2049 : decode cL_law 2049 = .ok (.iconst 1, 1) := dgq (p := 12) daL_law_2037 dbL_law_2037.2.2.2.2.2.2.2.2.1
theorem dL_law_2050 : decode cL_law 2050 = .ok (.iadd, 1) := dgq (p := 13) daL_law_2037 dbL_law_2037.2.2.2.2.2.2.2.2.2
def dsL_law_2051 : ByteArray := ⟨#[46, 182, 1, 95, 54, 7, 167, 3, 99, 43, 42, 21, 5, 4, 96, 46]⟩
theorem daL_law_2051 : agB cL_law dsL_law_2051 2051 := agB_of (n := 16) (by decide +kernel)
theorem dbL_law_2051 : (decode dsL_law_2051 0 = .ok (.iaload, 1) ∧ okop dsL_law_2051 0 = true) ∧ (decode dsL_law_2051 1 = .ok (.invokevirtual 351, 3) ∧ okop dsL_law_2051 1 = true) ∧ (decode dsL_law_2051 4 = .ok (.istore 7, 2) ∧ okop dsL_law_2051 4 = true) ∧ (decode dsL_law_2051 6 = .ok (.goto 867, 3) ∧ okop dsL_law_2051 6 = true) ∧ (decode dsL_law_2051 9 = .ok (.aload_n 1, 1) ∧ okop dsL_law_2051 9 = true) ∧ (decode dsL_law_2051 10 = .ok (.aload_n 0, 1) ∧ okop dsL_law_2051 10 = true) ∧ (decode dsL_law_2051 11 = .ok (.iload 5, 2) ∧ okop dsL_law_2051 11 = true) ∧ (decode dsL_law_2051 13 = .ok (.iconst 1, 1) ∧ okop dsL_law_2051 13 = true) ∧ (decode dsL_law_2051 14 = .ok (.iadd, 1) ∧ okop dsL_law_2051 14 = true) ∧ (decode dsL_law_2051 15 = .ok (.iaload, 1) ∧ okop dsL_law_2051 15 = true) := by decide +kernel
theorem dL_law_2051 : decode cL_law 2051 = .ok (.iaload, 1) := dgq (p := 0) daL_law_2051 dbL_law_2051.1
theorem dL_law_2052 : decode cL_law 2052 = .ok (.invokevirtual 351, 3) := dgq (p := 1) daL_law_2051 dbL_law_2051.2.1
theorem dL_law_2055 : decode cL_law 2055 = .ok (.istore 7, 2) := dgq (p := 4) daL_law_2051 dbL_law_2051.2.2.1
theorem dL_law_2057 : decode cL_law 2057 = .ok (.goto 867, 3) := dgq (p := 6) daL_law_2051 dbL_law_2051.2.2.2.1
theorem dL_law_2060 : decode cL_law 2060 = .ok (.aload_n 1, 1) := dgq (p := 9) daL_law_2051 dbL_law_2051.2.2.2.2.1
theorem dL_law_2061 : decode cL_law 2061 = .ok (.aload_n 0, 1) := dgq (p := 10) daL_law_2051 dbL_law_2051.2.2.2.2.2.1
theorem dL_law_2062 : decode cL_law 2062 = .ok (.iload 5, 2) := dgq (p := 11) daL_law_2051 dbL_law_2051.2.2.2.2.2.2.1
theorem dL_law_2064 : decode cL_law 2064 = .ok (.iconst 1, 1) := dgq (p := 13) daL_law_2051 dbL_law_2051.2.2.2.2.2.2.2.1
theorem dL_law_2065 : decode cL_law 2065 = .ok (.iadd, 1) := dgq (p := 14) daL_law_2051 dbL_law_2051.2.2.2.2.2.2.2.2.1
theorem dL_law_2066 : decode cL_law 2066 = .ok (.iaload, 1) := dgq (p := 15) daL_law_2051 dbL_law_2051.2.2.2.2.2.2.2.2.2
def dsL_law_2067 : ByteArray := ⟨#[42, 21, 5, 5, 96, 46, 45, 184, 1, 96, 54, 6, 44, 42]⟩
theorem daL_law_2067 : agB cL_law dsL_law_2067 2067 := agB_of (n := 14) (by decide +kernel)
theorem dbL_law_2067 : (decode dsL_law_2067 0 = .ok (.aload_n 0, 1) ∧ okop dsL_law_2067 0 = true) ∧ (decode dsL_law_2067 1 = .ok (.iload 5, 2) ∧ okop dsL_law_2067 1 = true) ∧ (decode dsL_law_2067 3 = .ok (.iconst 2, 1) ∧ okop dsL_law_2067 3 = true) ∧ (decode dsL_law_2067 4 = .ok (.iadd, 1) ∧ okop dsL_law_2067 4 = true) ∧ (decode dsL_law_2067 5 = .ok (.iaload, 1) ∧ okop dsL_law_2067 5 = true) ∧ (decode dsL_law_2067 6 = .ok (.aload_n 3, 1) ∧ okop dsL_law_2067 6 = true) ∧ (decode dsL_law_2067 7 = .ok (.invokestatic 352, 3) ∧ okop dsL_law_2067 7 = true) ∧ (decode dsL_law_2067 10 = .ok (.istore 6, 2) ∧ okop dsL_law_2067 10 = true) ∧ (decode dsL_law_2067 12 = .ok (.aload_n 2, 1) ∧ okop dsL_law_2067 12 = true) ∧ (decode dsL_law_2067 13 = .ok (.aload_n 0, 1) ∧ okop dsL_law_2067 13 = true) := by decide +kernel
theorem dL_law_2067 : decode cL_law 2067 = .ok (.aload_n 0, 1) := dgq (p := 0) daL_law_2067 dbL_law_2067.1
theorem dL_law_2068 : decode cL_law 2068 = .ok (.iload 5, 2) := dgq (p := 1) daL_law_2067 dbL_law_2067.2.1
theorem dL_law_2070 : decode cL_law 2070 = .ok (.iconst 2, 1) := dgq (p := 3) daL_law_2067 dbL_law_2067.2.2.1
theorem dL_law_2071 : decode cL_law 2071 = .ok (.iadd, 1) := dgq (p := 4) daL_law_2067 dbL_law_2067.2.2.2.1
theorem dL_law_2072 : decode cL_law 2072 = .ok (.iaload, 1) := dgq (p := 5) daL_law_2067 dbL_law_2067.2.2.2.2.1
theorem dL_law_2073 : decode cL_law 2073 = .ok (.aload_n 3, 1) := dgq (p := 6) daL_law_2067 dbL_law_2067.2.2.2.2.2.1
theorem dL_law_2074 : decode cL_law 2074 = .ok (.invokestatic 352, 3) := dgq (p := 7) daL_law_2067 dbL_law_2067.2.2.2.2.2.2.1
theorem dL_law_2077 : decode cL_law 2077 = .ok (.istore 6, 2) := dgq (p := 10) daL_law_2067 dbL_law_2067.2.2.2.2.2.2.2.1
theorem dL_law_2079 : decode cL_law 2079 = .ok (.aload_n 2, 1) := dgq (p := 12) daL_law_2067 dbL_law_2067.2.2.2.2.2.2.2.2.1
theorem dL_law_2080 : decode cL_law 2080 = .ok (.aload_n 0, 1) := dgq (p := 13) daL_law_2067 dbL_law_2067.2.2.2.2.2.2.2.2.2
def dsL_law_2081 : ByteArray := ⟨#[21, 5, 4, 96, 46, 42, 21, 5, 5, 96, 46, 182, 1, 98]⟩
theorem daL_law_2081 : agB cL_law dsL_law_2081 2081 := agB_of (n := 14) (by decide +kernel)
theorem dbL_law_2081 : (decode dsL_law_2081 0 = .ok (.iload 5, 2) ∧ okop dsL_law_2081 0 = true) ∧ (decode dsL_law_2081 2 = .ok (.iconst 1, 1) ∧ okop dsL_law_2081 2 = true) ∧ (decode dsL_law_2081 3 = .ok (.iadd, 1) ∧ okop dsL_law_2081 3 = true) ∧ (decode dsL_law_2081 4 = .ok (.iaload, 1) ∧ okop dsL_law_2081 4 = true) ∧ (decode dsL_law_2081 5 = .ok (.aload_n 0, 1) ∧ okop dsL_law_2081 5 = true) ∧ (decode dsL_law_2081 6 = .ok (.iload 5, 2) ∧ okop dsL_law_2081 6 = true) ∧ (decode dsL_law_2081 8 = .ok (.iconst 2, 1) ∧ okop dsL_law_2081 8 = true) ∧ (decode dsL_law_2081 9 = .ok (.iadd, 1) ∧ okop dsL_law_2081 9 = true) ∧ (decode dsL_law_2081 10 = .ok (.iaload, 1) ∧ okop dsL_law_2081 10 = true) ∧ (decode dsL_law_2081 11 = .ok (.invokevirtual 354, 3) ∧ okop dsL_law_2081 11 = true) := by decide +kernel
theorem dL_law_2081 : decode cL_law 2081 = .ok (.iload 5, 2) := dgq (p := 0) daL_law_2081 dbL_law_2081.1
theorem dL_law_2083 : decode cL_law 2083 = .ok (.iconst 1, 1) := dgq (p := 2) daL_law_2081 dbL_law_2081.2.1
theorem dL_law_2084 : decode cL_law 2084 = .ok (.iadd, 1) := dgq (p := 3) daL_law_2081 dbL_law_2081.2.2.1
theorem dL_law_2085 : decode cL_law 2085 = .ok (.iaload, 1) := dgq (p := 4) daL_law_2081 dbL_law_2081.2.2.2.1
theorem dL_law_2086 : decode cL_law 2086 = .ok (.aload_n 0, 1) := dgq (p := 5) daL_law_2081 dbL_law_2081.2.2.2.2.1
theorem dL_law_2087 : decode cL_law 2087 = .ok (.iload 5, 2) := dgq (p := 6) daL_law_2081 dbL_law_2081.2.2.2.2.2.1
theorem dL_law_2089 : decode cL_law 2089 = .ok (.iconst 2, 1) := dgq (p := 8) daL_law_2081 dbL_law_2081.2.2.2.2.2.2.1
theorem dL_law_2090 : decode cL_law 2090 = .ok (.iadd, 1) := dgq (p := 9) daL_law_2081 dbL_law_2081.2.2.2.2.2.2.2.1
theorem dL_law_2091 : decode cL_law 2091 = .ok (.iaload, 1) := dgq (p := 10) daL_law_2081 dbL_law_2081.2.2.2.2.2.2.2.2.1
theorem dL_law_2092 : decode cL_law 2092 = .ok (.invokevirtual 354, 3) := dgq (p := 11) daL_law_2081 dbL_law_2081.2.2.2.2.2.2.2.2.2
def dsL_law_2095 : ByteArray := ⟨#[54, 7, 167, 3, 59, 43, 42, 21, 5, 4, 96, 46, 45, 184, 1, 99]⟩
theorem daL_law_2095 : agB cL_law dsL_law_2095 2095 := agB_of (n := 16) (by decide +kernel)
theorem dbL_law_2095 : (decode dsL_law_2095 0 = .ok (.istore 7, 2) ∧ okop dsL_law_2095 0 = true) ∧ (decode dsL_law_2095 2 = .ok (.goto 827, 3) ∧ okop dsL_law_2095 2 = true) ∧ (decode dsL_law_2095 5 = .ok (.aload_n 1, 1) ∧ okop dsL_law_2095 5 = true) ∧ (decode dsL_law_2095 6 = .ok (.aload_n 0, 1) ∧ okop dsL_law_2095 6 = true) ∧ (decode dsL_law_2095 7 = .ok (.iload 5, 2) ∧ okop dsL_law_2095 7 = true) ∧ (decode dsL_law_2095 9 = .ok (.iconst 1, 1) ∧ okop dsL_law_2095 9 = true) ∧ (decode dsL_law_2095 10 = .ok (.iadd, 1) ∧ okop dsL_law_2095 10 = true) ∧ (decode dsL_law_2095 11 = .ok (.iaload, 1) ∧ okop dsL_law_2095 11 = true) ∧ (decode dsL_law_2095 12 = .ok (.aload_n 3, 1) ∧ okop dsL_law_2095 12 = true) ∧ (decode dsL_law_2095 13 = .ok (.invokestatic 355, 3) ∧ okop dsL_law_2095 13 = true) := by decide +kernel
theorem dL_law_2095 : decode cL_law 2095 = .ok (.istore 7, 2) := dgq (p := 0) daL_law_2095 dbL_law_2095.1
theorem dL_law_2097 : decode cL_law 2097 = .ok (.goto 827, 3) := dgq (p := 2) daL_law_2095 dbL_law_2095.2.1
theorem dL_law_2100 : decode cL_law 2100 = .ok (.aload_n 1, 1) := dgq (p := 5) daL_law_2095 dbL_law_2095.2.2.1
theorem dL_law_2101 : decode cL_law 2101 = .ok (.aload_n 0, 1) := dgq (p := 6) daL_law_2095 dbL_law_2095.2.2.2.1
theorem dL_law_2102 : decode cL_law 2102 = .ok (.iload 5, 2) := dgq (p := 7) daL_law_2095 dbL_law_2095.2.2.2.2.1
theorem dL_law_2104 : decode cL_law 2104 = .ok (.iconst 1, 1) := dgq (p := 9) daL_law_2095 dbL_law_2095.2.2.2.2.2.1
theorem dL_law_2105 : decode cL_law 2105 = .ok (.iadd, 1) := dgq (p := 10) daL_law_2095 dbL_law_2095.2.2.2.2.2.2.1
theorem dL_law_2106 : decode cL_law 2106 = .ok (.iaload, 1) := dgq (p := 11) daL_law_2095 dbL_law_2095.2.2.2.2.2.2.2.1
theorem dL_law_2107 : decode cL_law 2107 = .ok (.aload_n 3, 1) := dgq (p := 12) daL_law_2095 dbL_law_2095.2.2.2.2.2.2.2.2.1
theorem dL_law_2108 : decode cL_law 2108 = .ok (.invokestatic 355, 3) := dgq (p := 13) daL_law_2095 dbL_law_2095.2.2.2.2.2.2.2.2.2
def dsL_law_2111 : ByteArray := ⟨#[54, 6, 44, 42, 21, 5, 4, 96, 46, 182, 1, 101, 54, 7, 167, 3, 31]⟩
theorem daL_law_2111 : agB cL_law dsL_law_2111 2111 := agB_of (n := 17) (by decide +kernel)
theorem dbL_law_2111 : (decode dsL_law_2111 0 = .ok (.istore 6, 2) ∧ okop dsL_law_2111 0 = true) ∧ (decode dsL_law_2111 2 = .ok (.aload_n 2, 1) ∧ okop dsL_law_2111 2 = true) ∧ (decode dsL_law_2111 3 = .ok (.aload_n 0, 1) ∧ okop dsL_law_2111 3 = true) ∧ (decode dsL_law_2111 4 = .ok (.iload 5, 2) ∧ okop dsL_law_2111 4 = true) ∧ (decode dsL_law_2111 6 = .ok (.iconst 1, 1) ∧ okop dsL_law_2111 6 = true) ∧ (decode dsL_law_2111 7 = .ok (.iadd, 1) ∧ okop dsL_law_2111 7 = true) ∧ (decode dsL_law_2111 8 = .ok (.iaload, 1) ∧ okop dsL_law_2111 8 = true) ∧ (decode dsL_law_2111 9 = .ok (.invokevirtual 357, 3) ∧ okop dsL_law_2111 9 = true) ∧ (decode dsL_law_2111 12 = .ok (.istore 7, 2) ∧ okop dsL_law_2111 12 = true) ∧ (decode dsL_law_2111 14 = .ok (.goto 799, 3) ∧ okop dsL_law_2111 14 = true) := by decide +kernel
theorem dL_law_2111 : decode cL_law 2111 = .ok (.istore 6, 2) := dgq (p := 0) daL_law_2111 dbL_law_2111.1
theorem dL_law_2113 : decode cL_law 2113 = .ok (.aload_n 2, 1) := dgq (p := 2) daL_law_2111 dbL_law_2111.2.1
theorem dL_law_2114 : decode cL_law 2114 = .ok (.aload_n 0, 1) := dgq (p := 3) daL_law_2111 dbL_law_2111.2.2.1
theorem dL_law_2115 : decode cL_law 2115 = .ok (.iload 5, 2) := dgq (p := 4) daL_law_2111 dbL_law_2111.2.2.2.1
theorem dL_law_2117 : decode cL_law 2117 = .ok (.iconst 1, 1) := dgq (p := 6) daL_law_2111 dbL_law_2111.2.2.2.2.1
theorem dL_law_2118 : decode cL_law 2118 = .ok (.iadd, 1) := dgq (p := 7) daL_law_2111 dbL_law_2111.2.2.2.2.2.1
theorem dL_law_2119 : decode cL_law 2119 = .ok (.iaload, 1) := dgq (p := 8) daL_law_2111 dbL_law_2111.2.2.2.2.2.2.1
theorem dL_law_2120 : decode cL_law 2120 = .ok (.invokevirtual 357, 3) := dgq (p := 9) daL_law_2111 dbL_law_2111.2.2.2.2.2.2.2.1
theorem dL_law_2123 : decode cL_law 2123 = .ok (.istore 7, 2) := dgq (p := 12) daL_law_2111 dbL_law_2111.2.2.2.2.2.2.2.2.1
theorem dL_law_2125 : decode cL_law 2125 = .ok (.goto 799, 3) := dgq (p := 14) daL_law_2111 dbL_law_2111.2.2.2.2.2.2.2.2.2
def dsL_law_2128 : ByteArray := ⟨#[43, 42, 21, 5, 4, 96, 46, 42, 21, 5, 5, 96]⟩
theorem daL_law_2128 : agB cL_law dsL_law_2128 2128 := agB_of (n := 12) (by decide +kernel)
theorem dbL_law_2128 : (decode dsL_law_2128 0 = .ok (.aload_n 1, 1) ∧ okop dsL_law_2128 0 = true) ∧ (decode dsL_law_2128 1 = .ok (.aload_n 0, 1) ∧ okop dsL_law_2128 1 = true) ∧ (decode dsL_law_2128 2 = .ok (.iload 5, 2) ∧ okop dsL_law_2128 2 = true) ∧ (decode dsL_law_2128 4 = .ok (.iconst 1, 1) ∧ okop dsL_law_2128 4 = true) ∧ (decode dsL_law_2128 5 = .ok (.iadd, 1) ∧ okop dsL_law_2128 5 = true) ∧ (decode dsL_law_2128 6 = .ok (.iaload, 1) ∧ okop dsL_law_2128 6 = true) ∧ (decode dsL_law_2128 7 = .ok (.aload_n 0, 1) ∧ okop dsL_law_2128 7 = true) ∧ (decode dsL_law_2128 8 = .ok (.iload 5, 2) ∧ okop dsL_law_2128 8 = true) ∧ (decode dsL_law_2128 10 = .ok (.iconst 2, 1) ∧ okop dsL_law_2128 10 = true) ∧ (decode dsL_law_2128 11 = .ok (.iadd, 1) ∧ okop dsL_law_2128 11 = true) := by decide +kernel
theorem dL_law_2128 : decode cL_law 2128 = .ok (.aload_n 1, 1) := dgq (p := 0) daL_law_2128 dbL_law_2128.1
theorem dL_law_2129 : decode cL_law 2129 = .ok (.aload_n 0, 1) := dgq (p := 1) daL_law_2128 dbL_law_2128.2.1
theorem dL_law_2130 : decode cL_law 2130 = .ok (.iload 5, 2) := dgq (p := 2) daL_law_2128 dbL_law_2128.2.2.1
theorem dL_law_2132 : decode cL_law 2132 = .ok (.iconst 1, 1) := dgq (p := 4) daL_law_2128 dbL_law_2128.2.2.2.1
theorem dL_law_2133 : decode cL_law 2133 = .ok (.iadd, 1) := dgq (p := 5) daL_law_2128 dbL_law_2128.2.2.2.2.1
theorem dL_law_2134 : decode cL_law 2134 = .ok (.iaload, 1) := dgq (p := 6) daL_law_2128 dbL_law_2128.2.2.2.2.2.1
theorem dL_law_2135 : decode cL_law 2135 = .ok (.aload_n 0, 1) := dgq (p := 7) daL_law_2128 dbL_law_2128.2.2.2.2.2.2.1
theorem dL_law_2136 : decode cL_law 2136 = .ok (.iload 5, 2) := dgq (p := 8) daL_law_2128 dbL_law_2128.2.2.2.2.2.2.2.1
theorem dL_law_2138 : decode cL_law 2138 = .ok (.iconst 2, 1) := dgq (p := 10) daL_law_2128 dbL_law_2128.2.2.2.2.2.2.2.2.1
theorem dL_law_2139 : decode cL_law 2139 = .ok (.iadd, 1) := dgq (p := 11) daL_law_2128 dbL_law_2128.2.2.2.2.2.2.2.2.2
def dsL_law_2140 : ByteArray := ⟨#[46, 42, 21, 5, 6, 96, 46, 45, 184, 1, 102, 54, 6, 44]⟩
theorem daL_law_2140 : agB cL_law dsL_law_2140 2140 := agB_of (n := 14) (by decide +kernel)
theorem dbL_law_2140 : (decode dsL_law_2140 0 = .ok (.iaload, 1) ∧ okop dsL_law_2140 0 = true) ∧ (decode dsL_law_2140 1 = .ok (.aload_n 0, 1) ∧ okop dsL_law_2140 1 = true) ∧ (decode dsL_law_2140 2 = .ok (.iload 5, 2) ∧ okop dsL_law_2140 2 = true) ∧ (decode dsL_law_2140 4 = .ok (.iconst 3, 1) ∧ okop dsL_law_2140 4 = true) ∧ (decode dsL_law_2140 5 = .ok (.iadd, 1) ∧ okop dsL_law_2140 5 = true) ∧ (decode dsL_law_2140 6 = .ok (.iaload, 1) ∧ okop dsL_law_2140 6 = true) ∧ (decode dsL_law_2140 7 = .ok (.aload_n 3, 1) ∧ okop dsL_law_2140 7 = true) ∧ (decode dsL_law_2140 8 = .ok (.invokestatic 358, 3) ∧ okop dsL_law_2140 8 = true) ∧ (decode dsL_law_2140 11 = .ok (.istore 6, 2) ∧ okop dsL_law_2140 11 = true) ∧ (decode dsL_law_2140 13 = .ok (.aload_n 2, 1) ∧ okop dsL_law_2140 13 = true) := by decide +kernel
theorem dL_law_2140 : decode cL_law 2140 = .ok (.iaload, 1) := dgq (p := 0) daL_law_2140 dbL_law_2140.1
theorem dL_law_2141 : decode cL_law 2141 = .ok (.aload_n 0, 1) := dgq (p := 1) daL_law_2140 dbL_law_2140.2.1
theorem dL_law_2142 : decode cL_law 2142 = .ok (.iload 5, 2) := dgq (p := 2) daL_law_2140 dbL_law_2140.2.2.1
theorem dL_law_2144 : decode cL_law 2144 = .ok (.iconst 3, 1) := dgq (p := 4) daL_law_2140 dbL_law_2140.2.2.2.1
theorem dL_law_2145 : decode cL_law 2145 = .ok (.iadd, 1) := dgq (p := 5) daL_law_2140 dbL_law_2140.2.2.2.2.1
theorem dL_law_2146 : decode cL_law 2146 = .ok (.iaload, 1) := dgq (p := 6) daL_law_2140 dbL_law_2140.2.2.2.2.2.1
theorem dL_law_2147 : decode cL_law 2147 = .ok (.aload_n 3, 1) := dgq (p := 7) daL_law_2140 dbL_law_2140.2.2.2.2.2.2.1
theorem dL_law_2148 : decode cL_law 2148 = .ok (.invokestatic 358, 3) := dgq (p := 8) daL_law_2140 dbL_law_2140.2.2.2.2.2.2.2.1
theorem dL_law_2151 : decode cL_law 2151 = .ok (.istore 6, 2) := dgq (p := 11) daL_law_2140 dbL_law_2140.2.2.2.2.2.2.2.2.1
theorem dL_law_2153 : decode cL_law 2153 = .ok (.aload_n 2, 1) := dgq (p := 13) daL_law_2140 dbL_law_2140.2.2.2.2.2.2.2.2.2
def dsL_law_2154 : ByteArray := ⟨#[42, 21, 5, 4, 96, 46, 42, 21, 5, 5, 96, 46]⟩
theorem daL_law_2154 : agB cL_law dsL_law_2154 2154 := agB_of (n := 12) (by decide +kernel)
theorem dbL_law_2154 : (decode dsL_law_2154 0 = .ok (.aload_n 0, 1) ∧ okop dsL_law_2154 0 = true) ∧ (decode dsL_law_2154 1 = .ok (.iload 5, 2) ∧ okop dsL_law_2154 1 = true) ∧ (decode dsL_law_2154 3 = .ok (.iconst 1, 1) ∧ okop dsL_law_2154 3 = true) ∧ (decode dsL_law_2154 4 = .ok (.iadd, 1) ∧ okop dsL_law_2154 4 = true) ∧ (decode dsL_law_2154 5 = .ok (.iaload, 1) ∧ okop dsL_law_2154 5 = true) ∧ (decode dsL_law_2154 6 = .ok (.aload_n 0, 1) ∧ okop dsL_law_2154 6 = true) ∧ (decode dsL_law_2154 7 = .ok (.iload 5, 2) ∧ okop dsL_law_2154 7 = true) ∧ (decode dsL_law_2154 9 = .ok (.iconst 2, 1) ∧ okop dsL_law_2154 9 = true) ∧ (decode dsL_law_2154 10 = .ok (.iadd, 1) ∧ okop dsL_law_2154 10 = true) ∧ (decode dsL_law_2154 11 = .ok (.iaload, 1) ∧ okop dsL_law_2154 11 = true) := by decide +kernel
theorem dL_law_2154 : decode cL_law 2154 = .ok (.aload_n 0, 1) := dgq (p := 0) daL_law_2154 dbL_law_2154.1
theorem dL_law_2155 : decode cL_law 2155 = .ok (.iload 5, 2) := dgq (p := 1) daL_law_2154 dbL_law_2154.2.1
theorem dL_law_2157 : decode cL_law 2157 = .ok (.iconst 1, 1) := dgq (p := 3) daL_law_2154 dbL_law_2154.2.2.1
theorem dL_law_2158 : decode cL_law 2158 = .ok (.iadd, 1) := dgq (p := 4) daL_law_2154 dbL_law_2154.2.2.2.1
theorem dL_law_2159 : decode cL_law 2159 = .ok (.iaload, 1) := dgq (p := 5) daL_law_2154 dbL_law_2154.2.2.2.2.1
theorem dL_law_2160 : decode cL_law 2160 = .ok (.aload_n 0, 1) := dgq (p := 6) daL_law_2154 dbL_law_2154.2.2.2.2.2.1
theorem dL_law_2161 : decode cL_law 2161 = .ok (.iload 5, 2) := dgq (p := 7) daL_law_2154 dbL_law_2154.2.2.2.2.2.2.1
theorem dL_law_2163 : decode cL_law 2163 = .ok (.iconst 2, 1) := dgq (p := 9) daL_law_2154 dbL_law_2154.2.2.2.2.2.2.2.1
theorem dL_law_2164 : decode cL_law 2164 = .ok (.iadd, 1) := dgq (p := 10) daL_law_2154 dbL_law_2154.2.2.2.2.2.2.2.2.1
theorem dL_law_2165 : decode cL_law 2165 = .ok (.iaload, 1) := dgq (p := 11) daL_law_2154 dbL_law_2154.2.2.2.2.2.2.2.2.2
def dsL_law_2166 : ByteArray := ⟨#[42, 21, 5, 6, 96, 46, 182, 1, 104, 54, 7, 44, 182, 1, 105, 21, 6]⟩
theorem daL_law_2166 : agB cL_law dsL_law_2166 2166 := agB_of (n := 17) (by decide +kernel)
theorem dbL_law_2166 : (decode dsL_law_2166 0 = .ok (.aload_n 0, 1) ∧ okop dsL_law_2166 0 = true) ∧ (decode dsL_law_2166 1 = .ok (.iload 5, 2) ∧ okop dsL_law_2166 1 = true) ∧ (decode dsL_law_2166 3 = .ok (.iconst 3, 1) ∧ okop dsL_law_2166 3 = true) ∧ (decode dsL_law_2166 4 = .ok (.iadd, 1) ∧ okop dsL_law_2166 4 = true) ∧ (decode dsL_law_2166 5 = .ok (.iaload, 1) ∧ okop dsL_law_2166 5 = true) ∧ (decode dsL_law_2166 6 = .ok (.invokevirtual 360, 3) ∧ okop dsL_law_2166 6 = true) ∧ (decode dsL_law_2166 9 = .ok (.istore 7, 2) ∧ okop dsL_law_2166 9 = true) ∧ (decode dsL_law_2166 11 = .ok (.aload_n 2, 1) ∧ okop dsL_law_2166 11 = true) ∧ (decode dsL_law_2166 12 = .ok (.invokevirtual 361, 3) ∧ okop dsL_law_2166 12 = true) ∧ (decode dsL_law_2166 15 = .ok (.iload 6, 2) ∧ okop dsL_law_2166 15 = true) := by decide +kernel
theorem dL_law_2166 : decode cL_law 2166 = .ok (.aload_n 0, 1) := dgq (p := 0) daL_law_2166 dbL_law_2166.1
theorem dL_law_2167 : decode cL_law 2167 = .ok (.iload 5, 2) := dgq (p := 1) daL_law_2166 dbL_law_2166.2.1
theorem dL_law_2169 : decode cL_law 2169 = .ok (.iconst 3, 1) := dgq (p := 3) daL_law_2166 dbL_law_2166.2.2.1
theorem dL_law_2170 : decode cL_law 2170 = .ok (.iadd, 1) := dgq (p := 4) daL_law_2166 dbL_law_2166.2.2.2.1
theorem dL_law_2171 : decode cL_law 2171 = .ok (.iaload, 1) := dgq (p := 5) daL_law_2166 dbL_law_2166.2.2.2.2.1
theorem dL_law_2172 : decode cL_law 2172 = .ok (.invokevirtual 360, 3) := dgq (p := 6) daL_law_2166 dbL_law_2166.2.2.2.2.2.1
theorem dL_law_2175 : decode cL_law 2175 = .ok (.istore 7, 2) := dgq (p := 9) daL_law_2166 dbL_law_2166.2.2.2.2.2.2.1
theorem dL_law_2177 : decode cL_law 2177 = .ok (.aload_n 2, 1) := dgq (p := 11) daL_law_2166 dbL_law_2166.2.2.2.2.2.2.2.1
theorem dL_law_2178 : decode cL_law 2178 = .ok (.invokevirtual 361, 3) := dgq (p := 12) daL_law_2166 dbL_law_2166.2.2.2.2.2.2.2.2.1
theorem dL_law_2181 : decode cL_law 2181 = .ok (.iload 6, 2) := dgq (p := 15) daL_law_2166 dbL_law_2166.2.2.2.2.2.2.2.2.2
def dsL_law_2183 : ByteArray := ⟨#[159, 0, 5, 3, 172, 21, 6, 154, 0, 15, 45, 3, 47, 21, 7, 133]⟩
theorem daL_law_2183 : agB cL_law dsL_law_2183 2183 := agB_of (n := 16) (by decide +kernel)
theorem dbL_law_2183 : (decode dsL_law_2183 0 = .ok (.if_icmp .eq 5, 3) ∧ okop dsL_law_2183 0 = true) ∧ (decode dsL_law_2183 3 = .ok (.iconst 0, 1) ∧ okop dsL_law_2183 3 = true) ∧ (decode dsL_law_2183 4 = .ok (.ireturn, 1) ∧ okop dsL_law_2183 4 = true) ∧ (decode dsL_law_2183 5 = .ok (.iload 6, 2) ∧ okop dsL_law_2183 5 = true) ∧ (decode dsL_law_2183 7 = .ok (.ifCond .ne 15, 3) ∧ okop dsL_law_2183 7 = true) ∧ (decode dsL_law_2183 10 = .ok (.aload_n 3, 1) ∧ okop dsL_law_2183 10 = true) ∧ (decode dsL_law_2183 11 = .ok (.iconst 0, 1) ∧ okop dsL_law_2183 11 = true) ∧ (decode dsL_law_2183 12 = .ok (.laload, 1) ∧ okop dsL_law_2183 12 = true) ∧ (decode dsL_law_2183 13 = .ok (.iload 7, 2) ∧ okop dsL_law_2183 13 = true) ∧ (decode dsL_law_2183 15 = .ok (.i2l, 1) ∧ okop dsL_law_2183 15 = true) := by decide +kernel
theorem dL_law_2183 : decode cL_law 2183 = .ok (.if_icmp .eq 5, 3) := dgq (p := 0) daL_law_2183 dbL_law_2183.1
theorem dL_law_2186 : decode cL_law 2186 = .ok (.iconst 0, 1) := dgq (p := 3) daL_law_2183 dbL_law_2183.2.1
theorem dL_law_2187 : decode cL_law 2187 = .ok (.ireturn, 1) := dgq (p := 4) daL_law_2183 dbL_law_2183.2.2.1
theorem dL_law_2188 : decode cL_law 2188 = .ok (.iload 6, 2) := dgq (p := 5) daL_law_2183 dbL_law_2183.2.2.2.1
theorem dL_law_2190 : decode cL_law 2190 = .ok (.ifCond .ne 15, 3) := dgq (p := 7) daL_law_2183 dbL_law_2183.2.2.2.2.1
theorem dL_law_2193 : decode cL_law 2193 = .ok (.aload_n 3, 1) := dgq (p := 10) daL_law_2183 dbL_law_2183.2.2.2.2.2.1
theorem dL_law_2194 : decode cL_law 2194 = .ok (.iconst 0, 1) := dgq (p := 11) daL_law_2183 dbL_law_2183.2.2.2.2.2.2.1
theorem dL_law_2195 : decode cL_law 2195 = .ok (.laload, 1) := dgq (p := 12) daL_law_2183 dbL_law_2183.2.2.2.2.2.2.2.1
theorem dL_law_2196 : decode cL_law 2196 = .ok (.iload 7, 2) := dgq (p := 13) daL_law_2183 dbL_law_2183.2.2.2.2.2.2.2.2.1
theorem dL_law_2198 : decode cL_law 2198 = .ok (.i2l, 1) := dgq (p := 15) daL_law_2183 dbL_law_2183.2.2.2.2.2.2.2.2.2
def dsL_law_2199 : ByteArray := ⟨#[148, 153, 0, 5, 3, 172, 167, 2, 207, 43, 42, 21, 5, 4, 96]⟩
theorem daL_law_2199 : agB cL_law dsL_law_2199 2199 := agB_of (n := 15) (by decide +kernel)
theorem dbL_law_2199 : (decode dsL_law_2199 0 = .ok (.lcmp, 1) ∧ okop dsL_law_2199 0 = true) ∧ (decode dsL_law_2199 1 = .ok (.ifCond .eq 5, 3) ∧ okop dsL_law_2199 1 = true) ∧ (decode dsL_law_2199 4 = .ok (.iconst 0, 1) ∧ okop dsL_law_2199 4 = true) ∧ (decode dsL_law_2199 5 = .ok (.ireturn, 1) ∧ okop dsL_law_2199 5 = true) ∧ (decode dsL_law_2199 6 = .ok (.goto 719, 3) ∧ okop dsL_law_2199 6 = true) ∧ (decode dsL_law_2199 9 = .ok (.aload_n 1, 1) ∧ okop dsL_law_2199 9 = true) ∧ (decode dsL_law_2199 10 = .ok (.aload_n 0, 1) ∧ okop dsL_law_2199 10 = true) ∧ (decode dsL_law_2199 11 = .ok (.iload 5, 2) ∧ okop dsL_law_2199 11 = true) ∧ (decode dsL_law_2199 13 = .ok (.iconst 1, 1) ∧ okop dsL_law_2199 13 = true) ∧ (decode dsL_law_2199 14 = .ok (.iadd, 1) ∧ okop dsL_law_2199 14 = true) := by decide +kernel
theorem dL_law_2199 : decode cL_law 2199 = .ok (.lcmp, 1) := dgq (p := 0) daL_law_2199 dbL_law_2199.1
theorem dL_law_2200 : decode cL_law 2200 = .ok (.ifCond .eq 5, 3) := dgq (p := 1) daL_law_2199 dbL_law_2199.2.1
theorem dL_law_2203 : decode cL_law 2203 = .ok (.iconst 0, 1) := dgq (p := 4) daL_law_2199 dbL_law_2199.2.2.1
theorem dL_law_2204 : decode cL_law 2204 = .ok (.ireturn, 1) := dgq (p := 5) daL_law_2199 dbL_law_2199.2.2.2.1
theorem dL_law_2205 : decode cL_law 2205 = .ok (.goto 719, 3) := dgq (p := 6) daL_law_2199 dbL_law_2199.2.2.2.2.1
theorem dL_law_2208 : decode cL_law 2208 = .ok (.aload_n 1, 1) := dgq (p := 9) daL_law_2199 dbL_law_2199.2.2.2.2.2.1
theorem dL_law_2209 : decode cL_law 2209 = .ok (.aload_n 0, 1) := dgq (p := 10) daL_law_2199 dbL_law_2199.2.2.2.2.2.2.1
theorem dL_law_2210 : decode cL_law 2210 = .ok (.iload 5, 2) := dgq (p := 11) daL_law_2199 dbL_law_2199.2.2.2.2.2.2.2.1
theorem dL_law_2212 : decode cL_law 2212 = .ok (.iconst 1, 1) := dgq (p := 13) daL_law_2199 dbL_law_2199.2.2.2.2.2.2.2.2.1
theorem dL_law_2213 : decode cL_law 2213 = .ok (.iadd, 1) := dgq (p := 14) daL_law_2199 dbL_law_2199.2.2.2.2.2.2.2.2.2
def dsL_law_2214 : ByteArray := ⟨#[46, 42, 21, 5, 5, 96, 46, 45, 184, 1, 109, 54, 6, 44]⟩
theorem daL_law_2214 : agB cL_law dsL_law_2214 2214 := agB_of (n := 14) (by decide +kernel)
theorem dbL_law_2214 : (decode dsL_law_2214 0 = .ok (.iaload, 1) ∧ okop dsL_law_2214 0 = true) ∧ (decode dsL_law_2214 1 = .ok (.aload_n 0, 1) ∧ okop dsL_law_2214 1 = true) ∧ (decode dsL_law_2214 2 = .ok (.iload 5, 2) ∧ okop dsL_law_2214 2 = true) ∧ (decode dsL_law_2214 4 = .ok (.iconst 2, 1) ∧ okop dsL_law_2214 4 = true) ∧ (decode dsL_law_2214 5 = .ok (.iadd, 1) ∧ okop dsL_law_2214 5 = true) ∧ (decode dsL_law_2214 6 = .ok (.iaload, 1) ∧ okop dsL_law_2214 6 = true) ∧ (decode dsL_law_2214 7 = .ok (.aload_n 3, 1) ∧ okop dsL_law_2214 7 = true) ∧ (decode dsL_law_2214 8 = .ok (.invokestatic 365, 3) ∧ okop dsL_law_2214 8 = true) ∧ (decode dsL_law_2214 11 = .ok (.istore 6, 2) ∧ okop dsL_law_2214 11 = true) ∧ (decode dsL_law_2214 13 = .ok (.aload_n 2, 1) ∧ okop dsL_law_2214 13 = true) := by decide +kernel
theorem dL_law_2214 : decode cL_law 2214 = .ok (.iaload, 1) := dgq (p := 0) daL_law_2214 dbL_law_2214.1
theorem dL_law_2215 : decode cL_law 2215 = .ok (.aload_n 0, 1) := dgq (p := 1) daL_law_2214 dbL_law_2214.2.1
theorem dL_law_2216 : decode cL_law 2216 = .ok (.iload 5, 2) := dgq (p := 2) daL_law_2214 dbL_law_2214.2.2.1
theorem dL_law_2218 : decode cL_law 2218 = .ok (.iconst 2, 1) := dgq (p := 4) daL_law_2214 dbL_law_2214.2.2.2.1
theorem dL_law_2219 : decode cL_law 2219 = .ok (.iadd, 1) := dgq (p := 5) daL_law_2214 dbL_law_2214.2.2.2.2.1
theorem dL_law_2220 : decode cL_law 2220 = .ok (.iaload, 1) := dgq (p := 6) daL_law_2214 dbL_law_2214.2.2.2.2.2.1
theorem dL_law_2221 : decode cL_law 2221 = .ok (.aload_n 3, 1) := dgq (p := 7) daL_law_2214 dbL_law_2214.2.2.2.2.2.2.1
theorem dL_law_2222 : decode cL_law 2222 = .ok (.invokestatic 365, 3) := dgq (p := 8) daL_law_2214 dbL_law_2214.2.2.2.2.2.2.2.1
theorem dL_law_2225 : decode cL_law 2225 = .ok (.istore 6, 2) := dgq (p := 11) daL_law_2214 dbL_law_2214.2.2.2.2.2.2.2.2.1
theorem dL_law_2227 : decode cL_law 2227 = .ok (.aload_n 2, 1) := dgq (p := 13) daL_law_2214 dbL_law_2214.2.2.2.2.2.2.2.2.2
def dsL_law_2228 : ByteArray := ⟨#[42, 21, 5, 4, 96, 46, 42, 21, 5, 5, 96, 46]⟩
theorem daL_law_2228 : agB cL_law dsL_law_2228 2228 := agB_of (n := 12) (by decide +kernel)
theorem dbL_law_2228 : (decode dsL_law_2228 0 = .ok (.aload_n 0, 1) ∧ okop dsL_law_2228 0 = true) ∧ (decode dsL_law_2228 1 = .ok (.iload 5, 2) ∧ okop dsL_law_2228 1 = true) ∧ (decode dsL_law_2228 3 = .ok (.iconst 1, 1) ∧ okop dsL_law_2228 3 = true) ∧ (decode dsL_law_2228 4 = .ok (.iadd, 1) ∧ okop dsL_law_2228 4 = true) ∧ (decode dsL_law_2228 5 = .ok (.iaload, 1) ∧ okop dsL_law_2228 5 = true) ∧ (decode dsL_law_2228 6 = .ok (.aload_n 0, 1) ∧ okop dsL_law_2228 6 = true) ∧ (decode dsL_law_2228 7 = .ok (.iload 5, 2) ∧ okop dsL_law_2228 7 = true) ∧ (decode dsL_law_2228 9 = .ok (.iconst 2, 1) ∧ okop dsL_law_2228 9 = true) ∧ (decode dsL_law_2228 10 = .ok (.iadd, 1) ∧ okop dsL_law_2228 10 = true) ∧ (decode dsL_law_2228 11 = .ok (.iaload, 1) ∧ okop dsL_law_2228 11 = true) := by decide +kernel
theorem dL_law_2228 : decode cL_law 2228 = .ok (.aload_n 0, 1) := dgq (p := 0) daL_law_2228 dbL_law_2228.1
theorem dL_law_2229 : decode cL_law 2229 = .ok (.iload 5, 2) := dgq (p := 1) daL_law_2228 dbL_law_2228.2.1
theorem dL_law_2231 : decode cL_law 2231 = .ok (.iconst 1, 1) := dgq (p := 3) daL_law_2228 dbL_law_2228.2.2.1
theorem dL_law_2232 : decode cL_law 2232 = .ok (.iadd, 1) := dgq (p := 4) daL_law_2228 dbL_law_2228.2.2.2.1
theorem dL_law_2233 : decode cL_law 2233 = .ok (.iaload, 1) := dgq (p := 5) daL_law_2228 dbL_law_2228.2.2.2.2.1
theorem dL_law_2234 : decode cL_law 2234 = .ok (.aload_n 0, 1) := dgq (p := 6) daL_law_2228 dbL_law_2228.2.2.2.2.2.1
theorem dL_law_2235 : decode cL_law 2235 = .ok (.iload 5, 2) := dgq (p := 7) daL_law_2228 dbL_law_2228.2.2.2.2.2.2.1
theorem dL_law_2237 : decode cL_law 2237 = .ok (.iconst 2, 1) := dgq (p := 9) daL_law_2228 dbL_law_2228.2.2.2.2.2.2.2.1
theorem dL_law_2238 : decode cL_law 2238 = .ok (.iadd, 1) := dgq (p := 10) daL_law_2228 dbL_law_2228.2.2.2.2.2.2.2.2.1
theorem dL_law_2239 : decode cL_law 2239 = .ok (.iaload, 1) := dgq (p := 11) daL_law_2228 dbL_law_2228.2.2.2.2.2.2.2.2.2
def dsL_law_2240 : ByteArray := ⟨#[182, 1, 111, 54, 7, 167, 2, 167, 43, 42, 21, 5, 4, 96, 46, 42]⟩
theorem daL_law_2240 : agB cL_law dsL_law_2240 2240 := agB_of (n := 16) (by decide +kernel)
theorem dbL_law_2240 : (decode dsL_law_2240 0 = .ok (.invokevirtual 367, 3) ∧ okop dsL_law_2240 0 = true) ∧ (decode dsL_law_2240 3 = .ok (.istore 7, 2) ∧ okop dsL_law_2240 3 = true) ∧ (decode dsL_law_2240 5 = .ok (.goto 679, 3) ∧ okop dsL_law_2240 5 = true) ∧ (decode dsL_law_2240 8 = .ok (.aload_n 1, 1) ∧ okop dsL_law_2240 8 = true) ∧ (decode dsL_law_2240 9 = .ok (.aload_n 0, 1) ∧ okop dsL_law_2240 9 = true) ∧ (decode dsL_law_2240 10 = .ok (.iload 5, 2) ∧ okop dsL_law_2240 10 = true) ∧ (decode dsL_law_2240 12 = .ok (.iconst 1, 1) ∧ okop dsL_law_2240 12 = true) ∧ (decode dsL_law_2240 13 = .ok (.iadd, 1) ∧ okop dsL_law_2240 13 = true) ∧ (decode dsL_law_2240 14 = .ok (.iaload, 1) ∧ okop dsL_law_2240 14 = true) ∧ (decode dsL_law_2240 15 = .ok (.aload_n 0, 1) ∧ okop dsL_law_2240 15 = true) := by decide +kernel
theorem dL_law_2240 : decode cL_law 2240 = .ok (.invokevirtual 367, 3) := dgq (p := 0) daL_law_2240 dbL_law_2240.1
theorem dL_law_2243 : decode cL_law 2243 = .ok (.istore 7, 2) := dgq (p := 3) daL_law_2240 dbL_law_2240.2.1
theorem dL_law_2245 : decode cL_law 2245 = .ok (.goto 679, 3) := dgq (p := 5) daL_law_2240 dbL_law_2240.2.2.1
theorem dL_law_2248 : decode cL_law 2248 = .ok (.aload_n 1, 1) := dgq (p := 8) daL_law_2240 dbL_law_2240.2.2.2.1
theorem dL_law_2249 : decode cL_law 2249 = .ok (.aload_n 0, 1) := dgq (p := 9) daL_law_2240 dbL_law_2240.2.2.2.2.1
theorem dL_law_2250 : decode cL_law 2250 = .ok (.iload 5, 2) := dgq (p := 10) daL_law_2240 dbL_law_2240.2.2.2.2.2.1
theorem dL_law_2252 : decode cL_law 2252 = .ok (.iconst 1, 1) := dgq (p := 12) daL_law_2240 dbL_law_2240.2.2.2.2.2.2.1
theorem dL_law_2253 : decode cL_law 2253 = .ok (.iadd, 1) := dgq (p := 13) daL_law_2240 dbL_law_2240.2.2.2.2.2.2.2.1
theorem dL_law_2254 : decode cL_law 2254 = .ok (.iaload, 1) := dgq (p := 14) daL_law_2240 dbL_law_2240.2.2.2.2.2.2.2.2.1
theorem dL_law_2255 : decode cL_law 2255 = .ok (.aload_n 0, 1) := dgq (p := 15) daL_law_2240 dbL_law_2240.2.2.2.2.2.2.2.2.2
def dsL_law_2256 : ByteArray := ⟨#[21, 5, 5, 96, 46, 42, 21, 5, 6, 96, 46, 45]⟩
theorem daL_law_2256 : agB cL_law dsL_law_2256 2256 := agB_of (n := 12) (by decide +kernel)
theorem dbL_law_2256 : (decode dsL_law_2256 0 = .ok (.iload 5, 2) ∧ okop dsL_law_2256 0 = true) ∧ (decode dsL_law_2256 2 = .ok (.iconst 2, 1) ∧ okop dsL_law_2256 2 = true) ∧ (decode dsL_law_2256 3 = .ok (.iadd, 1) ∧ okop dsL_law_2256 3 = true) ∧ (decode dsL_law_2256 4 = .ok (.iaload, 1) ∧ okop dsL_law_2256 4 = true) ∧ (decode dsL_law_2256 5 = .ok (.aload_n 0, 1) ∧ okop dsL_law_2256 5 = true) ∧ (decode dsL_law_2256 6 = .ok (.iload 5, 2) ∧ okop dsL_law_2256 6 = true) ∧ (decode dsL_law_2256 8 = .ok (.iconst 3, 1) ∧ okop dsL_law_2256 8 = true) ∧ (decode dsL_law_2256 9 = .ok (.iadd, 1) ∧ okop dsL_law_2256 9 = true) ∧ (decode dsL_law_2256 10 = .ok (.iaload, 1) ∧ okop dsL_law_2256 10 = true) ∧ (decode dsL_law_2256 11 = .ok (.aload_n 3, 1) ∧ okop dsL_law_2256 11 = true) := by decide +kernel
theorem dL_law_2256 : decode cL_law 2256 = .ok (.iload 5, 2) := dgq (p := 0) daL_law_2256 dbL_law_2256.1
theorem dL_law_2258 : decode cL_law 2258 = .ok (.iconst 2, 1) := dgq (p := 2) daL_law_2256 dbL_law_2256.2.1
theorem dL_law_2259 : decode cL_law 2259 = .ok (.iadd, 1) := dgq (p := 3) daL_law_2256 dbL_law_2256.2.2.1
theorem dL_law_2260 : decode cL_law 2260 = .ok (.iaload, 1) := dgq (p := 4) daL_law_2256 dbL_law_2256.2.2.2.1
theorem dL_law_2261 : decode cL_law 2261 = .ok (.aload_n 0, 1) := dgq (p := 5) daL_law_2256 dbL_law_2256.2.2.2.2.1
theorem dL_law_2262 : decode cL_law 2262 = .ok (.iload 5, 2) := dgq (p := 6) daL_law_2256 dbL_law_2256.2.2.2.2.2.1
theorem dL_law_2264 : decode cL_law 2264 = .ok (.iconst 3, 1) := dgq (p := 8) daL_law_2256 dbL_law_2256.2.2.2.2.2.2.1
theorem dL_law_2265 : decode cL_law 2265 = .ok (.iadd, 1) := dgq (p := 9) daL_law_2256 dbL_law_2256.2.2.2.2.2.2.2.1
theorem dL_law_2266 : decode cL_law 2266 = .ok (.iaload, 1) := dgq (p := 10) daL_law_2256 dbL_law_2256.2.2.2.2.2.2.2.2.1
theorem dL_law_2267 : decode cL_law 2267 = .ok (.aload_n 3, 1) := dgq (p := 11) daL_law_2256 dbL_law_2256.2.2.2.2.2.2.2.2.2
def dsL_law_2268 : ByteArray := ⟨#[184, 1, 112, 54, 6, 44, 42, 21, 5, 4, 96, 46, 42, 21, 5]⟩
theorem daL_law_2268 : agB cL_law dsL_law_2268 2268 := agB_of (n := 15) (by decide +kernel)
theorem dbL_law_2268 : (decode dsL_law_2268 0 = .ok (.invokestatic 368, 3) ∧ okop dsL_law_2268 0 = true) ∧ (decode dsL_law_2268 3 = .ok (.istore 6, 2) ∧ okop dsL_law_2268 3 = true) ∧ (decode dsL_law_2268 5 = .ok (.aload_n 2, 1) ∧ okop dsL_law_2268 5 = true) ∧ (decode dsL_law_2268 6 = .ok (.aload_n 0, 1) ∧ okop dsL_law_2268 6 = true) ∧ (decode dsL_law_2268 7 = .ok (.iload 5, 2) ∧ okop dsL_law_2268 7 = true) ∧ (decode dsL_law_2268 9 = .ok (.iconst 1, 1) ∧ okop dsL_law_2268 9 = true) ∧ (decode dsL_law_2268 10 = .ok (.iadd, 1) ∧ okop dsL_law_2268 10 = true) ∧ (decode dsL_law_2268 11 = .ok (.iaload, 1) ∧ okop dsL_law_2268 11 = true) ∧ (decode dsL_law_2268 12 = .ok (.aload_n 0, 1) ∧ okop dsL_law_2268 12 = true) ∧ (decode dsL_law_2268 13 = .ok (.iload 5, 2) ∧ okop dsL_law_2268 13 = true) := by decide +kernel
theorem dL_law_2268 : decode cL_law 2268 = .ok (.invokestatic 368, 3) := dgq (p := 0) daL_law_2268 dbL_law_2268.1
theorem dL_law_2271 : decode cL_law 2271 = .ok (.istore 6, 2) := dgq (p := 3) daL_law_2268 dbL_law_2268.2.1
theorem dL_law_2273 : decode cL_law 2273 = .ok (.aload_n 2, 1) := dgq (p := 5) daL_law_2268 dbL_law_2268.2.2.1
theorem dL_law_2274 : decode cL_law 2274 = .ok (.aload_n 0, 1) := dgq (p := 6) daL_law_2268 dbL_law_2268.2.2.2.1
theorem dL_law_2275 : decode cL_law 2275 = .ok (.iload 5, 2) := dgq (p := 7) daL_law_2268 dbL_law_2268.2.2.2.2.1
theorem dL_law_2277 : decode cL_law 2277 = .ok (.iconst 1, 1) := dgq (p := 9) daL_law_2268 dbL_law_2268.2.2.2.2.2.1
theorem dL_law_2278 : decode cL_law 2278 = .ok (.iadd, 1) := dgq (p := 10) daL_law_2268 dbL_law_2268.2.2.2.2.2.2.1
theorem dL_law_2279 : decode cL_law 2279 = .ok (.iaload, 1) := dgq (p := 11) daL_law_2268 dbL_law_2268.2.2.2.2.2.2.2.1
theorem dL_law_2280 : decode cL_law 2280 = .ok (.aload_n 0, 1) := dgq (p := 12) daL_law_2268 dbL_law_2268.2.2.2.2.2.2.2.2.1
theorem dL_law_2281 : decode cL_law 2281 = .ok (.iload 5, 2) := dgq (p := 13) daL_law_2268 dbL_law_2268.2.2.2.2.2.2.2.2.2
def dsL_law_2283 : ByteArray := ⟨#[5, 96, 46, 42, 21, 5, 6, 96, 46, 182, 1, 114, 54, 7]⟩
theorem daL_law_2283 : agB cL_law dsL_law_2283 2283 := agB_of (n := 14) (by decide +kernel)
theorem dbL_law_2283 : (decode dsL_law_2283 0 = .ok (.iconst 2, 1) ∧ okop dsL_law_2283 0 = true) ∧ (decode dsL_law_2283 1 = .ok (.iadd, 1) ∧ okop dsL_law_2283 1 = true) ∧ (decode dsL_law_2283 2 = .ok (.iaload, 1) ∧ okop dsL_law_2283 2 = true) ∧ (decode dsL_law_2283 3 = .ok (.aload_n 0, 1) ∧ okop dsL_law_2283 3 = true) ∧ (decode dsL_law_2283 4 = .ok (.iload 5, 2) ∧ okop dsL_law_2283 4 = true) ∧ (decode dsL_law_2283 6 = .ok (.iconst 3, 1) ∧ okop dsL_law_2283 6 = true) ∧ (decode dsL_law_2283 7 = .ok (.iadd, 1) ∧ okop dsL_law_2283 7 = true) ∧ (decode dsL_law_2283 8 = .ok (.iaload, 1) ∧ okop dsL_law_2283 8 = true) ∧ (decode dsL_law_2283 9 = .ok (.invokevirtual 370, 3) ∧ okop dsL_law_2283 9 = true) ∧ (decode dsL_law_2283 12 = .ok (.istore 7, 2) ∧ okop dsL_law_2283 12 = true) := by decide +kernel
theorem dL_law_2283 : decode cL_law 2283 = .ok (.iconst 2, 1) := dgq (p := 0) daL_law_2283 dbL_law_2283.1
theorem dL_law_2284 : decode cL_law 2284 = .ok (.iadd, 1) := dgq (p := 1) daL_law_2283 dbL_law_2283.2.1
theorem dL_law_2285 : decode cL_law 2285 = .ok (.iaload, 1) := dgq (p := 2) daL_law_2283 dbL_law_2283.2.2.1
theorem dL_law_2286 : decode cL_law 2286 = .ok (.aload_n 0, 1) := dgq (p := 3) daL_law_2283 dbL_law_2283.2.2.2.1
theorem dL_law_2287 : decode cL_law 2287 = .ok (.iload 5, 2) := dgq (p := 4) daL_law_2283 dbL_law_2283.2.2.2.2.1
theorem dL_law_2289 : decode cL_law 2289 = .ok (.iconst 3, 1) := dgq (p := 6) daL_law_2283 dbL_law_2283.2.2.2.2.2.1
theorem dL_law_2290 : decode cL_law 2290 = .ok (.iadd, 1) := dgq (p := 7) daL_law_2283 dbL_law_2283.2.2.2.2.2.2.1
theorem dL_law_2291 : decode cL_law 2291 = .ok (.iaload, 1) := dgq (p := 8) daL_law_2283 dbL_law_2283.2.2.2.2.2.2.2.1
theorem dL_law_2292 : decode cL_law 2292 = .ok (.invokevirtual 370, 3) := dgq (p := 9) daL_law_2283 dbL_law_2283.2.2.2.2.2.2.2.2.1
theorem dL_law_2295 : decode cL_law 2295 = .ok (.istore 7, 2) := dgq (p := 12) daL_law_2283 dbL_law_2283.2.2.2.2.2.2.2.2.2
def dsL_law_2297 : ByteArray := ⟨#[167, 2, 115, 43, 42, 21, 5, 4, 96, 46, 42, 21, 5, 5]⟩
theorem daL_law_2297 : agB cL_law dsL_law_2297 2297 := agB_of (n := 14) (by decide +kernel)
theorem dbL_law_2297 : (decode dsL_law_2297 0 = .ok (.goto 627, 3) ∧ okop dsL_law_2297 0 = true) ∧ (decode dsL_law_2297 3 = .ok (.aload_n 1, 1) ∧ okop dsL_law_2297 3 = true) ∧ (decode dsL_law_2297 4 = .ok (.aload_n 0, 1) ∧ okop dsL_law_2297 4 = true) ∧ (decode dsL_law_2297 5 = .ok (.iload 5, 2) ∧ okop dsL_law_2297 5 = true) ∧ (decode dsL_law_2297 7 = .ok (.iconst 1, 1) ∧ okop dsL_law_2297 7 = true) ∧ (decode dsL_law_2297 8 = .ok (.iadd, 1) ∧ okop dsL_law_2297 8 = true) ∧ (decode dsL_law_2297 9 = .ok (.iaload, 1) ∧ okop dsL_law_2297 9 = true) ∧ (decode dsL_law_2297 10 = .ok (.aload_n 0, 1) ∧ okop dsL_law_2297 10 = true) ∧ (decode dsL_law_2297 11 = .ok (.iload 5, 2) ∧ okop dsL_law_2297 11 = true) ∧ (decode dsL_law_2297 13 = .ok (.iconst 2, 1) ∧ okop dsL_law_2297 13 = true) := by decide +kernel
theorem dL_law_2297 : decode cL_law 2297 = .ok (.goto 627, 3) := dgq (p := 0) daL_law_2297 dbL_law_2297.1
theorem dL_law_2300 : decode cL_law 2300 = .ok (.aload_n 1, 1) := dgq (p := 3) daL_law_2297 dbL_law_2297.2.1
theorem dL_law_2301 : decode cL_law 2301 = .ok (.aload_n 0, 1) := dgq (p := 4) daL_law_2297 dbL_law_2297.2.2.1
theorem dL_law_2302 : decode cL_law 2302 = .ok (.iload 5, 2) := dgq (p := 5) daL_law_2297 dbL_law_2297.2.2.2.1
theorem dL_law_2304 : decode cL_law 2304 = .ok (.iconst 1, 1) := dgq (p := 7) daL_law_2297 dbL_law_2297.2.2.2.2.1
theorem dL_law_2305 : decode cL_law 2305 = .ok (.iadd, 1) := dgq (p := 8) daL_law_2297 dbL_law_2297.2.2.2.2.2.1
theorem dL_law_2306 : decode cL_law 2306 = .ok (.iaload, 1) := dgq (p := 9) daL_law_2297 dbL_law_2297.2.2.2.2.2.2.1
theorem dL_law_2307 : decode cL_law 2307 = .ok (.aload_n 0, 1) := dgq (p := 10) daL_law_2297 dbL_law_2297.2.2.2.2.2.2.2.1
theorem dL_law_2308 : decode cL_law 2308 = .ok (.iload 5, 2) := dgq (p := 11) daL_law_2297 dbL_law_2297.2.2.2.2.2.2.2.2.1
theorem dL_law_2310 : decode cL_law 2310 = .ok (.iconst 2, 1) := dgq (p := 13) daL_law_2297 dbL_law_2297.2.2.2.2.2.2.2.2.2
def dsL_law_2311 : ByteArray := ⟨#[96, 46, 45, 184, 1, 115, 54, 6, 44, 42, 21, 5, 4, 96]⟩
theorem daL_law_2311 : agB cL_law dsL_law_2311 2311 := agB_of (n := 14) (by decide +kernel)
theorem dbL_law_2311 : (decode dsL_law_2311 0 = .ok (.iadd, 1) ∧ okop dsL_law_2311 0 = true) ∧ (decode dsL_law_2311 1 = .ok (.iaload, 1) ∧ okop dsL_law_2311 1 = true) ∧ (decode dsL_law_2311 2 = .ok (.aload_n 3, 1) ∧ okop dsL_law_2311 2 = true) ∧ (decode dsL_law_2311 3 = .ok (.invokestatic 371, 3) ∧ okop dsL_law_2311 3 = true) ∧ (decode dsL_law_2311 6 = .ok (.istore 6, 2) ∧ okop dsL_law_2311 6 = true) ∧ (decode dsL_law_2311 8 = .ok (.aload_n 2, 1) ∧ okop dsL_law_2311 8 = true) ∧ (decode dsL_law_2311 9 = .ok (.aload_n 0, 1) ∧ okop dsL_law_2311 9 = true) ∧ (decode dsL_law_2311 10 = .ok (.iload 5, 2) ∧ okop dsL_law_2311 10 = true) ∧ (decode dsL_law_2311 12 = .ok (.iconst 1, 1) ∧ okop dsL_law_2311 12 = true) ∧ (decode dsL_law_2311 13 = .ok (.iadd, 1) ∧ okop dsL_law_2311 13 = true) := by decide +kernel
theorem dL_law_2311 : decode cL_law 2311 = .ok (.iadd, 1) := dgq (p := 0) daL_law_2311 dbL_law_2311.1
theorem dL_law_2312 : decode cL_law 2312 = .ok (.iaload, 1) := dgq (p := 1) daL_law_2311 dbL_law_2311.2.1
theorem dL_law_2313 : decode cL_law 2313 = .ok (.aload_n 3, 1) := dgq (p := 2) daL_law_2311 dbL_law_2311.2.2.1
theorem dL_law_2314 : decode cL_law 2314 = .ok (.invokestatic 371, 3) := dgq (p := 3) daL_law_2311 dbL_law_2311.2.2.2.1
theorem dL_law_2317 : decode cL_law 2317 = .ok (.istore 6, 2) := dgq (p := 6) daL_law_2311 dbL_law_2311.2.2.2.2.1
theorem dL_law_2319 : decode cL_law 2319 = .ok (.aload_n 2, 1) := dgq (p := 8) daL_law_2311 dbL_law_2311.2.2.2.2.2.1
theorem dL_law_2320 : decode cL_law 2320 = .ok (.aload_n 0, 1) := dgq (p := 9) daL_law_2311 dbL_law_2311.2.2.2.2.2.2.1
theorem dL_law_2321 : decode cL_law 2321 = .ok (.iload 5, 2) := dgq (p := 10) daL_law_2311 dbL_law_2311.2.2.2.2.2.2.2.1
theorem dL_law_2323 : decode cL_law 2323 = .ok (.iconst 1, 1) := dgq (p := 12) daL_law_2311 dbL_law_2311.2.2.2.2.2.2.2.2.1
theorem dL_law_2324 : decode cL_law 2324 = .ok (.iadd, 1) := dgq (p := 13) daL_law_2311 dbL_law_2311.2.2.2.2.2.2.2.2.2
def dsL_law_2325 : ByteArray := ⟨#[46, 42, 21, 5, 5, 96, 46, 182, 1, 117, 54, 7, 167, 2, 75, 43]⟩
theorem daL_law_2325 : agB cL_law dsL_law_2325 2325 := agB_of (n := 16) (by decide +kernel)
theorem dbL_law_2325 : (decode dsL_law_2325 0 = .ok (.iaload, 1) ∧ okop dsL_law_2325 0 = true) ∧ (decode dsL_law_2325 1 = .ok (.aload_n 0, 1) ∧ okop dsL_law_2325 1 = true) ∧ (decode dsL_law_2325 2 = .ok (.iload 5, 2) ∧ okop dsL_law_2325 2 = true) ∧ (decode dsL_law_2325 4 = .ok (.iconst 2, 1) ∧ okop dsL_law_2325 4 = true) ∧ (decode dsL_law_2325 5 = .ok (.iadd, 1) ∧ okop dsL_law_2325 5 = true) ∧ (decode dsL_law_2325 6 = .ok (.iaload, 1) ∧ okop dsL_law_2325 6 = true) ∧ (decode dsL_law_2325 7 = .ok (.invokevirtual 373, 3) ∧ okop dsL_law_2325 7 = true) ∧ (decode dsL_law_2325 10 = .ok (.istore 7, 2) ∧ okop dsL_law_2325 10 = true) ∧ (decode dsL_law_2325 12 = .ok (.goto 587, 3) ∧ okop dsL_law_2325 12 = true) ∧ (decode dsL_law_2325 15 = .ok (.aload_n 1, 1) ∧ okop dsL_law_2325 15 = true) := by decide +kernel
theorem dL_law_2325 : decode cL_law 2325 = .ok (.iaload, 1) := dgq (p := 0) daL_law_2325 dbL_law_2325.1
theorem dL_law_2326 : decode cL_law 2326 = .ok (.aload_n 0, 1) := dgq (p := 1) daL_law_2325 dbL_law_2325.2.1
theorem dL_law_2327 : decode cL_law 2327 = .ok (.iload 5, 2) := dgq (p := 2) daL_law_2325 dbL_law_2325.2.2.1
theorem dL_law_2329 : decode cL_law 2329 = .ok (.iconst 2, 1) := dgq (p := 4) daL_law_2325 dbL_law_2325.2.2.2.1
theorem dL_law_2330 : decode cL_law 2330 = .ok (.iadd, 1) := dgq (p := 5) daL_law_2325 dbL_law_2325.2.2.2.2.1
theorem dL_law_2331 : decode cL_law 2331 = .ok (.iaload, 1) := dgq (p := 6) daL_law_2325 dbL_law_2325.2.2.2.2.2.1
theorem dL_law_2332 : decode cL_law 2332 = .ok (.invokevirtual 373, 3) := dgq (p := 7) daL_law_2325 dbL_law_2325.2.2.2.2.2.2.1
theorem dL_law_2335 : decode cL_law 2335 = .ok (.istore 7, 2) := dgq (p := 10) daL_law_2325 dbL_law_2325.2.2.2.2.2.2.2.1
theorem dL_law_2337 : decode cL_law 2337 = .ok (.goto 587, 3) := dgq (p := 12) daL_law_2325 dbL_law_2325.2.2.2.2.2.2.2.2.1
theorem dL_law_2340 : decode cL_law 2340 = .ok (.aload_n 1, 1) := dgq (p := 15) daL_law_2325 dbL_law_2325.2.2.2.2.2.2.2.2.2
def dsL_law_2341 : ByteArray := ⟨#[42, 21, 5, 4, 96, 46, 45, 184, 1, 118, 54, 6, 44, 42]⟩
theorem daL_law_2341 : agB cL_law dsL_law_2341 2341 := agB_of (n := 14) (by decide +kernel)
theorem dbL_law_2341 : (decode dsL_law_2341 0 = .ok (.aload_n 0, 1) ∧ okop dsL_law_2341 0 = true) ∧ (decode dsL_law_2341 1 = .ok (.iload 5, 2) ∧ okop dsL_law_2341 1 = true) ∧ (decode dsL_law_2341 3 = .ok (.iconst 1, 1) ∧ okop dsL_law_2341 3 = true) ∧ (decode dsL_law_2341 4 = .ok (.iadd, 1) ∧ okop dsL_law_2341 4 = true) ∧ (decode dsL_law_2341 5 = .ok (.iaload, 1) ∧ okop dsL_law_2341 5 = true) ∧ (decode dsL_law_2341 6 = .ok (.aload_n 3, 1) ∧ okop dsL_law_2341 6 = true) ∧ (decode dsL_law_2341 7 = .ok (.invokestatic 374, 3) ∧ okop dsL_law_2341 7 = true) ∧ (decode dsL_law_2341 10 = .ok (.istore 6, 2) ∧ okop dsL_law_2341 10 = true) ∧ (decode dsL_law_2341 12 = .ok (.aload_n 2, 1) ∧ okop dsL_law_2341 12 = true) ∧ (decode dsL_law_2341 13 = .ok (.aload_n 0, 1) ∧ okop dsL_law_2341 13 = true) := by decide +kernel
theorem dL_law_2341 : decode cL_law 2341 = .ok (.aload_n 0, 1) := dgq (p := 0) daL_law_2341 dbL_law_2341.1
theorem dL_law_2342 : decode cL_law 2342 = .ok (.iload 5, 2) := dgq (p := 1) daL_law_2341 dbL_law_2341.2.1
theorem dL_law_2344 : decode cL_law 2344 = .ok (.iconst 1, 1) := dgq (p := 3) daL_law_2341 dbL_law_2341.2.2.1
theorem dL_law_2345 : decode cL_law 2345 = .ok (.iadd, 1) := dgq (p := 4) daL_law_2341 dbL_law_2341.2.2.2.1
theorem dL_law_2346 : decode cL_law 2346 = .ok (.iaload, 1) := dgq (p := 5) daL_law_2341 dbL_law_2341.2.2.2.2.1
theorem dL_law_2347 : decode cL_law 2347 = .ok (.aload_n 3, 1) := dgq (p := 6) daL_law_2341 dbL_law_2341.2.2.2.2.2.1
theorem dL_law_2348 : decode cL_law 2348 = .ok (.invokestatic 374, 3) := dgq (p := 7) daL_law_2341 dbL_law_2341.2.2.2.2.2.2.1
theorem dL_law_2351 : decode cL_law 2351 = .ok (.istore 6, 2) := dgq (p := 10) daL_law_2341 dbL_law_2341.2.2.2.2.2.2.2.1
theorem dL_law_2353 : decode cL_law 2353 = .ok (.aload_n 2, 1) := dgq (p := 12) daL_law_2341 dbL_law_2341.2.2.2.2.2.2.2.2.1
theorem dL_law_2354 : decode cL_law 2354 = .ok (.aload_n 0, 1) := dgq (p := 13) daL_law_2341 dbL_law_2341.2.2.2.2.2.2.2.2.2
def dsL_law_2355 : ByteArray := ⟨#[21, 5, 4, 96, 46, 182, 1, 120, 54, 7, 167, 2, 47, 43, 42, 21, 5]⟩
theorem daL_law_2355 : agB cL_law dsL_law_2355 2355 := agB_of (n := 17) (by decide +kernel)
theorem dbL_law_2355 : (decode dsL_law_2355 0 = .ok (.iload 5, 2) ∧ okop dsL_law_2355 0 = true) ∧ (decode dsL_law_2355 2 = .ok (.iconst 1, 1) ∧ okop dsL_law_2355 2 = true) ∧ (decode dsL_law_2355 3 = .ok (.iadd, 1) ∧ okop dsL_law_2355 3 = true) ∧ (decode dsL_law_2355 4 = .ok (.iaload, 1) ∧ okop dsL_law_2355 4 = true) ∧ (decode dsL_law_2355 5 = .ok (.invokevirtual 376, 3) ∧ okop dsL_law_2355 5 = true) ∧ (decode dsL_law_2355 8 = .ok (.istore 7, 2) ∧ okop dsL_law_2355 8 = true) ∧ (decode dsL_law_2355 10 = .ok (.goto 559, 3) ∧ okop dsL_law_2355 10 = true) ∧ (decode dsL_law_2355 13 = .ok (.aload_n 1, 1) ∧ okop dsL_law_2355 13 = true) ∧ (decode dsL_law_2355 14 = .ok (.aload_n 0, 1) ∧ okop dsL_law_2355 14 = true) ∧ (decode dsL_law_2355 15 = .ok (.iload 5, 2) ∧ okop dsL_law_2355 15 = true) := by decide +kernel
theorem dL_law_2355 : decode cL_law 2355 = .ok (.iload 5, 2) := dgq (p := 0) daL_law_2355 dbL_law_2355.1
theorem dL_law_2357 : decode cL_law 2357 = .ok (.iconst 1, 1) := dgq (p := 2) daL_law_2355 dbL_law_2355.2.1
theorem dL_law_2358 : decode cL_law 2358 = .ok (.iadd, 1) := dgq (p := 3) daL_law_2355 dbL_law_2355.2.2.1
theorem dL_law_2359 : decode cL_law 2359 = .ok (.iaload, 1) := dgq (p := 4) daL_law_2355 dbL_law_2355.2.2.2.1
theorem dL_law_2360 : decode cL_law 2360 = .ok (.invokevirtual 376, 3) := dgq (p := 5) daL_law_2355 dbL_law_2355.2.2.2.2.1
theorem dL_law_2363 : decode cL_law 2363 = .ok (.istore 7, 2) := dgq (p := 8) daL_law_2355 dbL_law_2355.2.2.2.2.2.1
theorem dL_law_2365 : decode cL_law 2365 = .ok (.goto 559, 3) := dgq (p := 10) daL_law_2355 dbL_law_2355.2.2.2.2.2.2.1
theorem dL_law_2368 : decode cL_law 2368 = .ok (.aload_n 1, 1) := dgq (p := 13) daL_law_2355 dbL_law_2355.2.2.2.2.2.2.2.1
theorem dL_law_2369 : decode cL_law 2369 = .ok (.aload_n 0, 1) := dgq (p := 14) daL_law_2355 dbL_law_2355.2.2.2.2.2.2.2.2.1
theorem dL_law_2370 : decode cL_law 2370 = .ok (.iload 5, 2) := dgq (p := 15) daL_law_2355 dbL_law_2355.2.2.2.2.2.2.2.2.2
def dsL_law_2372 : ByteArray := ⟨#[4, 96, 46, 42, 21, 5, 5, 96, 46, 45, 184, 1, 121]⟩
theorem daL_law_2372 : agB cL_law dsL_law_2372 2372 := agB_of (n := 13) (by decide +kernel)
theorem dbL_law_2372 : (decode dsL_law_2372 0 = .ok (.iconst 1, 1) ∧ okop dsL_law_2372 0 = true) ∧ (decode dsL_law_2372 1 = .ok (.iadd, 1) ∧ okop dsL_law_2372 1 = true) ∧ (decode dsL_law_2372 2 = .ok (.iaload, 1) ∧ okop dsL_law_2372 2 = true) ∧ (decode dsL_law_2372 3 = .ok (.aload_n 0, 1) ∧ okop dsL_law_2372 3 = true) ∧ (decode dsL_law_2372 4 = .ok (.iload 5, 2) ∧ okop dsL_law_2372 4 = true) ∧ (decode dsL_law_2372 6 = .ok (.iconst 2, 1) ∧ okop dsL_law_2372 6 = true) ∧ (decode dsL_law_2372 7 = .ok (.iadd, 1) ∧ okop dsL_law_2372 7 = true) ∧ (decode dsL_law_2372 8 = .ok (.iaload, 1) ∧ okop dsL_law_2372 8 = true) ∧ (decode dsL_law_2372 9 = .ok (.aload_n 3, 1) ∧ okop dsL_law_2372 9 = true) ∧ (decode dsL_law_2372 10 = .ok (.invokestatic 377, 3) ∧ okop dsL_law_2372 10 = true) := by decide +kernel
theorem dL_law_2372 : decode cL_law 2372 = .ok (.iconst 1, 1) := dgq (p := 0) daL_law_2372 dbL_law_2372.1
theorem dL_law_2373 : decode cL_law 2373 = .ok (.iadd, 1) := dgq (p := 1) daL_law_2372 dbL_law_2372.2.1
theorem dL_law_2374 : decode cL_law 2374 = .ok (.iaload, 1) := dgq (p := 2) daL_law_2372 dbL_law_2372.2.2.1
theorem dL_law_2375 : decode cL_law 2375 = .ok (.aload_n 0, 1) := dgq (p := 3) daL_law_2372 dbL_law_2372.2.2.2.1
theorem dL_law_2376 : decode cL_law 2376 = .ok (.iload 5, 2) := dgq (p := 4) daL_law_2372 dbL_law_2372.2.2.2.2.1
theorem dL_law_2378 : decode cL_law 2378 = .ok (.iconst 2, 1) := dgq (p := 6) daL_law_2372 dbL_law_2372.2.2.2.2.2.1
theorem dL_law_2379 : decode cL_law 2379 = .ok (.iadd, 1) := dgq (p := 7) daL_law_2372 dbL_law_2372.2.2.2.2.2.2.1
theorem dL_law_2380 : decode cL_law 2380 = .ok (.iaload, 1) := dgq (p := 8) daL_law_2372 dbL_law_2372.2.2.2.2.2.2.2.1
theorem dL_law_2381 : decode cL_law 2381 = .ok (.aload_n 3, 1) := dgq (p := 9) daL_law_2372 dbL_law_2372.2.2.2.2.2.2.2.2.1
theorem dL_law_2382 : decode cL_law 2382 = .ok (.invokestatic 377, 3) := dgq (p := 10) daL_law_2372 dbL_law_2372.2.2.2.2.2.2.2.2.2
def dsL_law_2385 : ByteArray := ⟨#[54, 6, 44, 42, 21, 5, 4, 96, 46, 42, 21, 5, 5]⟩
theorem daL_law_2385 : agB cL_law dsL_law_2385 2385 := agB_of (n := 13) (by decide +kernel)
theorem dbL_law_2385 : (decode dsL_law_2385 0 = .ok (.istore 6, 2) ∧ okop dsL_law_2385 0 = true) ∧ (decode dsL_law_2385 2 = .ok (.aload_n 2, 1) ∧ okop dsL_law_2385 2 = true) ∧ (decode dsL_law_2385 3 = .ok (.aload_n 0, 1) ∧ okop dsL_law_2385 3 = true) ∧ (decode dsL_law_2385 4 = .ok (.iload 5, 2) ∧ okop dsL_law_2385 4 = true) ∧ (decode dsL_law_2385 6 = .ok (.iconst 1, 1) ∧ okop dsL_law_2385 6 = true) ∧ (decode dsL_law_2385 7 = .ok (.iadd, 1) ∧ okop dsL_law_2385 7 = true) ∧ (decode dsL_law_2385 8 = .ok (.iaload, 1) ∧ okop dsL_law_2385 8 = true) ∧ (decode dsL_law_2385 9 = .ok (.aload_n 0, 1) ∧ okop dsL_law_2385 9 = true) ∧ (decode dsL_law_2385 10 = .ok (.iload 5, 2) ∧ okop dsL_law_2385 10 = true) ∧ (decode dsL_law_2385 12 = .ok (.iconst 2, 1) ∧ okop dsL_law_2385 12 = true) := by decide +kernel
theorem dL_law_2385 : decode cL_law 2385 = .ok (.istore 6, 2) := dgq (p := 0) daL_law_2385 dbL_law_2385.1
theorem dL_law_2387 : decode cL_law 2387 = .ok (.aload_n 2, 1) := dgq (p := 2) daL_law_2385 dbL_law_2385.2.1
theorem dL_law_2388 : decode cL_law 2388 = .ok (.aload_n 0, 1) := dgq (p := 3) daL_law_2385 dbL_law_2385.2.2.1
theorem dL_law_2389 : decode cL_law 2389 = .ok (.iload 5, 2) := dgq (p := 4) daL_law_2385 dbL_law_2385.2.2.2.1
theorem dL_law_2391 : decode cL_law 2391 = .ok (.iconst 1, 1) := dgq (p := 6) daL_law_2385 dbL_law_2385.2.2.2.2.1
theorem dL_law_2392 : decode cL_law 2392 = .ok (.iadd, 1) := dgq (p := 7) daL_law_2385 dbL_law_2385.2.2.2.2.2.1
theorem dL_law_2393 : decode cL_law 2393 = .ok (.iaload, 1) := dgq (p := 8) daL_law_2385 dbL_law_2385.2.2.2.2.2.2.1
theorem dL_law_2394 : decode cL_law 2394 = .ok (.aload_n 0, 1) := dgq (p := 9) daL_law_2385 dbL_law_2385.2.2.2.2.2.2.2.1
theorem dL_law_2395 : decode cL_law 2395 = .ok (.iload 5, 2) := dgq (p := 10) daL_law_2385 dbL_law_2385.2.2.2.2.2.2.2.2.1
theorem dL_law_2397 : decode cL_law 2397 = .ok (.iconst 2, 1) := dgq (p := 12) daL_law_2385 dbL_law_2385.2.2.2.2.2.2.2.2.2
def dsL_law_2398 : ByteArray := ⟨#[96, 46, 182, 1, 123, 55, 7, 167, 2, 7, 43, 42, 21, 5, 4, 96]⟩
theorem daL_law_2398 : agB cL_law dsL_law_2398 2398 := agB_of (n := 16) (by decide +kernel)
theorem dbL_law_2398 : (decode dsL_law_2398 0 = .ok (.iadd, 1) ∧ okop dsL_law_2398 0 = true) ∧ (decode dsL_law_2398 1 = .ok (.iaload, 1) ∧ okop dsL_law_2398 1 = true) ∧ (decode dsL_law_2398 2 = .ok (.invokevirtual 379, 3) ∧ okop dsL_law_2398 2 = true) ∧ (decode dsL_law_2398 5 = .ok (.lstore 7, 2) ∧ okop dsL_law_2398 5 = true) ∧ (decode dsL_law_2398 7 = .ok (.goto 519, 3) ∧ okop dsL_law_2398 7 = true) ∧ (decode dsL_law_2398 10 = .ok (.aload_n 1, 1) ∧ okop dsL_law_2398 10 = true) ∧ (decode dsL_law_2398 11 = .ok (.aload_n 0, 1) ∧ okop dsL_law_2398 11 = true) ∧ (decode dsL_law_2398 12 = .ok (.iload 5, 2) ∧ okop dsL_law_2398 12 = true) ∧ (decode dsL_law_2398 14 = .ok (.iconst 1, 1) ∧ okop dsL_law_2398 14 = true) ∧ (decode dsL_law_2398 15 = .ok (.iadd, 1) ∧ okop dsL_law_2398 15 = true) := by decide +kernel
theorem dL_law_2398 : decode cL_law 2398 = .ok (.iadd, 1) := dgq (p := 0) daL_law_2398 dbL_law_2398.1
theorem dL_law_2399 : decode cL_law 2399 = .ok (.iaload, 1) := dgq (p := 1) daL_law_2398 dbL_law_2398.2.1
theorem dL_law_2400 : decode cL_law 2400 = .ok (.invokevirtual 379, 3) := dgq (p := 2) daL_law_2398 dbL_law_2398.2.2.1
theorem dL_law_2403 : decode cL_law 2403 = .ok (.lstore 7, 2) := dgq (p := 5) daL_law_2398 dbL_law_2398.2.2.2.1
theorem dL_law_2405 : decode cL_law 2405 = .ok (.goto 519, 3) := dgq (p := 7) daL_law_2398 dbL_law_2398.2.2.2.2.1
theorem dL_law_2408 : decode cL_law 2408 = .ok (.aload_n 1, 1) := dgq (p := 10) daL_law_2398 dbL_law_2398.2.2.2.2.2.1
theorem dL_law_2409 : decode cL_law 2409 = .ok (.aload_n 0, 1) := dgq (p := 11) daL_law_2398 dbL_law_2398.2.2.2.2.2.2.1
theorem dL_law_2410 : decode cL_law 2410 = .ok (.iload 5, 2) := dgq (p := 12) daL_law_2398 dbL_law_2398.2.2.2.2.2.2.2.1
theorem dL_law_2412 : decode cL_law 2412 = .ok (.iconst 1, 1) := dgq (p := 14) daL_law_2398 dbL_law_2398.2.2.2.2.2.2.2.2.1
theorem dL_law_2413 : decode cL_law 2413 = .ok (.iadd, 1) := dgq (p := 15) daL_law_2398 dbL_law_2398.2.2.2.2.2.2.2.2.2
def dsL_law_2414 : ByteArray := ⟨#[46, 42, 21, 5, 5, 96, 46, 42, 21, 5, 6, 96]⟩
theorem daL_law_2414 : agB cL_law dsL_law_2414 2414 := agB_of (n := 12) (by decide +kernel)
theorem dbL_law_2414 : (decode dsL_law_2414 0 = .ok (.iaload, 1) ∧ okop dsL_law_2414 0 = true) ∧ (decode dsL_law_2414 1 = .ok (.aload_n 0, 1) ∧ okop dsL_law_2414 1 = true) ∧ (decode dsL_law_2414 2 = .ok (.iload 5, 2) ∧ okop dsL_law_2414 2 = true) ∧ (decode dsL_law_2414 4 = .ok (.iconst 2, 1) ∧ okop dsL_law_2414 4 = true) ∧ (decode dsL_law_2414 5 = .ok (.iadd, 1) ∧ okop dsL_law_2414 5 = true) ∧ (decode dsL_law_2414 6 = .ok (.iaload, 1) ∧ okop dsL_law_2414 6 = true) ∧ (decode dsL_law_2414 7 = .ok (.aload_n 0, 1) ∧ okop dsL_law_2414 7 = true) ∧ (decode dsL_law_2414 8 = .ok (.iload 5, 2) ∧ okop dsL_law_2414 8 = true) ∧ (decode dsL_law_2414 10 = .ok (.iconst 3, 1) ∧ okop dsL_law_2414 10 = true) ∧ (decode dsL_law_2414 11 = .ok (.iadd, 1) ∧ okop dsL_law_2414 11 = true) := by decide +kernel
theorem dL_law_2414 : decode cL_law 2414 = .ok (.iaload, 1) := dgq (p := 0) daL_law_2414 dbL_law_2414.1
theorem dL_law_2415 : decode cL_law 2415 = .ok (.aload_n 0, 1) := dgq (p := 1) daL_law_2414 dbL_law_2414.2.1
theorem dL_law_2416 : decode cL_law 2416 = .ok (.iload 5, 2) := dgq (p := 2) daL_law_2414 dbL_law_2414.2.2.1
theorem dL_law_2418 : decode cL_law 2418 = .ok (.iconst 2, 1) := dgq (p := 4) daL_law_2414 dbL_law_2414.2.2.2.1
theorem dL_law_2419 : decode cL_law 2419 = .ok (.iadd, 1) := dgq (p := 5) daL_law_2414 dbL_law_2414.2.2.2.2.1
theorem dL_law_2420 : decode cL_law 2420 = .ok (.iaload, 1) := dgq (p := 6) daL_law_2414 dbL_law_2414.2.2.2.2.2.1
theorem dL_law_2421 : decode cL_law 2421 = .ok (.aload_n 0, 1) := dgq (p := 7) daL_law_2414 dbL_law_2414.2.2.2.2.2.2.1
theorem dL_law_2422 : decode cL_law 2422 = .ok (.iload 5, 2) := dgq (p := 8) daL_law_2414 dbL_law_2414.2.2.2.2.2.2.2.1
theorem dL_law_2424 : decode cL_law 2424 = .ok (.iconst 3, 1) := dgq (p := 10) daL_law_2414 dbL_law_2414.2.2.2.2.2.2.2.2.1
theorem dL_law_2425 : decode cL_law 2425 = .ok (.iadd, 1) := dgq (p := 11) daL_law_2414 dbL_law_2414.2.2.2.2.2.2.2.2.2
def dsL_law_2426 : ByteArray := ⟨#[46, 42, 21, 5, 7, 96, 46, 45, 184, 1, 124, 54, 6, 44]⟩
theorem daL_law_2426 : agB cL_law dsL_law_2426 2426 := agB_of (n := 14) (by decide +kernel)
theorem dbL_law_2426 : (decode dsL_law_2426 0 = .ok (.iaload, 1) ∧ okop dsL_law_2426 0 = true) ∧ (decode dsL_law_2426 1 = .ok (.aload_n 0, 1) ∧ okop dsL_law_2426 1 = true) ∧ (decode dsL_law_2426 2 = .ok (.iload 5, 2) ∧ okop dsL_law_2426 2 = true) ∧ (decode dsL_law_2426 4 = .ok (.iconst 4, 1) ∧ okop dsL_law_2426 4 = true) ∧ (decode dsL_law_2426 5 = .ok (.iadd, 1) ∧ okop dsL_law_2426 5 = true) ∧ (decode dsL_law_2426 6 = .ok (.iaload, 1) ∧ okop dsL_law_2426 6 = true) ∧ (decode dsL_law_2426 7 = .ok (.aload_n 3, 1) ∧ okop dsL_law_2426 7 = true) ∧ (decode dsL_law_2426 8 = .ok (.invokestatic 380, 3) ∧ okop dsL_law_2426 8 = true) ∧ (decode dsL_law_2426 11 = .ok (.istore 6, 2) ∧ okop dsL_law_2426 11 = true) ∧ (decode dsL_law_2426 13 = .ok (.aload_n 2, 1) ∧ okop dsL_law_2426 13 = true) := by decide +kernel
theorem dL_law_2426 : decode cL_law 2426 = .ok (.iaload, 1) := dgq (p := 0) daL_law_2426 dbL_law_2426.1
theorem dL_law_2427 : decode cL_law 2427 = .ok (.aload_n 0, 1) := dgq (p := 1) daL_law_2426 dbL_law_2426.2.1
theorem dL_law_2428 : decode cL_law 2428 = .ok (.iload 5, 2) := dgq (p := 2) daL_law_2426 dbL_law_2426.2.2.1
theorem dL_law_2430 : decode cL_law 2430 = .ok (.iconst 4, 1) := dgq (p := 4) daL_law_2426 dbL_law_2426.2.2.2.1
theorem dL_law_2431 : decode cL_law 2431 = .ok (.iadd, 1) := dgq (p := 5) daL_law_2426 dbL_law_2426.2.2.2.2.1
theorem dL_law_2432 : decode cL_law 2432 = .ok (.iaload, 1) := dgq (p := 6) daL_law_2426 dbL_law_2426.2.2.2.2.2.1
theorem dL_law_2433 : decode cL_law 2433 = .ok (.aload_n 3, 1) := dgq (p := 7) daL_law_2426 dbL_law_2426.2.2.2.2.2.2.1
theorem dL_law_2434 : decode cL_law 2434 = .ok (.invokestatic 380, 3) := dgq (p := 8) daL_law_2426 dbL_law_2426.2.2.2.2.2.2.2.1
theorem dL_law_2437 : decode cL_law 2437 = .ok (.istore 6, 2) := dgq (p := 11) daL_law_2426 dbL_law_2426.2.2.2.2.2.2.2.2.1
theorem dL_law_2439 : decode cL_law 2439 = .ok (.aload_n 2, 1) := dgq (p := 13) daL_law_2426 dbL_law_2426.2.2.2.2.2.2.2.2.2
def dsL_law_2440 : ByteArray := ⟨#[42, 21, 5, 4, 96, 46, 42, 21, 5, 5, 96, 46]⟩
theorem daL_law_2440 : agB cL_law dsL_law_2440 2440 := agB_of (n := 12) (by decide +kernel)
theorem dbL_law_2440 : (decode dsL_law_2440 0 = .ok (.aload_n 0, 1) ∧ okop dsL_law_2440 0 = true) ∧ (decode dsL_law_2440 1 = .ok (.iload 5, 2) ∧ okop dsL_law_2440 1 = true) ∧ (decode dsL_law_2440 3 = .ok (.iconst 1, 1) ∧ okop dsL_law_2440 3 = true) ∧ (decode dsL_law_2440 4 = .ok (.iadd, 1) ∧ okop dsL_law_2440 4 = true) ∧ (decode dsL_law_2440 5 = .ok (.iaload, 1) ∧ okop dsL_law_2440 5 = true) ∧ (decode dsL_law_2440 6 = .ok (.aload_n 0, 1) ∧ okop dsL_law_2440 6 = true) ∧ (decode dsL_law_2440 7 = .ok (.iload 5, 2) ∧ okop dsL_law_2440 7 = true) ∧ (decode dsL_law_2440 9 = .ok (.iconst 2, 1) ∧ okop dsL_law_2440 9 = true) ∧ (decode dsL_law_2440 10 = .ok (.iadd, 1) ∧ okop dsL_law_2440 10 = true) ∧ (decode dsL_law_2440 11 = .ok (.iaload, 1) ∧ okop dsL_law_2440 11 = true) := by decide +kernel
theorem dL_law_2440 : decode cL_law 2440 = .ok (.aload_n 0, 1) := dgq (p := 0) daL_law_2440 dbL_law_2440.1
theorem dL_law_2441 : decode cL_law 2441 = .ok (.iload 5, 2) := dgq (p := 1) daL_law_2440 dbL_law_2440.2.1
theorem dL_law_2443 : decode cL_law 2443 = .ok (.iconst 1, 1) := dgq (p := 3) daL_law_2440 dbL_law_2440.2.2.1
theorem dL_law_2444 : decode cL_law 2444 = .ok (.iadd, 1) := dgq (p := 4) daL_law_2440 dbL_law_2440.2.2.2.1
theorem dL_law_2445 : decode cL_law 2445 = .ok (.iaload, 1) := dgq (p := 5) daL_law_2440 dbL_law_2440.2.2.2.2.1
theorem dL_law_2446 : decode cL_law 2446 = .ok (.aload_n 0, 1) := dgq (p := 6) daL_law_2440 dbL_law_2440.2.2.2.2.2.1
theorem dL_law_2447 : decode cL_law 2447 = .ok (.iload 5, 2) := dgq (p := 7) daL_law_2440 dbL_law_2440.2.2.2.2.2.2.1
theorem dL_law_2449 : decode cL_law 2449 = .ok (.iconst 2, 1) := dgq (p := 9) daL_law_2440 dbL_law_2440.2.2.2.2.2.2.2.1
theorem dL_law_2450 : decode cL_law 2450 = .ok (.iadd, 1) := dgq (p := 10) daL_law_2440 dbL_law_2440.2.2.2.2.2.2.2.2.1
theorem dL_law_2451 : decode cL_law 2451 = .ok (.iaload, 1) := dgq (p := 11) daL_law_2440 dbL_law_2440.2.2.2.2.2.2.2.2.2
def dsL_law_2452 : ByteArray := ⟨#[42, 21, 5, 6, 96, 46, 42, 21, 5, 7, 96, 46]⟩
theorem daL_law_2452 : agB cL_law dsL_law_2452 2452 := agB_of (n := 12) (by decide +kernel)
theorem dbL_law_2452 : (decode dsL_law_2452 0 = .ok (.aload_n 0, 1) ∧ okop dsL_law_2452 0 = true) ∧ (decode dsL_law_2452 1 = .ok (.iload 5, 2) ∧ okop dsL_law_2452 1 = true) ∧ (decode dsL_law_2452 3 = .ok (.iconst 3, 1) ∧ okop dsL_law_2452 3 = true) ∧ (decode dsL_law_2452 4 = .ok (.iadd, 1) ∧ okop dsL_law_2452 4 = true) ∧ (decode dsL_law_2452 5 = .ok (.iaload, 1) ∧ okop dsL_law_2452 5 = true) ∧ (decode dsL_law_2452 6 = .ok (.aload_n 0, 1) ∧ okop dsL_law_2452 6 = true) ∧ (decode dsL_law_2452 7 = .ok (.iload 5, 2) ∧ okop dsL_law_2452 7 = true) ∧ (decode dsL_law_2452 9 = .ok (.iconst 4, 1) ∧ okop dsL_law_2452 9 = true) ∧ (decode dsL_law_2452 10 = .ok (.iadd, 1) ∧ okop dsL_law_2452 10 = true) ∧ (decode dsL_law_2452 11 = .ok (.iaload, 1) ∧ okop dsL_law_2452 11 = true) := by decide +kernel
theorem dL_law_2452 : decode cL_law 2452 = .ok (.aload_n 0, 1) := dgq (p := 0) daL_law_2452 dbL_law_2452.1
theorem dL_law_2453 : decode cL_law 2453 = .ok (.iload 5, 2) := dgq (p := 1) daL_law_2452 dbL_law_2452.2.1
theorem dL_law_2455 : decode cL_law 2455 = .ok (.iconst 3, 1) := dgq (p := 3) daL_law_2452 dbL_law_2452.2.2.1
theorem dL_law_2456 : decode cL_law 2456 = .ok (.iadd, 1) := dgq (p := 4) daL_law_2452 dbL_law_2452.2.2.2.1
theorem dL_law_2457 : decode cL_law 2457 = .ok (.iaload, 1) := dgq (p := 5) daL_law_2452 dbL_law_2452.2.2.2.2.1
theorem dL_law_2458 : decode cL_law 2458 = .ok (.aload_n 0, 1) := dgq (p := 6) daL_law_2452 dbL_law_2452.2.2.2.2.2.1
theorem dL_law_2459 : decode cL_law 2459 = .ok (.iload 5, 2) := dgq (p := 7) daL_law_2452 dbL_law_2452.2.2.2.2.2.2.1
theorem dL_law_2461 : decode cL_law 2461 = .ok (.iconst 4, 1) := dgq (p := 9) daL_law_2452 dbL_law_2452.2.2.2.2.2.2.2.1
theorem dL_law_2462 : decode cL_law 2462 = .ok (.iadd, 1) := dgq (p := 10) daL_law_2452 dbL_law_2452.2.2.2.2.2.2.2.2.1
theorem dL_law_2463 : decode cL_law 2463 = .ok (.iaload, 1) := dgq (p := 11) daL_law_2452 dbL_law_2452.2.2.2.2.2.2.2.2.2
def dsL_law_2464 : ByteArray := ⟨#[182, 1, 126, 54, 7, 167, 1, 199, 43, 42, 21, 5, 4, 96, 46, 45]⟩
theorem daL_law_2464 : agB cL_law dsL_law_2464 2464 := agB_of (n := 16) (by decide +kernel)
theorem dbL_law_2464 : (decode dsL_law_2464 0 = .ok (.invokevirtual 382, 3) ∧ okop dsL_law_2464 0 = true) ∧ (decode dsL_law_2464 3 = .ok (.istore 7, 2) ∧ okop dsL_law_2464 3 = true) ∧ (decode dsL_law_2464 5 = .ok (.goto 455, 3) ∧ okop dsL_law_2464 5 = true) ∧ (decode dsL_law_2464 8 = .ok (.aload_n 1, 1) ∧ okop dsL_law_2464 8 = true) ∧ (decode dsL_law_2464 9 = .ok (.aload_n 0, 1) ∧ okop dsL_law_2464 9 = true) ∧ (decode dsL_law_2464 10 = .ok (.iload 5, 2) ∧ okop dsL_law_2464 10 = true) ∧ (decode dsL_law_2464 12 = .ok (.iconst 1, 1) ∧ okop dsL_law_2464 12 = true) ∧ (decode dsL_law_2464 13 = .ok (.iadd, 1) ∧ okop dsL_law_2464 13 = true) ∧ (decode dsL_law_2464 14 = .ok (.iaload, 1) ∧ okop dsL_law_2464 14 = true) ∧ (decode dsL_law_2464 15 = .ok (.aload_n 3, 1) ∧ okop dsL_law_2464 15 = true) := by decide +kernel
theorem dL_law_2464 : decode cL_law 2464 = .ok (.invokevirtual 382, 3) := dgq (p := 0) daL_law_2464 dbL_law_2464.1
theorem dL_law_2467 : decode cL_law 2467 = .ok (.istore 7, 2) := dgq (p := 3) daL_law_2464 dbL_law_2464.2.1
theorem dL_law_2469 : decode cL_law 2469 = .ok (.goto 455, 3) := dgq (p := 5) daL_law_2464 dbL_law_2464.2.2.1
theorem dL_law_2472 : decode cL_law 2472 = .ok (.aload_n 1, 1) := dgq (p := 8) daL_law_2464 dbL_law_2464.2.2.2.1
theorem dL_law_2473 : decode cL_law 2473 = .ok (.aload_n 0, 1) := dgq (p := 9) daL_law_2464 dbL_law_2464.2.2.2.2.1
theorem dL_law_2474 : decode cL_law 2474 = .ok (.iload 5, 2) := dgq (p := 10) daL_law_2464 dbL_law_2464.2.2.2.2.2.1
theorem dL_law_2476 : decode cL_law 2476 = .ok (.iconst 1, 1) := dgq (p := 12) daL_law_2464 dbL_law_2464.2.2.2.2.2.2.1
theorem dL_law_2477 : decode cL_law 2477 = .ok (.iadd, 1) := dgq (p := 13) daL_law_2464 dbL_law_2464.2.2.2.2.2.2.2.1
theorem dL_law_2478 : decode cL_law 2478 = .ok (.iaload, 1) := dgq (p := 14) daL_law_2464 dbL_law_2464.2.2.2.2.2.2.2.2.1
theorem dL_law_2479 : decode cL_law 2479 = .ok (.aload_n 3, 1) := dgq (p := 15) daL_law_2464 dbL_law_2464.2.2.2.2.2.2.2.2.2
def dsL_law_2480 : ByteArray := ⟨#[184, 1, 127, 54, 6, 44, 42, 21, 5, 4, 96, 46, 182, 1, 129, 55, 7]⟩
theorem daL_law_2480 : agB cL_law dsL_law_2480 2480 := agB_of (n := 17) (by decide +kernel)
theorem dbL_law_2480 : (decode dsL_law_2480 0 = .ok (.invokestatic 383, 3) ∧ okop dsL_law_2480 0 = true) ∧ (decode dsL_law_2480 3 = .ok (.istore 6, 2) ∧ okop dsL_law_2480 3 = true) ∧ (decode dsL_law_2480 5 = .ok (.aload_n 2, 1) ∧ okop dsL_law_2480 5 = true) ∧ (decode dsL_law_2480 6 = .ok (.aload_n 0, 1) ∧ okop dsL_law_2480 6 = true) ∧ (decode dsL_law_2480 7 = .ok (.iload 5, 2) ∧ okop dsL_law_2480 7 = true) ∧ (decode dsL_law_2480 9 = .ok (.iconst 1, 1) ∧ okop dsL_law_2480 9 = true) ∧ (decode dsL_law_2480 10 = .ok (.iadd, 1) ∧ okop dsL_law_2480 10 = true) ∧ (decode dsL_law_2480 11 = .ok (.iaload, 1) ∧ okop dsL_law_2480 11 = true) ∧ (decode dsL_law_2480 12 = .ok (.invokevirtual 385, 3) ∧ okop dsL_law_2480 12 = true) ∧ (decode dsL_law_2480 15 = .ok (.lstore 7, 2) ∧ okop dsL_law_2480 15 = true) := by decide +kernel
theorem dL_law_2480 : decode cL_law 2480 = .ok (.invokestatic 383, 3) := dgq (p := 0) daL_law_2480 dbL_law_2480.1
theorem dL_law_2483 : decode cL_law 2483 = .ok (.istore 6, 2) := dgq (p := 3) daL_law_2480 dbL_law_2480.2.1
theorem dL_law_2485 : decode cL_law 2485 = .ok (.aload_n 2, 1) := dgq (p := 5) daL_law_2480 dbL_law_2480.2.2.1
theorem dL_law_2486 : decode cL_law 2486 = .ok (.aload_n 0, 1) := dgq (p := 6) daL_law_2480 dbL_law_2480.2.2.2.1
theorem dL_law_2487 : decode cL_law 2487 = .ok (.iload 5, 2) := dgq (p := 7) daL_law_2480 dbL_law_2480.2.2.2.2.1
theorem dL_law_2489 : decode cL_law 2489 = .ok (.iconst 1, 1) := dgq (p := 9) daL_law_2480 dbL_law_2480.2.2.2.2.2.1
theorem dL_law_2490 : decode cL_law 2490 = .ok (.iadd, 1) := dgq (p := 10) daL_law_2480 dbL_law_2480.2.2.2.2.2.2.1
theorem dL_law_2491 : decode cL_law 2491 = .ok (.iaload, 1) := dgq (p := 11) daL_law_2480 dbL_law_2480.2.2.2.2.2.2.2.1
theorem dL_law_2492 : decode cL_law 2492 = .ok (.invokevirtual 385, 3) := dgq (p := 12) daL_law_2480 dbL_law_2480.2.2.2.2.2.2.2.2.1
theorem dL_law_2495 : decode cL_law 2495 = .ok (.lstore 7, 2) := dgq (p := 15) daL_law_2480 dbL_law_2480.2.2.2.2.2.2.2.2.2
def dsL_law_2497 : ByteArray := ⟨#[167, 1, 171, 43, 42, 21, 5, 4, 96, 46, 42, 21, 5, 5]⟩
theorem daL_law_2497 : agB cL_law dsL_law_2497 2497 := agB_of (n := 14) (by decide +kernel)
theorem dbL_law_2497 : (decode dsL_law_2497 0 = .ok (.goto 427, 3) ∧ okop dsL_law_2497 0 = true) ∧ (decode dsL_law_2497 3 = .ok (.aload_n 1, 1) ∧ okop dsL_law_2497 3 = true) ∧ (decode dsL_law_2497 4 = .ok (.aload_n 0, 1) ∧ okop dsL_law_2497 4 = true) ∧ (decode dsL_law_2497 5 = .ok (.iload 5, 2) ∧ okop dsL_law_2497 5 = true) ∧ (decode dsL_law_2497 7 = .ok (.iconst 1, 1) ∧ okop dsL_law_2497 7 = true) ∧ (decode dsL_law_2497 8 = .ok (.iadd, 1) ∧ okop dsL_law_2497 8 = true) ∧ (decode dsL_law_2497 9 = .ok (.iaload, 1) ∧ okop dsL_law_2497 9 = true) ∧ (decode dsL_law_2497 10 = .ok (.aload_n 0, 1) ∧ okop dsL_law_2497 10 = true) ∧ (decode dsL_law_2497 11 = .ok (.iload 5, 2) ∧ okop dsL_law_2497 11 = true) ∧ (decode dsL_law_2497 13 = .ok (.iconst 2, 1) ∧ okop dsL_law_2497 13 = true) := by decide +kernel
theorem dL_law_2497 : decode cL_law 2497 = .ok (.goto 427, 3) := dgq (p := 0) daL_law_2497 dbL_law_2497.1
theorem dL_law_2500 : decode cL_law 2500 = .ok (.aload_n 1, 1) := dgq (p := 3) daL_law_2497 dbL_law_2497.2.1
theorem dL_law_2501 : decode cL_law 2501 = .ok (.aload_n 0, 1) := dgq (p := 4) daL_law_2497 dbL_law_2497.2.2.1
theorem dL_law_2502 : decode cL_law 2502 = .ok (.iload 5, 2) := dgq (p := 5) daL_law_2497 dbL_law_2497.2.2.2.1
theorem dL_law_2504 : decode cL_law 2504 = .ok (.iconst 1, 1) := dgq (p := 7) daL_law_2497 dbL_law_2497.2.2.2.2.1
theorem dL_law_2505 : decode cL_law 2505 = .ok (.iadd, 1) := dgq (p := 8) daL_law_2497 dbL_law_2497.2.2.2.2.2.1
theorem dL_law_2506 : decode cL_law 2506 = .ok (.iaload, 1) := dgq (p := 9) daL_law_2497 dbL_law_2497.2.2.2.2.2.2.1
theorem dL_law_2507 : decode cL_law 2507 = .ok (.aload_n 0, 1) := dgq (p := 10) daL_law_2497 dbL_law_2497.2.2.2.2.2.2.2.1
theorem dL_law_2508 : decode cL_law 2508 = .ok (.iload 5, 2) := dgq (p := 11) daL_law_2497 dbL_law_2497.2.2.2.2.2.2.2.2.1
theorem dL_law_2510 : decode cL_law 2510 = .ok (.iconst 2, 1) := dgq (p := 13) daL_law_2497 dbL_law_2497.2.2.2.2.2.2.2.2.2
def dsL_law_2511 : ByteArray := ⟨#[96, 46, 42, 21, 5, 6, 96, 46, 45, 184, 1, 130, 54, 6]⟩
theorem daL_law_2511 : agB cL_law dsL_law_2511 2511 := agB_of (n := 14) (by decide +kernel)
theorem dbL_law_2511 : (decode dsL_law_2511 0 = .ok (.iadd, 1) ∧ okop dsL_law_2511 0 = true) ∧ (decode dsL_law_2511 1 = .ok (.iaload, 1) ∧ okop dsL_law_2511 1 = true) ∧ (decode dsL_law_2511 2 = .ok (.aload_n 0, 1) ∧ okop dsL_law_2511 2 = true) ∧ (decode dsL_law_2511 3 = .ok (.iload 5, 2) ∧ okop dsL_law_2511 3 = true) ∧ (decode dsL_law_2511 5 = .ok (.iconst 3, 1) ∧ okop dsL_law_2511 5 = true) ∧ (decode dsL_law_2511 6 = .ok (.iadd, 1) ∧ okop dsL_law_2511 6 = true) ∧ (decode dsL_law_2511 7 = .ok (.iaload, 1) ∧ okop dsL_law_2511 7 = true) ∧ (decode dsL_law_2511 8 = .ok (.aload_n 3, 1) ∧ okop dsL_law_2511 8 = true) ∧ (decode dsL_law_2511 9 = .ok (.invokestatic 386, 3) ∧ okop dsL_law_2511 9 = true) ∧ (decode dsL_law_2511 12 = .ok (.istore 6, 2) ∧ okop dsL_law_2511 12 = true) := by decide +kernel
theorem dL_law_2511 : decode cL_law 2511 = .ok (.iadd, 1) := dgq (p := 0) daL_law_2511 dbL_law_2511.1
theorem dL_law_2512 : decode cL_law 2512 = .ok (.iaload, 1) := dgq (p := 1) daL_law_2511 dbL_law_2511.2.1
theorem dL_law_2513 : decode cL_law 2513 = .ok (.aload_n 0, 1) := dgq (p := 2) daL_law_2511 dbL_law_2511.2.2.1
theorem dL_law_2514 : decode cL_law 2514 = .ok (.iload 5, 2) := dgq (p := 3) daL_law_2511 dbL_law_2511.2.2.2.1
theorem dL_law_2516 : decode cL_law 2516 = .ok (.iconst 3, 1) := dgq (p := 5) daL_law_2511 dbL_law_2511.2.2.2.2.1
theorem dL_law_2517 : decode cL_law 2517 = .ok (.iadd, 1) := dgq (p := 6) daL_law_2511 dbL_law_2511.2.2.2.2.2.1
theorem dL_law_2518 : decode cL_law 2518 = .ok (.iaload, 1) := dgq (p := 7) daL_law_2511 dbL_law_2511.2.2.2.2.2.2.1
theorem dL_law_2519 : decode cL_law 2519 = .ok (.aload_n 3, 1) := dgq (p := 8) daL_law_2511 dbL_law_2511.2.2.2.2.2.2.2.1
theorem dL_law_2520 : decode cL_law 2520 = .ok (.invokestatic 386, 3) := dgq (p := 9) daL_law_2511 dbL_law_2511.2.2.2.2.2.2.2.2.1
theorem dL_law_2523 : decode cL_law 2523 = .ok (.istore 6, 2) := dgq (p := 12) daL_law_2511 dbL_law_2511.2.2.2.2.2.2.2.2.2
def dsL_law_2525 : ByteArray := ⟨#[44, 42, 21, 5, 4, 96, 46, 42, 21, 5, 5, 96]⟩
theorem daL_law_2525 : agB cL_law dsL_law_2525 2525 := agB_of (n := 12) (by decide +kernel)
theorem dbL_law_2525 : (decode dsL_law_2525 0 = .ok (.aload_n 2, 1) ∧ okop dsL_law_2525 0 = true) ∧ (decode dsL_law_2525 1 = .ok (.aload_n 0, 1) ∧ okop dsL_law_2525 1 = true) ∧ (decode dsL_law_2525 2 = .ok (.iload 5, 2) ∧ okop dsL_law_2525 2 = true) ∧ (decode dsL_law_2525 4 = .ok (.iconst 1, 1) ∧ okop dsL_law_2525 4 = true) ∧ (decode dsL_law_2525 5 = .ok (.iadd, 1) ∧ okop dsL_law_2525 5 = true) ∧ (decode dsL_law_2525 6 = .ok (.iaload, 1) ∧ okop dsL_law_2525 6 = true) ∧ (decode dsL_law_2525 7 = .ok (.aload_n 0, 1) ∧ okop dsL_law_2525 7 = true) ∧ (decode dsL_law_2525 8 = .ok (.iload 5, 2) ∧ okop dsL_law_2525 8 = true) ∧ (decode dsL_law_2525 10 = .ok (.iconst 2, 1) ∧ okop dsL_law_2525 10 = true) ∧ (decode dsL_law_2525 11 = .ok (.iadd, 1) ∧ okop dsL_law_2525 11 = true) := by decide +kernel
theorem dL_law_2525 : decode cL_law 2525 = .ok (.aload_n 2, 1) := dgq (p := 0) daL_law_2525 dbL_law_2525.1
theorem dL_law_2526 : decode cL_law 2526 = .ok (.aload_n 0, 1) := dgq (p := 1) daL_law_2525 dbL_law_2525.2.1
theorem dL_law_2527 : decode cL_law 2527 = .ok (.iload 5, 2) := dgq (p := 2) daL_law_2525 dbL_law_2525.2.2.1
theorem dL_law_2529 : decode cL_law 2529 = .ok (.iconst 1, 1) := dgq (p := 4) daL_law_2525 dbL_law_2525.2.2.2.1
theorem dL_law_2530 : decode cL_law 2530 = .ok (.iadd, 1) := dgq (p := 5) daL_law_2525 dbL_law_2525.2.2.2.2.1
theorem dL_law_2531 : decode cL_law 2531 = .ok (.iaload, 1) := dgq (p := 6) daL_law_2525 dbL_law_2525.2.2.2.2.2.1
theorem dL_law_2532 : decode cL_law 2532 = .ok (.aload_n 0, 1) := dgq (p := 7) daL_law_2525 dbL_law_2525.2.2.2.2.2.2.1
theorem dL_law_2533 : decode cL_law 2533 = .ok (.iload 5, 2) := dgq (p := 8) daL_law_2525 dbL_law_2525.2.2.2.2.2.2.2.1
theorem dL_law_2535 : decode cL_law 2535 = .ok (.iconst 2, 1) := dgq (p := 10) daL_law_2525 dbL_law_2525.2.2.2.2.2.2.2.2.1
theorem dL_law_2536 : decode cL_law 2536 = .ok (.iadd, 1) := dgq (p := 11) daL_law_2525 dbL_law_2525.2.2.2.2.2.2.2.2.2
def dsL_law_2537 : ByteArray := ⟨#[46, 42, 21, 5, 6, 96, 46, 182, 1, 132, 54, 7, 167, 1, 119, 43]⟩
theorem daL_law_2537 : agB cL_law dsL_law_2537 2537 := agB_of (n := 16) (by decide +kernel)
theorem dbL_law_2537 : (decode dsL_law_2537 0 = .ok (.iaload, 1) ∧ okop dsL_law_2537 0 = true) ∧ (decode dsL_law_2537 1 = .ok (.aload_n 0, 1) ∧ okop dsL_law_2537 1 = true) ∧ (decode dsL_law_2537 2 = .ok (.iload 5, 2) ∧ okop dsL_law_2537 2 = true) ∧ (decode dsL_law_2537 4 = .ok (.iconst 3, 1) ∧ okop dsL_law_2537 4 = true) ∧ (decode dsL_law_2537 5 = .ok (.iadd, 1) ∧ okop dsL_law_2537 5 = true) ∧ (decode dsL_law_2537 6 = .ok (.iaload, 1) ∧ okop dsL_law_2537 6 = true) ∧ (decode dsL_law_2537 7 = .ok (.invokevirtual 388, 3) ∧ okop dsL_law_2537 7 = true) ∧ (decode dsL_law_2537 10 = .ok (.istore 7, 2) ∧ okop dsL_law_2537 10 = true) ∧ (decode dsL_law_2537 12 = .ok (.goto 375, 3) ∧ okop dsL_law_2537 12 = true) ∧ (decode dsL_law_2537 15 = .ok (.aload_n 1, 1) ∧ okop dsL_law_2537 15 = true) := by decide +kernel
theorem dL_law_2537 : decode cL_law 2537 = .ok (.iaload, 1) := dgq (p := 0) daL_law_2537 dbL_law_2537.1
theorem dL_law_2538 : decode cL_law 2538 = .ok (.aload_n 0, 1) := dgq (p := 1) daL_law_2537 dbL_law_2537.2.1
theorem dL_law_2539 : decode cL_law 2539 = .ok (.iload 5, 2) := dgq (p := 2) daL_law_2537 dbL_law_2537.2.2.1
theorem dL_law_2541 : decode cL_law 2541 = .ok (.iconst 3, 1) := dgq (p := 4) daL_law_2537 dbL_law_2537.2.2.2.1
theorem dL_law_2542 : decode cL_law 2542 = .ok (.iadd, 1) := dgq (p := 5) daL_law_2537 dbL_law_2537.2.2.2.2.1
theorem dL_law_2543 : decode cL_law 2543 = .ok (.iaload, 1) := dgq (p := 6) daL_law_2537 dbL_law_2537.2.2.2.2.2.1
theorem dL_law_2544 : decode cL_law 2544 = .ok (.invokevirtual 388, 3) := dgq (p := 7) daL_law_2537 dbL_law_2537.2.2.2.2.2.2.1
theorem dL_law_2547 : decode cL_law 2547 = .ok (.istore 7, 2) := dgq (p := 10) daL_law_2537 dbL_law_2537.2.2.2.2.2.2.2.1
theorem dL_law_2549 : decode cL_law 2549 = .ok (.goto 375, 3) := dgq (p := 12) daL_law_2537 dbL_law_2537.2.2.2.2.2.2.2.2.1
theorem dL_law_2552 : decode cL_law 2552 = .ok (.aload_n 1, 1) := dgq (p := 15) daL_law_2537 dbL_law_2537.2.2.2.2.2.2.2.2.2
def dsL_law_2553 : ByteArray := ⟨#[42, 21, 5, 4, 96, 46, 45, 184, 1, 133, 54, 6, 44, 42]⟩
theorem daL_law_2553 : agB cL_law dsL_law_2553 2553 := agB_of (n := 14) (by decide +kernel)
theorem dbL_law_2553 : (decode dsL_law_2553 0 = .ok (.aload_n 0, 1) ∧ okop dsL_law_2553 0 = true) ∧ (decode dsL_law_2553 1 = .ok (.iload 5, 2) ∧ okop dsL_law_2553 1 = true) ∧ (decode dsL_law_2553 3 = .ok (.iconst 1, 1) ∧ okop dsL_law_2553 3 = true) ∧ (decode dsL_law_2553 4 = .ok (.iadd, 1) ∧ okop dsL_law_2553 4 = true) ∧ (decode dsL_law_2553 5 = .ok (.iaload, 1) ∧ okop dsL_law_2553 5 = true) ∧ (decode dsL_law_2553 6 = .ok (.aload_n 3, 1) ∧ okop dsL_law_2553 6 = true) ∧ (decode dsL_law_2553 7 = .ok (.invokestatic 389, 3) ∧ okop dsL_law_2553 7 = true) ∧ (decode dsL_law_2553 10 = .ok (.istore 6, 2) ∧ okop dsL_law_2553 10 = true) ∧ (decode dsL_law_2553 12 = .ok (.aload_n 2, 1) ∧ okop dsL_law_2553 12 = true) ∧ (decode dsL_law_2553 13 = .ok (.aload_n 0, 1) ∧ okop dsL_law_2553 13 = true) := by decide +kernel
theorem dL_law_2553 : decode cL_law 2553 = .ok (.aload_n 0, 1) := dgq (p := 0) daL_law_2553 dbL_law_2553.1
theorem dL_law_2554 : decode cL_law 2554 = .ok (.iload 5, 2) := dgq (p := 1) daL_law_2553 dbL_law_2553.2.1
theorem dL_law_2556 : decode cL_law 2556 = .ok (.iconst 1, 1) := dgq (p := 3) daL_law_2553 dbL_law_2553.2.2.1
theorem dL_law_2557 : decode cL_law 2557 = .ok (.iadd, 1) := dgq (p := 4) daL_law_2553 dbL_law_2553.2.2.2.1
theorem dL_law_2558 : decode cL_law 2558 = .ok (.iaload, 1) := dgq (p := 5) daL_law_2553 dbL_law_2553.2.2.2.2.1
theorem dL_law_2559 : decode cL_law 2559 = .ok (.aload_n 3, 1) := dgq (p := 6) daL_law_2553 dbL_law_2553.2.2.2.2.2.1
theorem dL_law_2560 : decode cL_law 2560 = .ok (.invokestatic 389, 3) := dgq (p := 7) daL_law_2553 dbL_law_2553.2.2.2.2.2.2.1
theorem dL_law_2563 : decode cL_law 2563 = .ok (.istore 6, 2) := dgq (p := 10) daL_law_2553 dbL_law_2553.2.2.2.2.2.2.2.1
theorem dL_law_2565 : decode cL_law 2565 = .ok (.aload_n 2, 1) := dgq (p := 12) daL_law_2553 dbL_law_2553.2.2.2.2.2.2.2.2.1
theorem dL_law_2566 : decode cL_law 2566 = .ok (.aload_n 0, 1) := dgq (p := 13) daL_law_2553 dbL_law_2553.2.2.2.2.2.2.2.2.2
def dsL_law_2567 : ByteArray := ⟨#[21, 5, 4, 96, 46, 182, 1, 135, 54, 7, 167, 1, 91, 43, 42, 21, 5]⟩
theorem daL_law_2567 : agB cL_law dsL_law_2567 2567 := agB_of (n := 17) (by decide +kernel)
theorem dbL_law_2567 : (decode dsL_law_2567 0 = .ok (.iload 5, 2) ∧ okop dsL_law_2567 0 = true) ∧ (decode dsL_law_2567 2 = .ok (.iconst 1, 1) ∧ okop dsL_law_2567 2 = true) ∧ (decode dsL_law_2567 3 = .ok (.iadd, 1) ∧ okop dsL_law_2567 3 = true) ∧ (decode dsL_law_2567 4 = .ok (.iaload, 1) ∧ okop dsL_law_2567 4 = true) ∧ (decode dsL_law_2567 5 = .ok (.invokevirtual 391, 3) ∧ okop dsL_law_2567 5 = true) ∧ (decode dsL_law_2567 8 = .ok (.istore 7, 2) ∧ okop dsL_law_2567 8 = true) ∧ (decode dsL_law_2567 10 = .ok (.goto 347, 3) ∧ okop dsL_law_2567 10 = true) ∧ (decode dsL_law_2567 13 = .ok (.aload_n 1, 1) ∧ okop dsL_law_2567 13 = true) ∧ (decode dsL_law_2567 14 = .ok (.aload_n 0, 1) ∧ okop dsL_law_2567 14 = true) ∧ (decode dsL_law_2567 15 = .ok (.iload 5, 2) ∧ okop dsL_law_2567 15 = true) := by decide +kernel
theorem dL_law_2567 : decode cL_law 2567 = .ok (.iload 5, 2) := dgq (p := 0) daL_law_2567 dbL_law_2567.1
theorem dL_law_2569 : decode cL_law 2569 = .ok (.iconst 1, 1) := dgq (p := 2) daL_law_2567 dbL_law_2567.2.1
theorem dL_law_2570 : decode cL_law 2570 = .ok (.iadd, 1) := dgq (p := 3) daL_law_2567 dbL_law_2567.2.2.1
theorem dL_law_2571 : decode cL_law 2571 = .ok (.iaload, 1) := dgq (p := 4) daL_law_2567 dbL_law_2567.2.2.2.1
theorem dL_law_2572 : decode cL_law 2572 = .ok (.invokevirtual 391, 3) := dgq (p := 5) daL_law_2567 dbL_law_2567.2.2.2.2.1
theorem dL_law_2575 : decode cL_law 2575 = .ok (.istore 7, 2) := dgq (p := 8) daL_law_2567 dbL_law_2567.2.2.2.2.2.1
theorem dL_law_2577 : decode cL_law 2577 = .ok (.goto 347, 3) := dgq (p := 10) daL_law_2567 dbL_law_2567.2.2.2.2.2.2.1
theorem dL_law_2580 : decode cL_law 2580 = .ok (.aload_n 1, 1) := dgq (p := 13) daL_law_2567 dbL_law_2567.2.2.2.2.2.2.2.1
theorem dL_law_2581 : decode cL_law 2581 = .ok (.aload_n 0, 1) := dgq (p := 14) daL_law_2567 dbL_law_2567.2.2.2.2.2.2.2.2.1
theorem dL_law_2582 : decode cL_law 2582 = .ok (.iload 5, 2) := dgq (p := 15) daL_law_2567 dbL_law_2567.2.2.2.2.2.2.2.2.2
def dsL_law_2584 : ByteArray := ⟨#[4, 96, 46, 45, 184, 1, 136, 54, 6, 44, 42, 21, 5, 4]⟩
theorem daL_law_2584 : agB cL_law dsL_law_2584 2584 := agB_of (n := 14) (by decide +kernel)
theorem dbL_law_2584 : (decode dsL_law_2584 0 = .ok (.iconst 1, 1) ∧ okop dsL_law_2584 0 = true) ∧ (decode dsL_law_2584 1 = .ok (.iadd, 1) ∧ okop dsL_law_2584 1 = true) ∧ (decode dsL_law_2584 2 = .ok (.iaload, 1) ∧ okop dsL_law_2584 2 = true) ∧ (decode dsL_law_2584 3 = .ok (.aload_n 3, 1) ∧ okop dsL_law_2584 3 = true) ∧ (decode dsL_law_2584 4 = .ok (.invokestatic 392, 3) ∧ okop dsL_law_2584 4 = true) ∧ (decode dsL_law_2584 7 = .ok (.istore 6, 2) ∧ okop dsL_law_2584 7 = true) ∧ (decode dsL_law_2584 9 = .ok (.aload_n 2, 1) ∧ okop dsL_law_2584 9 = true) ∧ (decode dsL_law_2584 10 = .ok (.aload_n 0, 1) ∧ okop dsL_law_2584 10 = true) ∧ (decode dsL_law_2584 11 = .ok (.iload 5, 2) ∧ okop dsL_law_2584 11 = true) ∧ (decode dsL_law_2584 13 = .ok (.iconst 1, 1) ∧ okop dsL_law_2584 13 = true) := by decide +kernel
theorem dL_law_2584 : decode cL_law 2584 = .ok (.iconst 1, 1) := dgq (p := 0) daL_law_2584 dbL_law_2584.1
theorem dL_law_2585 : decode cL_law 2585 = .ok (.iadd, 1) := dgq (p := 1) daL_law_2584 dbL_law_2584.2.1
theorem dL_law_2586 : decode cL_law 2586 = .ok (.iaload, 1) := dgq (p := 2) daL_law_2584 dbL_law_2584.2.2.1
theorem dL_law_2587 : decode cL_law 2587 = .ok (.aload_n 3, 1) := dgq (p := 3) daL_law_2584 dbL_law_2584.2.2.2.1
theorem dL_law_2588 : decode cL_law 2588 = .ok (.invokestatic 392, 3) := dgq (p := 4) daL_law_2584 dbL_law_2584.2.2.2.2.1
theorem dL_law_2591 : decode cL_law 2591 = .ok (.istore 6, 2) := dgq (p := 7) daL_law_2584 dbL_law_2584.2.2.2.2.2.1
theorem dL_law_2593 : decode cL_law 2593 = .ok (.aload_n 2, 1) := dgq (p := 9) daL_law_2584 dbL_law_2584.2.2.2.2.2.2.1
theorem dL_law_2594 : decode cL_law 2594 = .ok (.aload_n 0, 1) := dgq (p := 10) daL_law_2584 dbL_law_2584.2.2.2.2.2.2.2.1
theorem dL_law_2595 : decode cL_law 2595 = .ok (.iload 5, 2) := dgq (p := 11) daL_law_2584 dbL_law_2584.2.2.2.2.2.2.2.2.1
theorem dL_law_2597 : decode cL_law 2597 = .ok (.iconst 1, 1) := dgq (p := 13) daL_law_2584 dbL_law_2584.2.2.2.2.2.2.2.2.2
def dsL_law_2598 : ByteArray := ⟨#[96, 46, 182, 1, 138, 54, 7, 167, 1, 63, 43, 42, 21, 5, 4, 96]⟩
theorem daL_law_2598 : agB cL_law dsL_law_2598 2598 := agB_of (n := 16) (by decide +kernel)
theorem dbL_law_2598 : (decode dsL_law_2598 0 = .ok (.iadd, 1) ∧ okop dsL_law_2598 0 = true) ∧ (decode dsL_law_2598 1 = .ok (.iaload, 1) ∧ okop dsL_law_2598 1 = true) ∧ (decode dsL_law_2598 2 = .ok (.invokevirtual 394, 3) ∧ okop dsL_law_2598 2 = true) ∧ (decode dsL_law_2598 5 = .ok (.istore 7, 2) ∧ okop dsL_law_2598 5 = true) ∧ (decode dsL_law_2598 7 = .ok (.goto 319, 3) ∧ okop dsL_law_2598 7 = true) ∧ (decode dsL_law_2598 10 = .ok (.aload_n 1, 1) ∧ okop dsL_law_2598 10 = true) ∧ (decode dsL_law_2598 11 = .ok (.aload_n 0, 1) ∧ okop dsL_law_2598 11 = true) ∧ (decode dsL_law_2598 12 = .ok (.iload 5, 2) ∧ okop dsL_law_2598 12 = true) ∧ (decode dsL_law_2598 14 = .ok (.iconst 1, 1) ∧ okop dsL_law_2598 14 = true) ∧ (decode dsL_law_2598 15 = .ok (.iadd, 1) ∧ okop dsL_law_2598 15 = true) := by decide +kernel
theorem dL_law_2598 : decode cL_law 2598 = .ok (.iadd, 1) := dgq (p := 0) daL_law_2598 dbL_law_2598.1
theorem dL_law_2599 : decode cL_law 2599 = .ok (.iaload, 1) := dgq (p := 1) daL_law_2598 dbL_law_2598.2.1
theorem dL_law_2600 : decode cL_law 2600 = .ok (.invokevirtual 394, 3) := dgq (p := 2) daL_law_2598 dbL_law_2598.2.2.1
theorem dL_law_2603 : decode cL_law 2603 = .ok (.istore 7, 2) := dgq (p := 5) daL_law_2598 dbL_law_2598.2.2.2.1
theorem dL_law_2605 : decode cL_law 2605 = .ok (.goto 319, 3) := dgq (p := 7) daL_law_2598 dbL_law_2598.2.2.2.2.1
theorem dL_law_2608 : decode cL_law 2608 = .ok (.aload_n 1, 1) := dgq (p := 10) daL_law_2598 dbL_law_2598.2.2.2.2.2.1
theorem dL_law_2609 : decode cL_law 2609 = .ok (.aload_n 0, 1) := dgq (p := 11) daL_law_2598 dbL_law_2598.2.2.2.2.2.2.1
theorem dL_law_2610 : decode cL_law 2610 = .ok (.iload 5, 2) := dgq (p := 12) daL_law_2598 dbL_law_2598.2.2.2.2.2.2.2.1
theorem dL_law_2612 : decode cL_law 2612 = .ok (.iconst 1, 1) := dgq (p := 14) daL_law_2598 dbL_law_2598.2.2.2.2.2.2.2.2.1
theorem dL_law_2613 : decode cL_law 2613 = .ok (.iadd, 1) := dgq (p := 15) daL_law_2598 dbL_law_2598.2.2.2.2.2.2.2.2.2
def dsL_law_2614 : ByteArray := ⟨#[46, 146, 42, 21, 5, 5, 96, 46, 45, 184, 1, 139, 54, 6]⟩
theorem daL_law_2614 : agB cL_law dsL_law_2614 2614 := agB_of (n := 14) (by decide +kernel)
theorem dbL_law_2614 : (decode dsL_law_2614 0 = .ok (.iaload, 1) ∧ okop dsL_law_2614 0 = true) ∧ (decode dsL_law_2614 1 = .ok (.i2c, 1) ∧ okop dsL_law_2614 1 = true) ∧ (decode dsL_law_2614 2 = .ok (.aload_n 0, 1) ∧ okop dsL_law_2614 2 = true) ∧ (decode dsL_law_2614 3 = .ok (.iload 5, 2) ∧ okop dsL_law_2614 3 = true) ∧ (decode dsL_law_2614 5 = .ok (.iconst 2, 1) ∧ okop dsL_law_2614 5 = true) ∧ (decode dsL_law_2614 6 = .ok (.iadd, 1) ∧ okop dsL_law_2614 6 = true) ∧ (decode dsL_law_2614 7 = .ok (.iaload, 1) ∧ okop dsL_law_2614 7 = true) ∧ (decode dsL_law_2614 8 = .ok (.aload_n 3, 1) ∧ okop dsL_law_2614 8 = true) ∧ (decode dsL_law_2614 9 = .ok (.invokestatic 395, 3) ∧ okop dsL_law_2614 9 = true) ∧ (decode dsL_law_2614 12 = .ok (.istore 6, 2) ∧ okop dsL_law_2614 12 = true) := by decide +kernel
theorem dL_law_2614 : decode cL_law 2614 = .ok (.iaload, 1) := dgq (p := 0) daL_law_2614 dbL_law_2614.1
theorem dL_law_2615 : decode cL_law 2615 = .ok (.i2c, 1) := dgq (p := 1) daL_law_2614 dbL_law_2614.2.1
theorem dL_law_2616 : decode cL_law 2616 = .ok (.aload_n 0, 1) := dgq (p := 2) daL_law_2614 dbL_law_2614.2.2.1
theorem dL_law_2617 : decode cL_law 2617 = .ok (.iload 5, 2) := dgq (p := 3) daL_law_2614 dbL_law_2614.2.2.2.1
theorem dL_law_2619 : decode cL_law 2619 = .ok (.iconst 2, 1) := dgq (p := 5) daL_law_2614 dbL_law_2614.2.2.2.2.1
theorem dL_law_2620 : decode cL_law 2620 = .ok (.iadd, 1) := dgq (p := 6) daL_law_2614 dbL_law_2614.2.2.2.2.2.1
theorem dL_law_2621 : decode cL_law 2621 = .ok (.iaload, 1) := dgq (p := 7) daL_law_2614 dbL_law_2614.2.2.2.2.2.2.1
theorem dL_law_2622 : decode cL_law 2622 = .ok (.aload_n 3, 1) := dgq (p := 8) daL_law_2614 dbL_law_2614.2.2.2.2.2.2.2.1
theorem dL_law_2623 : decode cL_law 2623 = .ok (.invokestatic 395, 3) := dgq (p := 9) daL_law_2614 dbL_law_2614.2.2.2.2.2.2.2.2.1
theorem dL_law_2626 : decode cL_law 2626 = .ok (.istore 6, 2) := dgq (p := 12) daL_law_2614 dbL_law_2614.2.2.2.2.2.2.2.2.2
def dsL_law_2628 : ByteArray := ⟨#[44, 42, 21, 5, 4, 96, 46, 146, 42, 21, 5, 5]⟩
theorem daL_law_2628 : agB cL_law dsL_law_2628 2628 := agB_of (n := 12) (by decide +kernel)
theorem dbL_law_2628 : (decode dsL_law_2628 0 = .ok (.aload_n 2, 1) ∧ okop dsL_law_2628 0 = true) ∧ (decode dsL_law_2628 1 = .ok (.aload_n 0, 1) ∧ okop dsL_law_2628 1 = true) ∧ (decode dsL_law_2628 2 = .ok (.iload 5, 2) ∧ okop dsL_law_2628 2 = true) ∧ (decode dsL_law_2628 4 = .ok (.iconst 1, 1) ∧ okop dsL_law_2628 4 = true) ∧ (decode dsL_law_2628 5 = .ok (.iadd, 1) ∧ okop dsL_law_2628 5 = true) ∧ (decode dsL_law_2628 6 = .ok (.iaload, 1) ∧ okop dsL_law_2628 6 = true) ∧ (decode dsL_law_2628 7 = .ok (.i2c, 1) ∧ okop dsL_law_2628 7 = true) ∧ (decode dsL_law_2628 8 = .ok (.aload_n 0, 1) ∧ okop dsL_law_2628 8 = true) ∧ (decode dsL_law_2628 9 = .ok (.iload 5, 2) ∧ okop dsL_law_2628 9 = true) ∧ (decode dsL_law_2628 11 = .ok (.iconst 2, 1) ∧ okop dsL_law_2628 11 = true) := by decide +kernel
theorem dL_law_2628 : decode cL_law 2628 = .ok (.aload_n 2, 1) := dgq (p := 0) daL_law_2628 dbL_law_2628.1
theorem dL_law_2629 : decode cL_law 2629 = .ok (.aload_n 0, 1) := dgq (p := 1) daL_law_2628 dbL_law_2628.2.1
theorem dL_law_2630 : decode cL_law 2630 = .ok (.iload 5, 2) := dgq (p := 2) daL_law_2628 dbL_law_2628.2.2.1
theorem dL_law_2632 : decode cL_law 2632 = .ok (.iconst 1, 1) := dgq (p := 4) daL_law_2628 dbL_law_2628.2.2.2.1
theorem dL_law_2633 : decode cL_law 2633 = .ok (.iadd, 1) := dgq (p := 5) daL_law_2628 dbL_law_2628.2.2.2.2.1
theorem dL_law_2634 : decode cL_law 2634 = .ok (.iaload, 1) := dgq (p := 6) daL_law_2628 dbL_law_2628.2.2.2.2.2.1
theorem dL_law_2635 : decode cL_law 2635 = .ok (.i2c, 1) := dgq (p := 7) daL_law_2628 dbL_law_2628.2.2.2.2.2.2.1
theorem dL_law_2636 : decode cL_law 2636 = .ok (.aload_n 0, 1) := dgq (p := 8) daL_law_2628 dbL_law_2628.2.2.2.2.2.2.2.1
theorem dL_law_2637 : decode cL_law 2637 = .ok (.iload 5, 2) := dgq (p := 9) daL_law_2628 dbL_law_2628.2.2.2.2.2.2.2.2.1
theorem dL_law_2639 : decode cL_law 2639 = .ok (.iconst 2, 1) := dgq (p := 11) daL_law_2628 dbL_law_2628.2.2.2.2.2.2.2.2.2
def dsL_law_2640 : ByteArray := ⟨#[96, 46, 182, 1, 142, 54, 7, 167, 1, 21, 43, 42, 21, 5, 4, 96]⟩
theorem daL_law_2640 : agB cL_law dsL_law_2640 2640 := agB_of (n := 16) (by decide +kernel)
theorem dbL_law_2640 : (decode dsL_law_2640 0 = .ok (.iadd, 1) ∧ okop dsL_law_2640 0 = true) ∧ (decode dsL_law_2640 1 = .ok (.iaload, 1) ∧ okop dsL_law_2640 1 = true) ∧ (decode dsL_law_2640 2 = .ok (.invokevirtual 398, 3) ∧ okop dsL_law_2640 2 = true) ∧ (decode dsL_law_2640 5 = .ok (.istore 7, 2) ∧ okop dsL_law_2640 5 = true) ∧ (decode dsL_law_2640 7 = .ok (.goto 277, 3) ∧ okop dsL_law_2640 7 = true) ∧ (decode dsL_law_2640 10 = .ok (.aload_n 1, 1) ∧ okop dsL_law_2640 10 = true) ∧ (decode dsL_law_2640 11 = .ok (.aload_n 0, 1) ∧ okop dsL_law_2640 11 = true) ∧ (decode dsL_law_2640 12 = .ok (.iload 5, 2) ∧ okop dsL_law_2640 12 = true) ∧ (decode dsL_law_2640 14 = .ok (.iconst 1, 1) ∧ okop dsL_law_2640 14 = true) ∧ (decode dsL_law_2640 15 = .ok (.iadd, 1) ∧ okop dsL_law_2640 15 = true) := by decide +kernel
theorem dL_law_2640 : decode cL_law 2640 = .ok (.iadd, 1) := dgq (p := 0) daL_law_2640 dbL_law_2640.1
theorem dL_law_2641 : decode cL_law 2641 = .ok (.iaload, 1) := dgq (p := 1) daL_law_2640 dbL_law_2640.2.1
theorem dL_law_2642 : decode cL_law 2642 = .ok (.invokevirtual 398, 3) := dgq (p := 2) daL_law_2640 dbL_law_2640.2.2.1
theorem dL_law_2645 : decode cL_law 2645 = .ok (.istore 7, 2) := dgq (p := 5) daL_law_2640 dbL_law_2640.2.2.2.1
theorem dL_law_2647 : decode cL_law 2647 = .ok (.goto 277, 3) := dgq (p := 7) daL_law_2640 dbL_law_2640.2.2.2.2.1
theorem dL_law_2650 : decode cL_law 2650 = .ok (.aload_n 1, 1) := dgq (p := 10) daL_law_2640 dbL_law_2640.2.2.2.2.2.1
theorem dL_law_2651 : decode cL_law 2651 = .ok (.aload_n 0, 1) := dgq (p := 11) daL_law_2640 dbL_law_2640.2.2.2.2.2.2.1
theorem dL_law_2652 : decode cL_law 2652 = .ok (.iload 5, 2) := dgq (p := 12) daL_law_2640 dbL_law_2640.2.2.2.2.2.2.2.1
theorem dL_law_2654 : decode cL_law 2654 = .ok (.iconst 1, 1) := dgq (p := 14) daL_law_2640 dbL_law_2640.2.2.2.2.2.2.2.2.1
theorem dL_law_2655 : decode cL_law 2655 = .ok (.iadd, 1) := dgq (p := 15) daL_law_2640 dbL_law_2640.2.2.2.2.2.2.2.2.2
def dsL_law_2656 : ByteArray := ⟨#[46, 42, 21, 5, 5, 96, 46, 45, 184, 1, 143, 54, 6, 44]⟩
theorem daL_law_2656 : agB cL_law dsL_law_2656 2656 := agB_of (n := 14) (by decide +kernel)
theorem dbL_law_2656 : (decode dsL_law_2656 0 = .ok (.iaload, 1) ∧ okop dsL_law_2656 0 = true) ∧ (decode dsL_law_2656 1 = .ok (.aload_n 0, 1) ∧ okop dsL_law_2656 1 = true) ∧ (decode dsL_law_2656 2 = .ok (.iload 5, 2) ∧ okop dsL_law_2656 2 = true) ∧ (decode dsL_law_2656 4 = .ok (.iconst 2, 1) ∧ okop dsL_law_2656 4 = true) ∧ (decode dsL_law_2656 5 = .ok (.iadd, 1) ∧ okop dsL_law_2656 5 = true) ∧ (decode dsL_law_2656 6 = .ok (.iaload, 1) ∧ okop dsL_law_2656 6 = true) ∧ (decode dsL_law_2656 7 = .ok (.aload_n 3, 1) ∧ okop dsL_law_2656 7 = true) ∧ (decode dsL_law_2656 8 = .ok (.invokestatic 399, 3) ∧ okop dsL_law_2656 8 = true) ∧ (decode dsL_law_2656 11 = .ok (.istore 6, 2) ∧ okop dsL_law_2656 11 = true) ∧ (decode dsL_law_2656 13 = .ok (.aload_n 2, 1) ∧ okop dsL_law_2656 13 = true) := by decide +kernel
theorem dL_law_2656 : decode cL_law 2656 = .ok (.iaload, 1) := dgq (p := 0) daL_law_2656 dbL_law_2656.1
theorem dL_law_2657 : decode cL_law 2657 = .ok (.aload_n 0, 1) := dgq (p := 1) daL_law_2656 dbL_law_2656.2.1
theorem dL_law_2658 : decode cL_law 2658 = .ok (.iload 5, 2) := dgq (p := 2) daL_law_2656 dbL_law_2656.2.2.1
theorem dL_law_2660 : decode cL_law 2660 = .ok (.iconst 2, 1) := dgq (p := 4) daL_law_2656 dbL_law_2656.2.2.2.1
theorem dL_law_2661 : decode cL_law 2661 = .ok (.iadd, 1) := dgq (p := 5) daL_law_2656 dbL_law_2656.2.2.2.2.1
theorem dL_law_2662 : decode cL_law 2662 = .ok (.iaload, 1) := dgq (p := 6) daL_law_2656 dbL_law_2656.2.2.2.2.2.1
theorem dL_law_2663 : decode cL_law 2663 = .ok (.aload_n 3, 1) := dgq (p := 7) daL_law_2656 dbL_law_2656.2.2.2.2.2.2.1
theorem dL_law_2664 : decode cL_law 2664 = .ok (.invokestatic 399, 3) := dgq (p := 8) daL_law_2656 dbL_law_2656.2.2.2.2.2.2.2.1
theorem dL_law_2667 : decode cL_law 2667 = .ok (.istore 6, 2) := dgq (p := 11) daL_law_2656 dbL_law_2656.2.2.2.2.2.2.2.2.1
theorem dL_law_2669 : decode cL_law 2669 = .ok (.aload_n 2, 1) := dgq (p := 13) daL_law_2656 dbL_law_2656.2.2.2.2.2.2.2.2.2
def dsL_law_2670 : ByteArray := ⟨#[42, 21, 5, 4, 96, 46, 42, 21, 5, 5, 96, 46]⟩
theorem daL_law_2670 : agB cL_law dsL_law_2670 2670 := agB_of (n := 12) (by decide +kernel)
theorem dbL_law_2670 : (decode dsL_law_2670 0 = .ok (.aload_n 0, 1) ∧ okop dsL_law_2670 0 = true) ∧ (decode dsL_law_2670 1 = .ok (.iload 5, 2) ∧ okop dsL_law_2670 1 = true) ∧ (decode dsL_law_2670 3 = .ok (.iconst 1, 1) ∧ okop dsL_law_2670 3 = true) ∧ (decode dsL_law_2670 4 = .ok (.iadd, 1) ∧ okop dsL_law_2670 4 = true) ∧ (decode dsL_law_2670 5 = .ok (.iaload, 1) ∧ okop dsL_law_2670 5 = true) ∧ (decode dsL_law_2670 6 = .ok (.aload_n 0, 1) ∧ okop dsL_law_2670 6 = true) ∧ (decode dsL_law_2670 7 = .ok (.iload 5, 2) ∧ okop dsL_law_2670 7 = true) ∧ (decode dsL_law_2670 9 = .ok (.iconst 2, 1) ∧ okop dsL_law_2670 9 = true) ∧ (decode dsL_law_2670 10 = .ok (.iadd, 1) ∧ okop dsL_law_2670 10 = true) ∧ (decode dsL_law_2670 11 = .ok (.iaload, 1) ∧ okop dsL_law_2670 11 = true) := by decide +kernel
theorem dL_law_2670 : decode cL_law 2670 = .ok (.aload_n 0, 1) := dgq (p := 0) daL_law_2670 dbL_law_2670.1
theorem dL_law_2671 : decode cL_law 2671 = .ok (.iload 5, 2) := dgq (p := 1) daL_law_2670 dbL_law_2670.2.1
theorem dL_law_2673 : decode cL_law 2673 = .ok (.iconst 1, 1) := dgq (p := 3) daL_law_2670 dbL_law_2670.2.2.1
theorem dL_law_2674 : decode cL_law 2674 = .ok (.iadd, 1) := dgq (p := 4) daL_law_2670 dbL_law_2670.2.2.2.1
theorem dL_law_2675 : decode cL_law 2675 = .ok (.iaload, 1) := dgq (p := 5) daL_law_2670 dbL_law_2670.2.2.2.2.1
theorem dL_law_2676 : decode cL_law 2676 = .ok (.aload_n 0, 1) := dgq (p := 6) daL_law_2670 dbL_law_2670.2.2.2.2.2.1
theorem dL_law_2677 : decode cL_law 2677 = .ok (.iload 5, 2) := dgq (p := 7) daL_law_2670 dbL_law_2670.2.2.2.2.2.2.1
theorem dL_law_2679 : decode cL_law 2679 = .ok (.iconst 2, 1) := dgq (p := 9) daL_law_2670 dbL_law_2670.2.2.2.2.2.2.2.1
theorem dL_law_2680 : decode cL_law 2680 = .ok (.iadd, 1) := dgq (p := 10) daL_law_2670 dbL_law_2670.2.2.2.2.2.2.2.2.1
theorem dL_law_2681 : decode cL_law 2681 = .ok (.iaload, 1) := dgq (p := 11) daL_law_2670 dbL_law_2670.2.2.2.2.2.2.2.2.2
def dsL_law_2682 : ByteArray := ⟨#[182, 1, 145, 54, 7, 167, 0, 237, 43, 42, 21, 5, 4, 96, 46, 42]⟩
theorem daL_law_2682 : agB cL_law dsL_law_2682 2682 := agB_of (n := 16) (by decide +kernel)
theorem dbL_law_2682 : (decode dsL_law_2682 0 = .ok (.invokevirtual 401, 3) ∧ okop dsL_law_2682 0 = true) ∧ (decode dsL_law_2682 3 = .ok (.istore 7, 2) ∧ okop dsL_law_2682 3 = true) ∧ (decode dsL_law_2682 5 = .ok (.goto 237, 3) ∧ okop dsL_law_2682 5 = true) ∧ (decode dsL_law_2682 8 = .ok (.aload_n 1, 1) ∧ okop dsL_law_2682 8 = true) ∧ (decode dsL_law_2682 9 = .ok (.aload_n 0, 1) ∧ okop dsL_law_2682 9 = true) ∧ (decode dsL_law_2682 10 = .ok (.iload 5, 2) ∧ okop dsL_law_2682 10 = true) ∧ (decode dsL_law_2682 12 = .ok (.iconst 1, 1) ∧ okop dsL_law_2682 12 = true) ∧ (decode dsL_law_2682 13 = .ok (.iadd, 1) ∧ okop dsL_law_2682 13 = true) ∧ (decode dsL_law_2682 14 = .ok (.iaload, 1) ∧ okop dsL_law_2682 14 = true) ∧ (decode dsL_law_2682 15 = .ok (.aload_n 0, 1) ∧ okop dsL_law_2682 15 = true) := by decide +kernel
theorem dL_law_2682 : decode cL_law 2682 = .ok (.invokevirtual 401, 3) := dgq (p := 0) daL_law_2682 dbL_law_2682.1
theorem dL_law_2685 : decode cL_law 2685 = .ok (.istore 7, 2) := dgq (p := 3) daL_law_2682 dbL_law_2682.2.1
theorem dL_law_2687 : decode cL_law 2687 = .ok (.goto 237, 3) := dgq (p := 5) daL_law_2682 dbL_law_2682.2.2.1
theorem dL_law_2690 : decode cL_law 2690 = .ok (.aload_n 1, 1) := dgq (p := 8) daL_law_2682 dbL_law_2682.2.2.2.1
theorem dL_law_2691 : decode cL_law 2691 = .ok (.aload_n 0, 1) := dgq (p := 9) daL_law_2682 dbL_law_2682.2.2.2.2.1
theorem dL_law_2692 : decode cL_law 2692 = .ok (.iload 5, 2) := dgq (p := 10) daL_law_2682 dbL_law_2682.2.2.2.2.2.1
theorem dL_law_2694 : decode cL_law 2694 = .ok (.iconst 1, 1) := dgq (p := 12) daL_law_2682 dbL_law_2682.2.2.2.2.2.2.1
theorem dL_law_2695 : decode cL_law 2695 = .ok (.iadd, 1) := dgq (p := 13) daL_law_2682 dbL_law_2682.2.2.2.2.2.2.2.1
theorem dL_law_2696 : decode cL_law 2696 = .ok (.iaload, 1) := dgq (p := 14) daL_law_2682 dbL_law_2682.2.2.2.2.2.2.2.2.1
theorem dL_law_2697 : decode cL_law 2697 = .ok (.aload_n 0, 1) := dgq (p := 15) daL_law_2682 dbL_law_2682.2.2.2.2.2.2.2.2.2
def dsL_law_2698 : ByteArray := ⟨#[21, 5, 5, 96, 46, 146, 45, 184, 1, 146, 54, 6, 44, 42]⟩
theorem daL_law_2698 : agB cL_law dsL_law_2698 2698 := agB_of (n := 14) (by decide +kernel)
theorem dbL_law_2698 : (decode dsL_law_2698 0 = .ok (.iload 5, 2) ∧ okop dsL_law_2698 0 = true) ∧ (decode dsL_law_2698 2 = .ok (.iconst 2, 1) ∧ okop dsL_law_2698 2 = true) ∧ (decode dsL_law_2698 3 = .ok (.iadd, 1) ∧ okop dsL_law_2698 3 = true) ∧ (decode dsL_law_2698 4 = .ok (.iaload, 1) ∧ okop dsL_law_2698 4 = true) ∧ (decode dsL_law_2698 5 = .ok (.i2c, 1) ∧ okop dsL_law_2698 5 = true) ∧ (decode dsL_law_2698 6 = .ok (.aload_n 3, 1) ∧ okop dsL_law_2698 6 = true) ∧ (decode dsL_law_2698 7 = .ok (.invokestatic 402, 3) ∧ okop dsL_law_2698 7 = true) ∧ (decode dsL_law_2698 10 = .ok (.istore 6, 2) ∧ okop dsL_law_2698 10 = true) ∧ (decode dsL_law_2698 12 = .ok (.aload_n 2, 1) ∧ okop dsL_law_2698 12 = true) ∧ (decode dsL_law_2698 13 = .ok (.aload_n 0, 1) ∧ okop dsL_law_2698 13 = true) := by decide +kernel
theorem dL_law_2698 : decode cL_law 2698 = .ok (.iload 5, 2) := dgq (p := 0) daL_law_2698 dbL_law_2698.1
theorem dL_law_2700 : decode cL_law 2700 = .ok (.iconst 2, 1) := dgq (p := 2) daL_law_2698 dbL_law_2698.2.1
theorem dL_law_2701 : decode cL_law 2701 = .ok (.iadd, 1) := dgq (p := 3) daL_law_2698 dbL_law_2698.2.2.1
theorem dL_law_2702 : decode cL_law 2702 = .ok (.iaload, 1) := dgq (p := 4) daL_law_2698 dbL_law_2698.2.2.2.1
theorem dL_law_2703 : decode cL_law 2703 = .ok (.i2c, 1) := dgq (p := 5) daL_law_2698 dbL_law_2698.2.2.2.2.1
theorem dL_law_2704 : decode cL_law 2704 = .ok (.aload_n 3, 1) := dgq (p := 6) daL_law_2698 dbL_law_2698.2.2.2.2.2.1
theorem dL_law_2705 : decode cL_law 2705 = .ok (.invokestatic 402, 3) := dgq (p := 7) daL_law_2698 dbL_law_2698.2.2.2.2.2.2.1
theorem dL_law_2708 : decode cL_law 2708 = .ok (.istore 6, 2) := dgq (p := 10) daL_law_2698 dbL_law_2698.2.2.2.2.2.2.2.1
theorem dL_law_2710 : decode cL_law 2710 = .ok (.aload_n 2, 1) := dgq (p := 12) daL_law_2698 dbL_law_2698.2.2.2.2.2.2.2.2.1
theorem dL_law_2711 : decode cL_law 2711 = .ok (.aload_n 0, 1) := dgq (p := 13) daL_law_2698 dbL_law_2698.2.2.2.2.2.2.2.2.2
def dsL_law_2712 : ByteArray := ⟨#[21, 5, 4, 96, 46, 42, 21, 5, 5, 96, 46, 146]⟩
theorem daL_law_2712 : agB cL_law dsL_law_2712 2712 := agB_of (n := 12) (by decide +kernel)
theorem dbL_law_2712 : (decode dsL_law_2712 0 = .ok (.iload 5, 2) ∧ okop dsL_law_2712 0 = true) ∧ (decode dsL_law_2712 2 = .ok (.iconst 1, 1) ∧ okop dsL_law_2712 2 = true) ∧ (decode dsL_law_2712 3 = .ok (.iadd, 1) ∧ okop dsL_law_2712 3 = true) ∧ (decode dsL_law_2712 4 = .ok (.iaload, 1) ∧ okop dsL_law_2712 4 = true) ∧ (decode dsL_law_2712 5 = .ok (.aload_n 0, 1) ∧ okop dsL_law_2712 5 = true) ∧ (decode dsL_law_2712 6 = .ok (.iload 5, 2) ∧ okop dsL_law_2712 6 = true) ∧ (decode dsL_law_2712 8 = .ok (.iconst 2, 1) ∧ okop dsL_law_2712 8 = true) ∧ (decode dsL_law_2712 9 = .ok (.iadd, 1) ∧ okop dsL_law_2712 9 = true) ∧ (decode dsL_law_2712 10 = .ok (.iaload, 1) ∧ okop dsL_law_2712 10 = true) ∧ (decode dsL_law_2712 11 = .ok (.i2c, 1) ∧ okop dsL_law_2712 11 = true) := by decide +kernel
theorem dL_law_2712 : decode cL_law 2712 = .ok (.iload 5, 2) := dgq (p := 0) daL_law_2712 dbL_law_2712.1
theorem dL_law_2714 : decode cL_law 2714 = .ok (.iconst 1, 1) := dgq (p := 2) daL_law_2712 dbL_law_2712.2.1
theorem dL_law_2715 : decode cL_law 2715 = .ok (.iadd, 1) := dgq (p := 3) daL_law_2712 dbL_law_2712.2.2.1
theorem dL_law_2716 : decode cL_law 2716 = .ok (.iaload, 1) := dgq (p := 4) daL_law_2712 dbL_law_2712.2.2.2.1
theorem dL_law_2717 : decode cL_law 2717 = .ok (.aload_n 0, 1) := dgq (p := 5) daL_law_2712 dbL_law_2712.2.2.2.2.1
theorem dL_law_2718 : decode cL_law 2718 = .ok (.iload 5, 2) := dgq (p := 6) daL_law_2712 dbL_law_2712.2.2.2.2.2.1
theorem dL_law_2720 : decode cL_law 2720 = .ok (.iconst 2, 1) := dgq (p := 8) daL_law_2712 dbL_law_2712.2.2.2.2.2.2.1
theorem dL_law_2721 : decode cL_law 2721 = .ok (.iadd, 1) := dgq (p := 9) daL_law_2712 dbL_law_2712.2.2.2.2.2.2.2.1
theorem dL_law_2722 : decode cL_law 2722 = .ok (.iaload, 1) := dgq (p := 10) daL_law_2712 dbL_law_2712.2.2.2.2.2.2.2.2.1
theorem dL_law_2723 : decode cL_law 2723 = .ok (.i2c, 1) := dgq (p := 11) daL_law_2712 dbL_law_2712.2.2.2.2.2.2.2.2.2
def dsL_law_2724 : ByteArray := ⟨#[182, 1, 149, 54, 7, 167, 0, 195, 43, 42, 21, 5, 4, 96, 46, 45]⟩
theorem daL_law_2724 : agB cL_law dsL_law_2724 2724 := agB_of (n := 16) (by decide +kernel)
theorem dbL_law_2724 : (decode dsL_law_2724 0 = .ok (.invokevirtual 405, 3) ∧ okop dsL_law_2724 0 = true) ∧ (decode dsL_law_2724 3 = .ok (.istore 7, 2) ∧ okop dsL_law_2724 3 = true) ∧ (decode dsL_law_2724 5 = .ok (.goto 195, 3) ∧ okop dsL_law_2724 5 = true) ∧ (decode dsL_law_2724 8 = .ok (.aload_n 1, 1) ∧ okop dsL_law_2724 8 = true) ∧ (decode dsL_law_2724 9 = .ok (.aload_n 0, 1) ∧ okop dsL_law_2724 9 = true) ∧ (decode dsL_law_2724 10 = .ok (.iload 5, 2) ∧ okop dsL_law_2724 10 = true) ∧ (decode dsL_law_2724 12 = .ok (.iconst 1, 1) ∧ okop dsL_law_2724 12 = true) ∧ (decode dsL_law_2724 13 = .ok (.iadd, 1) ∧ okop dsL_law_2724 13 = true) ∧ (decode dsL_law_2724 14 = .ok (.iaload, 1) ∧ okop dsL_law_2724 14 = true) ∧ (decode dsL_law_2724 15 = .ok (.aload_n 3, 1) ∧ okop dsL_law_2724 15 = true) := by decide +kernel
theorem dL_law_2724 : decode cL_law 2724 = .ok (.invokevirtual 405, 3) := dgq (p := 0) daL_law_2724 dbL_law_2724.1
theorem dL_law_2727 : decode cL_law 2727 = .ok (.istore 7, 2) := dgq (p := 3) daL_law_2724 dbL_law_2724.2.1
theorem dL_law_2729 : decode cL_law 2729 = .ok (.goto 195, 3) := dgq (p := 5) daL_law_2724 dbL_law_2724.2.2.1
theorem dL_law_2732 : decode cL_law 2732 = .ok (.aload_n 1, 1) := dgq (p := 8) daL_law_2724 dbL_law_2724.2.2.2.1
theorem dL_law_2733 : decode cL_law 2733 = .ok (.aload_n 0, 1) := dgq (p := 9) daL_law_2724 dbL_law_2724.2.2.2.2.1
theorem dL_law_2734 : decode cL_law 2734 = .ok (.iload 5, 2) := dgq (p := 10) daL_law_2724 dbL_law_2724.2.2.2.2.2.1
theorem dL_law_2736 : decode cL_law 2736 = .ok (.iconst 1, 1) := dgq (p := 12) daL_law_2724 dbL_law_2724.2.2.2.2.2.2.1
theorem dL_law_2737 : decode cL_law 2737 = .ok (.iadd, 1) := dgq (p := 13) daL_law_2724 dbL_law_2724.2.2.2.2.2.2.2.1
theorem dL_law_2738 : decode cL_law 2738 = .ok (.iaload, 1) := dgq (p := 14) daL_law_2724 dbL_law_2724.2.2.2.2.2.2.2.2.1
theorem dL_law_2739 : decode cL_law 2739 = .ok (.aload_n 3, 1) := dgq (p := 15) daL_law_2724 dbL_law_2724.2.2.2.2.2.2.2.2.2
def dsL_law_2740 : ByteArray := ⟨#[184, 1, 150, 54, 6, 44, 42, 21, 5, 4, 96, 46, 182, 1, 152, 54, 7]⟩
theorem daL_law_2740 : agB cL_law dsL_law_2740 2740 := agB_of (n := 17) (by decide +kernel)
theorem dbL_law_2740 : (decode dsL_law_2740 0 = .ok (.invokestatic 406, 3) ∧ okop dsL_law_2740 0 = true) ∧ (decode dsL_law_2740 3 = .ok (.istore 6, 2) ∧ okop dsL_law_2740 3 = true) ∧ (decode dsL_law_2740 5 = .ok (.aload_n 2, 1) ∧ okop dsL_law_2740 5 = true) ∧ (decode dsL_law_2740 6 = .ok (.aload_n 0, 1) ∧ okop dsL_law_2740 6 = true) ∧ (decode dsL_law_2740 7 = .ok (.iload 5, 2) ∧ okop dsL_law_2740 7 = true) ∧ (decode dsL_law_2740 9 = .ok (.iconst 1, 1) ∧ okop dsL_law_2740 9 = true) ∧ (decode dsL_law_2740 10 = .ok (.iadd, 1) ∧ okop dsL_law_2740 10 = true) ∧ (decode dsL_law_2740 11 = .ok (.iaload, 1) ∧ okop dsL_law_2740 11 = true) ∧ (decode dsL_law_2740 12 = .ok (.invokevirtual 408, 3) ∧ okop dsL_law_2740 12 = true) ∧ (decode dsL_law_2740 15 = .ok (.istore 7, 2) ∧ okop dsL_law_2740 15 = true) := by decide +kernel
theorem dL_law_2740 : decode cL_law 2740 = .ok (.invokestatic 406, 3) := dgq (p := 0) daL_law_2740 dbL_law_2740.1
theorem dL_law_2743 : decode cL_law 2743 = .ok (.istore 6, 2) := dgq (p := 3) daL_law_2740 dbL_law_2740.2.1
theorem dL_law_2745 : decode cL_law 2745 = .ok (.aload_n 2, 1) := dgq (p := 5) daL_law_2740 dbL_law_2740.2.2.1
theorem dL_law_2746 : decode cL_law 2746 = .ok (.aload_n 0, 1) := dgq (p := 6) daL_law_2740 dbL_law_2740.2.2.2.1
theorem dL_law_2747 : decode cL_law 2747 = .ok (.iload 5, 2) := dgq (p := 7) daL_law_2740 dbL_law_2740.2.2.2.2.1
theorem dL_law_2749 : decode cL_law 2749 = .ok (.iconst 1, 1) := dgq (p := 9) daL_law_2740 dbL_law_2740.2.2.2.2.2.1
theorem dL_law_2750 : decode cL_law 2750 = .ok (.iadd, 1) := dgq (p := 10) daL_law_2740 dbL_law_2740.2.2.2.2.2.2.1
theorem dL_law_2751 : decode cL_law 2751 = .ok (.iaload, 1) := dgq (p := 11) daL_law_2740 dbL_law_2740.2.2.2.2.2.2.2.1
theorem dL_law_2752 : decode cL_law 2752 = .ok (.invokevirtual 408, 3) := dgq (p := 12) daL_law_2740 dbL_law_2740.2.2.2.2.2.2.2.2.1
theorem dL_law_2755 : decode cL_law 2755 = .ok (.istore 7, 2) := dgq (p := 15) daL_law_2740 dbL_law_2740.2.2.2.2.2.2.2.2.2
def dsL_law_2757 : ByteArray := ⟨#[167, 0, 167, 43, 42, 21, 5, 4, 96, 46, 42, 21, 5, 5]⟩
theorem daL_law_2757 : agB cL_law dsL_law_2757 2757 := agB_of (n := 14) (by decide +kernel)
theorem dbL_law_2757 : (decode dsL_law_2757 0 = .ok (.goto 167, 3) ∧ okop dsL_law_2757 0 = true) ∧ (decode dsL_law_2757 3 = .ok (.aload_n 1, 1) ∧ okop dsL_law_2757 3 = true) ∧ (decode dsL_law_2757 4 = .ok (.aload_n 0, 1) ∧ okop dsL_law_2757 4 = true) ∧ (decode dsL_law_2757 5 = .ok (.iload 5, 2) ∧ okop dsL_law_2757 5 = true) ∧ (decode dsL_law_2757 7 = .ok (.iconst 1, 1) ∧ okop dsL_law_2757 7 = true) ∧ (decode dsL_law_2757 8 = .ok (.iadd, 1) ∧ okop dsL_law_2757 8 = true) ∧ (decode dsL_law_2757 9 = .ok (.iaload, 1) ∧ okop dsL_law_2757 9 = true) ∧ (decode dsL_law_2757 10 = .ok (.aload_n 0, 1) ∧ okop dsL_law_2757 10 = true) ∧ (decode dsL_law_2757 11 = .ok (.iload 5, 2) ∧ okop dsL_law_2757 11 = true) ∧ (decode dsL_law_2757 13 = .ok (.iconst 2, 1) ∧ okop dsL_law_2757 13 = true) := by decide +kernel
theorem dL_law_2757 : decode cL_law 2757 = .ok (.goto 167, 3) := dgq (p := 0) daL_law_2757 dbL_law_2757.1
theorem dL_law_2760 : decode cL_law 2760 = .ok (.aload_n 1, 1) := dgq (p := 3) daL_law_2757 dbL_law_2757.2.1
theorem dL_law_2761 : decode cL_law 2761 = .ok (.aload_n 0, 1) := dgq (p := 4) daL_law_2757 dbL_law_2757.2.2.1
theorem dL_law_2762 : decode cL_law 2762 = .ok (.iload 5, 2) := dgq (p := 5) daL_law_2757 dbL_law_2757.2.2.2.1
theorem dL_law_2764 : decode cL_law 2764 = .ok (.iconst 1, 1) := dgq (p := 7) daL_law_2757 dbL_law_2757.2.2.2.2.1
theorem dL_law_2765 : decode cL_law 2765 = .ok (.iadd, 1) := dgq (p := 8) daL_law_2757 dbL_law_2757.2.2.2.2.2.1
theorem dL_law_2766 : decode cL_law 2766 = .ok (.iaload, 1) := dgq (p := 9) daL_law_2757 dbL_law_2757.2.2.2.2.2.2.1
theorem dL_law_2767 : decode cL_law 2767 = .ok (.aload_n 0, 1) := dgq (p := 10) daL_law_2757 dbL_law_2757.2.2.2.2.2.2.2.1
theorem dL_law_2768 : decode cL_law 2768 = .ok (.iload 5, 2) := dgq (p := 11) daL_law_2757 dbL_law_2757.2.2.2.2.2.2.2.2.1
theorem dL_law_2770 : decode cL_law 2770 = .ok (.iconst 2, 1) := dgq (p := 13) daL_law_2757 dbL_law_2757.2.2.2.2.2.2.2.2.2
def dsL_law_2771 : ByteArray := ⟨#[96, 46, 42, 21, 5, 6, 96, 46, 45, 184, 1, 153, 54, 6]⟩
theorem daL_law_2771 : agB cL_law dsL_law_2771 2771 := agB_of (n := 14) (by decide +kernel)
theorem dbL_law_2771 : (decode dsL_law_2771 0 = .ok (.iadd, 1) ∧ okop dsL_law_2771 0 = true) ∧ (decode dsL_law_2771 1 = .ok (.iaload, 1) ∧ okop dsL_law_2771 1 = true) ∧ (decode dsL_law_2771 2 = .ok (.aload_n 0, 1) ∧ okop dsL_law_2771 2 = true) ∧ (decode dsL_law_2771 3 = .ok (.iload 5, 2) ∧ okop dsL_law_2771 3 = true) ∧ (decode dsL_law_2771 5 = .ok (.iconst 3, 1) ∧ okop dsL_law_2771 5 = true) ∧ (decode dsL_law_2771 6 = .ok (.iadd, 1) ∧ okop dsL_law_2771 6 = true) ∧ (decode dsL_law_2771 7 = .ok (.iaload, 1) ∧ okop dsL_law_2771 7 = true) ∧ (decode dsL_law_2771 8 = .ok (.aload_n 3, 1) ∧ okop dsL_law_2771 8 = true) ∧ (decode dsL_law_2771 9 = .ok (.invokestatic 409, 3) ∧ okop dsL_law_2771 9 = true) ∧ (decode dsL_law_2771 12 = .ok (.istore 6, 2) ∧ okop dsL_law_2771 12 = true) := by decide +kernel
theorem dL_law_2771 : decode cL_law 2771 = .ok (.iadd, 1) := dgq (p := 0) daL_law_2771 dbL_law_2771.1
theorem dL_law_2772 : decode cL_law 2772 = .ok (.iaload, 1) := dgq (p := 1) daL_law_2771 dbL_law_2771.2.1
theorem dL_law_2773 : decode cL_law 2773 = .ok (.aload_n 0, 1) := dgq (p := 2) daL_law_2771 dbL_law_2771.2.2.1
theorem dL_law_2774 : decode cL_law 2774 = .ok (.iload 5, 2) := dgq (p := 3) daL_law_2771 dbL_law_2771.2.2.2.1
theorem dL_law_2776 : decode cL_law 2776 = .ok (.iconst 3, 1) := dgq (p := 5) daL_law_2771 dbL_law_2771.2.2.2.2.1
theorem dL_law_2777 : decode cL_law 2777 = .ok (.iadd, 1) := dgq (p := 6) daL_law_2771 dbL_law_2771.2.2.2.2.2.1
theorem dL_law_2778 : decode cL_law 2778 = .ok (.iaload, 1) := dgq (p := 7) daL_law_2771 dbL_law_2771.2.2.2.2.2.2.1
theorem dL_law_2779 : decode cL_law 2779 = .ok (.aload_n 3, 1) := dgq (p := 8) daL_law_2771 dbL_law_2771.2.2.2.2.2.2.2.1
theorem dL_law_2780 : decode cL_law 2780 = .ok (.invokestatic 409, 3) := dgq (p := 9) daL_law_2771 dbL_law_2771.2.2.2.2.2.2.2.2.1
theorem dL_law_2783 : decode cL_law 2783 = .ok (.istore 6, 2) := dgq (p := 12) daL_law_2771 dbL_law_2771.2.2.2.2.2.2.2.2.2
def dsL_law_2785 : ByteArray := ⟨#[44, 42, 21, 5, 4, 96, 46, 42, 21, 5, 5, 96]⟩
theorem daL_law_2785 : agB cL_law dsL_law_2785 2785 := agB_of (n := 12) (by decide +kernel)
theorem dbL_law_2785 : (decode dsL_law_2785 0 = .ok (.aload_n 2, 1) ∧ okop dsL_law_2785 0 = true) ∧ (decode dsL_law_2785 1 = .ok (.aload_n 0, 1) ∧ okop dsL_law_2785 1 = true) ∧ (decode dsL_law_2785 2 = .ok (.iload 5, 2) ∧ okop dsL_law_2785 2 = true) ∧ (decode dsL_law_2785 4 = .ok (.iconst 1, 1) ∧ okop dsL_law_2785 4 = true) ∧ (decode dsL_law_2785 5 = .ok (.iadd, 1) ∧ okop dsL_law_2785 5 = true) ∧ (decode dsL_law_2785 6 = .ok (.iaload, 1) ∧ okop dsL_law_2785 6 = true) ∧ (decode dsL_law_2785 7 = .ok (.aload_n 0, 1) ∧ okop dsL_law_2785 7 = true) ∧ (decode dsL_law_2785 8 = .ok (.iload 5, 2) ∧ okop dsL_law_2785 8 = true) ∧ (decode dsL_law_2785 10 = .ok (.iconst 2, 1) ∧ okop dsL_law_2785 10 = true) ∧ (decode dsL_law_2785 11 = .ok (.iadd, 1) ∧ okop dsL_law_2785 11 = true) := by decide +kernel
theorem dL_law_2785 : decode cL_law 2785 = .ok (.aload_n 2, 1) := dgq (p := 0) daL_law_2785 dbL_law_2785.1
theorem dL_law_2786 : decode cL_law 2786 = .ok (.aload_n 0, 1) := dgq (p := 1) daL_law_2785 dbL_law_2785.2.1
theorem dL_law_2787 : decode cL_law 2787 = .ok (.iload 5, 2) := dgq (p := 2) daL_law_2785 dbL_law_2785.2.2.1
theorem dL_law_2789 : decode cL_law 2789 = .ok (.iconst 1, 1) := dgq (p := 4) daL_law_2785 dbL_law_2785.2.2.2.1
theorem dL_law_2790 : decode cL_law 2790 = .ok (.iadd, 1) := dgq (p := 5) daL_law_2785 dbL_law_2785.2.2.2.2.1
theorem dL_law_2791 : decode cL_law 2791 = .ok (.iaload, 1) := dgq (p := 6) daL_law_2785 dbL_law_2785.2.2.2.2.2.1
theorem dL_law_2792 : decode cL_law 2792 = .ok (.aload_n 0, 1) := dgq (p := 7) daL_law_2785 dbL_law_2785.2.2.2.2.2.2.1
theorem dL_law_2793 : decode cL_law 2793 = .ok (.iload 5, 2) := dgq (p := 8) daL_law_2785 dbL_law_2785.2.2.2.2.2.2.2.1
theorem dL_law_2795 : decode cL_law 2795 = .ok (.iconst 2, 1) := dgq (p := 10) daL_law_2785 dbL_law_2785.2.2.2.2.2.2.2.2.1
theorem dL_law_2796 : decode cL_law 2796 = .ok (.iadd, 1) := dgq (p := 11) daL_law_2785 dbL_law_2785.2.2.2.2.2.2.2.2.2
def dsL_law_2797 : ByteArray := ⟨#[46, 42, 21, 5, 6, 96, 46, 182, 1, 155, 54, 7, 167, 0, 115, 43]⟩
theorem daL_law_2797 : agB cL_law dsL_law_2797 2797 := agB_of (n := 16) (by decide +kernel)
theorem dbL_law_2797 : (decode dsL_law_2797 0 = .ok (.iaload, 1) ∧ okop dsL_law_2797 0 = true) ∧ (decode dsL_law_2797 1 = .ok (.aload_n 0, 1) ∧ okop dsL_law_2797 1 = true) ∧ (decode dsL_law_2797 2 = .ok (.iload 5, 2) ∧ okop dsL_law_2797 2 = true) ∧ (decode dsL_law_2797 4 = .ok (.iconst 3, 1) ∧ okop dsL_law_2797 4 = true) ∧ (decode dsL_law_2797 5 = .ok (.iadd, 1) ∧ okop dsL_law_2797 5 = true) ∧ (decode dsL_law_2797 6 = .ok (.iaload, 1) ∧ okop dsL_law_2797 6 = true) ∧ (decode dsL_law_2797 7 = .ok (.invokevirtual 411, 3) ∧ okop dsL_law_2797 7 = true) ∧ (decode dsL_law_2797 10 = .ok (.istore 7, 2) ∧ okop dsL_law_2797 10 = true) ∧ (decode dsL_law_2797 12 = .ok (.goto 115, 3) ∧ okop dsL_law_2797 12 = true) ∧ (decode dsL_law_2797 15 = .ok (.aload_n 1, 1) ∧ okop dsL_law_2797 15 = true) := by decide +kernel
theorem dL_law_2797 : decode cL_law 2797 = .ok (.iaload, 1) := dgq (p := 0) daL_law_2797 dbL_law_2797.1
theorem dL_law_2798 : decode cL_law 2798 = .ok (.aload_n 0, 1) := dgq (p := 1) daL_law_2797 dbL_law_2797.2.1
theorem dL_law_2799 : decode cL_law 2799 = .ok (.iload 5, 2) := dgq (p := 2) daL_law_2797 dbL_law_2797.2.2.1
theorem dL_law_2801 : decode cL_law 2801 = .ok (.iconst 3, 1) := dgq (p := 4) daL_law_2797 dbL_law_2797.2.2.2.1
theorem dL_law_2802 : decode cL_law 2802 = .ok (.iadd, 1) := dgq (p := 5) daL_law_2797 dbL_law_2797.2.2.2.2.1
theorem dL_law_2803 : decode cL_law 2803 = .ok (.iaload, 1) := dgq (p := 6) daL_law_2797 dbL_law_2797.2.2.2.2.2.1
theorem dL_law_2804 : decode cL_law 2804 = .ok (.invokevirtual 411, 3) := dgq (p := 7) daL_law_2797 dbL_law_2797.2.2.2.2.2.2.1
theorem dL_law_2807 : decode cL_law 2807 = .ok (.istore 7, 2) := dgq (p := 10) daL_law_2797 dbL_law_2797.2.2.2.2.2.2.2.1
theorem dL_law_2809 : decode cL_law 2809 = .ok (.goto 115, 3) := dgq (p := 12) daL_law_2797 dbL_law_2797.2.2.2.2.2.2.2.2.1
theorem dL_law_2812 : decode cL_law 2812 = .ok (.aload_n 1, 1) := dgq (p := 15) daL_law_2797 dbL_law_2797.2.2.2.2.2.2.2.2.2
def dsL_law_2813 : ByteArray := ⟨#[42, 21, 5, 4, 96, 46, 42, 21, 5, 5, 96, 46]⟩
theorem daL_law_2813 : agB cL_law dsL_law_2813 2813 := agB_of (n := 12) (by decide +kernel)
theorem dbL_law_2813 : (decode dsL_law_2813 0 = .ok (.aload_n 0, 1) ∧ okop dsL_law_2813 0 = true) ∧ (decode dsL_law_2813 1 = .ok (.iload 5, 2) ∧ okop dsL_law_2813 1 = true) ∧ (decode dsL_law_2813 3 = .ok (.iconst 1, 1) ∧ okop dsL_law_2813 3 = true) ∧ (decode dsL_law_2813 4 = .ok (.iadd, 1) ∧ okop dsL_law_2813 4 = true) ∧ (decode dsL_law_2813 5 = .ok (.iaload, 1) ∧ okop dsL_law_2813 5 = true) ∧ (decode dsL_law_2813 6 = .ok (.aload_n 0, 1) ∧ okop dsL_law_2813 6 = true) ∧ (decode dsL_law_2813 7 = .ok (.iload 5, 2) ∧ okop dsL_law_2813 7 = true) ∧ (decode dsL_law_2813 9 = .ok (.iconst 2, 1) ∧ okop dsL_law_2813 9 = true) ∧ (decode dsL_law_2813 10 = .ok (.iadd, 1) ∧ okop dsL_law_2813 10 = true) ∧ (decode dsL_law_2813 11 = .ok (.iaload, 1) ∧ okop dsL_law_2813 11 = true) := by decide +kernel
theorem dL_law_2813 : decode cL_law 2813 = .ok (.aload_n 0, 1) := dgq (p := 0) daL_law_2813 dbL_law_2813.1
theorem dL_law_2814 : decode cL_law 2814 = .ok (.iload 5, 2) := dgq (p := 1) daL_law_2813 dbL_law_2813.2.1
theorem dL_law_2816 : decode cL_law 2816 = .ok (.iconst 1, 1) := dgq (p := 3) daL_law_2813 dbL_law_2813.2.2.1
theorem dL_law_2817 : decode cL_law 2817 = .ok (.iadd, 1) := dgq (p := 4) daL_law_2813 dbL_law_2813.2.2.2.1
theorem dL_law_2818 : decode cL_law 2818 = .ok (.iaload, 1) := dgq (p := 5) daL_law_2813 dbL_law_2813.2.2.2.2.1
theorem dL_law_2819 : decode cL_law 2819 = .ok (.aload_n 0, 1) := dgq (p := 6) daL_law_2813 dbL_law_2813.2.2.2.2.2.1
theorem dL_law_2820 : decode cL_law 2820 = .ok (.iload 5, 2) := dgq (p := 7) daL_law_2813 dbL_law_2813.2.2.2.2.2.2.1
theorem dL_law_2822 : decode cL_law 2822 = .ok (.iconst 2, 1) := dgq (p := 9) daL_law_2813 dbL_law_2813.2.2.2.2.2.2.2.1
theorem dL_law_2823 : decode cL_law 2823 = .ok (.iadd, 1) := dgq (p := 10) daL_law_2813 dbL_law_2813.2.2.2.2.2.2.2.2.1
theorem dL_law_2824 : decode cL_law 2824 = .ok (.iaload, 1) := dgq (p := 11) daL_law_2813 dbL_law_2813.2.2.2.2.2.2.2.2.2
def dsL_law_2825 : ByteArray := ⟨#[42, 21, 5, 6, 96, 46, 45, 184, 1, 156, 54, 6, 44, 42]⟩
theorem daL_law_2825 : agB cL_law dsL_law_2825 2825 := agB_of (n := 14) (by decide +kernel)
theorem dbL_law_2825 : (decode dsL_law_2825 0 = .ok (.aload_n 0, 1) ∧ okop dsL_law_2825 0 = true) ∧ (decode dsL_law_2825 1 = .ok (.iload 5, 2) ∧ okop dsL_law_2825 1 = true) ∧ (decode dsL_law_2825 3 = .ok (.iconst 3, 1) ∧ okop dsL_law_2825 3 = true) ∧ (decode dsL_law_2825 4 = .ok (.iadd, 1) ∧ okop dsL_law_2825 4 = true) ∧ (decode dsL_law_2825 5 = .ok (.iaload, 1) ∧ okop dsL_law_2825 5 = true) ∧ (decode dsL_law_2825 6 = .ok (.aload_n 3, 1) ∧ okop dsL_law_2825 6 = true) ∧ (decode dsL_law_2825 7 = .ok (.invokestatic 412, 3) ∧ okop dsL_law_2825 7 = true) ∧ (decode dsL_law_2825 10 = .ok (.istore 6, 2) ∧ okop dsL_law_2825 10 = true) ∧ (decode dsL_law_2825 12 = .ok (.aload_n 2, 1) ∧ okop dsL_law_2825 12 = true) ∧ (decode dsL_law_2825 13 = .ok (.aload_n 0, 1) ∧ okop dsL_law_2825 13 = true) := by decide +kernel
theorem dL_law_2825 : decode cL_law 2825 = .ok (.aload_n 0, 1) := dgq (p := 0) daL_law_2825 dbL_law_2825.1
theorem dL_law_2826 : decode cL_law 2826 = .ok (.iload 5, 2) := dgq (p := 1) daL_law_2825 dbL_law_2825.2.1
theorem dL_law_2828 : decode cL_law 2828 = .ok (.iconst 3, 1) := dgq (p := 3) daL_law_2825 dbL_law_2825.2.2.1
theorem dL_law_2829 : decode cL_law 2829 = .ok (.iadd, 1) := dgq (p := 4) daL_law_2825 dbL_law_2825.2.2.2.1
theorem dL_law_2830 : decode cL_law 2830 = .ok (.iaload, 1) := dgq (p := 5) daL_law_2825 dbL_law_2825.2.2.2.2.1
theorem dL_law_2831 : decode cL_law 2831 = .ok (.aload_n 3, 1) := dgq (p := 6) daL_law_2825 dbL_law_2825.2.2.2.2.2.1
theorem dL_law_2832 : decode cL_law 2832 = .ok (.invokestatic 412, 3) := dgq (p := 7) daL_law_2825 dbL_law_2825.2.2.2.2.2.2.1
theorem dL_law_2835 : decode cL_law 2835 = .ok (.istore 6, 2) := dgq (p := 10) daL_law_2825 dbL_law_2825.2.2.2.2.2.2.2.1
theorem dL_law_2837 : decode cL_law 2837 = .ok (.aload_n 2, 1) := dgq (p := 12) daL_law_2825 dbL_law_2825.2.2.2.2.2.2.2.2.1
theorem dL_law_2838 : decode cL_law 2838 = .ok (.aload_n 0, 1) := dgq (p := 13) daL_law_2825 dbL_law_2825.2.2.2.2.2.2.2.2.2
def dsL_law_2839 : ByteArray := ⟨#[21, 5, 4, 96, 46, 42, 21, 5, 5, 96, 46, 42]⟩
theorem daL_law_2839 : agB cL_law dsL_law_2839 2839 := agB_of (n := 12) (by decide +kernel)
theorem dbL_law_2839 : (decode dsL_law_2839 0 = .ok (.iload 5, 2) ∧ okop dsL_law_2839 0 = true) ∧ (decode dsL_law_2839 2 = .ok (.iconst 1, 1) ∧ okop dsL_law_2839 2 = true) ∧ (decode dsL_law_2839 3 = .ok (.iadd, 1) ∧ okop dsL_law_2839 3 = true) ∧ (decode dsL_law_2839 4 = .ok (.iaload, 1) ∧ okop dsL_law_2839 4 = true) ∧ (decode dsL_law_2839 5 = .ok (.aload_n 0, 1) ∧ okop dsL_law_2839 5 = true) ∧ (decode dsL_law_2839 6 = .ok (.iload 5, 2) ∧ okop dsL_law_2839 6 = true) ∧ (decode dsL_law_2839 8 = .ok (.iconst 2, 1) ∧ okop dsL_law_2839 8 = true) ∧ (decode dsL_law_2839 9 = .ok (.iadd, 1) ∧ okop dsL_law_2839 9 = true) ∧ (decode dsL_law_2839 10 = .ok (.iaload, 1) ∧ okop dsL_law_2839 10 = true) ∧ (decode dsL_law_2839 11 = .ok (.aload_n 0, 1) ∧ okop dsL_law_2839 11 = true) := by decide +kernel
theorem dL_law_2839 : decode cL_law 2839 = .ok (.iload 5, 2) := dgq (p := 0) daL_law_2839 dbL_law_2839.1
theorem dL_law_2841 : decode cL_law 2841 = .ok (.iconst 1, 1) := dgq (p := 2) daL_law_2839 dbL_law_2839.2.1
theorem dL_law_2842 : decode cL_law 2842 = .ok (.iadd, 1) := dgq (p := 3) daL_law_2839 dbL_law_2839.2.2.1
theorem dL_law_2843 : decode cL_law 2843 = .ok (.iaload, 1) := dgq (p := 4) daL_law_2839 dbL_law_2839.2.2.2.1
theorem dL_law_2844 : decode cL_law 2844 = .ok (.aload_n 0, 1) := dgq (p := 5) daL_law_2839 dbL_law_2839.2.2.2.2.1
theorem dL_law_2845 : decode cL_law 2845 = .ok (.iload 5, 2) := dgq (p := 6) daL_law_2839 dbL_law_2839.2.2.2.2.2.1
theorem dL_law_2847 : decode cL_law 2847 = .ok (.iconst 2, 1) := dgq (p := 8) daL_law_2839 dbL_law_2839.2.2.2.2.2.2.1
theorem dL_law_2848 : decode cL_law 2848 = .ok (.iadd, 1) := dgq (p := 9) daL_law_2839 dbL_law_2839.2.2.2.2.2.2.2.1
theorem dL_law_2849 : decode cL_law 2849 = .ok (.iaload, 1) := dgq (p := 10) daL_law_2839 dbL_law_2839.2.2.2.2.2.2.2.2.1
theorem dL_law_2850 : decode cL_law 2850 = .ok (.aload_n 0, 1) := dgq (p := 11) daL_law_2839 dbL_law_2839.2.2.2.2.2.2.2.2.2
def dsL_law_2851 : ByteArray := ⟨#[21, 5, 6, 96, 46, 182, 1, 158, 54, 7, 167, 0, 63, 43, 182, 1, 159, 88]⟩
theorem daL_law_2851 : agB cL_law dsL_law_2851 2851 := agB_of (n := 18) (by decide +kernel)
theorem dbL_law_2851 : (decode dsL_law_2851 0 = .ok (.iload 5, 2) ∧ okop dsL_law_2851 0 = true) ∧ (decode dsL_law_2851 2 = .ok (.iconst 3, 1) ∧ okop dsL_law_2851 2 = true) ∧ (decode dsL_law_2851 3 = .ok (.iadd, 1) ∧ okop dsL_law_2851 3 = true) ∧ (decode dsL_law_2851 4 = .ok (.iaload, 1) ∧ okop dsL_law_2851 4 = true) ∧ (decode dsL_law_2851 5 = .ok (.invokevirtual 414, 3) ∧ okop dsL_law_2851 5 = true) ∧ (decode dsL_law_2851 8 = .ok (.istore 7, 2) ∧ okop dsL_law_2851 8 = true) ∧ (decode dsL_law_2851 10 = .ok (.goto 63, 3) ∧ okop dsL_law_2851 10 = true) ∧ (decode dsL_law_2851 13 = .ok (.aload_n 1, 1) ∧ okop dsL_law_2851 13 = true) ∧ (decode dsL_law_2851 14 = .ok (.invokevirtual 415, 3) ∧ okop dsL_law_2851 14 = true) ∧ (decode dsL_law_2851 17 = .ok (.pop2, 1) ∧ okop dsL_law_2851 17 = true) := by decide +kernel
theorem dL_law_2851 : decode cL_law 2851 = .ok (.iload 5, 2) := dgq (p := 0) daL_law_2851 dbL_law_2851.1
theorem dL_law_2853 : decode cL_law 2853 = .ok (.iconst 3, 1) := dgq (p := 2) daL_law_2851 dbL_law_2851.2.1
theorem dL_law_2854 : decode cL_law 2854 = .ok (.iadd, 1) := dgq (p := 3) daL_law_2851 dbL_law_2851.2.2.1
theorem dL_law_2855 : decode cL_law 2855 = .ok (.iaload, 1) := dgq (p := 4) daL_law_2851 dbL_law_2851.2.2.2.1
theorem dL_law_2856 : decode cL_law 2856 = .ok (.invokevirtual 414, 3) := dgq (p := 5) daL_law_2851 dbL_law_2851.2.2.2.2.1
theorem dL_law_2859 : decode cL_law 2859 = .ok (.istore 7, 2) := dgq (p := 8) daL_law_2851 dbL_law_2851.2.2.2.2.2.1
theorem dL_law_2861 : decode cL_law 2861 = .ok (.goto 63, 3) := dgq (p := 10) daL_law_2851 dbL_law_2851.2.2.2.2.2.2.1
theorem dL_law_2864 : decode cL_law 2864 = .ok (.aload_n 1, 1) := dgq (p := 13) daL_law_2851 dbL_law_2851.2.2.2.2.2.2.2.1
theorem dL_law_2865 : decode cL_law 2865 = .ok (.invokevirtual 415, 3) := dgq (p := 14) daL_law_2851 dbL_law_2851.2.2.2.2.2.2.2.2.1
theorem dL_law_2868 : decode cL_law 2868 = .ok (.pop2, 1) := dgq (p := 17) daL_law_2851 dbL_law_2851.2.2.2.2.2.2.2.2.2
def dsL_law_2869 : ByteArray := ⟨#[44, 182, 1, 163, 88, 167, 0, 50, 43, 25, 4, 184, 1, 164, 54, 6, 44, 182, 1, 167]⟩
theorem daL_law_2869 : agB cL_law dsL_law_2869 2869 := agB_of (n := 20) (by decide +kernel)
theorem dbL_law_2869 : (decode dsL_law_2869 0 = .ok (.aload_n 2, 1) ∧ okop dsL_law_2869 0 = true) ∧ (decode dsL_law_2869 1 = .ok (.invokevirtual 419, 3) ∧ okop dsL_law_2869 1 = true) ∧ (decode dsL_law_2869 4 = .ok (.pop2, 1) ∧ okop dsL_law_2869 4 = true) ∧ (decode dsL_law_2869 5 = .ok (.goto 50, 3) ∧ okop dsL_law_2869 5 = true) ∧ (decode dsL_law_2869 8 = .ok (.aload_n 1, 1) ∧ okop dsL_law_2869 8 = true) ∧ (decode dsL_law_2869 9 = .ok (.aload 4, 2) ∧ okop dsL_law_2869 9 = true) ∧ (decode dsL_law_2869 11 = .ok (.invokestatic 420, 3) ∧ okop dsL_law_2869 11 = true) ∧ (decode dsL_law_2869 14 = .ok (.istore 6, 2) ∧ okop dsL_law_2869 14 = true) ∧ (decode dsL_law_2869 16 = .ok (.aload_n 2, 1) ∧ okop dsL_law_2869 16 = true) ∧ (decode dsL_law_2869 17 = .ok (.invokevirtual 423, 3) ∧ okop dsL_law_2869 17 = true) := by decide +kernel
theorem dL_law_2869 : decode cL_law 2869 = .ok (.aload_n 2, 1) := dgq (p := 0) daL_law_2869 dbL_law_2869.1
theorem dL_law_2870 : decode cL_law 2870 = .ok (.invokevirtual 419, 3) := dgq (p := 1) daL_law_2869 dbL_law_2869.2.1
theorem dL_law_2873 : decode cL_law 2873 = .ok (.pop2, 1) := dgq (p := 4) daL_law_2869 dbL_law_2869.2.2.1
theorem dL_law_2874 : decode cL_law 2874 = .ok (.goto 50, 3) := dgq (p := 5) daL_law_2869 dbL_law_2869.2.2.2.1
theorem dL_law_2877 : decode cL_law 2877 = .ok (.aload_n 1, 1) := dgq (p := 8) daL_law_2869 dbL_law_2869.2.2.2.2.1
theorem dL_law_2878 : decode cL_law 2878 = .ok (.aload 4, 2) := dgq (p := 9) daL_law_2869 dbL_law_2869.2.2.2.2.2.1
theorem dL_law_2880 : decode cL_law 2880 = .ok (.invokestatic 420, 3) := dgq (p := 11) daL_law_2869 dbL_law_2869.2.2.2.2.2.2.1
theorem dL_law_2883 : decode cL_law 2883 = .ok (.istore 6, 2) := dgq (p := 14) daL_law_2869 dbL_law_2869.2.2.2.2.2.2.2.1
theorem dL_law_2885 : decode cL_law 2885 = .ok (.aload_n 2, 1) := dgq (p := 16) daL_law_2869 dbL_law_2869.2.2.2.2.2.2.2.2.1
theorem dL_law_2886 : decode cL_law 2886 = .ok (.invokevirtual 423, 3) := dgq (p := 17) daL_law_2869 dbL_law_2869.2.2.2.2.2.2.2.2.2
def dsL_law_2889 : ByteArray := ⟨#[56, 7, 167, 0, 33, 43, 25, 4, 184, 1, 168, 54, 6, 44, 182, 1, 170, 57, 7, 167, 0, 16]⟩
theorem daL_law_2889 : agB cL_law dsL_law_2889 2889 := agB_of (n := 22) (by decide +kernel)
theorem dbL_law_2889 : (decode dsL_law_2889 0 = .ok (.fstore 7, 2) ∧ okop dsL_law_2889 0 = true) ∧ (decode dsL_law_2889 2 = .ok (.goto 33, 3) ∧ okop dsL_law_2889 2 = true) ∧ (decode dsL_law_2889 5 = .ok (.aload_n 1, 1) ∧ okop dsL_law_2889 5 = true) ∧ (decode dsL_law_2889 6 = .ok (.aload 4, 2) ∧ okop dsL_law_2889 6 = true) ∧ (decode dsL_law_2889 8 = .ok (.invokestatic 424, 3) ∧ okop dsL_law_2889 8 = true) ∧ (decode dsL_law_2889 11 = .ok (.istore 6, 2) ∧ okop dsL_law_2889 11 = true) ∧ (decode dsL_law_2889 13 = .ok (.aload_n 2, 1) ∧ okop dsL_law_2889 13 = true) ∧ (decode dsL_law_2889 14 = .ok (.invokevirtual 426, 3) ∧ okop dsL_law_2889 14 = true) ∧ (decode dsL_law_2889 17 = .ok (.dstore 7, 2) ∧ okop dsL_law_2889 17 = true) ∧ (decode dsL_law_2889 19 = .ok (.goto 16, 3) ∧ okop dsL_law_2889 19 = true) := by decide +kernel
theorem dL_law_2889 : decode cL_law 2889 = .ok (.fstore 7, 2) := dgq (p := 0) daL_law_2889 dbL_law_2889.1
theorem dL_law_2891 : decode cL_law 2891 = .ok (.goto 33, 3) := dgq (p := 2) daL_law_2889 dbL_law_2889.2.1
theorem dL_law_2894 : decode cL_law 2894 = .ok (.aload_n 1, 1) := dgq (p := 5) daL_law_2889 dbL_law_2889.2.2.1
theorem dL_law_2895 : decode cL_law 2895 = .ok (.aload 4, 2) := dgq (p := 6) daL_law_2889 dbL_law_2889.2.2.2.1
theorem dL_law_2897 : decode cL_law 2897 = .ok (.invokestatic 424, 3) := dgq (p := 8) daL_law_2889 dbL_law_2889.2.2.2.2.1
theorem dL_law_2900 : decode cL_law 2900 = .ok (.istore 6, 2) := dgq (p := 11) daL_law_2889 dbL_law_2889.2.2.2.2.2.1
theorem dL_law_2902 : decode cL_law 2902 = .ok (.aload_n 2, 1) := dgq (p := 13) daL_law_2889 dbL_law_2889.2.2.2.2.2.2.1
theorem dL_law_2903 : decode cL_law 2903 = .ok (.invokevirtual 426, 3) := dgq (p := 14) daL_law_2889 dbL_law_2889.2.2.2.2.2.2.2.1
theorem dL_law_2906 : decode cL_law 2906 = .ok (.dstore 7, 2) := dgq (p := 17) daL_law_2889 dbL_law_2889.2.2.2.2.2.2.2.2.1
theorem dL_law_2908 : decode cL_law 2908 = .ok (.goto 16, 3) := dgq (p := 19) daL_law_2889 dbL_law_2889.2.2.2.2.2.2.2.2.2
def dsL_law_2911 : ByteArray := ⟨#[43, 182, 1, 171, 87, 44, 182, 1, 175, 87, 167, 0, 3, 132, 5, 5, 167, 244, 173, 4]⟩
theorem daL_law_2911 : agB cL_law dsL_law_2911 2911 := agB_of (n := 20) (by decide +kernel)
theorem dbL_law_2911 : (decode dsL_law_2911 0 = .ok (.aload_n 1, 1) ∧ okop dsL_law_2911 0 = true) ∧ (decode dsL_law_2911 1 = .ok (.invokevirtual 427, 3) ∧ okop dsL_law_2911 1 = true) ∧ (decode dsL_law_2911 4 = .ok (.pop, 1) ∧ okop dsL_law_2911 4 = true) ∧ (decode dsL_law_2911 5 = .ok (.aload_n 2, 1) ∧ okop dsL_law_2911 5 = true) ∧ (decode dsL_law_2911 6 = .ok (.invokevirtual 431, 3) ∧ okop dsL_law_2911 6 = true) ∧ (decode dsL_law_2911 9 = .ok (.pop, 1) ∧ okop dsL_law_2911 9 = true) ∧ (decode dsL_law_2911 10 = .ok (.goto 3, 3) ∧ okop dsL_law_2911 10 = true) ∧ (decode dsL_law_2911 13 = .ok (.iinc 5 5, 3) ∧ okop dsL_law_2911 13 = true) ∧ (decode dsL_law_2911 16 = .ok (.goto (-2899), 3) ∧ okop dsL_law_2911 16 = true) ∧ (decode dsL_law_2911 19 = .ok (.iconst 1, 1) ∧ okop dsL_law_2911 19 = true) := by decide +kernel
theorem dL_law_2911 : decode cL_law 2911 = .ok (.aload_n 1, 1) := dgq (p := 0) daL_law_2911 dbL_law_2911.1
theorem dL_law_2912 : decode cL_law 2912 = .ok (.invokevirtual 427, 3) := dgq (p := 1) daL_law_2911 dbL_law_2911.2.1
theorem dL_law_2915 : decode cL_law 2915 = .ok (.pop, 1) := dgq (p := 4) daL_law_2911 dbL_law_2911.2.2.1
theorem dL_law_2916 : decode cL_law 2916 = .ok (.aload_n 2, 1) := dgq (p := 5) daL_law_2911 dbL_law_2911.2.2.2.1
theorem dL_law_2917 : decode cL_law 2917 = .ok (.invokevirtual 431, 3) := dgq (p := 6) daL_law_2911 dbL_law_2911.2.2.2.2.1
theorem dL_law_2920 : decode cL_law 2920 = .ok (.pop, 1) := dgq (p := 9) daL_law_2911 dbL_law_2911.2.2.2.2.2.1
theorem dL_law_2921 : decode cL_law 2921 = .ok (.goto 3, 3) := dgq (p := 10) daL_law_2911 dbL_law_2911.2.2.2.2.2.2.1
theorem dL_law_2924 : decode cL_law 2924 = .ok (.iinc 5 5, 3) := dgq (p := 13) daL_law_2911 dbL_law_2911.2.2.2.2.2.2.2.1
theorem dL_law_2927 : decode cL_law 2927 = .ok (.goto (-2899), 3) := dgq (p := 16) daL_law_2911 dbL_law_2911.2.2.2.2.2.2.2.2.1
theorem dL_law_2930 : decode cL_law 2930 = .ok (.iconst 1, 1) := dgq (p := 19) daL_law_2911 dbL_law_2911.2.2.2.2.2.2.2.2.2
theorem dL_law_2931 : decode cL_law 2931 = .ok (.ireturn, 1) := by decide +kernel

