def dsL_law_1935 : ByteArray := ⟨#[54, 6, 44, 42, 21, 5, 4, 96, 46, 182, 1, 86, 54, 7, 167, 3, 207]⟩
theorem daL_law_1935 : agB cL_law dsL_law_1935 1935 := agB_of (n := 17) (by decide +kernel)
theorem dbL_law_1935 : (decode dsL_law_1935 0 = .ok (.istore 6, 2) ∧ okop dsL_law_1935 0 = true) ∧ (decode dsL_law_1935 2 = .ok (.aload_n 2, 1) ∧ okop dsL_law_1935 2 = true) ∧ (decode dsL_law_1935 3 = .ok (.aload_n 0, 1) ∧ okop dsL_law_1935 3 = true) ∧ (decode dsL_law_1935 4 = .ok (.iload 5, 2) ∧ okop dsL_law_1935 4 = true) ∧ (decode dsL_law_1935 6 = .ok (.iconst 1, 1) ∧ okop dsL_law_1935 6 = true) ∧ (decode dsL_law_1935 7 = .ok (.iadd, 1) ∧ okop dsL_law_1935 7 = true) ∧ (decode dsL_law_1935 8 = .ok (.iaload, 1) ∧ okop dsL_law_1935 8 = true) ∧ (decode dsL_law_1935 9 = .ok (.invokevirtual 342, 3) ∧ okop dsL_law_1935 9 = true) ∧ (decode dsL_law_1935 12 = .ok (.istore 7, 2) ∧ okop dsL_law_1935 12 = true) ∧ (decode dsL_law_1935 14 = .ok (.goto 975, 3) ∧ okop dsL_law_1935 14 = true) := by decide +kernel
theorem dL_law_1935 : decode cL_law 1935 = .ok (.istore 6, 2) := dgq (p := 0) daL_law_1935 dbL_law_1935.1
theorem dL_law_1937 : decode cL_law 1937 = .ok (.aload_n 2, 1) := dgq (p := 2) daL_law_1935 dbL_law_1935.2.1
theorem dL_law_1938 : decode cL_law 1938 = .ok (.aload_n 0, 1) := dgq (p := 3) daL_law_1935 dbL_law_1935.2.2.1
theorem dL_law_1939 : decode cL_law 1939 = .ok (.iload 5, 2) := dgq (p := 4) daL_law_1935 dbL_law_1935.2.2.2.1
theorem dL_law_1941 : decode cL_law 1941 = .ok (.iconst 1, 1) := dgq (p := 6) daL_law_1935 dbL_law_1935.2.2.2.2.1
theorem dL_law_1942 : decode cL_law 1942 = .ok (.iadd, 1) := dgq (p := 7) daL_law_1935 dbL_law_1935.2.2.2.2.2.1
theorem dL_law_1943 : decode cL_law 1943 = .ok (.iaload, 1) := dgq (p := 8) daL_law_1935 dbL_law_1935.2.2.2.2.2.2.1
theorem dL_law_1944 : decode cL_law 1944 = .ok (.invokevirtual 342, 3) := dgq (p := 9) daL_law_1935 dbL_law_1935.2.2.2.2.2.2.2.1
theorem dL_law_1947 : decode cL_law 1947 = .ok (.istore 7, 2) := dgq (p := 12) daL_law_1935 dbL_law_1935.2.2.2.2.2.2.2.2.1
theorem dL_law_1949 : decode cL_law 1949 = .ok (.goto 975, 3) := dgq (p := 14) daL_law_1935 dbL_law_1935.2.2.2.2.2.2.2.2.2
def dsL_law_1952 : ByteArray := ⟨#[43, 42, 21, 5, 4, 96, 46, 42, 21, 5, 5, 96]⟩
theorem daL_law_1952 : agB cL_law dsL_law_1952 1952 := agB_of (n := 12) (by decide +kernel)
theorem dbL_law_1952 : (decode dsL_law_1952 0 = .ok (.aload_n 1, 1) ∧ okop dsL_law_1952 0 = true) ∧ (decode dsL_law_1952 1 = .ok (.aload_n 0, 1) ∧ okop dsL_law_1952 1 = true) ∧ (decode dsL_law_1952 2 = .ok (.iload 5, 2) ∧ okop dsL_law_1952 2 = true) ∧ (decode dsL_law_1952 4 = .ok (.iconst 1, 1) ∧ okop dsL_law_1952 4 = true) ∧ (decode dsL_law_1952 5 = .ok (.iadd, 1) ∧ okop dsL_law_1952 5 = true) ∧ (decode dsL_law_1952 6 = .ok (.iaload, 1) ∧ okop dsL_law_1952 6 = true) ∧ (decode dsL_law_1952 7 = .ok (.aload_n 0, 1) ∧ okop dsL_law_1952 7 = true) ∧ (decode dsL_law_1952 8 = .ok (.iload 5, 2) ∧ okop dsL_law_1952 8 = true) ∧ (decode dsL_law_1952 10 = .ok (.iconst 2, 1) ∧ okop dsL_law_1952 10 = true) ∧ (decode dsL_law_1952 11 = .ok (.iadd, 1) ∧ okop dsL_law_1952 11 = true) := by decide +kernel
theorem dL_law_1952 : decode cL_law 1952 = .ok (.aload_n 1, 1) := dgq (p := 0) daL_law_1952 dbL_law_1952.1
theorem dL_law_1953 : decode cL_law 1953 = .ok (.aload_n 0, 1) := dgq (p := 1) daL_law_1952 dbL_law_1952.2.1
theorem dL_law_1954 : decode cL_law 1954 = .ok (.iload 5, 2) := dgq (p := 2) daL_law_1952 dbL_law_1952.2.2.1
theorem dL_law_1956 : decode cL_law 1956 = .ok (.iconst 1, 1) := dgq (p := 4) daL_law_1952 dbL_law_1952.2.2.2.1
theorem dL_law_1957 : decode cL_law 1957 = .ok (.iadd, 1) := dgq (p := 5) daL_law_1952 dbL_law_1952.2.2.2.2.1
theorem dL_law_1958 : decode cL_law 1958 = .ok (.iaload, 1) := dgq (p := 6) daL_law_1952 dbL_law_1952.2.2.2.2.2.1
theorem dL_law_1959 : decode cL_law 1959 = .ok (.aload_n 0, 1) := dgq (p := 7) daL_law_1952 dbL_law_1952.2.2.2.2.2.2.1
theorem dL_law_1960 : decode cL_law 1960 = .ok (.iload 5, 2) := dgq (p := 8) daL_law_1952 dbL_law_1952.2.2.2.2.2.2.2.1
theorem dL_law_1962 : decode cL_law 1962 = .ok (.iconst 2, 1) := dgq (p := 10) daL_law_1952 dbL_law_1952.2.2.2.2.2.2.2.2.1
theorem dL_law_1963 : decode cL_law 1963 = .ok (.iadd, 1) := dgq (p := 11) daL_law_1952 dbL_law_1952.2.2.2.2.2.2.2.2.2
def dsL_law_1964 : ByteArray := ⟨#[46, 42, 21, 5, 6, 96, 46, 45, 184, 1, 87, 54, 6, 44]⟩
theorem daL_law_1964 : agB cL_law dsL_law_1964 1964 := agB_of (n := 14) (by decide +kernel)
theorem dbL_law_1964 : (decode dsL_law_1964 0 = .ok (.iaload, 1) ∧ okop dsL_law_1964 0 = true) ∧ (decode dsL_law_1964 1 = .ok (.aload_n 0, 1) ∧ okop dsL_law_1964 1 = true) ∧ (decode dsL_law_1964 2 = .ok (.iload 5, 2) ∧ okop dsL_law_1964 2 = true) ∧ (decode dsL_law_1964 4 = .ok (.iconst 3, 1) ∧ okop dsL_law_1964 4 = true) ∧ (decode dsL_law_1964 5 = .ok (.iadd, 1) ∧ okop dsL_law_1964 5 = true) ∧ (decode dsL_law_1964 6 = .ok (.iaload, 1) ∧ okop dsL_law_1964 6 = true) ∧ (decode dsL_law_1964 7 = .ok (.aload_n 3, 1) ∧ okop dsL_law_1964 7 = true) ∧ (decode dsL_law_1964 8 = .ok (.invokestatic 343, 3) ∧ okop dsL_law_1964 8 = true) ∧ (decode dsL_law_1964 11 = .ok (.istore 6, 2) ∧ okop dsL_law_1964 11 = true) ∧ (decode dsL_law_1964 13 = .ok (.aload_n 2, 1) ∧ okop dsL_law_1964 13 = true) := by decide +kernel
theorem dL_law_1964 : decode cL_law 1964 = .ok (.iaload, 1) := dgq (p := 0) daL_law_1964 dbL_law_1964.1
theorem dL_law_1965 : decode cL_law 1965 = .ok (.aload_n 0, 1) := dgq (p := 1) daL_law_1964 dbL_law_1964.2.1
theorem dL_law_1966 : decode cL_law 1966 = .ok (.iload 5, 2) := dgq (p := 2) daL_law_1964 dbL_law_1964.2.2.1
theorem dL_law_1968 : decode cL_law 1968 = .ok (.iconst 3, 1) := dgq (p := 4) daL_law_1964 dbL_law_1964.2.2.2.1
theorem dL_law_1969 : decode cL_law 1969 = .ok (.iadd, 1) := dgq (p := 5) daL_law_1964 dbL_law_1964.2.2.2.2.1
theorem dL_law_1970 : decode cL_law 1970 = .ok (.iaload, 1) := dgq (p := 6) daL_law_1964 dbL_law_1964.2.2.2.2.2.1
theorem dL_law_1971 : decode cL_law 1971 = .ok (.aload_n 3, 1) := dgq (p := 7) daL_law_1964 dbL_law_1964.2.2.2.2.2.2.1
theorem dL_law_1972 : decode cL_law 1972 = .ok (.invokestatic 343, 3) := dgq (p := 8) daL_law_1964 dbL_law_1964.2.2.2.2.2.2.2.1
theorem dL_law_1975 : decode cL_law 1975 = .ok (.istore 6, 2) := dgq (p := 11) daL_law_1964 dbL_law_1964.2.2.2.2.2.2.2.2.1
theorem dL_law_1977 : decode cL_law 1977 = .ok (.aload_n 2, 1) := dgq (p := 13) daL_law_1964 dbL_law_1964.2.2.2.2.2.2.2.2.2
def dsL_law_1978 : ByteArray := ⟨#[42, 21, 5, 4, 96, 46, 42, 21, 5, 5, 96, 46]⟩
theorem daL_law_1978 : agB cL_law dsL_law_1978 1978 := agB_of (n := 12) (by decide +kernel)
theorem dbL_law_1978 : (decode dsL_law_1978 0 = .ok (.aload_n 0, 1) ∧ okop dsL_law_1978 0 = true) ∧ (decode dsL_law_1978 1 = .ok (.iload 5, 2) ∧ okop dsL_law_1978 1 = true) ∧ (decode dsL_law_1978 3 = .ok (.iconst 1, 1) ∧ okop dsL_law_1978 3 = true) ∧ (decode dsL_law_1978 4 = .ok (.iadd, 1) ∧ okop dsL_law_1978 4 = true) ∧ (decode dsL_law_1978 5 = .ok (.iaload, 1) ∧ okop dsL_law_1978 5 = true) ∧ (decode dsL_law_1978 6 = .ok (.aload_n 0, 1) ∧ okop dsL_law_1978 6 = true) ∧ (decode dsL_law_1978 7 = .ok (.iload 5, 2) ∧ okop dsL_law_1978 7 = true) ∧ (decode dsL_law_1978 9 = .ok (.iconst 2, 1) ∧ okop dsL_law_1978 9 = true) ∧ (decode dsL_law_1978 10 = .ok (.iadd, 1) ∧ okop dsL_law_1978 10 = true) ∧ (decode dsL_law_1978 11 = .ok (.iaload, 1) ∧ okop dsL_law_1978 11 = true) := by decide +kernel
theorem dL_law_1978 : decode cL_law 1978 = .ok (.aload_n 0, 1) := dgq (p := 0) daL_law_1978 dbL_law_1978.1
theorem dL_law_1979 : decode cL_law 1979 = .ok (.iload 5, 2) := dgq (p := 1) daL_law_1978 dbL_law_1978.2.1
theorem dL_law_1981 : decode cL_law 1981 = .ok (.iconst 1, 1) := dgq (p := 3) daL_law_1978 dbL_law_1978.2.2.1
theorem dL_law_1982 : decode cL_law 1982 = .ok (.iadd, 1) := dgq (p := 4) daL_law_1978 dbL_law_1978.2.2.2.1
theorem dL_law_1983 : decode cL_law 1983 = .ok (.iaload, 1) := dgq (p := 5) daL_law_1978 dbL_law_1978.2.2.2.2.1
theorem dL_law_1984 : decode cL_law 1984 = .ok (.aload_n 0, 1) := dgq (p := 6) daL_law_1978 dbL_law_1978.2.2.2.2.2.1
theorem dL_law_1985 : decode cL_law 1985 = .ok (.iload 5, 2) := dgq (p := 7) daL_law_1978 dbL_law_1978.2.2.2.2.2.2.1
theorem dL_law_1987 : decode cL_law 1987 = .ok (.iconst 2, 1) := dgq (p := 9) daL_law_1978 dbL_law_1978.2.2.2.2.2.2.2.1
theorem dL_law_1988 : decode cL_law 1988 = .ok (.iadd, 1) := dgq (p := 10) daL_law_1978 dbL_law_1978.2.2.2.2.2.2.2.2.1
theorem dL_law_1989 : decode cL_law 1989 = .ok (.iaload, 1) := dgq (p := 11) daL_law_1978 dbL_law_1978.2.2.2.2.2.2.2.2.2
def dsL_law_1990 : ByteArray := ⟨#[42, 21, 5, 6, 96, 46, 182, 1, 89, 54, 7, 167, 3, 155, 43, 42]⟩
theorem daL_law_1990 : agB cL_law dsL_law_1990 1990 := agB_of (n := 16) (by decide +kernel)
theorem dbL_law_1990 : (decode dsL_law_1990 0 = .ok (.aload_n 0, 1) ∧ okop dsL_law_1990 0 = true) ∧ (decode dsL_law_1990 1 = .ok (.iload 5, 2) ∧ okop dsL_law_1990 1 = true) ∧ (decode dsL_law_1990 3 = .ok (.iconst 3, 1) ∧ okop dsL_law_1990 3 = true) ∧ (decode dsL_law_1990 4 = .ok (.iadd, 1) ∧ okop dsL_law_1990 4 = true) ∧ (decode dsL_law_1990 5 = .ok (.iaload, 1) ∧ okop dsL_law_1990 5 = true) ∧ (decode dsL_law_1990 6 = .ok (.invokevirtual 345, 3) ∧ okop dsL_law_1990 6 = true) ∧ (decode dsL_law_1990 9 = .ok (.istore 7, 2) ∧ okop dsL_law_1990 9 = true) ∧ (decode dsL_law_1990 11 = .ok (.goto 923, 3) ∧ okop dsL_law_1990 11 = true) ∧ (decode dsL_law_1990 14 = .ok (.aload_n 1, 1) ∧ okop dsL_law_1990 14 = true) ∧ (decode dsL_law_1990 15 = .ok (.aload_n 0, 1) ∧ okop dsL_law_1990 15 = true) := by decide +kernel
theorem dL_law_1990 : decode cL_law 1990 = .ok (.aload_n 0, 1) := dgq (p := 0) daL_law_1990 dbL_law_1990.1
theorem dL_law_1991 : decode cL_law 1991 = .ok (.iload 5, 2) := dgq (p := 1) daL_law_1990 dbL_law_1990.2.1
theorem dL_law_1993 : decode cL_law 1993 = .ok (.iconst 3, 1) := dgq (p := 3) daL_law_1990 dbL_law_1990.2.2.1
theorem dL_law_1994 : decode cL_law 1994 = .ok (.iadd, 1) := dgq (p := 4) daL_law_1990 dbL_law_1990.2.2.2.1
theorem dL_law_1995 : decode cL_law 1995 = .ok (.iaload, 1) := dgq (p := 5) daL_law_1990 dbL_law_1990.2.2.2.2.1
theorem dL_law_1996 : decode cL_law 1996 = .ok (.invokevirtual 345, 3) := dgq (p := 6) daL_law_1990 dbL_law_1990.2.2.2.2.2.1
theorem dL_law_1999 : decode cL_law 1999 = .ok (.istore 7, 2) := dgq (p := 9) daL_law_1990 dbL_law_1990.2.2.2.2.2.2.1
theorem dL_law_2001 : decode cL_law 2001 = .ok (.goto 923, 3) := dgq (p := 11) daL_law_1990 dbL_law_1990.2.2.2.2.2.2.2.1
theorem dL_law_2004 : decode cL_law 2004 = .ok (.aload_n 1, 1) := dgq (p := 14) daL_law_1990 dbL_law_1990.2.2.2.2.2.2.2.2.1
theorem dL_law_2005 : decode cL_law 2005 = .ok (.aload_n 0, 1) := dgq (p := 15) daL_law_1990 dbL_law_1990.2.2.2.2.2.2.2.2.2
def dsL_law_2006 : ByteArray := ⟨#[21, 5, 4, 96, 46, 45, 184, 1, 90, 54, 6, 44, 42, 21, 5]⟩
theorem daL_law_2006 : agB cL_law dsL_law_2006 2006 := agB_of (n := 15) (by decide +kernel)
theorem dbL_law_2006 : (decode dsL_law_2006 0 = .ok (.iload 5, 2) ∧ okop dsL_law_2006 0 = true) ∧ (decode dsL_law_2006 2 = .ok (.iconst 1, 1) ∧ okop dsL_law_2006 2 = true) ∧ (decode dsL_law_2006 3 = .ok (.iadd, 1) ∧ okop dsL_law_2006 3 = true) ∧ (decode dsL_law_2006 4 = .ok (.iaload, 1) ∧ okop dsL_law_2006 4 = true) ∧ (decode dsL_law_2006 5 = .ok (.aload_n 3, 1) ∧ okop dsL_law_2006 5 = true) ∧ (decode dsL_law_2006 6 = .ok (.invokestatic 346, 3) ∧ okop dsL_law_2006 6 = true) ∧ (decode dsL_law_2006 9 = .ok (.istore 6, 2) ∧ okop dsL_law_2006 9 = true) ∧ (decode dsL_law_2006 11 = .ok (.aload_n 2, 1) ∧ okop dsL_law_2006 11 = true) ∧ (decode dsL_law_2006 12 = .ok (.aload_n 0, 1) ∧ okop dsL_law_2006 12 = true) ∧ (decode dsL_law_2006 13 = .ok (.iload 5, 2) ∧ okop dsL_law_2006 13 = true) := by decide +kernel
theorem dL_law_2006 : decode cL_law 2006 = .ok (.iload 5, 2) := dgq (p := 0) daL_law_2006 dbL_law_2006.1
theorem dL_law_2008 : decode cL_law 2008 = .ok (.iconst 1, 1) := dgq (p := 2) daL_law_2006 dbL_law_2006.2.1
theorem dL_law_2009 : decode cL_law 2009 = .ok (.iadd, 1) := dgq (p := 3) daL_law_2006 dbL_law_2006.2.2.1
theorem dL_law_2010 : decode cL_law 2010 = .ok (.iaload, 1) := dgq (p := 4) daL_law_2006 dbL_law_2006.2.2.2.1
theorem dL_law_2011 : decode cL_law 2011 = .ok (.aload_n 3, 1) := dgq (p := 5) daL_law_2006 dbL_law_2006.2.2.2.2.1
theorem dL_law_2012 : decode cL_law 2012 = .ok (.invokestatic 346, 3) := dgq (p := 6) daL_law_2006 dbL_law_2006.2.2.2.2.2.1
theorem dL_law_2015 : decode cL_law 2015 = .ok (.istore 6, 2) := dgq (p := 9) daL_law_2006 dbL_law_2006.2.2.2.2.2.2.1
theorem dL_law_2017 : decode cL_law 2017 = .ok (.aload_n 2, 1) := dgq (p := 11) daL_law_2006 dbL_law_2006.2.2.2.2.2.2.2.1
theorem dL_law_2018 : decode cL_law 2018 = .ok (.aload_n 0, 1) := dgq (p := 12) daL_law_2006 dbL_law_2006.2.2.2.2.2.2.2.2.1
theorem dL_law_2019 : decode cL_law 2019 = .ok (.iload 5, 2) := dgq (p := 13) daL_law_2006 dbL_law_2006.2.2.2.2.2.2.2.2.2
def dsL_law_2021 : ByteArray := ⟨#[4, 96, 46, 182, 1, 92, 54, 7, 167, 3, 127, 43, 42, 21, 5, 4]⟩
theorem daL_law_2021 : agB cL_law dsL_law_2021 2021 := agB_of (n := 16) (by decide +kernel)
theorem dbL_law_2021 : (decode dsL_law_2021 0 = .ok (.iconst 1, 1) ∧ okop dsL_law_2021 0 = true) ∧ (decode dsL_law_2021 1 = .ok (.iadd, 1) ∧ okop dsL_law_2021 1 = true) ∧ (decode dsL_law_2021 2 = .ok (.iaload, 1) ∧ okop dsL_law_2021 2 = true) ∧ (decode dsL_law_2021 3 = .ok (.invokevirtual 348, 3) ∧ okop dsL_law_2021 3 = true) ∧ (decode dsL_law_2021 6 = .ok (.istore 7, 2) ∧ okop dsL_law_2021 6 = true) ∧ (decode dsL_law_2021 8 = .ok (.goto 895, 3) ∧ okop dsL_law_2021 8 = true) ∧ (decode dsL_law_2021 11 = .ok (.aload_n 1, 1) ∧ okop dsL_law_2021 11 = true) ∧ (decode dsL_law_2021 12 = .ok (.aload_n 0, 1) ∧ okop dsL_law_2021 12 = true) ∧ (decode dsL_law_2021 13 = .ok (.iload 5, 2) ∧ okop dsL_law_2021 13 = true) ∧ (decode dsL_law_2021 15 = .ok (.iconst 1, 1) ∧ okop dsL_law_2021 15 = true) := by decide +kernel
theorem dL_law_2021 : decode cL_law 2021 = .ok (.iconst 1, 1) := dgq (p := 0) daL_law_2021 dbL_law_2021.1
theorem dL_law_2022 : decode cL_law 2022 = .ok (.iadd, 1) := dgq (p := 1) daL_law_2021 dbL_law_2021.2.1
theorem dL_law_2023 : decode cL_law 2023 = .ok (.iaload, 1) := dgq (p := 2) daL_law_2021 dbL_law_2021.2.2.1
theorem dL_law_2024 : decode cL_law 2024 = .ok (.invokevirtual 348, 3) := dgq (p := 3) daL_law_2021 dbL_law_2021.2.2.2.1
theorem dL_law_2027 : decode cL_law 2027 = .ok (.istore 7, 2) := dgq (p := 6) daL_law_2021 dbL_law_2021.2.2.2.2.1
theorem dL_law_2029 : decode cL_law 2029 = .ok (.goto 895, 3) := dgq (p := 8) daL_law_2021 dbL_law_2021.2.2.2.2.2.1
theorem dL_law_2032 : decode cL_law 2032 = .ok (.aload_n 1, 1) := dgq (p := 11) daL_law_2021 dbL_law_2021.2.2.2.2.2.2.1
theorem dL_law_2033 : decode cL_law 2033 = .ok (.aload_n 0, 1) := dgq (p := 12) daL_law_2021 dbL_law_2021.2.2.2.2.2.2.2.1
theorem dL_law_2034 : decode cL_law 2034 = .ok (.iload 5, 2) := dgq (p := 13) daL_law_2021 dbL_law_2021.2.2.2.2.2.2.2.2.1
theorem dL_law_2036 : decode cL_law 2036 = .ok (.iconst 1, 1) := dgq (p := 15) daL_law_2021 dbL_law_2021.2.2.2.2.2.2.2.2.2
def dsL_law_2037 : ByteArray := ⟨#[96, 46, 45, 184, 1, 93, 54, 6, 44, 42, 21, 5, 4, 96]⟩
theorem daL_law_2037 : agB cL_law dsL_law_2037 2037 := agB_of (n := 14) (by decide +kernel)
theorem dbL_law_2037 : (decode dsL_law_2037 0 = .ok (.iadd, 1) ∧ okop dsL_law_2037 0 = true) ∧ (decode dsL_law_2037 1 = .ok (.iaload, 1) ∧ okop dsL_law_2037 1 = true) ∧ (decode dsL_law_2037 2 = .ok (.aload_n 3, 1) ∧ okop dsL_law_2037 2 = true) ∧ (decode dsL_law_2037 3 = .ok (.invokestatic 349, 3) ∧ okop dsL_law_2037 3 = true) ∧ (decode dsL_law_2037 6 = .ok (.istore 6, 2) ∧ okop dsL_law_2037 6 = true) ∧ (decode dsL_law_2037 8 = .ok (.aload_n 2, 1) ∧ okop dsL_law_2037 8 = true) ∧ (decode dsL_law_2037 9 = .ok (.aload_n 0, 1) ∧ okop dsL_law_2037 9 = true) ∧ (decode dsL_law_2037 10 = .ok (.iload 5, 2) ∧ okop dsL_law_2037 10 = true) ∧ (decode dsL_law_2037 12 = .ok (.iconst 1, 1) ∧ okop dsL_law_2037 12 = true) ∧ (decode dsL_law_2037 13 = .ok (.iadd, 1) ∧ okop dsL_law_2037 13 = true) := by decide +kernel
theorem dL_law_2037 : decode cL_law 2037 = .ok (.iadd, 1) := dgq (p := 0) daL_law_2037 dbL_law_2037.1
theorem dL_law_2038 : decode cL_law 2038 = .ok (.iaload, 1) := dgq (p := 1) daL_law_2037 dbL_law_2037.2.1
theorem dL_law_2039 : decode cL_law 2039 = .ok (.aload_n 3, 1) := dgq (p := 2) daL_law_2037 dbL_law_2037.2.2.1
theorem dL_law_2040 : decode cL_law 2040 = .ok (.invokestatic 349, 3) := dgq (p := 3) daL_law_2037 dbL_law_2037.2.2.2.1
theorem dL_law_2043 : decode cL_law 2043 = .ok (.istore 6, 2) := dgq (p := 6) daL_law_2037 dbL_law_2037.2.2.2.2.1
theorem dL_law_2045 : decode cL_law 2045 = .ok (.aload_n 2, 1) := dgq (p := 8) daL_law_2037 dbL_law_2037.2.2.2.2.2.1
theorem dL_law_2046 : decode cL_law 2046 = .ok (.aload_n 0, 1) := dgq (p := 9) daL_law_2037 dbL_law_2037.2.2.2.2.2.2.1
theorem dL_law_2047 : decode cL_law 2047 = .ok (.iload 5, 2) := dgq (p := 10) daL_law_2037 dbL_law_2037.2.2.2.2.2.2.2.1
theorem dL_law_2049 : decode cL_law 2049 = .ok (.iconst 1, 1) := dgq (p := 12) daL_law_2037 dbL_law_2037.2.2.2.2.2.2.2.2.1
theorem dL_law_2050 : decode cL_law 2050 = .ok (.iadd, 1) := dgq (p := 13) daL_law_2037 dbL_law_2037.2.2.2.2.2.2.2.2.2
def dsL_law_2051 : ByteArray := ⟨#[46, 182, 1, 95, 54, 7, 167, 3, 99, 43, 42, 21, 5, 4, 96, 46]⟩
theorem daL_law_2051 : agB cL_law dsL_law_2051 2051 := agB_of (n := 16) (by decide +kernel)
theorem dbL_law_2051 : (decode dsL_law_2051 0 = .ok (.iaload, 1) ∧ okop dsL_law_2051 0 = true) ∧ (decode dsL_law_2051 1 = .ok (.invokevirtual 351, 3) ∧ okop dsL_law_2051 1 = true) ∧ (decode dsL_law_2051 4 = .ok (.istore 7, 2) ∧ okop dsL_law_2051 4 = true) ∧ (decode dsL_law_2051 6 = .ok (.goto 867, 3) ∧ okop dsL_law_2051 6 = true) ∧ (decode dsL_law_2051 9 = .ok (.aload_n 1, 1) ∧ okop dsL_law_2051 9 = true) ∧ (decode dsL_law_2051 10 = .ok (.aload_n 0, 1) ∧ okop dsL_law_2051 10 = true) ∧ (decode dsL_law_2051 11 = .ok (.iload 5, 2) ∧ okop dsL_law_2051 11 = true) ∧ (decode dsL_law_2051 13 = .ok (.iconst 1, 1) ∧ okop dsL_law_2051 13 = true) ∧ (decode dsL_law_2051 14 = .ok (.iadd, 1) ∧ okop dsL_law_2051 14 = true) ∧ (decode dsL_law_2051 15 = .ok (.iaload, 1) ∧ okop dsL_law_2051 15 = true) := by decide +kernel
theorem dL_law_2051 : decode cL_law 2051 = .ok (.iaload, 1) := dgq (p := 0) daL_law_2051 dbL_law_2051.1
theorem dL_law_2052 : decode cL_law 2052 = .ok (.invokevirtual 351, 3) := dgq (p := 1) daL_law_2051 dbL_law_2051.2.1
theorem dL_law_2055 : decode cL_law 2055 = .ok (.istore 7, 2) := dgq (p := 4) daL_law_2051 dbL_law_2051.2.2.1
theorem dL_law_2057 : decode cL_law 2057 = .ok (.goto 867, 3) := dgq (p := 6) daL_law_2051 dbL_law_2051.2.2.2.1
theorem dL_law_2060 : decode cL_law 2060 = .ok (.aload_n 1, 1) := dgq (p := 9) daL_law_2051 dbL_law_2051.2.2.2.2.1
theorem dL_law_2061 : decode cL_law 2061 = .ok (.aload_n 0, 1) := dgq (p := 10) daL_law_2051 dbL_law_2051.2.2.2.2.2.1
theorem dL_law_2062 : decode cL_law 2062 = .ok (.iload 5, 2) := dgq (p := 11) daL_law_2051 dbL_law_2051.2.2.2.2.2.2.1
theorem dL_law_2064 : decode cL_law 2064 = .ok (.iconst 1, 1) := dgq (p := 13) daL_law_2051 dbL_law_2051.2.2.2.2.2.2.2.1
theorem dL_law_2065 : decode cL_law 2065 = .ok (.iadd, 1) := dgq (p := 14) daL_law_2051 dbL_law_2051.2.2.2.2.2.2.2.2.1
theorem dL_law_2066 : decode cL_law 2066 = .ok (.iaload, 1) := dgq (p := 15) daL_law_2051 dbL_law_2051.2.2.2.2.2.2.2.2.2
def dsL_law_2067 : ByteArray := ⟨#[42, 21, 5, 5, 96, 46, 45, 184, 1, 96, 54, 6, 44, 42]⟩
theorem daL_law_2067 : agB cL_law dsL_law_2067 2067 := agB_of (n := 14) (by decide +kernel)
theorem dbL_law_2067 : (decode dsL_law_2067 0 = .ok (.aload_n 0, 1) ∧ okop dsL_law_2067 0 = true) ∧ (decode dsL_law_2067 1 = .ok (.iload 5, 2) ∧ okop dsL_law_2067 1 = true) ∧ (decode dsL_law_2067 3 = .ok (.iconst 2, 1) ∧ okop dsL_law_2067 3 = true) ∧ (decode dsL_law_2067 4 = .ok (.iadd, 1) ∧ okop dsL_law_2067 4 = true) ∧ (decode dsL_law_2067 5 = .ok (.iaload, 1) ∧ okop dsL_law_2067 5 = true) ∧ (decode dsL_law_2067 6 = .ok (.aload_n 3, 1) ∧ okop dsL_law_2067 6 = true) ∧ (decode dsL_law_2067 7 = .ok (.invokestatic 352, 3) ∧ okop dsL_law_2067 7 = true) ∧ (decode dsL_law_2067 10 = .ok (.istore 6, 2) ∧ okop dsL_law_2067 10 = true) ∧ (decode dsL_law_2067 12 = .ok (.aload_n 2, 1) ∧ okop dsL_law_2067 12 = true) ∧ (decode dsL_law_2067 13 = .ok (.aload_n 0, 1) ∧ okop dsL_law_2067 13 = true) := by decide +kernel
theorem dL_law_2067 : decode cL_law 2067 = .ok (.aload_n 0, 1) := dgq (p := 0) daL_law_2067 dbL_law_2067.1
theorem dL_law_2068 : decode cL_law 2068 = .ok (.iload 5, 2) := dgq (p := 1) daL_law_2067 dbL_law_2067.2.1
theorem dL_law_2070 : decode cL_law 2070 = .ok (.iconst 2, 1) := dgq (p := 3) daL_law_2067 dbL_law_2067.2.2.1
theorem dL_law_2071 : decode cL_law 2071 = .ok (.iadd, 1) := dgq (p := 4) daL_law_2067 dbL_law_2067.2.2.2.1
theorem dL_law_2072 : decode cL_law 2072 = .ok (.iaload, 1) := dgq (p := 5) daL_law_2067 dbL_law_2067.2.2.2.2.1
theorem dL_law_2073 : decode cL_law 2073 = .ok (.aload_n 3, 1) := dgq (p := 6) daL_law_2067 dbL_law_2067.2.2.2.2.2.1
theorem dL_law_2074 : decode cL_law 2074 = .ok (.invokestatic 352, 3) := dgq (p := 7) daL_law_2067 dbL_law_2067.2.2.2.2.2.2.1
theorem dL_law_2077 : decode cL_law 2077 = .ok (.istore 6, 2) := dgq (p := 10) daL_law_2067 dbL_law_2067.2.2.2.2.2.2.2.1
theorem dL_law_2079 : decode cL_law 2079 = .ok (.aload_n 2, 1) := dgq (p := 12) daL_law_2067 dbL_law_2067.2.2.2.2.2.2.2.2.1
theorem dL_law_2080 : decode cL_law 2080 = .ok (.aload_n 0, 1) := dgq (p := 13) daL_law_2067 dbL_law_2067.2.2.2.2.2.2.2.2.2
def dsL_law_2081 : ByteArray := ⟨#[21, 5, 4, 96, 46, 42, 21, 5, 5, 96, 46, 182, 1, 98]⟩
theorem daL_law_2081 : agB cL_law dsL_law_2081 2081 := agB_of (n := 14) (by decide +kernel)
theorem dbL_law_2081 : (decode dsL_law_2081 0 = .ok (.iload 5, 2) ∧ okop dsL_law_2081 0 = true) ∧ (decode dsL_law_2081 2 = .ok (.iconst 1, 1) ∧ okop dsL_law_2081 2 = true) ∧ (decode dsL_law_2081 3 = .ok (.iadd, 1) ∧ okop dsL_law_2081 3 = true) ∧ (decode dsL_law_2081 4 = .ok (.iaload, 1) ∧ okop dsL_law_2081 4 = true) ∧ (decode dsL_law_2081 5 = .ok (.aload_n 0, 1) ∧ okop dsL_law_2081 5 = true) ∧ (decode dsL_law_2081 6 = .ok (.iload 5, 2) ∧ okop dsL_law_2081 6 = true) ∧ (decode dsL_law_2081 8 = .ok (.iconst 2, 1) ∧ okop dsL_law_2081 8 = true) ∧ (decode dsL_law_2081 9 = .ok (.iadd, 1) ∧ okop dsL_law_2081 9 = true) ∧ (decode dsL_law_2081 10 = .ok (.iaload, 1) ∧ okop dsL_law_2081 10 = true) ∧ (decode dsL_law_2081 11 = .ok (.invokevirtual 354, 3) ∧ okop dsL_law_2081 11 = true) := by decide +kernel
theorem dL_law_2081 : decode cL_law 2081 = .ok (.iload 5, 2) := dgq (p := 0) daL_law_2081 dbL_law_2081.1
theorem dL_law_2083 : decode cL_law 2083 = .ok (.iconst 1, 1) := dgq (p := 2) daL_law_2081 dbL_law_2081.2.1
theorem dL_law_2084 : decode cL_law 2084 = .ok (.iadd, 1) := dgq (p := 3) daL_law_2081 dbL_law_2081.2.2.1
theorem dL_law_2085 : decode cL_law 2085 = .ok (.iaload, 1) := dgq (p := 4) daL_law_2081 dbL_law_2081.2.2.2.1
theorem dL_law_2086 : decode cL_law 2086 = .ok (.aload_n 0, 1) := dgq (p := 5) daL_law_2081 dbL_law_2081.2.2.2.2.1
theorem dL_law_2087 : decode cL_law 2087 = .ok (.iload 5, 2) := dgq (p := 6) daL_law_2081 dbL_law_2081.2.2.2.2.2.1
theorem dL_law_2089 : decode cL_law 2089 = .ok (.iconst 2, 1) := dgq (p := 8) daL_law_2081 dbL_law_2081.2.2.2.2.2.2.1
theorem dL_law_2090 : decode cL_law 2090 = .ok (.iadd, 1) := dgq (p := 9) daL_law_2081 dbL_law_2081.2.2.2.2.2.2.2.1
theorem dL_law_2091 : decode cL_law 2091 = .ok (.iaload, 1) := dgq (p := 10) daL_law_2081 dbL_law_2081.2.2.2.2.2.2.2.2.1
theorem dL_law_2092 : decode cL_law 2092 = .ok (.invokevirtual 354, 3) := dgq (p := 11) daL_law_2081 dbL_law_2081.2.2.2.2.2.2.2.2.2
def dsL_law_2095 : ByteArray := ⟨#[54, 7, 167, 3, 59, 43, 42, 21, 5, 4, 96, 46, 45, 184, 1, 99]⟩
theorem daL_law_2095 : agB cL_law dsL_law_2095 2095 := agB_of (n := 16) (by decide +kernel)
theorem dbL_law_2095 : (decode dsL_law_2095 0 = .ok (.istore 7, 2) ∧ okop dsL_law_2095 0 = true) ∧ (decode dsL_law_2095 2 = .ok (.goto 827, 3) ∧ okop dsL_law_2095 2 = true) ∧ (decode dsL_law_2095 5 = .ok (.aload_n 1, 1) ∧ okop dsL_law_2095 5 = true) ∧ (decode dsL_law_2095 6 = .ok (.aload_n 0, 1) ∧ okop dsL_law_2095 6 = true) ∧ (decode dsL_law_2095 7 = .ok (.iload 5, 2) ∧ okop dsL_law_2095 7 = true) ∧ (decode dsL_law_2095 9 = .ok (.iconst 1, 1) ∧ okop dsL_law_2095 9 = true) ∧ (decode dsL_law_2095 10 = .ok (.iadd, 1) ∧ okop dsL_law_2095 10 = true) ∧ (decode dsL_law_2095 11 = .ok (.iaload, 1) ∧ okop dsL_law_2095 11 = true) ∧ (decode dsL_law_2095 12 = .ok (.aload_n 3, 1) ∧ okop dsL_law_2095 12 = true) ∧ (decode dsL_law_2095 13 = .ok (.invokestatic 355, 3) ∧ okop dsL_law_2095 13 = true) := by decide +kernel
theorem dL_law_2095 : decode cL_law 2095 = .ok (.istore 7, 2) := dgq (p := 0) daL_law_2095 dbL_law_2095.1
theorem dL_law_2097 : decode cL_law 2097 = .ok (.goto 827, 3) := dgq (p := 2) daL_law_2095 dbL_law_2095.2.1
theorem dL_law_2100 : decode cL_law 2100 = .ok (.aload_n 1, 1) := dgq (p := 5) daL_law_2095 dbL_law_2095.2.2.1
theorem dL_law_2101 : decode cL_law 2101 = .ok (.aload_n 0, 1) := dgq (p := 6) daL_law_2095 dbL_law_2095.2.2.2.1
theorem dL_law_2102 : decode cL_law 2102 = .ok (.iload 5, 2) := dgq (p := 7) daL_law_2095 dbL_law_2095.2.2.2.2.1
theorem dL_law_2104 : decode cL_law 2104 = .ok (.iconst 1, 1) := dgq (p := 9) daL_law_2095 dbL_law_2095.2.2.2.2.2.1
theorem dL_law_2105 : decode cL_law 2105 = .ok (.iadd, 1) := dgq (p := 10) daL_law_2095 dbL_law_2095.2.2.2.2.2.2.1
theorem dL_law_2106 : decode cL_law 2106 = .ok (.iaload, 1) := dgq (p := 11) daL_law_2095 dbL_law_2095.2.2.2.2.2.2.2.1
theorem dL_law_2107 : decode cL_law 2107 = .ok (.aload_n 3, 1) := dgq (p := 12) daL_law_2095 dbL_law_2095.2.2.2.2.2.2.2.2.1
theorem dL_law_2108 : decode cL_law 2108 = .ok (.invokestatic 355, 3) := dgq (p := 13) daL_law_2095 dbL_law_2095.2.2.2.2.2.2.2.2.2
def dsL_law_2111 : ByteArray := ⟨#[54, 6, 44, 42, 21, 5, 4, 96, 46, 182, 1, 101, 54, 7, 167, 3, 31]⟩
theorem daL_law_2111 : agB cL_law dsL_law_2111 2111 := agB_of (n := 17) (by decide +kernel)
theorem dbL_law_2111 : (decode dsL_law_2111 0 = .ok (.istore 6, 2) ∧ okop dsL_law_2111 0 = true) ∧ (decode dsL_law_2111 2 = .ok (.aload_n 2, 1) ∧ okop dsL_law_2111 2 = true) ∧ (decode dsL_law_2111 3 = .ok (.aload_n 0, 1) ∧ okop dsL_law_2111 3 = true) ∧ (decode dsL_law_2111 4 = .ok (.iload 5, 2) ∧ okop dsL_law_2111 4 = true) ∧ (decode dsL_law_2111 6 = .ok (.iconst 1, 1) ∧ okop dsL_law_2111 6 = true) ∧ (decode dsL_law_2111 7 = .ok (.iadd, 1) ∧ okop dsL_law_2111 7 = true) ∧ (decode dsL_law_2111 8 = .ok (.iaload, 1) ∧ okop dsL_law_2111 8 = true) ∧ (decode dsL_law_2111 9 = .ok (.invokevirtual 357, 3) ∧ okop dsL_law_2111 9 = true) ∧ (decode dsL_law_2111 12 = .ok (.istore 7, 2) ∧ okop dsL_law_2111 12 = true) ∧ (decode dsL_law_2111 14 = .ok (.goto 799, 3) ∧ okop dsL_law_2111 14 = true) := by decide +kernel
theorem dL_law_2111 : decode cL_law 2111 = .ok (.istore 6, 2) := dgq (p := 0) daL_law_2111 dbL_law_2111.1
theorem dL_law_2113 : decode cL_law 2113 = .ok (.aload_n 2, 1) := dgq (p := 2) daL_law_2111 dbL_law_2111.2.1
theorem dL_law_2114 : decode cL_law 2114 = .ok (.aload_n 0, 1) := dgq (p := 3) daL_law_2111 dbL_law_2111.2.2.1
theorem dL_law_2115 : decode cL_law 2115 = .ok (.iload 5, 2) := dgq (p := 4) daL_law_2111 dbL_law_2111.2.2.2.1
theorem dL_law_2117 : decode cL_law 2117 = .ok (.iconst 1, 1) := dgq (p := 6) daL_law_2111 dbL_law_2111.2.2.2.2.1
theorem dL_law_2118 : decode cL_law 2118 = .ok (.iadd, 1) := dgq (p := 7) daL_law_2111 dbL_law_2111.2.2.2.2.2.1
theorem dL_law_2119 : decode cL_law 2119 = .ok (.iaload, 1) := dgq (p := 8) daL_law_2111 dbL_law_2111.2.2.2.2.2.2.1
theorem dL_law_2120 : decode cL_law 2120 = .ok (.invokevirtual 357, 3) := dgq (p := 9) daL_law_2111 dbL_law_2111.2.2.2.2.2.2.2.1
theorem dL_law_2123 : decode cL_law 2123 = .ok (.istore 7, 2) := dgq (p := 12) daL_law_2111 dbL_law_2111.2.2.2.2.2.2.2.2.1
theorem dL_law_2125 : decode cL_law 2125 = .ok (.goto 799, 3) := dgq (p := 14) daL_law_2111 dbL_law_2111.2.2.2.2.2.2.2.2.2
def dsL_law_2128 : ByteArray := ⟨#[43, 42, 21, 5, 4, 96, 46, 42, 21, 5, 5, 96]⟩
theorem daL_law_2128 : agB cL_law dsL_law_2128 2128 := agB_of (n := 12) (by decide +kernel)
theorem dbL_law_2128 : (decode dsL_law_2128 0 = .ok (.aload_n 1, 1) ∧ okop dsL_law_2128 0 = true) ∧ (decode dsL_law_2128 1 = .ok (.aload_n 0, 1) ∧ okop dsL_law_2128 1 = true) ∧ (decode dsL_law_2128 2 = .ok (.iload 5, 2) ∧ okop dsL_law_2128 2 = true) ∧ (decode dsL_law_2128 4 = .ok (.iconst 1, 1) ∧ okop dsL_law_2128 4 = true) ∧ (decode dsL_law_2128 5 = .ok (.iadd, 1) ∧ okop dsL_law_2128 5 = true) ∧ (decode dsL_law_2128 6 = .ok (.iaload, 1) ∧ okop dsL_law_2128 6 = true) ∧ (decode dsL_law_2128 7 = .ok (.aload_n 0, 1) ∧ okop dsL_law_2128 7 = true) ∧ (decode dsL_law_2128 8 = .ok (.iload 5, 2) ∧ okop dsL_law_2128 8 = true) ∧ (decode dsL_law_2128 10 = .ok (.iconst 2, 1) ∧ okop dsL_law_2128 10 = true) ∧ (decode dsL_law_2128 11 = .ok (.iadd, 1) ∧ okop dsL_law_2128 11 = true) := by decide +kernel
theorem dL_law_2128 : decode cL_law 2128 = .ok (.aload_n 1, 1) := dgq (p := 0) daL_law_2128 dbL_law_2128.1
theorem dL_law_2129 : decode cL_law 2129 = .ok (.aload_n 0, 1) := dgq (p := 1) daL_law_2128 dbL_law_2128.2.1
theorem dL_law_2130 : decode cL_law 2130 = .ok (.iload 5, 2) := dgq (p := 2) daL_law_2128 dbL_law_2128.2.2.1
theorem dL_law_2132 : decode cL_law 2132 = .ok (.iconst 1, 1) := dgq (p := 4) daL_law_2128 dbL_law_2128.2.2.2.1
theorem dL_law_2133 : decode cL_law 2133 = .ok (.iadd, 1) := dgq (p := 5) daL_law_2128 dbL_law_2128.2.2.2.2.1
theorem dL_law_2134 : decode cL_law 2134 = .ok (.iaload, 1) := dgq (p := 6) daL_law_2128 dbL_law_2128.2.2.2.2.2.1
theorem dL_law_2135 : decode cL_law 2135 = .ok (.aload_n 0, 1) := dgq (p := 7) daL_law_2128 dbL_law_2128.2.2.2.2.2.2.1
theorem dL_law_2136 : decode cL_law 2136 = .ok (.iload 5, 2) := dgq (p := 8) daL_law_2128 dbL_law_2128.2.2.2.2.2.2.2.1
theorem dL_law_2138 : decode cL_law 2138 = .ok (.iconst 2, 1) := dgq (p := 10) daL_law_2128 dbL_law_2128.2.2.2.2.2.2.2.2.1
theorem dL_law_2139 : decode cL_law 2139 = .ok (.iadd, 1) := dgq (p := 11) daL_law_2128 dbL_law_2128.2.2.2.2.2.2.2.2.2
def dsL_law_2140 : ByteArray := ⟨#[46, 42, 21, 5, 6, 96, 46, 45, 184, 1, 102, 54, 6, 44]⟩
theorem daL_law_2140 : agB cL_law dsL_law_2140 2140 := agB_of (n := 14) (by decide +kernel)
theorem dbL_law_2140 : (decode dsL_law_2140 0 = .ok (.iaload, 1) ∧ okop dsL_law_2140 0 = true) ∧ (decode dsL_law_2140 1 = .ok (.aload_n 0, 1) ∧ okop dsL_law_2140 1 = true) ∧ (decode dsL_law_2140 2 = .ok (.iload 5, 2) ∧ okop dsL_law_2140 2 = true) ∧ (decode dsL_law_2140 4 = .ok (.iconst 3, 1) ∧ okop dsL_law_2140 4 = true) ∧ (decode dsL_law_2140 5 = .ok (.iadd, 1) ∧ okop dsL_law_2140 5 = true) ∧ (decode dsL_law_2140 6 = .ok (.iaload, 1) ∧ okop dsL_law_2140 6 = true) ∧ (decode dsL_law_2140 7 = .ok (.aload_n 3, 1) ∧ okop dsL_law_2140 7 = true) ∧ (decode dsL_law_2140 8 = .ok (.invokestatic 358, 3) ∧ okop dsL_law_2140 8 = true) ∧ (decode dsL_law_2140 11 = .ok (.istore 6, 2) ∧ okop dsL_law_2140 11 = true) ∧ (decode dsL_law_2140 13 = .ok (.aload_n 2, 1) ∧ okop dsL_law_2140 13 = true) := by decide +kernel
theorem dL_law_2140 : decode cL_law 2140 = .ok (.iaload, 1) := dgq (p := 0) daL_law_2140 dbL_law_2140.1
theorem dL_law_2141 : decode cL_law 2141 = .ok (.aload_n 0, 1) := dgq (p := 1) daL_law_2140 dbL_law_2140.2.1
theorem dL_law_2142 : decode cL_law 2142 = .ok (.iload 5, 2) := dgq (p := 2) daL_law_2140 dbL_law_2140.2.2.1
theorem dL_law_2144 : decode cL_law 2144 = .ok (.iconst 3, 1) := dgq (p := 4) daL_law_2140 dbL_law_2140.2.2.2.1
theorem dL_law_2145 : decode cL_law 2145 = .ok (.iadd, 1) := dgq (p := 5) daL_law_2140 dbL_law_2140.2.2.2.2.1
theorem dL_law_2146 : decode cL_law 2146 = .ok (.iaload, 1) := dgq (p := 6) daL_law_2140 dbL_law_2140.2.2.2.2.2.1
theorem dL_law_2147 : decode cL_law 2147 = .ok (.aload_n 3, 1) := dgq (p := 7) daL_law_2140 dbL_law_2140.2.2.2.2.2.2.1
theorem dL_law_2148 : decode cL_law 2148 = .ok (.invokestatic 358, 3) := dgq (p := 8) daL_law_2140 dbL_law_2140.2.2.2.2.2.2.2.1
theorem dL_law_2151 : decode cL_law 2151 = .ok (.istore 6, 2) := dgq (p := 11) daL_law_2140 dbL_law_2140.2.2.2.2.2.2.2.2.1
theorem dL_law_2153 : decode cL_law 2153 = .ok (.aload_n 2, 1) := dgq (p := 13) daL_law_2140 dbL_law_2140.2.2.2.2.2.2.2.2.2
def dsL_law_2154 : ByteArray := ⟨#[42, 21, 5, 4, 96, 46, 42, 21, 5, 5, 96, 46]⟩
theorem daL_law_2154 : agB cL_law dsL_law_2154 2154 := agB_of (n := 12) (by decide +kernel)
theorem dbL_law_2154 : (decode dsL_law_2154 0 = .ok (.aload_n 0, 1) ∧ okop dsL_law_2154 0 = true) ∧ (decode dsL_law_2154 1 = .ok (.iload 5, 2) ∧ okop dsL_law_2154 1 = true) ∧ (decode dsL_law_2154 3 = .ok (.iconst 1, 1) ∧ okop dsL_law_2154 3 = true) ∧ (decode dsL_law_2154 4 = .ok (.iadd, 1) ∧ okop dsL_law_2154 4 = true) ∧ (decode dsL_law_2154 5 = .ok (.iaload, 1) ∧ okop dsL_law_2154 5 = true) ∧ (decode dsL_law_2154 6 = .ok (.aload_n 0, 1) ∧ okop dsL_law_2154 6 = true) ∧ (decode dsL_law_2154 7 = .ok (.iload 5, 2) ∧ okop dsL_law_2154 7 = true) ∧ (decode dsL_law_2154 9 = .ok (.iconst 2, 1) ∧ okop dsL_law_2154 9 = true) ∧ (decode dsL_law_2154 10 = .ok (.iadd, 1) ∧ okop dsL_law_2154 10 = true) ∧ (decode dsL_law_2154 11 = .ok (.iaload, 1) ∧ okop dsL_law_2154 11 = true) := by decide +kernel
theorem dL_law_2154 : decode cL_law 2154 = .ok (.aload_n 0, 1) := dgq (p := 0) daL_law_2154 dbL_law_2154.1
theorem dL_law_2155 : decode cL_law 2155 = .ok (.iload 5, 2) := dgq (p := 1) daL_law_2154 dbL_law_2154.2.1
theorem dL_law_2157 : decode cL_law 2157 = .ok (.iconst 1, 1) := dgq (p := 3) daL_law_2154 dbL_law_2154.2.2.1
theorem dL_law_2158 : decode cL_law 2158 = .ok (.iadd, 1) := dgq (p := 4) daL_law_2154 dbL_law_2154.2.2.2.1
theorem dL_law_2159 : decode cL_law 2159 = .ok (.iaload, 1) := dgq (p := 5) daL_law_2154 dbL_law_2154.2.2.2.2.1
theorem dL_law_2160 : decode cL_law 2160 = .ok (.aload_n 0, 1) := dgq (p := 6) daL_law_2154 dbL_law_2154.2.2.2.2.2.1
theorem dL_law_2161 : decode cL_law 2161 = .ok (.iload 5, 2) := dgq (p := 7) daL_law_2154 dbL_law_2154.2.2.2.2.2.2.1
theorem dL_law_2163 : decode cL_law 2163 = .ok (.iconst 2, 1) := dgq (p := 9) daL_law_2154 dbL_law_2154.2.2.2.2.2.2.2.1
theorem dL_law_2164 : decode cL_law 2164 = .ok (.iadd, 1) := dgq (p := 10) daL_law_2154 dbL_law_2154.2.2.2.2.2.2.2.2.1
theorem dL_law_2165 : decode cL_law 2165 = .ok (.iaload, 1) := dgq (p := 11) daL_law_2154 dbL_law_2154.2.2.2.2.2.2.2.2.2
def dsL_law_2166 : ByteArray := ⟨#[42, 21, 5, 6, 96, 46, 182, 1, 104, 54, 7, 167, 2, 235, 43, 42]⟩
theorem daL_law_2166 : agB cL_law dsL_law_2166 2166 := agB_of (n := 16) (by decide +kernel)
theorem dbL_law_2166 : (decode dsL_law_2166 0 = .ok (.aload_n 0, 1) ∧ okop dsL_law_2166 0 = true) ∧ (decode dsL_law_2166 1 = .ok (.iload 5, 2) ∧ okop dsL_law_2166 1 = true) ∧ (decode dsL_law_2166 3 = .ok (.iconst 3, 1) ∧ okop dsL_law_2166 3 = true) ∧ (decode dsL_law_2166 4 = .ok (.iadd, 1) ∧ okop dsL_law_2166 4 = true) ∧ (decode dsL_law_2166 5 = .ok (.iaload, 1) ∧ okop dsL_law_2166 5 = true) ∧ (decode dsL_law_2166 6 = .ok (.invokevirtual 360, 3) ∧ okop dsL_law_2166 6 = true) ∧ (decode dsL_law_2166 9 = .ok (.istore 7, 2) ∧ okop dsL_law_2166 9 = true) ∧ (decode dsL_law_2166 11 = .ok (.goto 747, 3) ∧ okop dsL_law_2166 11 = true) ∧ (decode dsL_law_2166 14 = .ok (.aload_n 1, 1) ∧ okop dsL_law_2166 14 = true) ∧ (decode dsL_law_2166 15 = .ok (.aload_n 0, 1) ∧ okop dsL_law_2166 15 = true) := by decide +kernel
theorem dL_law_2166 : decode cL_law 2166 = .ok (.aload_n 0, 1) := dgq (p := 0) daL_law_2166 dbL_law_2166.1
theorem dL_law_2167 : decode cL_law 2167 = .ok (.iload 5, 2) := dgq (p := 1) daL_law_2166 dbL_law_2166.2.1
theorem dL_law_2169 : decode cL_law 2169 = .ok (.iconst 3, 1) := dgq (p := 3) daL_law_2166 dbL_law_2166.2.2.1
theorem dL_law_2170 : decode cL_law 2170 = .ok (.iadd, 1) := dgq (p := 4) daL_law_2166 dbL_law_2166.2.2.2.1
theorem dL_law_2171 : decode cL_law 2171 = .ok (.iaload, 1) := dgq (p := 5) daL_law_2166 dbL_law_2166.2.2.2.2.1
theorem dL_law_2172 : decode cL_law 2172 = .ok (.invokevirtual 360, 3) := dgq (p := 6) daL_law_2166 dbL_law_2166.2.2.2.2.2.1
theorem dL_law_2175 : decode cL_law 2175 = .ok (.istore 7, 2) := dgq (p := 9) daL_law_2166 dbL_law_2166.2.2.2.2.2.2.1
theorem dL_law_2177 : decode cL_law 2177 = .ok (.goto 747, 3) := dgq (p := 11) daL_law_2166 dbL_law_2166.2.2.2.2.2.2.2.1
theorem dL_law_2180 : decode cL_law 2180 = .ok (.aload_n 1, 1) := dgq (p := 14) daL_law_2166 dbL_law_2166.2.2.2.2.2.2.2.2.1
theorem dL_law_2181 : decode cL_law 2181 = .ok (.aload_n 0, 1) := dgq (p := 15) daL_law_2166 dbL_law_2166.2.2.2.2.2.2.2.2.2
def dsL_law_2182 : ByteArray := ⟨#[21, 5, 4, 96, 46, 42, 21, 5, 5, 96, 46, 45]⟩
theorem daL_law_2182 : agB cL_law dsL_law_2182 2182 := agB_of (n := 12) (by decide +kernel)
theorem dbL_law_2182 : (decode dsL_law_2182 0 = .ok (.iload 5, 2) ∧ okop dsL_law_2182 0 = true) ∧ (decode dsL_law_2182 2 = .ok (.iconst 1, 1) ∧ okop dsL_law_2182 2 = true) ∧ (decode dsL_law_2182 3 = .ok (.iadd, 1) ∧ okop dsL_law_2182 3 = true) ∧ (decode dsL_law_2182 4 = .ok (.iaload, 1) ∧ okop dsL_law_2182 4 = true) ∧ (decode dsL_law_2182 5 = .ok (.aload_n 0, 1) ∧ okop dsL_law_2182 5 = true) ∧ (decode dsL_law_2182 6 = .ok (.iload 5, 2) ∧ okop dsL_law_2182 6 = true) ∧ (decode dsL_law_2182 8 = .ok (.iconst 2, 1) ∧ okop dsL_law_2182 8 = true) ∧ (decode dsL_law_2182 9 = .ok (.iadd, 1) ∧ okop dsL_law_2182 9 = true) ∧ (decode dsL_law_2182 10 = .ok (.iaload, 1) ∧ okop dsL_law_2182 10 = true) ∧ (decode dsL_law_2182 11 = .ok (.aload_n 3, 1) ∧ okop dsL_law_2182 11 = true) := by decide +kernel
theorem dL_law_2182 : decode cL_law 2182 = .ok (.iload 5, 2) := dgq (p := 0) daL_law_2182 dbL_law_2182.1
theorem dL_law_2184 : decode cL_law 2184 = .ok (.iconst 1, 1) := dgq (p := 2) daL_law_2182 dbL_law_2182.2.1
theorem dL_law_2185 : decode cL_law 2185 = .ok (.iadd, 1) := dgq (p := 3) daL_law_2182 dbL_law_2182.2.2.1
theorem dL_law_2186 : decode cL_law 2186 = .ok (.iaload, 1) := dgq (p := 4) daL_law_2182 dbL_law_2182.2.2.2.1
theorem dL_law_2187 : decode cL_law 2187 = .ok (.aload_n 0, 1) := dgq (p := 5) daL_law_2182 dbL_law_2182.2.2.2.2.1
theorem dL_law_2188 : decode cL_law 2188 = .ok (.iload 5, 2) := dgq (p := 6) daL_law_2182 dbL_law_2182.2.2.2.2.2.1
theorem dL_law_2190 : decode cL_law 2190 = .ok (.iconst 2, 1) := dgq (p := 8) daL_law_2182 dbL_law_2182.2.2.2.2.2.2.1
theorem dL_law_2191 : decode cL_law 2191 = .ok (.iadd, 1) := dgq (p := 9) daL_law_2182 dbL_law_2182.2.2.2.2.2.2.2.1
theorem dL_law_2192 : decode cL_law 2192 = .ok (.iaload, 1) := dgq (p := 10) daL_law_2182 dbL_law_2182.2.2.2.2.2.2.2.2.1
theorem dL_law_2193 : decode cL_law 2193 = .ok (.aload_n 3, 1) := dgq (p := 11) daL_law_2182 dbL_law_2182.2.2.2.2.2.2.2.2.2
def dsL_law_2194 : ByteArray := ⟨#[184, 1, 105, 54, 6, 44, 42, 21, 5, 4, 96, 46, 42, 21, 5]⟩
theorem daL_law_2194 : agB cL_law dsL_law_2194 2194 := agB_of (n := 15) (by decide +kernel)
theorem dbL_law_2194 : (decode dsL_law_2194 0 = .ok (.invokestatic 361, 3) ∧ okop dsL_law_2194 0 = true) ∧ (decode dsL_law_2194 3 = .ok (.istore 6, 2) ∧ okop dsL_law_2194 3 = true) ∧ (decode dsL_law_2194 5 = .ok (.aload_n 2, 1) ∧ okop dsL_law_2194 5 = true) ∧ (decode dsL_law_2194 6 = .ok (.aload_n 0, 1) ∧ okop dsL_law_2194 6 = true) ∧ (decode dsL_law_2194 7 = .ok (.iload 5, 2) ∧ okop dsL_law_2194 7 = true) ∧ (decode dsL_law_2194 9 = .ok (.iconst 1, 1) ∧ okop dsL_law_2194 9 = true) ∧ (decode dsL_law_2194 10 = .ok (.iadd, 1) ∧ okop dsL_law_2194 10 = true) ∧ (decode dsL_law_2194 11 = .ok (.iaload, 1) ∧ okop dsL_law_2194 11 = true) ∧ (decode dsL_law_2194 12 = .ok (.aload_n 0, 1) ∧ okop dsL_law_2194 12 = true) ∧ (decode dsL_law_2194 13 = .ok (.iload 5, 2) ∧ okop dsL_law_2194 13 = true) := by decide +kernel
theorem dL_law_2194 : decode cL_law 2194 = .ok (.invokestatic 361, 3) := dgq (p := 0) daL_law_2194 dbL_law_2194.1
theorem dL_law_2197 : decode cL_law 2197 = .ok (.istore 6, 2) := dgq (p := 3) daL_law_2194 dbL_law_2194.2.1
theorem dL_law_2199 : decode cL_law 2199 = .ok (.aload_n 2, 1) := dgq (p := 5) daL_law_2194 dbL_law_2194.2.2.1
theorem dL_law_2200 : decode cL_law 2200 = .ok (.aload_n 0, 1) := dgq (p := 6) daL_law_2194 dbL_law_2194.2.2.2.1
theorem dL_law_2201 : decode cL_law 2201 = .ok (.iload 5, 2) := dgq (p := 7) daL_law_2194 dbL_law_2194.2.2.2.2.1
theorem dL_law_2203 : decode cL_law 2203 = .ok (.iconst 1, 1) := dgq (p := 9) daL_law_2194 dbL_law_2194.2.2.2.2.2.1
theorem dL_law_2204 : decode cL_law 2204 = .ok (.iadd, 1) := dgq (p := 10) daL_law_2194 dbL_law_2194.2.2.2.2.2.2.1
theorem dL_law_2205 : decode cL_law 2205 = .ok (.iaload, 1) := dgq (p := 11) daL_law_2194 dbL_law_2194.2.2.2.2.2.2.2.1
theorem dL_law_2206 : decode cL_law 2206 = .ok (.aload_n 0, 1) := dgq (p := 12) daL_law_2194 dbL_law_2194.2.2.2.2.2.2.2.2.1
theorem dL_law_2207 : decode cL_law 2207 = .ok (.iload 5, 2) := dgq (p := 13) daL_law_2194 dbL_law_2194.2.2.2.2.2.2.2.2.2
def dsL_law_2209 : ByteArray := ⟨#[5, 96, 46, 182, 1, 107, 54, 7, 167, 2, 195, 43, 42, 21, 5, 4]⟩
theorem daL_law_2209 : agB cL_law dsL_law_2209 2209 := agB_of (n := 16) (by decide +kernel)
theorem dbL_law_2209 : (decode dsL_law_2209 0 = .ok (.iconst 2, 1) ∧ okop dsL_law_2209 0 = true) ∧ (decode dsL_law_2209 1 = .ok (.iadd, 1) ∧ okop dsL_law_2209 1 = true) ∧ (decode dsL_law_2209 2 = .ok (.iaload, 1) ∧ okop dsL_law_2209 2 = true) ∧ (decode dsL_law_2209 3 = .ok (.invokevirtual 363, 3) ∧ okop dsL_law_2209 3 = true) ∧ (decode dsL_law_2209 6 = .ok (.istore 7, 2) ∧ okop dsL_law_2209 6 = true) ∧ (decode dsL_law_2209 8 = .ok (.goto 707, 3) ∧ okop dsL_law_2209 8 = true) ∧ (decode dsL_law_2209 11 = .ok (.aload_n 1, 1) ∧ okop dsL_law_2209 11 = true) ∧ (decode dsL_law_2209 12 = .ok (.aload_n 0, 1) ∧ okop dsL_law_2209 12 = true) ∧ (decode dsL_law_2209 13 = .ok (.iload 5, 2) ∧ okop dsL_law_2209 13 = true) ∧ (decode dsL_law_2209 15 = .ok (.iconst 1, 1) ∧ okop dsL_law_2209 15 = true) := by decide +kernel
theorem dL_law_2209 : decode cL_law 2209 = .ok (.iconst 2, 1) := dgq (p := 0) daL_law_2209 dbL_law_2209.1
theorem dL_law_2210 : decode cL_law 2210 = .ok (.iadd, 1) := dgq (p := 1) daL_law_2209 dbL_law_2209.2.1
theorem dL_law_2211 : decode cL_law 2211 = .ok (.iaload, 1) := dgq (p := 2) daL_law_2209 dbL_law_2209.2.2.1
theorem dL_law_2212 : decode cL_law 2212 = .ok (.invokevirtual 363, 3) := dgq (p := 3) daL_law_2209 dbL_law_2209.2.2.2.1
theorem dL_law_2215 : decode cL_law 2215 = .ok (.istore 7, 2) := dgq (p := 6) daL_law_2209 dbL_law_2209.2.2.2.2.1
theorem dL_law_2217 : decode cL_law 2217 = .ok (.goto 707, 3) := dgq (p := 8) daL_law_2209 dbL_law_2209.2.2.2.2.2.1
theorem dL_law_2220 : decode cL_law 2220 = .ok (.aload_n 1, 1) := dgq (p := 11) daL_law_2209 dbL_law_2209.2.2.2.2.2.2.1
theorem dL_law_2221 : decode cL_law 2221 = .ok (.aload_n 0, 1) := dgq (p := 12) daL_law_2209 dbL_law_2209.2.2.2.2.2.2.2.1
theorem dL_law_2222 : decode cL_law 2222 = .ok (.iload 5, 2) := dgq (p := 13) daL_law_2209 dbL_law_2209.2.2.2.2.2.2.2.2.1
theorem dL_law_2224 : decode cL_law 2224 = .ok (.iconst 1, 1) := dgq (p := 15) daL_law_2209 dbL_law_2209.2.2.2.2.2.2.2.2.2
def dsL_law_2225 : ByteArray := ⟨#[96, 46, 42, 21, 5, 5, 96, 46, 42, 21, 5, 6]⟩
theorem daL_law_2225 : agB cL_law dsL_law_2225 2225 := agB_of (n := 12) (by decide +kernel)
theorem dbL_law_2225 : (decode dsL_law_2225 0 = .ok (.iadd, 1) ∧ okop dsL_law_2225 0 = true) ∧ (decode dsL_law_2225 1 = .ok (.iaload, 1) ∧ okop dsL_law_2225 1 = true) ∧ (decode dsL_law_2225 2 = .ok (.aload_n 0, 1) ∧ okop dsL_law_2225 2 = true) ∧ (decode dsL_law_2225 3 = .ok (.iload 5, 2) ∧ okop dsL_law_2225 3 = true) ∧ (decode dsL_law_2225 5 = .ok (.iconst 2, 1) ∧ okop dsL_law_2225 5 = true) ∧ (decode dsL_law_2225 6 = .ok (.iadd, 1) ∧ okop dsL_law_2225 6 = true) ∧ (decode dsL_law_2225 7 = .ok (.iaload, 1) ∧ okop dsL_law_2225 7 = true) ∧ (decode dsL_law_2225 8 = .ok (.aload_n 0, 1) ∧ okop dsL_law_2225 8 = true) ∧ (decode dsL_law_2225 9 = .ok (.iload 5, 2) ∧ okop dsL_law_2225 9 = true) ∧ (decode dsL_law_2225 11 = .ok (.iconst 3, 1) ∧ okop dsL_law_2225 11 = true) := by decide +kernel
theorem dL_law_2225 : decode cL_law 2225 = .ok (.iadd, 1) := dgq (p := 0) daL_law_2225 dbL_law_2225.1
theorem dL_law_2226 : decode cL_law 2226 = .ok (.iaload, 1) := dgq (p := 1) daL_law_2225 dbL_law_2225.2.1
theorem dL_law_2227 : decode cL_law 2227 = .ok (.aload_n 0, 1) := dgq (p := 2) daL_law_2225 dbL_law_2225.2.2.1
theorem dL_law_2228 : decode cL_law 2228 = .ok (.iload 5, 2) := dgq (p := 3) daL_law_2225 dbL_law_2225.2.2.2.1
theorem dL_law_2230 : decode cL_law 2230 = .ok (.iconst 2, 1) := dgq (p := 5) daL_law_2225 dbL_law_2225.2.2.2.2.1
theorem dL_law_2231 : decode cL_law 2231 = .ok (.iadd, 1) := dgq (p := 6) daL_law_2225 dbL_law_2225.2.2.2.2.2.1
theorem dL_law_2232 : decode cL_law 2232 = .ok (.iaload, 1) := dgq (p := 7) daL_law_2225 dbL_law_2225.2.2.2.2.2.2.1
theorem dL_law_2233 : decode cL_law 2233 = .ok (.aload_n 0, 1) := dgq (p := 8) daL_law_2225 dbL_law_2225.2.2.2.2.2.2.2.1
theorem dL_law_2234 : decode cL_law 2234 = .ok (.iload 5, 2) := dgq (p := 9) daL_law_2225 dbL_law_2225.2.2.2.2.2.2.2.2.1
theorem dL_law_2236 : decode cL_law 2236 = .ok (.iconst 3, 1) := dgq (p := 11) daL_law_2225 dbL_law_2225.2.2.2.2.2.2.2.2.2
def dsL_law_2237 : ByteArray := ⟨#[96, 46, 45, 184, 1, 108, 54, 6, 44, 42, 21, 5, 4, 96]⟩
theorem daL_law_2237 : agB cL_law dsL_law_2237 2237 := agB_of (n := 14) (by decide +kernel)
theorem dbL_law_2237 : (decode dsL_law_2237 0 = .ok (.iadd, 1) ∧ okop dsL_law_2237 0 = true) ∧ (decode dsL_law_2237 1 = .ok (.iaload, 1) ∧ okop dsL_law_2237 1 = true) ∧ (decode dsL_law_2237 2 = .ok (.aload_n 3, 1) ∧ okop dsL_law_2237 2 = true) ∧ (decode dsL_law_2237 3 = .ok (.invokestatic 364, 3) ∧ okop dsL_law_2237 3 = true) ∧ (decode dsL_law_2237 6 = .ok (.istore 6, 2) ∧ okop dsL_law_2237 6 = true) ∧ (decode dsL_law_2237 8 = .ok (.aload_n 2, 1) ∧ okop dsL_law_2237 8 = true) ∧ (decode dsL_law_2237 9 = .ok (.aload_n 0, 1) ∧ okop dsL_law_2237 9 = true) ∧ (decode dsL_law_2237 10 = .ok (.iload 5, 2) ∧ okop dsL_law_2237 10 = true) ∧ (decode dsL_law_2237 12 = .ok (.iconst 1, 1) ∧ okop dsL_law_2237 12 = true) ∧ (decode dsL_law_2237 13 = .ok (.iadd, 1) ∧ okop dsL_law_2237 13 = true) := by decide +kernel
theorem dL_law_2237 : decode cL_law 2237 = .ok (.iadd, 1) := dgq (p := 0) daL_law_2237 dbL_law_2237.1
theorem dL_law_2238 : decode cL_law 2238 = .ok (.iaload, 1) := dgq (p := 1) daL_law_2237 dbL_law_2237.2.1
theorem dL_law_2239 : decode cL_law 2239 = .ok (.aload_n 3, 1) := dgq (p := 2) daL_law_2237 dbL_law_2237.2.2.1
theorem dL_law_2240 : decode cL_law 2240 = .ok (.invokestatic 364, 3) := dgq (p := 3) daL_law_2237 dbL_law_2237.2.2.2.1
theorem dL_law_2243 : decode cL_law 2243 = .ok (.istore 6, 2) := dgq (p := 6) daL_law_2237 dbL_law_2237.2.2.2.2.1
theorem dL_law_2245 : decode cL_law 2245 = .ok (.aload_n 2, 1) := dgq (p := 8) daL_law_2237 dbL_law_2237.2.2.2.2.2.1
theorem dL_law_2246 : decode cL_law 2246 = .ok (.aload_n 0, 1) := dgq (p := 9) daL_law_2237 dbL_law_2237.2.2.2.2.2.2.1
theorem dL_law_2247 : decode cL_law 2247 = .ok (.iload 5, 2) := dgq (p := 10) daL_law_2237 dbL_law_2237.2.2.2.2.2.2.2.1
theorem dL_law_2249 : decode cL_law 2249 = .ok (.iconst 1, 1) := dgq (p := 12) daL_law_2237 dbL_law_2237.2.2.2.2.2.2.2.2.1
theorem dL_law_2250 : decode cL_law 2250 = .ok (.iadd, 1) := dgq (p := 13) daL_law_2237 dbL_law_2237.2.2.2.2.2.2.2.2.2
def dsL_law_2251 : ByteArray := ⟨#[46, 42, 21, 5, 5, 96, 46, 42, 21, 5, 6, 96]⟩
theorem daL_law_2251 : agB cL_law dsL_law_2251 2251 := agB_of (n := 12) (by decide +kernel)
theorem dbL_law_2251 : (decode dsL_law_2251 0 = .ok (.iaload, 1) ∧ okop dsL_law_2251 0 = true) ∧ (decode dsL_law_2251 1 = .ok (.aload_n 0, 1) ∧ okop dsL_law_2251 1 = true) ∧ (decode dsL_law_2251 2 = .ok (.iload 5, 2) ∧ okop dsL_law_2251 2 = true) ∧ (decode dsL_law_2251 4 = .ok (.iconst 2, 1) ∧ okop dsL_law_2251 4 = true) ∧ (decode dsL_law_2251 5 = .ok (.iadd, 1) ∧ okop dsL_law_2251 5 = true) ∧ (decode dsL_law_2251 6 = .ok (.iaload, 1) ∧ okop dsL_law_2251 6 = true) ∧ (decode dsL_law_2251 7 = .ok (.aload_n 0, 1) ∧ okop dsL_law_2251 7 = true) ∧ (decode dsL_law_2251 8 = .ok (.iload 5, 2) ∧ okop dsL_law_2251 8 = true) ∧ (decode dsL_law_2251 10 = .ok (.iconst 3, 1) ∧ okop dsL_law_2251 10 = true) ∧ (decode dsL_law_2251 11 = .ok (.iadd, 1) ∧ okop dsL_law_2251 11 = true) := by decide +kernel
theorem dL_law_2251 : decode cL_law 2251 = .ok (.iaload, 1) := dgq (p := 0) daL_law_2251 dbL_law_2251.1
theorem dL_law_2252 : decode cL_law 2252 = .ok (.aload_n 0, 1) := dgq (p := 1) daL_law_2251 dbL_law_2251.2.1
theorem dL_law_2253 : decode cL_law 2253 = .ok (.iload 5, 2) := dgq (p := 2) daL_law_2251 dbL_law_2251.2.2.1
theorem dL_law_2255 : decode cL_law 2255 = .ok (.iconst 2, 1) := dgq (p := 4) daL_law_2251 dbL_law_2251.2.2.2.1
theorem dL_law_2256 : decode cL_law 2256 = .ok (.iadd, 1) := dgq (p := 5) daL_law_2251 dbL_law_2251.2.2.2.2.1
theorem dL_law_2257 : decode cL_law 2257 = .ok (.iaload, 1) := dgq (p := 6) daL_law_2251 dbL_law_2251.2.2.2.2.2.1
theorem dL_law_2258 : decode cL_law 2258 = .ok (.aload_n 0, 1) := dgq (p := 7) daL_law_2251 dbL_law_2251.2.2.2.2.2.2.1
theorem dL_law_2259 : decode cL_law 2259 = .ok (.iload 5, 2) := dgq (p := 8) daL_law_2251 dbL_law_2251.2.2.2.2.2.2.2.1
theorem dL_law_2261 : decode cL_law 2261 = .ok (.iconst 3, 1) := dgq (p := 10) daL_law_2251 dbL_law_2251.2.2.2.2.2.2.2.2.1
theorem dL_law_2262 : decode cL_law 2262 = .ok (.iadd, 1) := dgq (p := 11) daL_law_2251 dbL_law_2251.2.2.2.2.2.2.2.2.2
def dsL_law_2263 : ByteArray := ⟨#[46, 182, 1, 110, 54, 7, 167, 2, 143, 43, 42, 21, 5, 4, 96, 46]⟩
theorem daL_law_2263 : agB cL_law dsL_law_2263 2263 := agB_of (n := 16) (by decide +kernel)
theorem dbL_law_2263 : (decode dsL_law_2263 0 = .ok (.iaload, 1) ∧ okop dsL_law_2263 0 = true) ∧ (decode dsL_law_2263 1 = .ok (.invokevirtual 366, 3) ∧ okop dsL_law_2263 1 = true) ∧ (decode dsL_law_2263 4 = .ok (.istore 7, 2) ∧ okop dsL_law_2263 4 = true) ∧ (decode dsL_law_2263 6 = .ok (.goto 655, 3) ∧ okop dsL_law_2263 6 = true) ∧ (decode dsL_law_2263 9 = .ok (.aload_n 1, 1) ∧ okop dsL_law_2263 9 = true) ∧ (decode dsL_law_2263 10 = .ok (.aload_n 0, 1) ∧ okop dsL_law_2263 10 = true) ∧ (decode dsL_law_2263 11 = .ok (.iload 5, 2) ∧ okop dsL_law_2263 11 = true) ∧ (decode dsL_law_2263 13 = .ok (.iconst 1, 1) ∧ okop dsL_law_2263 13 = true) ∧ (decode dsL_law_2263 14 = .ok (.iadd, 1) ∧ okop dsL_law_2263 14 = true) ∧ (decode dsL_law_2263 15 = .ok (.iaload, 1) ∧ okop dsL_law_2263 15 = true) := by decide +kernel
theorem dL_law_2263 : decode cL_law 2263 = .ok (.iaload, 1) := dgq (p := 0) daL_law_2263 dbL_law_2263.1
theorem dL_law_2264 : decode cL_law 2264 = .ok (.invokevirtual 366, 3) := dgq (p := 1) daL_law_2263 dbL_law_2263.2.1
theorem dL_law_2267 : decode cL_law 2267 = .ok (.istore 7, 2) := dgq (p := 4) daL_law_2263 dbL_law_2263.2.2.1
theorem dL_law_2269 : decode cL_law 2269 = .ok (.goto 655, 3) := dgq (p := 6) daL_law_2263 dbL_law_2263.2.2.2.1
theorem dL_law_2272 : decode cL_law 2272 = .ok (.aload_n 1, 1) := dgq (p := 9) daL_law_2263 dbL_law_2263.2.2.2.2.1
theorem dL_law_2273 : decode cL_law 2273 = .ok (.aload_n 0, 1) := dgq (p := 10) daL_law_2263 dbL_law_2263.2.2.2.2.2.1
theorem dL_law_2274 : decode cL_law 2274 = .ok (.iload 5, 2) := dgq (p := 11) daL_law_2263 dbL_law_2263.2.2.2.2.2.2.1
theorem dL_law_2276 : decode cL_law 2276 = .ok (.iconst 1, 1) := dgq (p := 13) daL_law_2263 dbL_law_2263.2.2.2.2.2.2.2.1
theorem dL_law_2277 : decode cL_law 2277 = .ok (.iadd, 1) := dgq (p := 14) daL_law_2263 dbL_law_2263.2.2.2.2.2.2.2.2.1
theorem dL_law_2278 : decode cL_law 2278 = .ok (.iaload, 1) := dgq (p := 15) daL_law_2263 dbL_law_2263.2.2.2.2.2.2.2.2.2
def dsL_law_2279 : ByteArray := ⟨#[42, 21, 5, 5, 96, 46, 45, 184, 1, 111, 54, 6, 44, 42]⟩
theorem daL_law_2279 : agB cL_law dsL_law_2279 2279 := agB_of (n := 14) (by decide +kernel)
theorem dbL_law_2279 : (decode dsL_law_2279 0 = .ok (.aload_n 0, 1) ∧ okop dsL_law_2279 0 = true) ∧ (decode dsL_law_2279 1 = .ok (.iload 5, 2) ∧ okop dsL_law_2279 1 = true) ∧ (decode dsL_law_2279 3 = .ok (.iconst 2, 1) ∧ okop dsL_law_2279 3 = true) ∧ (decode dsL_law_2279 4 = .ok (.iadd, 1) ∧ okop dsL_law_2279 4 = true) ∧ (decode dsL_law_2279 5 = .ok (.iaload, 1) ∧ okop dsL_law_2279 5 = true) ∧ (decode dsL_law_2279 6 = .ok (.aload_n 3, 1) ∧ okop dsL_law_2279 6 = true) ∧ (decode dsL_law_2279 7 = .ok (.invokestatic 367, 3) ∧ okop dsL_law_2279 7 = true) ∧ (decode dsL_law_2279 10 = .ok (.istore 6, 2) ∧ okop dsL_law_2279 10 = true) ∧ (decode dsL_law_2279 12 = .ok (.aload_n 2, 1) ∧ okop dsL_law_2279 12 = true) ∧ (decode dsL_law_2279 13 = .ok (.aload_n 0, 1) ∧ okop dsL_law_2279 13 = true) := by decide +kernel
theorem dL_law_2279 : decode cL_law 2279 = .ok (.aload_n 0, 1) := dgq (p := 0) daL_law_2279 dbL_law_2279.1
theorem dL_law_2280 : decode cL_law 2280 = .ok (.iload 5, 2) := dgq (p := 1) daL_law_2279 dbL_law_2279.2.1
theorem dL_law_2282 : decode cL_law 2282 = .ok (.iconst 2, 1) := dgq (p := 3) daL_law_2279 dbL_law_2279.2.2.1
theorem dL_law_2283 : decode cL_law 2283 = .ok (.iadd, 1) := dgq (p := 4) daL_law_2279 dbL_law_2279.2.2.2.1
theorem dL_law_2284 : decode cL_law 2284 = .ok (.iaload, 1) := dgq (p := 5) daL_law_2279 dbL_law_2279.2.2.2.2.1
theorem dL_law_2285 : decode cL_law 2285 = .ok (.aload_n 3, 1) := dgq (p := 6) daL_law_2279 dbL_law_2279.2.2.2.2.2.1
theorem dL_law_2286 : decode cL_law 2286 = .ok (.invokestatic 367, 3) := dgq (p := 7) daL_law_2279 dbL_law_2279.2.2.2.2.2.2.1
theorem dL_law_2289 : decode cL_law 2289 = .ok (.istore 6, 2) := dgq (p := 10) daL_law_2279 dbL_law_2279.2.2.2.2.2.2.2.1
theorem dL_law_2291 : decode cL_law 2291 = .ok (.aload_n 2, 1) := dgq (p := 12) daL_law_2279 dbL_law_2279.2.2.2.2.2.2.2.2.1
theorem dL_law_2292 : decode cL_law 2292 = .ok (.aload_n 0, 1) := dgq (p := 13) daL_law_2279 dbL_law_2279.2.2.2.2.2.2.2.2.2
def dsL_law_2293 : ByteArray := ⟨#[21, 5, 4, 96, 46, 42, 21, 5, 5, 96, 46, 182, 1, 113]⟩
theorem daL_law_2293 : agB cL_law dsL_law_2293 2293 := agB_of (n := 14) (by decide +kernel)
theorem dbL_law_2293 : (decode dsL_law_2293 0 = .ok (.iload 5, 2) ∧ okop dsL_law_2293 0 = true) ∧ (decode dsL_law_2293 2 = .ok (.iconst 1, 1) ∧ okop dsL_law_2293 2 = true) ∧ (decode dsL_law_2293 3 = .ok (.iadd, 1) ∧ okop dsL_law_2293 3 = true) ∧ (decode dsL_law_2293 4 = .ok (.iaload, 1) ∧ okop dsL_law_2293 4 = true) ∧ (decode dsL_law_2293 5 = .ok (.aload_n 0, 1) ∧ okop dsL_law_2293 5 = true) ∧ (decode dsL_law_2293 6 = .ok (.iload 5, 2) ∧ okop dsL_law_2293 6 = true) ∧ (decode dsL_law_2293 8 = .ok (.iconst 2, 1) ∧ okop dsL_law_2293 8 = true) ∧ (decode dsL_law_2293 9 = .ok (.iadd, 1) ∧ okop dsL_law_2293 9 = true) ∧ (decode dsL_law_2293 10 = .ok (.iaload, 1) ∧ okop dsL_law_2293 10 = true) ∧ (decode dsL_law_2293 11 = .ok (.invokevirtual 369, 3) ∧ okop dsL_law_2293 11 = true) := by decide +kernel
theorem dL_law_2293 : decode cL_law 2293 = .ok (.iload 5, 2) := dgq (p := 0) daL_law_2293 dbL_law_2293.1
theorem dL_law_2295 : decode cL_law 2295 = .ok (.iconst 1, 1) := dgq (p := 2) daL_law_2293 dbL_law_2293.2.1
theorem dL_law_2296 : decode cL_law 2296 = .ok (.iadd, 1) := dgq (p := 3) daL_law_2293 dbL_law_2293.2.2.1
theorem dL_law_2297 : decode cL_law 2297 = .ok (.iaload, 1) := dgq (p := 4) daL_law_2293 dbL_law_2293.2.2.2.1
theorem dL_law_2298 : decode cL_law 2298 = .ok (.aload_n 0, 1) := dgq (p := 5) daL_law_2293 dbL_law_2293.2.2.2.2.1
theorem dL_law_2299 : decode cL_law 2299 = .ok (.iload 5, 2) := dgq (p := 6) daL_law_2293 dbL_law_2293.2.2.2.2.2.1
theorem dL_law_2301 : decode cL_law 2301 = .ok (.iconst 2, 1) := dgq (p := 8) daL_law_2293 dbL_law_2293.2.2.2.2.2.2.1
theorem dL_law_2302 : decode cL_law 2302 = .ok (.iadd, 1) := dgq (p := 9) daL_law_2293 dbL_law_2293.2.2.2.2.2.2.2.1
theorem dL_law_2303 : decode cL_law 2303 = .ok (.iaload, 1) := dgq (p := 10) daL_law_2293 dbL_law_2293.2.2.2.2.2.2.2.2.1
theorem dL_law_2304 : decode cL_law 2304 = .ok (.invokevirtual 369, 3) := dgq (p := 11) daL_law_2293 dbL_law_2293.2.2.2.2.2.2.2.2.2
def dsL_law_2307 : ByteArray := ⟨#[54, 7, 167, 2, 103, 43, 42, 21, 5, 4, 96, 46, 45, 184, 1, 114]⟩
theorem daL_law_2307 : agB cL_law dsL_law_2307 2307 := agB_of (n := 16) (by decide +kernel)
theorem dbL_law_2307 : (decode dsL_law_2307 0 = .ok (.istore 7, 2) ∧ okop dsL_law_2307 0 = true) ∧ (decode dsL_law_2307 2 = .ok (.goto 615, 3) ∧ okop dsL_law_2307 2 = true) ∧ (decode dsL_law_2307 5 = .ok (.aload_n 1, 1) ∧ okop dsL_law_2307 5 = true) ∧ (decode dsL_law_2307 6 = .ok (.aload_n 0, 1) ∧ okop dsL_law_2307 6 = true) ∧ (decode dsL_law_2307 7 = .ok (.iload 5, 2) ∧ okop dsL_law_2307 7 = true) ∧ (decode dsL_law_2307 9 = .ok (.iconst 1, 1) ∧ okop dsL_law_2307 9 = true) ∧ (decode dsL_law_2307 10 = .ok (.iadd, 1) ∧ okop dsL_law_2307 10 = true) ∧ (decode dsL_law_2307 11 = .ok (.iaload, 1) ∧ okop dsL_law_2307 11 = true) ∧ (decode dsL_law_2307 12 = .ok (.aload_n 3, 1) ∧ okop dsL_law_2307 12 = true) ∧ (decode dsL_law_2307 13 = .ok (.invokestatic 370, 3) ∧ okop dsL_law_2307 13 = true) := by decide +kernel
theorem dL_law_2307 : decode cL_law 2307 = .ok (.istore 7, 2) := dgq (p := 0) daL_law_2307 dbL_law_2307.1
theorem dL_law_2309 : decode cL_law 2309 = .ok (.goto 615, 3) := dgq (p := 2) daL_law_2307 dbL_law_2307.2.1
theorem dL_law_2312 : decode cL_law 2312 = .ok (.aload_n 1, 1) := dgq (p := 5) daL_law_2307 dbL_law_2307.2.2.1
theorem dL_law_2313 : decode cL_law 2313 = .ok (.aload_n 0, 1) := dgq (p := 6) daL_law_2307 dbL_law_2307.2.2.2.1
theorem dL_law_2314 : decode cL_law 2314 = .ok (.iload 5, 2) := dgq (p := 7) daL_law_2307 dbL_law_2307.2.2.2.2.1
theorem dL_law_2316 : decode cL_law 2316 = .ok (.iconst 1, 1) := dgq (p := 9) daL_law_2307 dbL_law_2307.2.2.2.2.2.1
theorem dL_law_2317 : decode cL_law 2317 = .ok (.iadd, 1) := dgq (p := 10) daL_law_2307 dbL_law_2307.2.2.2.2.2.2.1
theorem dL_law_2318 : decode cL_law 2318 = .ok (.iaload, 1) := dgq (p := 11) daL_law_2307 dbL_law_2307.2.2.2.2.2.2.2.1
theorem dL_law_2319 : decode cL_law 2319 = .ok (.aload_n 3, 1) := dgq (p := 12) daL_law_2307 dbL_law_2307.2.2.2.2.2.2.2.2.1
theorem dL_law_2320 : decode cL_law 2320 = .ok (.invokestatic 370, 3) := dgq (p := 13) daL_law_2307 dbL_law_2307.2.2.2.2.2.2.2.2.2
def dsL_law_2323 : ByteArray := ⟨#[54, 6, 44, 42, 21, 5, 4, 96, 46, 182, 1, 116, 54, 7, 167, 2, 75]⟩
theorem daL_law_2323 : agB cL_law dsL_law_2323 2323 := agB_of (n := 17) (by decide +kernel)
theorem dbL_law_2323 : (decode dsL_law_2323 0 = .ok (.istore 6, 2) ∧ okop dsL_law_2323 0 = true) ∧ (decode dsL_law_2323 2 = .ok (.aload_n 2, 1) ∧ okop dsL_law_2323 2 = true) ∧ (decode dsL_law_2323 3 = .ok (.aload_n 0, 1) ∧ okop dsL_law_2323 3 = true) ∧ (decode dsL_law_2323 4 = .ok (.iload 5, 2) ∧ okop dsL_law_2323 4 = true) ∧ (decode dsL_law_2323 6 = .ok (.iconst 1, 1) ∧ okop dsL_law_2323 6 = true) ∧ (decode dsL_law_2323 7 = .ok (.iadd, 1) ∧ okop dsL_law_2323 7 = true) ∧ (decode dsL_law_2323 8 = .ok (.iaload, 1) ∧ okop dsL_law_2323 8 = true) ∧ (decode dsL_law_2323 9 = .ok (.invokevirtual 372, 3) ∧ okop dsL_law_2323 9 = true) ∧ (decode dsL_law_2323 12 = .ok (.istore 7, 2) ∧ okop dsL_law_2323 12 = true) ∧ (decode dsL_law_2323 14 = .ok (.goto 587, 3) ∧ okop dsL_law_2323 14 = true) := by decide +kernel
theorem dL_law_2323 : decode cL_law 2323 = .ok (.istore 6, 2) := dgq (p := 0) daL_law_2323 dbL_law_2323.1
theorem dL_law_2325 : decode cL_law 2325 = .ok (.aload_n 2, 1) := dgq (p := 2) daL_law_2323 dbL_law_2323.2.1
theorem dL_law_2326 : decode cL_law 2326 = .ok (.aload_n 0, 1) := dgq (p := 3) daL_law_2323 dbL_law_2323.2.2.1
theorem dL_law_2327 : decode cL_law 2327 = .ok (.iload 5, 2) := dgq (p := 4) daL_law_2323 dbL_law_2323.2.2.2.1
theorem dL_law_2329 : decode cL_law 2329 = .ok (.iconst 1, 1) := dgq (p := 6) daL_law_2323 dbL_law_2323.2.2.2.2.1
theorem dL_law_2330 : decode cL_law 2330 = .ok (.iadd, 1) := dgq (p := 7) daL_law_2323 dbL_law_2323.2.2.2.2.2.1
theorem dL_law_2331 : decode cL_law 2331 = .ok (.iaload, 1) := dgq (p := 8) daL_law_2323 dbL_law_2323.2.2.2.2.2.2.1
theorem dL_law_2332 : decode cL_law 2332 = .ok (.invokevirtual 372, 3) := dgq (p := 9) daL_law_2323 dbL_law_2323.2.2.2.2.2.2.2.1
theorem dL_law_2335 : decode cL_law 2335 = .ok (.istore 7, 2) := dgq (p := 12) daL_law_2323 dbL_law_2323.2.2.2.2.2.2.2.2.1
theorem dL_law_2337 : decode cL_law 2337 = .ok (.goto 587, 3) := dgq (p := 14) daL_law_2323 dbL_law_2323.2.2.2.2.2.2.2.2.2
def dsL_law_2340 : ByteArray := ⟨#[43, 42, 21, 5, 4, 96, 46, 42, 21, 5, 5, 96]⟩
theorem daL_law_2340 : agB cL_law dsL_law_2340 2340 := agB_of (n := 12) (by decide +kernel)
theorem dbL_law_2340 : (decode dsL_law_2340 0 = .ok (.aload_n 1, 1) ∧ okop dsL_law_2340 0 = true) ∧ (decode dsL_law_2340 1 = .ok (.aload_n 0, 1) ∧ okop dsL_law_2340 1 = true) ∧ (decode dsL_law_2340 2 = .ok (.iload 5, 2) ∧ okop dsL_law_2340 2 = true) ∧ (decode dsL_law_2340 4 = .ok (.iconst 1, 1) ∧ okop dsL_law_2340 4 = true) ∧ (decode dsL_law_2340 5 = .ok (.iadd, 1) ∧ okop dsL_law_2340 5 = true) ∧ (decode dsL_law_2340 6 = .ok (.iaload, 1) ∧ okop dsL_law_2340 6 = true) ∧ (decode dsL_law_2340 7 = .ok (.aload_n 0, 1) ∧ okop dsL_law_2340 7 = true) ∧ (decode dsL_law_2340 8 = .ok (.iload 5, 2) ∧ okop dsL_law_2340 8 = true) ∧ (decode dsL_law_2340 10 = .ok (.iconst 2, 1) ∧ okop dsL_law_2340 10 = true) ∧ (decode dsL_law_2340 11 = .ok (.iadd, 1) ∧ okop dsL_law_2340 11 = true) := by decide +kernel
theorem dL_law_2340 : decode cL_law 2340 = .ok (.aload_n 1, 1) := dgq (p := 0) daL_law_2340 dbL_law_2340.1
theorem dL_law_2341 : decode cL_law 2341 = .ok (.aload_n 0, 1) := dgq (p := 1) daL_law_2340 dbL_law_2340.2.1
theorem dL_law_2342 : decode cL_law 2342 = .ok (.iload 5, 2) := dgq (p := 2) daL_law_2340 dbL_law_2340.2.2.1
theorem dL_law_2344 : decode cL_law 2344 = .ok (.iconst 1, 1) := dgq (p := 4) daL_law_2340 dbL_law_2340.2.2.2.1
theorem dL_law_2345 : decode cL_law 2345 = .ok (.iadd, 1) := dgq (p := 5) daL_law_2340 dbL_law_2340.2.2.2.2.1
theorem dL_law_2346 : decode cL_law 2346 = .ok (.iaload, 1) := dgq (p := 6) daL_law_2340 dbL_law_2340.2.2.2.2.2.1
theorem dL_law_2347 : decode cL_law 2347 = .ok (.aload_n 0, 1) := dgq (p := 7) daL_law_2340 dbL_law_2340.2.2.2.2.2.2.1
theorem dL_law_2348 : decode cL_law 2348 = .ok (.iload 5, 2) := dgq (p := 8) daL_law_2340 dbL_law_2340.2.2.2.2.2.2.2.1
theorem dL_law_2350 : decode cL_law 2350 = .ok (.iconst 2, 1) := dgq (p := 10) daL_law_2340 dbL_law_2340.2.2.2.2.2.2.2.2.1
theorem dL_law_2351 : decode cL_law 2351 = .ok (.iadd, 1) := dgq (p := 11) daL_law_2340 dbL_law_2340.2.2.2.2.2.2.2.2.2
def dsL_law_2352 : ByteArray := ⟨#[46, 45, 184, 1, 117, 54, 6, 44, 42, 21, 5, 4, 96, 46]⟩
theorem daL_law_2352 : agB cL_law dsL_law_2352 2352 := agB_of (n := 14) (by decide +kernel)
theorem dbL_law_2352 : (decode dsL_law_2352 0 = .ok (.iaload, 1) ∧ okop dsL_law_2352 0 = true) ∧ (decode dsL_law_2352 1 = .ok (.aload_n 3, 1) ∧ okop dsL_law_2352 1 = true) ∧ (decode dsL_law_2352 2 = .ok (.invokestatic 373, 3) ∧ okop dsL_law_2352 2 = true) ∧ (decode dsL_law_2352 5 = .ok (.istore 6, 2) ∧ okop dsL_law_2352 5 = true) ∧ (decode dsL_law_2352 7 = .ok (.aload_n 2, 1) ∧ okop dsL_law_2352 7 = true) ∧ (decode dsL_law_2352 8 = .ok (.aload_n 0, 1) ∧ okop dsL_law_2352 8 = true) ∧ (decode dsL_law_2352 9 = .ok (.iload 5, 2) ∧ okop dsL_law_2352 9 = true) ∧ (decode dsL_law_2352 11 = .ok (.iconst 1, 1) ∧ okop dsL_law_2352 11 = true) ∧ (decode dsL_law_2352 12 = .ok (.iadd, 1) ∧ okop dsL_law_2352 12 = true) ∧ (decode dsL_law_2352 13 = .ok (.iaload, 1) ∧ okop dsL_law_2352 13 = true) := by decide +kernel
theorem dL_law_2352 : decode cL_law 2352 = .ok (.iaload, 1) := dgq (p := 0) daL_law_2352 dbL_law_2352.1
theorem dL_law_2353 : decode cL_law 2353 = .ok (.aload_n 3, 1) := dgq (p := 1) daL_law_2352 dbL_law_2352.2.1
theorem dL_law_2354 : decode cL_law 2354 = .ok (.invokestatic 373, 3) := dgq (p := 2) daL_law_2352 dbL_law_2352.2.2.1
theorem dL_law_2357 : decode cL_law 2357 = .ok (.istore 6, 2) := dgq (p := 5) daL_law_2352 dbL_law_2352.2.2.2.1
theorem dL_law_2359 : decode cL_law 2359 = .ok (.aload_n 2, 1) := dgq (p := 7) daL_law_2352 dbL_law_2352.2.2.2.2.1
theorem dL_law_2360 : decode cL_law 2360 = .ok (.aload_n 0, 1) := dgq (p := 8) daL_law_2352 dbL_law_2352.2.2.2.2.2.1
theorem dL_law_2361 : decode cL_law 2361 = .ok (.iload 5, 2) := dgq (p := 9) daL_law_2352 dbL_law_2352.2.2.2.2.2.2.1
theorem dL_law_2363 : decode cL_law 2363 = .ok (.iconst 1, 1) := dgq (p := 11) daL_law_2352 dbL_law_2352.2.2.2.2.2.2.2.1
theorem dL_law_2364 : decode cL_law 2364 = .ok (.iadd, 1) := dgq (p := 12) daL_law_2352 dbL_law_2352.2.2.2.2.2.2.2.2.1
theorem dL_law_2365 : decode cL_law 2365 = .ok (.iaload, 1) := dgq (p := 13) daL_law_2352 dbL_law_2352.2.2.2.2.2.2.2.2.2
def dsL_law_2366 : ByteArray := ⟨#[42, 21, 5, 5, 96, 46, 182, 1, 119, 55, 7, 167, 2, 35, 43, 42]⟩
theorem daL_law_2366 : agB cL_law dsL_law_2366 2366 := agB_of (n := 16) (by decide +kernel)
theorem dbL_law_2366 : (decode dsL_law_2366 0 = .ok (.aload_n 0, 1) ∧ okop dsL_law_2366 0 = true) ∧ (decode dsL_law_2366 1 = .ok (.iload 5, 2) ∧ okop dsL_law_2366 1 = true) ∧ (decode dsL_law_2366 3 = .ok (.iconst 2, 1) ∧ okop dsL_law_2366 3 = true) ∧ (decode dsL_law_2366 4 = .ok (.iadd, 1) ∧ okop dsL_law_2366 4 = true) ∧ (decode dsL_law_2366 5 = .ok (.iaload, 1) ∧ okop dsL_law_2366 5 = true) ∧ (decode dsL_law_2366 6 = .ok (.invokevirtual 375, 3) ∧ okop dsL_law_2366 6 = true) ∧ (decode dsL_law_2366 9 = .ok (.lstore 7, 2) ∧ okop dsL_law_2366 9 = true) ∧ (decode dsL_law_2366 11 = .ok (.goto 547, 3) ∧ okop dsL_law_2366 11 = true) ∧ (decode dsL_law_2366 14 = .ok (.aload_n 1, 1) ∧ okop dsL_law_2366 14 = true) ∧ (decode dsL_law_2366 15 = .ok (.aload_n 0, 1) ∧ okop dsL_law_2366 15 = true) := by decide +kernel
theorem dL_law_2366 : decode cL_law 2366 = .ok (.aload_n 0, 1) := dgq (p := 0) daL_law_2366 dbL_law_2366.1
theorem dL_law_2367 : decode cL_law 2367 = .ok (.iload 5, 2) := dgq (p := 1) daL_law_2366 dbL_law_2366.2.1
theorem dL_law_2369 : decode cL_law 2369 = .ok (.iconst 2, 1) := dgq (p := 3) daL_law_2366 dbL_law_2366.2.2.1
theorem dL_law_2370 : decode cL_law 2370 = .ok (.iadd, 1) := dgq (p := 4) daL_law_2366 dbL_law_2366.2.2.2.1
theorem dL_law_2371 : decode cL_law 2371 = .ok (.iaload, 1) := dgq (p := 5) daL_law_2366 dbL_law_2366.2.2.2.2.1
theorem dL_law_2372 : decode cL_law 2372 = .ok (.invokevirtual 375, 3) := dgq (p := 6) daL_law_2366 dbL_law_2366.2.2.2.2.2.1
theorem dL_law_2375 : decode cL_law 2375 = .ok (.lstore 7, 2) := dgq (p := 9) daL_law_2366 dbL_law_2366.2.2.2.2.2.2.1
theorem dL_law_2377 : decode cL_law 2377 = .ok (.goto 547, 3) := dgq (p := 11) daL_law_2366 dbL_law_2366.2.2.2.2.2.2.2.1
theorem dL_law_2380 : decode cL_law 2380 = .ok (.aload_n 1, 1) := dgq (p := 14) daL_law_2366 dbL_law_2366.2.2.2.2.2.2.2.2.1
theorem dL_law_2381 : decode cL_law 2381 = .ok (.aload_n 0, 1) := dgq (p := 15) daL_law_2366 dbL_law_2366.2.2.2.2.2.2.2.2.2
def dsL_law_2382 : ByteArray := ⟨#[21, 5, 4, 96, 46, 42, 21, 5, 5, 96, 46, 42]⟩
theorem daL_law_2382 : agB cL_law dsL_law_2382 2382 := agB_of (n := 12) (by decide +kernel)
theorem dbL_law_2382 : (decode dsL_law_2382 0 = .ok (.iload 5, 2) ∧ okop dsL_law_2382 0 = true) ∧ (decode dsL_law_2382 2 = .ok (.iconst 1, 1) ∧ okop dsL_law_2382 2 = true) ∧ (decode dsL_law_2382 3 = .ok (.iadd, 1) ∧ okop dsL_law_2382 3 = true) ∧ (decode dsL_law_2382 4 = .ok (.iaload, 1) ∧ okop dsL_law_2382 4 = true) ∧ (decode dsL_law_2382 5 = .ok (.aload_n 0, 1) ∧ okop dsL_law_2382 5 = true) ∧ (decode dsL_law_2382 6 = .ok (.iload 5, 2) ∧ okop dsL_law_2382 6 = true) ∧ (decode dsL_law_2382 8 = .ok (.iconst 2, 1) ∧ okop dsL_law_2382 8 = true) ∧ (decode dsL_law_2382 9 = .ok (.iadd, 1) ∧ okop dsL_law_2382 9 = true) ∧ (decode dsL_law_2382 10 = .ok (.iaload, 1) ∧ okop dsL_law_2382 10 = true) ∧ (decode dsL_law_2382 11 = .ok (.aload_n 0, 1) ∧ okop dsL_law_2382 11 = true) := by decide +kernel
theorem dL_law_2382 : decode cL_law 2382 = .ok (.iload 5, 2) := dgq (p := 0) daL_law_2382 dbL_law_2382.1
theorem dL_law_2384 : decode cL_law 2384 = .ok (.iconst 1, 1) := dgq (p := 2) daL_law_2382 dbL_law_2382.2.1
theorem dL_law_2385 : decode cL_law 2385 = .ok (.iadd, 1) := dgq (p := 3) daL_law_2382 dbL_law_2382.2.2.1
theorem dL_law_2386 : decode cL_law 2386 = .ok (.iaload, 1) := dgq (p := 4) daL_law_2382 dbL_law_2382.2.2.2.1
theorem dL_law_2387 : decode cL_law 2387 = .ok (.aload_n 0, 1) := dgq (p := 5) daL_law_2382 dbL_law_2382.2.2.2.2.1
theorem dL_law_2388 : decode cL_law 2388 = .ok (.iload 5, 2) := dgq (p := 6) daL_law_2382 dbL_law_2382.2.2.2.2.2.1
theorem dL_law_2390 : decode cL_law 2390 = .ok (.iconst 2, 1) := dgq (p := 8) daL_law_2382 dbL_law_2382.2.2.2.2.2.2.1
theorem dL_law_2391 : decode cL_law 2391 = .ok (.iadd, 1) := dgq (p := 9) daL_law_2382 dbL_law_2382.2.2.2.2.2.2.2.1
theorem dL_law_2392 : decode cL_law 2392 = .ok (.iaload, 1) := dgq (p := 10) daL_law_2382 dbL_law_2382.2.2.2.2.2.2.2.2.1
theorem dL_law_2393 : decode cL_law 2393 = .ok (.aload_n 0, 1) := dgq (p := 11) daL_law_2382 dbL_law_2382.2.2.2.2.2.2.2.2.2
def dsL_law_2394 : ByteArray := ⟨#[21, 5, 6, 96, 46, 42, 21, 5, 7, 96, 46, 45]⟩
theorem daL_law_2394 : agB cL_law dsL_law_2394 2394 := agB_of (n := 12) (by decide +kernel)
theorem dbL_law_2394 : (decode dsL_law_2394 0 = .ok (.iload 5, 2) ∧ okop dsL_law_2394 0 = true) ∧ (decode dsL_law_2394 2 = .ok (.iconst 3, 1) ∧ okop dsL_law_2394 2 = true) ∧ (decode dsL_law_2394 3 = .ok (.iadd, 1) ∧ okop dsL_law_2394 3 = true) ∧ (decode dsL_law_2394 4 = .ok (.iaload, 1) ∧ okop dsL_law_2394 4 = true) ∧ (decode dsL_law_2394 5 = .ok (.aload_n 0, 1) ∧ okop dsL_law_2394 5 = true) ∧ (decode dsL_law_2394 6 = .ok (.iload 5, 2) ∧ okop dsL_law_2394 6 = true) ∧ (decode dsL_law_2394 8 = .ok (.iconst 4, 1) ∧ okop dsL_law_2394 8 = true) ∧ (decode dsL_law_2394 9 = .ok (.iadd, 1) ∧ okop dsL_law_2394 9 = true) ∧ (decode dsL_law_2394 10 = .ok (.iaload, 1) ∧ okop dsL_law_2394 10 = true) ∧ (decode dsL_law_2394 11 = .ok (.aload_n 3, 1) ∧ okop dsL_law_2394 11 = true) := by decide +kernel
theorem dL_law_2394 : decode cL_law 2394 = .ok (.iload 5, 2) := dgq (p := 0) daL_law_2394 dbL_law_2394.1
theorem dL_law_2396 : decode cL_law 2396 = .ok (.iconst 3, 1) := dgq (p := 2) daL_law_2394 dbL_law_2394.2.1
theorem dL_law_2397 : decode cL_law 2397 = .ok (.iadd, 1) := dgq (p := 3) daL_law_2394 dbL_law_2394.2.2.1
theorem dL_law_2398 : decode cL_law 2398 = .ok (.iaload, 1) := dgq (p := 4) daL_law_2394 dbL_law_2394.2.2.2.1
theorem dL_law_2399 : decode cL_law 2399 = .ok (.aload_n 0, 1) := dgq (p := 5) daL_law_2394 dbL_law_2394.2.2.2.2.1
theorem dL_law_2400 : decode cL_law 2400 = .ok (.iload 5, 2) := dgq (p := 6) daL_law_2394 dbL_law_2394.2.2.2.2.2.1
theorem dL_law_2402 : decode cL_law 2402 = .ok (.iconst 4, 1) := dgq (p := 8) daL_law_2394 dbL_law_2394.2.2.2.2.2.2.1
theorem dL_law_2403 : decode cL_law 2403 = .ok (.iadd, 1) := dgq (p := 9) daL_law_2394 dbL_law_2394.2.2.2.2.2.2.2.1
theorem dL_law_2404 : decode cL_law 2404 = .ok (.iaload, 1) := dgq (p := 10) daL_law_2394 dbL_law_2394.2.2.2.2.2.2.2.2.1
theorem dL_law_2405 : decode cL_law 2405 = .ok (.aload_n 3, 1) := dgq (p := 11) daL_law_2394 dbL_law_2394.2.2.2.2.2.2.2.2.2
def dsL_law_2406 : ByteArray := ⟨#[184, 1, 120, 54, 6, 44, 42, 21, 5, 4, 96, 46, 42, 21, 5]⟩
theorem daL_law_2406 : agB cL_law dsL_law_2406 2406 := agB_of (n := 15) (by decide +kernel)
theorem dbL_law_2406 : (decode dsL_law_2406 0 = .ok (.invokestatic 376, 3) ∧ okop dsL_law_2406 0 = true) ∧ (decode dsL_law_2406 3 = .ok (.istore 6, 2) ∧ okop dsL_law_2406 3 = true) ∧ (decode dsL_law_2406 5 = .ok (.aload_n 2, 1) ∧ okop dsL_law_2406 5 = true) ∧ (decode dsL_law_2406 6 = .ok (.aload_n 0, 1) ∧ okop dsL_law_2406 6 = true) ∧ (decode dsL_law_2406 7 = .ok (.iload 5, 2) ∧ okop dsL_law_2406 7 = true) ∧ (decode dsL_law_2406 9 = .ok (.iconst 1, 1) ∧ okop dsL_law_2406 9 = true) ∧ (decode dsL_law_2406 10 = .ok (.iadd, 1) ∧ okop dsL_law_2406 10 = true) ∧ (decode dsL_law_2406 11 = .ok (.iaload, 1) ∧ okop dsL_law_2406 11 = true) ∧ (decode dsL_law_2406 12 = .ok (.aload_n 0, 1) ∧ okop dsL_law_2406 12 = true) ∧ (decode dsL_law_2406 13 = .ok (.iload 5, 2) ∧ okop dsL_law_2406 13 = true) := by decide +kernel
theorem dL_law_2406 : decode cL_law 2406 = .ok (.invokestatic 376, 3) := dgq (p := 0) daL_law_2406 dbL_law_2406.1
theorem dL_law_2409 : decode cL_law 2409 = .ok (.istore 6, 2) := dgq (p := 3) daL_law_2406 dbL_law_2406.2.1
theorem dL_law_2411 : decode cL_law 2411 = .ok (.aload_n 2, 1) := dgq (p := 5) daL_law_2406 dbL_law_2406.2.2.1
theorem dL_law_2412 : decode cL_law 2412 = .ok (.aload_n 0, 1) := dgq (p := 6) daL_law_2406 dbL_law_2406.2.2.2.1
theorem dL_law_2413 : decode cL_law 2413 = .ok (.iload 5, 2) := dgq (p := 7) daL_law_2406 dbL_law_2406.2.2.2.2.1
theorem dL_law_2415 : decode cL_law 2415 = .ok (.iconst 1, 1) := dgq (p := 9) daL_law_2406 dbL_law_2406.2.2.2.2.2.1
theorem dL_law_2416 : decode cL_law 2416 = .ok (.iadd, 1) := dgq (p := 10) daL_law_2406 dbL_law_2406.2.2.2.2.2.2.1
theorem dL_law_2417 : decode cL_law 2417 = .ok (.iaload, 1) := dgq (p := 11) daL_law_2406 dbL_law_2406.2.2.2.2.2.2.2.1
theorem dL_law_2418 : decode cL_law 2418 = .ok (.aload_n 0, 1) := dgq (p := 12) daL_law_2406 dbL_law_2406.2.2.2.2.2.2.2.2.1
theorem dL_law_2419 : decode cL_law 2419 = .ok (.iload 5, 2) := dgq (p := 13) daL_law_2406 dbL_law_2406.2.2.2.2.2.2.2.2.2
def dsL_law_2421 : ByteArray := ⟨#[5, 96, 46, 42, 21, 5, 6, 96, 46, 42, 21, 5]⟩
theorem daL_law_2421 : agB cL_law dsL_law_2421 2421 := agB_of (n := 12) (by decide +kernel)
theorem dbL_law_2421 : (decode dsL_law_2421 0 = .ok (.iconst 2, 1) ∧ okop dsL_law_2421 0 = true) ∧ (decode dsL_law_2421 1 = .ok (.iadd, 1) ∧ okop dsL_law_2421 1 = true) ∧ (decode dsL_law_2421 2 = .ok (.iaload, 1) ∧ okop dsL_law_2421 2 = true) ∧ (decode dsL_law_2421 3 = .ok (.aload_n 0, 1) ∧ okop dsL_law_2421 3 = true) ∧ (decode dsL_law_2421 4 = .ok (.iload 5, 2) ∧ okop dsL_law_2421 4 = true) ∧ (decode dsL_law_2421 6 = .ok (.iconst 3, 1) ∧ okop dsL_law_2421 6 = true) ∧ (decode dsL_law_2421 7 = .ok (.iadd, 1) ∧ okop dsL_law_2421 7 = true) ∧ (decode dsL_law_2421 8 = .ok (.iaload, 1) ∧ okop dsL_law_2421 8 = true) ∧ (decode dsL_law_2421 9 = .ok (.aload_n 0, 1) ∧ okop dsL_law_2421 9 = true) ∧ (decode dsL_law_2421 10 = .ok (.iload 5, 2) ∧ okop dsL_law_2421 10 = true) := by decide +kernel
theorem dL_law_2421 : decode cL_law 2421 = .ok (.iconst 2, 1) := dgq (p := 0) daL_law_2421 dbL_law_2421.1
theorem dL_law_2422 : decode cL_law 2422 = .ok (.iadd, 1) := dgq (p := 1) daL_law_2421 dbL_law_2421.2.1
theorem dL_law_2423 : decode cL_law 2423 = .ok (.iaload, 1) := dgq (p := 2) daL_law_2421 dbL_law_2421.2.2.1
theorem dL_law_2424 : decode cL_law 2424 = .ok (.aload_n 0, 1) := dgq (p := 3) daL_law_2421 dbL_law_2421.2.2.2.1
theorem dL_law_2425 : decode cL_law 2425 = .ok (.iload 5, 2) := dgq (p := 4) daL_law_2421 dbL_law_2421.2.2.2.2.1
theorem dL_law_2427 : decode cL_law 2427 = .ok (.iconst 3, 1) := dgq (p := 6) daL_law_2421 dbL_law_2421.2.2.2.2.2.1
theorem dL_law_2428 : decode cL_law 2428 = .ok (.iadd, 1) := dgq (p := 7) daL_law_2421 dbL_law_2421.2.2.2.2.2.2.1
theorem dL_law_2429 : decode cL_law 2429 = .ok (.iaload, 1) := dgq (p := 8) daL_law_2421 dbL_law_2421.2.2.2.2.2.2.2.1
theorem dL_law_2430 : decode cL_law 2430 = .ok (.aload_n 0, 1) := dgq (p := 9) daL_law_2421 dbL_law_2421.2.2.2.2.2.2.2.2.1
theorem dL_law_2431 : decode cL_law 2431 = .ok (.iload 5, 2) := dgq (p := 10) daL_law_2421 dbL_law_2421.2.2.2.2.2.2.2.2.2
def dsL_law_2433 : ByteArray := ⟨#[7, 96, 46, 182, 1, 122, 54, 7, 167, 1, 227, 43, 42, 21, 5, 4]⟩
theorem daL_law_2433 : agB cL_law dsL_law_2433 2433 := agB_of (n := 16) (by decide +kernel)
theorem dbL_law_2433 : (decode dsL_law_2433 0 = .ok (.iconst 4, 1) ∧ okop dsL_law_2433 0 = true) ∧ (decode dsL_law_2433 1 = .ok (.iadd, 1) ∧ okop dsL_law_2433 1 = true) ∧ (decode dsL_law_2433 2 = .ok (.iaload, 1) ∧ okop dsL_law_2433 2 = true) ∧ (decode dsL_law_2433 3 = .ok (.invokevirtual 378, 3) ∧ okop dsL_law_2433 3 = true) ∧ (decode dsL_law_2433 6 = .ok (.istore 7, 2) ∧ okop dsL_law_2433 6 = true) ∧ (decode dsL_law_2433 8 = .ok (.goto 483, 3) ∧ okop dsL_law_2433 8 = true) ∧ (decode dsL_law_2433 11 = .ok (.aload_n 1, 1) ∧ okop dsL_law_2433 11 = true) ∧ (decode dsL_law_2433 12 = .ok (.aload_n 0, 1) ∧ okop dsL_law_2433 12 = true) ∧ (decode dsL_law_2433 13 = .ok (.iload 5, 2) ∧ okop dsL_law_2433 13 = true) ∧ (decode dsL_law_2433 15 = .ok (.iconst 1, 1) ∧ okop dsL_law_2433 15 = true) := by decide +kernel
theorem dL_law_2433 : decode cL_law 2433 = .ok (.iconst 4, 1) := dgq (p := 0) daL_law_2433 dbL_law_2433.1
theorem dL_law_2434 : decode cL_law 2434 = .ok (.iadd, 1) := dgq (p := 1) daL_law_2433 dbL_law_2433.2.1
theorem dL_law_2435 : decode cL_law 2435 = .ok (.iaload, 1) := dgq (p := 2) daL_law_2433 dbL_law_2433.2.2.1
theorem dL_law_2436 : decode cL_law 2436 = .ok (.invokevirtual 378, 3) := dgq (p := 3) daL_law_2433 dbL_law_2433.2.2.2.1
theorem dL_law_2439 : decode cL_law 2439 = .ok (.istore 7, 2) := dgq (p := 6) daL_law_2433 dbL_law_2433.2.2.2.2.1
theorem dL_law_2441 : decode cL_law 2441 = .ok (.goto 483, 3) := dgq (p := 8) daL_law_2433 dbL_law_2433.2.2.2.2.2.1
theorem dL_law_2444 : decode cL_law 2444 = .ok (.aload_n 1, 1) := dgq (p := 11) daL_law_2433 dbL_law_2433.2.2.2.2.2.2.1
theorem dL_law_2445 : decode cL_law 2445 = .ok (.aload_n 0, 1) := dgq (p := 12) daL_law_2433 dbL_law_2433.2.2.2.2.2.2.2.1
theorem dL_law_2446 : decode cL_law 2446 = .ok (.iload 5, 2) := dgq (p := 13) daL_law_2433 dbL_law_2433.2.2.2.2.2.2.2.2.1
theorem dL_law_2448 : decode cL_law 2448 = .ok (.iconst 1, 1) := dgq (p := 15) daL_law_2433 dbL_law_2433.2.2.2.2.2.2.2.2.2
def dsL_law_2449 : ByteArray := ⟨#[96, 46, 45, 184, 1, 123, 54, 6, 44, 42, 21, 5, 4, 96]⟩
theorem daL_law_2449 : agB cL_law dsL_law_2449 2449 := agB_of (n := 14) (by decide +kernel)
theorem dbL_law_2449 : (decode dsL_law_2449 0 = .ok (.iadd, 1) ∧ okop dsL_law_2449 0 = true) ∧ (decode dsL_law_2449 1 = .ok (.iaload, 1) ∧ okop dsL_law_2449 1 = true) ∧ (decode dsL_law_2449 2 = .ok (.aload_n 3, 1) ∧ okop dsL_law_2449 2 = true) ∧ (decode dsL_law_2449 3 = .ok (.invokestatic 379, 3) ∧ okop dsL_law_2449 3 = true) ∧ (decode dsL_law_2449 6 = .ok (.istore 6, 2) ∧ okop dsL_law_2449 6 = true) ∧ (decode dsL_law_2449 8 = .ok (.aload_n 2, 1) ∧ okop dsL_law_2449 8 = true) ∧ (decode dsL_law_2449 9 = .ok (.aload_n 0, 1) ∧ okop dsL_law_2449 9 = true) ∧ (decode dsL_law_2449 10 = .ok (.iload 5, 2) ∧ okop dsL_law_2449 10 = true) ∧ (decode dsL_law_2449 12 = .ok (.iconst 1, 1) ∧ okop dsL_law_2449 12 = true) ∧ (decode dsL_law_2449 13 = .ok (.iadd, 1) ∧ okop dsL_law_2449 13 = true) := by decide +kernel
theorem dL_law_2449 : decode cL_law 2449 = .ok (.iadd, 1) := dgq (p := 0) daL_law_2449 dbL_law_2449.1
theorem dL_law_2450 : decode cL_law 2450 = .ok (.iaload, 1) := dgq (p := 1) daL_law_2449 dbL_law_2449.2.1
theorem dL_law_2451 : decode cL_law 2451 = .ok (.aload_n 3, 1) := dgq (p := 2) daL_law_2449 dbL_law_2449.2.2.1
theorem dL_law_2452 : decode cL_law 2452 = .ok (.invokestatic 379, 3) := dgq (p := 3) daL_law_2449 dbL_law_2449.2.2.2.1
theorem dL_law_2455 : decode cL_law 2455 = .ok (.istore 6, 2) := dgq (p := 6) daL_law_2449 dbL_law_2449.2.2.2.2.1
theorem dL_law_2457 : decode cL_law 2457 = .ok (.aload_n 2, 1) := dgq (p := 8) daL_law_2449 dbL_law_2449.2.2.2.2.2.1
theorem dL_law_2458 : decode cL_law 2458 = .ok (.aload_n 0, 1) := dgq (p := 9) daL_law_2449 dbL_law_2449.2.2.2.2.2.2.1
theorem dL_law_2459 : decode cL_law 2459 = .ok (.iload 5, 2) := dgq (p := 10) daL_law_2449 dbL_law_2449.2.2.2.2.2.2.2.1
theorem dL_law_2461 : decode cL_law 2461 = .ok (.iconst 1, 1) := dgq (p := 12) daL_law_2449 dbL_law_2449.2.2.2.2.2.2.2.2.1
theorem dL_law_2462 : decode cL_law 2462 = .ok (.iadd, 1) := dgq (p := 13) daL_law_2449 dbL_law_2449.2.2.2.2.2.2.2.2.2
def dsL_law_2463 : ByteArray := ⟨#[46, 182, 1, 125, 55, 7, 167, 1, 199, 43, 42, 21, 5, 4, 96, 46]⟩
theorem daL_law_2463 : agB cL_law dsL_law_2463 2463 := agB_of (n := 16) (by decide +kernel)
theorem dbL_law_2463 : (decode dsL_law_2463 0 = .ok (.iaload, 1) ∧ okop dsL_law_2463 0 = true) ∧ (decode dsL_law_2463 1 = .ok (.invokevirtual 381, 3) ∧ okop dsL_law_2463 1 = true) ∧ (decode dsL_law_2463 4 = .ok (.lstore 7, 2) ∧ okop dsL_law_2463 4 = true) ∧ (decode dsL_law_2463 6 = .ok (.goto 455, 3) ∧ okop dsL_law_2463 6 = true) ∧ (decode dsL_law_2463 9 = .ok (.aload_n 1, 1) ∧ okop dsL_law_2463 9 = true) ∧ (decode dsL_law_2463 10 = .ok (.aload_n 0, 1) ∧ okop dsL_law_2463 10 = true) ∧ (decode dsL_law_2463 11 = .ok (.iload 5, 2) ∧ okop dsL_law_2463 11 = true) ∧ (decode dsL_law_2463 13 = .ok (.iconst 1, 1) ∧ okop dsL_law_2463 13 = true) ∧ (decode dsL_law_2463 14 = .ok (.iadd, 1) ∧ okop dsL_law_2463 14 = true) ∧ (decode dsL_law_2463 15 = .ok (.iaload, 1) ∧ okop dsL_law_2463 15 = true) := by decide +kernel
theorem dL_law_2463 : decode cL_law 2463 = .ok (.iaload, 1) := dgq (p := 0) daL_law_2463 dbL_law_2463.1
theorem dL_law_2464 : decode cL_law 2464 = .ok (.invokevirtual 381, 3) := dgq (p := 1) daL_law_2463 dbL_law_2463.2.1
theorem dL_law_2467 : decode cL_law 2467 = .ok (.lstore 7, 2) := dgq (p := 4) daL_law_2463 dbL_law_2463.2.2.1
theorem dL_law_2469 : decode cL_law 2469 = .ok (.goto 455, 3) := dgq (p := 6) daL_law_2463 dbL_law_2463.2.2.2.1
theorem dL_law_2472 : decode cL_law 2472 = .ok (.aload_n 1, 1) := dgq (p := 9) daL_law_2463 dbL_law_2463.2.2.2.2.1
theorem dL_law_2473 : decode cL_law 2473 = .ok (.aload_n 0, 1) := dgq (p := 10) daL_law_2463 dbL_law_2463.2.2.2.2.2.1
theorem dL_law_2474 : decode cL_law 2474 = .ok (.iload 5, 2) := dgq (p := 11) daL_law_2463 dbL_law_2463.2.2.2.2.2.2.1
theorem dL_law_2476 : decode cL_law 2476 = .ok (.iconst 1, 1) := dgq (p := 13) daL_law_2463 dbL_law_2463.2.2.2.2.2.2.2.1
theorem dL_law_2477 : decode cL_law 2477 = .ok (.iadd, 1) := dgq (p := 14) daL_law_2463 dbL_law_2463.2.2.2.2.2.2.2.2.1
theorem dL_law_2478 : decode cL_law 2478 = .ok (.iaload, 1) := dgq (p := 15) daL_law_2463 dbL_law_2463.2.2.2.2.2.2.2.2.2
def dsL_law_2479 : ByteArray := ⟨#[42, 21, 5, 5, 96, 46, 42, 21, 5, 6, 96, 46]⟩
theorem daL_law_2479 : agB cL_law dsL_law_2479 2479 := agB_of (n := 12) (by decide +kernel)
theorem dbL_law_2479 : (decode dsL_law_2479 0 = .ok (.aload_n 0, 1) ∧ okop dsL_law_2479 0 = true) ∧ (decode dsL_law_2479 1 = .ok (.iload 5, 2) ∧ okop dsL_law_2479 1 = true) ∧ (decode dsL_law_2479 3 = .ok (.iconst 2, 1) ∧ okop dsL_law_2479 3 = true) ∧ (decode dsL_law_2479 4 = .ok (.iadd, 1) ∧ okop dsL_law_2479 4 = true) ∧ (decode dsL_law_2479 5 = .ok (.iaload, 1) ∧ okop dsL_law_2479 5 = true) ∧ (decode dsL_law_2479 6 = .ok (.aload_n 0, 1) ∧ okop dsL_law_2479 6 = true) ∧ (decode dsL_law_2479 7 = .ok (.iload 5, 2) ∧ okop dsL_law_2479 7 = true) ∧ (decode dsL_law_2479 9 = .ok (.iconst 3, 1) ∧ okop dsL_law_2479 9 = true) ∧ (decode dsL_law_2479 10 = .ok (.iadd, 1) ∧ okop dsL_law_2479 10 = true) ∧ (decode dsL_law_2479 11 = .ok (.iaload, 1) ∧ okop dsL_law_2479 11 = true) := by decide +kernel
theorem dL_law_2479 : decode cL_law 2479 = .ok (.aload_n 0, 1) := dgq (p := 0) daL_law_2479 dbL_law_2479.1
theorem dL_law_2480 : decode cL_law 2480 = .ok (.iload 5, 2) := dgq (p := 1) daL_law_2479 dbL_law_2479.2.1
theorem dL_law_2482 : decode cL_law 2482 = .ok (.iconst 2, 1) := dgq (p := 3) daL_law_2479 dbL_law_2479.2.2.1
theorem dL_law_2483 : decode cL_law 2483 = .ok (.iadd, 1) := dgq (p := 4) daL_law_2479 dbL_law_2479.2.2.2.1
theorem dL_law_2484 : decode cL_law 2484 = .ok (.iaload, 1) := dgq (p := 5) daL_law_2479 dbL_law_2479.2.2.2.2.1
theorem dL_law_2485 : decode cL_law 2485 = .ok (.aload_n 0, 1) := dgq (p := 6) daL_law_2479 dbL_law_2479.2.2.2.2.2.1
theorem dL_law_2486 : decode cL_law 2486 = .ok (.iload 5, 2) := dgq (p := 7) daL_law_2479 dbL_law_2479.2.2.2.2.2.2.1
theorem dL_law_2488 : decode cL_law 2488 = .ok (.iconst 3, 1) := dgq (p := 9) daL_law_2479 dbL_law_2479.2.2.2.2.2.2.2.1
theorem dL_law_2489 : decode cL_law 2489 = .ok (.iadd, 1) := dgq (p := 10) daL_law_2479 dbL_law_2479.2.2.2.2.2.2.2.2.1
theorem dL_law_2490 : decode cL_law 2490 = .ok (.iaload, 1) := dgq (p := 11) daL_law_2479 dbL_law_2479.2.2.2.2.2.2.2.2.2
def dsL_law_2491 : ByteArray := ⟨#[45, 184, 1, 126, 54, 6, 44, 42, 21, 5, 4, 96, 46, 42]⟩
theorem daL_law_2491 : agB cL_law dsL_law_2491 2491 := agB_of (n := 14) (by decide +kernel)
theorem dbL_law_2491 : (decode dsL_law_2491 0 = .ok (.aload_n 3, 1) ∧ okop dsL_law_2491 0 = true) ∧ (decode dsL_law_2491 1 = .ok (.invokestatic 382, 3) ∧ okop dsL_law_2491 1 = true) ∧ (decode dsL_law_2491 4 = .ok (.istore 6, 2) ∧ okop dsL_law_2491 4 = true) ∧ (decode dsL_law_2491 6 = .ok (.aload_n 2, 1) ∧ okop dsL_law_2491 6 = true) ∧ (decode dsL_law_2491 7 = .ok (.aload_n 0, 1) ∧ okop dsL_law_2491 7 = true) ∧ (decode dsL_law_2491 8 = .ok (.iload 5, 2) ∧ okop dsL_law_2491 8 = true) ∧ (decode dsL_law_2491 10 = .ok (.iconst 1, 1) ∧ okop dsL_law_2491 10 = true) ∧ (decode dsL_law_2491 11 = .ok (.iadd, 1) ∧ okop dsL_law_2491 11 = true) ∧ (decode dsL_law_2491 12 = .ok (.iaload, 1) ∧ okop dsL_law_2491 12 = true) ∧ (decode dsL_law_2491 13 = .ok (.aload_n 0, 1) ∧ okop dsL_law_2491 13 = true) := by decide +kernel
theorem dL_law_2491 : decode cL_law 2491 = .ok (.aload_n 3, 1) := dgq (p := 0) daL_law_2491 dbL_law_2491.1
theorem dL_law_2492 : decode cL_law 2492 = .ok (.invokestatic 382, 3) := dgq (p := 1) daL_law_2491 dbL_law_2491.2.1
theorem dL_law_2495 : decode cL_law 2495 = .ok (.istore 6, 2) := dgq (p := 4) daL_law_2491 dbL_law_2491.2.2.1
theorem dL_law_2497 : decode cL_law 2497 = .ok (.aload_n 2, 1) := dgq (p := 6) daL_law_2491 dbL_law_2491.2.2.2.1
theorem dL_law_2498 : decode cL_law 2498 = .ok (.aload_n 0, 1) := dgq (p := 7) daL_law_2491 dbL_law_2491.2.2.2.2.1
theorem dL_law_2499 : decode cL_law 2499 = .ok (.iload 5, 2) := dgq (p := 8) daL_law_2491 dbL_law_2491.2.2.2.2.2.1
theorem dL_law_2501 : decode cL_law 2501 = .ok (.iconst 1, 1) := dgq (p := 10) daL_law_2491 dbL_law_2491.2.2.2.2.2.2.1
theorem dL_law_2502 : decode cL_law 2502 = .ok (.iadd, 1) := dgq (p := 11) daL_law_2491 dbL_law_2491.2.2.2.2.2.2.2.1
theorem dL_law_2503 : decode cL_law 2503 = .ok (.iaload, 1) := dgq (p := 12) daL_law_2491 dbL_law_2491.2.2.2.2.2.2.2.2.1
theorem dL_law_2504 : decode cL_law 2504 = .ok (.aload_n 0, 1) := dgq (p := 13) daL_law_2491 dbL_law_2491.2.2.2.2.2.2.2.2.2
def dsL_law_2505 : ByteArray := ⟨#[21, 5, 5, 96, 46, 42, 21, 5, 6, 96, 46, 182, 1, 128]⟩
theorem daL_law_2505 : agB cL_law dsL_law_2505 2505 := agB_of (n := 14) (by decide +kernel)
theorem dbL_law_2505 : (decode dsL_law_2505 0 = .ok (.iload 5, 2) ∧ okop dsL_law_2505 0 = true) ∧ (decode dsL_law_2505 2 = .ok (.iconst 2, 1) ∧ okop dsL_law_2505 2 = true) ∧ (decode dsL_law_2505 3 = .ok (.iadd, 1) ∧ okop dsL_law_2505 3 = true) ∧ (decode dsL_law_2505 4 = .ok (.iaload, 1) ∧ okop dsL_law_2505 4 = true) ∧ (decode dsL_law_2505 5 = .ok (.aload_n 0, 1) ∧ okop dsL_law_2505 5 = true) ∧ (decode dsL_law_2505 6 = .ok (.iload 5, 2) ∧ okop dsL_law_2505 6 = true) ∧ (decode dsL_law_2505 8 = .ok (.iconst 3, 1) ∧ okop dsL_law_2505 8 = true) ∧ (decode dsL_law_2505 9 = .ok (.iadd, 1) ∧ okop dsL_law_2505 9 = true) ∧ (decode dsL_law_2505 10 = .ok (.iaload, 1) ∧ okop dsL_law_2505 10 = true) ∧ (decode dsL_law_2505 11 = .ok (.invokevirtual 384, 3) ∧ okop dsL_law_2505 11 = true) := by decide +kernel
theorem dL_law_2505 : decode cL_law 2505 = .ok (.iload 5, 2) := dgq (p := 0) daL_law_2505 dbL_law_2505.1
theorem dL_law_2507 : decode cL_law 2507 = .ok (.iconst 2, 1) := dgq (p := 2) daL_law_2505 dbL_law_2505.2.1
theorem dL_law_2508 : decode cL_law 2508 = .ok (.iadd, 1) := dgq (p := 3) daL_law_2505 dbL_law_2505.2.2.1
theorem dL_law_2509 : decode cL_law 2509 = .ok (.iaload, 1) := dgq (p := 4) daL_law_2505 dbL_law_2505.2.2.2.1
theorem dL_law_2510 : decode cL_law 2510 = .ok (.aload_n 0, 1) := dgq (p := 5) daL_law_2505 dbL_law_2505.2.2.2.2.1
theorem dL_law_2511 : decode cL_law 2511 = .ok (.iload 5, 2) := dgq (p := 6) daL_law_2505 dbL_law_2505.2.2.2.2.2.1
theorem dL_law_2513 : decode cL_law 2513 = .ok (.iconst 3, 1) := dgq (p := 8) daL_law_2505 dbL_law_2505.2.2.2.2.2.2.1
theorem dL_law_2514 : decode cL_law 2514 = .ok (.iadd, 1) := dgq (p := 9) daL_law_2505 dbL_law_2505.2.2.2.2.2.2.2.1
theorem dL_law_2515 : decode cL_law 2515 = .ok (.iaload, 1) := dgq (p := 10) daL_law_2505 dbL_law_2505.2.2.2.2.2.2.2.2.1
theorem dL_law_2516 : decode cL_law 2516 = .ok (.invokevirtual 384, 3) := dgq (p := 11) daL_law_2505 dbL_law_2505.2.2.2.2.2.2.2.2.2
def dsL_law_2519 : ByteArray := ⟨#[54, 7, 167, 1, 147, 43, 42, 21, 5, 4, 96, 46, 45, 184, 1, 129]⟩
theorem daL_law_2519 : agB cL_law dsL_law_2519 2519 := agB_of (n := 16) (by decide +kernel)
theorem dbL_law_2519 : (decode dsL_law_2519 0 = .ok (.istore 7, 2) ∧ okop dsL_law_2519 0 = true) ∧ (decode dsL_law_2519 2 = .ok (.goto 403, 3) ∧ okop dsL_law_2519 2 = true) ∧ (decode dsL_law_2519 5 = .ok (.aload_n 1, 1) ∧ okop dsL_law_2519 5 = true) ∧ (decode dsL_law_2519 6 = .ok (.aload_n 0, 1) ∧ okop dsL_law_2519 6 = true) ∧ (decode dsL_law_2519 7 = .ok (.iload 5, 2) ∧ okop dsL_law_2519 7 = true) ∧ (decode dsL_law_2519 9 = .ok (.iconst 1, 1) ∧ okop dsL_law_2519 9 = true) ∧ (decode dsL_law_2519 10 = .ok (.iadd, 1) ∧ okop dsL_law_2519 10 = true) ∧ (decode dsL_law_2519 11 = .ok (.iaload, 1) ∧ okop dsL_law_2519 11 = true) ∧ (decode dsL_law_2519 12 = .ok (.aload_n 3, 1) ∧ okop dsL_law_2519 12 = true) ∧ (decode dsL_law_2519 13 = .ok (.invokestatic 385, 3) ∧ okop dsL_law_2519 13 = true) := by decide +kernel
theorem dL_law_2519 : decode cL_law 2519 = .ok (.istore 7, 2) := dgq (p := 0) daL_law_2519 dbL_law_2519.1
theorem dL_law_2521 : decode cL_law 2521 = .ok (.goto 403, 3) := dgq (p := 2) daL_law_2519 dbL_law_2519.2.1
theorem dL_law_2524 : decode cL_law 2524 = .ok (.aload_n 1, 1) := dgq (p := 5) daL_law_2519 dbL_law_2519.2.2.1
theorem dL_law_2525 : decode cL_law 2525 = .ok (.aload_n 0, 1) := dgq (p := 6) daL_law_2519 dbL_law_2519.2.2.2.1
theorem dL_law_2526 : decode cL_law 2526 = .ok (.iload 5, 2) := dgq (p := 7) daL_law_2519 dbL_law_2519.2.2.2.2.1
theorem dL_law_2528 : decode cL_law 2528 = .ok (.iconst 1, 1) := dgq (p := 9) daL_law_2519 dbL_law_2519.2.2.2.2.2.1
theorem dL_law_2529 : decode cL_law 2529 = .ok (.iadd, 1) := dgq (p := 10) daL_law_2519 dbL_law_2519.2.2.2.2.2.2.1
theorem dL_law_2530 : decode cL_law 2530 = .ok (.iaload, 1) := dgq (p := 11) daL_law_2519 dbL_law_2519.2.2.2.2.2.2.2.1
theorem dL_law_2531 : decode cL_law 2531 = .ok (.aload_n 3, 1) := dgq (p := 12) daL_law_2519 dbL_law_2519.2.2.2.2.2.2.2.2.1
theorem dL_law_2532 : decode cL_law 2532 = .ok (.invokestatic 385, 3) := dgq (p := 13) daL_law_2519 dbL_law_2519.2.2.2.2.2.2.2.2.2
def dsL_law_2535 : ByteArray := ⟨#[54, 6, 44, 42, 21, 5, 4, 96, 46, 182, 1, 131, 54, 7, 167, 1, 119]⟩
theorem daL_law_2535 : agB cL_law dsL_law_2535 2535 := agB_of (n := 17) (by decide +kernel)
theorem dbL_law_2535 : (decode dsL_law_2535 0 = .ok (.istore 6, 2) ∧ okop dsL_law_2535 0 = true) ∧ (decode dsL_law_2535 2 = .ok (.aload_n 2, 1) ∧ okop dsL_law_2535 2 = true) ∧ (decode dsL_law_2535 3 = .ok (.aload_n 0, 1) ∧ okop dsL_law_2535 3 = true) ∧ (decode dsL_law_2535 4 = .ok (.iload 5, 2) ∧ okop dsL_law_2535 4 = true) ∧ (decode dsL_law_2535 6 = .ok (.iconst 1, 1) ∧ okop dsL_law_2535 6 = true) ∧ (decode dsL_law_2535 7 = .ok (.iadd, 1) ∧ okop dsL_law_2535 7 = true) ∧ (decode dsL_law_2535 8 = .ok (.iaload, 1) ∧ okop dsL_law_2535 8 = true) ∧ (decode dsL_law_2535 9 = .ok (.invokevirtual 387, 3) ∧ okop dsL_law_2535 9 = true) ∧ (decode dsL_law_2535 12 = .ok (.istore 7, 2) ∧ okop dsL_law_2535 12 = true) ∧ (decode dsL_law_2535 14 = .ok (.goto 375, 3) ∧ okop dsL_law_2535 14 = true) := by decide +kernel
theorem dL_law_2535 : decode cL_law 2535 = .ok (.istore 6, 2) := dgq (p := 0) daL_law_2535 dbL_law_2535.1
theorem dL_law_2537 : decode cL_law 2537 = .ok (.aload_n 2, 1) := dgq (p := 2) daL_law_2535 dbL_law_2535.2.1
theorem dL_law_2538 : decode cL_law 2538 = .ok (.aload_n 0, 1) := dgq (p := 3) daL_law_2535 dbL_law_2535.2.2.1
theorem dL_law_2539 : decode cL_law 2539 = .ok (.iload 5, 2) := dgq (p := 4) daL_law_2535 dbL_law_2535.2.2.2.1
theorem dL_law_2541 : decode cL_law 2541 = .ok (.iconst 1, 1) := dgq (p := 6) daL_law_2535 dbL_law_2535.2.2.2.2.1
theorem dL_law_2542 : decode cL_law 2542 = .ok (.iadd, 1) := dgq (p := 7) daL_law_2535 dbL_law_2535.2.2.2.2.2.1
theorem dL_law_2543 : decode cL_law 2543 = .ok (.iaload, 1) := dgq (p := 8) daL_law_2535 dbL_law_2535.2.2.2.2.2.2.1
theorem dL_law_2544 : decode cL_law 2544 = .ok (.invokevirtual 387, 3) := dgq (p := 9) daL_law_2535 dbL_law_2535.2.2.2.2.2.2.2.1
theorem dL_law_2547 : decode cL_law 2547 = .ok (.istore 7, 2) := dgq (p := 12) daL_law_2535 dbL_law_2535.2.2.2.2.2.2.2.2.1
theorem dL_law_2549 : decode cL_law 2549 = .ok (.goto 375, 3) := dgq (p := 14) daL_law_2535 dbL_law_2535.2.2.2.2.2.2.2.2.2
def dsL_law_2552 : ByteArray := ⟨#[43, 42, 21, 5, 4, 96, 46, 45, 184, 1, 132, 54, 6, 44]⟩
theorem daL_law_2552 : agB cL_law dsL_law_2552 2552 := agB_of (n := 14) (by decide +kernel)
theorem dbL_law_2552 : (decode dsL_law_2552 0 = .ok (.aload_n 1, 1) ∧ okop dsL_law_2552 0 = true) ∧ (decode dsL_law_2552 1 = .ok (.aload_n 0, 1) ∧ okop dsL_law_2552 1 = true) ∧ (decode dsL_law_2552 2 = .ok (.iload 5, 2) ∧ okop dsL_law_2552 2 = true) ∧ (decode dsL_law_2552 4 = .ok (.iconst 1, 1) ∧ okop dsL_law_2552 4 = true) ∧ (decode dsL_law_2552 5 = .ok (.iadd, 1) ∧ okop dsL_law_2552 5 = true) ∧ (decode dsL_law_2552 6 = .ok (.iaload, 1) ∧ okop dsL_law_2552 6 = true) ∧ (decode dsL_law_2552 7 = .ok (.aload_n 3, 1) ∧ okop dsL_law_2552 7 = true) ∧ (decode dsL_law_2552 8 = .ok (.invokestatic 388, 3) ∧ okop dsL_law_2552 8 = true) ∧ (decode dsL_law_2552 11 = .ok (.istore 6, 2) ∧ okop dsL_law_2552 11 = true) ∧ (decode dsL_law_2552 13 = .ok (.aload_n 2, 1) ∧ okop dsL_law_2552 13 = true) := by decide +kernel
theorem dL_law_2552 : decode cL_law 2552 = .ok (.aload_n 1, 1) := dgq (p := 0) daL_law_2552 dbL_law_2552.1
theorem dL_law_2553 : decode cL_law 2553 = .ok (.aload_n 0, 1) := dgq (p := 1) daL_law_2552 dbL_law_2552.2.1
theorem dL_law_2554 : decode cL_law 2554 = .ok (.iload 5, 2) := dgq (p := 2) daL_law_2552 dbL_law_2552.2.2.1
theorem dL_law_2556 : decode cL_law 2556 = .ok (.iconst 1, 1) := dgq (p := 4) daL_law_2552 dbL_law_2552.2.2.2.1
theorem dL_law_2557 : decode cL_law 2557 = .ok (.iadd, 1) := dgq (p := 5) daL_law_2552 dbL_law_2552.2.2.2.2.1
theorem dL_law_2558 : decode cL_law 2558 = .ok (.iaload, 1) := dgq (p := 6) daL_law_2552 dbL_law_2552.2.2.2.2.2.1
theorem dL_law_2559 : decode cL_law 2559 = .ok (.aload_n 3, 1) := dgq (p := 7) daL_law_2552 dbL_law_2552.2.2.2.2.2.2.1
theorem dL_law_2560 : decode cL_law 2560 = .ok (.invokestatic 388, 3) := dgq (p := 8) daL_law_2552 dbL_law_2552.2.2.2.2.2.2.2.1
theorem dL_law_2563 : decode cL_law 2563 = .ok (.istore 6, 2) := dgq (p := 11) daL_law_2552 dbL_law_2552.2.2.2.2.2.2.2.2.1
theorem dL_law_2565 : decode cL_law 2565 = .ok (.aload_n 2, 1) := dgq (p := 13) daL_law_2552 dbL_law_2552.2.2.2.2.2.2.2.2.2
def dsL_law_2566 : ByteArray := ⟨#[42, 21, 5, 4, 96, 46, 182, 1, 134, 54, 7, 167, 1, 91, 43, 42]⟩
theorem daL_law_2566 : agB cL_law dsL_law_2566 2566 := agB_of (n := 16) (by decide +kernel)
theorem dbL_law_2566 : (decode dsL_law_2566 0 = .ok (.aload_n 0, 1) ∧ okop dsL_law_2566 0 = true) ∧ (decode dsL_law_2566 1 = .ok (.iload 5, 2) ∧ okop dsL_law_2566 1 = true) ∧ (decode dsL_law_2566 3 = .ok (.iconst 1, 1) ∧ okop dsL_law_2566 3 = true) ∧ (decode dsL_law_2566 4 = .ok (.iadd, 1) ∧ okop dsL_law_2566 4 = true) ∧ (decode dsL_law_2566 5 = .ok (.iaload, 1) ∧ okop dsL_law_2566 5 = true) ∧ (decode dsL_law_2566 6 = .ok (.invokevirtual 390, 3) ∧ okop dsL_law_2566 6 = true) ∧ (decode dsL_law_2566 9 = .ok (.istore 7, 2) ∧ okop dsL_law_2566 9 = true) ∧ (decode dsL_law_2566 11 = .ok (.goto 347, 3) ∧ okop dsL_law_2566 11 = true) ∧ (decode dsL_law_2566 14 = .ok (.aload_n 1, 1) ∧ okop dsL_law_2566 14 = true) ∧ (decode dsL_law_2566 15 = .ok (.aload_n 0, 1) ∧ okop dsL_law_2566 15 = true) := by decide +kernel
theorem dL_law_2566 : decode cL_law 2566 = .ok (.aload_n 0, 1) := dgq (p := 0) daL_law_2566 dbL_law_2566.1
theorem dL_law_2567 : decode cL_law 2567 = .ok (.iload 5, 2) := dgq (p := 1) daL_law_2566 dbL_law_2566.2.1
theorem dL_law_2569 : decode cL_law 2569 = .ok (.iconst 1, 1) := dgq (p := 3) daL_law_2566 dbL_law_2566.2.2.1
theorem dL_law_2570 : decode cL_law 2570 = .ok (.iadd, 1) := dgq (p := 4) daL_law_2566 dbL_law_2566.2.2.2.1
theorem dL_law_2571 : decode cL_law 2571 = .ok (.iaload, 1) := dgq (p := 5) daL_law_2566 dbL_law_2566.2.2.2.2.1
theorem dL_law_2572 : decode cL_law 2572 = .ok (.invokevirtual 390, 3) := dgq (p := 6) daL_law_2566 dbL_law_2566.2.2.2.2.2.1
theorem dL_law_2575 : decode cL_law 2575 = .ok (.istore 7, 2) := dgq (p := 9) daL_law_2566 dbL_law_2566.2.2.2.2.2.2.1
theorem dL_law_2577 : decode cL_law 2577 = .ok (.goto 347, 3) := dgq (p := 11) daL_law_2566 dbL_law_2566.2.2.2.2.2.2.2.1
theorem dL_law_2580 : decode cL_law 2580 = .ok (.aload_n 1, 1) := dgq (p := 14) daL_law_2566 dbL_law_2566.2.2.2.2.2.2.2.2.1
theorem dL_law_2581 : decode cL_law 2581 = .ok (.aload_n 0, 1) := dgq (p := 15) daL_law_2566 dbL_law_2566.2.2.2.2.2.2.2.2.2
def dsL_law_2582 : ByteArray := ⟨#[21, 5, 4, 96, 46, 146, 42, 21, 5, 5, 96, 46]⟩
theorem daL_law_2582 : agB cL_law dsL_law_2582 2582 := agB_of (n := 12) (by decide +kernel)
theorem dbL_law_2582 : (decode dsL_law_2582 0 = .ok (.iload 5, 2) ∧ okop dsL_law_2582 0 = true) ∧ (decode dsL_law_2582 2 = .ok (.iconst 1, 1) ∧ okop dsL_law_2582 2 = true) ∧ (decode dsL_law_2582 3 = .ok (.iadd, 1) ∧ okop dsL_law_2582 3 = true) ∧ (decode dsL_law_2582 4 = .ok (.iaload, 1) ∧ okop dsL_law_2582 4 = true) ∧ (decode dsL_law_2582 5 = .ok (.i2c, 1) ∧ okop dsL_law_2582 5 = true) ∧ (decode dsL_law_2582 6 = .ok (.aload_n 0, 1) ∧ okop dsL_law_2582 6 = true) ∧ (decode dsL_law_2582 7 = .ok (.iload 5, 2) ∧ okop dsL_law_2582 7 = true) ∧ (decode dsL_law_2582 9 = .ok (.iconst 2, 1) ∧ okop dsL_law_2582 9 = true) ∧ (decode dsL_law_2582 10 = .ok (.iadd, 1) ∧ okop dsL_law_2582 10 = true) ∧ (decode dsL_law_2582 11 = .ok (.iaload, 1) ∧ okop dsL_law_2582 11 = true) := by decide +kernel
theorem dL_law_2582 : decode cL_law 2582 = .ok (.iload 5, 2) := dgq (p := 0) daL_law_2582 dbL_law_2582.1
theorem dL_law_2584 : decode cL_law 2584 = .ok (.iconst 1, 1) := dgq (p := 2) daL_law_2582 dbL_law_2582.2.1
theorem dL_law_2585 : decode cL_law 2585 = .ok (.iadd, 1) := dgq (p := 3) daL_law_2582 dbL_law_2582.2.2.1
theorem dL_law_2586 : decode cL_law 2586 = .ok (.iaload, 1) := dgq (p := 4) daL_law_2582 dbL_law_2582.2.2.2.1
theorem dL_law_2587 : decode cL_law 2587 = .ok (.i2c, 1) := dgq (p := 5) daL_law_2582 dbL_law_2582.2.2.2.2.1
theorem dL_law_2588 : decode cL_law 2588 = .ok (.aload_n 0, 1) := dgq (p := 6) daL_law_2582 dbL_law_2582.2.2.2.2.2.1
theorem dL_law_2589 : decode cL_law 2589 = .ok (.iload 5, 2) := dgq (p := 7) daL_law_2582 dbL_law_2582.2.2.2.2.2.2.1
theorem dL_law_2591 : decode cL_law 2591 = .ok (.iconst 2, 1) := dgq (p := 9) daL_law_2582 dbL_law_2582.2.2.2.2.2.2.2.1
theorem dL_law_2592 : decode cL_law 2592 = .ok (.iadd, 1) := dgq (p := 10) daL_law_2582 dbL_law_2582.2.2.2.2.2.2.2.2.1
theorem dL_law_2593 : decode cL_law 2593 = .ok (.iaload, 1) := dgq (p := 11) daL_law_2582 dbL_law_2582.2.2.2.2.2.2.2.2.2
def dsL_law_2594 : ByteArray := ⟨#[45, 184, 1, 135, 54, 6, 44, 42, 21, 5, 4, 96, 46, 146]⟩
theorem daL_law_2594 : agB cL_law dsL_law_2594 2594 := agB_of (n := 14) (by decide +kernel)
theorem dbL_law_2594 : (decode dsL_law_2594 0 = .ok (.aload_n 3, 1) ∧ okop dsL_law_2594 0 = true) ∧ (decode dsL_law_2594 1 = .ok (.invokestatic 391, 3) ∧ okop dsL_law_2594 1 = true) ∧ (decode dsL_law_2594 4 = .ok (.istore 6, 2) ∧ okop dsL_law_2594 4 = true) ∧ (decode dsL_law_2594 6 = .ok (.aload_n 2, 1) ∧ okop dsL_law_2594 6 = true) ∧ (decode dsL_law_2594 7 = .ok (.aload_n 0, 1) ∧ okop dsL_law_2594 7 = true) ∧ (decode dsL_law_2594 8 = .ok (.iload 5, 2) ∧ okop dsL_law_2594 8 = true) ∧ (decode dsL_law_2594 10 = .ok (.iconst 1, 1) ∧ okop dsL_law_2594 10 = true) ∧ (decode dsL_law_2594 11 = .ok (.iadd, 1) ∧ okop dsL_law_2594 11 = true) ∧ (decode dsL_law_2594 12 = .ok (.iaload, 1) ∧ okop dsL_law_2594 12 = true) ∧ (decode dsL_law_2594 13 = .ok (.i2c, 1) ∧ okop dsL_law_2594 13 = true) := by decide +kernel
theorem dL_law_2594 : decode cL_law 2594 = .ok (.aload_n 3, 1) := dgq (p := 0) daL_law_2594 dbL_law_2594.1
theorem dL_law_2595 : decode cL_law 2595 = .ok (.invokestatic 391, 3) := dgq (p := 1) daL_law_2594 dbL_law_2594.2.1
theorem dL_law_2598 : decode cL_law 2598 = .ok (.istore 6, 2) := dgq (p := 4) daL_law_2594 dbL_law_2594.2.2.1
theorem dL_law_2600 : decode cL_law 2600 = .ok (.aload_n 2, 1) := dgq (p := 6) daL_law_2594 dbL_law_2594.2.2.2.1
theorem dL_law_2601 : decode cL_law 2601 = .ok (.aload_n 0, 1) := dgq (p := 7) daL_law_2594 dbL_law_2594.2.2.2.2.1
theorem dL_law_2602 : decode cL_law 2602 = .ok (.iload 5, 2) := dgq (p := 8) daL_law_2594 dbL_law_2594.2.2.2.2.2.1
theorem dL_law_2604 : decode cL_law 2604 = .ok (.iconst 1, 1) := dgq (p := 10) daL_law_2594 dbL_law_2594.2.2.2.2.2.2.1
theorem dL_law_2605 : decode cL_law 2605 = .ok (.iadd, 1) := dgq (p := 11) daL_law_2594 dbL_law_2594.2.2.2.2.2.2.2.1
theorem dL_law_2606 : decode cL_law 2606 = .ok (.iaload, 1) := dgq (p := 12) daL_law_2594 dbL_law_2594.2.2.2.2.2.2.2.2.1
theorem dL_law_2607 : decode cL_law 2607 = .ok (.i2c, 1) := dgq (p := 13) daL_law_2594 dbL_law_2594.2.2.2.2.2.2.2.2.2
def dsL_law_2608 : ByteArray := ⟨#[42, 21, 5, 5, 96, 46, 182, 1, 138, 54, 7, 167, 1, 49, 43, 42]⟩
theorem daL_law_2608 : agB cL_law dsL_law_2608 2608 := agB_of (n := 16) (by decide +kernel)
theorem dbL_law_2608 : (decode dsL_law_2608 0 = .ok (.aload_n 0, 1) ∧ okop dsL_law_2608 0 = true) ∧ (decode dsL_law_2608 1 = .ok (.iload 5, 2) ∧ okop dsL_law_2608 1 = true) ∧ (decode dsL_law_2608 3 = .ok (.iconst 2, 1) ∧ okop dsL_law_2608 3 = true) ∧ (decode dsL_law_2608 4 = .ok (.iadd, 1) ∧ okop dsL_law_2608 4 = true) ∧ (decode dsL_law_2608 5 = .ok (.iaload, 1) ∧ okop dsL_law_2608 5 = true) ∧ (decode dsL_law_2608 6 = .ok (.invokevirtual 394, 3) ∧ okop dsL_law_2608 6 = true) ∧ (decode dsL_law_2608 9 = .ok (.istore 7, 2) ∧ okop dsL_law_2608 9 = true) ∧ (decode dsL_law_2608 11 = .ok (.goto 305, 3) ∧ okop dsL_law_2608 11 = true) ∧ (decode dsL_law_2608 14 = .ok (.aload_n 1, 1) ∧ okop dsL_law_2608 14 = true) ∧ (decode dsL_law_2608 15 = .ok (.aload_n 0, 1) ∧ okop dsL_law_2608 15 = true) := by decide +kernel
theorem dL_law_2608 : decode cL_law 2608 = .ok (.aload_n 0, 1) := dgq (p := 0) daL_law_2608 dbL_law_2608.1
theorem dL_law_2609 : decode cL_law 2609 = .ok (.iload 5, 2) := dgq (p := 1) daL_law_2608 dbL_law_2608.2.1
theorem dL_law_2611 : decode cL_law 2611 = .ok (.iconst 2, 1) := dgq (p := 3) daL_law_2608 dbL_law_2608.2.2.1
theorem dL_law_2612 : decode cL_law 2612 = .ok (.iadd, 1) := dgq (p := 4) daL_law_2608 dbL_law_2608.2.2.2.1
theorem dL_law_2613 : decode cL_law 2613 = .ok (.iaload, 1) := dgq (p := 5) daL_law_2608 dbL_law_2608.2.2.2.2.1
theorem dL_law_2614 : decode cL_law 2614 = .ok (.invokevirtual 394, 3) := dgq (p := 6) daL_law_2608 dbL_law_2608.2.2.2.2.2.1
theorem dL_law_2617 : decode cL_law 2617 = .ok (.istore 7, 2) := dgq (p := 9) daL_law_2608 dbL_law_2608.2.2.2.2.2.2.1
theorem dL_law_2619 : decode cL_law 2619 = .ok (.goto 305, 3) := dgq (p := 11) daL_law_2608 dbL_law_2608.2.2.2.2.2.2.2.1
theorem dL_law_2622 : decode cL_law 2622 = .ok (.aload_n 1, 1) := dgq (p := 14) daL_law_2608 dbL_law_2608.2.2.2.2.2.2.2.2.1
theorem dL_law_2623 : decode cL_law 2623 = .ok (.aload_n 0, 1) := dgq (p := 15) daL_law_2608 dbL_law_2608.2.2.2.2.2.2.2.2.2
def dsL_law_2624 : ByteArray := ⟨#[21, 5, 4, 96, 46, 42, 21, 5, 5, 96, 46, 45]⟩
theorem daL_law_2624 : agB cL_law dsL_law_2624 2624 := agB_of (n := 12) (by decide +kernel)
theorem dbL_law_2624 : (decode dsL_law_2624 0 = .ok (.iload 5, 2) ∧ okop dsL_law_2624 0 = true) ∧ (decode dsL_law_2624 2 = .ok (.iconst 1, 1) ∧ okop dsL_law_2624 2 = true) ∧ (decode dsL_law_2624 3 = .ok (.iadd, 1) ∧ okop dsL_law_2624 3 = true) ∧ (decode dsL_law_2624 4 = .ok (.iaload, 1) ∧ okop dsL_law_2624 4 = true) ∧ (decode dsL_law_2624 5 = .ok (.aload_n 0, 1) ∧ okop dsL_law_2624 5 = true) ∧ (decode dsL_law_2624 6 = .ok (.iload 5, 2) ∧ okop dsL_law_2624 6 = true) ∧ (decode dsL_law_2624 8 = .ok (.iconst 2, 1) ∧ okop dsL_law_2624 8 = true) ∧ (decode dsL_law_2624 9 = .ok (.iadd, 1) ∧ okop dsL_law_2624 9 = true) ∧ (decode dsL_law_2624 10 = .ok (.iaload, 1) ∧ okop dsL_law_2624 10 = true) ∧ (decode dsL_law_2624 11 = .ok (.aload_n 3, 1) ∧ okop dsL_law_2624 11 = true) := by decide +kernel
theorem dL_law_2624 : decode cL_law 2624 = .ok (.iload 5, 2) := dgq (p := 0) daL_law_2624 dbL_law_2624.1
theorem dL_law_2626 : decode cL_law 2626 = .ok (.iconst 1, 1) := dgq (p := 2) daL_law_2624 dbL_law_2624.2.1
theorem dL_law_2627 : decode cL_law 2627 = .ok (.iadd, 1) := dgq (p := 3) daL_law_2624 dbL_law_2624.2.2.1
theorem dL_law_2628 : decode cL_law 2628 = .ok (.iaload, 1) := dgq (p := 4) daL_law_2624 dbL_law_2624.2.2.2.1
theorem dL_law_2629 : decode cL_law 2629 = .ok (.aload_n 0, 1) := dgq (p := 5) daL_law_2624 dbL_law_2624.2.2.2.2.1
theorem dL_law_2630 : decode cL_law 2630 = .ok (.iload 5, 2) := dgq (p := 6) daL_law_2624 dbL_law_2624.2.2.2.2.2.1
theorem dL_law_2632 : decode cL_law 2632 = .ok (.iconst 2, 1) := dgq (p := 8) daL_law_2624 dbL_law_2624.2.2.2.2.2.2.1
theorem dL_law_2633 : decode cL_law 2633 = .ok (.iadd, 1) := dgq (p := 9) daL_law_2624 dbL_law_2624.2.2.2.2.2.2.2.1
theorem dL_law_2634 : decode cL_law 2634 = .ok (.iaload, 1) := dgq (p := 10) daL_law_2624 dbL_law_2624.2.2.2.2.2.2.2.2.1
theorem dL_law_2635 : decode cL_law 2635 = .ok (.aload_n 3, 1) := dgq (p := 11) daL_law_2624 dbL_law_2624.2.2.2.2.2.2.2.2.2
def dsL_law_2636 : ByteArray := ⟨#[184, 1, 139, 54, 6, 44, 42, 21, 5, 4, 96, 46, 42, 21, 5]⟩
theorem daL_law_2636 : agB cL_law dsL_law_2636 2636 := agB_of (n := 15) (by decide +kernel)
theorem dbL_law_2636 : (decode dsL_law_2636 0 = .ok (.invokestatic 395, 3) ∧ okop dsL_law_2636 0 = true) ∧ (decode dsL_law_2636 3 = .ok (.istore 6, 2) ∧ okop dsL_law_2636 3 = true) ∧ (decode dsL_law_2636 5 = .ok (.aload_n 2, 1) ∧ okop dsL_law_2636 5 = true) ∧ (decode dsL_law_2636 6 = .ok (.aload_n 0, 1) ∧ okop dsL_law_2636 6 = true) ∧ (decode dsL_law_2636 7 = .ok (.iload 5, 2) ∧ okop dsL_law_2636 7 = true) ∧ (decode dsL_law_2636 9 = .ok (.iconst 1, 1) ∧ okop dsL_law_2636 9 = true) ∧ (decode dsL_law_2636 10 = .ok (.iadd, 1) ∧ okop dsL_law_2636 10 = true) ∧ (decode dsL_law_2636 11 = .ok (.iaload, 1) ∧ okop dsL_law_2636 11 = true) ∧ (decode dsL_law_2636 12 = .ok (.aload_n 0, 1) ∧ okop dsL_law_2636 12 = true) ∧ (decode dsL_law_2636 13 = .ok (.iload 5, 2) ∧ okop dsL_law_2636 13 = true) := by decide +kernel
theorem dL_law_2636 : decode cL_law 2636 = .ok (.invokestatic 395, 3) := dgq (p := 0) daL_law_2636 dbL_law_2636.1
theorem dL_law_2639 : decode cL_law 2639 = .ok (.istore 6, 2) := dgq (p := 3) daL_law_2636 dbL_law_2636.2.1
theorem dL_law_2641 : decode cL_law 2641 = .ok (.aload_n 2, 1) := dgq (p := 5) daL_law_2636 dbL_law_2636.2.2.1
theorem dL_law_2642 : decode cL_law 2642 = .ok (.aload_n 0, 1) := dgq (p := 6) daL_law_2636 dbL_law_2636.2.2.2.1
theorem dL_law_2643 : decode cL_law 2643 = .ok (.iload 5, 2) := dgq (p := 7) daL_law_2636 dbL_law_2636.2.2.2.2.1
theorem dL_law_2645 : decode cL_law 2645 = .ok (.iconst 1, 1) := dgq (p := 9) daL_law_2636 dbL_law_2636.2.2.2.2.2.1
theorem dL_law_2646 : decode cL_law 2646 = .ok (.iadd, 1) := dgq (p := 10) daL_law_2636 dbL_law_2636.2.2.2.2.2.2.1
theorem dL_law_2647 : decode cL_law 2647 = .ok (.iaload, 1) := dgq (p := 11) daL_law_2636 dbL_law_2636.2.2.2.2.2.2.2.1
theorem dL_law_2648 : decode cL_law 2648 = .ok (.aload_n 0, 1) := dgq (p := 12) daL_law_2636 dbL_law_2636.2.2.2.2.2.2.2.2.1
theorem dL_law_2649 : decode cL_law 2649 = .ok (.iload 5, 2) := dgq (p := 13) daL_law_2636 dbL_law_2636.2.2.2.2.2.2.2.2.2
def dsL_law_2651 : ByteArray := ⟨#[5, 96, 46, 182, 1, 141, 54, 7, 167, 1, 9, 43, 42, 21, 5, 4]⟩
theorem daL_law_2651 : agB cL_law dsL_law_2651 2651 := agB_of (n := 16) (by decide +kernel)
theorem dbL_law_2651 : (decode dsL_law_2651 0 = .ok (.iconst 2, 1) ∧ okop dsL_law_2651 0 = true) ∧ (decode dsL_law_2651 1 = .ok (.iadd, 1) ∧ okop dsL_law_2651 1 = true) ∧ (decode dsL_law_2651 2 = .ok (.iaload, 1) ∧ okop dsL_law_2651 2 = true) ∧ (decode dsL_law_2651 3 = .ok (.invokevirtual 397, 3) ∧ okop dsL_law_2651 3 = true) ∧ (decode dsL_law_2651 6 = .ok (.istore 7, 2) ∧ okop dsL_law_2651 6 = true) ∧ (decode dsL_law_2651 8 = .ok (.goto 265, 3) ∧ okop dsL_law_2651 8 = true) ∧ (decode dsL_law_2651 11 = .ok (.aload_n 1, 1) ∧ okop dsL_law_2651 11 = true) ∧ (decode dsL_law_2651 12 = .ok (.aload_n 0, 1) ∧ okop dsL_law_2651 12 = true) ∧ (decode dsL_law_2651 13 = .ok (.iload 5, 2) ∧ okop dsL_law_2651 13 = true) ∧ (decode dsL_law_2651 15 = .ok (.iconst 1, 1) ∧ okop dsL_law_2651 15 = true) := by decide +kernel
theorem dL_law_2651 : decode cL_law 2651 = .ok (.iconst 2, 1) := dgq (p := 0) daL_law_2651 dbL_law_2651.1
theorem dL_law_2652 : decode cL_law 2652 = .ok (.iadd, 1) := dgq (p := 1) daL_law_2651 dbL_law_2651.2.1
theorem dL_law_2653 : decode cL_law 2653 = .ok (.iaload, 1) := dgq (p := 2) daL_law_2651 dbL_law_2651.2.2.1
theorem dL_law_2654 : decode cL_law 2654 = .ok (.invokevirtual 397, 3) := dgq (p := 3) daL_law_2651 dbL_law_2651.2.2.2.1
theorem dL_law_2657 : decode cL_law 2657 = .ok (.istore 7, 2) := dgq (p := 6) daL_law_2651 dbL_law_2651.2.2.2.2.1
theorem dL_law_2659 : decode cL_law 2659 = .ok (.goto 265, 3) := dgq (p := 8) daL_law_2651 dbL_law_2651.2.2.2.2.2.1
theorem dL_law_2662 : decode cL_law 2662 = .ok (.aload_n 1, 1) := dgq (p := 11) daL_law_2651 dbL_law_2651.2.2.2.2.2.2.1
theorem dL_law_2663 : decode cL_law 2663 = .ok (.aload_n 0, 1) := dgq (p := 12) daL_law_2651 dbL_law_2651.2.2.2.2.2.2.2.1
theorem dL_law_2664 : decode cL_law 2664 = .ok (.iload 5, 2) := dgq (p := 13) daL_law_2651 dbL_law_2651.2.2.2.2.2.2.2.2.1
theorem dL_law_2666 : decode cL_law 2666 = .ok (.iconst 1, 1) := dgq (p := 15) daL_law_2651 dbL_law_2651.2.2.2.2.2.2.2.2.2
def dsL_law_2667 : ByteArray := ⟨#[96, 46, 42, 21, 5, 5, 96, 46, 146, 45, 184, 1, 142]⟩
theorem daL_law_2667 : agB cL_law dsL_law_2667 2667 := agB_of (n := 13) (by decide +kernel)
theorem dbL_law_2667 : (decode dsL_law_2667 0 = .ok (.iadd, 1) ∧ okop dsL_law_2667 0 = true) ∧ (decode dsL_law_2667 1 = .ok (.iaload, 1) ∧ okop dsL_law_2667 1 = true) ∧ (decode dsL_law_2667 2 = .ok (.aload_n 0, 1) ∧ okop dsL_law_2667 2 = true) ∧ (decode dsL_law_2667 3 = .ok (.iload 5, 2) ∧ okop dsL_law_2667 3 = true) ∧ (decode dsL_law_2667 5 = .ok (.iconst 2, 1) ∧ okop dsL_law_2667 5 = true) ∧ (decode dsL_law_2667 6 = .ok (.iadd, 1) ∧ okop dsL_law_2667 6 = true) ∧ (decode dsL_law_2667 7 = .ok (.iaload, 1) ∧ okop dsL_law_2667 7 = true) ∧ (decode dsL_law_2667 8 = .ok (.i2c, 1) ∧ okop dsL_law_2667 8 = true) ∧ (decode dsL_law_2667 9 = .ok (.aload_n 3, 1) ∧ okop dsL_law_2667 9 = true) ∧ (decode dsL_law_2667 10 = .ok (.invokestatic 398, 3) ∧ okop dsL_law_2667 10 = true) := by decide +kernel
theorem dL_law_2667 : decode cL_law 2667 = .ok (.iadd, 1) := dgq (p := 0) daL_law_2667 dbL_law_2667.1
theorem dL_law_2668 : decode cL_law 2668 = .ok (.iaload, 1) := dgq (p := 1) daL_law_2667 dbL_law_2667.2.1
theorem dL_law_2669 : decode cL_law 2669 = .ok (.aload_n 0, 1) := dgq (p := 2) daL_law_2667 dbL_law_2667.2.2.1
theorem dL_law_2670 : decode cL_law 2670 = .ok (.iload 5, 2) := dgq (p := 3) daL_law_2667 dbL_law_2667.2.2.2.1
theorem dL_law_2672 : decode cL_law 2672 = .ok (.iconst 2, 1) := dgq (p := 5) daL_law_2667 dbL_law_2667.2.2.2.2.1
theorem dL_law_2673 : decode cL_law 2673 = .ok (.iadd, 1) := dgq (p := 6) daL_law_2667 dbL_law_2667.2.2.2.2.2.1
theorem dL_law_2674 : decode cL_law 2674 = .ok (.iaload, 1) := dgq (p := 7) daL_law_2667 dbL_law_2667.2.2.2.2.2.2.1
theorem dL_law_2675 : decode cL_law 2675 = .ok (.i2c, 1) := dgq (p := 8) daL_law_2667 dbL_law_2667.2.2.2.2.2.2.2.1
theorem dL_law_2676 : decode cL_law 2676 = .ok (.aload_n 3, 1) := dgq (p := 9) daL_law_2667 dbL_law_2667.2.2.2.2.2.2.2.2.1
theorem dL_law_2677 : decode cL_law 2677 = .ok (.invokestatic 398, 3) := dgq (p := 10) daL_law_2667 dbL_law_2667.2.2.2.2.2.2.2.2.2
def dsL_law_2680 : ByteArray := ⟨#[54, 6, 44, 42, 21, 5, 4, 96, 46, 42, 21, 5, 5]⟩
theorem daL_law_2680 : agB cL_law dsL_law_2680 2680 := agB_of (n := 13) (by decide +kernel)
theorem dbL_law_2680 : (decode dsL_law_2680 0 = .ok (.istore 6, 2) ∧ okop dsL_law_2680 0 = true) ∧ (decode dsL_law_2680 2 = .ok (.aload_n 2, 1) ∧ okop dsL_law_2680 2 = true) ∧ (decode dsL_law_2680 3 = .ok (.aload_n 0, 1) ∧ okop dsL_law_2680 3 = true) ∧ (decode dsL_law_2680 4 = .ok (.iload 5, 2) ∧ okop dsL_law_2680 4 = true) ∧ (decode dsL_law_2680 6 = .ok (.iconst 1, 1) ∧ okop dsL_law_2680 6 = true) ∧ (decode dsL_law_2680 7 = .ok (.iadd, 1) ∧ okop dsL_law_2680 7 = true) ∧ (decode dsL_law_2680 8 = .ok (.iaload, 1) ∧ okop dsL_law_2680 8 = true) ∧ (decode dsL_law_2680 9 = .ok (.aload_n 0, 1) ∧ okop dsL_law_2680 9 = true) ∧ (decode dsL_law_2680 10 = .ok (.iload 5, 2) ∧ okop dsL_law_2680 10 = true) ∧ (decode dsL_law_2680 12 = .ok (.iconst 2, 1) ∧ okop dsL_law_2680 12 = true) := by decide +kernel
theorem dL_law_2680 : decode cL_law 2680 = .ok (.istore 6, 2) := dgq (p := 0) daL_law_2680 dbL_law_2680.1
theorem dL_law_2682 : decode cL_law 2682 = .ok (.aload_n 2, 1) := dgq (p := 2) daL_law_2680 dbL_law_2680.2.1
theorem dL_law_2683 : decode cL_law 2683 = .ok (.aload_n 0, 1) := dgq (p := 3) daL_law_2680 dbL_law_2680.2.2.1
theorem dL_law_2684 : decode cL_law 2684 = .ok (.iload 5, 2) := dgq (p := 4) daL_law_2680 dbL_law_2680.2.2.2.1
theorem dL_law_2686 : decode cL_law 2686 = .ok (.iconst 1, 1) := dgq (p := 6) daL_law_2680 dbL_law_2680.2.2.2.2.1
theorem dL_law_2687 : decode cL_law 2687 = .ok (.iadd, 1) := dgq (p := 7) daL_law_2680 dbL_law_2680.2.2.2.2.2.1
theorem dL_law_2688 : decode cL_law 2688 = .ok (.iaload, 1) := dgq (p := 8) daL_law_2680 dbL_law_2680.2.2.2.2.2.2.1
theorem dL_law_2689 : decode cL_law 2689 = .ok (.aload_n 0, 1) := dgq (p := 9) daL_law_2680 dbL_law_2680.2.2.2.2.2.2.2.1
theorem dL_law_2690 : decode cL_law 2690 = .ok (.iload 5, 2) := dgq (p := 10) daL_law_2680 dbL_law_2680.2.2.2.2.2.2.2.2.1
theorem dL_law_2692 : decode cL_law 2692 = .ok (.iconst 2, 1) := dgq (p := 12) daL_law_2680 dbL_law_2680.2.2.2.2.2.2.2.2.2
def dsL_law_2693 : ByteArray := ⟨#[96, 46, 146, 182, 1, 145, 54, 7, 167, 0, 223, 43, 42, 21, 5, 4]⟩
theorem daL_law_2693 : agB cL_law dsL_law_2693 2693 := agB_of (n := 16) (by decide +kernel)
theorem dbL_law_2693 : (decode dsL_law_2693 0 = .ok (.iadd, 1) ∧ okop dsL_law_2693 0 = true) ∧ (decode dsL_law_2693 1 = .ok (.iaload, 1) ∧ okop dsL_law_2693 1 = true) ∧ (decode dsL_law_2693 2 = .ok (.i2c, 1) ∧ okop dsL_law_2693 2 = true) ∧ (decode dsL_law_2693 3 = .ok (.invokevirtual 401, 3) ∧ okop dsL_law_2693 3 = true) ∧ (decode dsL_law_2693 6 = .ok (.istore 7, 2) ∧ okop dsL_law_2693 6 = true) ∧ (decode dsL_law_2693 8 = .ok (.goto 223, 3) ∧ okop dsL_law_2693 8 = true) ∧ (decode dsL_law_2693 11 = .ok (.aload_n 1, 1) ∧ okop dsL_law_2693 11 = true) ∧ (decode dsL_law_2693 12 = .ok (.aload_n 0, 1) ∧ okop dsL_law_2693 12 = true) ∧ (decode dsL_law_2693 13 = .ok (.iload 5, 2) ∧ okop dsL_law_2693 13 = true) ∧ (decode dsL_law_2693 15 = .ok (.iconst 1, 1) ∧ okop dsL_law_2693 15 = true) := by decide +kernel
theorem dL_law_2693 : decode cL_law 2693 = .ok (.iadd, 1) := dgq (p := 0) daL_law_2693 dbL_law_2693.1
theorem dL_law_2694 : decode cL_law 2694 = .ok (.iaload, 1) := dgq (p := 1) daL_law_2693 dbL_law_2693.2.1
theorem dL_law_2695 : decode cL_law 2695 = .ok (.i2c, 1) := dgq (p := 2) daL_law_2693 dbL_law_2693.2.2.1
theorem dL_law_2696 : decode cL_law 2696 = .ok (.invokevirtual 401, 3) := dgq (p := 3) daL_law_2693 dbL_law_2693.2.2.2.1
theorem dL_law_2699 : decode cL_law 2699 = .ok (.istore 7, 2) := dgq (p := 6) daL_law_2693 dbL_law_2693.2.2.2.2.1
theorem dL_law_2701 : decode cL_law 2701 = .ok (.goto 223, 3) := dgq (p := 8) daL_law_2693 dbL_law_2693.2.2.2.2.2.1
theorem dL_law_2704 : decode cL_law 2704 = .ok (.aload_n 1, 1) := dgq (p := 11) daL_law_2693 dbL_law_2693.2.2.2.2.2.2.1
theorem dL_law_2705 : decode cL_law 2705 = .ok (.aload_n 0, 1) := dgq (p := 12) daL_law_2693 dbL_law_2693.2.2.2.2.2.2.2.1
theorem dL_law_2706 : decode cL_law 2706 = .ok (.iload 5, 2) := dgq (p := 13) daL_law_2693 dbL_law_2693.2.2.2.2.2.2.2.2.1
theorem dL_law_2708 : decode cL_law 2708 = .ok (.iconst 1, 1) := dgq (p := 15) daL_law_2693 dbL_law_2693.2.2.2.2.2.2.2.2.2
def dsL_law_2709 : ByteArray := ⟨#[96, 46, 45, 184, 1, 146, 54, 6, 44, 42, 21, 5, 4, 96]⟩
theorem daL_law_2709 : agB cL_law dsL_law_2709 2709 := agB_of (n := 14) (by decide +kernel)
theorem dbL_law_2709 : (decode dsL_law_2709 0 = .ok (.iadd, 1) ∧ okop dsL_law_2709 0 = true) ∧ (decode dsL_law_2709 1 = .ok (.iaload, 1) ∧ okop dsL_law_2709 1 = true) ∧ (decode dsL_law_2709 2 = .ok (.aload_n 3, 1) ∧ okop dsL_law_2709 2 = true) ∧ (decode dsL_law_2709 3 = .ok (.invokestatic 402, 3) ∧ okop dsL_law_2709 3 = true) ∧ (decode dsL_law_2709 6 = .ok (.istore 6, 2) ∧ okop dsL_law_2709 6 = true) ∧ (decode dsL_law_2709 8 = .ok (.aload_n 2, 1) ∧ okop dsL_law_2709 8 = true) ∧ (decode dsL_law_2709 9 = .ok (.aload_n 0, 1) ∧ okop dsL_law_2709 9 = true) ∧ (decode dsL_law_2709 10 = .ok (.iload 5, 2) ∧ okop dsL_law_2709 10 = true) ∧ (decode dsL_law_2709 12 = .ok (.iconst 1, 1) ∧ okop dsL_law_2709 12 = true) ∧ (decode dsL_law_2709 13 = .ok (.iadd, 1) ∧ okop dsL_law_2709 13 = true) := by decide +kernel
theorem dL_law_2709 : decode cL_law 2709 = .ok (.iadd, 1) := dgq (p := 0) daL_law_2709 dbL_law_2709.1
theorem dL_law_2710 : decode cL_law 2710 = .ok (.iaload, 1) := dgq (p := 1) daL_law_2709 dbL_law_2709.2.1
theorem dL_law_2711 : decode cL_law 2711 = .ok (.aload_n 3, 1) := dgq (p := 2) daL_law_2709 dbL_law_2709.2.2.1
theorem dL_law_2712 : decode cL_law 2712 = .ok (.invokestatic 402, 3) := dgq (p := 3) daL_law_2709 dbL_law_2709.2.2.2.1
theorem dL_law_2715 : decode cL_law 2715 = .ok (.istore 6, 2) := dgq (p := 6) daL_law_2709 dbL_law_2709.2.2.2.2.1
theorem dL_law_2717 : decode cL_law 2717 = .ok (.aload_n 2, 1) := dgq (p := 8) daL_law_2709 dbL_law_2709.2.2.2.2.2.1
theorem dL_law_2718 : decode cL_law 2718 = .ok (.aload_n 0, 1) := dgq (p := 9) daL_law_2709 dbL_law_2709.2.2.2.2.2.2.1
theorem dL_law_2719 : decode cL_law 2719 = .ok (.iload 5, 2) := dgq (p := 10) daL_law_2709 dbL_law_2709.2.2.2.2.2.2.2.1
theorem dL_law_2721 : decode cL_law 2721 = .ok (.iconst 1, 1) := dgq (p := 12) daL_law_2709 dbL_law_2709.2.2.2.2.2.2.2.2.1
theorem dL_law_2722 : decode cL_law 2722 = .ok (.iadd, 1) := dgq (p := 13) daL_law_2709 dbL_law_2709.2.2.2.2.2.2.2.2.2
def dsL_law_2723 : ByteArray := ⟨#[46, 182, 1, 148, 54, 7, 44, 182, 1, 149, 21, 6, 159, 0, 5, 3, 172, 21, 6]⟩
theorem daL_law_2723 : agB cL_law dsL_law_2723 2723 := agB_of (n := 19) (by decide +kernel)
theorem dbL_law_2723 : (decode dsL_law_2723 0 = .ok (.iaload, 1) ∧ okop dsL_law_2723 0 = true) ∧ (decode dsL_law_2723 1 = .ok (.invokevirtual 404, 3) ∧ okop dsL_law_2723 1 = true) ∧ (decode dsL_law_2723 4 = .ok (.istore 7, 2) ∧ okop dsL_law_2723 4 = true) ∧ (decode dsL_law_2723 6 = .ok (.aload_n 2, 1) ∧ okop dsL_law_2723 6 = true) ∧ (decode dsL_law_2723 7 = .ok (.invokevirtual 405, 3) ∧ okop dsL_law_2723 7 = true) ∧ (decode dsL_law_2723 10 = .ok (.iload 6, 2) ∧ okop dsL_law_2723 10 = true) ∧ (decode dsL_law_2723 12 = .ok (.if_icmp .eq 5, 3) ∧ okop dsL_law_2723 12 = true) ∧ (decode dsL_law_2723 15 = .ok (.iconst 0, 1) ∧ okop dsL_law_2723 15 = true) ∧ (decode dsL_law_2723 16 = .ok (.ireturn, 1) ∧ okop dsL_law_2723 16 = true) ∧ (decode dsL_law_2723 17 = .ok (.iload 6, 2) ∧ okop dsL_law_2723 17 = true) := by decide +kernel
theorem dL_law_2723 : decode cL_law 2723 = .ok (.iaload, 1) := dgq (p := 0) daL_law_2723 dbL_law_2723.1
theorem dL_law_2724 : decode cL_law 2724 = .ok (.invokevirtual 404, 3) := dgq (p := 1) daL_law_2723 dbL_law_2723.2.1
theorem dL_law_2727 : decode cL_law 2727 = .ok (.istore 7, 2) := dgq (p := 4) daL_law_2723 dbL_law_2723.2.2.1
theorem dL_law_2729 : decode cL_law 2729 = .ok (.aload_n 2, 1) := dgq (p := 6) daL_law_2723 dbL_law_2723.2.2.2.1
theorem dL_law_2730 : decode cL_law 2730 = .ok (.invokevirtual 405, 3) := dgq (p := 7) daL_law_2723 dbL_law_2723.2.2.2.2.1
theorem dL_law_2733 : decode cL_law 2733 = .ok (.iload 6, 2) := dgq (p := 10) daL_law_2723 dbL_law_2723.2.2.2.2.2.1
theorem dL_law_2735 : decode cL_law 2735 = .ok (.if_icmp .eq 5, 3) := dgq (p := 12) daL_law_2723 dbL_law_2723.2.2.2.2.2.2.1
theorem dL_law_2738 : decode cL_law 2738 = .ok (.iconst 0, 1) := dgq (p := 15) daL_law_2723 dbL_law_2723.2.2.2.2.2.2.2.1
theorem dL_law_2739 : decode cL_law 2739 = .ok (.ireturn, 1) := dgq (p := 16) daL_law_2723 dbL_law_2723.2.2.2.2.2.2.2.2.1
theorem dL_law_2740 : decode cL_law 2740 = .ok (.iload 6, 2) := dgq (p := 17) daL_law_2723 dbL_law_2723.2.2.2.2.2.2.2.2.2
def dsL_law_2742 : ByteArray := ⟨#[154, 0, 15, 45, 3, 47, 21, 7, 133, 148, 153, 0, 5, 3, 172]⟩
theorem daL_law_2742 : agB cL_law dsL_law_2742 2742 := agB_of (n := 15) (by decide +kernel)
theorem dbL_law_2742 : (decode dsL_law_2742 0 = .ok (.ifCond .ne 15, 3) ∧ okop dsL_law_2742 0 = true) ∧ (decode dsL_law_2742 3 = .ok (.aload_n 3, 1) ∧ okop dsL_law_2742 3 = true) ∧ (decode dsL_law_2742 4 = .ok (.iconst 0, 1) ∧ okop dsL_law_2742 4 = true) ∧ (decode dsL_law_2742 5 = .ok (.laload, 1) ∧ okop dsL_law_2742 5 = true) ∧ (decode dsL_law_2742 6 = .ok (.iload 7, 2) ∧ okop dsL_law_2742 6 = true) ∧ (decode dsL_law_2742 8 = .ok (.i2l, 1) ∧ okop dsL_law_2742 8 = true) ∧ (decode dsL_law_2742 9 = .ok (.lcmp, 1) ∧ okop dsL_law_2742 9 = true) ∧ (decode dsL_law_2742 10 = .ok (.ifCond .eq 5, 3) ∧ okop dsL_law_2742 10 = true) ∧ (decode dsL_law_2742 13 = .ok (.iconst 0, 1) ∧ okop dsL_law_2742 13 = true) ∧ (decode dsL_law_2742 14 = .ok (.ireturn, 1) ∧ okop dsL_law_2742 14 = true) := by decide +kernel
theorem dL_law_2742 : decode cL_law 2742 = .ok (.ifCond .ne 15, 3) := dgq (p := 0) daL_law_2742 dbL_law_2742.1
theorem dL_law_2745 : decode cL_law 2745 = .ok (.aload_n 3, 1) := dgq (p := 3) daL_law_2742 dbL_law_2742.2.1
theorem dL_law_2746 : decode cL_law 2746 = .ok (.iconst 0, 1) := dgq (p := 4) daL_law_2742 dbL_law_2742.2.2.1
theorem dL_law_2747 : decode cL_law 2747 = .ok (.laload, 1) := dgq (p := 5) daL_law_2742 dbL_law_2742.2.2.2.1
theorem dL_law_2748 : decode cL_law 2748 = .ok (.iload 7, 2) := dgq (p := 6) daL_law_2742 dbL_law_2742.2.2.2.2.1
theorem dL_law_2750 : decode cL_law 2750 = .ok (.i2l, 1) := dgq (p := 8) daL_law_2742 dbL_law_2742.2.2.2.2.2.1
theorem dL_law_2751 : decode cL_law 2751 = .ok (.lcmp, 1) := dgq (p := 9) daL_law_2742 dbL_law_2742.2.2.2.2.2.2.1
theorem dL_law_2752 : decode cL_law 2752 = .ok (.ifCond .eq 5, 3) := dgq (p := 10) daL_law_2742 dbL_law_2742.2.2.2.2.2.2.2.1
theorem dL_law_2755 : decode cL_law 2755 = .ok (.iconst 0, 1) := dgq (p := 13) daL_law_2742 dbL_law_2742.2.2.2.2.2.2.2.2.1
theorem dL_law_2756 : decode cL_law 2756 = .ok (.ireturn, 1) := dgq (p := 14) daL_law_2742 dbL_law_2742.2.2.2.2.2.2.2.2.2
def dsL_law_2757 : ByteArray := ⟨#[167, 0, 167, 43, 42, 21, 5, 4, 96, 46, 42, 21, 5, 5]⟩
theorem daL_law_2757 : agB cL_law dsL_law_2757 2757 := agB_of (n := 14) (by decide +kernel)
theorem dbL_law_2757 : (decode dsL_law_2757 0 = .ok (.goto 167, 3) ∧ okop dsL_law_2757 0 = true) ∧ (decode dsL_law_2757 3 = .ok (.aload_n 1, 1) ∧ okop dsL_law_2757 3 = true) ∧ (decode dsL_law_2757 4 = .ok (.aload_n 0, 1) ∧ okop dsL_law_2757 4 = true) ∧ (decode dsL_law_2757 5 = .ok (.iload 5, 2) ∧ okop dsL_law_2757 5 = true) ∧ (decode dsL_law_2757 7 = .ok (.iconst 1, 1) ∧ okop dsL_law_2757 7 = true) ∧ (decode dsL_law_2757 8 = .ok (.iadd, 1) ∧ okop dsL_law_2757 8 = true) ∧ (decode dsL_law_2757 9 = .ok (.iaload, 1) ∧ okop dsL_law_2757 9 = true) ∧ (decode dsL_law_2757 10 = .ok (.aload_n 0, 1) ∧ okop dsL_law_2757 10 = true) ∧ (decode dsL_law_2757 11 = .ok (.iload 5, 2) ∧ okop dsL_law_2757 11 = true) ∧ (decode dsL_law_2757 13 = .ok (.iconst 2, 1) ∧ okop dsL_law_2757 13 = true) := by decide +kernel
theorem dL_law_2757 : decode cL_law 2757 = .ok (.goto 167, 3) := dgq (p := 0) daL_law_2757 dbL_law_2757.1
theorem dL_law_2760 : decode cL_law 2760 = .ok (.aload_n 1, 1) := dgq (p := 3) daL_law_2757 dbL_law_2757.2.1
theorem dL_law_2761 : decode cL_law 2761 = .ok (.aload_n 0, 1) := dgq (p := 4) daL_law_2757 dbL_law_2757.2.2.1
theorem dL_law_2762 : decode cL_law 2762 = .ok (.iload 5, 2) := dgq (p := 5) daL_law_2757 dbL_law_2757.2.2.2.1
theorem dL_law_2764 : decode cL_law 2764 = .ok (.iconst 1, 1) := dgq (p := 7) daL_law_2757 dbL_law_2757.2.2.2.2.1
theorem dL_law_2765 : decode cL_law 2765 = .ok (.iadd, 1) := dgq (p := 8) daL_law_2757 dbL_law_2757.2.2.2.2.2.1
theorem dL_law_2766 : decode cL_law 2766 = .ok (.iaload, 1) := dgq (p := 9) daL_law_2757 dbL_law_2757.2.2.2.2.2.2.1
theorem dL_law_2767 : decode cL_law 2767 = .ok (.aload_n 0, 1) := dgq (p := 10) daL_law_2757 dbL_law_2757.2.2.2.2.2.2.2.1
theorem dL_law_2768 : decode cL_law 2768 = .ok (.iload 5, 2) := dgq (p := 11) daL_law_2757 dbL_law_2757.2.2.2.2.2.2.2.2.1
theorem dL_law_2770 : decode cL_law 2770 = .ok (.iconst 2, 1) := dgq (p := 13) daL_law_2757 dbL_law_2757.2.2.2.2.2.2.2.2.2
def dsL_law_2771 : ByteArray := ⟨#[96, 46, 42, 21, 5, 6, 96, 46, 45, 184, 1, 153, 54, 6]⟩
theorem daL_law_2771 : agB cL_law dsL_law_2771 2771 := agB_of (n := 14) (by decide +kernel)
theorem dbL_law_2771 : (decode dsL_law_2771 0 = .ok (.iadd, 1) ∧ okop dsL_law_2771 0 = true) ∧ (decode dsL_law_2771 1 = .ok (.iaload, 1) ∧ okop dsL_law_2771 1 = true) ∧ (decode dsL_law_2771 2 = .ok (.aload_n 0, 1) ∧ okop dsL_law_2771 2 = true) ∧ (decode dsL_law_2771 3 = .ok (.iload 5, 2) ∧ okop dsL_law_2771 3 = true) ∧ (decode dsL_law_2771 5 = .ok (.iconst 3, 1) ∧ okop dsL_law_2771 5 = true) ∧ (decode dsL_law_2771 6 = .ok (.iadd, 1) ∧ okop dsL_law_2771 6 = true) ∧ (decode dsL_law_2771 7 = .ok (.iaload, 1) ∧ okop dsL_law_2771 7 = true) ∧ (decode dsL_law_2771 8 = .ok (.aload_n 3, 1) ∧ okop dsL_law_2771 8 = true) ∧ (decode dsL_law_2771 9 = .ok (.invokestatic 409, 3) ∧ okop dsL_law_2771 9 = true) ∧ (decode dsL_law_2771 12 = .ok (.istore 6, 2) ∧ okop dsL_law_2771 12 = true) := by decide +kernel
theorem dL_law_2771 : decode cL_law 2771 = .ok (.iadd, 1) := dgq (p := 0) daL_law_2771 dbL_law_2771.1
theorem dL_law_2772 : decode cL_law 2772 = .ok (.iaload, 1) := dgq (p := 1) daL_law_2771 dbL_law_2771.2.1
theorem dL_law_2773 : decode cL_law 2773 = .ok (.aload_n 0, 1) := dgq (p := 2) daL_law_2771 dbL_law_2771.2.2.1
theorem dL_law_2774 : decode cL_law 2774 = .ok (.iload 5, 2) := dgq (p := 3) daL_law_2771 dbL_law_2771.2.2.2.1
theorem dL_law_2776 : decode cL_law 2776 = .ok (.iconst 3, 1) := dgq (p := 5) daL_law_2771 dbL_law_2771.2.2.2.2.1
theorem dL_law_2777 : decode cL_law 2777 = .ok (.iadd, 1) := dgq (p := 6) daL_law_2771 dbL_law_2771.2.2.2.2.2.1
theorem dL_law_2778 : decode cL_law 2778 = .ok (.iaload, 1) := dgq (p := 7) daL_law_2771 dbL_law_2771.2.2.2.2.2.2.1
theorem dL_law_2779 : decode cL_law 2779 = .ok (.aload_n 3, 1) := dgq (p := 8) daL_law_2771 dbL_law_2771.2.2.2.2.2.2.2.1
theorem dL_law_2780 : decode cL_law 2780 = .ok (.invokestatic 409, 3) := dgq (p := 9) daL_law_2771 dbL_law_2771.2.2.2.2.2.2.2.2.1
theorem dL_law_2783 : decode cL_law 2783 = .ok (.istore 6, 2) := dgq (p := 12) daL_law_2771 dbL_law_2771.2.2.2.2.2.2.2.2.2
def dsL_law_2785 : ByteArray := ⟨#[44, 42, 21, 5, 4, 96, 46, 42, 21, 5, 5, 96]⟩
theorem daL_law_2785 : agB cL_law dsL_law_2785 2785 := agB_of (n := 12) (by decide +kernel)
theorem dbL_law_2785 : (decode dsL_law_2785 0 = .ok (.aload_n 2, 1) ∧ okop dsL_law_2785 0 = true) ∧ (decode dsL_law_2785 1 = .ok (.aload_n 0, 1) ∧ okop dsL_law_2785 1 = true) ∧ (decode dsL_law_2785 2 = .ok (.iload 5, 2) ∧ okop dsL_law_2785 2 = true) ∧ (decode dsL_law_2785 4 = .ok (.iconst 1, 1) ∧ okop dsL_law_2785 4 = true) ∧ (decode dsL_law_2785 5 = .ok (.iadd, 1) ∧ okop dsL_law_2785 5 = true) ∧ (decode dsL_law_2785 6 = .ok (.iaload, 1) ∧ okop dsL_law_2785 6 = true) ∧ (decode dsL_law_2785 7 = .ok (.aload_n 0, 1) ∧ okop dsL_law_2785 7 = true) ∧ (decode dsL_law_2785 8 = .ok (.iload 5, 2) ∧ okop dsL_law_2785 8 = true) ∧ (decode dsL_law_2785 10 = .ok (.iconst 2, 1) ∧ okop dsL_law_2785 10 = true) ∧ (decode dsL_law_2785 11 = .ok (.iadd, 1) ∧ okop dsL_law_2785 11 = true) := by decide +kernel
theorem dL_law_2785 : decode cL_law 2785 = .ok (.aload_n 2, 1) := dgq (p := 0) daL_law_2785 dbL_law_2785.1
theorem dL_law_2786 : decode cL_law 2786 = .ok (.aload_n 0, 1) := dgq (p := 1) daL_law_2785 dbL_law_2785.2.1
theorem dL_law_2787 : decode cL_law 2787 = .ok (.iload 5, 2) := dgq (p := 2) daL_law_2785 dbL_law_2785.2.2.1
theorem dL_law_2789 : decode cL_law 2789 = .ok (.iconst 1, 1) := dgq (p := 4) daL_law_2785 dbL_law_2785.2.2.2.1
theorem dL_law_2790 : decode cL_law 2790 = .ok (.iadd, 1) := dgq (p := 5) daL_law_2785 dbL_law_2785.2.2.2.2.1
theorem dL_law_2791 : decode cL_law 2791 = .ok (.iaload, 1) := dgq (p := 6) daL_law_2785 dbL_law_2785.2.2.2.2.2.1
theorem dL_law_2792 : decode cL_law 2792 = .ok (.aload_n 0, 1) := dgq (p := 7) daL_law_2785 dbL_law_2785.2.2.2.2.2.2.1
theorem dL_law_2793 : decode cL_law 2793 = .ok (.iload 5, 2) := dgq (p := 8) daL_law_2785 dbL_law_2785.2.2.2.2.2.2.2.1
theorem dL_law_2795 : decode cL_law 2795 = .ok (.iconst 2, 1) := dgq (p := 10) daL_law_2785 dbL_law_2785.2.2.2.2.2.2.2.2.1
theorem dL_law_2796 : decode cL_law 2796 = .ok (.iadd, 1) := dgq (p := 11) daL_law_2785 dbL_law_2785.2.2.2.2.2.2.2.2.2
def dsL_law_2797 : ByteArray := ⟨#[46, 42, 21, 5, 6, 96, 46, 182, 1, 155, 54, 7, 167, 0, 115, 43]⟩
theorem daL_law_2797 : agB cL_law dsL_law_2797 2797 := agB_of (n := 16) (by decide +kernel)
theorem dbL_law_2797 : (decode dsL_law_2797 0 = .ok (.iaload, 1) ∧ okop dsL_law_2797 0 = true) ∧ (decode dsL_law_2797 1 = .ok (.aload_n 0, 1) ∧ okop dsL_law_2797 1 = true) ∧ (decode dsL_law_2797 2 = .ok (.iload 5, 2) ∧ okop dsL_law_2797 2 = true) ∧ (decode dsL_law_2797 4 = .ok (.iconst 3, 1) ∧ okop dsL_law_2797 4 = true) ∧ (decode dsL_law_2797 5 = .ok (.iadd, 1) ∧ okop dsL_law_2797 5 = true) ∧ (decode dsL_law_2797 6 = .ok (.iaload, 1) ∧ okop dsL_law_2797 6 = true) ∧ (decode dsL_law_2797 7 = .ok (.invokevirtual 411, 3) ∧ okop dsL_law_2797 7 = true) ∧ (decode dsL_law_2797 10 = .ok (.istore 7, 2) ∧ okop dsL_law_2797 10 = true) ∧ (decode dsL_law_2797 12 = .ok (.goto 115, 3) ∧ okop dsL_law_2797 12 = true) ∧ (decode dsL_law_2797 15 = .ok (.aload_n 1, 1) ∧ okop dsL_law_2797 15 = true) := by decide +kernel
theorem dL_law_2797 : decode cL_law 2797 = .ok (.iaload, 1) := dgq (p := 0) daL_law_2797 dbL_law_2797.1
theorem dL_law_2798 : decode cL_law 2798 = .ok (.aload_n 0, 1) := dgq (p := 1) daL_law_2797 dbL_law_2797.2.1
theorem dL_law_2799 : decode cL_law 2799 = .ok (.iload 5, 2) := dgq (p := 2) daL_law_2797 dbL_law_2797.2.2.1
theorem dL_law_2801 : decode cL_law 2801 = .ok (.iconst 3, 1) := dgq (p := 4) daL_law_2797 dbL_law_2797.2.2.2.1
theorem dL_law_2802 : decode cL_law 2802 = .ok (.iadd, 1) := dgq (p := 5) daL_law_2797 dbL_law_2797.2.2.2.2.1
theorem dL_law_2803 : decode cL_law 2803 = .ok (.iaload, 1) := dgq (p := 6) daL_law_2797 dbL_law_2797.2.2.2.2.2.1
theorem dL_law_2804 : decode cL_law 2804 = .ok (.invokevirtual 411, 3) := dgq (p := 7) daL_law_2797 dbL_law_2797.2.2.2.2.2.2.1
theorem dL_law_2807 : decode cL_law 2807 = .ok (.istore 7, 2) := dgq (p := 10) daL_law_2797 dbL_law_2797.2.2.2.2.2.2.2.1
theorem dL_law_2809 : decode cL_law 2809 = .ok (.goto 115, 3) := dgq (p := 12) daL_law_2797 dbL_law_2797.2.2.2.2.2.2.2.2.1
theorem dL_law_2812 : decode cL_law 2812 = .ok (.aload_n 1, 1) := dgq (p := 15) daL_law_2797 dbL_law_2797.2.2.2.2.2.2.2.2.2
def dsL_law_2813 : ByteArray := ⟨#[42, 21, 5, 4, 96, 46, 42, 21, 5, 5, 96, 46]⟩
theorem daL_law_2813 : agB cL_law dsL_law_2813 2813 := agB_of (n := 12) (by decide +kernel)
theorem dbL_law_2813 : (decode dsL_law_2813 0 = .ok (.aload_n 0, 1) ∧ okop dsL_law_2813 0 = true) ∧ (decode dsL_law_2813 1 = .ok (.iload 5, 2) ∧ okop dsL_law_2813 1 = true) ∧ (decode dsL_law_2813 3 = .ok (.iconst 1, 1) ∧ okop dsL_law_2813 3 = true) ∧ (decode dsL_law_2813 4 = .ok (.iadd, 1) ∧ okop dsL_law_2813 4 = true) ∧ (decode dsL_law_2813 5 = .ok (.iaload, 1) ∧ okop dsL_law_2813 5 = true) ∧ (decode dsL_law_2813 6 = .ok (.aload_n 0, 1) ∧ okop dsL_law_2813 6 = true) ∧ (decode dsL_law_2813 7 = .ok (.iload 5, 2) ∧ okop dsL_law_2813 7 = true) ∧ (decode dsL_law_2813 9 = .ok (.iconst 2, 1) ∧ okop dsL_law_2813 9 = true) ∧ (decode dsL_law_2813 10 = .ok (.iadd, 1) ∧ okop dsL_law_2813 10 = true) ∧ (decode dsL_law_2813 11 = .ok (.iaload, 1) ∧ okop dsL_law_2813 11 = true) := by decide +kernel
theorem dL_law_2813 : decode cL_law 2813 = .ok (.aload_n 0, 1) := dgq (p := 0) daL_law_2813 dbL_law_2813.1
theorem dL_law_2814 : decode cL_law 2814 = .ok (.iload 5, 2) := dgq (p := 1) daL_law_2813 dbL_law_2813.2.1
theorem dL_law_2816 : decode cL_law 2816 = .ok (.iconst 1, 1) := dgq (p := 3) daL_law_2813 dbL_law_2813.2.2.1
theorem dL_law_2817 : decode cL_law 2817 = .ok (.iadd, 1) := dgq (p := 4) daL_law_2813 dbL_law_2813.2.2.2.1
theorem dL_law_2818 : decode cL_law 2818 = .ok (.iaload, 1) := dgq (p := 5) daL_law_2813 dbL_law_2813.2.2.2.2.1
theorem dL_law_2819 : decode cL_law 2819 = .ok (.aload_n 0, 1) := dgq (p := 6) daL_law_2813 dbL_law_2813.2.2.2.2.2.1
theorem dL_law_2820 : decode cL_law 2820 = .ok (.iload 5, 2) := dgq (p := 7) daL_law_2813 dbL_law_2813.2.2.2.2.2.2.1
theorem dL_law_2822 : decode cL_law 2822 = .ok (.iconst 2, 1) := dgq (p := 9) daL_law_2813 dbL_law_2813.2.2.2.2.2.2.2.1
theorem dL_law_2823 : decode cL_law 2823 = .ok (.iadd, 1) := dgq (p := 10) daL_law_2813 dbL_law_2813.2.2.2.2.2.2.2.2.1
theorem dL_law_2824 : decode cL_law 2824 = .ok (.iaload, 1) := dgq (p := 11) daL_law_2813 dbL_law_2813.2.2.2.2.2.2.2.2.2
def dsL_law_2825 : ByteArray := ⟨#[42, 21, 5, 6, 96, 46, 45, 184, 1, 156, 54, 6, 44, 42]⟩
theorem daL_law_2825 : agB cL_law dsL_law_2825 2825 := agB_of (n := 14) (by decide +kernel)
theorem dbL_law_2825 : (decode dsL_law_2825 0 = .ok (.aload_n 0, 1) ∧ okop dsL_law_2825 0 = true) ∧ (decode dsL_law_2825 1 = .ok (.iload 5, 2) ∧ okop dsL_law_2825 1 = true) ∧ (decode dsL_law_2825 3 = .ok (.iconst 3, 1) ∧ okop dsL_law_2825 3 = true) ∧ (decode dsL_law_2825 4 = .ok (.iadd, 1) ∧ okop dsL_law_2825 4 = true) ∧ (decode dsL_law_2825 5 = .ok (.iaload, 1) ∧ okop dsL_law_2825 5 = true) ∧ (decode dsL_law_2825 6 = .ok (.aload_n 3, 1) ∧ okop dsL_law_2825 6 = true) ∧ (decode dsL_law_2825 7 = .ok (.invokestatic 412, 3) ∧ okop dsL_law_2825 7 = true) ∧ (decode dsL_law_2825 10 = .ok (.istore 6, 2) ∧ okop dsL_law_2825 10 = true) ∧ (decode dsL_law_2825 12 = .ok (.aload_n 2, 1) ∧ okop dsL_law_2825 12 = true) ∧ (decode dsL_law_2825 13 = .ok (.aload_n 0, 1) ∧ okop dsL_law_2825 13 = true) := by decide +kernel
theorem dL_law_2825 : decode cL_law 2825 = .ok (.aload_n 0, 1) := dgq (p := 0) daL_law_2825 dbL_law_2825.1
theorem dL_law_2826 : decode cL_law 2826 = .ok (.iload 5, 2) := dgq (p := 1) daL_law_2825 dbL_law_2825.2.1
theorem dL_law_2828 : decode cL_law 2828 = .ok (.iconst 3, 1) := dgq (p := 3) daL_law_2825 dbL_law_2825.2.2.1
theorem dL_law_2829 : decode cL_law 2829 = .ok (.iadd, 1) := dgq (p := 4) daL_law_2825 dbL_law_2825.2.2.2.1
theorem dL_law_2830 : decode cL_law 2830 = .ok (.iaload, 1) := dgq (p := 5) daL_law_2825 dbL_law_2825.2.2.2.2.1
theorem dL_law_2831 : decode cL_law 2831 = .ok (.aload_n 3, 1) := dgq (p := 6) daL_law_2825 dbL_law_2825.2.2.2.2.2.1
theorem dL_law_2832 : decode cL_law 2832 = .ok (.invokestatic 412, 3) := dgq (p := 7) daL_law_2825 dbL_law_2825.2.2.2.2.2.2.1
theorem dL_law_2835 : decode cL_law 2835 = .ok (.istore 6, 2) := dgq (p := 10) daL_law_2825 dbL_law_2825.2.2.2.2.2.2.2.1
theorem dL_law_2837 : decode cL_law 2837 = .ok (.aload_n 2, 1) := dgq (p := 12) daL_law_2825 dbL_law_2825.2.2.2.2.2.2.2.2.1
theorem dL_law_2838 : decode cL_law 2838 = .ok (.aload_n 0, 1) := dgq (p := 13) daL_law_2825 dbL_law_2825.2.2.2.2.2.2.2.2.2
def dsL_law_2839 : ByteArray := ⟨#[21, 5, 4, 96, 46, 42, 21, 5, 5, 96, 46, 42]⟩
theorem daL_law_2839 : agB cL_law dsL_law_2839 2839 := agB_of (n := 12) (by decide +kernel)
theorem dbL_law_2839 : (decode dsL_law_2839 0 = .ok (.iload 5, 2) ∧ okop dsL_law_2839 0 = true) ∧ (decode dsL_law_2839 2 = .ok (.iconst 1, 1) ∧ okop dsL_law_2839 2 = true) ∧ (decode dsL_law_2839 3 = .ok (.iadd, 1) ∧ okop dsL_law_2839 3 = true) ∧ (decode dsL_law_2839 4 = .ok (.iaload, 1) ∧ okop dsL_law_2839 4 = true) ∧ (decode dsL_law_2839 5 = .ok (.aload_n 0, 1) ∧ okop dsL_law_2839 5 = true) ∧ (decode dsL_law_2839 6 = .ok (.iload 5, 2) ∧ okop dsL_law_2839 6 = true) ∧ (decode dsL_law_2839 8 = .ok (.iconst 2, 1) ∧ okop dsL_law_2839 8 = true) ∧ (decode dsL_law_2839 9 = .ok (.iadd, 1) ∧ okop dsL_law_2839 9 = true) ∧ (decode dsL_law_2839 10 = .ok (.iaload, 1) ∧ okop dsL_law_2839 10 = true) ∧ (decode dsL_law_2839 11 = .ok (.aload_n 0, 1) ∧ okop dsL_law_2839 11 = true) := by decide +kernel
theorem dL_law_2839 : decode cL_law 2839 = .ok (.iload 5, 2) := dgq (p := 0) daL_law_2839 dbL_law_2839.1
theorem dL_law_2841 : decode cL_law 2841 = .ok (.iconst 1, 1) := dgq (p := 2) daL_law_2839 dbL_law_2839.2.1
theorem dL_law_2842 : decode cL_law 2842 = .ok (.iadd, 1) := dgq (p := 3) daL_law_2839 dbL_law_2839.2.2.1
theorem dL_law_2843 : decode cL_law 2843 = .ok (.iaload, 1) := dgq (p := 4) daL_law_2839 dbL_law_2839.2.2.2.1
theorem dL_law_2844 : decode cL_law 2844 = .ok (.aload_n 0, 1) := dgq (p := 5) daL_law_2839 dbL_law_2839.2.2.2.2.1
theorem dL_law_2845 : decode cL_law 2845 = .ok (.iload 5, 2) := dgq (p := 6) daL_law_2839 dbL_law_2839.2.2.2.2.2.1
theorem dL_law_2847 : decode cL_law 2847 = .ok (.iconst 2, 1) := dgq (p := 8) daL_law_2839 dbL_law_2839.2.2.2.2.2.2.1
theorem dL_law_2848 : decode cL_law 2848 = .ok (.iadd, 1) := dgq (p := 9) daL_law_2839 dbL_law_2839.2.2.2.2.2.2.2.1
theorem dL_law_2849 : decode cL_law 2849 = .ok (.iaload, 1) := dgq (p := 10) daL_law_2839 dbL_law_2839.2.2.2.2.2.2.2.2.1
theorem dL_law_2850 : decode cL_law 2850 = .ok (.aload_n 0, 1) := dgq (p := 11) daL_law_2839 dbL_law_2839.2.2.2.2.2.2.2.2.2
def dsL_law_2851 : ByteArray := ⟨#[21, 5, 6, 96, 46, 182, 1, 158, 54, 7, 167, 0, 63, 43, 182, 1, 159, 88]⟩
theorem daL_law_2851 : agB cL_law dsL_law_2851 2851 := agB_of (n := 18) (by decide +kernel)
theorem dbL_law_2851 : (decode dsL_law_2851 0 = .ok (.iload 5, 2) ∧ okop dsL_law_2851 0 = true) ∧ (decode dsL_law_2851 2 = .ok (.iconst 3, 1) ∧ okop dsL_law_2851 2 = true) ∧ (decode dsL_law_2851 3 = .ok (.iadd, 1) ∧ okop dsL_law_2851 3 = true) ∧ (decode dsL_law_2851 4 = .ok (.iaload, 1) ∧ okop dsL_law_2851 4 = true) ∧ (decode dsL_law_2851 5 = .ok (.invokevirtual 414, 3) ∧ okop dsL_law_2851 5 = true) ∧ (decode dsL_law_2851 8 = .ok (.istore 7, 2) ∧ okop dsL_law_2851 8 = true) ∧ (decode dsL_law_2851 10 = .ok (.goto 63, 3) ∧ okop dsL_law_2851 10 = true) ∧ (decode dsL_law_2851 13 = .ok (.aload_n 1, 1) ∧ okop dsL_law_2851 13 = true) ∧ (decode dsL_law_2851 14 = .ok (.invokevirtual 415, 3) ∧ okop dsL_law_2851 14 = true) ∧ (decode dsL_law_2851 17 = .ok (.pop2, 1) ∧ okop dsL_law_2851 17 = true) := by decide +kernel
theorem dL_law_2851 : decode cL_law 2851 = .ok (.iload 5, 2) := dgq (p := 0) daL_law_2851 dbL_law_2851.1
theorem dL_law_2853 : decode cL_law 2853 = .ok (.iconst 3, 1) := dgq (p := 2) daL_law_2851 dbL_law_2851.2.1
theorem dL_law_2854 : decode cL_law 2854 = .ok (.iadd, 1) := dgq (p := 3) daL_law_2851 dbL_law_2851.2.2.1
theorem dL_law_2855 : decode cL_law 2855 = .ok (.iaload, 1) := dgq (p := 4) daL_law_2851 dbL_law_2851.2.2.2.1
theorem dL_law_2856 : decode cL_law 2856 = .ok (.invokevirtual 414, 3) := dgq (p := 5) daL_law_2851 dbL_law_2851.2.2.2.2.1
theorem dL_law_2859 : decode cL_law 2859 = .ok (.istore 7, 2) := dgq (p := 8) daL_law_2851 dbL_law_2851.2.2.2.2.2.1
theorem dL_law_2861 : decode cL_law 2861 = .ok (.goto 63, 3) := dgq (p := 10) daL_law_2851 dbL_law_2851.2.2.2.2.2.2.1
theorem dL_law_2864 : decode cL_law 2864 = .ok (.aload_n 1, 1) := dgq (p := 13) daL_law_2851 dbL_law_2851.2.2.2.2.2.2.2.1
theorem dL_law_2865 : decode cL_law 2865 = .ok (.invokevirtual 415, 3) := dgq (p := 14) daL_law_2851 dbL_law_2851.2.2.2.2.2.2.2.2.1
theorem dL_law_2868 : decode cL_law 2868 = .ok (.pop2, 1) := dgq (p := 17) daL_law_2851 dbL_law_2851.2.2.2.2.2.2.2.2.2
def dsL_law_2869 : ByteArray := ⟨#[44, 182, 1, 163, 88, 167, 0, 50, 43, 25, 4, 184, 1, 164, 54, 6, 44, 182, 1, 167]⟩
theorem daL_law_2869 : agB cL_law dsL_law_2869 2869 := agB_of (n := 20) (by decide +kernel)
theorem dbL_law_2869 : (decode dsL_law_2869 0 = .ok (.aload_n 2, 1) ∧ okop dsL_law_2869 0 = true) ∧ (decode dsL_law_2869 1 = .ok (.invokevirtual 419, 3) ∧ okop dsL_law_2869 1 = true) ∧ (decode dsL_law_2869 4 = .ok (.pop2, 1) ∧ okop dsL_law_2869 4 = true) ∧ (decode dsL_law_2869 5 = .ok (.goto 50, 3) ∧ okop dsL_law_2869 5 = true) ∧ (decode dsL_law_2869 8 = .ok (.aload_n 1, 1) ∧ okop dsL_law_2869 8 = true) ∧ (decode dsL_law_2869 9 = .ok (.aload 4, 2) ∧ okop dsL_law_2869 9 = true) ∧ (decode dsL_law_2869 11 = .ok (.invokestatic 420, 3) ∧ okop dsL_law_2869 11 = true) ∧ (decode dsL_law_2869 14 = .ok (.istore 6, 2) ∧ okop dsL_law_2869 14 = true) ∧ (decode dsL_law_2869 16 = .ok (.aload_n 2, 1) ∧ okop dsL_law_2869 16 = true) ∧ (decode dsL_law_2869 17 = .ok (.invokevirtual 423, 3) ∧ okop dsL_law_2869 17 = true) := by decide +kernel
theorem dL_law_2869 : decode cL_law 2869 = .ok (.aload_n 2, 1) := dgq (p := 0) daL_law_2869 dbL_law_2869.1
theorem dL_law_2870 : decode cL_law 2870 = .ok (.invokevirtual 419, 3) := dgq (p := 1) daL_law_2869 dbL_law_2869.2.1
theorem dL_law_2873 : decode cL_law 2873 = .ok (.pop2, 1) := dgq (p := 4) daL_law_2869 dbL_law_2869.2.2.1
theorem dL_law_2874 : decode cL_law 2874 = .ok (.goto 50, 3) := dgq (p := 5) daL_law_2869 dbL_law_2869.2.2.2.1
theorem dL_law_2877 : decode cL_law 2877 = .ok (.aload_n 1, 1) := dgq (p := 8) daL_law_2869 dbL_law_2869.2.2.2.2.1
theorem dL_law_2878 : decode cL_law 2878 = .ok (.aload 4, 2) := dgq (p := 9) daL_law_2869 dbL_law_2869.2.2.2.2.2.1
theorem dL_law_2880 : decode cL_law 2880 = .ok (.invokestatic 420, 3) := dgq (p := 11) daL_law_2869 dbL_law_2869.2.2.2.2.2.2.1
theorem dL_law_2883 : decode cL_law 2883 = .ok (.istore 6, 2) := dgq (p := 14) daL_law_2869 dbL_law_2869.2.2.2.2.2.2.2.1
theorem dL_law_2885 : decode cL_law 2885 = .ok (.aload_n 2, 1) := dgq (p := 16) daL_law_2869 dbL_law_2869.2.2.2.2.2.2.2.2.1
theorem dL_law_2886 : decode cL_law 2886 = .ok (.invokevirtual 423, 3) := dgq (p := 17) daL_law_2869 dbL_law_2869.2.2.2.2.2.2.2.2.2
def dsL_law_2889 : ByteArray := ⟨#[56, 7, 167, 0, 33, 43, 25, 4, 184, 1, 168, 54, 6, 44, 182, 1, 170, 57, 7, 167, 0, 16]⟩
theorem daL_law_2889 : agB cL_law dsL_law_2889 2889 := agB_of (n := 22) (by decide +kernel)
theorem dbL_law_2889 : (decode dsL_law_2889 0 = .ok (.fstore 7, 2) ∧ okop dsL_law_2889 0 = true) ∧ (decode dsL_law_2889 2 = .ok (.goto 33, 3) ∧ okop dsL_law_2889 2 = true) ∧ (decode dsL_law_2889 5 = .ok (.aload_n 1, 1) ∧ okop dsL_law_2889 5 = true) ∧ (decode dsL_law_2889 6 = .ok (.aload 4, 2) ∧ okop dsL_law_2889 6 = true) ∧ (decode dsL_law_2889 8 = .ok (.invokestatic 424, 3) ∧ okop dsL_law_2889 8 = true) ∧ (decode dsL_law_2889 11 = .ok (.istore 6, 2) ∧ okop dsL_law_2889 11 = true) ∧ (decode dsL_law_2889 13 = .ok (.aload_n 2, 1) ∧ okop dsL_law_2889 13 = true) ∧ (decode dsL_law_2889 14 = .ok (.invokevirtual 426, 3) ∧ okop dsL_law_2889 14 = true) ∧ (decode dsL_law_2889 17 = .ok (.dstore 7, 2) ∧ okop dsL_law_2889 17 = true) ∧ (decode dsL_law_2889 19 = .ok (.goto 16, 3) ∧ okop dsL_law_2889 19 = true) := by decide +kernel
theorem dL_law_2889 : decode cL_law 2889 = .ok (.fstore 7, 2) := dgq (p := 0) daL_law_2889 dbL_law_2889.1
theorem dL_law_2891 : decode cL_law 2891 = .ok (.goto 33, 3) := dgq (p := 2) daL_law_2889 dbL_law_2889.2.1
theorem dL_law_2894 : decode cL_law 2894 = .ok (.aload_n 1, 1) := dgq (p := 5) daL_law_2889 dbL_law_2889.2.2.1
theorem dL_law_2895 : decode cL_law 2895 = .ok (.aload 4, 2) := dgq (p := 6) daL_law_2889 dbL_law_2889.2.2.2.1
theorem dL_law_2897 : decode cL_law 2897 = .ok (.invokestatic 424, 3) := dgq (p := 8) daL_law_2889 dbL_law_2889.2.2.2.2.1
theorem dL_law_2900 : decode cL_law 2900 = .ok (.istore 6, 2) := dgq (p := 11) daL_law_2889 dbL_law_2889.2.2.2.2.2.1
theorem dL_law_2902 : decode cL_law 2902 = .ok (.aload_n 2, 1) := dgq (p := 13) daL_law_2889 dbL_law_2889.2.2.2.2.2.2.1
theorem dL_law_2903 : decode cL_law 2903 = .ok (.invokevirtual 426, 3) := dgq (p := 14) daL_law_2889 dbL_law_2889.2.2.2.2.2.2.2.1
theorem dL_law_2906 : decode cL_law 2906 = .ok (.dstore 7, 2) := dgq (p := 17) daL_law_2889 dbL_law_2889.2.2.2.2.2.2.2.2.1
theorem dL_law_2908 : decode cL_law 2908 = .ok (.goto 16, 3) := dgq (p := 19) daL_law_2889 dbL_law_2889.2.2.2.2.2.2.2.2.2
def dsL_law_2911 : ByteArray := ⟨#[43, 182, 1, 171, 87, 44, 182, 1, 175, 87, 167, 0, 3, 132, 5, 5, 167, 244, 173, 4]⟩
theorem daL_law_2911 : agB cL_law dsL_law_2911 2911 := agB_of (n := 20) (by decide +kernel)
theorem dbL_law_2911 : (decode dsL_law_2911 0 = .ok (.aload_n 1, 1) ∧ okop dsL_law_2911 0 = true) ∧ (decode dsL_law_2911 1 = .ok (.invokevirtual 427, 3) ∧ okop dsL_law_2911 1 = true) ∧ (decode dsL_law_2911 4 = .ok (.pop, 1) ∧ okop dsL_law_2911 4 = true) ∧ (decode dsL_law_2911 5 = .ok (.aload_n 2, 1) ∧ okop dsL_law_2911 5 = true) ∧ (decode dsL_law_2911 6 = .ok (.invokevirtual 431, 3) ∧ okop dsL_law_2911 6 = true) ∧ (decode dsL_law_2911 9 = .ok (.pop, 1) ∧ okop dsL_law_2911 9 = true) ∧ (decode dsL_law_2911 10 = .ok (.goto 3, 3) ∧ okop dsL_law_2911 10 = true) ∧ (decode dsL_law_2911 13 = .ok (.iinc 5 5, 3) ∧ okop dsL_law_2911 13 = true) ∧ (decode dsL_law_2911 16 = .ok (.goto (-2899), 3) ∧ okop dsL_law_2911 16 = true) ∧ (decode dsL_law_2911 19 = .ok (.iconst 1, 1) ∧ okop dsL_law_2911 19 = true) := by decide +kernel
theorem dL_law_2911 : decode cL_law 2911 = .ok (.aload_n 1, 1) := dgq (p := 0) daL_law_2911 dbL_law_2911.1
theorem dL_law_2912 : decode cL_law 2912 = .ok (.invokevirtual 427, 3) := dgq (p := 1) daL_law_2911 dbL_law_2911.2.1
theorem dL_law_2915 : decode cL_law 2915 = .ok (.pop, 1) := dgq (p := 4) daL_law_2911 dbL_law_2911.2.2.1
theorem dL_law_2916 : decode cL_law 2916 = .ok (.aload_n 2, 1) := dgq (p := 5) daL_law_2911 dbL_law_2911.2.2.2.1
theorem dL_law_2917 : decode cL_law 2917 = .ok (.invokevirtual 431, 3) := dgq (p := 6) daL_law_2911 dbL_law_2911.2.2.2.2.1
theorem dL_law_2920 : decode cL_law 2920 = .ok (.pop, 1) := dgq (p := 9) daL_law_2911 dbL_law_2911.2.2.2.2.2.1
theorem dL_law_2921 : decode cL_law 2921 = .ok (.goto 3, 3) := dgq (p := 10) daL_law_2911 dbL_law_2911.2.2.2.2.2.2.1
theorem dL_law_2924 : decode cL_law 2924 = .ok (.iinc 5 5, 3) := dgq (p := 13) daL_law_2911 dbL_law_2911.2.2.2.2.2.2.2.1
theorem dL_law_2927 : decode cL_law 2927 = .ok (.goto (-2899), 3) := dgq (p := 16) daL_law_2911 dbL_law_2911.2.2.2.2.2.2.2.2.1
theorem dL_law_2930 : decode cL_law 2930 = .ok (.iconst 1, 1) := dgq (p := 19) daL_law_2911 dbL_law_2911.2.2.2.2.2.2.2.2.2
theorem dL_law_2931 : decode cL_law 2931 = .ok (.ireturn, 1) := by decide +kernel

