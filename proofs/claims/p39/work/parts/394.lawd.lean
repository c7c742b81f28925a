theorem zB_dL_law_1964 : zDecB code [(1964, .iadd, 1), (1965, .iaload, 1), (1966, .invokevirtual 184, 3), (1969, .pop, 1), (1970, .goto 108, 3), (1973, .aload_n 1, 1), (1974, .aload_n 0, 1), (1975, .iload_n 3, 1), (1976, .iconst 1, 1), (1977, .iadd, 1), (1978, .iaload, 1), (1979, .invokevirtual 185, 3), (1982, .pop, 1), (1983, .aload_n 2, 1), (1984, .aload_n 0, 1), (1985, .iload_n 3, 1), (1986, .iconst 1, 1), (1987, .iadd, 1), (1988, .iaload, 1), (1989, .invokevirtual 188, 3), (1992, .pop, 1), (1993, .goto 85, 3), (1996, .aload_n 1, 1), (1997, .aload_n 0, 1), (1998, .iload_n 3, 1), (1999, .iconst 1, 1), (2000, .iadd, 1), (2001, .iaload, 1), (2002, .invokevirtual 189, 3), (2005, .pop, 1), (2006, .aload_n 2, 1), (2007, .aload_n 0, 1), (2008, .iload_n 3, 1), (2009, .iconst 1, 1), (2010, .iadd, 1), (2011, .iaload, 1), (2012, .invokevirtual 192, 3), (2015, .pop, 1), (2016, .goto 62, 3), (2019, .aload_n 1, 1)] = true := by decide +kernel
theorem dL_law_1964 : decode code 1964 = .ok (.iadd, 1) := zDec_at zB_dL_law_1964 0 rfl
theorem dL_law_1965 : decode code 1965 = .ok (.iaload, 1) := zDec_at zB_dL_law_1964 1 rfl
theorem dL_law_1966 : decode code 1966 = .ok (.invokevirtual 184, 3) := zDec_at zB_dL_law_1964 2 rfl
theorem dL_law_1969 : decode code 1969 = .ok (.pop, 1) := zDec_at zB_dL_law_1964 3 rfl
theorem dL_law_1970 : decode code 1970 = .ok (.goto 108, 3) := zDec_at zB_dL_law_1964 4 rfl
theorem dL_law_1973 : decode code 1973 = .ok (.aload_n 1, 1) := zDec_at zB_dL_law_1964 5 rfl
theorem dL_law_1974 : decode code 1974 = .ok (.aload_n 0, 1) := zDec_at zB_dL_law_1964 6 rfl
theorem dL_law_1975 : decode code 1975 = .ok (.iload_n 3, 1) := zDec_at zB_dL_law_1964 7 rfl
theorem dL_law_1976 : decode code 1976 = .ok (.iconst 1, 1) := zDec_at zB_dL_law_1964 8 rfl
theorem dL_law_1977 : decode code 1977 = .ok (.iadd, 1) := zDec_at zB_dL_law_1964 9 rfl
theorem dL_law_1978 : decode code 1978 = .ok (.iaload, 1) := zDec_at zB_dL_law_1964 10 rfl
theorem dL_law_1979 : decode code 1979 = .ok (.invokevirtual 185, 3) := zDec_at zB_dL_law_1964 11 rfl
theorem dL_law_1982 : decode code 1982 = .ok (.pop, 1) := zDec_at zB_dL_law_1964 12 rfl
theorem dL_law_1983 : decode code 1983 = .ok (.aload_n 2, 1) := zDec_at zB_dL_law_1964 13 rfl
theorem dL_law_1984 : decode code 1984 = .ok (.aload_n 0, 1) := zDec_at zB_dL_law_1964 14 rfl
theorem dL_law_1985 : decode code 1985 = .ok (.iload_n 3, 1) := zDec_at zB_dL_law_1964 15 rfl
theorem dL_law_1986 : decode code 1986 = .ok (.iconst 1, 1) := zDec_at zB_dL_law_1964 16 rfl
theorem dL_law_1987 : decode code 1987 = .ok (.iadd, 1) := zDec_at zB_dL_law_1964 17 rfl
theorem dL_law_1988 : decode code 1988 = .ok (.iaload, 1) := zDec_at zB_dL_law_1964 18 rfl
theorem dL_law_1989 : decode code 1989 = .ok (.invokevirtual 188, 3) := zDec_at zB_dL_law_1964 19 rfl
theorem dL_law_1992 : decode code 1992 = .ok (.pop, 1) := zDec_at zB_dL_law_1964 20 rfl
theorem dL_law_1993 : decode code 1993 = .ok (.goto 85, 3) := zDec_at zB_dL_law_1964 21 rfl
theorem dL_law_1996 : decode code 1996 = .ok (.aload_n 1, 1) := zDec_at zB_dL_law_1964 22 rfl
theorem dL_law_1997 : decode code 1997 = .ok (.aload_n 0, 1) := zDec_at zB_dL_law_1964 23 rfl
theorem dL_law_1998 : decode code 1998 = .ok (.iload_n 3, 1) := zDec_at zB_dL_law_1964 24 rfl
theorem dL_law_1999 : decode code 1999 = .ok (.iconst 1, 1) := zDec_at zB_dL_law_1964 25 rfl
theorem dL_law_2000 : decode code 2000 = .ok (.iadd, 1) := zDec_at zB_dL_law_1964 26 rfl
theorem dL_law_2001 : decode code 2001 = .ok (.iaload, 1) := zDec_at zB_dL_law_1964 27 rfl
theorem dL_law_2002 : decode code 2002 = .ok (.invokevirtual 189, 3) := zDec_at zB_dL_law_1964 28 rfl
theorem dL_law_2005 : decode code 2005 = .ok (.pop, 1) := zDec_at zB_dL_law_1964 29 rfl
theorem dL_law_2006 : decode code 2006 = .ok (.aload_n 2, 1) := zDec_at zB_dL_law_1964 30 rfl
theorem dL_law_2007 : decode code 2007 = .ok (.aload_n 0, 1) := zDec_at zB_dL_law_1964 31 rfl
theorem dL_law_2008 : decode code 2008 = .ok (.iload_n 3, 1) := zDec_at zB_dL_law_1964 32 rfl
theorem dL_law_2009 : decode code 2009 = .ok (.iconst 1, 1) := zDec_at zB_dL_law_1964 33 rfl
theorem dL_law_2010 : decode code 2010 = .ok (.iadd, 1) := zDec_at zB_dL_law_1964 34 rfl
theorem dL_law_2011 : decode code 2011 = .ok (.iaload, 1) := zDec_at zB_dL_law_1964 35 rfl
theorem dL_law_2012 : decode code 2012 = .ok (.invokevirtual 192, 3) := zDec_at zB_dL_law_1964 36 rfl
theorem dL_law_2015 : decode code 2015 = .ok (.pop, 1) := zDec_at zB_dL_law_1964 37 rfl
theorem dL_law_2016 : decode code 2016 = .ok (.goto 62, 3) := zDec_at zB_dL_law_1964 38 rfl
theorem dL_law_2019 : decode code 2019 = .ok (.aload_n 1, 1) := zDec_at zB_dL_law_1964 39 rfl
theorem zB_dL_law_2020 : zDecB code [(2020, .aload_n 0, 1), (2021, .iload_n 3, 1), (2022, .iconst 1, 1), (2023, .iadd, 1), (2024, .iaload, 1), (2025, .invokevirtual 193, 3), (2028, .pop, 1), (2029, .aload_n 2, 1), (2030, .aload_n 0, 1), (2031, .iload_n 3, 1), (2032, .iconst 1, 1), (2033, .iadd, 1), (2034, .iaload, 1), (2035, .invokevirtual 196, 3), (2038, .pop, 1), (2039, .goto 39, 3), (2042, .aload_n 1, 1), (2043, .aload_n 0, 1), (2044, .iload_n 3, 1), (2045, .iconst 1, 1), (2046, .iadd, 1), (2047, .iaload, 1), (2048, .invokevirtual 197, 3), (2051, .pop, 1), (2052, .aload_n 2, 1), (2053, .aload_n 0, 1), (2054, .iload_n 3, 1), (2055, .iconst 1, 1), (2056, .iadd, 1), (2057, .iaload, 1), (2058, .invokevirtual 200, 3), (2061, .pop, 1), (2062, .goto 16, 3), (2065, .aload_n 1, 1), (2066, .invokevirtual 201, 3), (2069, .pop, 1), (2070, .aload_n 2, 1), (2071, .invokevirtual 204, 3), (2074, .pop, 1), (2075, .goto 3, 3)] = true := by decide +kernel
theorem dL_law_2020 : decode code 2020 = .ok (.aload_n 0, 1) := zDec_at zB_dL_law_2020 0 rfl
theorem dL_law_2021 : decode code 2021 = .ok (.iload_n 3, 1) := zDec_at zB_dL_law_2020 1 rfl
theorem dL_law_2022 : decode code 2022 = .ok (.iconst 1, 1) := zDec_at zB_dL_law_2020 2 rfl
theorem dL_law_2023 : decode code 2023 = .ok (.iadd, 1) := zDec_at zB_dL_law_2020 3 rfl
theorem dL_law_2024 : decode code 2024 = .ok (.iaload, 1) := zDec_at zB_dL_law_2020 4 rfl
theorem dL_law_2025 : decode code 2025 = .ok (.invokevirtual 193, 3) := zDec_at zB_dL_law_2020 5 rfl
theorem dL_law_2028 : decode code 2028 = .ok (.pop, 1) := zDec_at zB_dL_law_2020 6 rfl
theorem dL_law_2029 : decode code 2029 = .ok (.aload_n 2, 1) := zDec_at zB_dL_law_2020 7 rfl
theorem dL_law_2030 : decode code 2030 = .ok (.aload_n 0, 1) := zDec_at zB_dL_law_2020 8 rfl
theorem dL_law_2031 : decode code 2031 = .ok (.iload_n 3, 1) := zDec_at zB_dL_law_2020 9 rfl
theorem dL_law_2032 : decode code 2032 = .ok (.iconst 1, 1) := zDec_at zB_dL_law_2020 10 rfl
theorem dL_law_2033 : decode code 2033 = .ok (.iadd, 1) := zDec_at zB_dL_law_2020 11 rfl
theorem dL_law_2034 : decode code 2034 = .ok (.iaload, 1) := zDec_at zB_dL_law_2020 12 rfl
theorem dL_law_2035 : decode code 2035 = .ok (.invokevirtual 196, 3) := zDec_at zB_dL_law_2020 13 rfl
theorem dL_law_2038 : decode code 2038 = .ok (.pop, 1) := zDec_at zB_dL_law_2020 14 rfl
theorem dL_law_2039 : decode code 2039 = .ok (.goto 39, 3) := zDec_at zB_dL_law_2020 15 rfl
theorem dL_law_2042 : decode code 2042 = .ok (.aload_n 1, 1) := zDec_at zB_dL_law_2020 16 rfl
theorem dL_law_2043 : decode code 2043 = .ok (.aload_n 0, 1) := zDec_at zB_dL_law_2020 17 rfl
theorem dL_law_2044 : decode code 2044 = .ok (.iload_n 3, 1) := zDec_at zB_dL_law_2020 18 rfl
theorem dL_law_2045 : decode code 2045 = .ok (.iconst 1, 1) := zDec_at zB_dL_law_2020 19 rfl
theorem dL_law_2046 : decode code 2046 = .ok (.iadd, 1) := zDec_at zB_dL_law_2020 20 rfl
theorem dL_law_2047 : decode code 2047 = .ok (.iaload, 1) := zDec_at zB_dL_law_2020 21 rfl
theorem dL_law_2048 : decode code 2048 = .ok (.invokevirtual 197, 3) := zDec_at zB_dL_law_2020 22 rfl
theorem dL_law_2051 : decode code 2051 = .ok (.pop, 1) := zDec_at zB_dL_law_2020 23 rfl
theorem dL_law_2052 : decode code 2052 = .ok (.aload_n 2, 1) := zDec_at zB_dL_law_2020 24 rfl
theorem dL_law_2053 : decode code 2053 = .ok (.aload_n 0, 1) := zDec_at zB_dL_law_2020 25 rfl
theorem dL_law_2054 : decode code 2054 = .ok (.iload_n 3, 1) := zDec_at zB_dL_law_2020 26 rfl
theorem dL_law_2055 : decode code 2055 = .ok (.iconst 1, 1) := zDec_at zB_dL_law_2020 27 rfl
theorem dL_law_2056 : decode code 2056 = .ok (.iadd, 1) := zDec_at zB_dL_law_2020 28 rfl
theorem dL_law_2057 : decode code 2057 = .ok (.iaload, 1) := zDec_at zB_dL_law_2020 29 rfl
theorem dL_law_2058 : decode code 2058 = .ok (.invokevirtual 200, 3) := zDec_at zB_dL_law_2020 30 rfl
theorem dL_law_2061 : decode code 2061 = .ok (.pop, 1) := zDec_at zB_dL_law_2020 31 rfl
theorem dL_law_2062 : decode code 2062 = .ok (.goto 16, 3) := zDec_at zB_dL_law_2020 32 rfl
theorem dL_law_2065 : decode code 2065 = .ok (.aload_n 1, 1) := zDec_at zB_dL_law_2020 33 rfl
theorem dL_law_2066 : decode code 2066 = .ok (.invokevirtual 201, 3) := zDec_at zB_dL_law_2020 34 rfl
theorem dL_law_2069 : decode code 2069 = .ok (.pop, 1) := zDec_at zB_dL_law_2020 35 rfl
theorem dL_law_2070 : decode code 2070 = .ok (.aload_n 2, 1) := zDec_at zB_dL_law_2020 36 rfl
theorem dL_law_2071 : decode code 2071 = .ok (.invokevirtual 204, 3) := zDec_at zB_dL_law_2020 37 rfl
theorem dL_law_2074 : decode code 2074 = .ok (.pop, 1) := zDec_at zB_dL_law_2020 38 rfl
theorem dL_law_2075 : decode code 2075 = .ok (.goto 3, 3) := zDec_at zB_dL_law_2020 39 rfl
theorem zB_dL_law_2078 : zDecB code [(2078, .iinc 3 7, 3), (2081, .goto (-2063), 3), (2084, .iconst 1, 1), (2085, .ireturn, 1)] = true := by decide +kernel
theorem dL_law_2078 : decode code 2078 = .ok (.iinc 3 7, 3) := zDec_at zB_dL_law_2078 0 rfl
theorem dL_law_2081 : decode code 2081 = .ok (.goto (-2063), 3) := zDec_at zB_dL_law_2078 1 rfl
theorem dL_law_2084 : decode code 2084 = .ok (.iconst 1, 1) := zDec_at zB_dL_law_2078 2 rfl
theorem dL_law_2085 : decode code 2085 = .ok (.ireturn, 1) := zDec_at zB_dL_law_2078 3 rfl
