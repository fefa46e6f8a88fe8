theorem dL_law_1987 : decode cL_law 1987 = .ok (.iload 6, 2) := by decide +kernel
theorem dL_law_1989 : decode cL_law 1989 = .ok (.i2l, 1) := by decide +kernel
theorem dL_law_1990 : decode cL_law 1990 = .ok (.lcmp, 1) := by decide +kernel
theorem dL_law_1991 : decode cL_law 1991 = .ok (.ifCond .eq 5, 3) := by decide +kernel
theorem dL_law_1994 : decode cL_law 1994 = .ok (.iconst 0, 1) := by decide +kernel
theorem dL_law_1995 : decode cL_law 1995 = .ok (.ireturn, 1) := by decide +kernel
theorem dL_law_1996 : decode cL_law 1996 = .ok (.goto 71, 3) := by decide +kernel
theorem dL_law_1999 : decode cL_law 1999 = .ok (.aload_n 1, 1) := by decide +kernel
theorem dL_law_2000 : decode cL_law 2000 = .ok (.invokevirtual 209, 3) := by decide +kernel
theorem dL_law_2003 : decode cL_law 2003 = .ok (.aload_n 2, 1) := by decide +kernel
theorem dL_law_2004 : decode cL_law 2004 = .ok (.invokevirtual 212, 3) := by decide +kernel
theorem dL_law_2007 : decode cL_law 2007 = .ok (.if_icmp .eq 60, 3) := by decide +kernel
theorem dL_law_2010 : decode cL_law 2010 = .ok (.iconst 0, 1) := by decide +kernel
theorem dL_law_2011 : decode cL_law 2011 = .ok (.ireturn, 1) := by decide +kernel
theorem dL_law_2012 : decode cL_law 2012 = .ok (.aload_n 1, 1) := by decide +kernel
theorem dL_law_2013 : decode cL_law 2013 = .ok (.invokevirtual 213, 3) := by decide +kernel
theorem dL_law_2016 : decode cL_law 2016 = .ok (.dstore 5, 2) := by decide +kernel
theorem dL_law_2018 : decode cL_law 2018 = .ok (.aload_n 2, 1) := by decide +kernel
theorem dL_law_2019 : decode cL_law 2019 = .ok (.invokevirtual 217, 3) := by decide +kernel
theorem dL_law_2022 : decode cL_law 2022 = .ok (.dstore 7, 2) := by decide +kernel
theorem dL_law_2024 : decode cL_law 2024 = .ok (.dload 5, 2) := by decide +kernel
theorem dL_law_2026 : decode cL_law 2026 = .ok (.dload 7, 2) := by decide +kernel
theorem dL_law_2028 : decode cL_law 2028 = .ok (.dcmp .l, 1) := by decide +kernel
theorem dL_law_2029 : decode cL_law 2029 = .ok (.ifCond .eq 21, 3) := by decide +kernel
theorem dL_law_2032 : decode cL_law 2032 = .ok (.dload 5, 2) := by decide +kernel
theorem dL_law_2034 : decode cL_law 2034 = .ok (.dload 5, 2) := by decide +kernel
theorem dL_law_2036 : decode cL_law 2036 = .ok (.dcmp .l, 1) := by decide +kernel
theorem dL_law_2037 : decode cL_law 2037 = .ok (.ifCond .eq 11, 3) := by decide +kernel
theorem dL_law_2040 : decode cL_law 2040 = .ok (.dload 7, 2) := by decide +kernel
theorem dL_law_2042 : decode cL_law 2042 = .ok (.dload 7, 2) := by decide +kernel
theorem dL_law_2044 : decode cL_law 2044 = .ok (.dcmp .l, 1) := by decide +kernel
theorem dL_law_2045 : decode cL_law 2045 = .ok (.ifCond .ne 5, 3) := by decide +kernel
theorem dL_law_2048 : decode cL_law 2048 = .ok (.iconst 0, 1) := by decide +kernel
theorem dL_law_2049 : decode cL_law 2049 = .ok (.ireturn, 1) := by decide +kernel
theorem dL_law_2050 : decode cL_law 2050 = .ok (.goto 17, 3) := by decide +kernel
theorem dL_law_2053 : decode cL_law 2053 = .ok (.aload_n 1, 1) := by decide +kernel
theorem dL_law_2054 : decode cL_law 2054 = .ok (.invokevirtual 218, 3) := by decide +kernel
theorem dL_law_2057 : decode cL_law 2057 = .ok (.aload_n 2, 1) := by decide +kernel
theorem dL_law_2058 : decode cL_law 2058 = .ok (.invokevirtual 222, 3) := by decide +kernel
theorem dL_law_2061 : decode cL_law 2061 = .ok (.lcmp, 1) := by decide +kernel
theorem dL_law_2062 : decode cL_law 2062 = .ok (.ifCond .eq 5, 3) := by decide +kernel
theorem dL_law_2065 : decode cL_law 2065 = .ok (.iconst 0, 1) := by decide +kernel
theorem dL_law_2066 : decode cL_law 2066 = .ok (.ireturn, 1) := by decide +kernel
theorem dL_law_2067 : decode cL_law 2067 = .ok (.iinc 4 5, 3) := by decide +kernel
theorem dL_law_2070 : decode cL_law 2070 = .ok (.goto (-2047), 3) := by decide +kernel
theorem dL_law_2073 : decode cL_law 2073 = .ok (.iconst 1, 1) := by decide +kernel
theorem dL_law_2074 : decode cL_law 2074 = .ok (.ireturn, 1) := by decide +kernel
