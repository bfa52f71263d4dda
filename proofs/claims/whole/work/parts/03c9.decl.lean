/-! the law's instructions -/
theorem dL_law__1982 : decode cL_law_ 1982 = .ok (.ireturn, 1) := by decide +kernel
theorem dL_law__1983 : decode cL_law_ 1983 = .ok (.iload 5, 2) := by decide +kernel
theorem dL_law__1985 : decode cL_law_ 1985 = .ok (.ifCond .ne 14, 3) := by decide +kernel
theorem dL_law__1988 : decode cL_law_ 1988 = .ok (.aload_n 3, 1) := by decide +kernel
theorem dL_law__1989 : decode cL_law_ 1989 = .ok (.iconst 0, 1) := by decide +kernel
theorem dL_law__1990 : decode cL_law_ 1990 = .ok (.laload, 1) := by decide +kernel
theorem dL_law__1991 : decode cL_law_ 1991 = .ok (.lload 6, 2) := by decide +kernel
theorem dL_law__1993 : decode cL_law_ 1993 = .ok (.lcmp, 1) := by decide +kernel
theorem dL_law__1994 : decode cL_law_ 1994 = .ok (.ifCond .eq 5, 3) := by decide +kernel
theorem dL_law__1997 : decode cL_law_ 1997 = .ok (.iconst 0, 1) := by decide +kernel
theorem dL_law__1998 : decode cL_law_ 1998 = .ok (.ireturn, 1) := by decide +kernel
theorem dL_law__1999 : decode cL_law_ 1999 = .ok (.goto 1336, 3) := by decide +kernel
theorem dL_law__2002 : decode cL_law_ 2002 = .ok (.aload_n 1, 1) := by decide +kernel
theorem dL_law__2003 : decode cL_law_ 2003 = .ok (.aload_n 0, 1) := by decide +kernel
theorem dL_law__2004 : decode cL_law_ 2004 = .ok (.iload 4, 2) := by decide +kernel
theorem dL_law__2006 : decode cL_law_ 2006 = .ok (.iconst 1, 1) := by decide +kernel
theorem dL_law__2007 : decode cL_law_ 2007 = .ok (.iadd, 1) := by decide +kernel
theorem dL_law__2008 : decode cL_law_ 2008 = .ok (.iaload, 1) := by decide +kernel
theorem dL_law__2009 : decode cL_law_ 2009 = .ok (.i2l, 1) := by decide +kernel
theorem dL_law__2010 : decode cL_law_ 2010 = .ok (.bipush 32, 2) := by decide +kernel
theorem dL_law__2012 : decode cL_law_ 2012 = .ok (.lshl, 1) := by decide +kernel
theorem dL_law__2013 : decode cL_law_ 2013 = .ok (.aload_n 0, 1) := by decide +kernel
theorem dL_law__2014 : decode cL_law_ 2014 = .ok (.iload 4, 2) := by decide +kernel
theorem dL_law__2016 : decode cL_law_ 2016 = .ok (.iconst 2, 1) := by decide +kernel
theorem dL_law__2017 : decode cL_law_ 2017 = .ok (.iadd, 1) := by decide +kernel
theorem dL_law__2018 : decode cL_law_ 2018 = .ok (.iaload, 1) := by decide +kernel
theorem dL_law__2019 : decode cL_law_ 2019 = .ok (.i2l, 1) := by decide +kernel
theorem dL_law__2020 : decode cL_law_ 2020 = .ok (.ldc2_w 178, 3) := by decide +kernel
theorem dL_law__2023 : decode cL_law_ 2023 = .ok (.land, 1) := by decide +kernel
theorem dL_law__2024 : decode cL_law_ 2024 = .ok (.lor, 1) := by decide +kernel
theorem dL_law__2025 : decode cL_law_ 2025 = .ok (.aload_n 0, 1) := by decide +kernel
theorem dL_law__2026 : decode cL_law_ 2026 = .ok (.iload 4, 2) := by decide +kernel
theorem dL_law__2028 : decode cL_law_ 2028 = .ok (.iconst 3, 1) := by decide +kernel
theorem dL_law__2029 : decode cL_law_ 2029 = .ok (.iadd, 1) := by decide +kernel
theorem dL_law__2030 : decode cL_law_ 2030 = .ok (.iaload, 1) := by decide +kernel
theorem dL_law__2031 : decode cL_law_ 2031 = .ok (.i2l, 1) := by decide +kernel
theorem dL_law__2032 : decode cL_law_ 2032 = .ok (.bipush 32, 2) := by decide +kernel
theorem dL_law__2034 : decode cL_law_ 2034 = .ok (.lshl, 1) := by decide +kernel
theorem dL_law__2035 : decode cL_law_ 2035 = .ok (.aload_n 0, 1) := by decide +kernel
theorem dL_law__2036 : decode cL_law_ 2036 = .ok (.iload 4, 2) := by decide +kernel
theorem dL_law__2038 : decode cL_law_ 2038 = .ok (.iconst 4, 1) := by decide +kernel
theorem dL_law__2039 : decode cL_law_ 2039 = .ok (.iadd, 1) := by decide +kernel
theorem dL_law__2040 : decode cL_law_ 2040 = .ok (.iaload, 1) := by decide +kernel
theorem dL_law__2041 : decode cL_law_ 2041 = .ok (.i2l, 1) := by decide +kernel
theorem dL_law__2042 : decode cL_law_ 2042 = .ok (.ldc2_w 178, 3) := by decide +kernel
theorem dL_law__2045 : decode cL_law_ 2045 = .ok (.land, 1) := by decide +kernel
theorem dL_law__2046 : decode cL_law_ 2046 = .ok (.lor, 1) := by decide +kernel
theorem dL_law__2047 : decode cL_law_ 2047 = .ok (.aload_n 3, 1) := by decide +kernel
theorem dL_law__2048 : decode cL_law_ 2048 = .ok (.invokestatic 230, 3) := by decide +kernel
theorem dL_law__2051 : decode cL_law_ 2051 = .ok (.istore 5, 2) := by decide +kernel
theorem dL_law__2053 : decode cL_law_ 2053 = .ok (.aload_n 2, 1) := by decide +kernel
theorem dL_law__2054 : decode cL_law_ 2054 = .ok (.aload_n 0, 1) := by decide +kernel
theorem dL_law__2055 : decode cL_law_ 2055 = .ok (.iload 4, 2) := by decide +kernel
theorem dL_law__2057 : decode cL_law_ 2057 = .ok (.iconst 1, 1) := by decide +kernel
theorem dL_law__2058 : decode cL_law_ 2058 = .ok (.iadd, 1) := by decide +kernel
theorem dL_law__2059 : decode cL_law_ 2059 = .ok (.iaload, 1) := by decide +kernel
theorem dL_law__2060 : decode cL_law_ 2060 = .ok (.i2l, 1) := by decide +kernel
theorem dL_law__2061 : decode cL_law_ 2061 = .ok (.bipush 32, 2) := by decide +kernel
theorem dL_law__2063 : decode cL_law_ 2063 = .ok (.lshl, 1) := by decide +kernel
theorem dL_law__2064 : decode cL_law_ 2064 = .ok (.aload_n 0, 1) := by decide +kernel
theorem dL_law__2065 : decode cL_law_ 2065 = .ok (.iload 4, 2) := by decide +kernel
theorem dL_law__2067 : decode cL_law_ 2067 = .ok (.iconst 2, 1) := by decide +kernel
theorem dL_law__2068 : decode cL_law_ 2068 = .ok (.iadd, 1) := by decide +kernel
theorem dL_law__2069 : decode cL_law_ 2069 = .ok (.iaload, 1) := by decide +kernel
theorem dL_law__2070 : decode cL_law_ 2070 = .ok (.i2l, 1) := by decide +kernel
theorem dL_law__2071 : decode cL_law_ 2071 = .ok (.ldc2_w 178, 3) := by decide +kernel
theorem dL_law__2074 : decode cL_law_ 2074 = .ok (.land, 1) := by decide +kernel
theorem dL_law__2075 : decode cL_law_ 2075 = .ok (.lor, 1) := by decide +kernel
theorem dL_law__2076 : decode cL_law_ 2076 = .ok (.aload_n 0, 1) := by decide +kernel
theorem dL_law__2077 : decode cL_law_ 2077 = .ok (.iload 4, 2) := by decide +kernel
theorem dL_law__2079 : decode cL_law_ 2079 = .ok (.iconst 3, 1) := by decide +kernel
theorem dL_law__2080 : decode cL_law_ 2080 = .ok (.iadd, 1) := by decide +kernel
theorem dL_law__2081 : decode cL_law_ 2081 = .ok (.iaload, 1) := by decide +kernel
theorem dL_law__2082 : decode cL_law_ 2082 = .ok (.i2l, 1) := by decide +kernel
theorem dL_law__2083 : decode cL_law_ 2083 = .ok (.bipush 32, 2) := by decide +kernel
theorem dL_law__2085 : decode cL_law_ 2085 = .ok (.lshl, 1) := by decide +kernel
theorem dL_law__2086 : decode cL_law_ 2086 = .ok (.aload_n 0, 1) := by decide +kernel
theorem dL_law__2087 : decode cL_law_ 2087 = .ok (.iload 4, 2) := by decide +kernel
theorem dL_law__2089 : decode cL_law_ 2089 = .ok (.iconst 4, 1) := by decide +kernel
theorem dL_law__2090 : decode cL_law_ 2090 = .ok (.iadd, 1) := by decide +kernel
theorem dL_law__2091 : decode cL_law_ 2091 = .ok (.iaload, 1) := by decide +kernel
theorem dL_law__2092 : decode cL_law_ 2092 = .ok (.i2l, 1) := by decide +kernel
theorem dL_law__2093 : decode cL_law_ 2093 = .ok (.ldc2_w 178, 3) := by decide +kernel
theorem dL_law__2096 : decode cL_law_ 2096 = .ok (.land, 1) := by decide +kernel
theorem dL_law__2097 : decode cL_law_ 2097 = .ok (.lor, 1) := by decide +kernel
theorem dL_law__2098 : decode cL_law_ 2098 = .ok (.invokevirtual 232, 3) := by decide +kernel
theorem dL_law__2101 : decode cL_law_ 2101 = .ok (.istore 6, 2) := by decide +kernel
theorem dL_law__2103 : decode cL_law_ 2103 = .ok (.aload_n 2, 1) := by decide +kernel
theorem dL_law__2104 : decode cL_law_ 2104 = .ok (.invokevirtual 157, 3) := by decide +kernel
theorem dL_law__2107 : decode cL_law_ 2107 = .ok (.iload 5, 2) := by decide +kernel
theorem dL_law__2109 : decode cL_law_ 2109 = .ok (.if_icmp .eq 5, 3) := by decide +kernel
theorem dL_law__2112 : decode cL_law_ 2112 = .ok (.iconst 0, 1) := by decide +kernel
theorem dL_law__2113 : decode cL_law_ 2113 = .ok (.ireturn, 1) := by decide +kernel
theorem dL_law__2114 : decode cL_law_ 2114 = .ok (.iload 5, 2) := by decide +kernel
theorem dL_law__2116 : decode cL_law_ 2116 = .ok (.ifCond .ne 15, 3) := by decide +kernel
theorem dL_law__2119 : decode cL_law_ 2119 = .ok (.aload_n 3, 1) := by decide +kernel
theorem dL_law__2120 : decode cL_law_ 2120 = .ok (.iconst 0, 1) := by decide +kernel
theorem dL_law__2121 : decode cL_law_ 2121 = .ok (.laload, 1) := by decide +kernel
theorem dL_law__2122 : decode cL_law_ 2122 = .ok (.iload 6, 2) := by decide +kernel
theorem dL_law__2124 : decode cL_law_ 2124 = .ok (.i2l, 1) := by decide +kernel
theorem dL_law__2125 : decode cL_law_ 2125 = .ok (.lcmp, 1) := by decide +kernel
theorem dL_law__2126 : decode cL_law_ 2126 = .ok (.ifCond .eq 5, 3) := by decide +kernel
theorem dL_law__2129 : decode cL_law_ 2129 = .ok (.iconst 0, 1) := by decide +kernel
theorem dL_law__2130 : decode cL_law_ 2130 = .ok (.ireturn, 1) := by decide +kernel
theorem dL_law__2131 : decode cL_law_ 2131 = .ok (.goto 1204, 3) := by decide +kernel
theorem dL_law__2134 : decode cL_law_ 2134 = .ok (.aload_n 1, 1) := by decide +kernel
theorem dL_law__2135 : decode cL_law_ 2135 = .ok (.aload_n 0, 1) := by decide +kernel
theorem dL_law__2136 : decode cL_law_ 2136 = .ok (.iload 4, 2) := by decide +kernel
theorem dL_law__2138 : decode cL_law_ 2138 = .ok (.iconst 1, 1) := by decide +kernel
theorem dL_law__2139 : decode cL_law_ 2139 = .ok (.iadd, 1) := by decide +kernel
theorem dL_law__2140 : decode cL_law_ 2140 = .ok (.iaload, 1) := by decide +kernel
theorem dL_law__2141 : decode cL_law_ 2141 = .ok (.i2l, 1) := by decide +kernel
theorem dL_law__2142 : decode cL_law_ 2142 = .ok (.bipush 32, 2) := by decide +kernel
theorem dL_law__2144 : decode cL_law_ 2144 = .ok (.lshl, 1) := by decide +kernel
theorem dL_law__2145 : decode cL_law_ 2145 = .ok (.aload_n 0, 1) := by decide +kernel
theorem dL_law__2146 : decode cL_law_ 2146 = .ok (.iload 4, 2) := by decide +kernel
theorem dL_law__2148 : decode cL_law_ 2148 = .ok (.iconst 2, 1) := by decide +kernel
theorem dL_law__2149 : decode cL_law_ 2149 = .ok (.iadd, 1) := by decide +kernel
theorem dL_law__2150 : decode cL_law_ 2150 = .ok (.iaload, 1) := by decide +kernel
theorem dL_law__2151 : decode cL_law_ 2151 = .ok (.i2l, 1) := by decide +kernel
theorem dL_law__2152 : decode cL_law_ 2152 = .ok (.ldc2_w 178, 3) := by decide +kernel
theorem dL_law__2155 : decode cL_law_ 2155 = .ok (.land, 1) := by decide +kernel
theorem dL_law__2156 : decode cL_law_ 2156 = .ok (.lor, 1) := by decide +kernel
theorem dL_law__2157 : decode cL_law_ 2157 = .ok (.aload_n 0, 1) := by decide +kernel
theorem dL_law__2158 : decode cL_law_ 2158 = .ok (.iload 4, 2) := by decide +kernel
theorem dL_law__2160 : decode cL_law_ 2160 = .ok (.iconst 3, 1) := by decide +kernel
theorem dL_law__2161 : decode cL_law_ 2161 = .ok (.iadd, 1) := by decide +kernel
theorem dL_law__2162 : decode cL_law_ 2162 = .ok (.iaload, 1) := by decide +kernel
theorem dL_law__2163 : decode cL_law_ 2163 = .ok (.i2l, 1) := by decide +kernel
theorem dL_law__2164 : decode cL_law_ 2164 = .ok (.bipush 32, 2) := by decide +kernel
theorem dL_law__2166 : decode cL_law_ 2166 = .ok (.lshl, 1) := by decide +kernel
theorem dL_law__2167 : decode cL_law_ 2167 = .ok (.aload_n 0, 1) := by decide +kernel
theorem dL_law__2168 : decode cL_law_ 2168 = .ok (.iload 4, 2) := by decide +kernel
theorem dL_law__2170 : decode cL_law_ 2170 = .ok (.iconst 4, 1) := by decide +kernel
theorem dL_law__2171 : decode cL_law_ 2171 = .ok (.iadd, 1) := by decide +kernel
theorem dL_law__2172 : decode cL_law_ 2172 = .ok (.iaload, 1) := by decide +kernel
theorem dL_law__2173 : decode cL_law_ 2173 = .ok (.i2l, 1) := by decide +kernel
theorem dL_law__2174 : decode cL_law_ 2174 = .ok (.ldc2_w 178, 3) := by decide +kernel
theorem dL_law__2177 : decode cL_law_ 2177 = .ok (.land, 1) := by decide +kernel
theorem dL_law__2178 : decode cL_law_ 2178 = .ok (.lor, 1) := by decide +kernel
theorem dL_law__2179 : decode cL_law_ 2179 = .ok (.aload_n 0, 1) := by decide +kernel
theorem dL_law__2180 : decode cL_law_ 2180 = .ok (.iload 4, 2) := by decide +kernel
theorem dL_law__2182 : decode cL_law_ 2182 = .ok (.iconst 5, 1) := by decide +kernel
theorem dL_law__2183 : decode cL_law_ 2183 = .ok (.iadd, 1) := by decide +kernel
theorem dL_law__2184 : decode cL_law_ 2184 = .ok (.iaload, 1) := by decide +kernel
theorem dL_law__2185 : decode cL_law_ 2185 = .ok (.aload_n 0, 1) := by decide +kernel
theorem dL_law__2186 : decode cL_law_ 2186 = .ok (.iload 4, 2) := by decide +kernel
theorem dL_law__2188 : decode cL_law_ 2188 = .ok (.bipush 6, 2) := by decide +kernel
theorem dL_law__2190 : decode cL_law_ 2190 = .ok (.iadd, 1) := by decide +kernel
theorem dL_law__2191 : decode cL_law_ 2191 = .ok (.iaload, 1) := by decide +kernel
