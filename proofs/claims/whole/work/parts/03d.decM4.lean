section Dec
theorem dL_law__1986 : decode cL_law_ 1986 = .ok (.invokevirtual 221, 3) := by decide +kernel
theorem dL_law__1989 : decode cL_law_ 1989 = .ok (.istore 6, 2) := by decide +kernel
theorem dL_law__1991 : decode cL_law_ 1991 = .ok (.aload_n 2, 1) := by decide +kernel
theorem dL_law__1992 : decode cL_law_ 1992 = .ok (.invokevirtual 134, 3) := by decide +kernel
theorem dL_law__1995 : decode cL_law_ 1995 = .ok (.iload 5, 2) := by decide +kernel
theorem dL_law__1997 : decode cL_law_ 1997 = .ok (.if_icmp .eq 5, 3) := by decide +kernel
theorem dL_law__2000 : decode cL_law_ 2000 = .ok (.iconst 0, 1) := by decide +kernel
theorem dL_law__2001 : decode cL_law_ 2001 = .ok (.ireturn, 1) := by decide +kernel
theorem dL_law__2002 : decode cL_law_ 2002 = .ok (.iload 5, 2) := by decide +kernel
theorem dL_law__2004 : decode cL_law_ 2004 = .ok (.ifCond .ne 15, 3) := by decide +kernel
theorem dL_law__2007 : decode cL_law_ 2007 = .ok (.aload_n 3, 1) := by decide +kernel
theorem dL_law__2008 : decode cL_law_ 2008 = .ok (.iconst 0, 1) := by decide +kernel
theorem dL_law__2009 : decode cL_law_ 2009 = .ok (.laload, 1) := by decide +kernel
theorem dL_law__2010 : decode cL_law_ 2010 = .ok (.iload 6, 2) := by decide +kernel
theorem dL_law__2012 : decode cL_law_ 2012 = .ok (.i2l, 1) := by decide +kernel
theorem dL_law__2013 : decode cL_law_ 2013 = .ok (.lcmp, 1) := by decide +kernel
theorem dL_law__2014 : decode cL_law_ 2014 = .ok (.ifCond .eq 5, 3) := by decide +kernel
theorem dL_law__2017 : decode cL_law_ 2017 = .ok (.iconst 0, 1) := by decide +kernel
theorem dL_law__2018 : decode cL_law_ 2018 = .ok (.ireturn, 1) := by decide +kernel
theorem dL_law__2019 : decode cL_law_ 2019 = .ok (.goto 673, 3) := by decide +kernel
theorem dL_law__2022 : decode cL_law_ 2022 = .ok (.aload_n 1, 1) := by decide +kernel
theorem dL_law__2023 : decode cL_law_ 2023 = .ok (.aload_n 0, 1) := by decide +kernel
theorem dL_law__2024 : decode cL_law_ 2024 = .ok (.iload 4, 2) := by decide +kernel
theorem dL_law__2026 : decode cL_law_ 2026 = .ok (.iconst 1, 1) := by decide +kernel
theorem dL_law__2027 : decode cL_law_ 2027 = .ok (.iadd, 1) := by decide +kernel
theorem dL_law__2028 : decode cL_law_ 2028 = .ok (.iaload, 1) := by decide +kernel
theorem dL_law__2029 : decode cL_law_ 2029 = .ok (.aload_n 3, 1) := by decide +kernel
theorem dL_law__2030 : decode cL_law_ 2030 = .ok (.invokestatic 222, 3) := by decide +kernel
theorem dL_law__2033 : decode cL_law_ 2033 = .ok (.istore 5, 2) := by decide +kernel
theorem dL_law__2035 : decode cL_law_ 2035 = .ok (.aload_n 2, 1) := by decide +kernel
theorem dL_law__2036 : decode cL_law_ 2036 = .ok (.aload_n 0, 1) := by decide +kernel
theorem dL_law__2037 : decode cL_law_ 2037 = .ok (.iload 4, 2) := by decide +kernel
theorem dL_law__2039 : decode cL_law_ 2039 = .ok (.iconst 1, 1) := by decide +kernel
theorem dL_law__2040 : decode cL_law_ 2040 = .ok (.iadd, 1) := by decide +kernel
theorem dL_law__2041 : decode cL_law_ 2041 = .ok (.iaload, 1) := by decide +kernel
theorem dL_law__2042 : decode cL_law_ 2042 = .ok (.invokevirtual 224, 3) := by decide +kernel
theorem dL_law__2045 : decode cL_law_ 2045 = .ok (.istore 6, 2) := by decide +kernel
theorem dL_law__2047 : decode cL_law_ 2047 = .ok (.aload_n 2, 1) := by decide +kernel
theorem dL_law__2048 : decode cL_law_ 2048 = .ok (.invokevirtual 134, 3) := by decide +kernel
theorem dL_law__2051 : decode cL_law_ 2051 = .ok (.iload 5, 2) := by decide +kernel
theorem dL_law__2053 : decode cL_law_ 2053 = .ok (.if_icmp .eq 5, 3) := by decide +kernel
theorem dL_law__2056 : decode cL_law_ 2056 = .ok (.iconst 0, 1) := by decide +kernel
theorem dL_law__2057 : decode cL_law_ 2057 = .ok (.ireturn, 1) := by decide +kernel
theorem dL_law__2058 : decode cL_law_ 2058 = .ok (.iload 5, 2) := by decide +kernel
theorem dL_law__2060 : decode cL_law_ 2060 = .ok (.ifCond .ne 15, 3) := by decide +kernel
theorem dL_law__2063 : decode cL_law_ 2063 = .ok (.aload_n 3, 1) := by decide +kernel
theorem dL_law__2064 : decode cL_law_ 2064 = .ok (.iconst 0, 1) := by decide +kernel
theorem dL_law__2065 : decode cL_law_ 2065 = .ok (.laload, 1) := by decide +kernel
theorem dL_law__2066 : decode cL_law_ 2066 = .ok (.iload 6, 2) := by decide +kernel
theorem dL_law__2068 : decode cL_law_ 2068 = .ok (.i2l, 1) := by decide +kernel
theorem dL_law__2069 : decode cL_law_ 2069 = .ok (.lcmp, 1) := by decide +kernel
theorem dL_law__2070 : decode cL_law_ 2070 = .ok (.ifCond .eq 5, 3) := by decide +kernel
theorem dL_law__2073 : decode cL_law_ 2073 = .ok (.iconst 0, 1) := by decide +kernel
theorem dL_law__2074 : decode cL_law_ 2074 = .ok (.ireturn, 1) := by decide +kernel
theorem dL_law__2075 : decode cL_law_ 2075 = .ok (.goto 617, 3) := by decide +kernel
theorem dL_law__2078 : decode cL_law_ 2078 = .ok (.aload_n 1, 1) := by decide +kernel
theorem dL_law__2079 : decode cL_law_ 2079 = .ok (.aload_n 0, 1) := by decide +kernel
theorem dL_law__2080 : decode cL_law_ 2080 = .ok (.iload 4, 2) := by decide +kernel
theorem dL_law__2082 : decode cL_law_ 2082 = .ok (.iconst 1, 1) := by decide +kernel
theorem dL_law__2083 : decode cL_law_ 2083 = .ok (.iadd, 1) := by decide +kernel
theorem dL_law__2084 : decode cL_law_ 2084 = .ok (.iaload, 1) := by decide +kernel
theorem dL_law__2085 : decode cL_law_ 2085 = .ok (.aload_n 0, 1) := by decide +kernel
theorem dL_law__2086 : decode cL_law_ 2086 = .ok (.iload 4, 2) := by decide +kernel
theorem dL_law__2088 : decode cL_law_ 2088 = .ok (.iconst 2, 1) := by decide +kernel
theorem dL_law__2089 : decode cL_law_ 2089 = .ok (.iadd, 1) := by decide +kernel
theorem dL_law__2090 : decode cL_law_ 2090 = .ok (.iaload, 1) := by decide +kernel
theorem dL_law__2091 : decode cL_law_ 2091 = .ok (.aload_n 3, 1) := by decide +kernel
theorem dL_law__2092 : decode cL_law_ 2092 = .ok (.invokestatic 225, 3) := by decide +kernel
theorem dL_law__2095 : decode cL_law_ 2095 = .ok (.istore 5, 2) := by decide +kernel
theorem dL_law__2097 : decode cL_law_ 2097 = .ok (.aload_n 2, 1) := by decide +kernel
theorem dL_law__2098 : decode cL_law_ 2098 = .ok (.aload_n 0, 1) := by decide +kernel
theorem dL_law__2099 : decode cL_law_ 2099 = .ok (.iload 4, 2) := by decide +kernel
theorem dL_law__2101 : decode cL_law_ 2101 = .ok (.iconst 1, 1) := by decide +kernel
theorem dL_law__2102 : decode cL_law_ 2102 = .ok (.iadd, 1) := by decide +kernel
theorem dL_law__2103 : decode cL_law_ 2103 = .ok (.iaload, 1) := by decide +kernel
theorem dL_law__2104 : decode cL_law_ 2104 = .ok (.aload_n 0, 1) := by decide +kernel
theorem dL_law__2105 : decode cL_law_ 2105 = .ok (.iload 4, 2) := by decide +kernel
theorem dL_law__2107 : decode cL_law_ 2107 = .ok (.iconst 2, 1) := by decide +kernel
theorem dL_law__2108 : decode cL_law_ 2108 = .ok (.iadd, 1) := by decide +kernel
theorem dL_law__2109 : decode cL_law_ 2109 = .ok (.iaload, 1) := by decide +kernel
theorem dL_law__2110 : decode cL_law_ 2110 = .ok (.invokevirtual 227, 3) := by decide +kernel
theorem dL_law__2113 : decode cL_law_ 2113 = .ok (.istore 6, 2) := by decide +kernel
theorem dL_law__2115 : decode cL_law_ 2115 = .ok (.aload_n 2, 1) := by decide +kernel
theorem dL_law__2116 : decode cL_law_ 2116 = .ok (.invokevirtual 134, 3) := by decide +kernel
theorem dL_law__2119 : decode cL_law_ 2119 = .ok (.iload 5, 2) := by decide +kernel
theorem dL_law__2121 : decode cL_law_ 2121 = .ok (.if_icmp .eq 5, 3) := by decide +kernel
theorem dL_law__2124 : decode cL_law_ 2124 = .ok (.iconst 0, 1) := by decide +kernel
theorem dL_law__2125 : decode cL_law_ 2125 = .ok (.ireturn, 1) := by decide +kernel
theorem dL_law__2126 : decode cL_law_ 2126 = .ok (.iload 5, 2) := by decide +kernel
theorem dL_law__2128 : decode cL_law_ 2128 = .ok (.ifCond .ne 15, 3) := by decide +kernel
theorem dL_law__2131 : decode cL_law_ 2131 = .ok (.aload_n 3, 1) := by decide +kernel
theorem dL_law__2132 : decode cL_law_ 2132 = .ok (.iconst 0, 1) := by decide +kernel
theorem dL_law__2133 : decode cL_law_ 2133 = .ok (.laload, 1) := by decide +kernel
theorem dL_law__2134 : decode cL_law_ 2134 = .ok (.iload 6, 2) := by decide +kernel
theorem dL_law__2136 : decode cL_law_ 2136 = .ok (.i2l, 1) := by decide +kernel
theorem dL_law__2137 : decode cL_law_ 2137 = .ok (.lcmp, 1) := by decide +kernel
theorem dL_law__2138 : decode cL_law_ 2138 = .ok (.ifCond .eq 5, 3) := by decide +kernel
theorem dL_law__2141 : decode cL_law_ 2141 = .ok (.iconst 0, 1) := by decide +kernel
theorem dL_law__2142 : decode cL_law_ 2142 = .ok (.ireturn, 1) := by decide +kernel
theorem dL_law__2143 : decode cL_law_ 2143 = .ok (.goto 549, 3) := by decide +kernel
theorem dL_law__2146 : decode cL_law_ 2146 = .ok (.aload_n 1, 1) := by decide +kernel
theorem dL_law__2147 : decode cL_law_ 2147 = .ok (.aload_n 0, 1) := by decide +kernel
theorem dL_law__2148 : decode cL_law_ 2148 = .ok (.iload 4, 2) := by decide +kernel
theorem dL_law__2150 : decode cL_law_ 2150 = .ok (.iconst 1, 1) := by decide +kernel
theorem dL_law__2151 : decode cL_law_ 2151 = .ok (.iadd, 1) := by decide +kernel
theorem dL_law__2152 : decode cL_law_ 2152 = .ok (.iaload, 1) := by decide +kernel
theorem dL_law__2153 : decode cL_law_ 2153 = .ok (.aload_n 0, 1) := by decide +kernel
theorem dL_law__2154 : decode cL_law_ 2154 = .ok (.iload 4, 2) := by decide +kernel
theorem dL_law__2156 : decode cL_law_ 2156 = .ok (.iconst 2, 1) := by decide +kernel
theorem dL_law__2157 : decode cL_law_ 2157 = .ok (.iadd, 1) := by decide +kernel
theorem dL_law__2158 : decode cL_law_ 2158 = .ok (.iaload, 1) := by decide +kernel
theorem dL_law__2159 : decode cL_law_ 2159 = .ok (.aload_n 3, 1) := by decide +kernel
theorem dL_law__2160 : decode cL_law_ 2160 = .ok (.invokestatic 228, 3) := by decide +kernel
theorem dL_law__2163 : decode cL_law_ 2163 = .ok (.istore 5, 2) := by decide +kernel
theorem dL_law__2165 : decode cL_law_ 2165 = .ok (.aload_n 2, 1) := by decide +kernel
theorem dL_law__2166 : decode cL_law_ 2166 = .ok (.aload_n 0, 1) := by decide +kernel
theorem dL_law__2167 : decode cL_law_ 2167 = .ok (.iload 4, 2) := by decide +kernel
theorem dL_law__2169 : decode cL_law_ 2169 = .ok (.iconst 1, 1) := by decide +kernel
theorem dL_law__2170 : decode cL_law_ 2170 = .ok (.iadd, 1) := by decide +kernel
theorem dL_law__2171 : decode cL_law_ 2171 = .ok (.iaload, 1) := by decide +kernel
theorem dL_law__2172 : decode cL_law_ 2172 = .ok (.aload_n 0, 1) := by decide +kernel
theorem dL_law__2173 : decode cL_law_ 2173 = .ok (.iload 4, 2) := by decide +kernel
theorem dL_law__2175 : decode cL_law_ 2175 = .ok (.iconst 2, 1) := by decide +kernel
theorem dL_law__2176 : decode cL_law_ 2176 = .ok (.iadd, 1) := by decide +kernel
theorem dL_law__2177 : decode cL_law_ 2177 = .ok (.iaload, 1) := by decide +kernel
theorem dL_law__2178 : decode cL_law_ 2178 = .ok (.invokevirtual 230, 3) := by decide +kernel
theorem dL_law__2181 : decode cL_law_ 2181 = .ok (.istore 6, 2) := by decide +kernel
theorem dL_law__2183 : decode cL_law_ 2183 = .ok (.aload_n 2, 1) := by decide +kernel
theorem dL_law__2184 : decode cL_law_ 2184 = .ok (.invokevirtual 134, 3) := by decide +kernel
theorem dL_law__2187 : decode cL_law_ 2187 = .ok (.iload 5, 2) := by decide +kernel
theorem dL_law__2189 : decode cL_law_ 2189 = .ok (.if_icmp .eq 5, 3) := by decide +kernel
theorem dL_law__2192 : decode cL_law_ 2192 = .ok (.iconst 0, 1) := by decide +kernel
theorem dL_law__2193 : decode cL_law_ 2193 = .ok (.ireturn, 1) := by decide +kernel
theorem dL_law__2194 : decode cL_law_ 2194 = .ok (.iload 5, 2) := by decide +kernel
theorem dL_law__2196 : decode cL_law_ 2196 = .ok (.ifCond .ne 15, 3) := by decide +kernel
theorem dL_law__2199 : decode cL_law_ 2199 = .ok (.aload_n 3, 1) := by decide +kernel
theorem dL_law__2200 : decode cL_law_ 2200 = .ok (.iconst 0, 1) := by decide +kernel
theorem dL_law__2201 : decode cL_law_ 2201 = .ok (.laload, 1) := by decide +kernel
theorem dL_law__2202 : decode cL_law_ 2202 = .ok (.iload 6, 2) := by decide +kernel
theorem dL_law__2204 : decode cL_law_ 2204 = .ok (.i2l, 1) := by decide +kernel
theorem dL_law__2205 : decode cL_law_ 2205 = .ok (.lcmp, 1) := by decide +kernel
theorem dL_law__2206 : decode cL_law_ 2206 = .ok (.ifCond .eq 5, 3) := by decide +kernel
theorem dL_law__2209 : decode cL_law_ 2209 = .ok (.iconst 0, 1) := by decide +kernel
theorem dL_law__2210 : decode cL_law_ 2210 = .ok (.ireturn, 1) := by decide +kernel
theorem dL_law__2211 : decode cL_law_ 2211 = .ok (.goto 481, 3) := by decide +kernel
theorem dL_law__2214 : decode cL_law_ 2214 = .ok (.aload_n 1, 1) := by decide +kernel
theorem dL_law__2215 : decode cL_law_ 2215 = .ok (.aload_n 0, 1) := by decide +kernel
theorem dL_law__2216 : decode cL_law_ 2216 = .ok (.iload 4, 2) := by decide +kernel
theorem dL_law__2218 : decode cL_law_ 2218 = .ok (.iconst 1, 1) := by decide +kernel
theorem dL_law__2219 : decode cL_law_ 2219 = .ok (.iadd, 1) := by decide +kernel
theorem dL_law__2220 : decode cL_law_ 2220 = .ok (.iaload, 1) := by decide +kernel
theorem dL_law__2221 : decode cL_law_ 2221 = .ok (.aload_n 3, 1) := by decide +kernel
theorem dL_law__2222 : decode cL_law_ 2222 = .ok (.invokestatic 231, 3) := by decide +kernel
theorem dL_law__2225 : decode cL_law_ 2225 = .ok (.istore 5, 2) := by decide +kernel
theorem dL_law__2227 : decode cL_law_ 2227 = .ok (.aload_n 2, 1) := by decide +kernel
theorem dL_law__2228 : decode cL_law_ 2228 = .ok (.aload_n 0, 1) := by decide +kernel
theorem dL_law__2229 : decode cL_law_ 2229 = .ok (.iload 4, 2) := by decide +kernel
theorem dL_law__2231 : decode cL_law_ 2231 = .ok (.iconst 1, 1) := by decide +kernel
theorem dL_law__2232 : decode cL_law_ 2232 = .ok (.iadd, 1) := by decide +kernel
theorem dL_law__2233 : decode cL_law_ 2233 = .ok (.iaload, 1) := by decide +kernel
theorem dL_law__2234 : decode cL_law_ 2234 = .ok (.invokevirtual 233, 3) := by decide +kernel
theorem dL_law__2237 : decode cL_law_ 2237 = .ok (.istore 6, 2) := by decide +kernel
theorem dL_law__2239 : decode cL_law_ 2239 = .ok (.aload_n 2, 1) := by decide +kernel
theorem dL_law__2240 : decode cL_law_ 2240 = .ok (.invokevirtual 134, 3) := by decide +kernel
theorem dL_law__2243 : decode cL_law_ 2243 = .ok (.iload 5, 2) := by decide +kernel
theorem dL_law__2245 : decode cL_law_ 2245 = .ok (.if_icmp .eq 5, 3) := by decide +kernel
theorem dL_law__2248 : decode cL_law_ 2248 = .ok (.iconst 0, 1) := by decide +kernel
theorem dL_law__2249 : decode cL_law_ 2249 = .ok (.ireturn, 1) := by decide +kernel
theorem dL_law__2250 : decode cL_law_ 2250 = .ok (.iload 5, 2) := by decide +kernel
theorem dL_law__2252 : decode cL_law_ 2252 = .ok (.ifCond .ne 15, 3) := by decide +kernel
theorem dL_law__2255 : decode cL_law_ 2255 = .ok (.aload_n 3, 1) := by decide +kernel
theorem dL_law__2256 : decode cL_law_ 2256 = .ok (.iconst 0, 1) := by decide +kernel
theorem dL_law__2257 : decode cL_law_ 2257 = .ok (.laload, 1) := by decide +kernel
theorem dL_law__2258 : decode cL_law_ 2258 = .ok (.iload 6, 2) := by decide +kernel
theorem dL_law__2260 : decode cL_law_ 2260 = .ok (.i2l, 1) := by decide +kernel
theorem dL_law__2261 : decode cL_law_ 2261 = .ok (.lcmp, 1) := by decide +kernel
theorem dL_law__2262 : decode cL_law_ 2262 = .ok (.ifCond .eq 5, 3) := by decide +kernel
theorem dL_law__2265 : decode cL_law_ 2265 = .ok (.iconst 0, 1) := by decide +kernel
theorem dL_law__2266 : decode cL_law_ 2266 = .ok (.ireturn, 1) := by decide +kernel
theorem dL_law__2267 : decode cL_law_ 2267 = .ok (.goto 425, 3) := by decide +kernel
theorem dL_law__2270 : decode cL_law_ 2270 = .ok (.aload_n 1, 1) := by decide +kernel
theorem dL_law__2271 : decode cL_law_ 2271 = .ok (.aload_n 0, 1) := by decide +kernel
theorem dL_law__2272 : decode cL_law_ 2272 = .ok (.iload 4, 2) := by decide +kernel
theorem dL_law__2274 : decode cL_law_ 2274 = .ok (.iconst 1, 1) := by decide +kernel
theorem dL_law__2275 : decode cL_law_ 2275 = .ok (.iadd, 1) := by decide +kernel
theorem dL_law__2276 : decode cL_law_ 2276 = .ok (.iaload, 1) := by decide +kernel
theorem dL_law__2277 : decode cL_law_ 2277 = .ok (.aload_n 0, 1) := by decide +kernel
theorem dL_law__2278 : decode cL_law_ 2278 = .ok (.iload 4, 2) := by decide +kernel
theorem dL_law__2280 : decode cL_law_ 2280 = .ok (.iconst 2, 1) := by decide +kernel
theorem dL_law__2281 : decode cL_law_ 2281 = .ok (.iadd, 1) := by decide +kernel
theorem dL_law__2282 : decode cL_law_ 2282 = .ok (.iaload, 1) := by decide +kernel
theorem dL_law__2283 : decode cL_law_ 2283 = .ok (.aload_n 3, 1) := by decide +kernel
theorem dL_law__2284 : decode cL_law_ 2284 = .ok (.invokestatic 234, 3) := by decide +kernel
theorem dL_law__2287 : decode cL_law_ 2287 = .ok (.istore 5, 2) := by decide +kernel
theorem dL_law__2289 : decode cL_law_ 2289 = .ok (.aload_n 2, 1) := by decide +kernel
theorem dL_law__2290 : decode cL_law_ 2290 = .ok (.aload_n 0, 1) := by decide +kernel
theorem dL_law__2291 : decode cL_law_ 2291 = .ok (.iload 4, 2) := by decide +kernel
theorem dL_law__2293 : decode cL_law_ 2293 = .ok (.iconst 1, 1) := by decide +kernel
theorem dL_law__2294 : decode cL_law_ 2294 = .ok (.iadd, 1) := by decide +kernel
theorem dL_law__2295 : decode cL_law_ 2295 = .ok (.iaload, 1) := by decide +kernel
theorem dL_law__2296 : decode cL_law_ 2296 = .ok (.aload_n 0, 1) := by decide +kernel
theorem dL_law__2297 : decode cL_law_ 2297 = .ok (.iload 4, 2) := by decide +kernel
theorem dL_law__2299 : decode cL_law_ 2299 = .ok (.iconst 2, 1) := by decide +kernel
theorem dL_law__2300 : decode cL_law_ 2300 = .ok (.iadd, 1) := by decide +kernel
theorem dL_law__2301 : decode cL_law_ 2301 = .ok (.iaload, 1) := by decide +kernel
theorem dL_law__2302 : decode cL_law_ 2302 = .ok (.invokevirtual 236, 3) := by decide +kernel
theorem dL_law__2305 : decode cL_law_ 2305 = .ok (.istore 6, 2) := by decide +kernel
theorem dL_law__2307 : decode cL_law_ 2307 = .ok (.aload_n 2, 1) := by decide +kernel
theorem dL_law__2308 : decode cL_law_ 2308 = .ok (.invokevirtual 134, 3) := by decide +kernel
theorem dL_law__2311 : decode cL_law_ 2311 = .ok (.iload 5, 2) := by decide +kernel
theorem dL_law__2313 : decode cL_law_ 2313 = .ok (.if_icmp .eq 5, 3) := by decide +kernel
theorem dL_law__2316 : decode cL_law_ 2316 = .ok (.iconst 0, 1) := by decide +kernel
theorem dL_law__2317 : decode cL_law_ 2317 = .ok (.ireturn, 1) := by decide +kernel
theorem dL_law__2318 : decode cL_law_ 2318 = .ok (.iload 5, 2) := by decide +kernel
theorem dL_law__2320 : decode cL_law_ 2320 = .ok (.ifCond .ne 15, 3) := by decide +kernel
theorem dL_law__2323 : decode cL_law_ 2323 = .ok (.aload_n 3, 1) := by decide +kernel
theorem dL_law__2324 : decode cL_law_ 2324 = .ok (.iconst 0, 1) := by decide +kernel
theorem dL_law__2325 : decode cL_law_ 2325 = .ok (.laload, 1) := by decide +kernel
theorem dL_law__2326 : decode cL_law_ 2326 = .ok (.iload 6, 2) := by decide +kernel
theorem dL_law__2328 : decode cL_law_ 2328 = .ok (.i2l, 1) := by decide +kernel
theorem dL_law__2329 : decode cL_law_ 2329 = .ok (.lcmp, 1) := by decide +kernel
theorem dL_law__2330 : decode cL_law_ 2330 = .ok (.ifCond .eq 5, 3) := by decide +kernel
theorem dL_law__2333 : decode cL_law_ 2333 = .ok (.iconst 0, 1) := by decide +kernel
theorem dL_law__2334 : decode cL_law_ 2334 = .ok (.ireturn, 1) := by decide +kernel
theorem dL_law__2335 : decode cL_law_ 2335 = .ok (.goto 357, 3) := by decide +kernel
theorem dL_law__2338 : decode cL_law_ 2338 = .ok (.aload_n 1, 1) := by decide +kernel
theorem dL_law__2339 : decode cL_law_ 2339 = .ok (.aload_n 0, 1) := by decide +kernel
theorem dL_law__2340 : decode cL_law_ 2340 = .ok (.iload 4, 2) := by decide +kernel
theorem dL_law__2342 : decode cL_law_ 2342 = .ok (.iconst 1, 1) := by decide +kernel
theorem dL_law__2343 : decode cL_law_ 2343 = .ok (.iadd, 1) := by decide +kernel
theorem dL_law__2344 : decode cL_law_ 2344 = .ok (.iaload, 1) := by decide +kernel
theorem dL_law__2345 : decode cL_law_ 2345 = .ok (.aload_n 0, 1) := by decide +kernel
theorem dL_law__2346 : decode cL_law_ 2346 = .ok (.iload 4, 2) := by decide +kernel
theorem dL_law__2348 : decode cL_law_ 2348 = .ok (.iconst 2, 1) := by decide +kernel
theorem dL_law__2349 : decode cL_law_ 2349 = .ok (.iadd, 1) := by decide +kernel
theorem dL_law__2350 : decode cL_law_ 2350 = .ok (.iaload, 1) := by decide +kernel
theorem dL_law__2351 : decode cL_law_ 2351 = .ok (.aload_n 3, 1) := by decide +kernel
theorem dL_law__2352 : decode cL_law_ 2352 = .ok (.invokestatic 237, 3) := by decide +kernel
theorem dL_law__2355 : decode cL_law_ 2355 = .ok (.istore 5, 2) := by decide +kernel
theorem dL_law__2357 : decode cL_law_ 2357 = .ok (.aload_n 2, 1) := by decide +kernel
theorem dL_law__2358 : decode cL_law_ 2358 = .ok (.aload_n 0, 1) := by decide +kernel
theorem dL_law__2359 : decode cL_law_ 2359 = .ok (.iload 4, 2) := by decide +kernel
theorem dL_law__2361 : decode cL_law_ 2361 = .ok (.iconst 1, 1) := by decide +kernel
theorem dL_law__2362 : decode cL_law_ 2362 = .ok (.iadd, 1) := by decide +kernel
theorem dL_law__2363 : decode cL_law_ 2363 = .ok (.iaload, 1) := by decide +kernel
theorem dL_law__2364 : decode cL_law_ 2364 = .ok (.aload_n 0, 1) := by decide +kernel
theorem dL_law__2365 : decode cL_law_ 2365 = .ok (.iload 4, 2) := by decide +kernel
theorem dL_law__2367 : decode cL_law_ 2367 = .ok (.iconst 2, 1) := by decide +kernel
theorem dL_law__2368 : decode cL_law_ 2368 = .ok (.iadd, 1) := by decide +kernel
theorem dL_law__2369 : decode cL_law_ 2369 = .ok (.iaload, 1) := by decide +kernel
theorem dL_law__2370 : decode cL_law_ 2370 = .ok (.invokevirtual 239, 3) := by decide +kernel
theorem dL_law__2373 : decode cL_law_ 2373 = .ok (.istore 6, 2) := by decide +kernel
theorem dL_law__2375 : decode cL_law_ 2375 = .ok (.aload_n 2, 1) := by decide +kernel
theorem dL_law__2376 : decode cL_law_ 2376 = .ok (.invokevirtual 134, 3) := by decide +kernel
theorem dL_law__2379 : decode cL_law_ 2379 = .ok (.iload 5, 2) := by decide +kernel
theorem dL_law__2381 : decode cL_law_ 2381 = .ok (.if_icmp .eq 5, 3) := by decide +kernel
theorem dL_law__2384 : decode cL_law_ 2384 = .ok (.iconst 0, 1) := by decide +kernel
theorem dL_law__2385 : decode cL_law_ 2385 = .ok (.ireturn, 1) := by decide +kernel
theorem dL_law__2386 : decode cL_law_ 2386 = .ok (.iload 5, 2) := by decide +kernel
theorem dL_law__2388 : decode cL_law_ 2388 = .ok (.ifCond .ne 15, 3) := by decide +kernel
theorem dL_law__2391 : decode cL_law_ 2391 = .ok (.aload_n 3, 1) := by decide +kernel
theorem dL_law__2392 : decode cL_law_ 2392 = .ok (.iconst 0, 1) := by decide +kernel
theorem dL_law__2393 : decode cL_law_ 2393 = .ok (.laload, 1) := by decide +kernel
theorem dL_law__2394 : decode cL_law_ 2394 = .ok (.iload 6, 2) := by decide +kernel
theorem dL_law__2396 : decode cL_law_ 2396 = .ok (.i2l, 1) := by decide +kernel
theorem dL_law__2397 : decode cL_law_ 2397 = .ok (.lcmp, 1) := by decide +kernel
theorem dL_law__2398 : decode cL_law_ 2398 = .ok (.ifCond .eq 5, 3) := by decide +kernel
theorem dL_law__2401 : decode cL_law_ 2401 = .ok (.iconst 0, 1) := by decide +kernel
theorem dL_law__2402 : decode cL_law_ 2402 = .ok (.ireturn, 1) := by decide +kernel
theorem dL_law__2403 : decode cL_law_ 2403 = .ok (.goto 289, 3) := by decide +kernel
theorem dL_law__2406 : decode cL_law_ 2406 = .ok (.aload_n 1, 1) := by decide +kernel
theorem dL_law__2407 : decode cL_law_ 2407 = .ok (.aload_n 0, 1) := by decide +kernel
theorem dL_law__2408 : decode cL_law_ 2408 = .ok (.iload 4, 2) := by decide +kernel
theorem dL_law__2410 : decode cL_law_ 2410 = .ok (.iconst 1, 1) := by decide +kernel
theorem dL_law__2411 : decode cL_law_ 2411 = .ok (.iadd, 1) := by decide +kernel
theorem dL_law__2412 : decode cL_law_ 2412 = .ok (.iaload, 1) := by decide +kernel
theorem dL_law__2413 : decode cL_law_ 2413 = .ok (.aload_n 0, 1) := by decide +kernel
theorem dL_law__2414 : decode cL_law_ 2414 = .ok (.iload 4, 2) := by decide +kernel
theorem dL_law__2416 : decode cL_law_ 2416 = .ok (.iconst 2, 1) := by decide +kernel
theorem dL_law__2417 : decode cL_law_ 2417 = .ok (.iadd, 1) := by decide +kernel
theorem dL_law__2418 : decode cL_law_ 2418 = .ok (.iaload, 1) := by decide +kernel
theorem dL_law__2419 : decode cL_law_ 2419 = .ok (.aload_n 0, 1) := by decide +kernel
theorem dL_law__2420 : decode cL_law_ 2420 = .ok (.iload 4, 2) := by decide +kernel
theorem dL_law__2422 : decode cL_law_ 2422 = .ok (.iconst 3, 1) := by decide +kernel
theorem dL_law__2423 : decode cL_law_ 2423 = .ok (.iadd, 1) := by decide +kernel
theorem dL_law__2424 : decode cL_law_ 2424 = .ok (.iaload, 1) := by decide +kernel
theorem dL_law__2425 : decode cL_law_ 2425 = .ok (.aload_n 0, 1) := by decide +kernel
theorem dL_law__2426 : decode cL_law_ 2426 = .ok (.iload 4, 2) := by decide +kernel
theorem dL_law__2428 : decode cL_law_ 2428 = .ok (.iconst 4, 1) := by decide +kernel
theorem dL_law__2429 : decode cL_law_ 2429 = .ok (.iadd, 1) := by decide +kernel
theorem dL_law__2430 : decode cL_law_ 2430 = .ok (.iaload, 1) := by decide +kernel
theorem dL_law__2431 : decode cL_law_ 2431 = .ok (.aload_n 3, 1) := by decide +kernel
theorem dL_law__2432 : decode cL_law_ 2432 = .ok (.invokestatic 240, 3) := by decide +kernel
theorem dL_law__2435 : decode cL_law_ 2435 = .ok (.istore 5, 2) := by decide +kernel
theorem dL_law__2437 : decode cL_law_ 2437 = .ok (.aload_n 2, 1) := by decide +kernel
theorem dL_law__2438 : decode cL_law_ 2438 = .ok (.aload_n 0, 1) := by decide +kernel
theorem dL_law__2439 : decode cL_law_ 2439 = .ok (.iload 4, 2) := by decide +kernel
theorem dL_law__2441 : decode cL_law_ 2441 = .ok (.iconst 1, 1) := by decide +kernel
theorem dL_law__2442 : decode cL_law_ 2442 = .ok (.iadd, 1) := by decide +kernel
theorem dL_law__2443 : decode cL_law_ 2443 = .ok (.iaload, 1) := by decide +kernel
end Dec
