theorem dL_law_2043 : decode cL_law 2043 = .ok (.ifCond .eq 5, 3) := by decide +kernel
theorem dL_law_2046 : decode cL_law 2046 = .ok (.iconst 0, 1) := by decide +kernel
theorem dL_law_2047 : decode cL_law 2047 = .ok (.ireturn, 1) := by decide +kernel
theorem dL_law_2048 : decode cL_law 2048 = .ok (.goto 563, 3) := by decide +kernel
theorem dL_law_2051 : decode cL_law 2051 = .ok (.aload_n 1, 1) := by decide +kernel
theorem dL_law_2052 : decode cL_law 2052 = .ok (.aload_n 0, 1) := by decide +kernel
theorem dL_law_2053 : decode cL_law 2053 = .ok (.iload 4, 2) := by decide +kernel
theorem dL_law_2055 : decode cL_law 2055 = .ok (.iconst 1, 1) := by decide +kernel
theorem dL_law_2056 : decode cL_law 2056 = .ok (.iadd, 1) := by decide +kernel
theorem dL_law_2057 : decode cL_law 2057 = .ok (.iaload, 1) := by decide +kernel
theorem dL_law_2058 : decode cL_law 2058 = .ok (.aload_n 3, 1) := by decide +kernel
theorem dL_law_2059 : decode cL_law 2059 = .ok (.invokestatic 253, 3) := by decide +kernel
theorem dL_law_2062 : decode cL_law 2062 = .ok (.istore 5, 2) := by decide +kernel
theorem dL_law_2064 : decode cL_law 2064 = .ok (.aload_n 2, 1) := by decide +kernel
theorem dL_law_2065 : decode cL_law 2065 = .ok (.aload_n 0, 1) := by decide +kernel
theorem dL_law_2066 : decode cL_law 2066 = .ok (.iload 4, 2) := by decide +kernel
theorem dL_law_2068 : decode cL_law 2068 = .ok (.iconst 1, 1) := by decide +kernel
theorem dL_law_2069 : decode cL_law 2069 = .ok (.iadd, 1) := by decide +kernel
theorem dL_law_2070 : decode cL_law 2070 = .ok (.iaload, 1) := by decide +kernel
theorem dL_law_2071 : decode cL_law 2071 = .ok (.invokevirtual 255, 3) := by decide +kernel
theorem dL_law_2074 : decode cL_law 2074 = .ok (.istore 6, 2) := by decide +kernel
theorem dL_law_2076 : decode cL_law 2076 = .ok (.aload_n 2, 1) := by decide +kernel
theorem dL_law_2077 : decode cL_law 2077 = .ok (.invokevirtual 139, 3) := by decide +kernel
theorem dL_law_2080 : decode cL_law 2080 = .ok (.iload 5, 2) := by decide +kernel
theorem dL_law_2082 : decode cL_law 2082 = .ok (.if_icmp .eq 5, 3) := by decide +kernel
theorem dL_law_2085 : decode cL_law 2085 = .ok (.iconst 0, 1) := by decide +kernel
theorem dL_law_2086 : decode cL_law 2086 = .ok (.ireturn, 1) := by decide +kernel
theorem dL_law_2087 : decode cL_law 2087 = .ok (.iload 5, 2) := by decide +kernel
theorem dL_law_2089 : decode cL_law 2089 = .ok (.ifCond .ne 15, 3) := by decide +kernel
theorem dL_law_2092 : decode cL_law 2092 = .ok (.aload_n 3, 1) := by decide +kernel
theorem dL_law_2093 : decode cL_law 2093 = .ok (.iconst 0, 1) := by decide +kernel
theorem dL_law_2094 : decode cL_law 2094 = .ok (.laload, 1) := by decide +kernel
theorem dL_law_2095 : decode cL_law 2095 = .ok (.iload 6, 2) := by decide +kernel
theorem dL_law_2097 : decode cL_law 2097 = .ok (.i2l, 1) := by decide +kernel
theorem dL_law_2098 : decode cL_law 2098 = .ok (.lcmp, 1) := by decide +kernel
theorem dL_law_2099 : decode cL_law 2099 = .ok (.ifCond .eq 5, 3) := by decide +kernel
theorem dL_law_2102 : decode cL_law 2102 = .ok (.iconst 0, 1) := by decide +kernel
theorem dL_law_2103 : decode cL_law 2103 = .ok (.ireturn, 1) := by decide +kernel
theorem dL_law_2104 : decode cL_law 2104 = .ok (.goto 507, 3) := by decide +kernel
theorem dL_law_2107 : decode cL_law 2107 = .ok (.aload_n 1, 1) := by decide +kernel
theorem dL_law_2108 : decode cL_law 2108 = .ok (.aload_n 0, 1) := by decide +kernel
theorem dL_law_2109 : decode cL_law 2109 = .ok (.iload 4, 2) := by decide +kernel
theorem dL_law_2111 : decode cL_law 2111 = .ok (.iconst 1, 1) := by decide +kernel
theorem dL_law_2112 : decode cL_law 2112 = .ok (.iadd, 1) := by decide +kernel
theorem dL_law_2113 : decode cL_law 2113 = .ok (.iaload, 1) := by decide +kernel
theorem dL_law_2114 : decode cL_law 2114 = .ok (.aload_n 3, 1) := by decide +kernel
theorem dL_law_2115 : decode cL_law 2115 = .ok (.invokestatic 256, 3) := by decide +kernel
theorem dL_law_2118 : decode cL_law 2118 = .ok (.istore 5, 2) := by decide +kernel
theorem dL_law_2120 : decode cL_law 2120 = .ok (.aload_n 2, 1) := by decide +kernel
theorem dL_law_2121 : decode cL_law 2121 = .ok (.aload_n 0, 1) := by decide +kernel
theorem dL_law_2122 : decode cL_law 2122 = .ok (.iload 4, 2) := by decide +kernel
theorem dL_law_2124 : decode cL_law 2124 = .ok (.iconst 1, 1) := by decide +kernel
theorem dL_law_2125 : decode cL_law 2125 = .ok (.iadd, 1) := by decide +kernel
theorem dL_law_2126 : decode cL_law 2126 = .ok (.iaload, 1) := by decide +kernel
theorem dL_law_2127 : decode cL_law 2127 = .ok (.invokevirtual 258, 3) := by decide +kernel
theorem dL_law_2130 : decode cL_law 2130 = .ok (.istore 6, 2) := by decide +kernel
theorem dL_law_2132 : decode cL_law 2132 = .ok (.aload_n 2, 1) := by decide +kernel
theorem dL_law_2133 : decode cL_law 2133 = .ok (.invokevirtual 139, 3) := by decide +kernel
theorem dL_law_2136 : decode cL_law 2136 = .ok (.iload 5, 2) := by decide +kernel
theorem dL_law_2138 : decode cL_law 2138 = .ok (.if_icmp .eq 5, 3) := by decide +kernel
theorem dL_law_2141 : decode cL_law 2141 = .ok (.iconst 0, 1) := by decide +kernel
theorem dL_law_2142 : decode cL_law 2142 = .ok (.ireturn, 1) := by decide +kernel
theorem dL_law_2143 : decode cL_law 2143 = .ok (.iload 5, 2) := by decide +kernel
theorem dL_law_2145 : decode cL_law 2145 = .ok (.ifCond .ne 15, 3) := by decide +kernel
theorem dL_law_2148 : decode cL_law 2148 = .ok (.aload_n 3, 1) := by decide +kernel
theorem dL_law_2149 : decode cL_law 2149 = .ok (.iconst 0, 1) := by decide +kernel
theorem dL_law_2150 : decode cL_law 2150 = .ok (.laload, 1) := by decide +kernel
theorem dL_law_2151 : decode cL_law 2151 = .ok (.iload 6, 2) := by decide +kernel
theorem dL_law_2153 : decode cL_law 2153 = .ok (.i2l, 1) := by decide +kernel
theorem dL_law_2154 : decode cL_law 2154 = .ok (.lcmp, 1) := by decide +kernel
theorem dL_law_2155 : decode cL_law 2155 = .ok (.ifCond .eq 5, 3) := by decide +kernel
theorem dL_law_2158 : decode cL_law 2158 = .ok (.iconst 0, 1) := by decide +kernel
theorem dL_law_2159 : decode cL_law 2159 = .ok (.ireturn, 1) := by decide +kernel
theorem dL_law_2160 : decode cL_law 2160 = .ok (.goto 451, 3) := by decide +kernel
theorem dL_law_2163 : decode cL_law 2163 = .ok (.aload_n 1, 1) := by decide +kernel
theorem dL_law_2164 : decode cL_law 2164 = .ok (.aload_n 0, 1) := by decide +kernel
theorem dL_law_2165 : decode cL_law 2165 = .ok (.iload 4, 2) := by decide +kernel
theorem dL_law_2167 : decode cL_law 2167 = .ok (.iconst 1, 1) := by decide +kernel
theorem dL_law_2168 : decode cL_law 2168 = .ok (.iadd, 1) := by decide +kernel
theorem dL_law_2169 : decode cL_law 2169 = .ok (.iaload, 1) := by decide +kernel
theorem dL_law_2170 : decode cL_law 2170 = .ok (.aload_n 3, 1) := by decide +kernel
theorem dL_law_2171 : decode cL_law 2171 = .ok (.invokestatic 259, 3) := by decide +kernel
theorem dL_law_2174 : decode cL_law 2174 = .ok (.istore 5, 2) := by decide +kernel
theorem dL_law_2176 : decode cL_law 2176 = .ok (.aload_n 2, 1) := by decide +kernel
theorem dL_law_2177 : decode cL_law 2177 = .ok (.aload_n 0, 1) := by decide +kernel
theorem dL_law_2178 : decode cL_law 2178 = .ok (.iload 4, 2) := by decide +kernel
theorem dL_law_2180 : decode cL_law 2180 = .ok (.iconst 1, 1) := by decide +kernel
theorem dL_law_2181 : decode cL_law 2181 = .ok (.iadd, 1) := by decide +kernel
theorem dL_law_2182 : decode cL_law 2182 = .ok (.iaload, 1) := by decide +kernel
theorem dL_law_2183 : decode cL_law 2183 = .ok (.invokevirtual 261, 3) := by decide +kernel
theorem dL_law_2186 : decode cL_law 2186 = .ok (.istore 6, 2) := by decide +kernel
theorem dL_law_2188 : decode cL_law 2188 = .ok (.aload_n 2, 1) := by decide +kernel
theorem dL_law_2189 : decode cL_law 2189 = .ok (.invokevirtual 139, 3) := by decide +kernel
theorem dL_law_2192 : decode cL_law 2192 = .ok (.iload 5, 2) := by decide +kernel
theorem dL_law_2194 : decode cL_law 2194 = .ok (.if_icmp .eq 5, 3) := by decide +kernel
theorem dL_law_2197 : decode cL_law 2197 = .ok (.iconst 0, 1) := by decide +kernel
theorem dL_law_2198 : decode cL_law 2198 = .ok (.ireturn, 1) := by decide +kernel
theorem dL_law_2199 : decode cL_law 2199 = .ok (.iload 5, 2) := by decide +kernel
theorem dL_law_2201 : decode cL_law 2201 = .ok (.ifCond .ne 15, 3) := by decide +kernel
theorem dL_law_2204 : decode cL_law 2204 = .ok (.aload_n 3, 1) := by decide +kernel
theorem dL_law_2205 : decode cL_law 2205 = .ok (.iconst 0, 1) := by decide +kernel
theorem dL_law_2206 : decode cL_law 2206 = .ok (.laload, 1) := by decide +kernel
theorem dL_law_2207 : decode cL_law 2207 = .ok (.iload 6, 2) := by decide +kernel
theorem dL_law_2209 : decode cL_law 2209 = .ok (.i2l, 1) := by decide +kernel
theorem dL_law_2210 : decode cL_law 2210 = .ok (.lcmp, 1) := by decide +kernel
theorem dL_law_2211 : decode cL_law 2211 = .ok (.ifCond .eq 5, 3) := by decide +kernel
theorem dL_law_2214 : decode cL_law 2214 = .ok (.iconst 0, 1) := by decide +kernel
theorem dL_law_2215 : decode cL_law 2215 = .ok (.ireturn, 1) := by decide +kernel
theorem dL_law_2216 : decode cL_law 2216 = .ok (.goto 395, 3) := by decide +kernel
theorem dL_law_2219 : decode cL_law 2219 = .ok (.aload_n 1, 1) := by decide +kernel
theorem dL_law_2220 : decode cL_law 2220 = .ok (.aload_n 0, 1) := by decide +kernel
theorem dL_law_2221 : decode cL_law 2221 = .ok (.iload 4, 2) := by decide +kernel
theorem dL_law_2223 : decode cL_law 2223 = .ok (.iconst 1, 1) := by decide +kernel
theorem dL_law_2224 : decode cL_law 2224 = .ok (.iadd, 1) := by decide +kernel
theorem dL_law_2225 : decode cL_law 2225 = .ok (.iaload, 1) := by decide +kernel
theorem dL_law_2226 : decode cL_law 2226 = .ok (.aload_n 0, 1) := by decide +kernel
theorem dL_law_2227 : decode cL_law 2227 = .ok (.iload 4, 2) := by decide +kernel
theorem dL_law_2229 : decode cL_law 2229 = .ok (.iconst 2, 1) := by decide +kernel
theorem dL_law_2230 : decode cL_law 2230 = .ok (.iadd, 1) := by decide +kernel
theorem dL_law_2231 : decode cL_law 2231 = .ok (.iaload, 1) := by decide +kernel
theorem dL_law_2232 : decode cL_law 2232 = .ok (.aload_n 3, 1) := by decide +kernel
theorem dL_law_2233 : decode cL_law 2233 = .ok (.invokestatic 262, 3) := by decide +kernel
theorem dL_law_2236 : decode cL_law 2236 = .ok (.istore 5, 2) := by decide +kernel
theorem dL_law_2238 : decode cL_law 2238 = .ok (.aload_n 2, 1) := by decide +kernel
theorem dL_law_2239 : decode cL_law 2239 = .ok (.aload_n 0, 1) := by decide +kernel
theorem dL_law_2240 : decode cL_law 2240 = .ok (.iload 4, 2) := by decide +kernel
theorem dL_law_2242 : decode cL_law 2242 = .ok (.iconst 1, 1) := by decide +kernel
theorem dL_law_2243 : decode cL_law 2243 = .ok (.iadd, 1) := by decide +kernel
theorem dL_law_2244 : decode cL_law 2244 = .ok (.iaload, 1) := by decide +kernel
theorem dL_law_2245 : decode cL_law 2245 = .ok (.aload_n 0, 1) := by decide +kernel
theorem dL_law_2246 : decode cL_law 2246 = .ok (.iload 4, 2) := by decide +kernel
theorem dL_law_2248 : decode cL_law 2248 = .ok (.iconst 2, 1) := by decide +kernel
theorem dL_law_2249 : decode cL_law 2249 = .ok (.iadd, 1) := by decide +kernel
theorem dL_law_2250 : decode cL_law 2250 = .ok (.iaload, 1) := by decide +kernel
theorem dL_law_2251 : decode cL_law 2251 = .ok (.invokevirtual 264, 3) := by decide +kernel
theorem dL_law_2254 : decode cL_law 2254 = .ok (.istore 6, 2) := by decide +kernel
theorem dL_law_2256 : decode cL_law 2256 = .ok (.aload_n 2, 1) := by decide +kernel
theorem dL_law_2257 : decode cL_law 2257 = .ok (.invokevirtual 139, 3) := by decide +kernel
theorem dL_law_2260 : decode cL_law 2260 = .ok (.iload 5, 2) := by decide +kernel
theorem dL_law_2262 : decode cL_law 2262 = .ok (.if_icmp .eq 5, 3) := by decide +kernel
theorem dL_law_2265 : decode cL_law 2265 = .ok (.iconst 0, 1) := by decide +kernel
theorem dL_law_2266 : decode cL_law 2266 = .ok (.ireturn, 1) := by decide +kernel
theorem dL_law_2267 : decode cL_law 2267 = .ok (.iload 5, 2) := by decide +kernel
theorem dL_law_2269 : decode cL_law 2269 = .ok (.ifCond .ne 15, 3) := by decide +kernel
theorem dL_law_2272 : decode cL_law 2272 = .ok (.aload_n 3, 1) := by decide +kernel
theorem dL_law_2273 : decode cL_law 2273 = .ok (.iconst 0, 1) := by decide +kernel
theorem dL_law_2274 : decode cL_law 2274 = .ok (.laload, 1) := by decide +kernel
theorem dL_law_2275 : decode cL_law 2275 = .ok (.iload 6, 2) := by decide +kernel
theorem dL_law_2277 : decode cL_law 2277 = .ok (.i2l, 1) := by decide +kernel
theorem dL_law_2278 : decode cL_law 2278 = .ok (.lcmp, 1) := by decide +kernel
theorem dL_law_2279 : decode cL_law 2279 = .ok (.ifCond .eq 5, 3) := by decide +kernel
theorem dL_law_2282 : decode cL_law 2282 = .ok (.iconst 0, 1) := by decide +kernel
theorem dL_law_2283 : decode cL_law 2283 = .ok (.ireturn, 1) := by decide +kernel
theorem dL_law_2284 : decode cL_law 2284 = .ok (.goto 327, 3) := by decide +kernel
theorem dL_law_2287 : decode cL_law 2287 = .ok (.aload_n 1, 1) := by decide +kernel
theorem dL_law_2288 : decode cL_law 2288 = .ok (.aload_n 0, 1) := by decide +kernel
theorem dL_law_2289 : decode cL_law 2289 = .ok (.iload 4, 2) := by decide +kernel
theorem dL_law_2291 : decode cL_law 2291 = .ok (.iconst 1, 1) := by decide +kernel
theorem dL_law_2292 : decode cL_law 2292 = .ok (.iadd, 1) := by decide +kernel
theorem dL_law_2293 : decode cL_law 2293 = .ok (.iaload, 1) := by decide +kernel
theorem dL_law_2294 : decode cL_law 2294 = .ok (.aload_n 0, 1) := by decide +kernel
theorem dL_law_2295 : decode cL_law 2295 = .ok (.iload 4, 2) := by decide +kernel
theorem dL_law_2297 : decode cL_law 2297 = .ok (.iconst 2, 1) := by decide +kernel
theorem dL_law_2298 : decode cL_law 2298 = .ok (.iadd, 1) := by decide +kernel
theorem dL_law_2299 : decode cL_law 2299 = .ok (.iaload, 1) := by decide +kernel
theorem dL_law_2300 : decode cL_law 2300 = .ok (.aload_n 3, 1) := by decide +kernel
theorem dL_law_2301 : decode cL_law 2301 = .ok (.invokestatic 265, 3) := by decide +kernel
theorem dL_law_2304 : decode cL_law 2304 = .ok (.istore 5, 2) := by decide +kernel
theorem dL_law_2306 : decode cL_law 2306 = .ok (.aload_n 2, 1) := by decide +kernel
theorem dL_law_2307 : decode cL_law 2307 = .ok (.aload_n 0, 1) := by decide +kernel
theorem dL_law_2308 : decode cL_law 2308 = .ok (.iload 4, 2) := by decide +kernel
theorem dL_law_2310 : decode cL_law 2310 = .ok (.iconst 1, 1) := by decide +kernel
theorem dL_law_2311 : decode cL_law 2311 = .ok (.iadd, 1) := by decide +kernel
theorem dL_law_2312 : decode cL_law 2312 = .ok (.iaload, 1) := by decide +kernel
theorem dL_law_2313 : decode cL_law 2313 = .ok (.aload_n 0, 1) := by decide +kernel
theorem dL_law_2314 : decode cL_law 2314 = .ok (.iload 4, 2) := by decide +kernel
theorem dL_law_2316 : decode cL_law 2316 = .ok (.iconst 2, 1) := by decide +kernel
theorem dL_law_2317 : decode cL_law 2317 = .ok (.iadd, 1) := by decide +kernel
theorem dL_law_2318 : decode cL_law 2318 = .ok (.iaload, 1) := by decide +kernel
theorem dL_law_2319 : decode cL_law 2319 = .ok (.invokevirtual 267, 3) := by decide +kernel
theorem dL_law_2322 : decode cL_law 2322 = .ok (.istore 6, 2) := by decide +kernel
theorem dL_law_2324 : decode cL_law 2324 = .ok (.aload_n 2, 1) := by decide +kernel
theorem dL_law_2325 : decode cL_law 2325 = .ok (.invokevirtual 139, 3) := by decide +kernel
theorem dL_law_2328 : decode cL_law 2328 = .ok (.iload 5, 2) := by decide +kernel
theorem dL_law_2330 : decode cL_law 2330 = .ok (.if_icmp .eq 5, 3) := by decide +kernel
theorem dL_law_2333 : decode cL_law 2333 = .ok (.iconst 0, 1) := by decide +kernel
theorem dL_law_2334 : decode cL_law 2334 = .ok (.ireturn, 1) := by decide +kernel
theorem dL_law_2335 : decode cL_law 2335 = .ok (.iload 5, 2) := by decide +kernel
theorem dL_law_2337 : decode cL_law 2337 = .ok (.ifCond .ne 15, 3) := by decide +kernel
theorem dL_law_2340 : decode cL_law 2340 = .ok (.aload_n 3, 1) := by decide +kernel
theorem dL_law_2341 : decode cL_law 2341 = .ok (.iconst 0, 1) := by decide +kernel
theorem dL_law_2342 : decode cL_law 2342 = .ok (.laload, 1) := by decide +kernel
theorem dL_law_2343 : decode cL_law 2343 = .ok (.iload 6, 2) := by decide +kernel
theorem dL_law_2345 : decode cL_law 2345 = .ok (.i2l, 1) := by decide +kernel
theorem dL_law_2346 : decode cL_law 2346 = .ok (.lcmp, 1) := by decide +kernel
theorem dL_law_2347 : decode cL_law 2347 = .ok (.ifCond .eq 5, 3) := by decide +kernel
theorem dL_law_2350 : decode cL_law 2350 = .ok (.iconst 0, 1) := by decide +kernel
theorem dL_law_2351 : decode cL_law 2351 = .ok (.ireturn, 1) := by decide +kernel
theorem dL_law_2352 : decode cL_law 2352 = .ok (.goto 259, 3) := by decide +kernel
theorem dL_law_2355 : decode cL_law 2355 = .ok (.aload_n 1, 1) := by decide +kernel
theorem dL_law_2356 : decode cL_law 2356 = .ok (.aload_n 0, 1) := by decide +kernel
theorem dL_law_2357 : decode cL_law 2357 = .ok (.iload 4, 2) := by decide +kernel
theorem dL_law_2359 : decode cL_law 2359 = .ok (.iconst 1, 1) := by decide +kernel
theorem dL_law_2360 : decode cL_law 2360 = .ok (.iadd, 1) := by decide +kernel
theorem dL_law_2361 : decode cL_law 2361 = .ok (.iaload, 1) := by decide +kernel
theorem dL_law_2362 : decode cL_law 2362 = .ok (.aload_n 0, 1) := by decide +kernel
theorem dL_law_2363 : decode cL_law 2363 = .ok (.iload 4, 2) := by decide +kernel
theorem dL_law_2365 : decode cL_law 2365 = .ok (.iconst 2, 1) := by decide +kernel
theorem dL_law_2366 : decode cL_law 2366 = .ok (.iadd, 1) := by decide +kernel
theorem dL_law_2367 : decode cL_law 2367 = .ok (.iaload, 1) := by decide +kernel
theorem dL_law_2368 : decode cL_law 2368 = .ok (.aload_n 3, 1) := by decide +kernel
theorem dL_law_2369 : decode cL_law 2369 = .ok (.invokestatic 268, 3) := by decide +kernel
theorem dL_law_2372 : decode cL_law 2372 = .ok (.istore 5, 2) := by decide +kernel
theorem dL_law_2374 : decode cL_law 2374 = .ok (.aload_n 2, 1) := by decide +kernel
theorem dL_law_2375 : decode cL_law 2375 = .ok (.aload_n 0, 1) := by decide +kernel
theorem dL_law_2376 : decode cL_law 2376 = .ok (.iload 4, 2) := by decide +kernel
theorem dL_law_2378 : decode cL_law 2378 = .ok (.iconst 1, 1) := by decide +kernel
theorem dL_law_2379 : decode cL_law 2379 = .ok (.iadd, 1) := by decide +kernel
theorem dL_law_2380 : decode cL_law 2380 = .ok (.iaload, 1) := by decide +kernel
theorem dL_law_2381 : decode cL_law 2381 = .ok (.aload_n 0, 1) := by decide +kernel
theorem dL_law_2382 : decode cL_law 2382 = .ok (.iload 4, 2) := by decide +kernel
theorem dL_law_2384 : decode cL_law 2384 = .ok (.iconst 2, 1) := by decide +kernel
theorem dL_law_2385 : decode cL_law 2385 = .ok (.iadd, 1) := by decide +kernel
theorem dL_law_2386 : decode cL_law 2386 = .ok (.iaload, 1) := by decide +kernel
theorem dL_law_2387 : decode cL_law 2387 = .ok (.invokevirtual 270, 3) := by decide +kernel
theorem dL_law_2390 : decode cL_law 2390 = .ok (.istore 6, 2) := by decide +kernel
theorem dL_law_2392 : decode cL_law 2392 = .ok (.aload_n 2, 1) := by decide +kernel
theorem dL_law_2393 : decode cL_law 2393 = .ok (.invokevirtual 139, 3) := by decide +kernel
theorem dL_law_2396 : decode cL_law 2396 = .ok (.iload 5, 2) := by decide +kernel
theorem dL_law_2398 : decode cL_law 2398 = .ok (.if_icmp .eq 5, 3) := by decide +kernel
theorem dL_law_2401 : decode cL_law 2401 = .ok (.iconst 0, 1) := by decide +kernel
theorem dL_law_2402 : decode cL_law 2402 = .ok (.ireturn, 1) := by decide +kernel
theorem dL_law_2403 : decode cL_law 2403 = .ok (.iload 5, 2) := by decide +kernel
theorem dL_law_2405 : decode cL_law 2405 = .ok (.ifCond .ne 15, 3) := by decide +kernel
theorem dL_law_2408 : decode cL_law 2408 = .ok (.aload_n 3, 1) := by decide +kernel
theorem dL_law_2409 : decode cL_law 2409 = .ok (.iconst 0, 1) := by decide +kernel
theorem dL_law_2410 : decode cL_law 2410 = .ok (.laload, 1) := by decide +kernel
theorem dL_law_2411 : decode cL_law 2411 = .ok (.iload 6, 2) := by decide +kernel
theorem dL_law_2413 : decode cL_law 2413 = .ok (.i2l, 1) := by decide +kernel
theorem dL_law_2414 : decode cL_law 2414 = .ok (.lcmp, 1) := by decide +kernel
theorem dL_law_2415 : decode cL_law 2415 = .ok (.ifCond .eq 5, 3) := by decide +kernel
theorem dL_law_2418 : decode cL_law 2418 = .ok (.iconst 0, 1) := by decide +kernel
theorem dL_law_2419 : decode cL_law 2419 = .ok (.ireturn, 1) := by decide +kernel
theorem dL_law_2420 : decode cL_law 2420 = .ok (.goto 191, 3) := by decide +kernel
theorem dL_law_2423 : decode cL_law 2423 = .ok (.aload_n 1, 1) := by decide +kernel
theorem dL_law_2424 : decode cL_law 2424 = .ok (.aload_n 0, 1) := by decide +kernel
theorem dL_law_2425 : decode cL_law 2425 = .ok (.iload 4, 2) := by decide +kernel
theorem dL_law_2427 : decode cL_law 2427 = .ok (.iconst 1, 1) := by decide +kernel
theorem dL_law_2428 : decode cL_law 2428 = .ok (.iadd, 1) := by decide +kernel
theorem dL_law_2429 : decode cL_law 2429 = .ok (.iaload, 1) := by decide +kernel
theorem dL_law_2430 : decode cL_law 2430 = .ok (.aload_n 3, 1) := by decide +kernel
theorem dL_law_2431 : decode cL_law 2431 = .ok (.invokestatic 271, 3) := by decide +kernel
theorem dL_law_2434 : decode cL_law 2434 = .ok (.istore 5, 2) := by decide +kernel
theorem dL_law_2436 : decode cL_law 2436 = .ok (.aload_n 2, 1) := by decide +kernel
theorem dL_law_2437 : decode cL_law 2437 = .ok (.aload_n 0, 1) := by decide +kernel
theorem dL_law_2438 : decode cL_law 2438 = .ok (.iload 4, 2) := by decide +kernel
theorem dL_law_2440 : decode cL_law 2440 = .ok (.iconst 1, 1) := by decide +kernel
theorem dL_law_2441 : decode cL_law 2441 = .ok (.iadd, 1) := by decide +kernel
theorem dL_law_2442 : decode cL_law 2442 = .ok (.iaload, 1) := by decide +kernel
theorem dL_law_2443 : decode cL_law 2443 = .ok (.invokevirtual 273, 3) := by decide +kernel
theorem dL_law_2446 : decode cL_law 2446 = .ok (.istore 6, 2) := by decide +kernel
theorem dL_law_2448 : decode cL_law 2448 = .ok (.aload_n 2, 1) := by decide +kernel
theorem dL_law_2449 : decode cL_law 2449 = .ok (.invokevirtual 139, 3) := by decide +kernel
theorem dL_law_2452 : decode cL_law 2452 = .ok (.iload 5, 2) := by decide +kernel
theorem dL_law_2454 : decode cL_law 2454 = .ok (.if_icmp .eq 5, 3) := by decide +kernel
theorem dL_law_2457 : decode cL_law 2457 = .ok (.iconst 0, 1) := by decide +kernel
theorem dL_law_2458 : decode cL_law 2458 = .ok (.ireturn, 1) := by decide +kernel
theorem dL_law_2459 : decode cL_law 2459 = .ok (.iload 5, 2) := by decide +kernel
theorem dL_law_2461 : decode cL_law 2461 = .ok (.ifCond .ne 15, 3) := by decide +kernel
theorem dL_law_2464 : decode cL_law 2464 = .ok (.aload_n 3, 1) := by decide +kernel
theorem dL_law_2465 : decode cL_law 2465 = .ok (.iconst 0, 1) := by decide +kernel
theorem dL_law_2466 : decode cL_law 2466 = .ok (.laload, 1) := by decide +kernel
theorem dL_law_2467 : decode cL_law 2467 = .ok (.iload 6, 2) := by decide +kernel
theorem dL_law_2469 : decode cL_law 2469 = .ok (.i2l, 1) := by decide +kernel
theorem dL_law_2470 : decode cL_law 2470 = .ok (.lcmp, 1) := by decide +kernel
theorem dL_law_2471 : decode cL_law 2471 = .ok (.ifCond .eq 5, 3) := by decide +kernel
theorem dL_law_2474 : decode cL_law 2474 = .ok (.iconst 0, 1) := by decide +kernel
theorem dL_law_2475 : decode cL_law 2475 = .ok (.ireturn, 1) := by decide +kernel
theorem dL_law_2476 : decode cL_law 2476 = .ok (.goto 135, 3) := by decide +kernel
theorem dL_law_2479 : decode cL_law 2479 = .ok (.aload_n 1, 1) := by decide +kernel
theorem dL_law_2480 : decode cL_law 2480 = .ok (.aload_n 0, 1) := by decide +kernel
theorem dL_law_2481 : decode cL_law 2481 = .ok (.iload 4, 2) := by decide +kernel
theorem dL_law_2483 : decode cL_law 2483 = .ok (.iconst 1, 1) := by decide +kernel
theorem dL_law_2484 : decode cL_law 2484 = .ok (.iadd, 1) := by decide +kernel
theorem dL_law_2485 : decode cL_law 2485 = .ok (.iaload, 1) := by decide +kernel
theorem dL_law_2486 : decode cL_law 2486 = .ok (.aload_n 3, 1) := by decide +kernel
theorem dL_law_2487 : decode cL_law 2487 = .ok (.invokestatic 274, 3) := by decide +kernel
theorem dL_law_2490 : decode cL_law 2490 = .ok (.istore 5, 2) := by decide +kernel
theorem dL_law_2492 : decode cL_law 2492 = .ok (.aload_n 2, 1) := by decide +kernel
theorem dL_law_2493 : decode cL_law 2493 = .ok (.aload_n 0, 1) := by decide +kernel
theorem dL_law_2494 : decode cL_law 2494 = .ok (.iload 4, 2) := by decide +kernel
theorem dL_law_2496 : decode cL_law 2496 = .ok (.iconst 1, 1) := by decide +kernel
theorem dL_law_2497 : decode cL_law 2497 = .ok (.iadd, 1) := by decide +kernel
theorem dL_law_2498 : decode cL_law 2498 = .ok (.iaload, 1) := by decide +kernel
theorem dL_law_2499 : decode cL_law 2499 = .ok (.invokevirtual 276, 3) := by decide +kernel
theorem dL_law_2502 : decode cL_law 2502 = .ok (.istore 6, 2) := by decide +kernel
theorem dL_law_2504 : decode cL_law 2504 = .ok (.aload_n 2, 1) := by decide +kernel
theorem dL_law_2505 : decode cL_law 2505 = .ok (.invokevirtual 139, 3) := by decide +kernel
theorem dL_law_2508 : decode cL_law 2508 = .ok (.iload 5, 2) := by decide +kernel
theorem dL_law_2510 : decode cL_law 2510 = .ok (.if_icmp .eq 5, 3) := by decide +kernel
theorem dL_law_2513 : decode cL_law 2513 = .ok (.iconst 0, 1) := by decide +kernel
theorem dL_law_2514 : decode cL_law 2514 = .ok (.ireturn, 1) := by decide +kernel
theorem dL_law_2515 : decode cL_law 2515 = .ok (.iload 5, 2) := by decide +kernel
theorem dL_law_2517 : decode cL_law 2517 = .ok (.ifCond .ne 15, 3) := by decide +kernel
theorem dL_law_2520 : decode cL_law 2520 = .ok (.aload_n 3, 1) := by decide +kernel
theorem dL_law_2521 : decode cL_law 2521 = .ok (.iconst 0, 1) := by decide +kernel
theorem dL_law_2522 : decode cL_law 2522 = .ok (.laload, 1) := by decide +kernel
theorem dL_law_2523 : decode cL_law 2523 = .ok (.iload 6, 2) := by decide +kernel
theorem dL_law_2525 : decode cL_law 2525 = .ok (.i2l, 1) := by decide +kernel
theorem dL_law_2526 : decode cL_law 2526 = .ok (.lcmp, 1) := by decide +kernel
theorem dL_law_2527 : decode cL_law 2527 = .ok (.ifCond .eq 5, 3) := by decide +kernel
theorem dL_law_2530 : decode cL_law 2530 = .ok (.iconst 0, 1) := by decide +kernel
theorem dL_law_2531 : decode cL_law 2531 = .ok (.ireturn, 1) := by decide +kernel
theorem dL_law_2532 : decode cL_law 2532 = .ok (.goto 79, 3) := by decide +kernel
theorem dL_law_2535 : decode cL_law 2535 = .ok (.aload_n 1, 1) := by decide +kernel
theorem dL_law_2536 : decode cL_law 2536 = .ok (.aload_n 0, 1) := by decide +kernel
theorem dL_law_2537 : decode cL_law 2537 = .ok (.iload 4, 2) := by decide +kernel
theorem dL_law_2539 : decode cL_law 2539 = .ok (.iconst 1, 1) := by decide +kernel
theorem dL_law_2540 : decode cL_law 2540 = .ok (.iadd, 1) := by decide +kernel
theorem dL_law_2541 : decode cL_law 2541 = .ok (.iaload, 1) := by decide +kernel
theorem dL_law_2542 : decode cL_law 2542 = .ok (.aload_n 3, 1) := by decide +kernel
theorem dL_law_2543 : decode cL_law 2543 = .ok (.invokestatic 277, 3) := by decide +kernel
theorem dL_law_2546 : decode cL_law 2546 = .ok (.istore 5, 2) := by decide +kernel
theorem dL_law_2548 : decode cL_law 2548 = .ok (.aload_n 2, 1) := by decide +kernel
theorem dL_law_2549 : decode cL_law 2549 = .ok (.aload_n 0, 1) := by decide +kernel
theorem dL_law_2550 : decode cL_law 2550 = .ok (.iload 4, 2) := by decide +kernel
theorem dL_law_2552 : decode cL_law 2552 = .ok (.iconst 1, 1) := by decide +kernel
theorem dL_law_2553 : decode cL_law 2553 = .ok (.iadd, 1) := by decide +kernel
theorem dL_law_2554 : decode cL_law 2554 = .ok (.iaload, 1) := by decide +kernel
theorem dL_law_2555 : decode cL_law 2555 = .ok (.invokevirtual 279, 3) := by decide +kernel
theorem dL_law_2558 : decode cL_law 2558 = .ok (.istore 6, 2) := by decide +kernel
theorem dL_law_2560 : decode cL_law 2560 = .ok (.aload_n 2, 1) := by decide +kernel
theorem dL_law_2561 : decode cL_law 2561 = .ok (.invokevirtual 139, 3) := by decide +kernel
theorem dL_law_2564 : decode cL_law 2564 = .ok (.iload 5, 2) := by decide +kernel
theorem dL_law_2566 : decode cL_law 2566 = .ok (.if_icmp .eq 5, 3) := by decide +kernel
theorem dL_law_2569 : decode cL_law 2569 = .ok (.iconst 0, 1) := by decide +kernel
theorem dL_law_2570 : decode cL_law 2570 = .ok (.ireturn, 1) := by decide +kernel
theorem dL_law_2571 : decode cL_law 2571 = .ok (.iload 5, 2) := by decide +kernel
theorem dL_law_2573 : decode cL_law 2573 = .ok (.ifCond .ne 22, 3) := by decide +kernel
theorem dL_law_2576 : decode cL_law 2576 = .ok (.aload_n 3, 1) := by decide +kernel
theorem dL_law_2577 : decode cL_law 2577 = .ok (.iconst 0, 1) := by decide +kernel
theorem dL_law_2578 : decode cL_law 2578 = .ok (.laload, 1) := by decide +kernel
theorem dL_law_2579 : decode cL_law 2579 = .ok (.iload 6, 2) := by decide +kernel
theorem dL_law_2581 : decode cL_law 2581 = .ok (.ifCond .eq 7, 3) := by decide +kernel
theorem dL_law_2584 : decode cL_law 2584 = .ok (.lconst 1, 1) := by decide +kernel
theorem dL_law_2585 : decode cL_law 2585 = .ok (.goto 4, 3) := by decide +kernel
theorem dL_law_2588 : decode cL_law 2588 = .ok (.lconst 0, 1) := by decide +kernel
theorem dL_law_2589 : decode cL_law 2589 = .ok (.lcmp, 1) := by decide +kernel
theorem dL_law_2590 : decode cL_law 2590 = .ok (.ifCond .eq 5, 3) := by decide +kernel
theorem dL_law_2593 : decode cL_law 2593 = .ok (.iconst 0, 1) := by decide +kernel
theorem dL_law_2594 : decode cL_law 2594 = .ok (.ireturn, 1) := by decide +kernel
theorem dL_law_2595 : decode cL_law 2595 = .ok (.goto 16, 3) := by decide +kernel
theorem dL_law_2598 : decode cL_law 2598 = .ok (.aload_n 1, 1) := by decide +kernel
theorem dL_law_2599 : decode cL_law 2599 = .ok (.invokevirtual 280, 3) := by decide +kernel
theorem dL_law_2602 : decode cL_law 2602 = .ok (.aload_n 2, 1) := by decide +kernel
theorem dL_law_2603 : decode cL_law 2603 = .ok (.invokevirtual 283, 3) := by decide +kernel
theorem dL_law_2606 : decode cL_law 2606 = .ok (.if_icmp .eq 5, 3) := by decide +kernel
theorem dL_law_2609 : decode cL_law 2609 = .ok (.iconst 0, 1) := by decide +kernel
theorem dL_law_2610 : decode cL_law 2610 = .ok (.ireturn, 1) := by decide +kernel
theorem dL_law_2611 : decode cL_law 2611 = .ok (.iinc 4 6, 3) := by decide +kernel
theorem dL_law_2614 : decode cL_law 2614 = .ok (.goto (-2591), 3) := by decide +kernel
theorem dL_law_2617 : decode cL_law 2617 = .ok (.iconst 1, 1) := by decide +kernel
theorem dL_law_2618 : decode cL_law 2618 = .ok (.ireturn, 1) := by decide +kernel
