theorem dL_law_2023 : decode cL_law 2023 = .ok (.iadd, 1) := by decide +kernel
theorem dL_law_2024 : decode cL_law 2024 = .ok (.iaload, 1) := by decide +kernel
theorem dL_law_2025 : decode cL_law 2025 = .ok (.aload_n 0, 1) := by decide +kernel
theorem dL_law_2026 : decode cL_law 2026 = .ok (.iload 5, 2) := by decide +kernel
theorem dL_law_2028 : decode cL_law 2028 = .ok (.iconst 2, 1) := by decide +kernel
theorem dL_law_2029 : decode cL_law 2029 = .ok (.iadd, 1) := by decide +kernel
theorem dL_law_2030 : decode cL_law 2030 = .ok (.iaload, 1) := by decide +kernel
theorem dL_law_2031 : decode cL_law 2031 = .ok (.i2c, 1) := by decide +kernel
theorem dL_law_2032 : decode cL_law 2032 = .ok (.invokevirtual 270, 3) := by decide +kernel
theorem dL_law_2035 : decode cL_law 2035 = .ok (.istore 7, 2) := by decide +kernel
theorem dL_law_2037 : decode cL_law 2037 = .ok (.aload_n 2, 1) := by decide +kernel
theorem dL_law_2038 : decode cL_law 2038 = .ok (.invokevirtual 183, 3) := by decide +kernel
theorem dL_law_2041 : decode cL_law 2041 = .ok (.iload 6, 2) := by decide +kernel
theorem dL_law_2043 : decode cL_law 2043 = .ok (.if_icmp .eq 5, 3) := by decide +kernel
theorem dL_law_2048 : decode cL_law 2048 = .ok (.iload 6, 2) := by decide +kernel
theorem dL_law_2050 : decode cL_law 2050 = .ok (.ifCond .ne 15, 3) := by decide +kernel
theorem dL_law_2065 : decode cL_law 2065 = .ok (.goto 1456, 3) := by decide +kernel
theorem dL_law_2068 : decode cL_law 2068 = .ok (.aload_n 1, 1) := by decide +kernel
theorem dL_law_2069 : decode cL_law 2069 = .ok (.aload_n 0, 1) := by decide +kernel
theorem dL_law_2070 : decode cL_law 2070 = .ok (.iload 5, 2) := by decide +kernel
theorem dL_law_2072 : decode cL_law 2072 = .ok (.iconst 1, 1) := by decide +kernel
theorem dL_law_2073 : decode cL_law 2073 = .ok (.iadd, 1) := by decide +kernel
theorem dL_law_2074 : decode cL_law 2074 = .ok (.iaload, 1) := by decide +kernel
theorem dL_law_2075 : decode cL_law 2075 = .ok (.aload_n 3, 1) := by decide +kernel
theorem dL_law_2076 : decode cL_law 2076 = .ok (.invokestatic 271, 3) := by decide +kernel
theorem dL_law_2079 : decode cL_law 2079 = .ok (.istore 6, 2) := by decide +kernel
theorem dL_law_2081 : decode cL_law 2081 = .ok (.aload_n 2, 1) := by decide +kernel
theorem dL_law_2082 : decode cL_law 2082 = .ok (.aload_n 0, 1) := by decide +kernel
theorem dL_law_2083 : decode cL_law 2083 = .ok (.iload 5, 2) := by decide +kernel
theorem dL_law_2085 : decode cL_law 2085 = .ok (.iconst 1, 1) := by decide +kernel
theorem dL_law_2086 : decode cL_law 2086 = .ok (.iadd, 1) := by decide +kernel
theorem dL_law_2087 : decode cL_law 2087 = .ok (.iaload, 1) := by decide +kernel
theorem dL_law_2088 : decode cL_law 2088 = .ok (.invokevirtual 273, 3) := by decide +kernel
theorem dL_law_2091 : decode cL_law 2091 = .ok (.istore 7, 2) := by decide +kernel
theorem dL_law_2093 : decode cL_law 2093 = .ok (.aload_n 2, 1) := by decide +kernel
theorem dL_law_2094 : decode cL_law 2094 = .ok (.invokevirtual 183, 3) := by decide +kernel
theorem dL_law_2097 : decode cL_law 2097 = .ok (.iload 6, 2) := by decide +kernel
theorem dL_law_2099 : decode cL_law 2099 = .ok (.if_icmp .eq 5, 3) := by decide +kernel
theorem dL_law_2104 : decode cL_law 2104 = .ok (.iload 6, 2) := by decide +kernel
theorem dL_law_2106 : decode cL_law 2106 = .ok (.ifCond .ne 15, 3) := by decide +kernel
theorem dL_law_2121 : decode cL_law 2121 = .ok (.goto 1400, 3) := by decide +kernel
theorem dL_law_2124 : decode cL_law 2124 = .ok (.aload_n 1, 1) := by decide +kernel
theorem dL_law_2125 : decode cL_law 2125 = .ok (.aload_n 0, 1) := by decide +kernel
theorem dL_law_2126 : decode cL_law 2126 = .ok (.iload 5, 2) := by decide +kernel
theorem dL_law_2128 : decode cL_law 2128 = .ok (.iconst 1, 1) := by decide +kernel
theorem dL_law_2129 : decode cL_law 2129 = .ok (.iadd, 1) := by decide +kernel
theorem dL_law_2130 : decode cL_law 2130 = .ok (.iaload, 1) := by decide +kernel
theorem dL_law_2131 : decode cL_law 2131 = .ok (.aload_n 3, 1) := by decide +kernel
theorem dL_law_2132 : decode cL_law 2132 = .ok (.invokestatic 274, 3) := by decide +kernel
theorem dL_law_2135 : decode cL_law 2135 = .ok (.istore 6, 2) := by decide +kernel
theorem dL_law_2137 : decode cL_law 2137 = .ok (.aload_n 2, 1) := by decide +kernel
theorem dL_law_2138 : decode cL_law 2138 = .ok (.aload_n 0, 1) := by decide +kernel
theorem dL_law_2139 : decode cL_law 2139 = .ok (.iload 5, 2) := by decide +kernel
theorem dL_law_2141 : decode cL_law 2141 = .ok (.iconst 1, 1) := by decide +kernel
theorem dL_law_2142 : decode cL_law 2142 = .ok (.iadd, 1) := by decide +kernel
theorem dL_law_2143 : decode cL_law 2143 = .ok (.iaload, 1) := by decide +kernel
theorem dL_law_2144 : decode cL_law 2144 = .ok (.invokevirtual 276, 3) := by decide +kernel
theorem dL_law_2147 : decode cL_law 2147 = .ok (.istore 7, 2) := by decide +kernel
theorem dL_law_2149 : decode cL_law 2149 = .ok (.aload_n 2, 1) := by decide +kernel
theorem dL_law_2150 : decode cL_law 2150 = .ok (.invokevirtual 183, 3) := by decide +kernel
theorem dL_law_2153 : decode cL_law 2153 = .ok (.iload 6, 2) := by decide +kernel
theorem dL_law_2155 : decode cL_law 2155 = .ok (.if_icmp .eq 5, 3) := by decide +kernel
theorem dL_law_2160 : decode cL_law 2160 = .ok (.iload 6, 2) := by decide +kernel
theorem dL_law_2162 : decode cL_law 2162 = .ok (.ifCond .ne 22, 3) := by decide +kernel
theorem dL_law_2184 : decode cL_law 2184 = .ok (.goto 1337, 3) := by decide +kernel
theorem dL_law_2187 : decode cL_law 2187 = .ok (.aload_n 1, 1) := by decide +kernel
theorem dL_law_2188 : decode cL_law 2188 = .ok (.aload_n 0, 1) := by decide +kernel
theorem dL_law_2189 : decode cL_law 2189 = .ok (.iload 5, 2) := by decide +kernel
theorem dL_law_2191 : decode cL_law 2191 = .ok (.iconst 1, 1) := by decide +kernel
theorem dL_law_2192 : decode cL_law 2192 = .ok (.iadd, 1) := by decide +kernel
theorem dL_law_2193 : decode cL_law 2193 = .ok (.iaload, 1) := by decide +kernel
theorem dL_law_2194 : decode cL_law 2194 = .ok (.aload_n 0, 1) := by decide +kernel
theorem dL_law_2195 : decode cL_law 2195 = .ok (.iload 5, 2) := by decide +kernel
theorem dL_law_2197 : decode cL_law 2197 = .ok (.iconst 2, 1) := by decide +kernel
theorem dL_law_2198 : decode cL_law 2198 = .ok (.iadd, 1) := by decide +kernel
theorem dL_law_2199 : decode cL_law 2199 = .ok (.iaload, 1) := by decide +kernel
theorem dL_law_2200 : decode cL_law 2200 = .ok (.aload_n 0, 1) := by decide +kernel
theorem dL_law_2201 : decode cL_law 2201 = .ok (.iload 5, 2) := by decide +kernel
theorem dL_law_2203 : decode cL_law 2203 = .ok (.iconst 3, 1) := by decide +kernel
theorem dL_law_2204 : decode cL_law 2204 = .ok (.iadd, 1) := by decide +kernel
theorem dL_law_2205 : decode cL_law 2205 = .ok (.iaload, 1) := by decide +kernel
theorem dL_law_2206 : decode cL_law 2206 = .ok (.aload_n 0, 1) := by decide +kernel
theorem dL_law_2207 : decode cL_law 2207 = .ok (.iload 5, 2) := by decide +kernel
theorem dL_law_2209 : decode cL_law 2209 = .ok (.iconst 4, 1) := by decide +kernel
theorem dL_law_2210 : decode cL_law 2210 = .ok (.iadd, 1) := by decide +kernel
theorem dL_law_2211 : decode cL_law 2211 = .ok (.iaload, 1) := by decide +kernel
theorem dL_law_2212 : decode cL_law 2212 = .ok (.aload_n 3, 1) := by decide +kernel
theorem dL_law_2213 : decode cL_law 2213 = .ok (.invokestatic 277, 3) := by decide +kernel
theorem dL_law_2216 : decode cL_law 2216 = .ok (.istore 6, 2) := by decide +kernel
theorem dL_law_2218 : decode cL_law 2218 = .ok (.aload_n 2, 1) := by decide +kernel
theorem dL_law_2219 : decode cL_law 2219 = .ok (.aload_n 0, 1) := by decide +kernel
theorem dL_law_2220 : decode cL_law 2220 = .ok (.iload 5, 2) := by decide +kernel
theorem dL_law_2222 : decode cL_law 2222 = .ok (.iconst 1, 1) := by decide +kernel
theorem dL_law_2223 : decode cL_law 2223 = .ok (.iadd, 1) := by decide +kernel
theorem dL_law_2224 : decode cL_law 2224 = .ok (.iaload, 1) := by decide +kernel
theorem dL_law_2225 : decode cL_law 2225 = .ok (.aload_n 0, 1) := by decide +kernel
theorem dL_law_2226 : decode cL_law 2226 = .ok (.iload 5, 2) := by decide +kernel
theorem dL_law_2228 : decode cL_law 2228 = .ok (.iconst 2, 1) := by decide +kernel
theorem dL_law_2229 : decode cL_law 2229 = .ok (.iadd, 1) := by decide +kernel
theorem dL_law_2230 : decode cL_law 2230 = .ok (.iaload, 1) := by decide +kernel
theorem dL_law_2231 : decode cL_law 2231 = .ok (.aload_n 0, 1) := by decide +kernel
theorem dL_law_2232 : decode cL_law 2232 = .ok (.iload 5, 2) := by decide +kernel
theorem dL_law_2234 : decode cL_law 2234 = .ok (.iconst 3, 1) := by decide +kernel
theorem dL_law_2235 : decode cL_law 2235 = .ok (.iadd, 1) := by decide +kernel
theorem dL_law_2236 : decode cL_law 2236 = .ok (.iaload, 1) := by decide +kernel
theorem dL_law_2237 : decode cL_law 2237 = .ok (.aload_n 0, 1) := by decide +kernel
theorem dL_law_2238 : decode cL_law 2238 = .ok (.iload 5, 2) := by decide +kernel
theorem dL_law_2240 : decode cL_law 2240 = .ok (.iconst 4, 1) := by decide +kernel
theorem dL_law_2241 : decode cL_law 2241 = .ok (.iadd, 1) := by decide +kernel
theorem dL_law_2242 : decode cL_law 2242 = .ok (.iaload, 1) := by decide +kernel
theorem dL_law_2243 : decode cL_law 2243 = .ok (.invokevirtual 279, 3) := by decide +kernel
theorem dL_law_2246 : decode cL_law 2246 = .ok (.istore 7, 2) := by decide +kernel
theorem dL_law_2248 : decode cL_law 2248 = .ok (.aload_n 2, 1) := by decide +kernel
theorem dL_law_2249 : decode cL_law 2249 = .ok (.invokevirtual 183, 3) := by decide +kernel
theorem dL_law_2252 : decode cL_law 2252 = .ok (.iload 6, 2) := by decide +kernel
theorem dL_law_2254 : decode cL_law 2254 = .ok (.if_icmp .eq 5, 3) := by decide +kernel
theorem dL_law_2259 : decode cL_law 2259 = .ok (.iload 6, 2) := by decide +kernel
theorem dL_law_2261 : decode cL_law 2261 = .ok (.ifCond .ne 15, 3) := by decide +kernel
theorem dL_law_2276 : decode cL_law 2276 = .ok (.goto 1245, 3) := by decide +kernel
theorem dL_law_2279 : decode cL_law 2279 = .ok (.aload_n 1, 1) := by decide +kernel
theorem dL_law_2280 : decode cL_law 2280 = .ok (.aload_n 0, 1) := by decide +kernel
theorem dL_law_2281 : decode cL_law 2281 = .ok (.iload 5, 2) := by decide +kernel
theorem dL_law_2283 : decode cL_law 2283 = .ok (.iconst 1, 1) := by decide +kernel
theorem dL_law_2284 : decode cL_law 2284 = .ok (.iadd, 1) := by decide +kernel
theorem dL_law_2285 : decode cL_law 2285 = .ok (.iaload, 1) := by decide +kernel
theorem dL_law_2286 : decode cL_law 2286 = .ok (.aload_n 0, 1) := by decide +kernel
theorem dL_law_2287 : decode cL_law 2287 = .ok (.iload 5, 2) := by decide +kernel
theorem dL_law_2289 : decode cL_law 2289 = .ok (.iconst 2, 1) := by decide +kernel
theorem dL_law_2290 : decode cL_law 2290 = .ok (.iadd, 1) := by decide +kernel
theorem dL_law_2291 : decode cL_law 2291 = .ok (.iaload, 1) := by decide +kernel
theorem dL_law_2292 : decode cL_law 2292 = .ok (.aload_n 0, 1) := by decide +kernel
theorem dL_law_2293 : decode cL_law 2293 = .ok (.iload 5, 2) := by decide +kernel
theorem dL_law_2295 : decode cL_law 2295 = .ok (.iconst 3, 1) := by decide +kernel
theorem dL_law_2296 : decode cL_law 2296 = .ok (.iadd, 1) := by decide +kernel
theorem dL_law_2297 : decode cL_law 2297 = .ok (.iaload, 1) := by decide +kernel
theorem dL_law_2298 : decode cL_law 2298 = .ok (.ifCond .eq 7, 3) := by decide +kernel
theorem dL_law_2301 : decode cL_law 2301 = .ok (.iconst 1, 1) := by decide +kernel
theorem dL_law_2302 : decode cL_law 2302 = .ok (.goto 4, 3) := by decide +kernel
theorem dL_law_2305 : decode cL_law 2305 = .ok (.iconst 0, 1) := by decide +kernel
theorem dL_law_2306 : decode cL_law 2306 = .ok (.aload_n 3, 1) := by decide +kernel
theorem dL_law_2307 : decode cL_law 2307 = .ok (.invokestatic 280, 3) := by decide +kernel
theorem dL_law_2310 : decode cL_law 2310 = .ok (.istore 6, 2) := by decide +kernel
theorem dL_law_2312 : decode cL_law 2312 = .ok (.aload_n 2, 1) := by decide +kernel
theorem dL_law_2313 : decode cL_law 2313 = .ok (.aload_n 0, 1) := by decide +kernel
theorem dL_law_2314 : decode cL_law 2314 = .ok (.iload 5, 2) := by decide +kernel
theorem dL_law_2316 : decode cL_law 2316 = .ok (.iconst 1, 1) := by decide +kernel
theorem dL_law_2317 : decode cL_law 2317 = .ok (.iadd, 1) := by decide +kernel
theorem dL_law_2318 : decode cL_law 2318 = .ok (.iaload, 1) := by decide +kernel
theorem dL_law_2319 : decode cL_law 2319 = .ok (.aload_n 0, 1) := by decide +kernel
theorem dL_law_2320 : decode cL_law 2320 = .ok (.iload 5, 2) := by decide +kernel
theorem dL_law_2322 : decode cL_law 2322 = .ok (.iconst 2, 1) := by decide +kernel
theorem dL_law_2323 : decode cL_law 2323 = .ok (.iadd, 1) := by decide +kernel
theorem dL_law_2324 : decode cL_law 2324 = .ok (.iaload, 1) := by decide +kernel
theorem dL_law_2325 : decode cL_law 2325 = .ok (.aload_n 0, 1) := by decide +kernel
theorem dL_law_2326 : decode cL_law 2326 = .ok (.iload 5, 2) := by decide +kernel
theorem dL_law_2328 : decode cL_law 2328 = .ok (.iconst 3, 1) := by decide +kernel
theorem dL_law_2329 : decode cL_law 2329 = .ok (.iadd, 1) := by decide +kernel
theorem dL_law_2330 : decode cL_law 2330 = .ok (.iaload, 1) := by decide +kernel
theorem dL_law_2331 : decode cL_law 2331 = .ok (.ifCond .eq 7, 3) := by decide +kernel
theorem dL_law_2334 : decode cL_law 2334 = .ok (.iconst 1, 1) := by decide +kernel
theorem dL_law_2335 : decode cL_law 2335 = .ok (.goto 4, 3) := by decide +kernel
theorem dL_law_2338 : decode cL_law 2338 = .ok (.iconst 0, 1) := by decide +kernel
theorem dL_law_2339 : decode cL_law 2339 = .ok (.invokevirtual 282, 3) := by decide +kernel
theorem dL_law_2342 : decode cL_law 2342 = .ok (.istore 7, 2) := by decide +kernel
theorem dL_law_2344 : decode cL_law 2344 = .ok (.aload_n 2, 1) := by decide +kernel
theorem dL_law_2345 : decode cL_law 2345 = .ok (.invokevirtual 183, 3) := by decide +kernel
theorem dL_law_2348 : decode cL_law 2348 = .ok (.iload 6, 2) := by decide +kernel
theorem dL_law_2350 : decode cL_law 2350 = .ok (.if_icmp .eq 5, 3) := by decide +kernel
theorem dL_law_2355 : decode cL_law 2355 = .ok (.iload 6, 2) := by decide +kernel
theorem dL_law_2357 : decode cL_law 2357 = .ok (.ifCond .ne 15, 3) := by decide +kernel
theorem dL_law_2372 : decode cL_law 2372 = .ok (.goto 1149, 3) := by decide +kernel
theorem dL_law_2375 : decode cL_law 2375 = .ok (.aload_n 1, 1) := by decide +kernel
theorem dL_law_2376 : decode cL_law 2376 = .ok (.aload_n 0, 1) := by decide +kernel
theorem dL_law_2377 : decode cL_law 2377 = .ok (.iload 5, 2) := by decide +kernel
theorem dL_law_2379 : decode cL_law 2379 = .ok (.iconst 1, 1) := by decide +kernel
theorem dL_law_2380 : decode cL_law 2380 = .ok (.iadd, 1) := by decide +kernel
theorem dL_law_2381 : decode cL_law 2381 = .ok (.iaload, 1) := by decide +kernel
theorem dL_law_2382 : decode cL_law 2382 = .ok (.aload_n 0, 1) := by decide +kernel
theorem dL_law_2383 : decode cL_law 2383 = .ok (.iload 5, 2) := by decide +kernel
theorem dL_law_2385 : decode cL_law 2385 = .ok (.iconst 2, 1) := by decide +kernel
theorem dL_law_2386 : decode cL_law 2386 = .ok (.iadd, 1) := by decide +kernel
theorem dL_law_2387 : decode cL_law 2387 = .ok (.iaload, 1) := by decide +kernel
theorem dL_law_2388 : decode cL_law 2388 = .ok (.aload_n 0, 1) := by decide +kernel
theorem dL_law_2389 : decode cL_law 2389 = .ok (.iload 5, 2) := by decide +kernel
theorem dL_law_2391 : decode cL_law 2391 = .ok (.iconst 3, 1) := by decide +kernel
theorem dL_law_2392 : decode cL_law 2392 = .ok (.iadd, 1) := by decide +kernel
theorem dL_law_2393 : decode cL_law 2393 = .ok (.iaload, 1) := by decide +kernel
theorem dL_law_2394 : decode cL_law 2394 = .ok (.ifCond .eq 7, 3) := by decide +kernel
theorem dL_law_2397 : decode cL_law 2397 = .ok (.iconst 1, 1) := by decide +kernel
theorem dL_law_2398 : decode cL_law 2398 = .ok (.goto 4, 3) := by decide +kernel
theorem dL_law_2401 : decode cL_law 2401 = .ok (.iconst 0, 1) := by decide +kernel
theorem dL_law_2402 : decode cL_law 2402 = .ok (.aload_n 3, 1) := by decide +kernel
theorem dL_law_2403 : decode cL_law 2403 = .ok (.invokestatic 283, 3) := by decide +kernel
theorem dL_law_2406 : decode cL_law 2406 = .ok (.istore 6, 2) := by decide +kernel
theorem dL_law_2408 : decode cL_law 2408 = .ok (.aload_n 2, 1) := by decide +kernel
theorem dL_law_2409 : decode cL_law 2409 = .ok (.aload_n 0, 1) := by decide +kernel
theorem dL_law_2410 : decode cL_law 2410 = .ok (.iload 5, 2) := by decide +kernel
theorem dL_law_2412 : decode cL_law 2412 = .ok (.iconst 1, 1) := by decide +kernel
theorem dL_law_2413 : decode cL_law 2413 = .ok (.iadd, 1) := by decide +kernel
theorem dL_law_2414 : decode cL_law 2414 = .ok (.iaload, 1) := by decide +kernel
theorem dL_law_2415 : decode cL_law 2415 = .ok (.aload_n 0, 1) := by decide +kernel
theorem dL_law_2416 : decode cL_law 2416 = .ok (.iload 5, 2) := by decide +kernel
theorem dL_law_2418 : decode cL_law 2418 = .ok (.iconst 2, 1) := by decide +kernel
theorem dL_law_2419 : decode cL_law 2419 = .ok (.iadd, 1) := by decide +kernel
theorem dL_law_2420 : decode cL_law 2420 = .ok (.iaload, 1) := by decide +kernel
theorem dL_law_2421 : decode cL_law 2421 = .ok (.aload_n 0, 1) := by decide +kernel
theorem dL_law_2422 : decode cL_law 2422 = .ok (.iload 5, 2) := by decide +kernel
theorem dL_law_2424 : decode cL_law 2424 = .ok (.iconst 3, 1) := by decide +kernel
theorem dL_law_2425 : decode cL_law 2425 = .ok (.iadd, 1) := by decide +kernel
theorem dL_law_2426 : decode cL_law 2426 = .ok (.iaload, 1) := by decide +kernel
theorem dL_law_2427 : decode cL_law 2427 = .ok (.ifCond .eq 7, 3) := by decide +kernel
theorem dL_law_2430 : decode cL_law 2430 = .ok (.iconst 1, 1) := by decide +kernel
theorem dL_law_2431 : decode cL_law 2431 = .ok (.goto 4, 3) := by decide +kernel
theorem dL_law_2434 : decode cL_law 2434 = .ok (.iconst 0, 1) := by decide +kernel
theorem dL_law_2435 : decode cL_law 2435 = .ok (.invokevirtual 285, 3) := by decide +kernel
theorem dL_law_2438 : decode cL_law 2438 = .ok (.istore 7, 2) := by decide +kernel
theorem dL_law_2440 : decode cL_law 2440 = .ok (.aload_n 2, 1) := by decide +kernel
theorem dL_law_2441 : decode cL_law 2441 = .ok (.invokevirtual 183, 3) := by decide +kernel
theorem dL_law_2444 : decode cL_law 2444 = .ok (.iload 6, 2) := by decide +kernel
theorem dL_law_2446 : decode cL_law 2446 = .ok (.if_icmp .eq 5, 3) := by decide +kernel
theorem dL_law_2451 : decode cL_law 2451 = .ok (.iload 6, 2) := by decide +kernel
theorem dL_law_2453 : decode cL_law 2453 = .ok (.ifCond .ne 15, 3) := by decide +kernel
theorem dL_law_2468 : decode cL_law 2468 = .ok (.goto 1053, 3) := by decide +kernel
theorem dL_law_2471 : decode cL_law 2471 = .ok (.aload_n 1, 1) := by decide +kernel
theorem dL_law_2472 : decode cL_law 2472 = .ok (.aload_n 0, 1) := by decide +kernel
theorem dL_law_2473 : decode cL_law 2473 = .ok (.iload 5, 2) := by decide +kernel
theorem dL_law_2475 : decode cL_law 2475 = .ok (.iconst 1, 1) := by decide +kernel
theorem dL_law_2476 : decode cL_law 2476 = .ok (.iadd, 1) := by decide +kernel
theorem dL_law_2477 : decode cL_law 2477 = .ok (.iaload, 1) := by decide +kernel
theorem dL_law_2478 : decode cL_law 2478 = .ok (.aload_n 0, 1) := by decide +kernel
theorem dL_law_2479 : decode cL_law 2479 = .ok (.iload 5, 2) := by decide +kernel
theorem dL_law_2481 : decode cL_law 2481 = .ok (.iconst 2, 1) := by decide +kernel
theorem dL_law_2482 : decode cL_law 2482 = .ok (.iadd, 1) := by decide +kernel
theorem dL_law_2483 : decode cL_law 2483 = .ok (.iaload, 1) := by decide +kernel
theorem dL_law_2484 : decode cL_law 2484 = .ok (.aload_n 0, 1) := by decide +kernel
theorem dL_law_2485 : decode cL_law 2485 = .ok (.iload 5, 2) := by decide +kernel
theorem dL_law_2487 : decode cL_law 2487 = .ok (.iconst 3, 1) := by decide +kernel
theorem dL_law_2488 : decode cL_law 2488 = .ok (.iadd, 1) := by decide +kernel
theorem dL_law_2489 : decode cL_law 2489 = .ok (.iaload, 1) := by decide +kernel
theorem dL_law_2490 : decode cL_law 2490 = .ok (.aload_n 3, 1) := by decide +kernel
theorem dL_law_2491 : decode cL_law 2491 = .ok (.invokestatic 286, 3) := by decide +kernel
theorem dL_law_2494 : decode cL_law 2494 = .ok (.istore 6, 2) := by decide +kernel
theorem dL_law_2496 : decode cL_law 2496 = .ok (.aload_n 2, 1) := by decide +kernel
theorem dL_law_2497 : decode cL_law 2497 = .ok (.aload_n 0, 1) := by decide +kernel
theorem dL_law_2498 : decode cL_law 2498 = .ok (.iload 5, 2) := by decide +kernel
theorem dL_law_2500 : decode cL_law 2500 = .ok (.iconst 1, 1) := by decide +kernel
theorem dL_law_2501 : decode cL_law 2501 = .ok (.iadd, 1) := by decide +kernel
theorem dL_law_2502 : decode cL_law 2502 = .ok (.iaload, 1) := by decide +kernel
theorem dL_law_2503 : decode cL_law 2503 = .ok (.aload_n 0, 1) := by decide +kernel
theorem dL_law_2504 : decode cL_law 2504 = .ok (.iload 5, 2) := by decide +kernel
theorem dL_law_2506 : decode cL_law 2506 = .ok (.iconst 2, 1) := by decide +kernel
theorem dL_law_2507 : decode cL_law 2507 = .ok (.iadd, 1) := by decide +kernel
theorem dL_law_2508 : decode cL_law 2508 = .ok (.iaload, 1) := by decide +kernel
theorem dL_law_2509 : decode cL_law 2509 = .ok (.aload_n 0, 1) := by decide +kernel
theorem dL_law_2510 : decode cL_law 2510 = .ok (.iload 5, 2) := by decide +kernel
theorem dL_law_2512 : decode cL_law 2512 = .ok (.iconst 3, 1) := by decide +kernel
theorem dL_law_2513 : decode cL_law 2513 = .ok (.iadd, 1) := by decide +kernel
theorem dL_law_2514 : decode cL_law 2514 = .ok (.iaload, 1) := by decide +kernel
theorem dL_law_2515 : decode cL_law 2515 = .ok (.invokevirtual 288, 3) := by decide +kernel
theorem dL_law_2518 : decode cL_law 2518 = .ok (.istore 7, 2) := by decide +kernel
theorem dL_law_2520 : decode cL_law 2520 = .ok (.aload_n 2, 1) := by decide +kernel
theorem dL_law_2521 : decode cL_law 2521 = .ok (.invokevirtual 183, 3) := by decide +kernel
theorem dL_law_2524 : decode cL_law 2524 = .ok (.iload 6, 2) := by decide +kernel
theorem dL_law_2526 : decode cL_law 2526 = .ok (.if_icmp .eq 5, 3) := by decide +kernel
theorem dL_law_2531 : decode cL_law 2531 = .ok (.iload 6, 2) := by decide +kernel
theorem dL_law_2533 : decode cL_law 2533 = .ok (.ifCond .ne 15, 3) := by decide +kernel
theorem dL_law_2548 : decode cL_law 2548 = .ok (.goto 973, 3) := by decide +kernel
theorem dL_law_2551 : decode cL_law 2551 = .ok (.aload_n 1, 1) := by decide +kernel
theorem dL_law_2552 : decode cL_law 2552 = .ok (.aload_n 0, 1) := by decide +kernel
theorem dL_law_2553 : decode cL_law 2553 = .ok (.iload 5, 2) := by decide +kernel
theorem dL_law_2555 : decode cL_law 2555 = .ok (.iconst 1, 1) := by decide +kernel
theorem dL_law_2556 : decode cL_law 2556 = .ok (.iadd, 1) := by decide +kernel
theorem dL_law_2557 : decode cL_law 2557 = .ok (.iaload, 1) := by decide +kernel
theorem dL_law_2558 : decode cL_law 2558 = .ok (.aload_n 3, 1) := by decide +kernel
theorem dL_law_2559 : decode cL_law 2559 = .ok (.invokestatic 289, 3) := by decide +kernel
theorem dL_law_2562 : decode cL_law 2562 = .ok (.istore 6, 2) := by decide +kernel
theorem dL_law_2564 : decode cL_law 2564 = .ok (.aload_n 2, 1) := by decide +kernel
theorem dL_law_2565 : decode cL_law 2565 = .ok (.aload_n 0, 1) := by decide +kernel
theorem dL_law_2566 : decode cL_law 2566 = .ok (.iload 5, 2) := by decide +kernel
theorem dL_law_2568 : decode cL_law 2568 = .ok (.iconst 1, 1) := by decide +kernel
theorem dL_law_2569 : decode cL_law 2569 = .ok (.iadd, 1) := by decide +kernel
theorem dL_law_2570 : decode cL_law 2570 = .ok (.iaload, 1) := by decide +kernel
theorem dL_law_2571 : decode cL_law 2571 = .ok (.invokevirtual 291, 3) := by decide +kernel
theorem dL_law_2574 : decode cL_law 2574 = .ok (.istore 7, 2) := by decide +kernel
theorem dL_law_2576 : decode cL_law 2576 = .ok (.aload_n 2, 1) := by decide +kernel
theorem dL_law_2577 : decode cL_law 2577 = .ok (.invokevirtual 183, 3) := by decide +kernel
theorem dL_law_2580 : decode cL_law 2580 = .ok (.iload 6, 2) := by decide +kernel
theorem dL_law_2582 : decode cL_law 2582 = .ok (.if_icmp .eq 5, 3) := by decide +kernel
theorem dL_law_2587 : decode cL_law 2587 = .ok (.iload 6, 2) := by decide +kernel
theorem dL_law_2589 : decode cL_law 2589 = .ok (.ifCond .ne 15, 3) := by decide +kernel
theorem dL_law_2604 : decode cL_law 2604 = .ok (.goto 917, 3) := by decide +kernel
theorem dL_law_2607 : decode cL_law 2607 = .ok (.aload_n 1, 1) := by decide +kernel
theorem dL_law_2608 : decode cL_law 2608 = .ok (.aload_n 0, 1) := by decide +kernel
theorem dL_law_2609 : decode cL_law 2609 = .ok (.iload 5, 2) := by decide +kernel
theorem dL_law_2611 : decode cL_law 2611 = .ok (.iconst 1, 1) := by decide +kernel
theorem dL_law_2612 : decode cL_law 2612 = .ok (.iadd, 1) := by decide +kernel
theorem dL_law_2613 : decode cL_law 2613 = .ok (.iaload, 1) := by decide +kernel
theorem dL_law_2614 : decode cL_law 2614 = .ok (.aload_n 3, 1) := by decide +kernel
theorem dL_law_2615 : decode cL_law 2615 = .ok (.invokestatic 292, 3) := by decide +kernel
theorem dL_law_2618 : decode cL_law 2618 = .ok (.istore 6, 2) := by decide +kernel
theorem dL_law_2620 : decode cL_law 2620 = .ok (.aload_n 2, 1) := by decide +kernel
theorem dL_law_2621 : decode cL_law 2621 = .ok (.aload_n 0, 1) := by decide +kernel
theorem dL_law_2622 : decode cL_law 2622 = .ok (.iload 5, 2) := by decide +kernel
theorem dL_law_2624 : decode cL_law 2624 = .ok (.iconst 1, 1) := by decide +kernel
theorem dL_law_2625 : decode cL_law 2625 = .ok (.iadd, 1) := by decide +kernel
theorem dL_law_2626 : decode cL_law 2626 = .ok (.iaload, 1) := by decide +kernel
theorem dL_law_2627 : decode cL_law 2627 = .ok (.invokevirtual 294, 3) := by decide +kernel
theorem dL_law_2630 : decode cL_law 2630 = .ok (.istore 7, 2) := by decide +kernel
theorem dL_law_2632 : decode cL_law 2632 = .ok (.aload_n 2, 1) := by decide +kernel
theorem dL_law_2633 : decode cL_law 2633 = .ok (.invokevirtual 183, 3) := by decide +kernel
theorem dL_law_2636 : decode cL_law 2636 = .ok (.iload 6, 2) := by decide +kernel
theorem dL_law_2638 : decode cL_law 2638 = .ok (.if_icmp .eq 5, 3) := by decide +kernel
theorem dL_law_2643 : decode cL_law 2643 = .ok (.iload 6, 2) := by decide +kernel
theorem dL_law_2645 : decode cL_law 2645 = .ok (.ifCond .ne 22, 3) := by decide +kernel
theorem dL_law_2667 : decode cL_law 2667 = .ok (.goto 854, 3) := by decide +kernel
theorem dL_law_2670 : decode cL_law 2670 = .ok (.aload_n 1, 1) := by decide +kernel
theorem dL_law_2671 : decode cL_law 2671 = .ok (.aload_n 0, 1) := by decide +kernel
theorem dL_law_2672 : decode cL_law 2672 = .ok (.iload 5, 2) := by decide +kernel
theorem dL_law_2674 : decode cL_law 2674 = .ok (.iconst 1, 1) := by decide +kernel
theorem dL_law_2675 : decode cL_law 2675 = .ok (.iadd, 1) := by decide +kernel
theorem dL_law_2676 : decode cL_law 2676 = .ok (.iaload, 1) := by decide +kernel
theorem dL_law_2677 : decode cL_law 2677 = .ok (.aload_n 0, 1) := by decide +kernel
theorem dL_law_2678 : decode cL_law 2678 = .ok (.iload 5, 2) := by decide +kernel
theorem dL_law_2680 : decode cL_law 2680 = .ok (.iconst 2, 1) := by decide +kernel
theorem dL_law_2681 : decode cL_law 2681 = .ok (.iadd, 1) := by decide +kernel
theorem dL_law_2682 : decode cL_law 2682 = .ok (.iaload, 1) := by decide +kernel
theorem dL_law_2683 : decode cL_law 2683 = .ok (.aload_n 3, 1) := by decide +kernel
theorem dL_law_2684 : decode cL_law 2684 = .ok (.invokestatic 295, 3) := by decide +kernel
theorem dL_law_2687 : decode cL_law 2687 = .ok (.istore 6, 2) := by decide +kernel
theorem dL_law_2689 : decode cL_law 2689 = .ok (.aload_n 2, 1) := by decide +kernel
theorem dL_law_2690 : decode cL_law 2690 = .ok (.aload_n 0, 1) := by decide +kernel
theorem dL_law_2691 : decode cL_law 2691 = .ok (.iload 5, 2) := by decide +kernel
theorem dL_law_2693 : decode cL_law 2693 = .ok (.iconst 1, 1) := by decide +kernel
theorem dL_law_2694 : decode cL_law 2694 = .ok (.iadd, 1) := by decide +kernel
theorem dL_law_2695 : decode cL_law 2695 = .ok (.iaload, 1) := by decide +kernel
theorem dL_law_2696 : decode cL_law 2696 = .ok (.aload_n 0, 1) := by decide +kernel
theorem dL_law_2697 : decode cL_law 2697 = .ok (.iload 5, 2) := by decide +kernel
theorem dL_law_2699 : decode cL_law 2699 = .ok (.iconst 2, 1) := by decide +kernel
theorem dL_law_2700 : decode cL_law 2700 = .ok (.iadd, 1) := by decide +kernel
theorem dL_law_2701 : decode cL_law 2701 = .ok (.iaload, 1) := by decide +kernel
theorem dL_law_2702 : decode cL_law 2702 = .ok (.invokevirtual 297, 3) := by decide +kernel
theorem dL_law_2705 : decode cL_law 2705 = .ok (.istore 7, 2) := by decide +kernel
theorem dL_law_2707 : decode cL_law 2707 = .ok (.aload_n 2, 1) := by decide +kernel
theorem dL_law_2708 : decode cL_law 2708 = .ok (.invokevirtual 183, 3) := by decide +kernel
theorem dL_law_2711 : decode cL_law 2711 = .ok (.iload 6, 2) := by decide +kernel
theorem dL_law_2713 : decode cL_law 2713 = .ok (.if_icmp .eq 5, 3) := by decide +kernel
theorem dL_law_2718 : decode cL_law 2718 = .ok (.iload 6, 2) := by decide +kernel
theorem dL_law_2720 : decode cL_law 2720 = .ok (.ifCond .ne 15, 3) := by decide +kernel
theorem dL_law_2735 : decode cL_law 2735 = .ok (.goto 786, 3) := by decide +kernel
theorem dL_law_2738 : decode cL_law 2738 = .ok (.aload_n 1, 1) := by decide +kernel
theorem dL_law_2739 : decode cL_law 2739 = .ok (.aload_n 0, 1) := by decide +kernel
theorem dL_law_2740 : decode cL_law 2740 = .ok (.iload 5, 2) := by decide +kernel
theorem dL_law_2742 : decode cL_law 2742 = .ok (.iconst 1, 1) := by decide +kernel
theorem dL_law_2743 : decode cL_law 2743 = .ok (.iadd, 1) := by decide +kernel
theorem dL_law_2744 : decode cL_law 2744 = .ok (.iaload, 1) := by decide +kernel
theorem dL_law_2745 : decode cL_law 2745 = .ok (.aload_n 3, 1) := by decide +kernel
theorem dL_law_2746 : decode cL_law 2746 = .ok (.invokestatic 298, 3) := by decide +kernel
theorem dL_law_2749 : decode cL_law 2749 = .ok (.istore 6, 2) := by decide +kernel
theorem dL_law_2751 : decode cL_law 2751 = .ok (.aload_n 2, 1) := by decide +kernel
theorem dL_law_2752 : decode cL_law 2752 = .ok (.aload_n 0, 1) := by decide +kernel
theorem dL_law_2753 : decode cL_law 2753 = .ok (.iload 5, 2) := by decide +kernel
theorem dL_law_2755 : decode cL_law 2755 = .ok (.iconst 1, 1) := by decide +kernel
theorem dL_law_2756 : decode cL_law 2756 = .ok (.iadd, 1) := by decide +kernel
theorem dL_law_2757 : decode cL_law 2757 = .ok (.iaload, 1) := by decide +kernel
theorem dL_law_2758 : decode cL_law 2758 = .ok (.invokevirtual 300, 3) := by decide +kernel
theorem dL_law_2761 : decode cL_law 2761 = .ok (.istore 7, 2) := by decide +kernel
theorem dL_law_2763 : decode cL_law 2763 = .ok (.aload_n 2, 1) := by decide +kernel
theorem dL_law_2764 : decode cL_law 2764 = .ok (.invokevirtual 183, 3) := by decide +kernel
theorem dL_law_2767 : decode cL_law 2767 = .ok (.iload 6, 2) := by decide +kernel
theorem dL_law_2769 : decode cL_law 2769 = .ok (.if_icmp .eq 5, 3) := by decide +kernel
theorem dL_law_2774 : decode cL_law 2774 = .ok (.iload 6, 2) := by decide +kernel
theorem dL_law_2776 : decode cL_law 2776 = .ok (.ifCond .ne 15, 3) := by decide +kernel
theorem dL_law_2791 : decode cL_law 2791 = .ok (.goto 730, 3) := by decide +kernel
theorem dL_law_2794 : decode cL_law 2794 = .ok (.aload_n 1, 1) := by decide +kernel
theorem dL_law_2795 : decode cL_law 2795 = .ok (.aload_n 0, 1) := by decide +kernel
theorem dL_law_2796 : decode cL_law 2796 = .ok (.iload 5, 2) := by decide +kernel
theorem dL_law_2798 : decode cL_law 2798 = .ok (.iconst 1, 1) := by decide +kernel
theorem dL_law_2799 : decode cL_law 2799 = .ok (.iadd, 1) := by decide +kernel
theorem dL_law_2800 : decode cL_law 2800 = .ok (.iaload, 1) := by decide +kernel
theorem dL_law_2801 : decode cL_law 2801 = .ok (.aload_n 3, 1) := by decide +kernel
theorem dL_law_2802 : decode cL_law 2802 = .ok (.invokestatic 301, 3) := by decide +kernel
theorem dL_law_2805 : decode cL_law 2805 = .ok (.istore 6, 2) := by decide +kernel
theorem dL_law_2807 : decode cL_law 2807 = .ok (.aload_n 2, 1) := by decide +kernel
theorem dL_law_2808 : decode cL_law 2808 = .ok (.aload_n 0, 1) := by decide +kernel
theorem dL_law_2809 : decode cL_law 2809 = .ok (.iload 5, 2) := by decide +kernel
theorem dL_law_2811 : decode cL_law 2811 = .ok (.iconst 1, 1) := by decide +kernel
theorem dL_law_2812 : decode cL_law 2812 = .ok (.iadd, 1) := by decide +kernel
theorem dL_law_2813 : decode cL_law 2813 = .ok (.iaload, 1) := by decide +kernel
theorem dL_law_2814 : decode cL_law 2814 = .ok (.invokevirtual 303, 3) := by decide +kernel
theorem dL_law_2817 : decode cL_law 2817 = .ok (.istore 7, 2) := by decide +kernel
theorem dL_law_2819 : decode cL_law 2819 = .ok (.aload_n 2, 1) := by decide +kernel
theorem dL_law_2820 : decode cL_law 2820 = .ok (.invokevirtual 183, 3) := by decide +kernel
theorem dL_law_2823 : decode cL_law 2823 = .ok (.iload 6, 2) := by decide +kernel
theorem dL_law_2825 : decode cL_law 2825 = .ok (.if_icmp .eq 5, 3) := by decide +kernel
theorem dL_law_2830 : decode cL_law 2830 = .ok (.iload 6, 2) := by decide +kernel
theorem dL_law_2832 : decode cL_law 2832 = .ok (.ifCond .ne 15, 3) := by decide +kernel
theorem dL_law_2847 : decode cL_law 2847 = .ok (.goto 674, 3) := by decide +kernel
theorem dL_law_2850 : decode cL_law 2850 = .ok (.aload_n 1, 1) := by decide +kernel
theorem dL_law_2851 : decode cL_law 2851 = .ok (.invokevirtual 304, 3) := by decide +kernel
theorem dL_law_2854 : decode cL_law 2854 = .ok (.aload_n 2, 1) := by decide +kernel
theorem dL_law_2855 : decode cL_law 2855 = .ok (.invokevirtual 307, 3) := by decide +kernel
theorem dL_law_2858 : decode cL_law 2858 = .ok (.if_icmp .eq 663, 3) := by decide +kernel
theorem dL_law_2863 : decode cL_law 2863 = .ok (.aload_n 1, 1) := by decide +kernel
theorem dL_law_2864 : decode cL_law 2864 = .ok (.aload_n 0, 1) := by decide +kernel
theorem dL_law_2865 : decode cL_law 2865 = .ok (.iload 5, 2) := by decide +kernel
theorem dL_law_2867 : decode cL_law 2867 = .ok (.iconst 1, 1) := by decide +kernel
theorem dL_law_2868 : decode cL_law 2868 = .ok (.iadd, 1) := by decide +kernel
theorem dL_law_2869 : decode cL_law 2869 = .ok (.iaload, 1) := by decide +kernel
theorem dL_law_2870 : decode cL_law 2870 = .ok (.aload_n 3, 1) := by decide +kernel
theorem dL_law_2871 : decode cL_law 2871 = .ok (.invokestatic 308, 3) := by decide +kernel
theorem dL_law_2874 : decode cL_law 2874 = .ok (.istore 6, 2) := by decide +kernel
theorem dL_law_2876 : decode cL_law 2876 = .ok (.aload_n 2, 1) := by decide +kernel
theorem dL_law_2877 : decode cL_law 2877 = .ok (.aload_n 0, 1) := by decide +kernel
theorem dL_law_2878 : decode cL_law 2878 = .ok (.iload 5, 2) := by decide +kernel
theorem dL_law_2880 : decode cL_law 2880 = .ok (.iconst 1, 1) := by decide +kernel
theorem dL_law_2881 : decode cL_law 2881 = .ok (.iadd, 1) := by decide +kernel
theorem dL_law_2882 : decode cL_law 2882 = .ok (.iaload, 1) := by decide +kernel
theorem dL_law_2883 : decode cL_law 2883 = .ok (.invokevirtual 310, 3) := by decide +kernel
theorem dL_law_2886 : decode cL_law 2886 = .ok (.istore 7, 2) := by decide +kernel
theorem dL_law_2888 : decode cL_law 2888 = .ok (.aload_n 2, 1) := by decide +kernel
theorem dL_law_2889 : decode cL_law 2889 = .ok (.invokevirtual 183, 3) := by decide +kernel
theorem dL_law_2892 : decode cL_law 2892 = .ok (.iload 6, 2) := by decide +kernel
theorem dL_law_2894 : decode cL_law 2894 = .ok (.if_icmp .eq 5, 3) := by decide +kernel
theorem dL_law_2899 : decode cL_law 2899 = .ok (.iload 6, 2) := by decide +kernel
theorem dL_law_2901 : decode cL_law 2901 = .ok (.ifCond .ne 15, 3) := by decide +kernel
theorem dL_law_2916 : decode cL_law 2916 = .ok (.goto 605, 3) := by decide +kernel
theorem dL_law_2919 : decode cL_law 2919 = .ok (.aload_n 1, 1) := by decide +kernel
theorem dL_law_2920 : decode cL_law 2920 = .ok (.aload_n 0, 1) := by decide +kernel
theorem dL_law_2921 : decode cL_law 2921 = .ok (.iload 5, 2) := by decide +kernel
theorem dL_law_2923 : decode cL_law 2923 = .ok (.iconst 1, 1) := by decide +kernel
theorem dL_law_2924 : decode cL_law 2924 = .ok (.iadd, 1) := by decide +kernel
theorem dL_law_2925 : decode cL_law 2925 = .ok (.iaload, 1) := by decide +kernel
theorem dL_law_2926 : decode cL_law 2926 = .ok (.aload_n 0, 1) := by decide +kernel
theorem dL_law_2927 : decode cL_law 2927 = .ok (.iload 5, 2) := by decide +kernel
theorem dL_law_2929 : decode cL_law 2929 = .ok (.iconst 2, 1) := by decide +kernel
theorem dL_law_2930 : decode cL_law 2930 = .ok (.iadd, 1) := by decide +kernel
theorem dL_law_2931 : decode cL_law 2931 = .ok (.iaload, 1) := by decide +kernel
theorem dL_law_2932 : decode cL_law 2932 = .ok (.aload_n 3, 1) := by decide +kernel
theorem dL_law_2933 : decode cL_law 2933 = .ok (.invokestatic 311, 3) := by decide +kernel
theorem dL_law_2936 : decode cL_law 2936 = .ok (.istore 6, 2) := by decide +kernel
theorem dL_law_2938 : decode cL_law 2938 = .ok (.aload_n 2, 1) := by decide +kernel
theorem dL_law_2939 : decode cL_law 2939 = .ok (.aload_n 0, 1) := by decide +kernel
theorem dL_law_2940 : decode cL_law 2940 = .ok (.iload 5, 2) := by decide +kernel
theorem dL_law_2942 : decode cL_law 2942 = .ok (.iconst 1, 1) := by decide +kernel
theorem dL_law_2943 : decode cL_law 2943 = .ok (.iadd, 1) := by decide +kernel
theorem dL_law_2944 : decode cL_law 2944 = .ok (.iaload, 1) := by decide +kernel
theorem dL_law_2945 : decode cL_law 2945 = .ok (.aload_n 0, 1) := by decide +kernel
theorem dL_law_2946 : decode cL_law 2946 = .ok (.iload 5, 2) := by decide +kernel
theorem dL_law_2948 : decode cL_law 2948 = .ok (.iconst 2, 1) := by decide +kernel
theorem dL_law_2949 : decode cL_law 2949 = .ok (.iadd, 1) := by decide +kernel
theorem dL_law_2950 : decode cL_law 2950 = .ok (.iaload, 1) := by decide +kernel
theorem dL_law_2951 : decode cL_law 2951 = .ok (.invokevirtual 313, 3) := by decide +kernel
theorem dL_law_2954 : decode cL_law 2954 = .ok (.istore 7, 2) := by decide +kernel
theorem dL_law_2956 : decode cL_law 2956 = .ok (.aload_n 2, 1) := by decide +kernel
theorem dL_law_2957 : decode cL_law 2957 = .ok (.invokevirtual 183, 3) := by decide +kernel
theorem dL_law_2960 : decode cL_law 2960 = .ok (.iload 6, 2) := by decide +kernel
theorem dL_law_2962 : decode cL_law 2962 = .ok (.if_icmp .eq 5, 3) := by decide +kernel
theorem dL_law_2967 : decode cL_law 2967 = .ok (.iload 6, 2) := by decide +kernel
theorem dL_law_2969 : decode cL_law 2969 = .ok (.ifCond .ne 15, 3) := by decide +kernel
theorem dL_law_2984 : decode cL_law 2984 = .ok (.goto 537, 3) := by decide +kernel
theorem dL_law_2987 : decode cL_law 2987 = .ok (.aload_n 1, 1) := by decide +kernel
theorem dL_law_2988 : decode cL_law 2988 = .ok (.aload_n 0, 1) := by decide +kernel
theorem dL_law_2989 : decode cL_law 2989 = .ok (.iload 5, 2) := by decide +kernel
theorem dL_law_2991 : decode cL_law 2991 = .ok (.iconst 1, 1) := by decide +kernel
theorem dL_law_2992 : decode cL_law 2992 = .ok (.iadd, 1) := by decide +kernel
theorem dL_law_2993 : decode cL_law 2993 = .ok (.iaload, 1) := by decide +kernel
theorem dL_law_2994 : decode cL_law 2994 = .ok (.aload_n 0, 1) := by decide +kernel
theorem dL_law_2995 : decode cL_law 2995 = .ok (.iload 5, 2) := by decide +kernel
theorem dL_law_2997 : decode cL_law 2997 = .ok (.iconst 2, 1) := by decide +kernel
theorem dL_law_2998 : decode cL_law 2998 = .ok (.iadd, 1) := by decide +kernel
theorem dL_law_2999 : decode cL_law 2999 = .ok (.iaload, 1) := by decide +kernel
theorem dL_law_3000 : decode cL_law 3000 = .ok (.aload_n 3, 1) := by decide +kernel
theorem dL_law_3001 : decode cL_law 3001 = .ok (.invokestatic 314, 3) := by decide +kernel
theorem dL_law_3004 : decode cL_law 3004 = .ok (.istore 6, 2) := by decide +kernel
theorem dL_law_3006 : decode cL_law 3006 = .ok (.aload_n 2, 1) := by decide +kernel
theorem dL_law_3007 : decode cL_law 3007 = .ok (.aload_n 0, 1) := by decide +kernel
theorem dL_law_3008 : decode cL_law 3008 = .ok (.iload 5, 2) := by decide +kernel
theorem dL_law_3010 : decode cL_law 3010 = .ok (.iconst 1, 1) := by decide +kernel
theorem dL_law_3011 : decode cL_law 3011 = .ok (.iadd, 1) := by decide +kernel
theorem dL_law_3012 : decode cL_law 3012 = .ok (.iaload, 1) := by decide +kernel
theorem dL_law_3013 : decode cL_law 3013 = .ok (.aload_n 0, 1) := by decide +kernel
theorem dL_law_3014 : decode cL_law 3014 = .ok (.iload 5, 2) := by decide +kernel
theorem dL_law_3016 : decode cL_law 3016 = .ok (.iconst 2, 1) := by decide +kernel
theorem dL_law_3017 : decode cL_law 3017 = .ok (.iadd, 1) := by decide +kernel
theorem dL_law_3018 : decode cL_law 3018 = .ok (.iaload, 1) := by decide +kernel
theorem dL_law_3019 : decode cL_law 3019 = .ok (.invokevirtual 316, 3) := by decide +kernel
theorem dL_law_3022 : decode cL_law 3022 = .ok (.istore 7, 2) := by decide +kernel
theorem dL_law_3024 : decode cL_law 3024 = .ok (.aload_n 2, 1) := by decide +kernel
theorem dL_law_3025 : decode cL_law 3025 = .ok (.invokevirtual 183, 3) := by decide +kernel
theorem dL_law_3028 : decode cL_law 3028 = .ok (.iload 6, 2) := by decide +kernel
theorem dL_law_3030 : decode cL_law 3030 = .ok (.if_icmp .eq 5, 3) := by decide +kernel
theorem dL_law_3035 : decode cL_law 3035 = .ok (.iload 6, 2) := by decide +kernel
theorem dL_law_3037 : decode cL_law 3037 = .ok (.ifCond .ne 22, 3) := by decide +kernel
theorem dL_law_3059 : decode cL_law 3059 = .ok (.goto 462, 3) := by decide +kernel
theorem dL_law_3062 : decode cL_law 3062 = .ok (.aload_n 1, 1) := by decide +kernel
theorem dL_law_3063 : decode cL_law 3063 = .ok (.invokevirtual 317, 3) := by decide +kernel
theorem dL_law_3066 : decode cL_law 3066 = .ok (.aload_n 2, 1) := by decide +kernel
theorem dL_law_3067 : decode cL_law 3067 = .ok (.invokevirtual 320, 3) := by decide +kernel
theorem dL_law_3070 : decode cL_law 3070 = .ok (.if_icmp .eq 451, 3) := by decide +kernel
theorem dL_law_3075 : decode cL_law 3075 = .ok (.aload_n 1, 1) := by decide +kernel
theorem dL_law_3076 : decode cL_law 3076 = .ok (.aload_n 0, 1) := by decide +kernel
theorem dL_law_3077 : decode cL_law 3077 = .ok (.iload 5, 2) := by decide +kernel
theorem dL_law_3079 : decode cL_law 3079 = .ok (.iconst 1, 1) := by decide +kernel
theorem dL_law_3080 : decode cL_law 3080 = .ok (.iadd, 1) := by decide +kernel
theorem dL_law_3081 : decode cL_law 3081 = .ok (.iaload, 1) := by decide +kernel
theorem dL_law_3082 : decode cL_law 3082 = .ok (.aload_n 0, 1) := by decide +kernel
theorem dL_law_3083 : decode cL_law 3083 = .ok (.iload 5, 2) := by decide +kernel
theorem dL_law_3085 : decode cL_law 3085 = .ok (.iconst 2, 1) := by decide +kernel
theorem dL_law_3086 : decode cL_law 3086 = .ok (.iadd, 1) := by decide +kernel
theorem dL_law_3087 : decode cL_law 3087 = .ok (.iaload, 1) := by decide +kernel
theorem dL_law_3088 : decode cL_law 3088 = .ok (.aload_n 0, 1) := by decide +kernel
theorem dL_law_3089 : decode cL_law 3089 = .ok (.iload 5, 2) := by decide +kernel
theorem dL_law_3091 : decode cL_law 3091 = .ok (.iconst 3, 1) := by decide +kernel
theorem dL_law_3092 : decode cL_law 3092 = .ok (.iadd, 1) := by decide +kernel
theorem dL_law_3093 : decode cL_law 3093 = .ok (.iaload, 1) := by decide +kernel
theorem dL_law_3094 : decode cL_law 3094 = .ok (.aload_n 3, 1) := by decide +kernel
theorem dL_law_3095 : decode cL_law 3095 = .ok (.invokestatic 321, 3) := by decide +kernel
theorem dL_law_3098 : decode cL_law 3098 = .ok (.istore 6, 2) := by decide +kernel
theorem dL_law_3100 : decode cL_law 3100 = .ok (.aload_n 2, 1) := by decide +kernel
theorem dL_law_3101 : decode cL_law 3101 = .ok (.aload_n 0, 1) := by decide +kernel
theorem dL_law_3102 : decode cL_law 3102 = .ok (.iload 5, 2) := by decide +kernel
theorem dL_law_3104 : decode cL_law 3104 = .ok (.iconst 1, 1) := by decide +kernel
theorem dL_law_3105 : decode cL_law 3105 = .ok (.iadd, 1) := by decide +kernel
theorem dL_law_3106 : decode cL_law 3106 = .ok (.iaload, 1) := by decide +kernel
theorem dL_law_3107 : decode cL_law 3107 = .ok (.aload_n 0, 1) := by decide +kernel
theorem dL_law_3108 : decode cL_law 3108 = .ok (.iload 5, 2) := by decide +kernel
theorem dL_law_3110 : decode cL_law 3110 = .ok (.iconst 2, 1) := by decide +kernel
theorem dL_law_3111 : decode cL_law 3111 = .ok (.iadd, 1) := by decide +kernel
theorem dL_law_3112 : decode cL_law 3112 = .ok (.iaload, 1) := by decide +kernel
theorem dL_law_3113 : decode cL_law 3113 = .ok (.aload_n 0, 1) := by decide +kernel
theorem dL_law_3114 : decode cL_law 3114 = .ok (.iload 5, 2) := by decide +kernel
theorem dL_law_3116 : decode cL_law 3116 = .ok (.iconst 3, 1) := by decide +kernel
theorem dL_law_3117 : decode cL_law 3117 = .ok (.iadd, 1) := by decide +kernel
theorem dL_law_3118 : decode cL_law 3118 = .ok (.iaload, 1) := by decide +kernel
theorem dL_law_3119 : decode cL_law 3119 = .ok (.invokevirtual 323, 3) := by decide +kernel
theorem dL_law_3122 : decode cL_law 3122 = .ok (.istore 7, 2) := by decide +kernel
theorem dL_law_3124 : decode cL_law 3124 = .ok (.aload_n 2, 1) := by decide +kernel
theorem dL_law_3125 : decode cL_law 3125 = .ok (.invokevirtual 183, 3) := by decide +kernel
theorem dL_law_3128 : decode cL_law 3128 = .ok (.iload 6, 2) := by decide +kernel
theorem dL_law_3130 : decode cL_law 3130 = .ok (.if_icmp .eq 5, 3) := by decide +kernel
theorem dL_law_3135 : decode cL_law 3135 = .ok (.iload 6, 2) := by decide +kernel
theorem dL_law_3137 : decode cL_law 3137 = .ok (.ifCond .ne 15, 3) := by decide +kernel
theorem dL_law_3140 : decode cL_law 3140 = .ok (.aload_n 3, 1) := by decide +kernel
theorem dL_law_3141 : decode cL_law 3141 = .ok (.iconst 0, 1) := by decide +kernel
theorem dL_law_3142 : decode cL_law 3142 = .ok (.laload, 1) := by decide +kernel
theorem dL_law_3143 : decode cL_law 3143 = .ok (.iload 7, 2) := by decide +kernel
theorem dL_law_3145 : decode cL_law 3145 = .ok (.i2l, 1) := by decide +kernel
theorem dL_law_3146 : decode cL_law 3146 = .ok (.lcmp, 1) := by decide +kernel
theorem dL_law_3147 : decode cL_law 3147 = .ok (.ifCond .eq 5, 3) := by decide +kernel
theorem dL_law_3152 : decode cL_law 3152 = .ok (.goto 369, 3) := by decide +kernel
theorem dL_law_3155 : decode cL_law 3155 = .ok (.aload_n 1, 1) := by decide +kernel
theorem dL_law_3156 : decode cL_law 3156 = .ok (.aload_n 0, 1) := by decide +kernel
theorem dL_law_3157 : decode cL_law 3157 = .ok (.iload 5, 2) := by decide +kernel
theorem dL_law_3159 : decode cL_law 3159 = .ok (.iconst 1, 1) := by decide +kernel
theorem dL_law_3160 : decode cL_law 3160 = .ok (.iadd, 1) := by decide +kernel
theorem dL_law_3161 : decode cL_law 3161 = .ok (.iaload, 1) := by decide +kernel
theorem dL_law_3162 : decode cL_law 3162 = .ok (.aload_n 0, 1) := by decide +kernel
theorem dL_law_3163 : decode cL_law 3163 = .ok (.iload 5, 2) := by decide +kernel
theorem dL_law_3165 : decode cL_law 3165 = .ok (.iconst 2, 1) := by decide +kernel
theorem dL_law_3166 : decode cL_law 3166 = .ok (.iadd, 1) := by decide +kernel
theorem dL_law_3167 : decode cL_law 3167 = .ok (.iaload, 1) := by decide +kernel
theorem dL_law_3168 : decode cL_law 3168 = .ok (.aload_n 3, 1) := by decide +kernel
theorem dL_law_3169 : decode cL_law 3169 = .ok (.invokestatic 324, 3) := by decide +kernel
theorem dL_law_3172 : decode cL_law 3172 = .ok (.istore 6, 2) := by decide +kernel
theorem dL_law_3174 : decode cL_law 3174 = .ok (.aload_n 2, 1) := by decide +kernel
theorem dL_law_3175 : decode cL_law 3175 = .ok (.aload_n 0, 1) := by decide +kernel
theorem dL_law_3176 : decode cL_law 3176 = .ok (.iload 5, 2) := by decide +kernel
theorem dL_law_3178 : decode cL_law 3178 = .ok (.iconst 1, 1) := by decide +kernel
theorem dL_law_3179 : decode cL_law 3179 = .ok (.iadd, 1) := by decide +kernel
theorem dL_law_3180 : decode cL_law 3180 = .ok (.iaload, 1) := by decide +kernel
theorem dL_law_3181 : decode cL_law 3181 = .ok (.aload_n 0, 1) := by decide +kernel
theorem dL_law_3182 : decode cL_law 3182 = .ok (.iload 5, 2) := by decide +kernel
theorem dL_law_3184 : decode cL_law 3184 = .ok (.iconst 2, 1) := by decide +kernel
theorem dL_law_3185 : decode cL_law 3185 = .ok (.iadd, 1) := by decide +kernel
theorem dL_law_3186 : decode cL_law 3186 = .ok (.iaload, 1) := by decide +kernel
theorem dL_law_3187 : decode cL_law 3187 = .ok (.invokevirtual 326, 3) := by decide +kernel
theorem dL_law_3190 : decode cL_law 3190 = .ok (.istore 7, 2) := by decide +kernel
theorem dL_law_3192 : decode cL_law 3192 = .ok (.aload_n 2, 1) := by decide +kernel
theorem dL_law_3193 : decode cL_law 3193 = .ok (.invokevirtual 183, 3) := by decide +kernel
theorem dL_law_3196 : decode cL_law 3196 = .ok (.iload 6, 2) := by decide +kernel
theorem dL_law_3198 : decode cL_law 3198 = .ok (.if_icmp .eq 5, 3) := by decide +kernel
theorem dL_law_3203 : decode cL_law 3203 = .ok (.iload 6, 2) := by decide +kernel
theorem dL_law_3205 : decode cL_law 3205 = .ok (.ifCond .ne 15, 3) := by decide +kernel
theorem dL_law_3220 : decode cL_law 3220 = .ok (.goto 301, 3) := by decide +kernel
theorem dL_law_3223 : decode cL_law 3223 = .ok (.aload_n 1, 1) := by decide +kernel
theorem dL_law_3224 : decode cL_law 3224 = .ok (.aload_n 0, 1) := by decide +kernel
theorem dL_law_3225 : decode cL_law 3225 = .ok (.iload 5, 2) := by decide +kernel
theorem dL_law_3227 : decode cL_law 3227 = .ok (.iconst 1, 1) := by decide +kernel
theorem dL_law_3228 : decode cL_law 3228 = .ok (.iadd, 1) := by decide +kernel
theorem dL_law_3229 : decode cL_law 3229 = .ok (.iaload, 1) := by decide +kernel
theorem dL_law_3230 : decode cL_law 3230 = .ok (.aload_n 3, 1) := by decide +kernel
theorem dL_law_3231 : decode cL_law 3231 = .ok (.invokestatic 327, 3) := by decide +kernel
theorem dL_law_3234 : decode cL_law 3234 = .ok (.istore 6, 2) := by decide +kernel
theorem dL_law_3236 : decode cL_law 3236 = .ok (.aload_n 2, 1) := by decide +kernel
theorem dL_law_3237 : decode cL_law 3237 = .ok (.aload_n 0, 1) := by decide +kernel
theorem dL_law_3238 : decode cL_law 3238 = .ok (.iload 5, 2) := by decide +kernel
theorem dL_law_3240 : decode cL_law 3240 = .ok (.iconst 1, 1) := by decide +kernel
theorem dL_law_3241 : decode cL_law 3241 = .ok (.iadd, 1) := by decide +kernel
theorem dL_law_3242 : decode cL_law 3242 = .ok (.iaload, 1) := by decide +kernel
theorem dL_law_3243 : decode cL_law 3243 = .ok (.invokevirtual 329, 3) := by decide +kernel
theorem dL_law_3246 : decode cL_law 3246 = .ok (.istore 7, 2) := by decide +kernel
theorem dL_law_3248 : decode cL_law 3248 = .ok (.aload_n 2, 1) := by decide +kernel
theorem dL_law_3249 : decode cL_law 3249 = .ok (.invokevirtual 183, 3) := by decide +kernel
theorem dL_law_3252 : decode cL_law 3252 = .ok (.iload 6, 2) := by decide +kernel
theorem dL_law_3254 : decode cL_law 3254 = .ok (.if_icmp .eq 5, 3) := by decide +kernel
theorem dL_law_3259 : decode cL_law 3259 = .ok (.iload 6, 2) := by decide +kernel
theorem dL_law_3261 : decode cL_law 3261 = .ok (.ifCond .ne 15, 3) := by decide +kernel
theorem dL_law_3276 : decode cL_law 3276 = .ok (.goto 245, 3) := by decide +kernel
theorem dL_law_3279 : decode cL_law 3279 = .ok (.aload_n 1, 1) := by decide +kernel
theorem dL_law_3280 : decode cL_law 3280 = .ok (.aload_n 0, 1) := by decide +kernel
theorem dL_law_3281 : decode cL_law 3281 = .ok (.iload 5, 2) := by decide +kernel
theorem dL_law_3283 : decode cL_law 3283 = .ok (.iconst 1, 1) := by decide +kernel
theorem dL_law_3284 : decode cL_law 3284 = .ok (.iadd, 1) := by decide +kernel
theorem dL_law_3285 : decode cL_law 3285 = .ok (.iaload, 1) := by decide +kernel
theorem dL_law_3286 : decode cL_law 3286 = .ok (.aload_n 0, 1) := by decide +kernel
theorem dL_law_3287 : decode cL_law 3287 = .ok (.iload 5, 2) := by decide +kernel
theorem dL_law_3289 : decode cL_law 3289 = .ok (.iconst 2, 1) := by decide +kernel
theorem dL_law_3290 : decode cL_law 3290 = .ok (.iadd, 1) := by decide +kernel
theorem dL_law_3291 : decode cL_law 3291 = .ok (.iaload, 1) := by decide +kernel
theorem dL_law_3292 : decode cL_law 3292 = .ok (.ifCond .eq 7, 3) := by decide +kernel
theorem dL_law_3295 : decode cL_law 3295 = .ok (.iconst 1, 1) := by decide +kernel
theorem dL_law_3296 : decode cL_law 3296 = .ok (.goto 4, 3) := by decide +kernel
theorem dL_law_3299 : decode cL_law 3299 = .ok (.iconst 0, 1) := by decide +kernel
theorem dL_law_3300 : decode cL_law 3300 = .ok (.aload_n 3, 1) := by decide +kernel
theorem dL_law_3301 : decode cL_law 3301 = .ok (.invokestatic 330, 3) := by decide +kernel
theorem dL_law_3304 : decode cL_law 3304 = .ok (.istore 6, 2) := by decide +kernel
theorem dL_law_3306 : decode cL_law 3306 = .ok (.aload_n 2, 1) := by decide +kernel
theorem dL_law_3307 : decode cL_law 3307 = .ok (.aload_n 0, 1) := by decide +kernel
theorem dL_law_3308 : decode cL_law 3308 = .ok (.iload 5, 2) := by decide +kernel
theorem dL_law_3310 : decode cL_law 3310 = .ok (.iconst 1, 1) := by decide +kernel
theorem dL_law_3311 : decode cL_law 3311 = .ok (.iadd, 1) := by decide +kernel
theorem dL_law_3312 : decode cL_law 3312 = .ok (.iaload, 1) := by decide +kernel
theorem dL_law_3313 : decode cL_law 3313 = .ok (.aload_n 0, 1) := by decide +kernel
theorem dL_law_3314 : decode cL_law 3314 = .ok (.iload 5, 2) := by decide +kernel
theorem dL_law_3316 : decode cL_law 3316 = .ok (.iconst 2, 1) := by decide +kernel
theorem dL_law_3317 : decode cL_law 3317 = .ok (.iadd, 1) := by decide +kernel
theorem dL_law_3318 : decode cL_law 3318 = .ok (.iaload, 1) := by decide +kernel
theorem dL_law_3319 : decode cL_law 3319 = .ok (.ifCond .eq 7, 3) := by decide +kernel
theorem dL_law_3322 : decode cL_law 3322 = .ok (.iconst 1, 1) := by decide +kernel
theorem dL_law_3323 : decode cL_law 3323 = .ok (.goto 4, 3) := by decide +kernel
theorem dL_law_3326 : decode cL_law 3326 = .ok (.iconst 0, 1) := by decide +kernel
theorem dL_law_3327 : decode cL_law 3327 = .ok (.invokevirtual 332, 3) := by decide +kernel
theorem dL_law_3330 : decode cL_law 3330 = .ok (.istore 7, 2) := by decide +kernel
theorem dL_law_3332 : decode cL_law 3332 = .ok (.aload_n 2, 1) := by decide +kernel
theorem dL_law_3333 : decode cL_law 3333 = .ok (.invokevirtual 183, 3) := by decide +kernel
theorem dL_law_3336 : decode cL_law 3336 = .ok (.iload 6, 2) := by decide +kernel
theorem dL_law_3338 : decode cL_law 3338 = .ok (.if_icmp .eq 5, 3) := by decide +kernel
theorem dL_law_3343 : decode cL_law 3343 = .ok (.iload 6, 2) := by decide +kernel
theorem dL_law_3345 : decode cL_law 3345 = .ok (.ifCond .ne 15, 3) := by decide +kernel
theorem dL_law_3360 : decode cL_law 3360 = .ok (.goto 161, 3) := by decide +kernel
theorem dL_law_3363 : decode cL_law 3363 = .ok (.aload_n 1, 1) := by decide +kernel
theorem dL_law_3364 : decode cL_law 3364 = .ok (.aload 4, 2) := by decide +kernel
theorem dL_law_3366 : decode cL_law 3366 = .ok (.invokestatic 333, 3) := by decide +kernel
theorem dL_law_3369 : decode cL_law 3369 = .ok (.istore 6, 2) := by decide +kernel
theorem dL_law_3371 : decode cL_law 3371 = .ok (.aload_n 2, 1) := by decide +kernel
theorem dL_law_3372 : decode cL_law 3372 = .ok (.invokevirtual 336, 3) := by decide +kernel
theorem dL_law_3375 : decode cL_law 3375 = .ok (.fstore 7, 2) := by decide +kernel
theorem dL_law_3377 : decode cL_law 3377 = .ok (.aload_n 2, 1) := by decide +kernel
theorem dL_law_3378 : decode cL_law 3378 = .ok (.invokevirtual 183, 3) := by decide +kernel
theorem dL_law_3381 : decode cL_law 3381 = .ok (.iload 6, 2) := by decide +kernel
theorem dL_law_3383 : decode cL_law 3383 = .ok (.if_icmp .eq 5, 3) := by decide +kernel
theorem dL_law_3388 : decode cL_law 3388 = .ok (.iload 6, 2) := by decide +kernel
theorem dL_law_3390 : decode cL_law 3390 = .ok (.ifCond .ne 36, 3) := by decide +kernel
theorem dL_law_3426 : decode cL_law 3426 = .ok (.goto 95, 3) := by decide +kernel
theorem dL_law_3429 : decode cL_law 3429 = .ok (.aload_n 1, 1) := by decide +kernel
theorem dL_law_3430 : decode cL_law 3430 = .ok (.aload 4, 2) := by decide +kernel
theorem dL_law_3432 : decode cL_law 3432 = .ok (.invokestatic 337, 3) := by decide +kernel
theorem dL_law_3435 : decode cL_law 3435 = .ok (.istore 6, 2) := by decide +kernel
theorem dL_law_3437 : decode cL_law 3437 = .ok (.aload_n 2, 1) := by decide +kernel
theorem dL_law_3438 : decode cL_law 3438 = .ok (.invokevirtual 339, 3) := by decide +kernel
theorem dL_law_3441 : decode cL_law 3441 = .ok (.dstore 7, 2) := by decide +kernel
theorem dL_law_3443 : decode cL_law 3443 = .ok (.aload_n 2, 1) := by decide +kernel
theorem dL_law_3444 : decode cL_law 3444 = .ok (.invokevirtual 183, 3) := by decide +kernel
theorem dL_law_3447 : decode cL_law 3447 = .ok (.iload 6, 2) := by decide +kernel
theorem dL_law_3449 : decode cL_law 3449 = .ok (.if_icmp .eq 5, 3) := by decide +kernel
theorem dL_law_3454 : decode cL_law 3454 = .ok (.iload 6, 2) := by decide +kernel
theorem dL_law_3456 : decode cL_law 3456 = .ok (.ifCond .ne 35, 3) := by decide +kernel
theorem dL_law_3491 : decode cL_law 3491 = .ok (.goto 30, 3) := by decide +kernel
theorem dL_law_3494 : decode cL_law 3494 = .ok (.aload_n 1, 1) := by decide +kernel
theorem dL_law_3495 : decode cL_law 3495 = .ok (.invokevirtual 340, 3) := by decide +kernel
theorem dL_law_3498 : decode cL_law 3498 = .ok (.aload_n 2, 1) := by decide +kernel
theorem dL_law_3499 : decode cL_law 3499 = .ok (.invokevirtual 344, 3) := by decide +kernel
theorem dL_law_3502 : decode cL_law 3502 = .ok (.lcmp, 1) := by decide +kernel
theorem dL_law_3503 : decode cL_law 3503 = .ok (.ifCond .eq 18, 3) := by decide +kernel
theorem dL_law_3508 : decode cL_law 3508 = .ok (.aload_n 1, 1) := by decide +kernel
theorem dL_law_3509 : decode cL_law 3509 = .ok (.invokevirtual 345, 3) := by decide +kernel
theorem dL_law_3512 : decode cL_law 3512 = .ok (.aload_n 2, 1) := by decide +kernel
theorem dL_law_3513 : decode cL_law 3513 = .ok (.invokevirtual 349, 3) := by decide +kernel
theorem dL_law_3516 : decode cL_law 3516 = .ok (.if_icmp .eq 5, 3) := by decide +kernel
theorem dL_law_3521 : decode cL_law 3521 = .ok (.iinc 5 5, 3) := by decide +kernel
theorem dL_law_3524 : decode cL_law 3524 = .ok (.goto (-3496), 3) := by decide +kernel
theorem dL_law_3527 : decode cL_law 3527 = .ok (.iconst 1, 1) := by decide +kernel
theorem dL_law_3528 : decode cL_law 3528 = .ok (.ireturn, 1) := by decide +kernel
