/-! the law's instructions -/
theorem dL_law__2192 : decode cL_law_ 2192 = .ok (.ifCond .eq 7, 3) := by decide +kernel
theorem dL_law__2195 : decode cL_law_ 2195 = .ok (.iconst 1, 1) := by decide +kernel
theorem dL_law__2196 : decode cL_law_ 2196 = .ok (.goto 4, 3) := by decide +kernel
theorem dL_law__2199 : decode cL_law_ 2199 = .ok (.iconst 0, 1) := by decide +kernel
theorem dL_law__2200 : decode cL_law_ 2200 = .ok (.aload_n 3, 1) := by decide +kernel
theorem dL_law__2201 : decode cL_law_ 2201 = .ok (.invokestatic 233, 3) := by decide +kernel
theorem dL_law__2204 : decode cL_law_ 2204 = .ok (.istore 5, 2) := by decide +kernel
theorem dL_law__2206 : decode cL_law_ 2206 = .ok (.aload_n 2, 1) := by decide +kernel
theorem dL_law__2207 : decode cL_law_ 2207 = .ok (.aload_n 0, 1) := by decide +kernel
theorem dL_law__2208 : decode cL_law_ 2208 = .ok (.iload 4, 2) := by decide +kernel
theorem dL_law__2210 : decode cL_law_ 2210 = .ok (.iconst 1, 1) := by decide +kernel
theorem dL_law__2211 : decode cL_law_ 2211 = .ok (.iadd, 1) := by decide +kernel
theorem dL_law__2212 : decode cL_law_ 2212 = .ok (.iaload, 1) := by decide +kernel
theorem dL_law__2213 : decode cL_law_ 2213 = .ok (.i2l, 1) := by decide +kernel
theorem dL_law__2214 : decode cL_law_ 2214 = .ok (.bipush 32, 2) := by decide +kernel
theorem dL_law__2216 : decode cL_law_ 2216 = .ok (.lshl, 1) := by decide +kernel
theorem dL_law__2217 : decode cL_law_ 2217 = .ok (.aload_n 0, 1) := by decide +kernel
theorem dL_law__2218 : decode cL_law_ 2218 = .ok (.iload 4, 2) := by decide +kernel
theorem dL_law__2220 : decode cL_law_ 2220 = .ok (.iconst 2, 1) := by decide +kernel
theorem dL_law__2221 : decode cL_law_ 2221 = .ok (.iadd, 1) := by decide +kernel
theorem dL_law__2222 : decode cL_law_ 2222 = .ok (.iaload, 1) := by decide +kernel
theorem dL_law__2223 : decode cL_law_ 2223 = .ok (.i2l, 1) := by decide +kernel
theorem dL_law__2224 : decode cL_law_ 2224 = .ok (.ldc2_w 178, 3) := by decide +kernel
theorem dL_law__2227 : decode cL_law_ 2227 = .ok (.land, 1) := by decide +kernel
theorem dL_law__2228 : decode cL_law_ 2228 = .ok (.lor, 1) := by decide +kernel
theorem dL_law__2229 : decode cL_law_ 2229 = .ok (.aload_n 0, 1) := by decide +kernel
theorem dL_law__2230 : decode cL_law_ 2230 = .ok (.iload 4, 2) := by decide +kernel
theorem dL_law__2232 : decode cL_law_ 2232 = .ok (.iconst 3, 1) := by decide +kernel
theorem dL_law__2233 : decode cL_law_ 2233 = .ok (.iadd, 1) := by decide +kernel
theorem dL_law__2234 : decode cL_law_ 2234 = .ok (.iaload, 1) := by decide +kernel
theorem dL_law__2235 : decode cL_law_ 2235 = .ok (.i2l, 1) := by decide +kernel
theorem dL_law__2236 : decode cL_law_ 2236 = .ok (.bipush 32, 2) := by decide +kernel
theorem dL_law__2238 : decode cL_law_ 2238 = .ok (.lshl, 1) := by decide +kernel
theorem dL_law__2239 : decode cL_law_ 2239 = .ok (.aload_n 0, 1) := by decide +kernel
theorem dL_law__2240 : decode cL_law_ 2240 = .ok (.iload 4, 2) := by decide +kernel
theorem dL_law__2242 : decode cL_law_ 2242 = .ok (.iconst 4, 1) := by decide +kernel
theorem dL_law__2243 : decode cL_law_ 2243 = .ok (.iadd, 1) := by decide +kernel
theorem dL_law__2244 : decode cL_law_ 2244 = .ok (.iaload, 1) := by decide +kernel
theorem dL_law__2245 : decode cL_law_ 2245 = .ok (.i2l, 1) := by decide +kernel
theorem dL_law__2246 : decode cL_law_ 2246 = .ok (.ldc2_w 178, 3) := by decide +kernel
theorem dL_law__2249 : decode cL_law_ 2249 = .ok (.land, 1) := by decide +kernel
theorem dL_law__2250 : decode cL_law_ 2250 = .ok (.lor, 1) := by decide +kernel
theorem dL_law__2251 : decode cL_law_ 2251 = .ok (.aload_n 0, 1) := by decide +kernel
theorem dL_law__2252 : decode cL_law_ 2252 = .ok (.iload 4, 2) := by decide +kernel
theorem dL_law__2254 : decode cL_law_ 2254 = .ok (.iconst 5, 1) := by decide +kernel
theorem dL_law__2255 : decode cL_law_ 2255 = .ok (.iadd, 1) := by decide +kernel
theorem dL_law__2256 : decode cL_law_ 2256 = .ok (.iaload, 1) := by decide +kernel
theorem dL_law__2257 : decode cL_law_ 2257 = .ok (.aload_n 0, 1) := by decide +kernel
theorem dL_law__2258 : decode cL_law_ 2258 = .ok (.iload 4, 2) := by decide +kernel
theorem dL_law__2260 : decode cL_law_ 2260 = .ok (.bipush 6, 2) := by decide +kernel
theorem dL_law__2262 : decode cL_law_ 2262 = .ok (.iadd, 1) := by decide +kernel
theorem dL_law__2263 : decode cL_law_ 2263 = .ok (.iaload, 1) := by decide +kernel
theorem dL_law__2264 : decode cL_law_ 2264 = .ok (.ifCond .eq 7, 3) := by decide +kernel
theorem dL_law__2267 : decode cL_law_ 2267 = .ok (.iconst 1, 1) := by decide +kernel
theorem dL_law__2268 : decode cL_law_ 2268 = .ok (.goto 4, 3) := by decide +kernel
theorem dL_law__2271 : decode cL_law_ 2271 = .ok (.iconst 0, 1) := by decide +kernel
theorem dL_law__2272 : decode cL_law_ 2272 = .ok (.invokevirtual 236, 3) := by decide +kernel
theorem dL_law__2275 : decode cL_law_ 2275 = .ok (.lstore 6, 2) := by decide +kernel
theorem dL_law__2277 : decode cL_law_ 2277 = .ok (.aload_n 2, 1) := by decide +kernel
theorem dL_law__2278 : decode cL_law_ 2278 = .ok (.invokevirtual 157, 3) := by decide +kernel
theorem dL_law__2281 : decode cL_law_ 2281 = .ok (.iload 5, 2) := by decide +kernel
theorem dL_law__2283 : decode cL_law_ 2283 = .ok (.if_icmp .eq 5, 3) := by decide +kernel
theorem dL_law__2286 : decode cL_law_ 2286 = .ok (.iconst 0, 1) := by decide +kernel
theorem dL_law__2287 : decode cL_law_ 2287 = .ok (.ireturn, 1) := by decide +kernel
theorem dL_law__2288 : decode cL_law_ 2288 = .ok (.iload 5, 2) := by decide +kernel
theorem dL_law__2290 : decode cL_law_ 2290 = .ok (.ifCond .ne 14, 3) := by decide +kernel
theorem dL_law__2293 : decode cL_law_ 2293 = .ok (.aload_n 3, 1) := by decide +kernel
theorem dL_law__2294 : decode cL_law_ 2294 = .ok (.iconst 0, 1) := by decide +kernel
theorem dL_law__2295 : decode cL_law_ 2295 = .ok (.laload, 1) := by decide +kernel
theorem dL_law__2296 : decode cL_law_ 2296 = .ok (.lload 6, 2) := by decide +kernel
theorem dL_law__2298 : decode cL_law_ 2298 = .ok (.lcmp, 1) := by decide +kernel
theorem dL_law__2299 : decode cL_law_ 2299 = .ok (.ifCond .eq 5, 3) := by decide +kernel
theorem dL_law__2302 : decode cL_law_ 2302 = .ok (.iconst 0, 1) := by decide +kernel
theorem dL_law__2303 : decode cL_law_ 2303 = .ok (.ireturn, 1) := by decide +kernel
theorem dL_law__2304 : decode cL_law_ 2304 = .ok (.goto 1031, 3) := by decide +kernel
theorem dL_law__2307 : decode cL_law_ 2307 = .ok (.aload_n 1, 1) := by decide +kernel
theorem dL_law__2308 : decode cL_law_ 2308 = .ok (.aload_n 0, 1) := by decide +kernel
theorem dL_law__2309 : decode cL_law_ 2309 = .ok (.iload 4, 2) := by decide +kernel
theorem dL_law__2311 : decode cL_law_ 2311 = .ok (.iconst 1, 1) := by decide +kernel
theorem dL_law__2312 : decode cL_law_ 2312 = .ok (.iadd, 1) := by decide +kernel
theorem dL_law__2313 : decode cL_law_ 2313 = .ok (.iaload, 1) := by decide +kernel
theorem dL_law__2314 : decode cL_law_ 2314 = .ok (.aload_n 3, 1) := by decide +kernel
theorem dL_law__2315 : decode cL_law_ 2315 = .ok (.invokestatic 237, 3) := by decide +kernel
theorem dL_law__2318 : decode cL_law_ 2318 = .ok (.istore 5, 2) := by decide +kernel
theorem dL_law__2320 : decode cL_law_ 2320 = .ok (.aload_n 2, 1) := by decide +kernel
theorem dL_law__2321 : decode cL_law_ 2321 = .ok (.aload_n 0, 1) := by decide +kernel
theorem dL_law__2322 : decode cL_law_ 2322 = .ok (.iload 4, 2) := by decide +kernel
theorem dL_law__2324 : decode cL_law_ 2324 = .ok (.iconst 1, 1) := by decide +kernel
theorem dL_law__2325 : decode cL_law_ 2325 = .ok (.iadd, 1) := by decide +kernel
theorem dL_law__2326 : decode cL_law_ 2326 = .ok (.iaload, 1) := by decide +kernel
theorem dL_law__2327 : decode cL_law_ 2327 = .ok (.invokevirtual 239, 3) := by decide +kernel
theorem dL_law__2330 : decode cL_law_ 2330 = .ok (.lstore 6, 2) := by decide +kernel
theorem dL_law__2332 : decode cL_law_ 2332 = .ok (.aload_n 2, 1) := by decide +kernel
theorem dL_law__2333 : decode cL_law_ 2333 = .ok (.invokevirtual 157, 3) := by decide +kernel
theorem dL_law__2336 : decode cL_law_ 2336 = .ok (.iload 5, 2) := by decide +kernel
theorem dL_law__2338 : decode cL_law_ 2338 = .ok (.if_icmp .eq 5, 3) := by decide +kernel
theorem dL_law__2341 : decode cL_law_ 2341 = .ok (.iconst 0, 1) := by decide +kernel
theorem dL_law__2342 : decode cL_law_ 2342 = .ok (.ireturn, 1) := by decide +kernel
theorem dL_law__2343 : decode cL_law_ 2343 = .ok (.iload 5, 2) := by decide +kernel
theorem dL_law__2345 : decode cL_law_ 2345 = .ok (.ifCond .ne 14, 3) := by decide +kernel
theorem dL_law__2348 : decode cL_law_ 2348 = .ok (.aload_n 3, 1) := by decide +kernel
theorem dL_law__2349 : decode cL_law_ 2349 = .ok (.iconst 0, 1) := by decide +kernel
theorem dL_law__2350 : decode cL_law_ 2350 = .ok (.laload, 1) := by decide +kernel
theorem dL_law__2351 : decode cL_law_ 2351 = .ok (.lload 6, 2) := by decide +kernel
theorem dL_law__2353 : decode cL_law_ 2353 = .ok (.lcmp, 1) := by decide +kernel
theorem dL_law__2354 : decode cL_law_ 2354 = .ok (.ifCond .eq 5, 3) := by decide +kernel
theorem dL_law__2357 : decode cL_law_ 2357 = .ok (.iconst 0, 1) := by decide +kernel
theorem dL_law__2358 : decode cL_law_ 2358 = .ok (.ireturn, 1) := by decide +kernel
theorem dL_law__2359 : decode cL_law_ 2359 = .ok (.goto 976, 3) := by decide +kernel
theorem dL_law__2362 : decode cL_law_ 2362 = .ok (.aload_n 1, 1) := by decide +kernel
theorem dL_law__2363 : decode cL_law_ 2363 = .ok (.aload_n 3, 1) := by decide +kernel
theorem dL_law__2364 : decode cL_law_ 2364 = .ok (.invokestatic 240, 3) := by decide +kernel
theorem dL_law__2367 : decode cL_law_ 2367 = .ok (.istore 5, 2) := by decide +kernel
theorem dL_law__2369 : decode cL_law_ 2369 = .ok (.aload_n 2, 1) := by decide +kernel
theorem dL_law__2370 : decode cL_law_ 2370 = .ok (.invokevirtual 242, 3) := by decide +kernel
theorem dL_law__2373 : decode cL_law_ 2373 = .ok (.istore 6, 2) := by decide +kernel
theorem dL_law__2375 : decode cL_law_ 2375 = .ok (.aload_n 2, 1) := by decide +kernel
theorem dL_law__2376 : decode cL_law_ 2376 = .ok (.invokevirtual 157, 3) := by decide +kernel
theorem dL_law__2379 : decode cL_law_ 2379 = .ok (.iload 5, 2) := by decide +kernel
theorem dL_law__2381 : decode cL_law_ 2381 = .ok (.if_icmp .eq 5, 3) := by decide +kernel
theorem dL_law__2384 : decode cL_law_ 2384 = .ok (.iconst 0, 1) := by decide +kernel
theorem dL_law__2385 : decode cL_law_ 2385 = .ok (.ireturn, 1) := by decide +kernel
theorem dL_law__2386 : decode cL_law_ 2386 = .ok (.iload 5, 2) := by decide +kernel
theorem dL_law__2388 : decode cL_law_ 2388 = .ok (.ifCond .ne 15, 3) := by decide +kernel
theorem dL_law__2391 : decode cL_law_ 2391 = .ok (.aload_n 3, 1) := by decide +kernel
theorem dL_law__2392 : decode cL_law_ 2392 = .ok (.iconst 0, 1) := by decide +kernel
theorem dL_law__2393 : decode cL_law_ 2393 = .ok (.laload, 1) := by decide +kernel
theorem dL_law__2394 : decode cL_law_ 2394 = .ok (.iload 6, 2) := by decide +kernel
theorem dL_law__2396 : decode cL_law_ 2396 = .ok (.i2l, 1) := by decide +kernel
theorem dL_law__2397 : decode cL_law_ 2397 = .ok (.lcmp, 1) := by decide +kernel
theorem dL_law__2398 : decode cL_law_ 2398 = .ok (.ifCond .eq 5, 3) := by decide +kernel
theorem dL_law__2401 : decode cL_law_ 2401 = .ok (.iconst 0, 1) := by decide +kernel
theorem dL_law__2402 : decode cL_law_ 2402 = .ok (.ireturn, 1) := by decide +kernel
theorem dL_law__2403 : decode cL_law_ 2403 = .ok (.goto 932, 3) := by decide +kernel
theorem dL_law__2406 : decode cL_law_ 2406 = .ok (.aload_n 1, 1) := by decide +kernel
theorem dL_law__2407 : decode cL_law_ 2407 = .ok (.aload_n 0, 1) := by decide +kernel
theorem dL_law__2408 : decode cL_law_ 2408 = .ok (.iload 4, 2) := by decide +kernel
theorem dL_law__2410 : decode cL_law_ 2410 = .ok (.iconst 1, 1) := by decide +kernel
theorem dL_law__2411 : decode cL_law_ 2411 = .ok (.iadd, 1) := by decide +kernel
theorem dL_law__2412 : decode cL_law_ 2412 = .ok (.iaload, 1) := by decide +kernel
theorem dL_law__2413 : decode cL_law_ 2413 = .ok (.i2l, 1) := by decide +kernel
theorem dL_law__2414 : decode cL_law_ 2414 = .ok (.bipush 32, 2) := by decide +kernel
theorem dL_law__2416 : decode cL_law_ 2416 = .ok (.lshl, 1) := by decide +kernel
theorem dL_law__2417 : decode cL_law_ 2417 = .ok (.aload_n 0, 1) := by decide +kernel
theorem dL_law__2418 : decode cL_law_ 2418 = .ok (.iload 4, 2) := by decide +kernel
theorem dL_law__2420 : decode cL_law_ 2420 = .ok (.iconst 2, 1) := by decide +kernel
theorem dL_law__2421 : decode cL_law_ 2421 = .ok (.iadd, 1) := by decide +kernel
theorem dL_law__2422 : decode cL_law_ 2422 = .ok (.iaload, 1) := by decide +kernel
theorem dL_law__2423 : decode cL_law_ 2423 = .ok (.i2l, 1) := by decide +kernel
theorem dL_law__2424 : decode cL_law_ 2424 = .ok (.ldc2_w 178, 3) := by decide +kernel
