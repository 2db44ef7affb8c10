theorem dL_law_2167 : decode cL_law 2167 = .ok (.ireturn, 1) := by decide +kernel
theorem dL_law_2168 : decode cL_law 2168 = .ok (.iload 6, 2) := by decide +kernel
theorem dL_law_2170 : decode cL_law 2170 = .ok (.ifCond .ne 15, 3) := by decide +kernel
theorem dL_law_2173 : decode cL_law 2173 = .ok (.aload_n 3, 1) := by decide +kernel
theorem dL_law_2174 : decode cL_law 2174 = .ok (.iconst 0, 1) := by decide +kernel
theorem dL_law_2175 : decode cL_law 2175 = .ok (.laload, 1) := by decide +kernel
theorem dL_law_2176 : decode cL_law 2176 = .ok (.iload 7, 2) := by decide +kernel
theorem dL_law_2178 : decode cL_law 2178 = .ok (.i2l, 1) := by decide +kernel
theorem dL_law_2179 : decode cL_law 2179 = .ok (.lcmp, 1) := by decide +kernel
theorem dL_law_2180 : decode cL_law 2180 = .ok (.ifCond .eq 5, 3) := by decide +kernel
theorem dL_law_2183 : decode cL_law 2183 = .ok (.iconst 0, 1) := by decide +kernel
theorem dL_law_2184 : decode cL_law 2184 = .ok (.ireturn, 1) := by decide +kernel
theorem dL_law_2185 : decode cL_law 2185 = .ok (.goto 1024, 3) := by decide +kernel
theorem dL_law_2188 : decode cL_law 2188 = .ok (.aload_n 1, 1) := by decide +kernel
theorem dL_law_2189 : decode cL_law 2189 = .ok (.aload_n 0, 1) := by decide +kernel
theorem dL_law_2190 : decode cL_law 2190 = .ok (.iload 5, 2) := by decide +kernel
theorem dL_law_2192 : decode cL_law 2192 = .ok (.iconst 1, 1) := by decide +kernel
theorem dL_law_2193 : decode cL_law 2193 = .ok (.iadd, 1) := by decide +kernel
theorem dL_law_2194 : decode cL_law 2194 = .ok (.iaload, 1) := by decide +kernel
theorem dL_law_2195 : decode cL_law 2195 = .ok (.aload_n 3, 1) := by decide +kernel
theorem dL_law_2196 : decode cL_law 2196 = .ok (.invokestatic 282, 3) := by decide +kernel
theorem dL_law_2199 : decode cL_law 2199 = .ok (.istore 6, 2) := by decide +kernel
theorem dL_law_2201 : decode cL_law 2201 = .ok (.aload_n 2, 1) := by decide +kernel
theorem dL_law_2202 : decode cL_law 2202 = .ok (.aload_n 0, 1) := by decide +kernel
theorem dL_law_2203 : decode cL_law 2203 = .ok (.iload 5, 2) := by decide +kernel
theorem dL_law_2205 : decode cL_law 2205 = .ok (.iconst 1, 1) := by decide +kernel
theorem dL_law_2206 : decode cL_law 2206 = .ok (.iadd, 1) := by decide +kernel
theorem dL_law_2207 : decode cL_law 2207 = .ok (.iaload, 1) := by decide +kernel
theorem dL_law_2208 : decode cL_law 2208 = .ok (.invokevirtual 284, 3) := by decide +kernel
theorem dL_law_2211 : decode cL_law 2211 = .ok (.istore 7, 2) := by decide +kernel
theorem dL_law_2213 : decode cL_law 2213 = .ok (.aload_n 2, 1) := by decide +kernel
theorem dL_law_2214 : decode cL_law 2214 = .ok (.invokevirtual 183, 3) := by decide +kernel
theorem dL_law_2217 : decode cL_law 2217 = .ok (.iload 6, 2) := by decide +kernel
theorem dL_law_2219 : decode cL_law 2219 = .ok (.if_icmp .eq 5, 3) := by decide +kernel
theorem dL_law_2222 : decode cL_law 2222 = .ok (.iconst 0, 1) := by decide +kernel
theorem dL_law_2223 : decode cL_law 2223 = .ok (.ireturn, 1) := by decide +kernel
theorem dL_law_2224 : decode cL_law 2224 = .ok (.iload 6, 2) := by decide +kernel
theorem dL_law_2226 : decode cL_law 2226 = .ok (.ifCond .ne 15, 3) := by decide +kernel
theorem dL_law_2229 : decode cL_law 2229 = .ok (.aload_n 3, 1) := by decide +kernel
theorem dL_law_2230 : decode cL_law 2230 = .ok (.iconst 0, 1) := by decide +kernel
theorem dL_law_2231 : decode cL_law 2231 = .ok (.laload, 1) := by decide +kernel
theorem dL_law_2232 : decode cL_law 2232 = .ok (.iload 7, 2) := by decide +kernel
theorem dL_law_2234 : decode cL_law 2234 = .ok (.i2l, 1) := by decide +kernel
theorem dL_law_2235 : decode cL_law 2235 = .ok (.lcmp, 1) := by decide +kernel
theorem dL_law_2236 : decode cL_law 2236 = .ok (.ifCond .eq 5, 3) := by decide +kernel
theorem dL_law_2239 : decode cL_law 2239 = .ok (.iconst 0, 1) := by decide +kernel
theorem dL_law_2240 : decode cL_law 2240 = .ok (.ireturn, 1) := by decide +kernel
theorem dL_law_2241 : decode cL_law 2241 = .ok (.goto 968, 3) := by decide +kernel
theorem dL_law_2244 : decode cL_law 2244 = .ok (.aload_n 1, 1) := by decide +kernel
theorem dL_law_2245 : decode cL_law 2245 = .ok (.aload_n 0, 1) := by decide +kernel
theorem dL_law_2246 : decode cL_law 2246 = .ok (.iload 5, 2) := by decide +kernel
theorem dL_law_2248 : decode cL_law 2248 = .ok (.iconst 1, 1) := by decide +kernel
theorem dL_law_2249 : decode cL_law 2249 = .ok (.iadd, 1) := by decide +kernel
theorem dL_law_2250 : decode cL_law 2250 = .ok (.iaload, 1) := by decide +kernel
theorem dL_law_2251 : decode cL_law 2251 = .ok (.aload_n 0, 1) := by decide +kernel
theorem dL_law_2252 : decode cL_law 2252 = .ok (.iload 5, 2) := by decide +kernel
theorem dL_law_2254 : decode cL_law 2254 = .ok (.iconst 2, 1) := by decide +kernel
theorem dL_law_2255 : decode cL_law 2255 = .ok (.iadd, 1) := by decide +kernel
theorem dL_law_2256 : decode cL_law 2256 = .ok (.iaload, 1) := by decide +kernel
theorem dL_law_2257 : decode cL_law 2257 = .ok (.aload_n 3, 1) := by decide +kernel
theorem dL_law_2258 : decode cL_law 2258 = .ok (.invokestatic 285, 3) := by decide +kernel
theorem dL_law_2261 : decode cL_law 2261 = .ok (.istore 6, 2) := by decide +kernel
theorem dL_law_2263 : decode cL_law 2263 = .ok (.aload_n 2, 1) := by decide +kernel
theorem dL_law_2264 : decode cL_law 2264 = .ok (.aload_n 0, 1) := by decide +kernel
theorem dL_law_2265 : decode cL_law 2265 = .ok (.iload 5, 2) := by decide +kernel
theorem dL_law_2267 : decode cL_law 2267 = .ok (.iconst 1, 1) := by decide +kernel
theorem dL_law_2268 : decode cL_law 2268 = .ok (.iadd, 1) := by decide +kernel
theorem dL_law_2269 : decode cL_law 2269 = .ok (.iaload, 1) := by decide +kernel
theorem dL_law_2270 : decode cL_law 2270 = .ok (.aload_n 0, 1) := by decide +kernel
theorem dL_law_2271 : decode cL_law 2271 = .ok (.iload 5, 2) := by decide +kernel
theorem dL_law_2273 : decode cL_law 2273 = .ok (.iconst 2, 1) := by decide +kernel
theorem dL_law_2274 : decode cL_law 2274 = .ok (.iadd, 1) := by decide +kernel
theorem dL_law_2275 : decode cL_law 2275 = .ok (.iaload, 1) := by decide +kernel
theorem dL_law_2276 : decode cL_law 2276 = .ok (.invokevirtual 287, 3) := by decide +kernel
theorem dL_law_2279 : decode cL_law 2279 = .ok (.istore 7, 2) := by decide +kernel
theorem dL_law_2281 : decode cL_law 2281 = .ok (.aload_n 2, 1) := by decide +kernel
theorem dL_law_2282 : decode cL_law 2282 = .ok (.invokevirtual 183, 3) := by decide +kernel
theorem dL_law_2285 : decode cL_law 2285 = .ok (.iload 6, 2) := by decide +kernel
theorem dL_law_2287 : decode cL_law 2287 = .ok (.if_icmp .eq 5, 3) := by decide +kernel
theorem dL_law_2290 : decode cL_law 2290 = .ok (.iconst 0, 1) := by decide +kernel
theorem dL_law_2291 : decode cL_law 2291 = .ok (.ireturn, 1) := by decide +kernel
theorem dL_law_2292 : decode cL_law 2292 = .ok (.iload 6, 2) := by decide +kernel
theorem dL_law_2294 : decode cL_law 2294 = .ok (.ifCond .ne 15, 3) := by decide +kernel
theorem dL_law_2297 : decode cL_law 2297 = .ok (.aload_n 3, 1) := by decide +kernel
theorem dL_law_2298 : decode cL_law 2298 = .ok (.iconst 0, 1) := by decide +kernel
theorem dL_law_2299 : decode cL_law 2299 = .ok (.laload, 1) := by decide +kernel
theorem dL_law_2300 : decode cL_law 2300 = .ok (.iload 7, 2) := by decide +kernel
theorem dL_law_2302 : decode cL_law 2302 = .ok (.i2l, 1) := by decide +kernel
theorem dL_law_2303 : decode cL_law 2303 = .ok (.lcmp, 1) := by decide +kernel
theorem dL_law_2304 : decode cL_law 2304 = .ok (.ifCond .eq 5, 3) := by decide +kernel
theorem dL_law_2307 : decode cL_law 2307 = .ok (.iconst 0, 1) := by decide +kernel
theorem dL_law_2308 : decode cL_law 2308 = .ok (.ireturn, 1) := by decide +kernel
theorem dL_law_2309 : decode cL_law 2309 = .ok (.goto 900, 3) := by decide +kernel
theorem dL_law_2312 : decode cL_law 2312 = .ok (.aload_n 1, 1) := by decide +kernel
theorem dL_law_2313 : decode cL_law 2313 = .ok (.aload_n 0, 1) := by decide +kernel
theorem dL_law_2314 : decode cL_law 2314 = .ok (.iload 5, 2) := by decide +kernel
theorem dL_law_2316 : decode cL_law 2316 = .ok (.iconst 1, 1) := by decide +kernel
theorem dL_law_2317 : decode cL_law 2317 = .ok (.iadd, 1) := by decide +kernel
theorem dL_law_2318 : decode cL_law 2318 = .ok (.iaload, 1) := by decide +kernel
theorem dL_law_2319 : decode cL_law 2319 = .ok (.aload_n 3, 1) := by decide +kernel
theorem dL_law_2320 : decode cL_law 2320 = .ok (.invokestatic 288, 3) := by decide +kernel
theorem dL_law_2323 : decode cL_law 2323 = .ok (.istore 6, 2) := by decide +kernel
theorem dL_law_2325 : decode cL_law 2325 = .ok (.aload_n 2, 1) := by decide +kernel
theorem dL_law_2326 : decode cL_law 2326 = .ok (.aload_n 0, 1) := by decide +kernel
theorem dL_law_2327 : decode cL_law 2327 = .ok (.iload 5, 2) := by decide +kernel
theorem dL_law_2329 : decode cL_law 2329 = .ok (.iconst 1, 1) := by decide +kernel
theorem dL_law_2330 : decode cL_law 2330 = .ok (.iadd, 1) := by decide +kernel
theorem dL_law_2331 : decode cL_law 2331 = .ok (.iaload, 1) := by decide +kernel
theorem dL_law_2332 : decode cL_law 2332 = .ok (.invokevirtual 290, 3) := by decide +kernel
theorem dL_law_2335 : decode cL_law 2335 = .ok (.istore 7, 2) := by decide +kernel
theorem dL_law_2337 : decode cL_law 2337 = .ok (.aload_n 2, 1) := by decide +kernel
theorem dL_law_2338 : decode cL_law 2338 = .ok (.invokevirtual 183, 3) := by decide +kernel
theorem dL_law_2341 : decode cL_law 2341 = .ok (.iload 6, 2) := by decide +kernel
theorem dL_law_2343 : decode cL_law 2343 = .ok (.if_icmp .eq 5, 3) := by decide +kernel
theorem dL_law_2346 : decode cL_law 2346 = .ok (.iconst 0, 1) := by decide +kernel
theorem dL_law_2347 : decode cL_law 2347 = .ok (.ireturn, 1) := by decide +kernel
theorem dL_law_2348 : decode cL_law 2348 = .ok (.iload 6, 2) := by decide +kernel
theorem dL_law_2350 : decode cL_law 2350 = .ok (.ifCond .ne 15, 3) := by decide +kernel
theorem dL_law_2353 : decode cL_law 2353 = .ok (.aload_n 3, 1) := by decide +kernel
theorem dL_law_2354 : decode cL_law 2354 = .ok (.iconst 0, 1) := by decide +kernel
theorem dL_law_2355 : decode cL_law 2355 = .ok (.laload, 1) := by decide +kernel
theorem dL_law_2356 : decode cL_law 2356 = .ok (.iload 7, 2) := by decide +kernel
theorem dL_law_2358 : decode cL_law 2358 = .ok (.i2l, 1) := by decide +kernel
theorem dL_law_2359 : decode cL_law 2359 = .ok (.lcmp, 1) := by decide +kernel
theorem dL_law_2360 : decode cL_law 2360 = .ok (.ifCond .eq 5, 3) := by decide +kernel
theorem dL_law_2363 : decode cL_law 2363 = .ok (.iconst 0, 1) := by decide +kernel
theorem dL_law_2364 : decode cL_law 2364 = .ok (.ireturn, 1) := by decide +kernel
theorem dL_law_2365 : decode cL_law 2365 = .ok (.goto 844, 3) := by decide +kernel
theorem dL_law_2368 : decode cL_law 2368 = .ok (.aload_n 1, 1) := by decide +kernel
theorem dL_law_2369 : decode cL_law 2369 = .ok (.aload_n 0, 1) := by decide +kernel
theorem dL_law_2370 : decode cL_law 2370 = .ok (.iload 5, 2) := by decide +kernel
theorem dL_law_2372 : decode cL_law 2372 = .ok (.iconst 1, 1) := by decide +kernel
theorem dL_law_2373 : decode cL_law 2373 = .ok (.iadd, 1) := by decide +kernel
theorem dL_law_2374 : decode cL_law 2374 = .ok (.iaload, 1) := by decide +kernel
theorem dL_law_2375 : decode cL_law 2375 = .ok (.aload_n 3, 1) := by decide +kernel
theorem dL_law_2376 : decode cL_law 2376 = .ok (.invokestatic 291, 3) := by decide +kernel
theorem dL_law_2379 : decode cL_law 2379 = .ok (.istore 6, 2) := by decide +kernel
theorem dL_law_2381 : decode cL_law 2381 = .ok (.aload_n 2, 1) := by decide +kernel
theorem dL_law_2382 : decode cL_law 2382 = .ok (.aload_n 0, 1) := by decide +kernel
theorem dL_law_2383 : decode cL_law 2383 = .ok (.iload 5, 2) := by decide +kernel
theorem dL_law_2385 : decode cL_law 2385 = .ok (.iconst 1, 1) := by decide +kernel
theorem dL_law_2386 : decode cL_law 2386 = .ok (.iadd, 1) := by decide +kernel
theorem dL_law_2387 : decode cL_law 2387 = .ok (.iaload, 1) := by decide +kernel
theorem dL_law_2388 : decode cL_law 2388 = .ok (.invokevirtual 293, 3) := by decide +kernel
theorem dL_law_2391 : decode cL_law 2391 = .ok (.istore 7, 2) := by decide +kernel
theorem dL_law_2393 : decode cL_law 2393 = .ok (.aload_n 2, 1) := by decide +kernel
theorem dL_law_2394 : decode cL_law 2394 = .ok (.invokevirtual 183, 3) := by decide +kernel
theorem dL_law_2397 : decode cL_law 2397 = .ok (.iload 6, 2) := by decide +kernel
theorem dL_law_2399 : decode cL_law 2399 = .ok (.if_icmp .eq 5, 3) := by decide +kernel
theorem dL_law_2402 : decode cL_law 2402 = .ok (.iconst 0, 1) := by decide +kernel
theorem dL_law_2403 : decode cL_law 2403 = .ok (.ireturn, 1) := by decide +kernel
theorem dL_law_2404 : decode cL_law 2404 = .ok (.iload 6, 2) := by decide +kernel
theorem dL_law_2406 : decode cL_law 2406 = .ok (.ifCond .ne 15, 3) := by decide +kernel
theorem dL_law_2409 : decode cL_law 2409 = .ok (.aload_n 3, 1) := by decide +kernel
theorem dL_law_2410 : decode cL_law 2410 = .ok (.iconst 0, 1) := by decide +kernel
theorem dL_law_2411 : decode cL_law 2411 = .ok (.laload, 1) := by decide +kernel
theorem dL_law_2412 : decode cL_law 2412 = .ok (.iload 7, 2) := by decide +kernel
theorem dL_law_2414 : decode cL_law 2414 = .ok (.i2l, 1) := by decide +kernel
theorem dL_law_2415 : decode cL_law 2415 = .ok (.lcmp, 1) := by decide +kernel
theorem dL_law_2416 : decode cL_law 2416 = .ok (.ifCond .eq 5, 3) := by decide +kernel
theorem dL_law_2419 : decode cL_law 2419 = .ok (.iconst 0, 1) := by decide +kernel
theorem dL_law_2420 : decode cL_law 2420 = .ok (.ireturn, 1) := by decide +kernel
theorem dL_law_2421 : decode cL_law 2421 = .ok (.goto 788, 3) := by decide +kernel
theorem dL_law_2424 : decode cL_law 2424 = .ok (.aload_n 1, 1) := by decide +kernel
theorem dL_law_2425 : decode cL_law 2425 = .ok (.invokevirtual 294, 3) := by decide +kernel
theorem dL_law_2428 : decode cL_law 2428 = .ok (.aload_n 2, 1) := by decide +kernel
theorem dL_law_2429 : decode cL_law 2429 = .ok (.invokevirtual 297, 3) := by decide +kernel
theorem dL_law_2432 : decode cL_law 2432 = .ok (.if_icmp .eq 777, 3) := by decide +kernel
theorem dL_law_2435 : decode cL_law 2435 = .ok (.iconst 0, 1) := by decide +kernel
theorem dL_law_2436 : decode cL_law 2436 = .ok (.ireturn, 1) := by decide +kernel
theorem dL_law_2437 : decode cL_law 2437 = .ok (.aload_n 1, 1) := by decide +kernel
theorem dL_law_2438 : decode cL_law 2438 = .ok (.aload_n 0, 1) := by decide +kernel
theorem dL_law_2439 : decode cL_law 2439 = .ok (.iload 5, 2) := by decide +kernel
theorem dL_law_2441 : decode cL_law 2441 = .ok (.iconst 1, 1) := by decide +kernel
theorem dL_law_2442 : decode cL_law 2442 = .ok (.iadd, 1) := by decide +kernel
theorem dL_law_2443 : decode cL_law 2443 = .ok (.iaload, 1) := by decide +kernel
theorem dL_law_2444 : decode cL_law 2444 = .ok (.aload_n 3, 1) := by decide +kernel
theorem dL_law_2445 : decode cL_law 2445 = .ok (.invokestatic 298, 3) := by decide +kernel
theorem dL_law_2448 : decode cL_law 2448 = .ok (.istore 6, 2) := by decide +kernel
theorem dL_law_2450 : decode cL_law 2450 = .ok (.aload_n 2, 1) := by decide +kernel
theorem dL_law_2451 : decode cL_law 2451 = .ok (.aload_n 0, 1) := by decide +kernel
theorem dL_law_2452 : decode cL_law 2452 = .ok (.iload 5, 2) := by decide +kernel
theorem dL_law_2454 : decode cL_law 2454 = .ok (.iconst 1, 1) := by decide +kernel
theorem dL_law_2455 : decode cL_law 2455 = .ok (.iadd, 1) := by decide +kernel
theorem dL_law_2456 : decode cL_law 2456 = .ok (.iaload, 1) := by decide +kernel
theorem dL_law_2457 : decode cL_law 2457 = .ok (.invokevirtual 300, 3) := by decide +kernel
theorem dL_law_2460 : decode cL_law 2460 = .ok (.istore 7, 2) := by decide +kernel
theorem dL_law_2462 : decode cL_law 2462 = .ok (.aload_n 2, 1) := by decide +kernel
theorem dL_law_2463 : decode cL_law 2463 = .ok (.invokevirtual 183, 3) := by decide +kernel
theorem dL_law_2466 : decode cL_law 2466 = .ok (.iload 6, 2) := by decide +kernel
theorem dL_law_2468 : decode cL_law 2468 = .ok (.if_icmp .eq 5, 3) := by decide +kernel
theorem dL_law_2471 : decode cL_law 2471 = .ok (.iconst 0, 1) := by decide +kernel
theorem dL_law_2472 : decode cL_law 2472 = .ok (.ireturn, 1) := by decide +kernel
theorem dL_law_2473 : decode cL_law 2473 = .ok (.iload 6, 2) := by decide +kernel
theorem dL_law_2475 : decode cL_law 2475 = .ok (.ifCond .ne 15, 3) := by decide +kernel
theorem dL_law_2478 : decode cL_law 2478 = .ok (.aload_n 3, 1) := by decide +kernel
theorem dL_law_2479 : decode cL_law 2479 = .ok (.iconst 0, 1) := by decide +kernel
theorem dL_law_2480 : decode cL_law 2480 = .ok (.laload, 1) := by decide +kernel
theorem dL_law_2481 : decode cL_law 2481 = .ok (.iload 7, 2) := by decide +kernel
theorem dL_law_2483 : decode cL_law 2483 = .ok (.i2l, 1) := by decide +kernel
theorem dL_law_2484 : decode cL_law 2484 = .ok (.lcmp, 1) := by decide +kernel
theorem dL_law_2485 : decode cL_law 2485 = .ok (.ifCond .eq 5, 3) := by decide +kernel
theorem dL_law_2488 : decode cL_law 2488 = .ok (.iconst 0, 1) := by decide +kernel
theorem dL_law_2489 : decode cL_law 2489 = .ok (.ireturn, 1) := by decide +kernel
theorem dL_law_2490 : decode cL_law 2490 = .ok (.goto 719, 3) := by decide +kernel
theorem dL_law_2493 : decode cL_law 2493 = .ok (.aload_n 1, 1) := by decide +kernel
theorem dL_law_2494 : decode cL_law 2494 = .ok (.aload_n 0, 1) := by decide +kernel
theorem dL_law_2495 : decode cL_law 2495 = .ok (.iload 5, 2) := by decide +kernel
theorem dL_law_2497 : decode cL_law 2497 = .ok (.iconst 1, 1) := by decide +kernel
theorem dL_law_2498 : decode cL_law 2498 = .ok (.iadd, 1) := by decide +kernel
theorem dL_law_2499 : decode cL_law 2499 = .ok (.iaload, 1) := by decide +kernel
theorem dL_law_2500 : decode cL_law 2500 = .ok (.aload_n 3, 1) := by decide +kernel
theorem dL_law_2501 : decode cL_law 2501 = .ok (.invokestatic 301, 3) := by decide +kernel
theorem dL_law_2504 : decode cL_law 2504 = .ok (.istore 6, 2) := by decide +kernel
theorem dL_law_2506 : decode cL_law 2506 = .ok (.aload_n 2, 1) := by decide +kernel
theorem dL_law_2507 : decode cL_law 2507 = .ok (.aload_n 0, 1) := by decide +kernel
theorem dL_law_2508 : decode cL_law 2508 = .ok (.iload 5, 2) := by decide +kernel
theorem dL_law_2510 : decode cL_law 2510 = .ok (.iconst 1, 1) := by decide +kernel
theorem dL_law_2511 : decode cL_law 2511 = .ok (.iadd, 1) := by decide +kernel
theorem dL_law_2512 : decode cL_law 2512 = .ok (.iaload, 1) := by decide +kernel
theorem dL_law_2513 : decode cL_law 2513 = .ok (.invokevirtual 303, 3) := by decide +kernel
theorem dL_law_2516 : decode cL_law 2516 = .ok (.istore 7, 2) := by decide +kernel
theorem dL_law_2518 : decode cL_law 2518 = .ok (.aload_n 2, 1) := by decide +kernel
theorem dL_law_2519 : decode cL_law 2519 = .ok (.invokevirtual 183, 3) := by decide +kernel
theorem dL_law_2522 : decode cL_law 2522 = .ok (.iload 6, 2) := by decide +kernel
theorem dL_law_2524 : decode cL_law 2524 = .ok (.if_icmp .eq 5, 3) := by decide +kernel
theorem dL_law_2527 : decode cL_law 2527 = .ok (.iconst 0, 1) := by decide +kernel
theorem dL_law_2528 : decode cL_law 2528 = .ok (.ireturn, 1) := by decide +kernel
theorem dL_law_2529 : decode cL_law 2529 = .ok (.iload 6, 2) := by decide +kernel
theorem dL_law_2531 : decode cL_law 2531 = .ok (.ifCond .ne 15, 3) := by decide +kernel
theorem dL_law_2534 : decode cL_law 2534 = .ok (.aload_n 3, 1) := by decide +kernel
theorem dL_law_2535 : decode cL_law 2535 = .ok (.iconst 0, 1) := by decide +kernel
theorem dL_law_2536 : decode cL_law 2536 = .ok (.laload, 1) := by decide +kernel
theorem dL_law_2537 : decode cL_law 2537 = .ok (.iload 7, 2) := by decide +kernel
theorem dL_law_2539 : decode cL_law 2539 = .ok (.i2l, 1) := by decide +kernel
theorem dL_law_2540 : decode cL_law 2540 = .ok (.lcmp, 1) := by decide +kernel
theorem dL_law_2541 : decode cL_law 2541 = .ok (.ifCond .eq 5, 3) := by decide +kernel
theorem dL_law_2544 : decode cL_law 2544 = .ok (.iconst 0, 1) := by decide +kernel
theorem dL_law_2545 : decode cL_law 2545 = .ok (.ireturn, 1) := by decide +kernel
theorem dL_law_2546 : decode cL_law 2546 = .ok (.goto 663, 3) := by decide +kernel
theorem dL_law_2549 : decode cL_law 2549 = .ok (.aload_n 1, 1) := by decide +kernel
theorem dL_law_2550 : decode cL_law 2550 = .ok (.aload_n 3, 1) := by decide +kernel
theorem dL_law_2551 : decode cL_law 2551 = .ok (.invokestatic 304, 3) := by decide +kernel
theorem dL_law_2554 : decode cL_law 2554 = .ok (.istore 6, 2) := by decide +kernel
theorem dL_law_2556 : decode cL_law 2556 = .ok (.aload_n 2, 1) := by decide +kernel
theorem dL_law_2557 : decode cL_law 2557 = .ok (.invokevirtual 306, 3) := by decide +kernel
theorem dL_law_2560 : decode cL_law 2560 = .ok (.istore 7, 2) := by decide +kernel
theorem dL_law_2562 : decode cL_law 2562 = .ok (.aload_n 2, 1) := by decide +kernel
theorem dL_law_2563 : decode cL_law 2563 = .ok (.invokevirtual 183, 3) := by decide +kernel
theorem dL_law_2566 : decode cL_law 2566 = .ok (.iload 6, 2) := by decide +kernel
theorem dL_law_2568 : decode cL_law 2568 = .ok (.if_icmp .eq 5, 3) := by decide +kernel
theorem dL_law_2571 : decode cL_law 2571 = .ok (.iconst 0, 1) := by decide +kernel
theorem dL_law_2572 : decode cL_law 2572 = .ok (.ireturn, 1) := by decide +kernel
theorem dL_law_2573 : decode cL_law 2573 = .ok (.iload 6, 2) := by decide +kernel
theorem dL_law_2575 : decode cL_law 2575 = .ok (.ifCond .ne 15, 3) := by decide +kernel
theorem dL_law_2578 : decode cL_law 2578 = .ok (.aload_n 3, 1) := by decide +kernel
theorem dL_law_2579 : decode cL_law 2579 = .ok (.iconst 0, 1) := by decide +kernel
theorem dL_law_2580 : decode cL_law 2580 = .ok (.laload, 1) := by decide +kernel
theorem dL_law_2581 : decode cL_law 2581 = .ok (.iload 7, 2) := by decide +kernel
theorem dL_law_2583 : decode cL_law 2583 = .ok (.i2l, 1) := by decide +kernel
theorem dL_law_2584 : decode cL_law 2584 = .ok (.lcmp, 1) := by decide +kernel
theorem dL_law_2585 : decode cL_law 2585 = .ok (.ifCond .eq 5, 3) := by decide +kernel
theorem dL_law_2588 : decode cL_law 2588 = .ok (.iconst 0, 1) := by decide +kernel
theorem dL_law_2589 : decode cL_law 2589 = .ok (.ireturn, 1) := by decide +kernel
theorem dL_law_2590 : decode cL_law 2590 = .ok (.goto 619, 3) := by decide +kernel
theorem dL_law_2593 : decode cL_law 2593 = .ok (.aload_n 1, 1) := by decide +kernel
theorem dL_law_2594 : decode cL_law 2594 = .ok (.aload_n 3, 1) := by decide +kernel
theorem dL_law_2595 : decode cL_law 2595 = .ok (.invokestatic 307, 3) := by decide +kernel
theorem dL_law_2598 : decode cL_law 2598 = .ok (.istore 6, 2) := by decide +kernel
theorem dL_law_2600 : decode cL_law 2600 = .ok (.aload_n 2, 1) := by decide +kernel
theorem dL_law_2601 : decode cL_law 2601 = .ok (.invokevirtual 309, 3) := by decide +kernel
theorem dL_law_2604 : decode cL_law 2604 = .ok (.istore 7, 2) := by decide +kernel
theorem dL_law_2606 : decode cL_law 2606 = .ok (.aload_n 2, 1) := by decide +kernel
theorem dL_law_2607 : decode cL_law 2607 = .ok (.invokevirtual 183, 3) := by decide +kernel
theorem dL_law_2610 : decode cL_law 2610 = .ok (.iload 6, 2) := by decide +kernel
theorem dL_law_2612 : decode cL_law 2612 = .ok (.if_icmp .eq 5, 3) := by decide +kernel
theorem dL_law_2615 : decode cL_law 2615 = .ok (.iconst 0, 1) := by decide +kernel
theorem dL_law_2616 : decode cL_law 2616 = .ok (.ireturn, 1) := by decide +kernel
theorem dL_law_2617 : decode cL_law 2617 = .ok (.iload 6, 2) := by decide +kernel
theorem dL_law_2619 : decode cL_law 2619 = .ok (.ifCond .ne 15, 3) := by decide +kernel
theorem dL_law_2622 : decode cL_law 2622 = .ok (.aload_n 3, 1) := by decide +kernel
theorem dL_law_2623 : decode cL_law 2623 = .ok (.iconst 0, 1) := by decide +kernel
theorem dL_law_2624 : decode cL_law 2624 = .ok (.laload, 1) := by decide +kernel
theorem dL_law_2625 : decode cL_law 2625 = .ok (.iload 7, 2) := by decide +kernel
theorem dL_law_2627 : decode cL_law 2627 = .ok (.i2l, 1) := by decide +kernel
theorem dL_law_2628 : decode cL_law 2628 = .ok (.lcmp, 1) := by decide +kernel
theorem dL_law_2629 : decode cL_law 2629 = .ok (.ifCond .eq 5, 3) := by decide +kernel
theorem dL_law_2632 : decode cL_law 2632 = .ok (.iconst 0, 1) := by decide +kernel
theorem dL_law_2633 : decode cL_law 2633 = .ok (.ireturn, 1) := by decide +kernel
theorem dL_law_2634 : decode cL_law 2634 = .ok (.goto 575, 3) := by decide +kernel
theorem dL_law_2637 : decode cL_law 2637 = .ok (.aload_n 1, 1) := by decide +kernel
theorem dL_law_2638 : decode cL_law 2638 = .ok (.aload 4, 2) := by decide +kernel
theorem dL_law_2640 : decode cL_law 2640 = .ok (.invokestatic 310, 3) := by decide +kernel
theorem dL_law_2643 : decode cL_law 2643 = .ok (.istore 6, 2) := by decide +kernel
theorem dL_law_2645 : decode cL_law 2645 = .ok (.aload_n 2, 1) := by decide +kernel
theorem dL_law_2646 : decode cL_law 2646 = .ok (.invokevirtual 313, 3) := by decide +kernel
theorem dL_law_2649 : decode cL_law 2649 = .ok (.dstore 7, 2) := by decide +kernel
theorem dL_law_2651 : decode cL_law 2651 = .ok (.aload_n 2, 1) := by decide +kernel
theorem dL_law_2652 : decode cL_law 2652 = .ok (.invokevirtual 183, 3) := by decide +kernel
theorem dL_law_2655 : decode cL_law 2655 = .ok (.iload 6, 2) := by decide +kernel
theorem dL_law_2657 : decode cL_law 2657 = .ok (.if_icmp .eq 5, 3) := by decide +kernel
theorem dL_law_2660 : decode cL_law 2660 = .ok (.iconst 0, 1) := by decide +kernel
theorem dL_law_2661 : decode cL_law 2661 = .ok (.ireturn, 1) := by decide +kernel
theorem dL_law_2662 : decode cL_law 2662 = .ok (.iload 6, 2) := by decide +kernel
theorem dL_law_2664 : decode cL_law 2664 = .ok (.ifCond .ne 35, 3) := by decide +kernel
theorem dL_law_2667 : decode cL_law 2667 = .ok (.aload 4, 2) := by decide +kernel
theorem dL_law_2669 : decode cL_law 2669 = .ok (.iconst 0, 1) := by decide +kernel
theorem dL_law_2670 : decode cL_law 2670 = .ok (.daload, 1) := by decide +kernel
theorem dL_law_2671 : decode cL_law 2671 = .ok (.dload 7, 2) := by decide +kernel
theorem dL_law_2673 : decode cL_law 2673 = .ok (.dcmp .l, 1) := by decide +kernel
theorem dL_law_2674 : decode cL_law 2674 = .ok (.ifCond .eq 25, 3) := by decide +kernel
theorem dL_law_2677 : decode cL_law 2677 = .ok (.aload 4, 2) := by decide +kernel
theorem dL_law_2679 : decode cL_law 2679 = .ok (.iconst 0, 1) := by decide +kernel
theorem dL_law_2680 : decode cL_law 2680 = .ok (.daload, 1) := by decide +kernel
theorem dL_law_2681 : decode cL_law 2681 = .ok (.aload 4, 2) := by decide +kernel
theorem dL_law_2683 : decode cL_law 2683 = .ok (.iconst 0, 1) := by decide +kernel
theorem dL_law_2684 : decode cL_law 2684 = .ok (.daload, 1) := by decide +kernel
theorem dL_law_2685 : decode cL_law 2685 = .ok (.dcmp .l, 1) := by decide +kernel
theorem dL_law_2686 : decode cL_law 2686 = .ok (.ifCond .eq 11, 3) := by decide +kernel
theorem dL_law_2689 : decode cL_law 2689 = .ok (.dload 7, 2) := by decide +kernel
theorem dL_law_2691 : decode cL_law 2691 = .ok (.dload 7, 2) := by decide +kernel
theorem dL_law_2693 : decode cL_law 2693 = .ok (.dcmp .l, 1) := by decide +kernel
theorem dL_law_2694 : decode cL_law 2694 = .ok (.ifCond .ne 5, 3) := by decide +kernel
theorem dL_law_2697 : decode cL_law 2697 = .ok (.iconst 0, 1) := by decide +kernel
theorem dL_law_2698 : decode cL_law 2698 = .ok (.ireturn, 1) := by decide +kernel
theorem dL_law_2699 : decode cL_law 2699 = .ok (.goto 510, 3) := by decide +kernel
theorem dL_law_2702 : decode cL_law 2702 = .ok (.aload_n 1, 1) := by decide +kernel
theorem dL_law_2703 : decode cL_law 2703 = .ok (.aload 4, 2) := by decide +kernel
theorem dL_law_2705 : decode cL_law 2705 = .ok (.invokestatic 314, 3) := by decide +kernel
theorem dL_law_2708 : decode cL_law 2708 = .ok (.istore 6, 2) := by decide +kernel
theorem dL_law_2710 : decode cL_law 2710 = .ok (.aload_n 2, 1) := by decide +kernel
theorem dL_law_2711 : decode cL_law 2711 = .ok (.invokevirtual 316, 3) := by decide +kernel
theorem dL_law_2714 : decode cL_law 2714 = .ok (.fstore 7, 2) := by decide +kernel
theorem dL_law_2716 : decode cL_law 2716 = .ok (.aload_n 2, 1) := by decide +kernel
theorem dL_law_2717 : decode cL_law 2717 = .ok (.invokevirtual 183, 3) := by decide +kernel
theorem dL_law_2720 : decode cL_law 2720 = .ok (.iload 6, 2) := by decide +kernel
theorem dL_law_2722 : decode cL_law 2722 = .ok (.if_icmp .eq 5, 3) := by decide +kernel
theorem dL_law_2725 : decode cL_law 2725 = .ok (.iconst 0, 1) := by decide +kernel
theorem dL_law_2726 : decode cL_law 2726 = .ok (.ireturn, 1) := by decide +kernel
theorem dL_law_2727 : decode cL_law 2727 = .ok (.iload 6, 2) := by decide +kernel
theorem dL_law_2729 : decode cL_law 2729 = .ok (.ifCond .ne 36, 3) := by decide +kernel
theorem dL_law_2732 : decode cL_law 2732 = .ok (.aload 4, 2) := by decide +kernel
theorem dL_law_2734 : decode cL_law 2734 = .ok (.iconst 0, 1) := by decide +kernel
theorem dL_law_2735 : decode cL_law 2735 = .ok (.daload, 1) := by decide +kernel
theorem dL_law_2736 : decode cL_law 2736 = .ok (.fload 7, 2) := by decide +kernel
theorem dL_law_2738 : decode cL_law 2738 = .ok (.f2d, 1) := by decide +kernel
theorem dL_law_2739 : decode cL_law 2739 = .ok (.dcmp .l, 1) := by decide +kernel
theorem dL_law_2740 : decode cL_law 2740 = .ok (.ifCond .eq 25, 3) := by decide +kernel
theorem dL_law_2743 : decode cL_law 2743 = .ok (.aload 4, 2) := by decide +kernel
theorem dL_law_2745 : decode cL_law 2745 = .ok (.iconst 0, 1) := by decide +kernel
theorem dL_law_2746 : decode cL_law 2746 = .ok (.daload, 1) := by decide +kernel
theorem dL_law_2747 : decode cL_law 2747 = .ok (.aload 4, 2) := by decide +kernel
theorem dL_law_2749 : decode cL_law 2749 = .ok (.iconst 0, 1) := by decide +kernel
theorem dL_law_2750 : decode cL_law 2750 = .ok (.daload, 1) := by decide +kernel
theorem dL_law_2751 : decode cL_law 2751 = .ok (.dcmp .l, 1) := by decide +kernel
theorem dL_law_2752 : decode cL_law 2752 = .ok (.ifCond .eq 11, 3) := by decide +kernel
theorem dL_law_2755 : decode cL_law 2755 = .ok (.fload 7, 2) := by decide +kernel
theorem dL_law_2757 : decode cL_law 2757 = .ok (.fload 7, 2) := by decide +kernel
theorem dL_law_2759 : decode cL_law 2759 = .ok (.fcmp .l, 1) := by decide +kernel
theorem dL_law_2760 : decode cL_law 2760 = .ok (.ifCond .ne 5, 3) := by decide +kernel
theorem dL_law_2763 : decode cL_law 2763 = .ok (.iconst 0, 1) := by decide +kernel
theorem dL_law_2764 : decode cL_law 2764 = .ok (.ireturn, 1) := by decide +kernel
theorem dL_law_2765 : decode cL_law 2765 = .ok (.goto 444, 3) := by decide +kernel
theorem dL_law_2768 : decode cL_law 2768 = .ok (.aload_n 1, 1) := by decide +kernel
theorem dL_law_2769 : decode cL_law 2769 = .ok (.aload_n 0, 1) := by decide +kernel
theorem dL_law_2770 : decode cL_law 2770 = .ok (.iload 5, 2) := by decide +kernel
theorem dL_law_2772 : decode cL_law 2772 = .ok (.iconst 1, 1) := by decide +kernel
theorem dL_law_2773 : decode cL_law 2773 = .ok (.iadd, 1) := by decide +kernel
theorem dL_law_2774 : decode cL_law 2774 = .ok (.iaload, 1) := by decide +kernel
theorem dL_law_2775 : decode cL_law 2775 = .ok (.aload_n 0, 1) := by decide +kernel
theorem dL_law_2776 : decode cL_law 2776 = .ok (.iload 5, 2) := by decide +kernel
theorem dL_law_2778 : decode cL_law 2778 = .ok (.iconst 2, 1) := by decide +kernel
theorem dL_law_2779 : decode cL_law 2779 = .ok (.iadd, 1) := by decide +kernel
theorem dL_law_2780 : decode cL_law 2780 = .ok (.iaload, 1) := by decide +kernel
theorem dL_law_2781 : decode cL_law 2781 = .ok (.aload_n 3, 1) := by decide +kernel
theorem dL_law_2782 : decode cL_law 2782 = .ok (.invokestatic 317, 3) := by decide +kernel
theorem dL_law_2785 : decode cL_law 2785 = .ok (.istore 6, 2) := by decide +kernel
theorem dL_law_2787 : decode cL_law 2787 = .ok (.aload_n 2, 1) := by decide +kernel
theorem dL_law_2788 : decode cL_law 2788 = .ok (.aload_n 0, 1) := by decide +kernel
theorem dL_law_2789 : decode cL_law 2789 = .ok (.iload 5, 2) := by decide +kernel
theorem dL_law_2791 : decode cL_law 2791 = .ok (.iconst 1, 1) := by decide +kernel
theorem dL_law_2792 : decode cL_law 2792 = .ok (.iadd, 1) := by decide +kernel
theorem dL_law_2793 : decode cL_law 2793 = .ok (.iaload, 1) := by decide +kernel
theorem dL_law_2794 : decode cL_law 2794 = .ok (.aload_n 0, 1) := by decide +kernel
theorem dL_law_2795 : decode cL_law 2795 = .ok (.iload 5, 2) := by decide +kernel
theorem dL_law_2797 : decode cL_law 2797 = .ok (.iconst 2, 1) := by decide +kernel
theorem dL_law_2798 : decode cL_law 2798 = .ok (.iadd, 1) := by decide +kernel
theorem dL_law_2799 : decode cL_law 2799 = .ok (.iaload, 1) := by decide +kernel
theorem dL_law_2800 : decode cL_law 2800 = .ok (.invokevirtual 319, 3) := by decide +kernel
theorem dL_law_2803 : decode cL_law 2803 = .ok (.istore 7, 2) := by decide +kernel
theorem dL_law_2805 : decode cL_law 2805 = .ok (.aload_n 2, 1) := by decide +kernel
theorem dL_law_2806 : decode cL_law 2806 = .ok (.invokevirtual 183, 3) := by decide +kernel
theorem dL_law_2809 : decode cL_law 2809 = .ok (.iload 6, 2) := by decide +kernel
theorem dL_law_2811 : decode cL_law 2811 = .ok (.if_icmp .eq 5, 3) := by decide +kernel
theorem dL_law_2814 : decode cL_law 2814 = .ok (.iconst 0, 1) := by decide +kernel
theorem dL_law_2815 : decode cL_law 2815 = .ok (.ireturn, 1) := by decide +kernel
theorem dL_law_2816 : decode cL_law 2816 = .ok (.iload 6, 2) := by decide +kernel
theorem dL_law_2818 : decode cL_law 2818 = .ok (.ifCond .ne 15, 3) := by decide +kernel
theorem dL_law_2821 : decode cL_law 2821 = .ok (.aload_n 3, 1) := by decide +kernel
theorem dL_law_2822 : decode cL_law 2822 = .ok (.iconst 0, 1) := by decide +kernel
theorem dL_law_2823 : decode cL_law 2823 = .ok (.laload, 1) := by decide +kernel
theorem dL_law_2824 : decode cL_law 2824 = .ok (.iload 7, 2) := by decide +kernel
theorem dL_law_2826 : decode cL_law 2826 = .ok (.i2l, 1) := by decide +kernel
theorem dL_law_2827 : decode cL_law 2827 = .ok (.lcmp, 1) := by decide +kernel
theorem dL_law_2828 : decode cL_law 2828 = .ok (.ifCond .eq 5, 3) := by decide +kernel
theorem dL_law_2831 : decode cL_law 2831 = .ok (.iconst 0, 1) := by decide +kernel
theorem dL_law_2832 : decode cL_law 2832 = .ok (.ireturn, 1) := by decide +kernel
theorem dL_law_2833 : decode cL_law 2833 = .ok (.goto 376, 3) := by decide +kernel
theorem dL_law_2836 : decode cL_law 2836 = .ok (.aload_n 1, 1) := by decide +kernel
theorem dL_law_2837 : decode cL_law 2837 = .ok (.aload_n 0, 1) := by decide +kernel
theorem dL_law_2838 : decode cL_law 2838 = .ok (.iload 5, 2) := by decide +kernel
theorem dL_law_2840 : decode cL_law 2840 = .ok (.iconst 1, 1) := by decide +kernel
theorem dL_law_2841 : decode cL_law 2841 = .ok (.iadd, 1) := by decide +kernel
theorem dL_law_2842 : decode cL_law 2842 = .ok (.iaload, 1) := by decide +kernel
theorem dL_law_2843 : decode cL_law 2843 = .ok (.aload_n 3, 1) := by decide +kernel
theorem dL_law_2844 : decode cL_law 2844 = .ok (.invokestatic 320, 3) := by decide +kernel
theorem dL_law_2847 : decode cL_law 2847 = .ok (.istore 6, 2) := by decide +kernel
theorem dL_law_2849 : decode cL_law 2849 = .ok (.aload_n 2, 1) := by decide +kernel
theorem dL_law_2850 : decode cL_law 2850 = .ok (.aload_n 0, 1) := by decide +kernel
theorem dL_law_2851 : decode cL_law 2851 = .ok (.iload 5, 2) := by decide +kernel
theorem dL_law_2853 : decode cL_law 2853 = .ok (.iconst 1, 1) := by decide +kernel
theorem dL_law_2854 : decode cL_law 2854 = .ok (.iadd, 1) := by decide +kernel
theorem dL_law_2855 : decode cL_law 2855 = .ok (.iaload, 1) := by decide +kernel
theorem dL_law_2856 : decode cL_law 2856 = .ok (.invokevirtual 322, 3) := by decide +kernel
theorem dL_law_2859 : decode cL_law 2859 = .ok (.istore 7, 2) := by decide +kernel
theorem dL_law_2861 : decode cL_law 2861 = .ok (.aload_n 2, 1) := by decide +kernel
theorem dL_law_2862 : decode cL_law 2862 = .ok (.invokevirtual 183, 3) := by decide +kernel
theorem dL_law_2865 : decode cL_law 2865 = .ok (.iload 6, 2) := by decide +kernel
theorem dL_law_2867 : decode cL_law 2867 = .ok (.if_icmp .eq 5, 3) := by decide +kernel
theorem dL_law_2870 : decode cL_law 2870 = .ok (.iconst 0, 1) := by decide +kernel
theorem dL_law_2871 : decode cL_law 2871 = .ok (.ireturn, 1) := by decide +kernel
theorem dL_law_2872 : decode cL_law 2872 = .ok (.iload 6, 2) := by decide +kernel
theorem dL_law_2874 : decode cL_law 2874 = .ok (.ifCond .ne 15, 3) := by decide +kernel
theorem dL_law_2877 : decode cL_law 2877 = .ok (.aload_n 3, 1) := by decide +kernel
theorem dL_law_2878 : decode cL_law 2878 = .ok (.iconst 0, 1) := by decide +kernel
theorem dL_law_2879 : decode cL_law 2879 = .ok (.laload, 1) := by decide +kernel
theorem dL_law_2880 : decode cL_law 2880 = .ok (.iload 7, 2) := by decide +kernel
theorem dL_law_2882 : decode cL_law 2882 = .ok (.i2l, 1) := by decide +kernel
theorem dL_law_2883 : decode cL_law 2883 = .ok (.lcmp, 1) := by decide +kernel
theorem dL_law_2884 : decode cL_law 2884 = .ok (.ifCond .eq 5, 3) := by decide +kernel
theorem dL_law_2887 : decode cL_law 2887 = .ok (.iconst 0, 1) := by decide +kernel
theorem dL_law_2888 : decode cL_law 2888 = .ok (.ireturn, 1) := by decide +kernel
theorem dL_law_2889 : decode cL_law 2889 = .ok (.goto 320, 3) := by decide +kernel
theorem dL_law_2892 : decode cL_law 2892 = .ok (.aload_n 1, 1) := by decide +kernel
theorem dL_law_2893 : decode cL_law 2893 = .ok (.invokevirtual 323, 3) := by decide +kernel
theorem dL_law_2896 : decode cL_law 2896 = .ok (.aload_n 2, 1) := by decide +kernel
theorem dL_law_2897 : decode cL_law 2897 = .ok (.invokevirtual 327, 3) := by decide +kernel
theorem dL_law_2900 : decode cL_law 2900 = .ok (.if_icmp .eq 309, 3) := by decide +kernel
theorem dL_law_2903 : decode cL_law 2903 = .ok (.iconst 0, 1) := by decide +kernel
theorem dL_law_2904 : decode cL_law 2904 = .ok (.ireturn, 1) := by decide +kernel
theorem dL_law_2905 : decode cL_law 2905 = .ok (.aload_n 1, 1) := by decide +kernel
theorem dL_law_2906 : decode cL_law 2906 = .ok (.aload_n 0, 1) := by decide +kernel
theorem dL_law_2907 : decode cL_law 2907 = .ok (.iload 5, 2) := by decide +kernel
theorem dL_law_2909 : decode cL_law 2909 = .ok (.iconst 1, 1) := by decide +kernel
theorem dL_law_2910 : decode cL_law 2910 = .ok (.iadd, 1) := by decide +kernel
theorem dL_law_2911 : decode cL_law 2911 = .ok (.iaload, 1) := by decide +kernel
theorem dL_law_2912 : decode cL_law 2912 = .ok (.i2c, 1) := by decide +kernel
theorem dL_law_2913 : decode cL_law 2913 = .ok (.aload_n 3, 1) := by decide +kernel
theorem dL_law_2914 : decode cL_law 2914 = .ok (.invokestatic 328, 3) := by decide +kernel
theorem dL_law_2917 : decode cL_law 2917 = .ok (.istore 6, 2) := by decide +kernel
theorem dL_law_2919 : decode cL_law 2919 = .ok (.aload_n 2, 1) := by decide +kernel
theorem dL_law_2920 : decode cL_law 2920 = .ok (.aload_n 0, 1) := by decide +kernel
theorem dL_law_2921 : decode cL_law 2921 = .ok (.iload 5, 2) := by decide +kernel
theorem dL_law_2923 : decode cL_law 2923 = .ok (.iconst 1, 1) := by decide +kernel
theorem dL_law_2924 : decode cL_law 2924 = .ok (.iadd, 1) := by decide +kernel
theorem dL_law_2925 : decode cL_law 2925 = .ok (.iaload, 1) := by decide +kernel
theorem dL_law_2926 : decode cL_law 2926 = .ok (.i2c, 1) := by decide +kernel
theorem dL_law_2927 : decode cL_law 2927 = .ok (.invokevirtual 331, 3) := by decide +kernel
theorem dL_law_2930 : decode cL_law 2930 = .ok (.istore 7, 2) := by decide +kernel
theorem dL_law_2932 : decode cL_law 2932 = .ok (.aload_n 2, 1) := by decide +kernel
theorem dL_law_2933 : decode cL_law 2933 = .ok (.invokevirtual 183, 3) := by decide +kernel
theorem dL_law_2936 : decode cL_law 2936 = .ok (.iload 6, 2) := by decide +kernel
theorem dL_law_2938 : decode cL_law 2938 = .ok (.if_icmp .eq 5, 3) := by decide +kernel
theorem dL_law_2941 : decode cL_law 2941 = .ok (.iconst 0, 1) := by decide +kernel
theorem dL_law_2942 : decode cL_law 2942 = .ok (.ireturn, 1) := by decide +kernel
theorem dL_law_2943 : decode cL_law 2943 = .ok (.iload 6, 2) := by decide +kernel
theorem dL_law_2945 : decode cL_law 2945 = .ok (.ifCond .ne 15, 3) := by decide +kernel
theorem dL_law_2948 : decode cL_law 2948 = .ok (.aload_n 3, 1) := by decide +kernel
theorem dL_law_2949 : decode cL_law 2949 = .ok (.iconst 0, 1) := by decide +kernel
theorem dL_law_2950 : decode cL_law 2950 = .ok (.laload, 1) := by decide +kernel
theorem dL_law_2951 : decode cL_law 2951 = .ok (.iload 7, 2) := by decide +kernel
theorem dL_law_2953 : decode cL_law 2953 = .ok (.i2l, 1) := by decide +kernel
theorem dL_law_2954 : decode cL_law 2954 = .ok (.lcmp, 1) := by decide +kernel
theorem dL_law_2955 : decode cL_law 2955 = .ok (.ifCond .eq 5, 3) := by decide +kernel
theorem dL_law_2958 : decode cL_law 2958 = .ok (.iconst 0, 1) := by decide +kernel
theorem dL_law_2959 : decode cL_law 2959 = .ok (.ireturn, 1) := by decide +kernel
theorem dL_law_2960 : decode cL_law 2960 = .ok (.goto 249, 3) := by decide +kernel
theorem dL_law_2963 : decode cL_law 2963 = .ok (.aload_n 1, 1) := by decide +kernel
theorem dL_law_2964 : decode cL_law 2964 = .ok (.aload_n 3, 1) := by decide +kernel
theorem dL_law_2965 : decode cL_law 2965 = .ok (.invokestatic 332, 3) := by decide +kernel
theorem dL_law_2968 : decode cL_law 2968 = .ok (.istore 6, 2) := by decide +kernel
theorem dL_law_2970 : decode cL_law 2970 = .ok (.aload_n 2, 1) := by decide +kernel
theorem dL_law_2971 : decode cL_law 2971 = .ok (.invokevirtual 334, 3) := by decide +kernel
theorem dL_law_2974 : decode cL_law 2974 = .ok (.istore 7, 2) := by decide +kernel
theorem dL_law_2976 : decode cL_law 2976 = .ok (.aload_n 2, 1) := by decide +kernel
theorem dL_law_2977 : decode cL_law 2977 = .ok (.invokevirtual 183, 3) := by decide +kernel
theorem dL_law_2980 : decode cL_law 2980 = .ok (.iload 6, 2) := by decide +kernel
theorem dL_law_2982 : decode cL_law 2982 = .ok (.if_icmp .eq 5, 3) := by decide +kernel
theorem dL_law_2985 : decode cL_law 2985 = .ok (.iconst 0, 1) := by decide +kernel
theorem dL_law_2986 : decode cL_law 2986 = .ok (.ireturn, 1) := by decide +kernel
theorem dL_law_2987 : decode cL_law 2987 = .ok (.iload 6, 2) := by decide +kernel
theorem dL_law_2989 : decode cL_law 2989 = .ok (.ifCond .ne 15, 3) := by decide +kernel
theorem dL_law_2992 : decode cL_law 2992 = .ok (.aload_n 3, 1) := by decide +kernel
theorem dL_law_2993 : decode cL_law 2993 = .ok (.iconst 0, 1) := by decide +kernel
theorem dL_law_2994 : decode cL_law 2994 = .ok (.laload, 1) := by decide +kernel
theorem dL_law_2995 : decode cL_law 2995 = .ok (.iload 7, 2) := by decide +kernel
theorem dL_law_2997 : decode cL_law 2997 = .ok (.i2l, 1) := by decide +kernel
theorem dL_law_2998 : decode cL_law 2998 = .ok (.lcmp, 1) := by decide +kernel
theorem dL_law_2999 : decode cL_law 2999 = .ok (.ifCond .eq 5, 3) := by decide +kernel
theorem dL_law_3002 : decode cL_law 3002 = .ok (.iconst 0, 1) := by decide +kernel
theorem dL_law_3003 : decode cL_law 3003 = .ok (.ireturn, 1) := by decide +kernel
theorem dL_law_3004 : decode cL_law 3004 = .ok (.goto 205, 3) := by decide +kernel
theorem dL_law_3007 : decode cL_law 3007 = .ok (.aload_n 1, 1) := by decide +kernel
theorem dL_law_3008 : decode cL_law 3008 = .ok (.aload_n 3, 1) := by decide +kernel
theorem dL_law_3009 : decode cL_law 3009 = .ok (.invokestatic 335, 3) := by decide +kernel
theorem dL_law_3012 : decode cL_law 3012 = .ok (.istore 6, 2) := by decide +kernel
theorem dL_law_3014 : decode cL_law 3014 = .ok (.aload_n 2, 1) := by decide +kernel
theorem dL_law_3015 : decode cL_law 3015 = .ok (.invokevirtual 337, 3) := by decide +kernel
theorem dL_law_3018 : decode cL_law 3018 = .ok (.istore 7, 2) := by decide +kernel
theorem dL_law_3020 : decode cL_law 3020 = .ok (.aload_n 2, 1) := by decide +kernel
theorem dL_law_3021 : decode cL_law 3021 = .ok (.invokevirtual 183, 3) := by decide +kernel
theorem dL_law_3024 : decode cL_law 3024 = .ok (.iload 6, 2) := by decide +kernel
theorem dL_law_3026 : decode cL_law 3026 = .ok (.if_icmp .eq 5, 3) := by decide +kernel
theorem dL_law_3029 : decode cL_law 3029 = .ok (.iconst 0, 1) := by decide +kernel
theorem dL_law_3030 : decode cL_law 3030 = .ok (.ireturn, 1) := by decide +kernel
theorem dL_law_3031 : decode cL_law 3031 = .ok (.iload 6, 2) := by decide +kernel
theorem dL_law_3033 : decode cL_law 3033 = .ok (.ifCond .ne 15, 3) := by decide +kernel
theorem dL_law_3036 : decode cL_law 3036 = .ok (.aload_n 3, 1) := by decide +kernel
theorem dL_law_3037 : decode cL_law 3037 = .ok (.iconst 0, 1) := by decide +kernel
theorem dL_law_3038 : decode cL_law 3038 = .ok (.laload, 1) := by decide +kernel
theorem dL_law_3039 : decode cL_law 3039 = .ok (.iload 7, 2) := by decide +kernel
theorem dL_law_3041 : decode cL_law 3041 = .ok (.i2l, 1) := by decide +kernel
theorem dL_law_3042 : decode cL_law 3042 = .ok (.lcmp, 1) := by decide +kernel
theorem dL_law_3043 : decode cL_law 3043 = .ok (.ifCond .eq 5, 3) := by decide +kernel
theorem dL_law_3046 : decode cL_law 3046 = .ok (.iconst 0, 1) := by decide +kernel
theorem dL_law_3047 : decode cL_law 3047 = .ok (.ireturn, 1) := by decide +kernel
theorem dL_law_3048 : decode cL_law 3048 = .ok (.goto 161, 3) := by decide +kernel
theorem dL_law_3051 : decode cL_law 3051 = .ok (.aload_n 1, 1) := by decide +kernel
theorem dL_law_3052 : decode cL_law 3052 = .ok (.aload_n 3, 1) := by decide +kernel
theorem dL_law_3053 : decode cL_law 3053 = .ok (.invokestatic 338, 3) := by decide +kernel
theorem dL_law_3056 : decode cL_law 3056 = .ok (.istore 6, 2) := by decide +kernel
theorem dL_law_3058 : decode cL_law 3058 = .ok (.aload_n 2, 1) := by decide +kernel
theorem dL_law_3059 : decode cL_law 3059 = .ok (.invokevirtual 340, 3) := by decide +kernel
theorem dL_law_3062 : decode cL_law 3062 = .ok (.istore 7, 2) := by decide +kernel
theorem dL_law_3064 : decode cL_law 3064 = .ok (.aload_n 2, 1) := by decide +kernel
theorem dL_law_3065 : decode cL_law 3065 = .ok (.invokevirtual 183, 3) := by decide +kernel
theorem dL_law_3068 : decode cL_law 3068 = .ok (.iload 6, 2) := by decide +kernel
theorem dL_law_3070 : decode cL_law 3070 = .ok (.if_icmp .eq 5, 3) := by decide +kernel
theorem dL_law_3073 : decode cL_law 3073 = .ok (.iconst 0, 1) := by decide +kernel
theorem dL_law_3074 : decode cL_law 3074 = .ok (.ireturn, 1) := by decide +kernel
theorem dL_law_3075 : decode cL_law 3075 = .ok (.iload 6, 2) := by decide +kernel
theorem dL_law_3077 : decode cL_law 3077 = .ok (.ifCond .ne 15, 3) := by decide +kernel
theorem dL_law_3080 : decode cL_law 3080 = .ok (.aload_n 3, 1) := by decide +kernel
theorem dL_law_3081 : decode cL_law 3081 = .ok (.iconst 0, 1) := by decide +kernel
theorem dL_law_3082 : decode cL_law 3082 = .ok (.laload, 1) := by decide +kernel
theorem dL_law_3083 : decode cL_law 3083 = .ok (.iload 7, 2) := by decide +kernel
theorem dL_law_3085 : decode cL_law 3085 = .ok (.i2l, 1) := by decide +kernel
theorem dL_law_3086 : decode cL_law 3086 = .ok (.lcmp, 1) := by decide +kernel
theorem dL_law_3087 : decode cL_law 3087 = .ok (.ifCond .eq 5, 3) := by decide +kernel
theorem dL_law_3090 : decode cL_law 3090 = .ok (.iconst 0, 1) := by decide +kernel
theorem dL_law_3091 : decode cL_law 3091 = .ok (.ireturn, 1) := by decide +kernel
theorem dL_law_3092 : decode cL_law 3092 = .ok (.goto 117, 3) := by decide +kernel
theorem dL_law_3095 : decode cL_law 3095 = .ok (.aload_n 1, 1) := by decide +kernel
theorem dL_law_3096 : decode cL_law 3096 = .ok (.aload_n 3, 1) := by decide +kernel
theorem dL_law_3097 : decode cL_law 3097 = .ok (.invokestatic 341, 3) := by decide +kernel
theorem dL_law_3100 : decode cL_law 3100 = .ok (.istore 6, 2) := by decide +kernel
theorem dL_law_3102 : decode cL_law 3102 = .ok (.aload_n 2, 1) := by decide +kernel
theorem dL_law_3103 : decode cL_law 3103 = .ok (.invokevirtual 343, 3) := by decide +kernel
theorem dL_law_3106 : decode cL_law 3106 = .ok (.istore 7, 2) := by decide +kernel
theorem dL_law_3108 : decode cL_law 3108 = .ok (.aload_n 2, 1) := by decide +kernel
theorem dL_law_3109 : decode cL_law 3109 = .ok (.invokevirtual 183, 3) := by decide +kernel
theorem dL_law_3112 : decode cL_law 3112 = .ok (.iload 6, 2) := by decide +kernel
theorem dL_law_3114 : decode cL_law 3114 = .ok (.if_icmp .eq 5, 3) := by decide +kernel
theorem dL_law_3117 : decode cL_law 3117 = .ok (.iconst 0, 1) := by decide +kernel
theorem dL_law_3118 : decode cL_law 3118 = .ok (.ireturn, 1) := by decide +kernel
theorem dL_law_3119 : decode cL_law 3119 = .ok (.iload 6, 2) := by decide +kernel
theorem dL_law_3121 : decode cL_law 3121 = .ok (.ifCond .ne 15, 3) := by decide +kernel
theorem dL_law_3124 : decode cL_law 3124 = .ok (.aload_n 3, 1) := by decide +kernel
theorem dL_law_3125 : decode cL_law 3125 = .ok (.iconst 0, 1) := by decide +kernel
theorem dL_law_3126 : decode cL_law 3126 = .ok (.laload, 1) := by decide +kernel
theorem dL_law_3127 : decode cL_law 3127 = .ok (.iload 7, 2) := by decide +kernel
theorem dL_law_3129 : decode cL_law 3129 = .ok (.i2l, 1) := by decide +kernel
theorem dL_law_3130 : decode cL_law 3130 = .ok (.lcmp, 1) := by decide +kernel
theorem dL_law_3131 : decode cL_law 3131 = .ok (.ifCond .eq 5, 3) := by decide +kernel
theorem dL_law_3134 : decode cL_law 3134 = .ok (.iconst 0, 1) := by decide +kernel
theorem dL_law_3135 : decode cL_law 3135 = .ok (.ireturn, 1) := by decide +kernel
theorem dL_law_3136 : decode cL_law 3136 = .ok (.goto 73, 3) := by decide +kernel
theorem dL_law_3139 : decode cL_law 3139 = .ok (.aload_n 1, 1) := by decide +kernel
theorem dL_law_3140 : decode cL_law 3140 = .ok (.invokevirtual 344, 3) := by decide +kernel
theorem dL_law_3143 : decode cL_law 3143 = .ok (.aload_n 2, 1) := by decide +kernel
theorem dL_law_3144 : decode cL_law 3144 = .ok (.invokevirtual 347, 3) := by decide +kernel
theorem dL_law_3147 : decode cL_law 3147 = .ok (.if_icmp .eq 62, 3) := by decide +kernel
theorem dL_law_3150 : decode cL_law 3150 = .ok (.iconst 0, 1) := by decide +kernel
theorem dL_law_3151 : decode cL_law 3151 = .ok (.ireturn, 1) := by decide +kernel
theorem dL_law_3152 : decode cL_law 3152 = .ok (.aload_n 1, 1) := by decide +kernel
theorem dL_law_3153 : decode cL_law 3153 = .ok (.invokevirtual 348, 3) := by decide +kernel
theorem dL_law_3156 : decode cL_law 3156 = .ok (.aload_n 2, 1) := by decide +kernel
theorem dL_law_3157 : decode cL_law 3157 = .ok (.invokevirtual 351, 3) := by decide +kernel
theorem dL_law_3160 : decode cL_law 3160 = .ok (.if_icmp .eq 49, 3) := by decide +kernel
theorem dL_law_3163 : decode cL_law 3163 = .ok (.iconst 0, 1) := by decide +kernel
theorem dL_law_3164 : decode cL_law 3164 = .ok (.ireturn, 1) := by decide +kernel
theorem dL_law_3165 : decode cL_law 3165 = .ok (.aload_n 1, 1) := by decide +kernel
theorem dL_law_3166 : decode cL_law 3166 = .ok (.aload_n 3, 1) := by decide +kernel
theorem dL_law_3167 : decode cL_law 3167 = .ok (.invokestatic 352, 3) := by decide +kernel
theorem dL_law_3170 : decode cL_law 3170 = .ok (.istore 6, 2) := by decide +kernel
theorem dL_law_3172 : decode cL_law 3172 = .ok (.aload_n 2, 1) := by decide +kernel
theorem dL_law_3173 : decode cL_law 3173 = .ok (.invokevirtual 354, 3) := by decide +kernel
theorem dL_law_3176 : decode cL_law 3176 = .ok (.istore 7, 2) := by decide +kernel
theorem dL_law_3178 : decode cL_law 3178 = .ok (.aload_n 2, 1) := by decide +kernel
theorem dL_law_3179 : decode cL_law 3179 = .ok (.invokevirtual 183, 3) := by decide +kernel
theorem dL_law_3182 : decode cL_law 3182 = .ok (.iload 6, 2) := by decide +kernel
theorem dL_law_3184 : decode cL_law 3184 = .ok (.if_icmp .eq 5, 3) := by decide +kernel
theorem dL_law_3187 : decode cL_law 3187 = .ok (.iconst 0, 1) := by decide +kernel
theorem dL_law_3188 : decode cL_law 3188 = .ok (.ireturn, 1) := by decide +kernel
theorem dL_law_3189 : decode cL_law 3189 = .ok (.iload 6, 2) := by decide +kernel
theorem dL_law_3191 : decode cL_law 3191 = .ok (.ifCond .ne 15, 3) := by decide +kernel
theorem dL_law_3194 : decode cL_law 3194 = .ok (.aload_n 3, 1) := by decide +kernel
theorem dL_law_3195 : decode cL_law 3195 = .ok (.iconst 0, 1) := by decide +kernel
theorem dL_law_3196 : decode cL_law 3196 = .ok (.laload, 1) := by decide +kernel
theorem dL_law_3197 : decode cL_law 3197 = .ok (.iload 7, 2) := by decide +kernel
theorem dL_law_3199 : decode cL_law 3199 = .ok (.i2l, 1) := by decide +kernel
theorem dL_law_3200 : decode cL_law 3200 = .ok (.lcmp, 1) := by decide +kernel
theorem dL_law_3201 : decode cL_law 3201 = .ok (.ifCond .eq 5, 3) := by decide +kernel
theorem dL_law_3204 : decode cL_law 3204 = .ok (.iconst 0, 1) := by decide +kernel
theorem dL_law_3205 : decode cL_law 3205 = .ok (.ireturn, 1) := by decide +kernel
theorem dL_law_3206 : decode cL_law 3206 = .ok (.goto 3, 3) := by decide +kernel
theorem dL_law_3209 : decode cL_law 3209 = .ok (.iinc 5 5, 3) := by decide +kernel
theorem dL_law_3212 : decode cL_law 3212 = .ok (.goto (-3184), 3) := by decide +kernel
theorem dL_law_3215 : decode cL_law 3215 = .ok (.iconst 1, 1) := by decide +kernel
theorem dL_law_3216 : decode cL_law 3216 = .ok (.ireturn, 1) := by decide +kernel
