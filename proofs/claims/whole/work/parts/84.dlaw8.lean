theorem dL_law_2209 : decode cL_law 2209 = .ok (.iaload, 1) := by decide +kernel
theorem dL_law_2210 : decode cL_law 2210 = .ok (.invokevirtual 296, 3) := by decide +kernel
theorem dL_law_2213 : decode cL_law 2213 = .ok (.istore 7, 2) := by decide +kernel
theorem dL_law_2215 : decode cL_law 2215 = .ok (.aload_n 2, 1) := by decide +kernel
theorem dL_law_2216 : decode cL_law 2216 = .ok (.invokevirtual 174, 3) := by decide +kernel
theorem dL_law_2219 : decode cL_law 2219 = .ok (.iload 6, 2) := by decide +kernel
theorem dL_law_2221 : decode cL_law 2221 = .ok (.if_icmp .eq 5, 3) := by decide +kernel
theorem dL_law_2224 : decode cL_law 2224 = .ok (.iconst 0, 1) := by decide +kernel
theorem dL_law_2225 : decode cL_law 2225 = .ok (.ireturn, 1) := by decide +kernel
theorem dL_law_2226 : decode cL_law 2226 = .ok (.iload 6, 2) := by decide +kernel
theorem dL_law_2228 : decode cL_law 2228 = .ok (.ifCond .ne 15, 3) := by decide +kernel
theorem dL_law_2231 : decode cL_law 2231 = .ok (.aload_n 3, 1) := by decide +kernel
theorem dL_law_2232 : decode cL_law 2232 = .ok (.iconst 0, 1) := by decide +kernel
theorem dL_law_2233 : decode cL_law 2233 = .ok (.laload, 1) := by decide +kernel
theorem dL_law_2234 : decode cL_law 2234 = .ok (.iload 7, 2) := by decide +kernel
theorem dL_law_2236 : decode cL_law 2236 = .ok (.i2l, 1) := by decide +kernel
theorem dL_law_2237 : decode cL_law 2237 = .ok (.lcmp, 1) := by decide +kernel
theorem dL_law_2238 : decode cL_law 2238 = .ok (.ifCond .eq 5, 3) := by decide +kernel
theorem dL_law_2241 : decode cL_law 2241 = .ok (.iconst 0, 1) := by decide +kernel
theorem dL_law_2242 : decode cL_law 2242 = .ok (.ireturn, 1) := by decide +kernel
theorem dL_law_2243 : decode cL_law 2243 = .ok (.goto 848, 3) := by decide +kernel
theorem dL_law_2246 : decode cL_law 2246 = .ok (.aload_n 1, 1) := by decide +kernel
theorem dL_law_2247 : decode cL_law 2247 = .ok (.aload_n 0, 1) := by decide +kernel
theorem dL_law_2248 : decode cL_law 2248 = .ok (.iload 5, 2) := by decide +kernel
theorem dL_law_2250 : decode cL_law 2250 = .ok (.iconst 1, 1) := by decide +kernel
theorem dL_law_2251 : decode cL_law 2251 = .ok (.iadd, 1) := by decide +kernel
theorem dL_law_2252 : decode cL_law 2252 = .ok (.iaload, 1) := by decide +kernel
theorem dL_law_2253 : decode cL_law 2253 = .ok (.aload_n 3, 1) := by decide +kernel
theorem dL_law_2254 : decode cL_law 2254 = .ok (.invokestatic 297, 3) := by decide +kernel
theorem dL_law_2257 : decode cL_law 2257 = .ok (.istore 6, 2) := by decide +kernel
theorem dL_law_2259 : decode cL_law 2259 = .ok (.aload_n 2, 1) := by decide +kernel
theorem dL_law_2260 : decode cL_law 2260 = .ok (.aload_n 0, 1) := by decide +kernel
theorem dL_law_2261 : decode cL_law 2261 = .ok (.iload 5, 2) := by decide +kernel
theorem dL_law_2263 : decode cL_law 2263 = .ok (.iconst 1, 1) := by decide +kernel
theorem dL_law_2264 : decode cL_law 2264 = .ok (.iadd, 1) := by decide +kernel
theorem dL_law_2265 : decode cL_law 2265 = .ok (.iaload, 1) := by decide +kernel
theorem dL_law_2266 : decode cL_law 2266 = .ok (.invokevirtual 299, 3) := by decide +kernel
theorem dL_law_2269 : decode cL_law 2269 = .ok (.istore 7, 2) := by decide +kernel
theorem dL_law_2271 : decode cL_law 2271 = .ok (.aload_n 2, 1) := by decide +kernel
theorem dL_law_2272 : decode cL_law 2272 = .ok (.invokevirtual 174, 3) := by decide +kernel
theorem dL_law_2275 : decode cL_law 2275 = .ok (.iload 6, 2) := by decide +kernel
theorem dL_law_2277 : decode cL_law 2277 = .ok (.if_icmp .eq 5, 3) := by decide +kernel
theorem dL_law_2280 : decode cL_law 2280 = .ok (.iconst 0, 1) := by decide +kernel
theorem dL_law_2281 : decode cL_law 2281 = .ok (.ireturn, 1) := by decide +kernel
theorem dL_law_2282 : decode cL_law 2282 = .ok (.iload 6, 2) := by decide +kernel
theorem dL_law_2284 : decode cL_law 2284 = .ok (.ifCond .ne 22, 3) := by decide +kernel
theorem dL_law_2287 : decode cL_law 2287 = .ok (.aload_n 3, 1) := by decide +kernel
theorem dL_law_2288 : decode cL_law 2288 = .ok (.iconst 0, 1) := by decide +kernel
theorem dL_law_2289 : decode cL_law 2289 = .ok (.laload, 1) := by decide +kernel
theorem dL_law_2290 : decode cL_law 2290 = .ok (.iload 7, 2) := by decide +kernel
theorem dL_law_2292 : decode cL_law 2292 = .ok (.ifCond .eq 7, 3) := by decide +kernel
theorem dL_law_2295 : decode cL_law 2295 = .ok (.lconst 1, 1) := by decide +kernel
theorem dL_law_2296 : decode cL_law 2296 = .ok (.goto 4, 3) := by decide +kernel
theorem dL_law_2299 : decode cL_law 2299 = .ok (.lconst 0, 1) := by decide +kernel
theorem dL_law_2300 : decode cL_law 2300 = .ok (.lcmp, 1) := by decide +kernel
theorem dL_law_2301 : decode cL_law 2301 = .ok (.ifCond .eq 5, 3) := by decide +kernel
theorem dL_law_2304 : decode cL_law 2304 = .ok (.iconst 0, 1) := by decide +kernel
theorem dL_law_2305 : decode cL_law 2305 = .ok (.ireturn, 1) := by decide +kernel
theorem dL_law_2306 : decode cL_law 2306 = .ok (.goto 785, 3) := by decide +kernel
theorem dL_law_2309 : decode cL_law 2309 = .ok (.aload_n 1, 1) := by decide +kernel
theorem dL_law_2310 : decode cL_law 2310 = .ok (.invokevirtual 300, 3) := by decide +kernel
theorem dL_law_2313 : decode cL_law 2313 = .ok (.aload_n 2, 1) := by decide +kernel
theorem dL_law_2314 : decode cL_law 2314 = .ok (.invokevirtual 303, 3) := by decide +kernel
theorem dL_law_2317 : decode cL_law 2317 = .ok (.if_icmp .eq 774, 3) := by decide +kernel
theorem dL_law_2320 : decode cL_law 2320 = .ok (.iconst 0, 1) := by decide +kernel
theorem dL_law_2321 : decode cL_law 2321 = .ok (.ireturn, 1) := by decide +kernel
theorem dL_law_2322 : decode cL_law 2322 = .ok (.aload_n 1, 1) := by decide +kernel
theorem dL_law_2323 : decode cL_law 2323 = .ok (.aload_n 0, 1) := by decide +kernel
theorem dL_law_2324 : decode cL_law 2324 = .ok (.iload 5, 2) := by decide +kernel
theorem dL_law_2326 : decode cL_law 2326 = .ok (.iconst 1, 1) := by decide +kernel
theorem dL_law_2327 : decode cL_law 2327 = .ok (.iadd, 1) := by decide +kernel
theorem dL_law_2328 : decode cL_law 2328 = .ok (.iaload, 1) := by decide +kernel
theorem dL_law_2329 : decode cL_law 2329 = .ok (.aload_n 3, 1) := by decide +kernel
theorem dL_law_2330 : decode cL_law 2330 = .ok (.invokestatic 304, 3) := by decide +kernel
theorem dL_law_2333 : decode cL_law 2333 = .ok (.istore 6, 2) := by decide +kernel
theorem dL_law_2335 : decode cL_law 2335 = .ok (.aload_n 2, 1) := by decide +kernel
theorem dL_law_2336 : decode cL_law 2336 = .ok (.aload_n 0, 1) := by decide +kernel
theorem dL_law_2337 : decode cL_law 2337 = .ok (.iload 5, 2) := by decide +kernel
theorem dL_law_2339 : decode cL_law 2339 = .ok (.iconst 1, 1) := by decide +kernel
theorem dL_law_2340 : decode cL_law 2340 = .ok (.iadd, 1) := by decide +kernel
theorem dL_law_2341 : decode cL_law 2341 = .ok (.iaload, 1) := by decide +kernel
theorem dL_law_2342 : decode cL_law 2342 = .ok (.invokevirtual 306, 3) := by decide +kernel
theorem dL_law_2345 : decode cL_law 2345 = .ok (.istore 7, 2) := by decide +kernel
theorem dL_law_2347 : decode cL_law 2347 = .ok (.aload_n 2, 1) := by decide +kernel
theorem dL_law_2348 : decode cL_law 2348 = .ok (.invokevirtual 174, 3) := by decide +kernel
theorem dL_law_2351 : decode cL_law 2351 = .ok (.iload 6, 2) := by decide +kernel
theorem dL_law_2353 : decode cL_law 2353 = .ok (.if_icmp .eq 5, 3) := by decide +kernel
theorem dL_law_2356 : decode cL_law 2356 = .ok (.iconst 0, 1) := by decide +kernel
theorem dL_law_2357 : decode cL_law 2357 = .ok (.ireturn, 1) := by decide +kernel
theorem dL_law_2358 : decode cL_law 2358 = .ok (.iload 6, 2) := by decide +kernel
theorem dL_law_2360 : decode cL_law 2360 = .ok (.ifCond .ne 22, 3) := by decide +kernel
theorem dL_law_2363 : decode cL_law 2363 = .ok (.aload_n 3, 1) := by decide +kernel
theorem dL_law_2364 : decode cL_law 2364 = .ok (.iconst 0, 1) := by decide +kernel
theorem dL_law_2365 : decode cL_law 2365 = .ok (.laload, 1) := by decide +kernel
theorem dL_law_2366 : decode cL_law 2366 = .ok (.iload 7, 2) := by decide +kernel
theorem dL_law_2368 : decode cL_law 2368 = .ok (.ifCond .eq 7, 3) := by decide +kernel
theorem dL_law_2371 : decode cL_law 2371 = .ok (.lconst 1, 1) := by decide +kernel
theorem dL_law_2372 : decode cL_law 2372 = .ok (.goto 4, 3) := by decide +kernel
theorem dL_law_2375 : decode cL_law 2375 = .ok (.lconst 0, 1) := by decide +kernel
theorem dL_law_2376 : decode cL_law 2376 = .ok (.lcmp, 1) := by decide +kernel
theorem dL_law_2377 : decode cL_law 2377 = .ok (.ifCond .eq 5, 3) := by decide +kernel
theorem dL_law_2380 : decode cL_law 2380 = .ok (.iconst 0, 1) := by decide +kernel
theorem dL_law_2381 : decode cL_law 2381 = .ok (.ireturn, 1) := by decide +kernel
theorem dL_law_2382 : decode cL_law 2382 = .ok (.goto 709, 3) := by decide +kernel
theorem dL_law_2385 : decode cL_law 2385 = .ok (.aload_n 1, 1) := by decide +kernel
theorem dL_law_2386 : decode cL_law 2386 = .ok (.aload_n 0, 1) := by decide +kernel
theorem dL_law_2387 : decode cL_law 2387 = .ok (.iload 5, 2) := by decide +kernel
theorem dL_law_2389 : decode cL_law 2389 = .ok (.iconst 1, 1) := by decide +kernel
theorem dL_law_2390 : decode cL_law 2390 = .ok (.iadd, 1) := by decide +kernel
theorem dL_law_2391 : decode cL_law 2391 = .ok (.iaload, 1) := by decide +kernel
theorem dL_law_2392 : decode cL_law 2392 = .ok (.aload_n 3, 1) := by decide +kernel
theorem dL_law_2393 : decode cL_law 2393 = .ok (.invokestatic 307, 3) := by decide +kernel
theorem dL_law_2396 : decode cL_law 2396 = .ok (.istore 6, 2) := by decide +kernel
theorem dL_law_2398 : decode cL_law 2398 = .ok (.aload_n 2, 1) := by decide +kernel
theorem dL_law_2399 : decode cL_law 2399 = .ok (.aload_n 0, 1) := by decide +kernel
theorem dL_law_2400 : decode cL_law 2400 = .ok (.iload 5, 2) := by decide +kernel
theorem dL_law_2402 : decode cL_law 2402 = .ok (.iconst 1, 1) := by decide +kernel
theorem dL_law_2403 : decode cL_law 2403 = .ok (.iadd, 1) := by decide +kernel
theorem dL_law_2404 : decode cL_law 2404 = .ok (.iaload, 1) := by decide +kernel
theorem dL_law_2405 : decode cL_law 2405 = .ok (.invokevirtual 309, 3) := by decide +kernel
theorem dL_law_2408 : decode cL_law 2408 = .ok (.istore 7, 2) := by decide +kernel
theorem dL_law_2410 : decode cL_law 2410 = .ok (.aload_n 2, 1) := by decide +kernel
theorem dL_law_2411 : decode cL_law 2411 = .ok (.invokevirtual 174, 3) := by decide +kernel
theorem dL_law_2414 : decode cL_law 2414 = .ok (.iload 6, 2) := by decide +kernel
theorem dL_law_2416 : decode cL_law 2416 = .ok (.if_icmp .eq 5, 3) := by decide +kernel
theorem dL_law_2419 : decode cL_law 2419 = .ok (.iconst 0, 1) := by decide +kernel
theorem dL_law_2420 : decode cL_law 2420 = .ok (.ireturn, 1) := by decide +kernel
theorem dL_law_2421 : decode cL_law 2421 = .ok (.iload 6, 2) := by decide +kernel
theorem dL_law_2423 : decode cL_law 2423 = .ok (.ifCond .ne 15, 3) := by decide +kernel
theorem dL_law_2426 : decode cL_law 2426 = .ok (.aload_n 3, 1) := by decide +kernel
theorem dL_law_2427 : decode cL_law 2427 = .ok (.iconst 0, 1) := by decide +kernel
theorem dL_law_2428 : decode cL_law 2428 = .ok (.laload, 1) := by decide +kernel
theorem dL_law_2429 : decode cL_law 2429 = .ok (.iload 7, 2) := by decide +kernel
theorem dL_law_2431 : decode cL_law 2431 = .ok (.i2l, 1) := by decide +kernel
theorem dL_law_2432 : decode cL_law 2432 = .ok (.lcmp, 1) := by decide +kernel
theorem dL_law_2433 : decode cL_law 2433 = .ok (.ifCond .eq 5, 3) := by decide +kernel
theorem dL_law_2436 : decode cL_law 2436 = .ok (.iconst 0, 1) := by decide +kernel
theorem dL_law_2437 : decode cL_law 2437 = .ok (.ireturn, 1) := by decide +kernel
theorem dL_law_2438 : decode cL_law 2438 = .ok (.goto 653, 3) := by decide +kernel
theorem dL_law_2441 : decode cL_law 2441 = .ok (.aload_n 1, 1) := by decide +kernel
theorem dL_law_2442 : decode cL_law 2442 = .ok (.aload_n 3, 1) := by decide +kernel
theorem dL_law_2443 : decode cL_law 2443 = .ok (.invokestatic 310, 3) := by decide +kernel
theorem dL_law_2446 : decode cL_law 2446 = .ok (.istore 6, 2) := by decide +kernel
theorem dL_law_2448 : decode cL_law 2448 = .ok (.aload_n 2, 1) := by decide +kernel
theorem dL_law_2449 : decode cL_law 2449 = .ok (.invokevirtual 312, 3) := by decide +kernel
theorem dL_law_2452 : decode cL_law 2452 = .ok (.istore 7, 2) := by decide +kernel
theorem dL_law_2454 : decode cL_law 2454 = .ok (.aload_n 2, 1) := by decide +kernel
theorem dL_law_2455 : decode cL_law 2455 = .ok (.invokevirtual 174, 3) := by decide +kernel
theorem dL_law_2458 : decode cL_law 2458 = .ok (.iload 6, 2) := by decide +kernel
theorem dL_law_2460 : decode cL_law 2460 = .ok (.if_icmp .eq 5, 3) := by decide +kernel
theorem dL_law_2463 : decode cL_law 2463 = .ok (.iconst 0, 1) := by decide +kernel
theorem dL_law_2464 : decode cL_law 2464 = .ok (.ireturn, 1) := by decide +kernel
theorem dL_law_2465 : decode cL_law 2465 = .ok (.iload 6, 2) := by decide +kernel
theorem dL_law_2467 : decode cL_law 2467 = .ok (.ifCond .ne 15, 3) := by decide +kernel
theorem dL_law_2470 : decode cL_law 2470 = .ok (.aload_n 3, 1) := by decide +kernel
theorem dL_law_2471 : decode cL_law 2471 = .ok (.iconst 0, 1) := by decide +kernel
theorem dL_law_2472 : decode cL_law 2472 = .ok (.laload, 1) := by decide +kernel
theorem dL_law_2473 : decode cL_law 2473 = .ok (.iload 7, 2) := by decide +kernel
theorem dL_law_2475 : decode cL_law 2475 = .ok (.i2l, 1) := by decide +kernel
theorem dL_law_2476 : decode cL_law 2476 = .ok (.lcmp, 1) := by decide +kernel
theorem dL_law_2477 : decode cL_law 2477 = .ok (.ifCond .eq 5, 3) := by decide +kernel
theorem dL_law_2480 : decode cL_law 2480 = .ok (.iconst 0, 1) := by decide +kernel
theorem dL_law_2481 : decode cL_law 2481 = .ok (.ireturn, 1) := by decide +kernel
theorem dL_law_2482 : decode cL_law 2482 = .ok (.goto 609, 3) := by decide +kernel
theorem dL_law_2485 : decode cL_law 2485 = .ok (.aload_n 1, 1) := by decide +kernel
theorem dL_law_2486 : decode cL_law 2486 = .ok (.invokevirtual 313, 3) := by decide +kernel
theorem dL_law_2489 : decode cL_law 2489 = .ok (.aload_n 2, 1) := by decide +kernel
theorem dL_law_2490 : decode cL_law 2490 = .ok (.invokevirtual 316, 3) := by decide +kernel
theorem dL_law_2493 : decode cL_law 2493 = .ok (.if_icmp .eq 598, 3) := by decide +kernel
theorem dL_law_2496 : decode cL_law 2496 = .ok (.iconst 0, 1) := by decide +kernel
theorem dL_law_2497 : decode cL_law 2497 = .ok (.ireturn, 1) := by decide +kernel
theorem dL_law_2498 : decode cL_law 2498 = .ok (.aload_n 1, 1) := by decide +kernel
theorem dL_law_2499 : decode cL_law 2499 = .ok (.aload_n 0, 1) := by decide +kernel
theorem dL_law_2500 : decode cL_law 2500 = .ok (.iload 5, 2) := by decide +kernel
theorem dL_law_2502 : decode cL_law 2502 = .ok (.iconst 1, 1) := by decide +kernel
theorem dL_law_2503 : decode cL_law 2503 = .ok (.iadd, 1) := by decide +kernel
theorem dL_law_2504 : decode cL_law 2504 = .ok (.iaload, 1) := by decide +kernel
theorem dL_law_2505 : decode cL_law 2505 = .ok (.aload_n 3, 1) := by decide +kernel
theorem dL_law_2506 : decode cL_law 2506 = .ok (.invokestatic 317, 3) := by decide +kernel
theorem dL_law_2509 : decode cL_law 2509 = .ok (.istore 6, 2) := by decide +kernel
theorem dL_law_2511 : decode cL_law 2511 = .ok (.aload_n 2, 1) := by decide +kernel
theorem dL_law_2512 : decode cL_law 2512 = .ok (.aload_n 0, 1) := by decide +kernel
theorem dL_law_2513 : decode cL_law 2513 = .ok (.iload 5, 2) := by decide +kernel
theorem dL_law_2515 : decode cL_law 2515 = .ok (.iconst 1, 1) := by decide +kernel
theorem dL_law_2516 : decode cL_law 2516 = .ok (.iadd, 1) := by decide +kernel
theorem dL_law_2517 : decode cL_law 2517 = .ok (.iaload, 1) := by decide +kernel
theorem dL_law_2518 : decode cL_law 2518 = .ok (.invokevirtual 319, 3) := by decide +kernel
theorem dL_law_2521 : decode cL_law 2521 = .ok (.istore 7, 2) := by decide +kernel
theorem dL_law_2523 : decode cL_law 2523 = .ok (.aload_n 2, 1) := by decide +kernel
theorem dL_law_2524 : decode cL_law 2524 = .ok (.invokevirtual 174, 3) := by decide +kernel
theorem dL_law_2527 : decode cL_law 2527 = .ok (.iload 6, 2) := by decide +kernel
theorem dL_law_2529 : decode cL_law 2529 = .ok (.if_icmp .eq 5, 3) := by decide +kernel
theorem dL_law_2532 : decode cL_law 2532 = .ok (.iconst 0, 1) := by decide +kernel
theorem dL_law_2533 : decode cL_law 2533 = .ok (.ireturn, 1) := by decide +kernel
theorem dL_law_2534 : decode cL_law 2534 = .ok (.iload 6, 2) := by decide +kernel
theorem dL_law_2536 : decode cL_law 2536 = .ok (.ifCond .ne 15, 3) := by decide +kernel
theorem dL_law_2539 : decode cL_law 2539 = .ok (.aload_n 3, 1) := by decide +kernel
theorem dL_law_2540 : decode cL_law 2540 = .ok (.iconst 0, 1) := by decide +kernel
theorem dL_law_2541 : decode cL_law 2541 = .ok (.laload, 1) := by decide +kernel
theorem dL_law_2542 : decode cL_law 2542 = .ok (.iload 7, 2) := by decide +kernel
theorem dL_law_2544 : decode cL_law 2544 = .ok (.i2l, 1) := by decide +kernel
theorem dL_law_2545 : decode cL_law 2545 = .ok (.lcmp, 1) := by decide +kernel
theorem dL_law_2546 : decode cL_law 2546 = .ok (.ifCond .eq 5, 3) := by decide +kernel
theorem dL_law_2549 : decode cL_law 2549 = .ok (.iconst 0, 1) := by decide +kernel
theorem dL_law_2550 : decode cL_law 2550 = .ok (.ireturn, 1) := by decide +kernel
theorem dL_law_2551 : decode cL_law 2551 = .ok (.goto 540, 3) := by decide +kernel
theorem dL_law_2554 : decode cL_law 2554 = .ok (.aload_n 1, 1) := by decide +kernel
theorem dL_law_2555 : decode cL_law 2555 = .ok (.aload_n 0, 1) := by decide +kernel
theorem dL_law_2556 : decode cL_law 2556 = .ok (.iload 5, 2) := by decide +kernel
theorem dL_law_2558 : decode cL_law 2558 = .ok (.iconst 1, 1) := by decide +kernel
theorem dL_law_2559 : decode cL_law 2559 = .ok (.iadd, 1) := by decide +kernel
theorem dL_law_2560 : decode cL_law 2560 = .ok (.iaload, 1) := by decide +kernel
theorem dL_law_2561 : decode cL_law 2561 = .ok (.aload_n 3, 1) := by decide +kernel
theorem dL_law_2562 : decode cL_law 2562 = .ok (.invokestatic 320, 3) := by decide +kernel
theorem dL_law_2565 : decode cL_law 2565 = .ok (.istore 6, 2) := by decide +kernel
theorem dL_law_2567 : decode cL_law 2567 = .ok (.aload_n 2, 1) := by decide +kernel
theorem dL_law_2568 : decode cL_law 2568 = .ok (.aload_n 0, 1) := by decide +kernel
theorem dL_law_2569 : decode cL_law 2569 = .ok (.iload 5, 2) := by decide +kernel
theorem dL_law_2571 : decode cL_law 2571 = .ok (.iconst 1, 1) := by decide +kernel
theorem dL_law_2572 : decode cL_law 2572 = .ok (.iadd, 1) := by decide +kernel
theorem dL_law_2573 : decode cL_law 2573 = .ok (.iaload, 1) := by decide +kernel
theorem dL_law_2574 : decode cL_law 2574 = .ok (.invokevirtual 322, 3) := by decide +kernel
theorem dL_law_2577 : decode cL_law 2577 = .ok (.istore 7, 2) := by decide +kernel
theorem dL_law_2579 : decode cL_law 2579 = .ok (.aload_n 2, 1) := by decide +kernel
theorem dL_law_2580 : decode cL_law 2580 = .ok (.invokevirtual 174, 3) := by decide +kernel
theorem dL_law_2583 : decode cL_law 2583 = .ok (.iload 6, 2) := by decide +kernel
theorem dL_law_2585 : decode cL_law 2585 = .ok (.if_icmp .eq 5, 3) := by decide +kernel
theorem dL_law_2588 : decode cL_law 2588 = .ok (.iconst 0, 1) := by decide +kernel
theorem dL_law_2589 : decode cL_law 2589 = .ok (.ireturn, 1) := by decide +kernel
theorem dL_law_2590 : decode cL_law 2590 = .ok (.iload 6, 2) := by decide +kernel
theorem dL_law_2592 : decode cL_law 2592 = .ok (.ifCond .ne 15, 3) := by decide +kernel
theorem dL_law_2595 : decode cL_law 2595 = .ok (.aload_n 3, 1) := by decide +kernel
theorem dL_law_2596 : decode cL_law 2596 = .ok (.iconst 0, 1) := by decide +kernel
theorem dL_law_2597 : decode cL_law 2597 = .ok (.laload, 1) := by decide +kernel
theorem dL_law_2598 : decode cL_law 2598 = .ok (.iload 7, 2) := by decide +kernel
theorem dL_law_2600 : decode cL_law 2600 = .ok (.i2l, 1) := by decide +kernel
theorem dL_law_2601 : decode cL_law 2601 = .ok (.lcmp, 1) := by decide +kernel
theorem dL_law_2602 : decode cL_law 2602 = .ok (.ifCond .eq 5, 3) := by decide +kernel
theorem dL_law_2605 : decode cL_law 2605 = .ok (.iconst 0, 1) := by decide +kernel
theorem dL_law_2606 : decode cL_law 2606 = .ok (.ireturn, 1) := by decide +kernel
theorem dL_law_2607 : decode cL_law 2607 = .ok (.goto 484, 3) := by decide +kernel
theorem dL_law_2610 : decode cL_law 2610 = .ok (.aload_n 1, 1) := by decide +kernel
theorem dL_law_2611 : decode cL_law 2611 = .ok (.aload_n 0, 1) := by decide +kernel
theorem dL_law_2612 : decode cL_law 2612 = .ok (.iload 5, 2) := by decide +kernel
theorem dL_law_2614 : decode cL_law 2614 = .ok (.iconst 1, 1) := by decide +kernel
theorem dL_law_2615 : decode cL_law 2615 = .ok (.iadd, 1) := by decide +kernel
theorem dL_law_2616 : decode cL_law 2616 = .ok (.iaload, 1) := by decide +kernel
theorem dL_law_2617 : decode cL_law 2617 = .ok (.aload_n 3, 1) := by decide +kernel
theorem dL_law_2618 : decode cL_law 2618 = .ok (.invokestatic 323, 3) := by decide +kernel
theorem dL_law_2621 : decode cL_law 2621 = .ok (.istore 6, 2) := by decide +kernel
theorem dL_law_2623 : decode cL_law 2623 = .ok (.aload_n 2, 1) := by decide +kernel
theorem dL_law_2624 : decode cL_law 2624 = .ok (.aload_n 0, 1) := by decide +kernel
theorem dL_law_2625 : decode cL_law 2625 = .ok (.iload 5, 2) := by decide +kernel
theorem dL_law_2627 : decode cL_law 2627 = .ok (.iconst 1, 1) := by decide +kernel
theorem dL_law_2628 : decode cL_law 2628 = .ok (.iadd, 1) := by decide +kernel
theorem dL_law_2629 : decode cL_law 2629 = .ok (.iaload, 1) := by decide +kernel
theorem dL_law_2630 : decode cL_law 2630 = .ok (.invokevirtual 325, 3) := by decide +kernel
theorem dL_law_2633 : decode cL_law 2633 = .ok (.istore 7, 2) := by decide +kernel
theorem dL_law_2635 : decode cL_law 2635 = .ok (.aload_n 2, 1) := by decide +kernel
theorem dL_law_2636 : decode cL_law 2636 = .ok (.invokevirtual 174, 3) := by decide +kernel
theorem dL_law_2639 : decode cL_law 2639 = .ok (.iload 6, 2) := by decide +kernel
theorem dL_law_2641 : decode cL_law 2641 = .ok (.if_icmp .eq 5, 3) := by decide +kernel
theorem dL_law_2644 : decode cL_law 2644 = .ok (.iconst 0, 1) := by decide +kernel
theorem dL_law_2645 : decode cL_law 2645 = .ok (.ireturn, 1) := by decide +kernel
theorem dL_law_2646 : decode cL_law 2646 = .ok (.iload 6, 2) := by decide +kernel
theorem dL_law_2648 : decode cL_law 2648 = .ok (.ifCond .ne 15, 3) := by decide +kernel
theorem dL_law_2651 : decode cL_law 2651 = .ok (.aload_n 3, 1) := by decide +kernel
theorem dL_law_2652 : decode cL_law 2652 = .ok (.iconst 0, 1) := by decide +kernel
theorem dL_law_2653 : decode cL_law 2653 = .ok (.laload, 1) := by decide +kernel
theorem dL_law_2654 : decode cL_law 2654 = .ok (.iload 7, 2) := by decide +kernel
theorem dL_law_2656 : decode cL_law 2656 = .ok (.i2l, 1) := by decide +kernel
theorem dL_law_2657 : decode cL_law 2657 = .ok (.lcmp, 1) := by decide +kernel
theorem dL_law_2658 : decode cL_law 2658 = .ok (.ifCond .eq 5, 3) := by decide +kernel
theorem dL_law_2661 : decode cL_law 2661 = .ok (.iconst 0, 1) := by decide +kernel
theorem dL_law_2662 : decode cL_law 2662 = .ok (.ireturn, 1) := by decide +kernel
theorem dL_law_2663 : decode cL_law 2663 = .ok (.goto 428, 3) := by decide +kernel
theorem dL_law_2666 : decode cL_law 2666 = .ok (.aload_n 1, 1) := by decide +kernel
theorem dL_law_2667 : decode cL_law 2667 = .ok (.aload_n 0, 1) := by decide +kernel
theorem dL_law_2668 : decode cL_law 2668 = .ok (.iload 5, 2) := by decide +kernel
theorem dL_law_2670 : decode cL_law 2670 = .ok (.iconst 1, 1) := by decide +kernel
theorem dL_law_2671 : decode cL_law 2671 = .ok (.iadd, 1) := by decide +kernel
theorem dL_law_2672 : decode cL_law 2672 = .ok (.iaload, 1) := by decide +kernel
theorem dL_law_2673 : decode cL_law 2673 = .ok (.aload_n 3, 1) := by decide +kernel
theorem dL_law_2674 : decode cL_law 2674 = .ok (.invokestatic 326, 3) := by decide +kernel
theorem dL_law_2677 : decode cL_law 2677 = .ok (.istore 6, 2) := by decide +kernel
theorem dL_law_2679 : decode cL_law 2679 = .ok (.aload_n 2, 1) := by decide +kernel
theorem dL_law_2680 : decode cL_law 2680 = .ok (.aload_n 0, 1) := by decide +kernel
theorem dL_law_2681 : decode cL_law 2681 = .ok (.iload 5, 2) := by decide +kernel
theorem dL_law_2683 : decode cL_law 2683 = .ok (.iconst 1, 1) := by decide +kernel
theorem dL_law_2684 : decode cL_law 2684 = .ok (.iadd, 1) := by decide +kernel
theorem dL_law_2685 : decode cL_law 2685 = .ok (.iaload, 1) := by decide +kernel
theorem dL_law_2686 : decode cL_law 2686 = .ok (.invokevirtual 328, 3) := by decide +kernel
theorem dL_law_2689 : decode cL_law 2689 = .ok (.istore 7, 2) := by decide +kernel
theorem dL_law_2691 : decode cL_law 2691 = .ok (.aload_n 2, 1) := by decide +kernel
theorem dL_law_2692 : decode cL_law 2692 = .ok (.invokevirtual 174, 3) := by decide +kernel
theorem dL_law_2695 : decode cL_law 2695 = .ok (.iload 6, 2) := by decide +kernel
theorem dL_law_2697 : decode cL_law 2697 = .ok (.if_icmp .eq 5, 3) := by decide +kernel
theorem dL_law_2700 : decode cL_law 2700 = .ok (.iconst 0, 1) := by decide +kernel
theorem dL_law_2701 : decode cL_law 2701 = .ok (.ireturn, 1) := by decide +kernel
theorem dL_law_2702 : decode cL_law 2702 = .ok (.iload 6, 2) := by decide +kernel
theorem dL_law_2704 : decode cL_law 2704 = .ok (.ifCond .ne 15, 3) := by decide +kernel
theorem dL_law_2707 : decode cL_law 2707 = .ok (.aload_n 3, 1) := by decide +kernel
theorem dL_law_2708 : decode cL_law 2708 = .ok (.iconst 0, 1) := by decide +kernel
theorem dL_law_2709 : decode cL_law 2709 = .ok (.laload, 1) := by decide +kernel
theorem dL_law_2710 : decode cL_law 2710 = .ok (.iload 7, 2) := by decide +kernel
theorem dL_law_2712 : decode cL_law 2712 = .ok (.i2l, 1) := by decide +kernel
theorem dL_law_2713 : decode cL_law 2713 = .ok (.lcmp, 1) := by decide +kernel
theorem dL_law_2714 : decode cL_law 2714 = .ok (.ifCond .eq 5, 3) := by decide +kernel
theorem dL_law_2717 : decode cL_law 2717 = .ok (.iconst 0, 1) := by decide +kernel
theorem dL_law_2718 : decode cL_law 2718 = .ok (.ireturn, 1) := by decide +kernel
theorem dL_law_2719 : decode cL_law 2719 = .ok (.goto 372, 3) := by decide +kernel
theorem dL_law_2722 : decode cL_law 2722 = .ok (.aload_n 1, 1) := by decide +kernel
theorem dL_law_2723 : decode cL_law 2723 = .ok (.aload 4, 2) := by decide +kernel
theorem dL_law_2725 : decode cL_law 2725 = .ok (.invokestatic 329, 3) := by decide +kernel
theorem dL_law_2728 : decode cL_law 2728 = .ok (.istore 6, 2) := by decide +kernel
theorem dL_law_2730 : decode cL_law 2730 = .ok (.aload_n 2, 1) := by decide +kernel
theorem dL_law_2731 : decode cL_law 2731 = .ok (.invokevirtual 332, 3) := by decide +kernel
theorem dL_law_2734 : decode cL_law 2734 = .ok (.dstore 7, 2) := by decide +kernel
theorem dL_law_2736 : decode cL_law 2736 = .ok (.aload_n 2, 1) := by decide +kernel
theorem dL_law_2737 : decode cL_law 2737 = .ok (.invokevirtual 174, 3) := by decide +kernel
