/-! the law's instructions -/
theorem dL_law__2427 : decode cL_law_ 2427 = .ok (.land, 1) := by decide +kernel
theorem dL_law__2428 : decode cL_law_ 2428 = .ok (.lor, 1) := by decide +kernel
theorem dL_law__2429 : decode cL_law_ 2429 = .ok (.aload_n 0, 1) := by decide +kernel
theorem dL_law__2430 : decode cL_law_ 2430 = .ok (.iload 4, 2) := by decide +kernel
theorem dL_law__2432 : decode cL_law_ 2432 = .ok (.iconst 3, 1) := by decide +kernel
theorem dL_law__2433 : decode cL_law_ 2433 = .ok (.iadd, 1) := by decide +kernel
theorem dL_law__2434 : decode cL_law_ 2434 = .ok (.iaload, 1) := by decide +kernel
theorem dL_law__2435 : decode cL_law_ 2435 = .ok (.i2l, 1) := by decide +kernel
theorem dL_law__2436 : decode cL_law_ 2436 = .ok (.bipush 32, 2) := by decide +kernel
theorem dL_law__2438 : decode cL_law_ 2438 = .ok (.lshl, 1) := by decide +kernel
theorem dL_law__2439 : decode cL_law_ 2439 = .ok (.aload_n 0, 1) := by decide +kernel
theorem dL_law__2440 : decode cL_law_ 2440 = .ok (.iload 4, 2) := by decide +kernel
theorem dL_law__2442 : decode cL_law_ 2442 = .ok (.iconst 4, 1) := by decide +kernel
theorem dL_law__2443 : decode cL_law_ 2443 = .ok (.iadd, 1) := by decide +kernel
theorem dL_law__2444 : decode cL_law_ 2444 = .ok (.iaload, 1) := by decide +kernel
theorem dL_law__2445 : decode cL_law_ 2445 = .ok (.i2l, 1) := by decide +kernel
theorem dL_law__2446 : decode cL_law_ 2446 = .ok (.ldc2_w 178, 3) := by decide +kernel
theorem dL_law__2449 : decode cL_law_ 2449 = .ok (.land, 1) := by decide +kernel
theorem dL_law__2450 : decode cL_law_ 2450 = .ok (.lor, 1) := by decide +kernel
theorem dL_law__2451 : decode cL_law_ 2451 = .ok (.aload_n 0, 1) := by decide +kernel
theorem dL_law__2452 : decode cL_law_ 2452 = .ok (.iload 4, 2) := by decide +kernel
theorem dL_law__2454 : decode cL_law_ 2454 = .ok (.iconst 5, 1) := by decide +kernel
theorem dL_law__2455 : decode cL_law_ 2455 = .ok (.iadd, 1) := by decide +kernel
theorem dL_law__2456 : decode cL_law_ 2456 = .ok (.iaload, 1) := by decide +kernel
theorem dL_law__2457 : decode cL_law_ 2457 = .ok (.aload_n 3, 1) := by decide +kernel
theorem dL_law__2458 : decode cL_law_ 2458 = .ok (.invokestatic 243, 3) := by decide +kernel
theorem dL_law__2461 : decode cL_law_ 2461 = .ok (.istore 5, 2) := by decide +kernel
theorem dL_law__2463 : decode cL_law_ 2463 = .ok (.aload_n 2, 1) := by decide +kernel
theorem dL_law__2464 : decode cL_law_ 2464 = .ok (.aload_n 0, 1) := by decide +kernel
theorem dL_law__2465 : decode cL_law_ 2465 = .ok (.iload 4, 2) := by decide +kernel
theorem dL_law__2467 : decode cL_law_ 2467 = .ok (.iconst 1, 1) := by decide +kernel
theorem dL_law__2468 : decode cL_law_ 2468 = .ok (.iadd, 1) := by decide +kernel
theorem dL_law__2469 : decode cL_law_ 2469 = .ok (.iaload, 1) := by decide +kernel
theorem dL_law__2470 : decode cL_law_ 2470 = .ok (.i2l, 1) := by decide +kernel
theorem dL_law__2471 : decode cL_law_ 2471 = .ok (.bipush 32, 2) := by decide +kernel
theorem dL_law__2473 : decode cL_law_ 2473 = .ok (.lshl, 1) := by decide +kernel
theorem dL_law__2474 : decode cL_law_ 2474 = .ok (.aload_n 0, 1) := by decide +kernel
theorem dL_law__2475 : decode cL_law_ 2475 = .ok (.iload 4, 2) := by decide +kernel
theorem dL_law__2477 : decode cL_law_ 2477 = .ok (.iconst 2, 1) := by decide +kernel
theorem dL_law__2478 : decode cL_law_ 2478 = .ok (.iadd, 1) := by decide +kernel
theorem dL_law__2479 : decode cL_law_ 2479 = .ok (.iaload, 1) := by decide +kernel
theorem dL_law__2480 : decode cL_law_ 2480 = .ok (.i2l, 1) := by decide +kernel
theorem dL_law__2481 : decode cL_law_ 2481 = .ok (.ldc2_w 178, 3) := by decide +kernel
theorem dL_law__2484 : decode cL_law_ 2484 = .ok (.land, 1) := by decide +kernel
theorem dL_law__2485 : decode cL_law_ 2485 = .ok (.lor, 1) := by decide +kernel
theorem dL_law__2486 : decode cL_law_ 2486 = .ok (.aload_n 0, 1) := by decide +kernel
theorem dL_law__2487 : decode cL_law_ 2487 = .ok (.iload 4, 2) := by decide +kernel
theorem dL_law__2489 : decode cL_law_ 2489 = .ok (.iconst 3, 1) := by decide +kernel
theorem dL_law__2490 : decode cL_law_ 2490 = .ok (.iadd, 1) := by decide +kernel
theorem dL_law__2491 : decode cL_law_ 2491 = .ok (.iaload, 1) := by decide +kernel
theorem dL_law__2492 : decode cL_law_ 2492 = .ok (.i2l, 1) := by decide +kernel
theorem dL_law__2493 : decode cL_law_ 2493 = .ok (.bipush 32, 2) := by decide +kernel
theorem dL_law__2495 : decode cL_law_ 2495 = .ok (.lshl, 1) := by decide +kernel
theorem dL_law__2496 : decode cL_law_ 2496 = .ok (.aload_n 0, 1) := by decide +kernel
theorem dL_law__2497 : decode cL_law_ 2497 = .ok (.iload 4, 2) := by decide +kernel
theorem dL_law__2499 : decode cL_law_ 2499 = .ok (.iconst 4, 1) := by decide +kernel
theorem dL_law__2500 : decode cL_law_ 2500 = .ok (.iadd, 1) := by decide +kernel
theorem dL_law__2501 : decode cL_law_ 2501 = .ok (.iaload, 1) := by decide +kernel
theorem dL_law__2502 : decode cL_law_ 2502 = .ok (.i2l, 1) := by decide +kernel
theorem dL_law__2503 : decode cL_law_ 2503 = .ok (.ldc2_w 178, 3) := by decide +kernel
theorem dL_law__2506 : decode cL_law_ 2506 = .ok (.land, 1) := by decide +kernel
theorem dL_law__2507 : decode cL_law_ 2507 = .ok (.lor, 1) := by decide +kernel
theorem dL_law__2508 : decode cL_law_ 2508 = .ok (.aload_n 0, 1) := by decide +kernel
theorem dL_law__2509 : decode cL_law_ 2509 = .ok (.iload 4, 2) := by decide +kernel
theorem dL_law__2511 : decode cL_law_ 2511 = .ok (.iconst 5, 1) := by decide +kernel
theorem dL_law__2512 : decode cL_law_ 2512 = .ok (.iadd, 1) := by decide +kernel
theorem dL_law__2513 : decode cL_law_ 2513 = .ok (.iaload, 1) := by decide +kernel
theorem dL_law__2514 : decode cL_law_ 2514 = .ok (.invokevirtual 246, 3) := by decide +kernel
theorem dL_law__2517 : decode cL_law_ 2517 = .ok (.istore 6, 2) := by decide +kernel
theorem dL_law__2519 : decode cL_law_ 2519 = .ok (.aload_n 2, 1) := by decide +kernel
theorem dL_law__2520 : decode cL_law_ 2520 = .ok (.invokevirtual 157, 3) := by decide +kernel
theorem dL_law__2523 : decode cL_law_ 2523 = .ok (.iload 5, 2) := by decide +kernel
theorem dL_law__2525 : decode cL_law_ 2525 = .ok (.if_icmp .eq 5, 3) := by decide +kernel
theorem dL_law__2528 : decode cL_law_ 2528 = .ok (.iconst 0, 1) := by decide +kernel
theorem dL_law__2529 : decode cL_law_ 2529 = .ok (.ireturn, 1) := by decide +kernel
theorem dL_law__2530 : decode cL_law_ 2530 = .ok (.iload 5, 2) := by decide +kernel
theorem dL_law__2532 : decode cL_law_ 2532 = .ok (.ifCond .ne 15, 3) := by decide +kernel
theorem dL_law__2535 : decode cL_law_ 2535 = .ok (.aload_n 3, 1) := by decide +kernel
theorem dL_law__2536 : decode cL_law_ 2536 = .ok (.iconst 0, 1) := by decide +kernel
theorem dL_law__2537 : decode cL_law_ 2537 = .ok (.laload, 1) := by decide +kernel
theorem dL_law__2538 : decode cL_law_ 2538 = .ok (.iload 6, 2) := by decide +kernel
theorem dL_law__2540 : decode cL_law_ 2540 = .ok (.i2l, 1) := by decide +kernel
theorem dL_law__2541 : decode cL_law_ 2541 = .ok (.lcmp, 1) := by decide +kernel
theorem dL_law__2542 : decode cL_law_ 2542 = .ok (.ifCond .eq 5, 3) := by decide +kernel
theorem dL_law__2545 : decode cL_law_ 2545 = .ok (.iconst 0, 1) := by decide +kernel
theorem dL_law__2546 : decode cL_law_ 2546 = .ok (.ireturn, 1) := by decide +kernel
theorem dL_law__2547 : decode cL_law_ 2547 = .ok (.goto 788, 3) := by decide +kernel
theorem dL_law__2550 : decode cL_law_ 2550 = .ok (.aload_n 1, 1) := by decide +kernel
theorem dL_law__2551 : decode cL_law_ 2551 = .ok (.aload_n 0, 1) := by decide +kernel
theorem dL_law__2552 : decode cL_law_ 2552 = .ok (.iload 4, 2) := by decide +kernel
theorem dL_law__2554 : decode cL_law_ 2554 = .ok (.iconst 1, 1) := by decide +kernel
theorem dL_law__2555 : decode cL_law_ 2555 = .ok (.iadd, 1) := by decide +kernel
theorem dL_law__2556 : decode cL_law_ 2556 = .ok (.iaload, 1) := by decide +kernel
theorem dL_law__2557 : decode cL_law_ 2557 = .ok (.aload_n 0, 1) := by decide +kernel
theorem dL_law__2558 : decode cL_law_ 2558 = .ok (.iload 4, 2) := by decide +kernel
theorem dL_law__2560 : decode cL_law_ 2560 = .ok (.iconst 2, 1) := by decide +kernel
theorem dL_law__2561 : decode cL_law_ 2561 = .ok (.iadd, 1) := by decide +kernel
theorem dL_law__2562 : decode cL_law_ 2562 = .ok (.iaload, 1) := by decide +kernel
theorem dL_law__2563 : decode cL_law_ 2563 = .ok (.aload_n 3, 1) := by decide +kernel
theorem dL_law__2564 : decode cL_law_ 2564 = .ok (.invokestatic 247, 3) := by decide +kernel
theorem dL_law__2567 : decode cL_law_ 2567 = .ok (.istore 5, 2) := by decide +kernel
theorem dL_law__2569 : decode cL_law_ 2569 = .ok (.aload_n 2, 1) := by decide +kernel
theorem dL_law__2570 : decode cL_law_ 2570 = .ok (.aload_n 0, 1) := by decide +kernel
theorem dL_law__2571 : decode cL_law_ 2571 = .ok (.iload 4, 2) := by decide +kernel
theorem dL_law__2573 : decode cL_law_ 2573 = .ok (.iconst 1, 1) := by decide +kernel
theorem dL_law__2574 : decode cL_law_ 2574 = .ok (.iadd, 1) := by decide +kernel
theorem dL_law__2575 : decode cL_law_ 2575 = .ok (.iaload, 1) := by decide +kernel
theorem dL_law__2576 : decode cL_law_ 2576 = .ok (.aload_n 0, 1) := by decide +kernel
theorem dL_law__2577 : decode cL_law_ 2577 = .ok (.iload 4, 2) := by decide +kernel
theorem dL_law__2579 : decode cL_law_ 2579 = .ok (.iconst 2, 1) := by decide +kernel
theorem dL_law__2580 : decode cL_law_ 2580 = .ok (.iadd, 1) := by decide +kernel
theorem dL_law__2581 : decode cL_law_ 2581 = .ok (.iaload, 1) := by decide +kernel
theorem dL_law__2582 : decode cL_law_ 2582 = .ok (.invokevirtual 249, 3) := by decide +kernel
theorem dL_law__2585 : decode cL_law_ 2585 = .ok (.istore 6, 2) := by decide +kernel
theorem dL_law__2587 : decode cL_law_ 2587 = .ok (.aload_n 2, 1) := by decide +kernel
theorem dL_law__2588 : decode cL_law_ 2588 = .ok (.invokevirtual 157, 3) := by decide +kernel
theorem dL_law__2591 : decode cL_law_ 2591 = .ok (.iload 5, 2) := by decide +kernel
theorem dL_law__2593 : decode cL_law_ 2593 = .ok (.if_icmp .eq 5, 3) := by decide +kernel
theorem dL_law__2596 : decode cL_law_ 2596 = .ok (.iconst 0, 1) := by decide +kernel
theorem dL_law__2597 : decode cL_law_ 2597 = .ok (.ireturn, 1) := by decide +kernel
theorem dL_law__2598 : decode cL_law_ 2598 = .ok (.iload 5, 2) := by decide +kernel
theorem dL_law__2600 : decode cL_law_ 2600 = .ok (.ifCond .ne 15, 3) := by decide +kernel
theorem dL_law__2603 : decode cL_law_ 2603 = .ok (.aload_n 3, 1) := by decide +kernel
theorem dL_law__2604 : decode cL_law_ 2604 = .ok (.iconst 0, 1) := by decide +kernel
theorem dL_law__2605 : decode cL_law_ 2605 = .ok (.laload, 1) := by decide +kernel
theorem dL_law__2606 : decode cL_law_ 2606 = .ok (.iload 6, 2) := by decide +kernel
theorem dL_law__2608 : decode cL_law_ 2608 = .ok (.i2l, 1) := by decide +kernel
theorem dL_law__2609 : decode cL_law_ 2609 = .ok (.lcmp, 1) := by decide +kernel
theorem dL_law__2610 : decode cL_law_ 2610 = .ok (.ifCond .eq 5, 3) := by decide +kernel
theorem dL_law__2613 : decode cL_law_ 2613 = .ok (.iconst 0, 1) := by decide +kernel
theorem dL_law__2614 : decode cL_law_ 2614 = .ok (.ireturn, 1) := by decide +kernel
theorem dL_law__2615 : decode cL_law_ 2615 = .ok (.goto 720, 3) := by decide +kernel
theorem dL_law__2618 : decode cL_law_ 2618 = .ok (.aload_n 1, 1) := by decide +kernel
theorem dL_law__2619 : decode cL_law_ 2619 = .ok (.aload_n 0, 1) := by decide +kernel
theorem dL_law__2620 : decode cL_law_ 2620 = .ok (.iload 4, 2) := by decide +kernel
theorem dL_law__2622 : decode cL_law_ 2622 = .ok (.iconst 1, 1) := by decide +kernel
theorem dL_law__2623 : decode cL_law_ 2623 = .ok (.iadd, 1) := by decide +kernel
theorem dL_law__2624 : decode cL_law_ 2624 = .ok (.iaload, 1) := by decide +kernel
theorem dL_law__2625 : decode cL_law_ 2625 = .ok (.i2l, 1) := by decide +kernel
theorem dL_law__2626 : decode cL_law_ 2626 = .ok (.bipush 32, 2) := by decide +kernel
theorem dL_law__2628 : decode cL_law_ 2628 = .ok (.lshl, 1) := by decide +kernel
theorem dL_law__2629 : decode cL_law_ 2629 = .ok (.aload_n 0, 1) := by decide +kernel
theorem dL_law__2630 : decode cL_law_ 2630 = .ok (.iload 4, 2) := by decide +kernel
theorem dL_law__2632 : decode cL_law_ 2632 = .ok (.iconst 2, 1) := by decide +kernel
theorem dL_law__2633 : decode cL_law_ 2633 = .ok (.iadd, 1) := by decide +kernel
theorem dL_law__2634 : decode cL_law_ 2634 = .ok (.iaload, 1) := by decide +kernel
theorem dL_law__2635 : decode cL_law_ 2635 = .ok (.i2l, 1) := by decide +kernel
theorem dL_law__2636 : decode cL_law_ 2636 = .ok (.ldc2_w 178, 3) := by decide +kernel
theorem dL_law__2639 : decode cL_law_ 2639 = .ok (.land, 1) := by decide +kernel
theorem dL_law__2640 : decode cL_law_ 2640 = .ok (.lor, 1) := by decide +kernel
