/-! decode rows of the law, printed -/
theorem dL_law_2366 : decode cL_law 2366 = .ok (.iaload, 1) := by decide +kernel
theorem dL_law_2367 : decode cL_law 2367 = .ok (.aload_n 3, 1) := by decide +kernel
theorem dL_law_2368 : decode cL_law 2368 = .ok (.invokestatic 292, 3) := by decide +kernel
theorem dL_law_2371 : decode cL_law 2371 = .ok (.istore 6, 2) := by decide +kernel
theorem dL_law_2373 : decode cL_law 2373 = .ok (.aload_n 2, 1) := by decide +kernel
theorem dL_law_2374 : decode cL_law 2374 = .ok (.aload_n 0, 1) := by decide +kernel
theorem dL_law_2375 : decode cL_law 2375 = .ok (.iload 5, 2) := by decide +kernel
theorem dL_law_2377 : decode cL_law 2377 = .ok (.iconst 1, 1) := by decide +kernel
theorem dL_law_2378 : decode cL_law 2378 = .ok (.iadd, 1) := by decide +kernel
theorem dL_law_2379 : decode cL_law 2379 = .ok (.iaload, 1) := by decide +kernel
theorem dL_law_2380 : decode cL_law 2380 = .ok (.invokevirtual 294, 3) := by decide +kernel
theorem dL_law_2383 : decode cL_law 2383 = .ok (.istore 7, 2) := by decide +kernel
theorem dL_law_2385 : decode cL_law 2385 = .ok (.aload_n 2, 1) := by decide +kernel
theorem dL_law_2386 : decode cL_law 2386 = .ok (.invokevirtual 172, 3) := by decide +kernel
theorem dL_law_2389 : decode cL_law 2389 = .ok (.iload 6, 2) := by decide +kernel
theorem dL_law_2391 : decode cL_law 2391 = .ok (.if_icmp .eq 5, 3) := by decide +kernel
theorem dL_law_2394 : decode cL_law 2394 = .ok (.iconst 0, 1) := by decide +kernel
theorem dL_law_2395 : decode cL_law 2395 = .ok (.ireturn, 1) := by decide +kernel
theorem dL_law_2396 : decode cL_law 2396 = .ok (.iload 6, 2) := by decide +kernel
theorem dL_law_2398 : decode cL_law 2398 = .ok (.ifCond .ne 15, 3) := by decide +kernel
theorem dL_law_2401 : decode cL_law 2401 = .ok (.aload_n 3, 1) := by decide +kernel
theorem dL_law_2402 : decode cL_law 2402 = .ok (.iconst 0, 1) := by decide +kernel
theorem dL_law_2403 : decode cL_law 2403 = .ok (.laload, 1) := by decide +kernel
theorem dL_law_2404 : decode cL_law 2404 = .ok (.iload 7, 2) := by decide +kernel
theorem dL_law_2406 : decode cL_law 2406 = .ok (.i2l, 1) := by decide +kernel
theorem dL_law_2407 : decode cL_law 2407 = .ok (.lcmp, 1) := by decide +kernel
theorem dL_law_2408 : decode cL_law 2408 = .ok (.ifCond .eq 5, 3) := by decide +kernel
theorem dL_law_2411 : decode cL_law 2411 = .ok (.iconst 0, 1) := by decide +kernel
theorem dL_law_2412 : decode cL_law 2412 = .ok (.ireturn, 1) := by decide +kernel
theorem dL_law_2413 : decode cL_law 2413 = .ok (.goto 1025, 3) := by decide +kernel
theorem dL_law_2416 : decode cL_law 2416 = .ok (.aload_n 1, 1) := by decide +kernel
theorem dL_law_2417 : decode cL_law 2417 = .ok (.aload_n 0, 1) := by decide +kernel
theorem dL_law_2418 : decode cL_law 2418 = .ok (.iload 5, 2) := by decide +kernel
theorem dL_law_2420 : decode cL_law 2420 = .ok (.iconst 1, 1) := by decide +kernel
theorem dL_law_2421 : decode cL_law 2421 = .ok (.iadd, 1) := by decide +kernel
theorem dL_law_2422 : decode cL_law 2422 = .ok (.iaload, 1) := by decide +kernel
theorem dL_law_2423 : decode cL_law 2423 = .ok (.aload_n 3, 1) := by decide +kernel
theorem dL_law_2424 : decode cL_law 2424 = .ok (.invokestatic 295, 3) := by decide +kernel
theorem dL_law_2427 : decode cL_law 2427 = .ok (.istore 6, 2) := by decide +kernel
theorem dL_law_2429 : decode cL_law 2429 = .ok (.aload_n 2, 1) := by decide +kernel
theorem dL_law_2430 : decode cL_law 2430 = .ok (.aload_n 0, 1) := by decide +kernel
theorem dL_law_2431 : decode cL_law 2431 = .ok (.iload 5, 2) := by decide +kernel
theorem dL_law_2433 : decode cL_law 2433 = .ok (.iconst 1, 1) := by decide +kernel
theorem dL_law_2434 : decode cL_law 2434 = .ok (.iadd, 1) := by decide +kernel
theorem dL_law_2435 : decode cL_law 2435 = .ok (.iaload, 1) := by decide +kernel
theorem dL_law_2436 : decode cL_law 2436 = .ok (.invokevirtual 297, 3) := by decide +kernel
theorem dL_law_2439 : decode cL_law 2439 = .ok (.istore 7, 2) := by decide +kernel
theorem dL_law_2441 : decode cL_law 2441 = .ok (.aload_n 2, 1) := by decide +kernel
theorem dL_law_2442 : decode cL_law 2442 = .ok (.invokevirtual 172, 3) := by decide +kernel
theorem dL_law_2445 : decode cL_law 2445 = .ok (.iload 6, 2) := by decide +kernel
theorem dL_law_2447 : decode cL_law 2447 = .ok (.if_icmp .eq 5, 3) := by decide +kernel
theorem dL_law_2450 : decode cL_law 2450 = .ok (.iconst 0, 1) := by decide +kernel
theorem dL_law_2451 : decode cL_law 2451 = .ok (.ireturn, 1) := by decide +kernel
theorem dL_law_2452 : decode cL_law 2452 = .ok (.iload 6, 2) := by decide +kernel
theorem dL_law_2454 : decode cL_law 2454 = .ok (.ifCond .ne 22, 3) := by decide +kernel
theorem dL_law_2457 : decode cL_law 2457 = .ok (.aload_n 3, 1) := by decide +kernel
theorem dL_law_2458 : decode cL_law 2458 = .ok (.iconst 0, 1) := by decide +kernel
theorem dL_law_2459 : decode cL_law 2459 = .ok (.laload, 1) := by decide +kernel
theorem dL_law_2460 : decode cL_law 2460 = .ok (.iload 7, 2) := by decide +kernel
theorem dL_law_2462 : decode cL_law 2462 = .ok (.ifCond .eq 7, 3) := by decide +kernel
theorem dL_law_2465 : decode cL_law 2465 = .ok (.lconst 1, 1) := by decide +kernel
theorem dL_law_2466 : decode cL_law 2466 = .ok (.goto 4, 3) := by decide +kernel
theorem dL_law_2469 : decode cL_law 2469 = .ok (.lconst 0, 1) := by decide +kernel
theorem dL_law_2470 : decode cL_law 2470 = .ok (.lcmp, 1) := by decide +kernel
theorem dL_law_2471 : decode cL_law 2471 = .ok (.ifCond .eq 5, 3) := by decide +kernel
theorem dL_law_2474 : decode cL_law 2474 = .ok (.iconst 0, 1) := by decide +kernel
theorem dL_law_2475 : decode cL_law 2475 = .ok (.ireturn, 1) := by decide +kernel
theorem dL_law_2476 : decode cL_law 2476 = .ok (.goto 962, 3) := by decide +kernel
theorem dL_law_2479 : decode cL_law 2479 = .ok (.aload_n 1, 1) := by decide +kernel
theorem dL_law_2480 : decode cL_law 2480 = .ok (.aload_n 0, 1) := by decide +kernel
theorem dL_law_2481 : decode cL_law 2481 = .ok (.iload 5, 2) := by decide +kernel
theorem dL_law_2483 : decode cL_law 2483 = .ok (.iconst 1, 1) := by decide +kernel
theorem dL_law_2484 : decode cL_law 2484 = .ok (.iadd, 1) := by decide +kernel
theorem dL_law_2485 : decode cL_law 2485 = .ok (.iaload, 1) := by decide +kernel
theorem dL_law_2486 : decode cL_law 2486 = .ok (.aload_n 3, 1) := by decide +kernel
theorem dL_law_2487 : decode cL_law 2487 = .ok (.invokestatic 298, 3) := by decide +kernel
theorem dL_law_2490 : decode cL_law 2490 = .ok (.istore 6, 2) := by decide +kernel
theorem dL_law_2492 : decode cL_law 2492 = .ok (.aload_n 2, 1) := by decide +kernel
theorem dL_law_2493 : decode cL_law 2493 = .ok (.aload_n 0, 1) := by decide +kernel
theorem dL_law_2494 : decode cL_law 2494 = .ok (.iload 5, 2) := by decide +kernel
theorem dL_law_2496 : decode cL_law 2496 = .ok (.iconst 1, 1) := by decide +kernel
theorem dL_law_2497 : decode cL_law 2497 = .ok (.iadd, 1) := by decide +kernel
theorem dL_law_2498 : decode cL_law 2498 = .ok (.iaload, 1) := by decide +kernel
theorem dL_law_2499 : decode cL_law 2499 = .ok (.invokevirtual 300, 3) := by decide +kernel
theorem dL_law_2502 : decode cL_law 2502 = .ok (.istore 7, 2) := by decide +kernel
theorem dL_law_2504 : decode cL_law 2504 = .ok (.aload_n 2, 1) := by decide +kernel
theorem dL_law_2505 : decode cL_law 2505 = .ok (.invokevirtual 172, 3) := by decide +kernel
theorem dL_law_2508 : decode cL_law 2508 = .ok (.iload 6, 2) := by decide +kernel
theorem dL_law_2510 : decode cL_law 2510 = .ok (.if_icmp .eq 5, 3) := by decide +kernel
theorem dL_law_2513 : decode cL_law 2513 = .ok (.iconst 0, 1) := by decide +kernel
theorem dL_law_2514 : decode cL_law 2514 = .ok (.ireturn, 1) := by decide +kernel
theorem dL_law_2515 : decode cL_law 2515 = .ok (.iload 6, 2) := by decide +kernel
theorem dL_law_2517 : decode cL_law 2517 = .ok (.ifCond .ne 15, 3) := by decide +kernel
theorem dL_law_2520 : decode cL_law 2520 = .ok (.aload_n 3, 1) := by decide +kernel
theorem dL_law_2521 : decode cL_law 2521 = .ok (.iconst 0, 1) := by decide +kernel
theorem dL_law_2522 : decode cL_law 2522 = .ok (.laload, 1) := by decide +kernel
theorem dL_law_2523 : decode cL_law 2523 = .ok (.iload 7, 2) := by decide +kernel
theorem dL_law_2525 : decode cL_law 2525 = .ok (.i2l, 1) := by decide +kernel
theorem dL_law_2526 : decode cL_law 2526 = .ok (.lcmp, 1) := by decide +kernel
theorem dL_law_2527 : decode cL_law 2527 = .ok (.ifCond .eq 5, 3) := by decide +kernel
theorem dL_law_2530 : decode cL_law 2530 = .ok (.iconst 0, 1) := by decide +kernel
theorem dL_law_2531 : decode cL_law 2531 = .ok (.ireturn, 1) := by decide +kernel
theorem dL_law_2532 : decode cL_law 2532 = .ok (.goto 906, 3) := by decide +kernel
theorem dL_law_2535 : decode cL_law 2535 = .ok (.aload_n 1, 1) := by decide +kernel
theorem dL_law_2536 : decode cL_law 2536 = .ok (.aload_n 0, 1) := by decide +kernel
theorem dL_law_2537 : decode cL_law 2537 = .ok (.iload 5, 2) := by decide +kernel
theorem dL_law_2539 : decode cL_law 2539 = .ok (.iconst 1, 1) := by decide +kernel
theorem dL_law_2540 : decode cL_law 2540 = .ok (.iadd, 1) := by decide +kernel
theorem dL_law_2541 : decode cL_law 2541 = .ok (.iaload, 1) := by decide +kernel
theorem dL_law_2542 : decode cL_law 2542 = .ok (.aload_n 3, 1) := by decide +kernel
theorem dL_law_2543 : decode cL_law 2543 = .ok (.invokestatic 301, 3) := by decide +kernel
theorem dL_law_2546 : decode cL_law 2546 = .ok (.istore 6, 2) := by decide +kernel
theorem dL_law_2548 : decode cL_law 2548 = .ok (.aload_n 2, 1) := by decide +kernel
theorem dL_law_2549 : decode cL_law 2549 = .ok (.aload_n 0, 1) := by decide +kernel
theorem dL_law_2550 : decode cL_law 2550 = .ok (.iload 5, 2) := by decide +kernel
theorem dL_law_2552 : decode cL_law 2552 = .ok (.iconst 1, 1) := by decide +kernel
theorem dL_law_2553 : decode cL_law 2553 = .ok (.iadd, 1) := by decide +kernel
theorem dL_law_2554 : decode cL_law 2554 = .ok (.iaload, 1) := by decide +kernel
theorem dL_law_2555 : decode cL_law 2555 = .ok (.invokevirtual 303, 3) := by decide +kernel
theorem dL_law_2558 : decode cL_law 2558 = .ok (.istore 7, 2) := by decide +kernel
theorem dL_law_2560 : decode cL_law 2560 = .ok (.aload_n 2, 1) := by decide +kernel
theorem dL_law_2561 : decode cL_law 2561 = .ok (.invokevirtual 172, 3) := by decide +kernel
theorem dL_law_2564 : decode cL_law 2564 = .ok (.iload 6, 2) := by decide +kernel
theorem dL_law_2566 : decode cL_law 2566 = .ok (.if_icmp .eq 5, 3) := by decide +kernel
theorem dL_law_2569 : decode cL_law 2569 = .ok (.iconst 0, 1) := by decide +kernel
theorem dL_law_2570 : decode cL_law 2570 = .ok (.ireturn, 1) := by decide +kernel
theorem dL_law_2571 : decode cL_law 2571 = .ok (.iload 6, 2) := by decide +kernel
theorem dL_law_2573 : decode cL_law 2573 = .ok (.ifCond .ne 22, 3) := by decide +kernel
theorem dL_law_2576 : decode cL_law 2576 = .ok (.aload_n 3, 1) := by decide +kernel
theorem dL_law_2577 : decode cL_law 2577 = .ok (.iconst 0, 1) := by decide +kernel
theorem dL_law_2578 : decode cL_law 2578 = .ok (.laload, 1) := by decide +kernel
theorem dL_law_2579 : decode cL_law 2579 = .ok (.iload 7, 2) := by decide +kernel
theorem dL_law_2581 : decode cL_law 2581 = .ok (.ifCond .eq 7, 3) := by decide +kernel
theorem dL_law_2584 : decode cL_law 2584 = .ok (.lconst 1, 1) := by decide +kernel
theorem dL_law_2585 : decode cL_law 2585 = .ok (.goto 4, 3) := by decide +kernel
theorem dL_law_2588 : decode cL_law 2588 = .ok (.lconst 0, 1) := by decide +kernel
theorem dL_law_2589 : decode cL_law 2589 = .ok (.lcmp, 1) := by decide +kernel
theorem dL_law_2590 : decode cL_law 2590 = .ok (.ifCond .eq 5, 3) := by decide +kernel
theorem dL_law_2593 : decode cL_law 2593 = .ok (.iconst 0, 1) := by decide +kernel
theorem dL_law_2594 : decode cL_law 2594 = .ok (.ireturn, 1) := by decide +kernel
theorem dL_law_2595 : decode cL_law 2595 = .ok (.goto 843, 3) := by decide +kernel
theorem dL_law_2598 : decode cL_law 2598 = .ok (.aload_n 1, 1) := by decide +kernel
theorem dL_law_2599 : decode cL_law 2599 = .ok (.invokevirtual 304, 3) := by decide +kernel
theorem dL_law_2602 : decode cL_law 2602 = .ok (.aload_n 2, 1) := by decide +kernel
theorem dL_law_2603 : decode cL_law 2603 = .ok (.invokevirtual 307, 3) := by decide +kernel
theorem dL_law_2606 : decode cL_law 2606 = .ok (.if_icmp .eq 832, 3) := by decide +kernel
theorem dL_law_2609 : decode cL_law 2609 = .ok (.iconst 0, 1) := by decide +kernel
theorem dL_law_2610 : decode cL_law 2610 = .ok (.ireturn, 1) := by decide +kernel
theorem dL_law_2611 : decode cL_law 2611 = .ok (.aload_n 1, 1) := by decide +kernel
theorem dL_law_2612 : decode cL_law 2612 = .ok (.invokevirtual 308, 3) := by decide +kernel
theorem dL_law_2615 : decode cL_law 2615 = .ok (.aload_n 2, 1) := by decide +kernel
theorem dL_law_2616 : decode cL_law 2616 = .ok (.invokevirtual 311, 3) := by decide +kernel
theorem dL_law_2619 : decode cL_law 2619 = .ok (.if_icmp .eq 819, 3) := by decide +kernel
theorem dL_law_2622 : decode cL_law 2622 = .ok (.iconst 0, 1) := by decide +kernel
theorem dL_law_2623 : decode cL_law 2623 = .ok (.ireturn, 1) := by decide +kernel
theorem dL_law_2624 : decode cL_law 2624 = .ok (.aload_n 1, 1) := by decide +kernel
theorem dL_law_2625 : decode cL_law 2625 = .ok (.invokevirtual 312, 3) := by decide +kernel
theorem dL_law_2628 : decode cL_law 2628 = .ok (.aload_n 2, 1) := by decide +kernel
theorem dL_law_2629 : decode cL_law 2629 = .ok (.invokevirtual 315, 3) := by decide +kernel
theorem dL_law_2632 : decode cL_law 2632 = .ok (.if_icmp .eq 806, 3) := by decide +kernel
theorem dL_law_2635 : decode cL_law 2635 = .ok (.iconst 0, 1) := by decide +kernel
theorem dL_law_2636 : decode cL_law 2636 = .ok (.ireturn, 1) := by decide +kernel
theorem dL_law_2637 : decode cL_law 2637 = .ok (.aload_n 1, 1) := by decide +kernel
theorem dL_law_2638 : decode cL_law 2638 = .ok (.aload_n 0, 1) := by decide +kernel
theorem dL_law_2639 : decode cL_law 2639 = .ok (.iload 5, 2) := by decide +kernel
theorem dL_law_2641 : decode cL_law 2641 = .ok (.iconst 1, 1) := by decide +kernel
theorem dL_law_2642 : decode cL_law 2642 = .ok (.iadd, 1) := by decide +kernel
theorem dL_law_2643 : decode cL_law 2643 = .ok (.iaload, 1) := by decide +kernel
theorem dL_law_2644 : decode cL_law 2644 = .ok (.aload_n 3, 1) := by decide +kernel
theorem dL_law_2645 : decode cL_law 2645 = .ok (.invokestatic 316, 3) := by decide +kernel
theorem dL_law_2648 : decode cL_law 2648 = .ok (.istore 6, 2) := by decide +kernel
theorem dL_law_2650 : decode cL_law 2650 = .ok (.aload_n 2, 1) := by decide +kernel
theorem dL_law_2651 : decode cL_law 2651 = .ok (.aload_n 0, 1) := by decide +kernel
theorem dL_law_2652 : decode cL_law 2652 = .ok (.iload 5, 2) := by decide +kernel
theorem dL_law_2654 : decode cL_law 2654 = .ok (.iconst 1, 1) := by decide +kernel
theorem dL_law_2655 : decode cL_law 2655 = .ok (.iadd, 1) := by decide +kernel
theorem dL_law_2656 : decode cL_law 2656 = .ok (.iaload, 1) := by decide +kernel
theorem dL_law_2657 : decode cL_law 2657 = .ok (.invokevirtual 318, 3) := by decide +kernel
theorem dL_law_2660 : decode cL_law 2660 = .ok (.istore 7, 2) := by decide +kernel
theorem dL_law_2662 : decode cL_law 2662 = .ok (.aload_n 2, 1) := by decide +kernel
theorem dL_law_2663 : decode cL_law 2663 = .ok (.invokevirtual 172, 3) := by decide +kernel
theorem dL_law_2666 : decode cL_law 2666 = .ok (.iload 6, 2) := by decide +kernel
theorem dL_law_2668 : decode cL_law 2668 = .ok (.if_icmp .eq 5, 3) := by decide +kernel
theorem dL_law_2671 : decode cL_law 2671 = .ok (.iconst 0, 1) := by decide +kernel
theorem dL_law_2672 : decode cL_law 2672 = .ok (.ireturn, 1) := by decide +kernel
theorem dL_law_2673 : decode cL_law 2673 = .ok (.iload 6, 2) := by decide +kernel
theorem dL_law_2675 : decode cL_law 2675 = .ok (.ifCond .ne 22, 3) := by decide +kernel
theorem dL_law_2678 : decode cL_law 2678 = .ok (.aload_n 3, 1) := by decide +kernel
theorem dL_law_2679 : decode cL_law 2679 = .ok (.iconst 0, 1) := by decide +kernel
theorem dL_law_2680 : decode cL_law 2680 = .ok (.laload, 1) := by decide +kernel
theorem dL_law_2681 : decode cL_law 2681 = .ok (.iload 7, 2) := by decide +kernel
theorem dL_law_2683 : decode cL_law 2683 = .ok (.ifCond .eq 7, 3) := by decide +kernel
theorem dL_law_2686 : decode cL_law 2686 = .ok (.lconst 1, 1) := by decide +kernel
theorem dL_law_2687 : decode cL_law 2687 = .ok (.goto 4, 3) := by decide +kernel
theorem dL_law_2690 : decode cL_law 2690 = .ok (.lconst 0, 1) := by decide +kernel
theorem dL_law_2691 : decode cL_law 2691 = .ok (.lcmp, 1) := by decide +kernel
theorem dL_law_2692 : decode cL_law 2692 = .ok (.ifCond .eq 5, 3) := by decide +kernel
theorem dL_law_2695 : decode cL_law 2695 = .ok (.iconst 0, 1) := by decide +kernel
theorem dL_law_2696 : decode cL_law 2696 = .ok (.ireturn, 1) := by decide +kernel
theorem dL_law_2697 : decode cL_law 2697 = .ok (.goto 741, 3) := by decide +kernel
theorem dL_law_2700 : decode cL_law 2700 = .ok (.aload_n 1, 1) := by decide +kernel
theorem dL_law_2701 : decode cL_law 2701 = .ok (.invokevirtual 319, 3) := by decide +kernel
theorem dL_law_2704 : decode cL_law 2704 = .ok (.aload_n 2, 1) := by decide +kernel
theorem dL_law_2705 : decode cL_law 2705 = .ok (.invokevirtual 323, 3) := by decide +kernel
theorem dL_law_2708 : decode cL_law 2708 = .ok (.if_icmp .eq 730, 3) := by decide +kernel
theorem dL_law_2711 : decode cL_law 2711 = .ok (.iconst 0, 1) := by decide +kernel
theorem dL_law_2712 : decode cL_law 2712 = .ok (.ireturn, 1) := by decide +kernel
theorem dL_law_2713 : decode cL_law 2713 = .ok (.aload_n 1, 1) := by decide +kernel
theorem dL_law_2714 : decode cL_law 2714 = .ok (.invokevirtual 324, 3) := by decide +kernel
theorem dL_law_2717 : decode cL_law 2717 = .ok (.aload_n 2, 1) := by decide +kernel
theorem dL_law_2718 : decode cL_law 2718 = .ok (.invokevirtual 327, 3) := by decide +kernel
theorem dL_law_2721 : decode cL_law 2721 = .ok (.if_icmp .eq 717, 3) := by decide +kernel
theorem dL_law_2724 : decode cL_law 2724 = .ok (.iconst 0, 1) := by decide +kernel
theorem dL_law_2725 : decode cL_law 2725 = .ok (.ireturn, 1) := by decide +kernel
theorem dL_law_2726 : decode cL_law 2726 = .ok (.aload_n 1, 1) := by decide +kernel
theorem dL_law_2727 : decode cL_law 2727 = .ok (.aload_n 0, 1) := by decide +kernel
theorem dL_law_2728 : decode cL_law 2728 = .ok (.iload 5, 2) := by decide +kernel
theorem dL_law_2730 : decode cL_law 2730 = .ok (.iconst 1, 1) := by decide +kernel
theorem dL_law_2731 : decode cL_law 2731 = .ok (.iadd, 1) := by decide +kernel
theorem dL_law_2732 : decode cL_law 2732 = .ok (.iaload, 1) := by decide +kernel
theorem dL_law_2733 : decode cL_law 2733 = .ok (.aload_n 3, 1) := by decide +kernel
theorem dL_law_2734 : decode cL_law 2734 = .ok (.invokestatic 328, 3) := by decide +kernel
theorem dL_law_2737 : decode cL_law 2737 = .ok (.istore 6, 2) := by decide +kernel
theorem dL_law_2739 : decode cL_law 2739 = .ok (.aload_n 2, 1) := by decide +kernel
theorem dL_law_2740 : decode cL_law 2740 = .ok (.aload_n 0, 1) := by decide +kernel
theorem dL_law_2741 : decode cL_law 2741 = .ok (.iload 5, 2) := by decide +kernel
theorem dL_law_2743 : decode cL_law 2743 = .ok (.iconst 1, 1) := by decide +kernel
theorem dL_law_2744 : decode cL_law 2744 = .ok (.iadd, 1) := by decide +kernel
theorem dL_law_2745 : decode cL_law 2745 = .ok (.iaload, 1) := by decide +kernel
theorem dL_law_2746 : decode cL_law 2746 = .ok (.invokevirtual 330, 3) := by decide +kernel
theorem dL_law_2749 : decode cL_law 2749 = .ok (.istore 7, 2) := by decide +kernel
theorem dL_law_2751 : decode cL_law 2751 = .ok (.aload_n 2, 1) := by decide +kernel
theorem dL_law_2752 : decode cL_law 2752 = .ok (.invokevirtual 172, 3) := by decide +kernel
theorem dL_law_2755 : decode cL_law 2755 = .ok (.iload 6, 2) := by decide +kernel
theorem dL_law_2757 : decode cL_law 2757 = .ok (.if_icmp .eq 5, 3) := by decide +kernel
theorem dL_law_2760 : decode cL_law 2760 = .ok (.iconst 0, 1) := by decide +kernel
theorem dL_law_2761 : decode cL_law 2761 = .ok (.ireturn, 1) := by decide +kernel
theorem dL_law_2762 : decode cL_law 2762 = .ok (.iload 6, 2) := by decide +kernel
theorem dL_law_2764 : decode cL_law 2764 = .ok (.ifCond .ne 15, 3) := by decide +kernel
theorem dL_law_2767 : decode cL_law 2767 = .ok (.aload_n 3, 1) := by decide +kernel
theorem dL_law_2768 : decode cL_law 2768 = .ok (.iconst 0, 1) := by decide +kernel
theorem dL_law_2769 : decode cL_law 2769 = .ok (.laload, 1) := by decide +kernel
theorem dL_law_2770 : decode cL_law 2770 = .ok (.iload 7, 2) := by decide +kernel
theorem dL_law_2772 : decode cL_law 2772 = .ok (.i2l, 1) := by decide +kernel
theorem dL_law_2773 : decode cL_law 2773 = .ok (.lcmp, 1) := by decide +kernel
theorem dL_law_2774 : decode cL_law 2774 = .ok (.ifCond .eq 5, 3) := by decide +kernel
theorem dL_law_2777 : decode cL_law 2777 = .ok (.iconst 0, 1) := by decide +kernel
theorem dL_law_2778 : decode cL_law 2778 = .ok (.ireturn, 1) := by decide +kernel
theorem dL_law_2779 : decode cL_law 2779 = .ok (.goto 659, 3) := by decide +kernel
theorem dL_law_2782 : decode cL_law 2782 = .ok (.aload_n 1, 1) := by decide +kernel
theorem dL_law_2783 : decode cL_law 2783 = .ok (.aload_n 0, 1) := by decide +kernel
theorem dL_law_2784 : decode cL_law 2784 = .ok (.iload 5, 2) := by decide +kernel
theorem dL_law_2786 : decode cL_law 2786 = .ok (.iconst 1, 1) := by decide +kernel
theorem dL_law_2787 : decode cL_law 2787 = .ok (.iadd, 1) := by decide +kernel
theorem dL_law_2788 : decode cL_law 2788 = .ok (.iaload, 1) := by decide +kernel
theorem dL_law_2789 : decode cL_law 2789 = .ok (.aload_n 3, 1) := by decide +kernel
theorem dL_law_2790 : decode cL_law 2790 = .ok (.invokestatic 331, 3) := by decide +kernel
theorem dL_law_2793 : decode cL_law 2793 = .ok (.istore 6, 2) := by decide +kernel
theorem dL_law_2795 : decode cL_law 2795 = .ok (.aload_n 2, 1) := by decide +kernel
theorem dL_law_2796 : decode cL_law 2796 = .ok (.aload_n 0, 1) := by decide +kernel
theorem dL_law_2797 : decode cL_law 2797 = .ok (.iload 5, 2) := by decide +kernel
theorem dL_law_2799 : decode cL_law 2799 = .ok (.iconst 1, 1) := by decide +kernel
theorem dL_law_2800 : decode cL_law 2800 = .ok (.iadd, 1) := by decide +kernel
theorem dL_law_2801 : decode cL_law 2801 = .ok (.iaload, 1) := by decide +kernel
theorem dL_law_2802 : decode cL_law 2802 = .ok (.invokevirtual 333, 3) := by decide +kernel
theorem dL_law_2805 : decode cL_law 2805 = .ok (.istore 7, 2) := by decide +kernel
theorem dL_law_2807 : decode cL_law 2807 = .ok (.aload_n 2, 1) := by decide +kernel
theorem dL_law_2808 : decode cL_law 2808 = .ok (.invokevirtual 172, 3) := by decide +kernel
theorem dL_law_2811 : decode cL_law 2811 = .ok (.iload 6, 2) := by decide +kernel
theorem dL_law_2813 : decode cL_law 2813 = .ok (.if_icmp .eq 5, 3) := by decide +kernel
theorem dL_law_2816 : decode cL_law 2816 = .ok (.iconst 0, 1) := by decide +kernel
theorem dL_law_2817 : decode cL_law 2817 = .ok (.ireturn, 1) := by decide +kernel
theorem dL_law_2818 : decode cL_law 2818 = .ok (.iload 6, 2) := by decide +kernel
theorem dL_law_2820 : decode cL_law 2820 = .ok (.ifCond .ne 15, 3) := by decide +kernel
theorem dL_law_2823 : decode cL_law 2823 = .ok (.aload_n 3, 1) := by decide +kernel
theorem dL_law_2824 : decode cL_law 2824 = .ok (.iconst 0, 1) := by decide +kernel
theorem dL_law_2825 : decode cL_law 2825 = .ok (.laload, 1) := by decide +kernel
theorem dL_law_2826 : decode cL_law 2826 = .ok (.iload 7, 2) := by decide +kernel
theorem dL_law_2828 : decode cL_law 2828 = .ok (.i2l, 1) := by decide +kernel
theorem dL_law_2829 : decode cL_law 2829 = .ok (.lcmp, 1) := by decide +kernel
theorem dL_law_2830 : decode cL_law 2830 = .ok (.ifCond .eq 5, 3) := by decide +kernel
theorem dL_law_2833 : decode cL_law 2833 = .ok (.iconst 0, 1) := by decide +kernel
theorem dL_law_2834 : decode cL_law 2834 = .ok (.ireturn, 1) := by decide +kernel
theorem dL_law_2835 : decode cL_law 2835 = .ok (.goto 603, 3) := by decide +kernel
theorem dL_law_2838 : decode cL_law 2838 = .ok (.aload_n 1, 1) := by decide +kernel
theorem dL_law_2839 : decode cL_law 2839 = .ok (.aload_n 0, 1) := by decide +kernel
theorem dL_law_2840 : decode cL_law 2840 = .ok (.iload 5, 2) := by decide +kernel
theorem dL_law_2842 : decode cL_law 2842 = .ok (.iconst 1, 1) := by decide +kernel
theorem dL_law_2843 : decode cL_law 2843 = .ok (.iadd, 1) := by decide +kernel
theorem dL_law_2844 : decode cL_law 2844 = .ok (.iaload, 1) := by decide +kernel
theorem dL_law_2845 : decode cL_law 2845 = .ok (.aload_n 3, 1) := by decide +kernel
theorem dL_law_2846 : decode cL_law 2846 = .ok (.invokestatic 334, 3) := by decide +kernel
theorem dL_law_2849 : decode cL_law 2849 = .ok (.istore 6, 2) := by decide +kernel
theorem dL_law_2851 : decode cL_law 2851 = .ok (.aload_n 2, 1) := by decide +kernel
theorem dL_law_2852 : decode cL_law 2852 = .ok (.aload_n 0, 1) := by decide +kernel
theorem dL_law_2853 : decode cL_law 2853 = .ok (.iload 5, 2) := by decide +kernel
theorem dL_law_2855 : decode cL_law 2855 = .ok (.iconst 1, 1) := by decide +kernel
theorem dL_law_2856 : decode cL_law 2856 = .ok (.iadd, 1) := by decide +kernel
theorem dL_law_2857 : decode cL_law 2857 = .ok (.iaload, 1) := by decide +kernel
theorem dL_law_2858 : decode cL_law 2858 = .ok (.invokevirtual 336, 3) := by decide +kernel
theorem dL_law_2861 : decode cL_law 2861 = .ok (.istore 7, 2) := by decide +kernel
theorem dL_law_2863 : decode cL_law 2863 = .ok (.aload_n 2, 1) := by decide +kernel
theorem dL_law_2864 : decode cL_law 2864 = .ok (.invokevirtual 172, 3) := by decide +kernel
theorem dL_law_2867 : decode cL_law 2867 = .ok (.iload 6, 2) := by decide +kernel
theorem dL_law_2869 : decode cL_law 2869 = .ok (.if_icmp .eq 5, 3) := by decide +kernel
theorem dL_law_2872 : decode cL_law 2872 = .ok (.iconst 0, 1) := by decide +kernel
theorem dL_law_2873 : decode cL_law 2873 = .ok (.ireturn, 1) := by decide +kernel
theorem dL_law_2874 : decode cL_law 2874 = .ok (.iload 6, 2) := by decide +kernel
theorem dL_law_2876 : decode cL_law 2876 = .ok (.ifCond .ne 15, 3) := by decide +kernel
theorem dL_law_2879 : decode cL_law 2879 = .ok (.aload_n 3, 1) := by decide +kernel
theorem dL_law_2880 : decode cL_law 2880 = .ok (.iconst 0, 1) := by decide +kernel
theorem dL_law_2881 : decode cL_law 2881 = .ok (.laload, 1) := by decide +kernel
theorem dL_law_2882 : decode cL_law 2882 = .ok (.iload 7, 2) := by decide +kernel
theorem dL_law_2884 : decode cL_law 2884 = .ok (.i2l, 1) := by decide +kernel
theorem dL_law_2885 : decode cL_law 2885 = .ok (.lcmp, 1) := by decide +kernel
theorem dL_law_2886 : decode cL_law 2886 = .ok (.ifCond .eq 5, 3) := by decide +kernel
theorem dL_law_2889 : decode cL_law 2889 = .ok (.iconst 0, 1) := by decide +kernel
theorem dL_law_2890 : decode cL_law 2890 = .ok (.ireturn, 1) := by decide +kernel
theorem dL_law_2891 : decode cL_law 2891 = .ok (.goto 547, 3) := by decide +kernel
theorem dL_law_2894 : decode cL_law 2894 = .ok (.aload_n 1, 1) := by decide +kernel
theorem dL_law_2895 : decode cL_law 2895 = .ok (.aload_n 0, 1) := by decide +kernel
theorem dL_law_2896 : decode cL_law 2896 = .ok (.iload 5, 2) := by decide +kernel
theorem dL_law_2898 : decode cL_law 2898 = .ok (.iconst 1, 1) := by decide +kernel
theorem dL_law_2899 : decode cL_law 2899 = .ok (.iadd, 1) := by decide +kernel
theorem dL_law_2900 : decode cL_law 2900 = .ok (.iaload, 1) := by decide +kernel
theorem dL_law_2901 : decode cL_law 2901 = .ok (.aload_n 3, 1) := by decide +kernel
theorem dL_law_2902 : decode cL_law 2902 = .ok (.invokestatic 337, 3) := by decide +kernel
theorem dL_law_2905 : decode cL_law 2905 = .ok (.istore 6, 2) := by decide +kernel
theorem dL_law_2907 : decode cL_law 2907 = .ok (.aload_n 2, 1) := by decide +kernel
theorem dL_law_2908 : decode cL_law 2908 = .ok (.aload_n 0, 1) := by decide +kernel
theorem dL_law_2909 : decode cL_law 2909 = .ok (.iload 5, 2) := by decide +kernel
theorem dL_law_2911 : decode cL_law 2911 = .ok (.iconst 1, 1) := by decide +kernel
theorem dL_law_2912 : decode cL_law 2912 = .ok (.iadd, 1) := by decide +kernel
theorem dL_law_2913 : decode cL_law 2913 = .ok (.iaload, 1) := by decide +kernel
theorem dL_law_2914 : decode cL_law 2914 = .ok (.invokevirtual 339, 3) := by decide +kernel
theorem dL_law_2917 : decode cL_law 2917 = .ok (.istore 7, 2) := by decide +kernel
