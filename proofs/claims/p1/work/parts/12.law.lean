theorem dL_law_2364 : decode cL_law 2364 = .ok (.aload_n 1, 1) := by decide +kernel
theorem dL_law_2365 : decode cL_law 2365 = .ok (.aload_n 0, 1) := by decide +kernel
theorem dL_law_2366 : decode cL_law 2366 = .ok (.iload 5, 2) := by decide +kernel
theorem dL_law_2368 : decode cL_law 2368 = .ok (.iconst 1, 1) := by decide +kernel
theorem dL_law_2369 : decode cL_law 2369 = .ok (.iadd, 1) := by decide +kernel
theorem dL_law_2370 : decode cL_law 2370 = .ok (.iaload, 1) := by decide +kernel
theorem dL_law_2371 : decode cL_law 2371 = .ok (.aload_n 3, 1) := by decide +kernel
theorem dL_law_2372 : decode cL_law 2372 = .ok (.invokestatic 313, 3) := by decide +kernel
theorem dL_law_2375 : decode cL_law 2375 = .ok (.istore 6, 2) := by decide +kernel
theorem dL_law_2377 : decode cL_law 2377 = .ok (.aload_n 2, 1) := by decide +kernel
theorem dL_law_2378 : decode cL_law 2378 = .ok (.aload_n 0, 1) := by decide +kernel
theorem dL_law_2379 : decode cL_law 2379 = .ok (.iload 5, 2) := by decide +kernel
theorem dL_law_2381 : decode cL_law 2381 = .ok (.iconst 1, 1) := by decide +kernel
theorem dL_law_2382 : decode cL_law 2382 = .ok (.iadd, 1) := by decide +kernel
theorem dL_law_2383 : decode cL_law 2383 = .ok (.iaload, 1) := by decide +kernel
theorem dL_law_2384 : decode cL_law 2384 = .ok (.invokevirtual 315, 3) := by decide +kernel
theorem dL_law_2387 : decode cL_law 2387 = .ok (.istore 7, 2) := by decide +kernel
theorem dL_law_2389 : decode cL_law 2389 = .ok (.aload_n 2, 1) := by decide +kernel
theorem dL_law_2390 : decode cL_law 2390 = .ok (.invokevirtual 218, 3) := by decide +kernel
theorem dL_law_2393 : decode cL_law 2393 = .ok (.iload 6, 2) := by decide +kernel
theorem dL_law_2395 : decode cL_law 2395 = .ok (.if_icmp .eq 5, 3) := by decide +kernel
theorem dL_law_2400 : decode cL_law 2400 = .ok (.iload 6, 2) := by decide +kernel
theorem dL_law_2402 : decode cL_law 2402 = .ok (.ifCond .ne 15, 3) := by decide +kernel
theorem dL_law_2417 : decode cL_law 2417 = .ok (.goto 1840, 3) := by decide +kernel
theorem dL_law_2420 : decode cL_law 2420 = .ok (.aload_n 1, 1) := by decide +kernel
theorem dL_law_2421 : decode cL_law 2421 = .ok (.aload_n 0, 1) := by decide +kernel
theorem dL_law_2422 : decode cL_law 2422 = .ok (.iload 5, 2) := by decide +kernel
theorem dL_law_2424 : decode cL_law 2424 = .ok (.iconst 1, 1) := by decide +kernel
theorem dL_law_2425 : decode cL_law 2425 = .ok (.iadd, 1) := by decide +kernel
theorem dL_law_2426 : decode cL_law 2426 = .ok (.iaload, 1) := by decide +kernel
theorem dL_law_2427 : decode cL_law 2427 = .ok (.aload_n 3, 1) := by decide +kernel
theorem dL_law_2428 : decode cL_law 2428 = .ok (.invokestatic 316, 3) := by decide +kernel
theorem dL_law_2431 : decode cL_law 2431 = .ok (.istore 6, 2) := by decide +kernel
theorem dL_law_2433 : decode cL_law 2433 = .ok (.aload_n 2, 1) := by decide +kernel
theorem dL_law_2434 : decode cL_law 2434 = .ok (.aload_n 0, 1) := by decide +kernel
theorem dL_law_2435 : decode cL_law 2435 = .ok (.iload 5, 2) := by decide +kernel
theorem dL_law_2437 : decode cL_law 2437 = .ok (.iconst 1, 1) := by decide +kernel
theorem dL_law_2438 : decode cL_law 2438 = .ok (.iadd, 1) := by decide +kernel
theorem dL_law_2439 : decode cL_law 2439 = .ok (.iaload, 1) := by decide +kernel
theorem dL_law_2440 : decode cL_law 2440 = .ok (.invokevirtual 318, 3) := by decide +kernel
theorem dL_law_2443 : decode cL_law 2443 = .ok (.istore 7, 2) := by decide +kernel
theorem dL_law_2445 : decode cL_law 2445 = .ok (.aload_n 2, 1) := by decide +kernel
theorem dL_law_2446 : decode cL_law 2446 = .ok (.invokevirtual 218, 3) := by decide +kernel
theorem dL_law_2449 : decode cL_law 2449 = .ok (.iload 6, 2) := by decide +kernel
theorem dL_law_2451 : decode cL_law 2451 = .ok (.if_icmp .eq 5, 3) := by decide +kernel
theorem dL_law_2456 : decode cL_law 2456 = .ok (.iload 6, 2) := by decide +kernel
theorem dL_law_2458 : decode cL_law 2458 = .ok (.ifCond .ne 22, 3) := by decide +kernel
theorem dL_law_2480 : decode cL_law 2480 = .ok (.goto 1777, 3) := by decide +kernel
theorem dL_law_2483 : decode cL_law 2483 = .ok (.aload_n 1, 1) := by decide +kernel
theorem dL_law_2484 : decode cL_law 2484 = .ok (.aload_n 0, 1) := by decide +kernel
theorem dL_law_2485 : decode cL_law 2485 = .ok (.iload 5, 2) := by decide +kernel
theorem dL_law_2487 : decode cL_law 2487 = .ok (.iconst 1, 1) := by decide +kernel
theorem dL_law_2488 : decode cL_law 2488 = .ok (.iadd, 1) := by decide +kernel
theorem dL_law_2489 : decode cL_law 2489 = .ok (.iaload, 1) := by decide +kernel
theorem dL_law_2490 : decode cL_law 2490 = .ok (.aload_n 0, 1) := by decide +kernel
theorem dL_law_2491 : decode cL_law 2491 = .ok (.iload 5, 2) := by decide +kernel
theorem dL_law_2493 : decode cL_law 2493 = .ok (.iconst 2, 1) := by decide +kernel
theorem dL_law_2494 : decode cL_law 2494 = .ok (.iadd, 1) := by decide +kernel
theorem dL_law_2495 : decode cL_law 2495 = .ok (.iaload, 1) := by decide +kernel
theorem dL_law_2496 : decode cL_law 2496 = .ok (.i2c, 1) := by decide +kernel
theorem dL_law_2497 : decode cL_law 2497 = .ok (.aload_n 0, 1) := by decide +kernel
theorem dL_law_2498 : decode cL_law 2498 = .ok (.iload 5, 2) := by decide +kernel
theorem dL_law_2500 : decode cL_law 2500 = .ok (.iconst 3, 1) := by decide +kernel
theorem dL_law_2501 : decode cL_law 2501 = .ok (.iadd, 1) := by decide +kernel
theorem dL_law_2502 : decode cL_law 2502 = .ok (.iaload, 1) := by decide +kernel
theorem dL_law_2503 : decode cL_law 2503 = .ok (.aload_n 3, 1) := by decide +kernel
theorem dL_law_2504 : decode cL_law 2504 = .ok (.invokestatic 319, 3) := by decide +kernel
theorem dL_law_2507 : decode cL_law 2507 = .ok (.istore 6, 2) := by decide +kernel
theorem dL_law_2509 : decode cL_law 2509 = .ok (.aload_n 2, 1) := by decide +kernel
theorem dL_law_2510 : decode cL_law 2510 = .ok (.aload_n 0, 1) := by decide +kernel
theorem dL_law_2511 : decode cL_law 2511 = .ok (.iload 5, 2) := by decide +kernel
theorem dL_law_2513 : decode cL_law 2513 = .ok (.iconst 1, 1) := by decide +kernel
theorem dL_law_2514 : decode cL_law 2514 = .ok (.iadd, 1) := by decide +kernel
theorem dL_law_2515 : decode cL_law 2515 = .ok (.iaload, 1) := by decide +kernel
theorem dL_law_2516 : decode cL_law 2516 = .ok (.aload_n 0, 1) := by decide +kernel
theorem dL_law_2517 : decode cL_law 2517 = .ok (.iload 5, 2) := by decide +kernel
theorem dL_law_2519 : decode cL_law 2519 = .ok (.iconst 2, 1) := by decide +kernel
theorem dL_law_2520 : decode cL_law 2520 = .ok (.iadd, 1) := by decide +kernel
theorem dL_law_2521 : decode cL_law 2521 = .ok (.iaload, 1) := by decide +kernel
theorem dL_law_2522 : decode cL_law 2522 = .ok (.i2c, 1) := by decide +kernel
theorem dL_law_2523 : decode cL_law 2523 = .ok (.aload_n 0, 1) := by decide +kernel
theorem dL_law_2524 : decode cL_law 2524 = .ok (.iload 5, 2) := by decide +kernel
theorem dL_law_2526 : decode cL_law 2526 = .ok (.iconst 3, 1) := by decide +kernel
theorem dL_law_2527 : decode cL_law 2527 = .ok (.iadd, 1) := by decide +kernel
theorem dL_law_2528 : decode cL_law 2528 = .ok (.iaload, 1) := by decide +kernel
theorem dL_law_2529 : decode cL_law 2529 = .ok (.invokevirtual 322, 3) := by decide +kernel
theorem dL_law_2532 : decode cL_law 2532 = .ok (.istore 7, 2) := by decide +kernel
theorem dL_law_2534 : decode cL_law 2534 = .ok (.aload_n 2, 1) := by decide +kernel
theorem dL_law_2535 : decode cL_law 2535 = .ok (.invokevirtual 218, 3) := by decide +kernel
theorem dL_law_2538 : decode cL_law 2538 = .ok (.iload 6, 2) := by decide +kernel
theorem dL_law_2540 : decode cL_law 2540 = .ok (.if_icmp .eq 5, 3) := by decide +kernel
theorem dL_law_2545 : decode cL_law 2545 = .ok (.iload 6, 2) := by decide +kernel
theorem dL_law_2547 : decode cL_law 2547 = .ok (.ifCond .ne 15, 3) := by decide +kernel
theorem dL_law_2562 : decode cL_law 2562 = .ok (.goto 1695, 3) := by decide +kernel
theorem dL_law_2565 : decode cL_law 2565 = .ok (.aload_n 1, 1) := by decide +kernel
theorem dL_law_2566 : decode cL_law 2566 = .ok (.aload_n 0, 1) := by decide +kernel
theorem dL_law_2567 : decode cL_law 2567 = .ok (.iload 5, 2) := by decide +kernel
theorem dL_law_2569 : decode cL_law 2569 = .ok (.iconst 1, 1) := by decide +kernel
theorem dL_law_2570 : decode cL_law 2570 = .ok (.iadd, 1) := by decide +kernel
theorem dL_law_2571 : decode cL_law 2571 = .ok (.iaload, 1) := by decide +kernel
theorem dL_law_2572 : decode cL_law 2572 = .ok (.aload_n 0, 1) := by decide +kernel
theorem dL_law_2573 : decode cL_law 2573 = .ok (.iload 5, 2) := by decide +kernel
theorem dL_law_2575 : decode cL_law 2575 = .ok (.iconst 2, 1) := by decide +kernel
theorem dL_law_2576 : decode cL_law 2576 = .ok (.iadd, 1) := by decide +kernel
theorem dL_law_2577 : decode cL_law 2577 = .ok (.iaload, 1) := by decide +kernel
theorem dL_law_2578 : decode cL_law 2578 = .ok (.aload_n 3, 1) := by decide +kernel
theorem dL_law_2579 : decode cL_law 2579 = .ok (.invokestatic 323, 3) := by decide +kernel
theorem dL_law_2582 : decode cL_law 2582 = .ok (.istore 6, 2) := by decide +kernel
theorem dL_law_2584 : decode cL_law 2584 = .ok (.aload_n 2, 1) := by decide +kernel
theorem dL_law_2585 : decode cL_law 2585 = .ok (.aload_n 0, 1) := by decide +kernel
theorem dL_law_2586 : decode cL_law 2586 = .ok (.iload 5, 2) := by decide +kernel
theorem dL_law_2588 : decode cL_law 2588 = .ok (.iconst 1, 1) := by decide +kernel
theorem dL_law_2589 : decode cL_law 2589 = .ok (.iadd, 1) := by decide +kernel
theorem dL_law_2590 : decode cL_law 2590 = .ok (.iaload, 1) := by decide +kernel
theorem dL_law_2591 : decode cL_law 2591 = .ok (.aload_n 0, 1) := by decide +kernel
theorem dL_law_2592 : decode cL_law 2592 = .ok (.iload 5, 2) := by decide +kernel
theorem dL_law_2594 : decode cL_law 2594 = .ok (.iconst 2, 1) := by decide +kernel
theorem dL_law_2595 : decode cL_law 2595 = .ok (.iadd, 1) := by decide +kernel
theorem dL_law_2596 : decode cL_law 2596 = .ok (.iaload, 1) := by decide +kernel
theorem dL_law_2597 : decode cL_law 2597 = .ok (.invokevirtual 325, 3) := by decide +kernel
theorem dL_law_2600 : decode cL_law 2600 = .ok (.istore 7, 2) := by decide +kernel
theorem dL_law_2602 : decode cL_law 2602 = .ok (.aload_n 2, 1) := by decide +kernel
theorem dL_law_2603 : decode cL_law 2603 = .ok (.invokevirtual 218, 3) := by decide +kernel
theorem dL_law_2606 : decode cL_law 2606 = .ok (.iload 6, 2) := by decide +kernel
theorem dL_law_2608 : decode cL_law 2608 = .ok (.if_icmp .eq 5, 3) := by decide +kernel
theorem dL_law_2613 : decode cL_law 2613 = .ok (.iload 6, 2) := by decide +kernel
theorem dL_law_2615 : decode cL_law 2615 = .ok (.ifCond .ne 15, 3) := by decide +kernel
theorem dL_law_2630 : decode cL_law 2630 = .ok (.goto 1627, 3) := by decide +kernel
theorem dL_law_2633 : decode cL_law 2633 = .ok (.aload_n 1, 1) := by decide +kernel
theorem dL_law_2634 : decode cL_law 2634 = .ok (.aload_n 0, 1) := by decide +kernel
theorem dL_law_2635 : decode cL_law 2635 = .ok (.iload 5, 2) := by decide +kernel
theorem dL_law_2637 : decode cL_law 2637 = .ok (.iconst 1, 1) := by decide +kernel
theorem dL_law_2638 : decode cL_law 2638 = .ok (.iadd, 1) := by decide +kernel
theorem dL_law_2639 : decode cL_law 2639 = .ok (.iaload, 1) := by decide +kernel
theorem dL_law_2640 : decode cL_law 2640 = .ok (.aload_n 3, 1) := by decide +kernel
theorem dL_law_2641 : decode cL_law 2641 = .ok (.invokestatic 326, 3) := by decide +kernel
theorem dL_law_2644 : decode cL_law 2644 = .ok (.istore 6, 2) := by decide +kernel
theorem dL_law_2646 : decode cL_law 2646 = .ok (.aload_n 2, 1) := by decide +kernel
theorem dL_law_2647 : decode cL_law 2647 = .ok (.aload_n 0, 1) := by decide +kernel
theorem dL_law_2648 : decode cL_law 2648 = .ok (.iload 5, 2) := by decide +kernel
theorem dL_law_2650 : decode cL_law 2650 = .ok (.iconst 1, 1) := by decide +kernel
theorem dL_law_2651 : decode cL_law 2651 = .ok (.iadd, 1) := by decide +kernel
theorem dL_law_2652 : decode cL_law 2652 = .ok (.iaload, 1) := by decide +kernel
theorem dL_law_2653 : decode cL_law 2653 = .ok (.invokevirtual 328, 3) := by decide +kernel
theorem dL_law_2656 : decode cL_law 2656 = .ok (.istore 7, 2) := by decide +kernel
theorem dL_law_2658 : decode cL_law 2658 = .ok (.aload_n 2, 1) := by decide +kernel
theorem dL_law_2659 : decode cL_law 2659 = .ok (.invokevirtual 218, 3) := by decide +kernel
theorem dL_law_2662 : decode cL_law 2662 = .ok (.iload 6, 2) := by decide +kernel
theorem dL_law_2664 : decode cL_law 2664 = .ok (.if_icmp .eq 5, 3) := by decide +kernel
theorem dL_law_2669 : decode cL_law 2669 = .ok (.iload 6, 2) := by decide +kernel
theorem dL_law_2671 : decode cL_law 2671 = .ok (.ifCond .ne 22, 3) := by decide +kernel
theorem dL_law_2693 : decode cL_law 2693 = .ok (.goto 1564, 3) := by decide +kernel
theorem dL_law_2696 : decode cL_law 2696 = .ok (.aload_n 1, 1) := by decide +kernel
theorem dL_law_2697 : decode cL_law 2697 = .ok (.aload_n 0, 1) := by decide +kernel
theorem dL_law_2698 : decode cL_law 2698 = .ok (.iload 5, 2) := by decide +kernel
theorem dL_law_2700 : decode cL_law 2700 = .ok (.iconst 1, 1) := by decide +kernel
theorem dL_law_2701 : decode cL_law 2701 = .ok (.iadd, 1) := by decide +kernel
theorem dL_law_2702 : decode cL_law 2702 = .ok (.iaload, 1) := by decide +kernel
theorem dL_law_2703 : decode cL_law 2703 = .ok (.aload_n 0, 1) := by decide +kernel
theorem dL_law_2704 : decode cL_law 2704 = .ok (.iload 5, 2) := by decide +kernel
theorem dL_law_2706 : decode cL_law 2706 = .ok (.iconst 2, 1) := by decide +kernel
theorem dL_law_2707 : decode cL_law 2707 = .ok (.iadd, 1) := by decide +kernel
theorem dL_law_2708 : decode cL_law 2708 = .ok (.iaload, 1) := by decide +kernel
theorem dL_law_2709 : decode cL_law 2709 = .ok (.aload_n 3, 1) := by decide +kernel
theorem dL_law_2710 : decode cL_law 2710 = .ok (.invokestatic 329, 3) := by decide +kernel
theorem dL_law_2713 : decode cL_law 2713 = .ok (.istore 6, 2) := by decide +kernel
theorem dL_law_2715 : decode cL_law 2715 = .ok (.aload_n 2, 1) := by decide +kernel
theorem dL_law_2716 : decode cL_law 2716 = .ok (.aload_n 0, 1) := by decide +kernel
theorem dL_law_2717 : decode cL_law 2717 = .ok (.iload 5, 2) := by decide +kernel
theorem dL_law_2719 : decode cL_law 2719 = .ok (.iconst 1, 1) := by decide +kernel
theorem dL_law_2720 : decode cL_law 2720 = .ok (.iadd, 1) := by decide +kernel
theorem dL_law_2721 : decode cL_law 2721 = .ok (.iaload, 1) := by decide +kernel
theorem dL_law_2722 : decode cL_law 2722 = .ok (.aload_n 0, 1) := by decide +kernel
theorem dL_law_2723 : decode cL_law 2723 = .ok (.iload 5, 2) := by decide +kernel
theorem dL_law_2725 : decode cL_law 2725 = .ok (.iconst 2, 1) := by decide +kernel
theorem dL_law_2726 : decode cL_law 2726 = .ok (.iadd, 1) := by decide +kernel
theorem dL_law_2727 : decode cL_law 2727 = .ok (.iaload, 1) := by decide +kernel
theorem dL_law_2728 : decode cL_law 2728 = .ok (.invokevirtual 331, 3) := by decide +kernel
theorem dL_law_2731 : decode cL_law 2731 = .ok (.istore 7, 2) := by decide +kernel
theorem dL_law_2733 : decode cL_law 2733 = .ok (.aload_n 2, 1) := by decide +kernel
theorem dL_law_2734 : decode cL_law 2734 = .ok (.invokevirtual 218, 3) := by decide +kernel
theorem dL_law_2737 : decode cL_law 2737 = .ok (.iload 6, 2) := by decide +kernel
theorem dL_law_2739 : decode cL_law 2739 = .ok (.if_icmp .eq 5, 3) := by decide +kernel
theorem dL_law_2744 : decode cL_law 2744 = .ok (.iload 6, 2) := by decide +kernel
theorem dL_law_2746 : decode cL_law 2746 = .ok (.ifCond .ne 15, 3) := by decide +kernel
theorem dL_law_2761 : decode cL_law 2761 = .ok (.goto 1496, 3) := by decide +kernel
theorem dL_law_2764 : decode cL_law 2764 = .ok (.aload_n 1, 1) := by decide +kernel
theorem dL_law_2765 : decode cL_law 2765 = .ok (.aload_n 0, 1) := by decide +kernel
theorem dL_law_2766 : decode cL_law 2766 = .ok (.iload 5, 2) := by decide +kernel
theorem dL_law_2768 : decode cL_law 2768 = .ok (.iconst 1, 1) := by decide +kernel
theorem dL_law_2769 : decode cL_law 2769 = .ok (.iadd, 1) := by decide +kernel
theorem dL_law_2770 : decode cL_law 2770 = .ok (.iaload, 1) := by decide +kernel
theorem dL_law_2771 : decode cL_law 2771 = .ok (.aload_n 0, 1) := by decide +kernel
theorem dL_law_2772 : decode cL_law 2772 = .ok (.iload 5, 2) := by decide +kernel
theorem dL_law_2774 : decode cL_law 2774 = .ok (.iconst 2, 1) := by decide +kernel
theorem dL_law_2775 : decode cL_law 2775 = .ok (.iadd, 1) := by decide +kernel
theorem dL_law_2776 : decode cL_law 2776 = .ok (.iaload, 1) := by decide +kernel
theorem dL_law_2777 : decode cL_law 2777 = .ok (.aload_n 0, 1) := by decide +kernel
theorem dL_law_2778 : decode cL_law 2778 = .ok (.iload 5, 2) := by decide +kernel
theorem dL_law_2780 : decode cL_law 2780 = .ok (.iconst 3, 1) := by decide +kernel
theorem dL_law_2781 : decode cL_law 2781 = .ok (.iadd, 1) := by decide +kernel
theorem dL_law_2782 : decode cL_law 2782 = .ok (.iaload, 1) := by decide +kernel
theorem dL_law_2783 : decode cL_law 2783 = .ok (.aload_n 3, 1) := by decide +kernel
theorem dL_law_2784 : decode cL_law 2784 = .ok (.invokestatic 332, 3) := by decide +kernel
theorem dL_law_2787 : decode cL_law 2787 = .ok (.istore 6, 2) := by decide +kernel
theorem dL_law_2789 : decode cL_law 2789 = .ok (.aload_n 2, 1) := by decide +kernel
theorem dL_law_2790 : decode cL_law 2790 = .ok (.aload_n 0, 1) := by decide +kernel
theorem dL_law_2791 : decode cL_law 2791 = .ok (.iload 5, 2) := by decide +kernel
theorem dL_law_2793 : decode cL_law 2793 = .ok (.iconst 1, 1) := by decide +kernel
theorem dL_law_2794 : decode cL_law 2794 = .ok (.iadd, 1) := by decide +kernel
theorem dL_law_2795 : decode cL_law 2795 = .ok (.iaload, 1) := by decide +kernel
theorem dL_law_2796 : decode cL_law 2796 = .ok (.aload_n 0, 1) := by decide +kernel
theorem dL_law_2797 : decode cL_law 2797 = .ok (.iload 5, 2) := by decide +kernel
theorem dL_law_2799 : decode cL_law 2799 = .ok (.iconst 2, 1) := by decide +kernel
theorem dL_law_2800 : decode cL_law 2800 = .ok (.iadd, 1) := by decide +kernel
theorem dL_law_2801 : decode cL_law 2801 = .ok (.iaload, 1) := by decide +kernel
theorem dL_law_2802 : decode cL_law 2802 = .ok (.aload_n 0, 1) := by decide +kernel
theorem dL_law_2803 : decode cL_law 2803 = .ok (.iload 5, 2) := by decide +kernel
theorem dL_law_2805 : decode cL_law 2805 = .ok (.iconst 3, 1) := by decide +kernel
theorem dL_law_2806 : decode cL_law 2806 = .ok (.iadd, 1) := by decide +kernel
theorem dL_law_2807 : decode cL_law 2807 = .ok (.iaload, 1) := by decide +kernel
theorem dL_law_2808 : decode cL_law 2808 = .ok (.invokevirtual 334, 3) := by decide +kernel
theorem dL_law_2811 : decode cL_law 2811 = .ok (.istore 7, 2) := by decide +kernel
theorem dL_law_2813 : decode cL_law 2813 = .ok (.aload_n 2, 1) := by decide +kernel
theorem dL_law_2814 : decode cL_law 2814 = .ok (.invokevirtual 218, 3) := by decide +kernel
theorem dL_law_2817 : decode cL_law 2817 = .ok (.iload 6, 2) := by decide +kernel
theorem dL_law_2819 : decode cL_law 2819 = .ok (.if_icmp .eq 5, 3) := by decide +kernel
theorem dL_law_2824 : decode cL_law 2824 = .ok (.iload 6, 2) := by decide +kernel
theorem dL_law_2826 : decode cL_law 2826 = .ok (.ifCond .ne 15, 3) := by decide +kernel
theorem dL_law_2841 : decode cL_law 2841 = .ok (.goto 1416, 3) := by decide +kernel
theorem dL_law_2844 : decode cL_law 2844 = .ok (.aload_n 1, 1) := by decide +kernel
theorem dL_law_2845 : decode cL_law 2845 = .ok (.aload_n 0, 1) := by decide +kernel
theorem dL_law_2846 : decode cL_law 2846 = .ok (.iload 5, 2) := by decide +kernel
theorem dL_law_2848 : decode cL_law 2848 = .ok (.iconst 1, 1) := by decide +kernel
theorem dL_law_2849 : decode cL_law 2849 = .ok (.iadd, 1) := by decide +kernel
theorem dL_law_2850 : decode cL_law 2850 = .ok (.iaload, 1) := by decide +kernel
theorem dL_law_2851 : decode cL_law 2851 = .ok (.aload_n 0, 1) := by decide +kernel
theorem dL_law_2852 : decode cL_law 2852 = .ok (.iload 5, 2) := by decide +kernel
theorem dL_law_2854 : decode cL_law 2854 = .ok (.iconst 2, 1) := by decide +kernel
theorem dL_law_2855 : decode cL_law 2855 = .ok (.iadd, 1) := by decide +kernel
theorem dL_law_2856 : decode cL_law 2856 = .ok (.iaload, 1) := by decide +kernel
theorem dL_law_2857 : decode cL_law 2857 = .ok (.aload_n 3, 1) := by decide +kernel
theorem dL_law_2858 : decode cL_law 2858 = .ok (.invokestatic 335, 3) := by decide +kernel
theorem dL_law_2861 : decode cL_law 2861 = .ok (.istore 6, 2) := by decide +kernel
theorem dL_law_2863 : decode cL_law 2863 = .ok (.aload_n 2, 1) := by decide +kernel
theorem dL_law_2864 : decode cL_law 2864 = .ok (.aload_n 0, 1) := by decide +kernel
theorem dL_law_2865 : decode cL_law 2865 = .ok (.iload 5, 2) := by decide +kernel
theorem dL_law_2867 : decode cL_law 2867 = .ok (.iconst 1, 1) := by decide +kernel
theorem dL_law_2868 : decode cL_law 2868 = .ok (.iadd, 1) := by decide +kernel
theorem dL_law_2869 : decode cL_law 2869 = .ok (.iaload, 1) := by decide +kernel
theorem dL_law_2870 : decode cL_law 2870 = .ok (.aload_n 0, 1) := by decide +kernel
theorem dL_law_2871 : decode cL_law 2871 = .ok (.iload 5, 2) := by decide +kernel
theorem dL_law_2873 : decode cL_law 2873 = .ok (.iconst 2, 1) := by decide +kernel
theorem dL_law_2874 : decode cL_law 2874 = .ok (.iadd, 1) := by decide +kernel
theorem dL_law_2875 : decode cL_law 2875 = .ok (.iaload, 1) := by decide +kernel
theorem dL_law_2876 : decode cL_law 2876 = .ok (.invokevirtual 337, 3) := by decide +kernel
theorem dL_law_2879 : decode cL_law 2879 = .ok (.istore 7, 2) := by decide +kernel
theorem dL_law_2881 : decode cL_law 2881 = .ok (.aload_n 2, 1) := by decide +kernel
theorem dL_law_2882 : decode cL_law 2882 = .ok (.invokevirtual 218, 3) := by decide +kernel
theorem dL_law_2885 : decode cL_law 2885 = .ok (.iload 6, 2) := by decide +kernel
theorem dL_law_2887 : decode cL_law 2887 = .ok (.if_icmp .eq 5, 3) := by decide +kernel
theorem dL_law_2892 : decode cL_law 2892 = .ok (.iload 6, 2) := by decide +kernel
theorem dL_law_2894 : decode cL_law 2894 = .ok (.ifCond .ne 15, 3) := by decide +kernel
theorem dL_law_2909 : decode cL_law 2909 = .ok (.goto 1348, 3) := by decide +kernel
theorem dL_law_2912 : decode cL_law 2912 = .ok (.aload_n 1, 1) := by decide +kernel
theorem dL_law_2913 : decode cL_law 2913 = .ok (.aload_n 0, 1) := by decide +kernel
theorem dL_law_2914 : decode cL_law 2914 = .ok (.iload 5, 2) := by decide +kernel
theorem dL_law_2916 : decode cL_law 2916 = .ok (.iconst 1, 1) := by decide +kernel
theorem dL_law_2917 : decode cL_law 2917 = .ok (.iadd, 1) := by decide +kernel
theorem dL_law_2918 : decode cL_law 2918 = .ok (.iaload, 1) := by decide +kernel
theorem dL_law_2919 : decode cL_law 2919 = .ok (.aload_n 0, 1) := by decide +kernel
theorem dL_law_2920 : decode cL_law 2920 = .ok (.iload 5, 2) := by decide +kernel
theorem dL_law_2922 : decode cL_law 2922 = .ok (.iconst 2, 1) := by decide +kernel
theorem dL_law_2923 : decode cL_law 2923 = .ok (.iadd, 1) := by decide +kernel
theorem dL_law_2924 : decode cL_law 2924 = .ok (.iaload, 1) := by decide +kernel
theorem dL_law_2925 : decode cL_law 2925 = .ok (.aload_n 0, 1) := by decide +kernel
theorem dL_law_2926 : decode cL_law 2926 = .ok (.iload 5, 2) := by decide +kernel
theorem dL_law_2928 : decode cL_law 2928 = .ok (.iconst 3, 1) := by decide +kernel
theorem dL_law_2929 : decode cL_law 2929 = .ok (.iadd, 1) := by decide +kernel
theorem dL_law_2930 : decode cL_law 2930 = .ok (.iaload, 1) := by decide +kernel
theorem dL_law_2931 : decode cL_law 2931 = .ok (.aload_n 0, 1) := by decide +kernel
theorem dL_law_2932 : decode cL_law 2932 = .ok (.iload 5, 2) := by decide +kernel
theorem dL_law_2934 : decode cL_law 2934 = .ok (.iconst 4, 1) := by decide +kernel
theorem dL_law_2935 : decode cL_law 2935 = .ok (.iadd, 1) := by decide +kernel
theorem dL_law_2936 : decode cL_law 2936 = .ok (.iaload, 1) := by decide +kernel
theorem dL_law_2937 : decode cL_law 2937 = .ok (.aload_n 0, 1) := by decide +kernel
theorem dL_law_2938 : decode cL_law 2938 = .ok (.iload 5, 2) := by decide +kernel
theorem dL_law_2940 : decode cL_law 2940 = .ok (.iconst 5, 1) := by decide +kernel
theorem dL_law_2941 : decode cL_law 2941 = .ok (.iadd, 1) := by decide +kernel
theorem dL_law_2942 : decode cL_law 2942 = .ok (.iaload, 1) := by decide +kernel
theorem dL_law_2943 : decode cL_law 2943 = .ok (.i2c, 1) := by decide +kernel
theorem dL_law_2944 : decode cL_law 2944 = .ok (.aload_n 3, 1) := by decide +kernel
theorem dL_law_2945 : decode cL_law 2945 = .ok (.invokestatic 338, 3) := by decide +kernel
theorem dL_law_2948 : decode cL_law 2948 = .ok (.istore 6, 2) := by decide +kernel
theorem dL_law_2950 : decode cL_law 2950 = .ok (.aload_n 2, 1) := by decide +kernel
theorem dL_law_2951 : decode cL_law 2951 = .ok (.aload_n 0, 1) := by decide +kernel
theorem dL_law_2952 : decode cL_law 2952 = .ok (.iload 5, 2) := by decide +kernel
theorem dL_law_2954 : decode cL_law 2954 = .ok (.iconst 1, 1) := by decide +kernel
theorem dL_law_2955 : decode cL_law 2955 = .ok (.iadd, 1) := by decide +kernel
theorem dL_law_2956 : decode cL_law 2956 = .ok (.iaload, 1) := by decide +kernel
theorem dL_law_2957 : decode cL_law 2957 = .ok (.aload_n 0, 1) := by decide +kernel
theorem dL_law_2958 : decode cL_law 2958 = .ok (.iload 5, 2) := by decide +kernel
theorem dL_law_2960 : decode cL_law 2960 = .ok (.iconst 2, 1) := by decide +kernel
theorem dL_law_2961 : decode cL_law 2961 = .ok (.iadd, 1) := by decide +kernel
theorem dL_law_2962 : decode cL_law 2962 = .ok (.iaload, 1) := by decide +kernel
theorem dL_law_2963 : decode cL_law 2963 = .ok (.aload_n 0, 1) := by decide +kernel
theorem dL_law_2964 : decode cL_law 2964 = .ok (.iload 5, 2) := by decide +kernel
theorem dL_law_2966 : decode cL_law 2966 = .ok (.iconst 3, 1) := by decide +kernel
theorem dL_law_2967 : decode cL_law 2967 = .ok (.iadd, 1) := by decide +kernel
theorem dL_law_2968 : decode cL_law 2968 = .ok (.iaload, 1) := by decide +kernel
theorem dL_law_2969 : decode cL_law 2969 = .ok (.aload_n 0, 1) := by decide +kernel
theorem dL_law_2970 : decode cL_law 2970 = .ok (.iload 5, 2) := by decide +kernel
theorem dL_law_2972 : decode cL_law 2972 = .ok (.iconst 4, 1) := by decide +kernel
theorem dL_law_2973 : decode cL_law 2973 = .ok (.iadd, 1) := by decide +kernel
theorem dL_law_2974 : decode cL_law 2974 = .ok (.iaload, 1) := by decide +kernel
theorem dL_law_2975 : decode cL_law 2975 = .ok (.aload_n 0, 1) := by decide +kernel
theorem dL_law_2976 : decode cL_law 2976 = .ok (.iload 5, 2) := by decide +kernel
theorem dL_law_2978 : decode cL_law 2978 = .ok (.iconst 5, 1) := by decide +kernel
theorem dL_law_2979 : decode cL_law 2979 = .ok (.iadd, 1) := by decide +kernel
theorem dL_law_2980 : decode cL_law 2980 = .ok (.iaload, 1) := by decide +kernel
theorem dL_law_2981 : decode cL_law 2981 = .ok (.i2c, 1) := by decide +kernel
theorem dL_law_2982 : decode cL_law 2982 = .ok (.invokevirtual 341, 3) := by decide +kernel
theorem dL_law_2985 : decode cL_law 2985 = .ok (.istore 7, 2) := by decide +kernel
theorem dL_law_2987 : decode cL_law 2987 = .ok (.aload_n 2, 1) := by decide +kernel
theorem dL_law_2988 : decode cL_law 2988 = .ok (.invokevirtual 218, 3) := by decide +kernel
theorem dL_law_2991 : decode cL_law 2991 = .ok (.iload 6, 2) := by decide +kernel
theorem dL_law_2993 : decode cL_law 2993 = .ok (.if_icmp .eq 5, 3) := by decide +kernel
theorem dL_law_2998 : decode cL_law 2998 = .ok (.iload 6, 2) := by decide +kernel
theorem dL_law_3000 : decode cL_law 3000 = .ok (.ifCond .ne 15, 3) := by decide +kernel
theorem dL_law_3015 : decode cL_law 3015 = .ok (.goto 1242, 3) := by decide +kernel
theorem dL_law_3003 : decode cL_law 3003 = .ok (.aload_n 3, 1) := by decide +kernel
theorem dL_law_3004 : decode cL_law 3004 = .ok (.iconst 0, 1) := by decide +kernel
theorem dL_law_3005 : decode cL_law 3005 = .ok (.laload, 1) := by decide +kernel
theorem dL_law_3006 : decode cL_law 3006 = .ok (.iload 7, 2) := by decide +kernel
theorem dL_law_3008 : decode cL_law 3008 = .ok (.i2l, 1) := by decide +kernel
theorem dL_law_3009 : decode cL_law 3009 = .ok (.lcmp, 1) := by decide +kernel
theorem dL_law_3010 : decode cL_law 3010 = .ok (.ifCond .eq 5, 3) := by decide +kernel
theorem dL_law_3018 : decode cL_law 3018 = .ok (.aload_n 1, 1) := by decide +kernel
theorem dL_law_3019 : decode cL_law 3019 = .ok (.aload_n 0, 1) := by decide +kernel
theorem dL_law_3020 : decode cL_law 3020 = .ok (.iload 5, 2) := by decide +kernel
theorem dL_law_3022 : decode cL_law 3022 = .ok (.iconst 1, 1) := by decide +kernel
theorem dL_law_3023 : decode cL_law 3023 = .ok (.iadd, 1) := by decide +kernel
theorem dL_law_3024 : decode cL_law 3024 = .ok (.iaload, 1) := by decide +kernel
theorem dL_law_3025 : decode cL_law 3025 = .ok (.aload_n 0, 1) := by decide +kernel
theorem dL_law_3026 : decode cL_law 3026 = .ok (.iload 5, 2) := by decide +kernel
theorem dL_law_3028 : decode cL_law 3028 = .ok (.iconst 2, 1) := by decide +kernel
theorem dL_law_3029 : decode cL_law 3029 = .ok (.iadd, 1) := by decide +kernel
theorem dL_law_3030 : decode cL_law 3030 = .ok (.iaload, 1) := by decide +kernel
theorem dL_law_3031 : decode cL_law 3031 = .ok (.aload_n 3, 1) := by decide +kernel
theorem dL_law_3032 : decode cL_law 3032 = .ok (.invokestatic 342, 3) := by decide +kernel
theorem dL_law_3035 : decode cL_law 3035 = .ok (.istore 6, 2) := by decide +kernel
theorem dL_law_3037 : decode cL_law 3037 = .ok (.aload_n 2, 1) := by decide +kernel
theorem dL_law_3038 : decode cL_law 3038 = .ok (.aload_n 0, 1) := by decide +kernel
theorem dL_law_3039 : decode cL_law 3039 = .ok (.iload 5, 2) := by decide +kernel
theorem dL_law_3041 : decode cL_law 3041 = .ok (.iconst 1, 1) := by decide +kernel
theorem dL_law_3042 : decode cL_law 3042 = .ok (.iadd, 1) := by decide +kernel
theorem dL_law_3043 : decode cL_law 3043 = .ok (.iaload, 1) := by decide +kernel
theorem dL_law_3044 : decode cL_law 3044 = .ok (.aload_n 0, 1) := by decide +kernel
theorem dL_law_3045 : decode cL_law 3045 = .ok (.iload 5, 2) := by decide +kernel
theorem dL_law_3047 : decode cL_law 3047 = .ok (.iconst 2, 1) := by decide +kernel
theorem dL_law_3048 : decode cL_law 3048 = .ok (.iadd, 1) := by decide +kernel
theorem dL_law_3049 : decode cL_law 3049 = .ok (.iaload, 1) := by decide +kernel
theorem dL_law_3050 : decode cL_law 3050 = .ok (.invokevirtual 344, 3) := by decide +kernel
theorem dL_law_3053 : decode cL_law 3053 = .ok (.istore 7, 2) := by decide +kernel
theorem dL_law_3055 : decode cL_law 3055 = .ok (.aload_n 2, 1) := by decide +kernel
theorem dL_law_3056 : decode cL_law 3056 = .ok (.invokevirtual 218, 3) := by decide +kernel
theorem dL_law_3059 : decode cL_law 3059 = .ok (.iload 6, 2) := by decide +kernel
theorem dL_law_3061 : decode cL_law 3061 = .ok (.if_icmp .eq 5, 3) := by decide +kernel
theorem dL_law_3066 : decode cL_law 3066 = .ok (.iload 6, 2) := by decide +kernel
theorem dL_law_3068 : decode cL_law 3068 = .ok (.ifCond .ne 22, 3) := by decide +kernel
theorem dL_law_3090 : decode cL_law 3090 = .ok (.goto 1167, 3) := by decide +kernel
theorem dL_law_3093 : decode cL_law 3093 = .ok (.aload_n 1, 1) := by decide +kernel
theorem dL_law_3094 : decode cL_law 3094 = .ok (.aload_n 0, 1) := by decide +kernel
theorem dL_law_3095 : decode cL_law 3095 = .ok (.iload 5, 2) := by decide +kernel
theorem dL_law_3097 : decode cL_law 3097 = .ok (.iconst 1, 1) := by decide +kernel
theorem dL_law_3098 : decode cL_law 3098 = .ok (.iadd, 1) := by decide +kernel
theorem dL_law_3099 : decode cL_law 3099 = .ok (.iaload, 1) := by decide +kernel
theorem dL_law_3100 : decode cL_law 3100 = .ok (.aload_n 3, 1) := by decide +kernel
theorem dL_law_3101 : decode cL_law 3101 = .ok (.invokestatic 345, 3) := by decide +kernel
theorem dL_law_3104 : decode cL_law 3104 = .ok (.istore 6, 2) := by decide +kernel
theorem dL_law_3106 : decode cL_law 3106 = .ok (.aload_n 2, 1) := by decide +kernel
theorem dL_law_3107 : decode cL_law 3107 = .ok (.aload_n 0, 1) := by decide +kernel
theorem dL_law_3108 : decode cL_law 3108 = .ok (.iload 5, 2) := by decide +kernel
theorem dL_law_3110 : decode cL_law 3110 = .ok (.iconst 1, 1) := by decide +kernel
theorem dL_law_3111 : decode cL_law 3111 = .ok (.iadd, 1) := by decide +kernel
theorem dL_law_3112 : decode cL_law 3112 = .ok (.iaload, 1) := by decide +kernel
theorem dL_law_3113 : decode cL_law 3113 = .ok (.invokevirtual 347, 3) := by decide +kernel
theorem dL_law_3116 : decode cL_law 3116 = .ok (.istore 7, 2) := by decide +kernel
theorem dL_law_3118 : decode cL_law 3118 = .ok (.aload_n 2, 1) := by decide +kernel
theorem dL_law_3119 : decode cL_law 3119 = .ok (.invokevirtual 218, 3) := by decide +kernel
theorem dL_law_3122 : decode cL_law 3122 = .ok (.iload 6, 2) := by decide +kernel
theorem dL_law_3124 : decode cL_law 3124 = .ok (.if_icmp .eq 5, 3) := by decide +kernel
theorem dL_law_3129 : decode cL_law 3129 = .ok (.iload 6, 2) := by decide +kernel
theorem dL_law_3131 : decode cL_law 3131 = .ok (.ifCond .ne 15, 3) := by decide +kernel
theorem dL_law_3146 : decode cL_law 3146 = .ok (.goto 1111, 3) := by decide +kernel
theorem dL_law_3149 : decode cL_law 3149 = .ok (.aload_n 1, 1) := by decide +kernel
theorem dL_law_3150 : decode cL_law 3150 = .ok (.aload_n 0, 1) := by decide +kernel
theorem dL_law_3151 : decode cL_law 3151 = .ok (.iload 5, 2) := by decide +kernel
theorem dL_law_3153 : decode cL_law 3153 = .ok (.iconst 1, 1) := by decide +kernel
theorem dL_law_3154 : decode cL_law 3154 = .ok (.iadd, 1) := by decide +kernel
theorem dL_law_3155 : decode cL_law 3155 = .ok (.iaload, 1) := by decide +kernel
theorem dL_law_3156 : decode cL_law 3156 = .ok (.aload_n 0, 1) := by decide +kernel
theorem dL_law_3157 : decode cL_law 3157 = .ok (.iload 5, 2) := by decide +kernel
theorem dL_law_3159 : decode cL_law 3159 = .ok (.iconst 2, 1) := by decide +kernel
theorem dL_law_3160 : decode cL_law 3160 = .ok (.iadd, 1) := by decide +kernel
theorem dL_law_3161 : decode cL_law 3161 = .ok (.iaload, 1) := by decide +kernel
theorem dL_law_3162 : decode cL_law 3162 = .ok (.aload_n 3, 1) := by decide +kernel
theorem dL_law_3163 : decode cL_law 3163 = .ok (.invokestatic 348, 3) := by decide +kernel
theorem dL_law_3166 : decode cL_law 3166 = .ok (.istore 6, 2) := by decide +kernel
theorem dL_law_3168 : decode cL_law 3168 = .ok (.aload_n 2, 1) := by decide +kernel
theorem dL_law_3169 : decode cL_law 3169 = .ok (.aload_n 0, 1) := by decide +kernel
theorem dL_law_3170 : decode cL_law 3170 = .ok (.iload 5, 2) := by decide +kernel
theorem dL_law_3172 : decode cL_law 3172 = .ok (.iconst 1, 1) := by decide +kernel
theorem dL_law_3173 : decode cL_law 3173 = .ok (.iadd, 1) := by decide +kernel
theorem dL_law_3174 : decode cL_law 3174 = .ok (.iaload, 1) := by decide +kernel
theorem dL_law_3175 : decode cL_law 3175 = .ok (.aload_n 0, 1) := by decide +kernel
theorem dL_law_3176 : decode cL_law 3176 = .ok (.iload 5, 2) := by decide +kernel
theorem dL_law_3178 : decode cL_law 3178 = .ok (.iconst 2, 1) := by decide +kernel
theorem dL_law_3179 : decode cL_law 3179 = .ok (.iadd, 1) := by decide +kernel
theorem dL_law_3180 : decode cL_law 3180 = .ok (.iaload, 1) := by decide +kernel
theorem dL_law_3181 : decode cL_law 3181 = .ok (.invokevirtual 350, 3) := by decide +kernel
theorem dL_law_3184 : decode cL_law 3184 = .ok (.istore 7, 2) := by decide +kernel
theorem dL_law_3186 : decode cL_law 3186 = .ok (.aload_n 2, 1) := by decide +kernel
theorem dL_law_3187 : decode cL_law 3187 = .ok (.invokevirtual 218, 3) := by decide +kernel
theorem dL_law_3190 : decode cL_law 3190 = .ok (.iload 6, 2) := by decide +kernel
theorem dL_law_3192 : decode cL_law 3192 = .ok (.if_icmp .eq 5, 3) := by decide +kernel
theorem dL_law_3197 : decode cL_law 3197 = .ok (.iload 6, 2) := by decide +kernel
theorem dL_law_3199 : decode cL_law 3199 = .ok (.ifCond .ne 15, 3) := by decide +kernel
theorem dL_law_3214 : decode cL_law 3214 = .ok (.goto 1043, 3) := by decide +kernel
theorem dL_law_3217 : decode cL_law 3217 = .ok (.aload_n 1, 1) := by decide +kernel
theorem dL_law_3218 : decode cL_law 3218 = .ok (.aload_n 0, 1) := by decide +kernel
theorem dL_law_3219 : decode cL_law 3219 = .ok (.iload 5, 2) := by decide +kernel
theorem dL_law_3221 : decode cL_law 3221 = .ok (.iconst 1, 1) := by decide +kernel
theorem dL_law_3222 : decode cL_law 3222 = .ok (.iadd, 1) := by decide +kernel
theorem dL_law_3223 : decode cL_law 3223 = .ok (.iaload, 1) := by decide +kernel
theorem dL_law_3224 : decode cL_law 3224 = .ok (.aload_n 3, 1) := by decide +kernel
theorem dL_law_3225 : decode cL_law 3225 = .ok (.invokestatic 351, 3) := by decide +kernel
theorem dL_law_3228 : decode cL_law 3228 = .ok (.istore 6, 2) := by decide +kernel
theorem dL_law_3230 : decode cL_law 3230 = .ok (.aload_n 2, 1) := by decide +kernel
theorem dL_law_3231 : decode cL_law 3231 = .ok (.aload_n 0, 1) := by decide +kernel
theorem dL_law_3232 : decode cL_law 3232 = .ok (.iload 5, 2) := by decide +kernel
theorem dL_law_3234 : decode cL_law 3234 = .ok (.iconst 1, 1) := by decide +kernel
theorem dL_law_3235 : decode cL_law 3235 = .ok (.iadd, 1) := by decide +kernel
theorem dL_law_3236 : decode cL_law 3236 = .ok (.iaload, 1) := by decide +kernel
theorem dL_law_3237 : decode cL_law 3237 = .ok (.invokevirtual 353, 3) := by decide +kernel
theorem dL_law_3240 : decode cL_law 3240 = .ok (.istore 7, 2) := by decide +kernel
theorem dL_law_3242 : decode cL_law 3242 = .ok (.aload_n 2, 1) := by decide +kernel
theorem dL_law_3243 : decode cL_law 3243 = .ok (.invokevirtual 218, 3) := by decide +kernel
theorem dL_law_3246 : decode cL_law 3246 = .ok (.iload 6, 2) := by decide +kernel
theorem dL_law_3248 : decode cL_law 3248 = .ok (.if_icmp .eq 5, 3) := by decide +kernel
theorem dL_law_3253 : decode cL_law 3253 = .ok (.iload 6, 2) := by decide +kernel
theorem dL_law_3255 : decode cL_law 3255 = .ok (.ifCond .ne 15, 3) := by decide +kernel
theorem dL_law_3270 : decode cL_law 3270 = .ok (.goto 987, 3) := by decide +kernel
theorem dL_law_3273 : decode cL_law 3273 = .ok (.aload_n 1, 1) := by decide +kernel
theorem dL_law_3274 : decode cL_law 3274 = .ok (.aload_n 0, 1) := by decide +kernel
theorem dL_law_3275 : decode cL_law 3275 = .ok (.iload 5, 2) := by decide +kernel
theorem dL_law_3277 : decode cL_law 3277 = .ok (.iconst 1, 1) := by decide +kernel
theorem dL_law_3278 : decode cL_law 3278 = .ok (.iadd, 1) := by decide +kernel
theorem dL_law_3279 : decode cL_law 3279 = .ok (.iaload, 1) := by decide +kernel
theorem dL_law_3280 : decode cL_law 3280 = .ok (.aload_n 0, 1) := by decide +kernel
theorem dL_law_3281 : decode cL_law 3281 = .ok (.iload 5, 2) := by decide +kernel
theorem dL_law_3283 : decode cL_law 3283 = .ok (.iconst 2, 1) := by decide +kernel
theorem dL_law_3284 : decode cL_law 3284 = .ok (.iadd, 1) := by decide +kernel
theorem dL_law_3285 : decode cL_law 3285 = .ok (.iaload, 1) := by decide +kernel
theorem dL_law_3286 : decode cL_law 3286 = .ok (.aload_n 0, 1) := by decide +kernel
theorem dL_law_3287 : decode cL_law 3287 = .ok (.iload 5, 2) := by decide +kernel
theorem dL_law_3289 : decode cL_law 3289 = .ok (.iconst 3, 1) := by decide +kernel
theorem dL_law_3290 : decode cL_law 3290 = .ok (.iadd, 1) := by decide +kernel
theorem dL_law_3291 : decode cL_law 3291 = .ok (.iaload, 1) := by decide +kernel
theorem dL_law_3292 : decode cL_law 3292 = .ok (.ifCond .eq 7, 3) := by decide +kernel
theorem dL_law_3299 : decode cL_law 3299 = .ok (.iconst 0, 1) := by decide +kernel
theorem dL_law_3300 : decode cL_law 3300 = .ok (.aload_n 3, 1) := by decide +kernel
theorem dL_law_3301 : decode cL_law 3301 = .ok (.invokestatic 354, 3) := by decide +kernel
theorem dL_law_3304 : decode cL_law 3304 = .ok (.istore 6, 2) := by decide +kernel
theorem dL_law_3306 : decode cL_law 3306 = .ok (.aload_n 2, 1) := by decide +kernel
theorem dL_law_3307 : decode cL_law 3307 = .ok (.aload_n 0, 1) := by decide +kernel
theorem dL_law_3308 : decode cL_law 3308 = .ok (.iload 5, 2) := by decide +kernel
theorem dL_law_3310 : decode cL_law 3310 = .ok (.iconst 1, 1) := by decide +kernel
theorem dL_law_3311 : decode cL_law 3311 = .ok (.iadd, 1) := by decide +kernel
theorem dL_law_3312 : decode cL_law 3312 = .ok (.iaload, 1) := by decide +kernel
theorem dL_law_3313 : decode cL_law 3313 = .ok (.aload_n 0, 1) := by decide +kernel
theorem dL_law_3314 : decode cL_law 3314 = .ok (.iload 5, 2) := by decide +kernel
theorem dL_law_3316 : decode cL_law 3316 = .ok (.iconst 2, 1) := by decide +kernel
theorem dL_law_3317 : decode cL_law 3317 = .ok (.iadd, 1) := by decide +kernel
theorem dL_law_3318 : decode cL_law 3318 = .ok (.iaload, 1) := by decide +kernel
theorem dL_law_3319 : decode cL_law 3319 = .ok (.aload_n 0, 1) := by decide +kernel
theorem dL_law_3320 : decode cL_law 3320 = .ok (.iload 5, 2) := by decide +kernel
theorem dL_law_3322 : decode cL_law 3322 = .ok (.iconst 3, 1) := by decide +kernel
theorem dL_law_3323 : decode cL_law 3323 = .ok (.iadd, 1) := by decide +kernel
theorem dL_law_3324 : decode cL_law 3324 = .ok (.iaload, 1) := by decide +kernel
theorem dL_law_3325 : decode cL_law 3325 = .ok (.ifCond .eq 7, 3) := by decide +kernel
theorem dL_law_3332 : decode cL_law 3332 = .ok (.iconst 0, 1) := by decide +kernel
theorem dL_law_3333 : decode cL_law 3333 = .ok (.invokevirtual 356, 3) := by decide +kernel
theorem dL_law_3336 : decode cL_law 3336 = .ok (.istore 7, 2) := by decide +kernel
theorem dL_law_3338 : decode cL_law 3338 = .ok (.aload_n 2, 1) := by decide +kernel
theorem dL_law_3339 : decode cL_law 3339 = .ok (.invokevirtual 218, 3) := by decide +kernel
theorem dL_law_3342 : decode cL_law 3342 = .ok (.iload 6, 2) := by decide +kernel
theorem dL_law_3344 : decode cL_law 3344 = .ok (.if_icmp .eq 5, 3) := by decide +kernel
theorem dL_law_3349 : decode cL_law 3349 = .ok (.iload 6, 2) := by decide +kernel
theorem dL_law_3351 : decode cL_law 3351 = .ok (.ifCond .ne 15, 3) := by decide +kernel
theorem dL_law_3366 : decode cL_law 3366 = .ok (.goto 891, 3) := by decide +kernel
theorem dL_law_3295 : decode cL_law 3295 = .ok (.iconst 1, 1) := by decide +kernel
theorem dL_law_3296 : decode cL_law 3296 = .ok (.goto 4, 3) := by decide +kernel
theorem dL_law_3328 : decode cL_law 3328 = .ok (.iconst 1, 1) := by decide +kernel
theorem dL_law_3329 : decode cL_law 3329 = .ok (.goto 4, 3) := by decide +kernel
theorem dL_law_3369 : decode cL_law 3369 = .ok (.aload_n 1, 1) := by decide +kernel
theorem dL_law_3370 : decode cL_law 3370 = .ok (.aload_n 0, 1) := by decide +kernel
theorem dL_law_3371 : decode cL_law 3371 = .ok (.iload 5, 2) := by decide +kernel
theorem dL_law_3373 : decode cL_law 3373 = .ok (.iconst 1, 1) := by decide +kernel
theorem dL_law_3374 : decode cL_law 3374 = .ok (.iadd, 1) := by decide +kernel
theorem dL_law_3375 : decode cL_law 3375 = .ok (.iaload, 1) := by decide +kernel
theorem dL_law_3376 : decode cL_law 3376 = .ok (.aload_n 0, 1) := by decide +kernel
theorem dL_law_3377 : decode cL_law 3377 = .ok (.iload 5, 2) := by decide +kernel
theorem dL_law_3379 : decode cL_law 3379 = .ok (.iconst 2, 1) := by decide +kernel
theorem dL_law_3380 : decode cL_law 3380 = .ok (.iadd, 1) := by decide +kernel
theorem dL_law_3381 : decode cL_law 3381 = .ok (.iaload, 1) := by decide +kernel
theorem dL_law_3382 : decode cL_law 3382 = .ok (.aload_n 0, 1) := by decide +kernel
theorem dL_law_3383 : decode cL_law 3383 = .ok (.iload 5, 2) := by decide +kernel
theorem dL_law_3385 : decode cL_law 3385 = .ok (.iconst 3, 1) := by decide +kernel
theorem dL_law_3386 : decode cL_law 3386 = .ok (.iadd, 1) := by decide +kernel
theorem dL_law_3387 : decode cL_law 3387 = .ok (.iaload, 1) := by decide +kernel
theorem dL_law_3388 : decode cL_law 3388 = .ok (.aload_n 3, 1) := by decide +kernel
theorem dL_law_3389 : decode cL_law 3389 = .ok (.invokestatic 357, 3) := by decide +kernel
theorem dL_law_3392 : decode cL_law 3392 = .ok (.istore 6, 2) := by decide +kernel
theorem dL_law_3394 : decode cL_law 3394 = .ok (.aload_n 2, 1) := by decide +kernel
theorem dL_law_3395 : decode cL_law 3395 = .ok (.aload_n 0, 1) := by decide +kernel
theorem dL_law_3396 : decode cL_law 3396 = .ok (.iload 5, 2) := by decide +kernel
theorem dL_law_3398 : decode cL_law 3398 = .ok (.iconst 1, 1) := by decide +kernel
theorem dL_law_3399 : decode cL_law 3399 = .ok (.iadd, 1) := by decide +kernel
theorem dL_law_3400 : decode cL_law 3400 = .ok (.iaload, 1) := by decide +kernel
theorem dL_law_3401 : decode cL_law 3401 = .ok (.aload_n 0, 1) := by decide +kernel
theorem dL_law_3402 : decode cL_law 3402 = .ok (.iload 5, 2) := by decide +kernel
theorem dL_law_3404 : decode cL_law 3404 = .ok (.iconst 2, 1) := by decide +kernel
theorem dL_law_3405 : decode cL_law 3405 = .ok (.iadd, 1) := by decide +kernel
theorem dL_law_3406 : decode cL_law 3406 = .ok (.iaload, 1) := by decide +kernel
theorem dL_law_3407 : decode cL_law 3407 = .ok (.aload_n 0, 1) := by decide +kernel
theorem dL_law_3408 : decode cL_law 3408 = .ok (.iload 5, 2) := by decide +kernel
theorem dL_law_3410 : decode cL_law 3410 = .ok (.iconst 3, 1) := by decide +kernel
theorem dL_law_3411 : decode cL_law 3411 = .ok (.iadd, 1) := by decide +kernel
theorem dL_law_3412 : decode cL_law 3412 = .ok (.iaload, 1) := by decide +kernel
theorem dL_law_3413 : decode cL_law 3413 = .ok (.invokevirtual 359, 3) := by decide +kernel
theorem dL_law_3416 : decode cL_law 3416 = .ok (.istore 7, 2) := by decide +kernel
theorem dL_law_3418 : decode cL_law 3418 = .ok (.aload_n 2, 1) := by decide +kernel
theorem dL_law_3419 : decode cL_law 3419 = .ok (.invokevirtual 218, 3) := by decide +kernel
theorem dL_law_3422 : decode cL_law 3422 = .ok (.iload 6, 2) := by decide +kernel
theorem dL_law_3424 : decode cL_law 3424 = .ok (.if_icmp .eq 5, 3) := by decide +kernel
theorem dL_law_3429 : decode cL_law 3429 = .ok (.iload 6, 2) := by decide +kernel
theorem dL_law_3431 : decode cL_law 3431 = .ok (.ifCond .ne 22, 3) := by decide +kernel
theorem dL_law_3453 : decode cL_law 3453 = .ok (.goto 804, 3) := by decide +kernel
theorem mm_1244 : (.methodLink RL 313 yL_retract : Cond) ∈ zx_G := zx_wi 1244 (by decide +kernel) (by decide +kernel)
theorem mm_1245 : (.static yL_retract : Cond) ∈ zx_G := zx_wi 1245 (by decide +kernel) (by decide +kernel)
theorem mm_1246 : (.codeWith yL_retract cL_retract 4 (some .int) [(0, 9, 12, 21), (0, 9, 15, 45)] : Cond) ∈ zx_G := zx_wi 1246 (by decide +kernel) (by decide +kernel)
theorem mm_1267 : (.methodLink RL 316 yL_hasConcern : Cond) ∈ zx_G := zx_wi 1267 (by decide +kernel) (by decide +kernel)
theorem mm_1268 : (.static yL_hasConcern : Cond) ∈ zx_G := zx_wi 1268 (by decide +kernel) (by decide +kernel)
theorem mm_1269 : (.codeWith yL_hasConcern cL_hasConcern 4 (some .int) [(0, 16, 19, 21)] : Cond) ∈ zx_G := zx_wi 1269 (by decide +kernel) (by decide +kernel)
theorem mm_1274 : (.methodLink RL 319 yL_step : Cond) ∈ zx_G := zx_wi 1274 (by decide +kernel) (by decide +kernel)
theorem mm_1275 : (.static yL_step : Cond) ∈ zx_G := zx_wi 1275 (by decide +kernel) (by decide +kernel)
theorem mm_1276 : (.codeWith yL_step cL_step 6 (some .int) [(0, 12, 15, 21), (0, 12, 19, 13), (0, 12, 23, 45), (0, 12, 27, 15)] : Cond) ∈ zx_G := zx_wi 1276 (by decide +kernel) (by decide +kernel)
theorem mm_1285 : (.methodLink RL 323 yL_claim : Cond) ∈ zx_G := zx_wi 1285 (by decide +kernel) (by decide +kernel)
theorem mm_1286 : (.static yL_claim : Cond) ∈ zx_G := zx_wi 1286 (by decide +kernel) (by decide +kernel)
theorem mm_1287 : (.codeWith yL_claim cL_claim 5 (some .int) [(0, 10, 13, 21), (0, 10, 17, 45)] : Cond) ∈ zx_G := zx_wi 1287 (by decide +kernel) (by decide +kernel)
theorem mm_1292 : (.methodLink RL 326 yL_isRight : Cond) ∈ zx_G := zx_wi 1292 (by decide +kernel) (by decide +kernel)
theorem mm_1293 : (.static yL_isRight : Cond) ∈ zx_G := zx_wi 1293 (by decide +kernel) (by decide +kernel)
theorem mm_1294 : (.codeWith yL_isRight cL_isRight 4 (some .int) [(0, 16, 19, 21)] : Cond) ∈ zx_G := zx_wi 1294 (by decide +kernel) (by decide +kernel)
theorem mm_1299 : (.methodLink RL 329 yL_likeness : Cond) ∈ zx_G := zx_wi 1299 (by decide +kernel) (by decide +kernel)
theorem mm_1300 : (.static yL_likeness : Cond) ∈ zx_G := zx_wi 1300 (by decide +kernel) (by decide +kernel)
theorem mm_1301 : (.codeWith yL_likeness cL_likeness 5 (some .int) [(0, 10, 13, 21)] : Cond) ∈ zx_G := zx_wi 1301 (by decide +kernel) (by decide +kernel)
theorem mm_1306 : (.methodLink RL 332 yL_tellMoney : Cond) ∈ zx_G := zx_wi 1306 (by decide +kernel) (by decide +kernel)
theorem mm_1307 : (.static yL_tellMoney : Cond) ∈ zx_G := zx_wi 1307 (by decide +kernel) (by decide +kernel)
theorem mm_1308 : (.codeWith yL_tellMoney cL_tellMoney 6 (some .int) [(0, 12, 15, 21), (0, 12, 19, 13)] : Cond) ∈ zx_G := zx_wi 1308 (by decide +kernel) (by decide +kernel)
theorem mm_1313 : (.methodLink RL 335 yL_move : Cond) ∈ zx_G := zx_wi 1313 (by decide +kernel) (by decide +kernel)
theorem mm_1314 : (.static yL_move : Cond) ∈ zx_G := zx_wi 1314 (by decide +kernel) (by decide +kernel)
theorem mm_1315 : (.codeWith yL_move cL_move 5 (some .int) [(0, 10, 13, 21), (0, 10, 17, 13)] : Cond) ∈ zx_G := zx_wi 1315 (by decide +kernel) (by decide +kernel)
theorem mm_1320 : (.methodLink RL 338 yL_setRules : Cond) ∈ zx_G := zx_wi 1320 (by decide +kernel) (by decide +kernel)
theorem mm_1321 : (.static yL_setRules : Cond) ∈ zx_G := zx_wi 1321 (by decide +kernel) (by decide +kernel)
theorem mm_1322 : (.codeWith yL_setRules cL_setRules 8 (some .int) [(0, 16, 19, 13)] : Cond) ∈ zx_G := zx_wi 1322 (by decide +kernel) (by decide +kernel)
theorem mm_1327 : (.methodLink RL 342 yL_alarm : Cond) ∈ zx_G := zx_wi 1327 (by decide +kernel) (by decide +kernel)
theorem mm_1328 : (.static yL_alarm : Cond) ∈ zx_G := zx_wi 1328 (by decide +kernel) (by decide +kernel)
theorem mm_1329 : (.codeWith yL_alarm cL_alarm 5 (some .int) [(0, 17, 20, 21), (0, 17, 24, 45)] : Cond) ∈ zx_G := zx_wi 1329 (by decide +kernel) (by decide +kernel)
theorem mm_1334 : (.methodLink RL 345 yL_equalTo : Cond) ∈ zx_G := zx_wi 1334 (by decide +kernel) (by decide +kernel)
theorem mm_1335 : (.static yL_equalTo : Cond) ∈ zx_G := zx_wi 1335 (by decide +kernel) (by decide +kernel)
theorem mm_1336 : (.codeWith yL_equalTo cL_equalTo 4 (some .int) [(0, 9, 12, 21), (0, 9, 15, 64)] : Cond) ∈ zx_G := zx_wi 1336 (by decide +kernel) (by decide +kernel)
theorem mm_1341 : (.methodLink RL 348 yL_complain : Cond) ∈ zx_G := zx_wi 1341 (by decide +kernel) (by decide +kernel)
theorem mm_1342 : (.static yL_complain : Cond) ∈ zx_G := zx_wi 1342 (by decide +kernel) (by decide +kernel)
theorem mm_1343 : (.codeWith yL_complain cL_complain 5 (some .int) [(0, 10, 13, 21), (0, 10, 17, 45)] : Cond) ∈ zx_G := zx_wi 1343 (by decide +kernel) (by decide +kernel)
theorem mm_1348 : (.methodLink RL 351 yL_seat : Cond) ∈ zx_G := zx_wi 1348 (by decide +kernel) (by decide +kernel)
theorem mm_1349 : (.static yL_seat : Cond) ∈ zx_G := zx_wi 1349 (by decide +kernel) (by decide +kernel)
theorem mm_1350 : (.codeWith yL_seat cL_seat 4 (some .int) [(0, 9, 12, 21), (0, 9, 15, 45), (0, 9, 18, 64)] : Cond) ∈ zx_G := zx_wi 1350 (by decide +kernel) (by decide +kernel)
theorem mm_1375 : (.methodLink RL 354 yL_vote : Cond) ∈ zx_G := zx_wi 1375 (by decide +kernel) (by decide +kernel)
theorem mm_1376 : (.static yL_vote : Cond) ∈ zx_G := zx_wi 1376 (by decide +kernel) (by decide +kernel)
theorem mm_1377 : (.codeWith yL_vote cL_vote 6 (some .int) [(0, 12, 15, 21), (0, 12, 19, 45)] : Cond) ∈ zx_G := zx_wi 1377 (by decide +kernel) (by decide +kernel)
theorem mm_1394 : (.methodLink RL 357 yL_sees : Cond) ∈ zx_G := zx_wi 1394 (by decide +kernel) (by decide +kernel)
theorem mm_1395 : (.static yL_sees : Cond) ∈ zx_G := zx_wi 1395 (by decide +kernel) (by decide +kernel)
theorem mm_1396 : (.codeWith yL_sees cL_sees 6 (some .int) [(0, 19, 22, 21)] : Cond) ∈ zx_G := zx_wi 1396 (by decide +kernel) (by decide +kernel)
theorem mm_1742 : (.methodLink RL 334 yX15_tellMoney : Cond) ∈ zx_G := zx_wi 1742 (by decide +kernel) (by decide +kernel)
theorem mm_1743 : (.instanceMethod yX15_tellMoney : Cond) ∈ zx_G := zx_wi 1743 (by decide +kernel) (by decide +kernel)
theorem mm_1744 : (.selects RX15 yX15_tellMoney yX15_tellMoney : Cond) ∈ zx_G := zx_wi 1744 (by decide +kernel) (by decide +kernel)
theorem mm_1745 : (.code yX15_tellMoney cX15_tellMoney 4 (some .int) : Cond) ∈ zx_G := zx_wi 1745 (by decide +kernel) (by decide +kernel)
theorem mm_1746 : (.methodLink RL 337 yX15_move : Cond) ∈ zx_G := zx_wi 1746 (by decide +kernel) (by decide +kernel)
theorem mm_1747 : (.instanceMethod yX15_move : Cond) ∈ zx_G := zx_wi 1747 (by decide +kernel) (by decide +kernel)
theorem mm_1748 : (.selects RX15 yX15_move yX15_move : Cond) ∈ zx_G := zx_wi 1748 (by decide +kernel) (by decide +kernel)
theorem mm_1749 : (.code yX15_move cX15_move 5 (some .int) : Cond) ∈ zx_G := zx_wi 1749 (by decide +kernel) (by decide +kernel)
theorem mm_1779 : (.methodLink RL 341 yX15_setRules : Cond) ∈ zx_G := zx_wi 1779 (by decide +kernel) (by decide +kernel)
theorem mm_1780 : (.instanceMethod yX15_setRules : Cond) ∈ zx_G := zx_wi 1780 (by decide +kernel) (by decide +kernel)
theorem mm_1781 : (.selects RX15 yX15_setRules yX15_setRules : Cond) ∈ zx_G := zx_wi 1781 (by decide +kernel) (by decide +kernel)
theorem mm_1782 : (.code yX15_setRules cX15_setRules 7 (some .char) : Cond) ∈ zx_G := zx_wi 1782 (by decide +kernel) (by decide +kernel)
theorem mm_2214 : (.methodLink RL 344 yX15_alarm : Cond) ∈ zx_G := zx_wi 2214 (by decide +kernel) (by decide +kernel)
theorem mm_2215 : (.instanceMethod yX15_alarm : Cond) ∈ zx_G := zx_wi 2215 (by decide +kernel) (by decide +kernel)
theorem mm_2216 : (.selects RX15 yX15_alarm yX15_alarm : Cond) ∈ zx_G := zx_wi 2216 (by decide +kernel) (by decide +kernel)
theorem mm_2217 : (.code yX15_alarm cX15_alarm 5 (some .boolean) : Cond) ∈ zx_G := zx_wi 2217 (by decide +kernel) (by decide +kernel)
theorem mm_2235 : (.methodLink RL 331 yX15_likeness : Cond) ∈ zx_G := zx_wi 2235 (by decide +kernel) (by decide +kernel)
theorem mm_2236 : (.instanceMethod yX15_likeness : Cond) ∈ zx_G := zx_wi 2236 (by decide +kernel) (by decide +kernel)
theorem mm_2237 : (.selects RX15 yX15_likeness yX15_likeness : Cond) ∈ zx_G := zx_wi 2237 (by decide +kernel) (by decide +kernel)
theorem mm_2238 : (.code yX15_likeness cX15_likeness 3 (some .int) : Cond) ∈ zx_G := zx_wi 2238 (by decide +kernel) (by decide +kernel)
theorem mm_2243 : (.methodLink RL 347 yX15_equalTo : Cond) ∈ zx_G := zx_wi 2243 (by decide +kernel) (by decide +kernel)
theorem mm_2244 : (.instanceMethod yX15_equalTo : Cond) ∈ zx_G := zx_wi 2244 (by decide +kernel) (by decide +kernel)
theorem mm_2245 : (.selects RX15 yX15_equalTo yX15_equalTo : Cond) ∈ zx_G := zx_wi 2245 (by decide +kernel) (by decide +kernel)
theorem mm_2246 : (.code yX15_equalTo cX15_equalTo 3 (some .int) : Cond) ∈ zx_G := zx_wi 2246 (by decide +kernel) (by decide +kernel)
theorem mm_2273 : (.methodLink RL 350 yX15_complain : Cond) ∈ zx_G := zx_wi 2273 (by decide +kernel) (by decide +kernel)
theorem mm_2274 : (.instanceMethod yX15_complain : Cond) ∈ zx_G := zx_wi 2274 (by decide +kernel) (by decide +kernel)
theorem mm_2275 : (.selects RX15 yX15_complain yX15_complain : Cond) ∈ zx_G := zx_wi 2275 (by decide +kernel) (by decide +kernel)
theorem mm_2276 : (.code yX15_complain cX15_complain 4 (some .int) : Cond) ∈ zx_G := zx_wi 2276 (by decide +kernel) (by decide +kernel)
theorem mm_2277 : (.methodLink RL 353 yX15_seat : Cond) ∈ zx_G := zx_wi 2277 (by decide +kernel) (by decide +kernel)
theorem mm_2278 : (.instanceMethod yX15_seat : Cond) ∈ zx_G := zx_wi 2278 (by decide +kernel) (by decide +kernel)
theorem mm_2279 : (.selects RX15 yX15_seat yX15_seat : Cond) ∈ zx_G := zx_wi 2279 (by decide +kernel) (by decide +kernel)
theorem mm_2280 : (.code yX15_seat cX15_seat 6 (some .int) : Cond) ∈ zx_G := zx_wi 2280 (by decide +kernel) (by decide +kernel)
theorem mm_2285 : (.methodLink RL 356 yX15_vote : Cond) ∈ zx_G := zx_wi 2285 (by decide +kernel) (by decide +kernel)
theorem mm_2286 : (.instanceMethod yX15_vote : Cond) ∈ zx_G := zx_wi 2286 (by decide +kernel) (by decide +kernel)
theorem mm_2287 : (.selects RX15 yX15_vote yX15_vote : Cond) ∈ zx_G := zx_wi 2287 (by decide +kernel) (by decide +kernel)
theorem mm_2288 : (.code yX15_vote cX15_vote 5 (some .char) : Cond) ∈ zx_G := zx_wi 2288 (by decide +kernel) (by decide +kernel)
theorem mm_2329 : (.methodLink RL 315 yX15_retract : Cond) ∈ zx_G := zx_wi 2329 (by decide +kernel) (by decide +kernel)
theorem mm_2330 : (.instanceMethod yX15_retract : Cond) ∈ zx_G := zx_wi 2330 (by decide +kernel) (by decide +kernel)
theorem mm_2331 : (.selects RX15 yX15_retract yX15_retract : Cond) ∈ zx_G := zx_wi 2331 (by decide +kernel) (by decide +kernel)
theorem mm_2332 : (.code yX15_retract cX15_retract 2 (some .int) : Cond) ∈ zx_G := zx_wi 2332 (by decide +kernel) (by decide +kernel)
theorem mm_2333 : (.methodLink RL 318 yX15_hasConcern : Cond) ∈ zx_G := zx_wi 2333 (by decide +kernel) (by decide +kernel)
theorem mm_2334 : (.instanceMethod yX15_hasConcern : Cond) ∈ zx_G := zx_wi 2334 (by decide +kernel) (by decide +kernel)
theorem mm_2335 : (.selects RX15 yX15_hasConcern yX15_hasConcern : Cond) ∈ zx_G := zx_wi 2335 (by decide +kernel) (by decide +kernel)
theorem mm_2336 : (.code yX15_hasConcern cX15_hasConcern 2 (some .boolean) : Cond) ∈ zx_G := zx_wi 2336 (by decide +kernel) (by decide +kernel)
theorem mm_2337 : (.methodLink RL 322 yX15_step : Cond) ∈ zx_G := zx_wi 2337 (by decide +kernel) (by decide +kernel)
theorem mm_2338 : (.instanceMethod yX15_step : Cond) ∈ zx_G := zx_wi 2338 (by decide +kernel) (by decide +kernel)
theorem mm_2339 : (.selects RX15 yX15_step yX15_step : Cond) ∈ zx_G := zx_wi 2339 (by decide +kernel) (by decide +kernel)
theorem mm_2340 : (.code yX15_step cX15_step 5 (some .int) : Cond) ∈ zx_G := zx_wi 2340 (by decide +kernel) (by decide +kernel)
theorem mm_2341 : (.methodLink RL 325 yX15_claim : Cond) ∈ zx_G := zx_wi 2341 (by decide +kernel) (by decide +kernel)
theorem mm_2342 : (.instanceMethod yX15_claim : Cond) ∈ zx_G := zx_wi 2342 (by decide +kernel) (by decide +kernel)
theorem mm_2343 : (.selects RX15 yX15_claim yX15_claim : Cond) ∈ zx_G := zx_wi 2343 (by decide +kernel) (by decide +kernel)
theorem mm_2344 : (.code yX15_claim cX15_claim 5 (some .int) : Cond) ∈ zx_G := zx_wi 2344 (by decide +kernel) (by decide +kernel)
theorem mm_2345 : (.methodLink RL 328 yX15_isRight : Cond) ∈ zx_G := zx_wi 2345 (by decide +kernel) (by decide +kernel)
theorem mm_2346 : (.instanceMethod yX15_isRight : Cond) ∈ zx_G := zx_wi 2346 (by decide +kernel) (by decide +kernel)
theorem mm_2347 : (.selects RX15 yX15_isRight yX15_isRight : Cond) ∈ zx_G := zx_wi 2347 (by decide +kernel) (by decide +kernel)
theorem mm_2348 : (.code yX15_isRight cX15_isRight 2 (some .boolean) : Cond) ∈ zx_G := zx_wi 2348 (by decide +kernel) (by decide +kernel)
theorem mm_2349 : (.methodLink RL 359 yX15_sees : Cond) ∈ zx_G := zx_wi 2349 (by decide +kernel) (by decide +kernel)
theorem mm_2350 : (.instanceMethod yX15_sees : Cond) ∈ zx_G := zx_wi 2350 (by decide +kernel) (by decide +kernel)
theorem mm_2351 : (.selects RX15 yX15_sees yX15_sees : Cond) ∈ zx_G := zx_wi 2351 (by decide +kernel) (by decide +kernel)
theorem mm_2352 : (.code yX15_sees cX15_sees 9 (some .boolean) : Cond) ∈ zx_G := zx_wi 2352 (by decide +kernel) (by decide +kernel)
set_option maxHeartbeats 4000000 in
set_option maxRecDepth 100000 in
theorem law_case_30 {p : Program} {l : Launch} {e : Env} {s : State} {m : MethodId} {below : List Frame} {meth : Method} {c : Code} {D : va_G} {cy : Nat → ClassId} {ed b : Nat} {xs : Nat → Int32} {A : Nat → Prop} {Q : State → Prop} (C0 : zx_LW p l s m c D cy ed b xs A)
    {h pe ne pa ro a1 a2 a3 a4 a5 a6 a7 a8 a9 n1 n2 n3 n4 n5 m0 mp b1 b2 b3 b4 b5 mq oa od : Nat} {f2 f3 f4 f5 g2 g3 g4 g5 : Nat → Int32} (hf5 : ∀ j, j < 8 → f5 j = 115) (hg5 : ∀ j, j < 8 → g5 j = 115) {H : Heap} {locs : List Loc} {ls : Array Slot}
    (hP : va_P D vwCl [(h, .inr (13, [.ref pe, .ref ne, .ref pa, .ref ro, .int 0])), (pe, .inr (9, [.int 0, .ref a1, .ref a2, .ref a3, .ref a4, .ref a5, .ref a6, .ref a7, .ref a8, .ref a9])), (a1, .inl (cy 0, 20, .inl (fun _ => 0))), (a2, .inl (cy 0, 20, .inl (fun _ => 0))), (ne, .inr (6, [.ref n1, .ref n2, .ref n3, .ref n4, .ref n5])), (n1, .inl (cy 0, 8, .inl (fun _ => 0))), (n2, .inl (cy 0, 8, .inl f2)), (n3, .inl (cy 0, 8, .inl f3)), (n4, .inl (cy 0, 8, .inl f4)), (n5, .inl (cy 1, 8, .inl f5)), (pa, .inr (4, [.int 0, .ref ed, .int 0])), (ro, .inl (cy 0, 20, .inl (fun _ => 0))), (m0, .inr (20, [.int 0, .ref mp, .int 0, .ref b1, .ref b2, .ref b3, .ref b4, .ref b5, .ref mq])), (b1, .inl (cy 0, 8, .inl (fun _ => 0))), (b2, .inl (cy 0, 8, .inl g2)), (b3, .inl (cy 0, 8, .inl g3)), (b4, .inl (cy 0, 8, .inl g4)), (b5, .inl (cy 1, 8, .inl g5)), (mp, .inr (4, [.int 0, .ref ed, .int 0])), (mq, .inr (4, [.int 0, .ref ed, .int 0])), (oa, .inl (cy 3, 1, .inr (.inl (fun _ => 0)))), (od, .inl (cy 4, 1, .inr (.inr (.inr (.inl (fun _ => 0))))))] H) (hD : va_D A [(h, .inr (13, [.ref pe, .ref ne, .ref pa, .ref ro, .int 0])), (pe, .inr (9, [.int 0, .ref a1, .ref a2, .ref a3, .ref a4, .ref a5, .ref a6, .ref a7, .ref a8, .ref a9])), (a1, .inl (cy 0, 20, .inl (fun _ => 0))), (a2, .inl (cy 0, 20, .inl (fun _ => 0))), (ne, .inr (6, [.ref n1, .ref n2, .ref n3, .ref n4, .ref n5])), (n1, .inl (cy 0, 8, .inl (fun _ => 0))), (n2, .inl (cy 0, 8, .inl f2)), (n3, .inl (cy 0, 8, .inl f3)), (n4, .inl (cy 0, 8, .inl f4)), (n5, .inl (cy 1, 8, .inl f5)), (pa, .inr (4, [.int 0, .ref ed, .int 0])), (ro, .inl (cy 0, 20, .inl (fun _ => 0))), (m0, .inr (20, [.int 0, .ref mp, .int 0, .ref b1, .ref b2, .ref b3, .ref b4, .ref b5, .ref mq])), (b1, .inl (cy 0, 8, .inl (fun _ => 0))), (b2, .inl (cy 0, 8, .inl g2)), (b3, .inl (cy 0, 8, .inl g3)), (b4, .inl (cy 0, 8, .inl g4)), (b5, .inl (cy 1, 8, .inl g5)), (mp, .inr (4, [.int 0, .ref ed, .int 0])), (mq, .inr (4, [.int 0, .ref ed, .int 0])), (oa, .inl (cy 3, 1, .inr (.inl (fun _ => 0)))), (od, .inl (cy 4, 1, .inr (.inr (.inr (.inl (fun _ => 0))))))]) (hS : va_S A s.heap H locs) (hl : lv_has ls 9 [(5, .int 0), (4, .ref od), (3, .ref oa), (2, .ref m0), (1, .ref h), (0, .ref b)])
    (hend : ∀ (H : Heap) (locs : List Loc) (ls : Array Slot), va_S A s.heap H locs → lv_has ls 9 [(0, .ref b), (5, .int 0)] → W p l e room_1 s m #[Value.ref b] below meth c H locs 60 1200 Q (F0 m 4257 ls [])) :
    W p l e room_1 s m #[Value.ref b] below meth c H locs 29 880 Q (F0 m 2364 ls []) := by
  obtain ⟨hx, hb, hml, hst, hown, hts, hX, hbl, hbA, hA, hK, hZ, hN⟩ := C0
  refine lv_aload_n hx hb dL_law_2364 rfl (lv_at hl 4 rfl) ?_
  refine lv_aload_n hx hb dL_law_2365 rfl (lv_at hl 5 rfl) ?_
  refine lv_iload hx hb dL_law_2366 (lv_at hl 0 rfl) ?_
  refine lv_iconst (v := 1) hx hb dL_law_2368 (by decide) ?_
  refine lv_iadd hx hb dL_law_2369 ?_
  refine lv_topi (fun y9 ey9 => ?_)
  obtain rfl : y9 = 1 := by rw [ey9] <;> decide
  refine va_sld hx hb hX hbl hbA hS (zx_bn (by decide)) dL_law_2370 ?_
  refine lv_aload_n hx hb dL_law_2371 rfl (lv_at hl 2 rfl) ?_
  have hPc := hP.sub (ws' := [(h, .inr (13, [.ref pe, .ref ne, .ref pa, .ref ro, .int 0])), (pa, .inr (4, [.int 0, .ref ed, .int 0])), (oa, .inl (cy 3, 1, .inr (.inl (fun _ => 0))))]) [0, 10, 20] rfl
  have hDc := hD.sub (ws' := [(h, .inr (13, [.ref pe, .ref ne, .ref pa, .ref ro, .int 0])), (pa, .inr (4, [.int 0, .ref ed, .int 0])), (oa, .inl (cy 3, 1, .inr (.inl (fun _ => 0))))]) [0, 10, 20] (by decide) rfl
  have hFc := va_free (wc := [(h, .inr (13, [.ref pe, .ref ne, .ref pa, .ref ro, .int 0])), (pa, .inr (4, [.int 0, .ref ed, .int 0])), (oa, .inl (cy 3, 1, .inr (.inl (fun _ => 0))))]) hD hS hA [0, 10, 20] rfl
  refine vx_calli (vx_runSX (As := [.ref h, .int (xs (1 : Int32).toNatClampNeg), .ref oa]) (rest := []) ⟨hx, hb, hml, hown, hts⟩ (c_L_retract l hst D cy ed H.size h pe ne pa ro 0 0 ed oa (fun _ => 0) (xs (1 : Int32).toNatClampNeg)) (vx_cwSW 3 hts (zx_GS mm_1244 mm_1245 mm_70 mm_1246) rfl rfl rfl (by decide +kernel) ⟨(Nat.le_of_ble_eq_true rfl), (Nat.le_of_ble_eq_true rfl)⟩) ⟨zx_blind, zx_give hPc hK hDc hS hFc hZ hN⟩ rfl rfl hl.1 rfl (lv_room (Nat.le_of_ble_eq_true rfl)) dL_law_2372 ⟨(Nat.le_of_ble_eq_true rfl), (Nat.le_of_ble_eq_true rfl)⟩) hS (fun q _ h => hFc q h) hFc (fun q _ h => hFc q h) (fun E9 ce9 q9 _ t H locs ht hvm _ hBX hz1 hk1 hS hce hcv hcl => ?_) (fun r9 u t H locs ht hvm hw hB hz1 hk1 hS => ?_)
  · exact hBX.elim
  ·
    obtain rfl : r9 = 1 := hw
    obtain ⟨hP, hD⟩ := zx_join (wr := [(pe, .inr (9, [.int 0, .ref a1, .ref a2, .ref a3, .ref a4, .ref a5, .ref a6, .ref a7, .ref a8, .ref a9])), (a1, .inl (cy 0, 20, .inl (fun _ => 0))), (a2, .inl (cy 0, 20, .inl (fun _ => 0))), (ne, .inr (6, [.ref n1, .ref n2, .ref n3, .ref n4, .ref n5])), (n1, .inl (cy 0, 8, .inl (fun _ => 0))), (n2, .inl (cy 0, 8, .inl f2)), (n3, .inl (cy 0, 8, .inl f3)), (n4, .inl (cy 0, 8, .inl f4)), (n5, .inl (cy 1, 8, .inl f5)), (ro, .inl (cy 0, 20, .inl (fun _ => 0))), (m0, .inr (20, [.int 0, .ref mp, .int 0, .ref b1, .ref b2, .ref b3, .ref b4, .ref b5, .ref mq])), (b1, .inl (cy 0, 8, .inl (fun _ => 0))), (b2, .inl (cy 0, 8, .inl g2)), (b3, .inl (cy 0, 8, .inl g3)), (b4, .inl (cy 0, 8, .inl g4)), (b5, .inl (cy 1, 8, .inl g5)), (mp, .inr (4, [.int 0, .ref ed, .int 0])), (mq, .inr (4, [.int 0, .ref ed, .int 0])), (od, .inl (cy 4, 1, .inr (.inr (.inr (.inl (fun _ => 0))))))]) (w1 := []) [0, 10, 20] [1, 2, 3, 4, 5, 6, 7, 8, 9, 11, 12, 13, 14, 15, 16, 17, 18, 19, 21] rfl rfl (by decide) (by decide) hP hD hk1 hFc hB ht
    have hP : va_P D vwCl [(pe, .inr (9, [.int 0, .ref a1, .ref a2, .ref a3, .ref a4, .ref a5, .ref a6, .ref a7, .ref a8, .ref a9])), (a1, .inl (cy 0, 20, .inl (fun _ => 0))), (a2, .inl (cy 0, 20, .inl (fun _ => 0))), (ne, .inr (6, [.ref n1, .ref n2, .ref n3, .ref n4, .ref n5])), (n1, .inl (cy 0, 8, .inl (fun _ => 0))), (n2, .inl (cy 0, 8, .inl f2)), (n3, .inl (cy 0, 8, .inl f3)), (n4, .inl (cy 0, 8, .inl f4)), (n5, .inl (cy 1, 8, .inl f5)), (ro, .inl (cy 0, 20, .inl (fun _ => 0))), (m0, .inr (20, [.int 0, .ref mp, .int 0, .ref b1, .ref b2, .ref b3, .ref b4, .ref b5, .ref mq])), (b1, .inl (cy 0, 8, .inl (fun _ => 0))), (b2, .inl (cy 0, 8, .inl g2)), (b3, .inl (cy 0, 8, .inl g3)), (b4, .inl (cy 0, 8, .inl g4)), (b5, .inl (cy 1, 8, .inl g5)), (mp, .inr (4, [.int 0, .ref ed, .int 0])), (mq, .inr (4, [.int 0, .ref ed, .int 0])), (od, .inl (cy 4, 1, .inr (.inr (.inr (.inl (fun _ => 0))))))] H := hP
    have hD : va_D A [(pe, .inr (9, [.int 0, .ref a1, .ref a2, .ref a3, .ref a4, .ref a5, .ref a6, .ref a7, .ref a8, .ref a9])), (a1, .inl (cy 0, 20, .inl (fun _ => 0))), (a2, .inl (cy 0, 20, .inl (fun _ => 0))), (ne, .inr (6, [.ref n1, .ref n2, .ref n3, .ref n4, .ref n5])), (n1, .inl (cy 0, 8, .inl (fun _ => 0))), (n2, .inl (cy 0, 8, .inl f2)), (n3, .inl (cy 0, 8, .inl f3)), (n4, .inl (cy 0, 8, .inl f4)), (n5, .inl (cy 1, 8, .inl f5)), (ro, .inl (cy 0, 20, .inl (fun _ => 0))), (m0, .inr (20, [.int 0, .ref mp, .int 0, .ref b1, .ref b2, .ref b3, .ref b4, .ref b5, .ref mq])), (b1, .inl (cy 0, 8, .inl (fun _ => 0))), (b2, .inl (cy 0, 8, .inl g2)), (b3, .inl (cy 0, 8, .inl g3)), (b4, .inl (cy 0, 8, .inl g4)), (b5, .inl (cy 1, 8, .inl g5)), (mp, .inr (4, [.int 0, .ref ed, .int 0])), (mq, .inr (4, [.int 0, .ref ed, .int 0])), (od, .inl (cy 4, 1, .inr (.inr (.inr (.inl (fun _ => 0))))))] := hD
    refine W.widen (k := 30) (n := 886) (Nat.le_of_ble_eq_true rfl) (Nat.le_of_ble_eq_true rfl) ?_
    refine lv_istore (lv' := [(6, .int 1), (5, .int 0), (4, .ref od), (3, .ref oa), (2, .ref m0), (1, .ref h), (0, .ref b)]) hx hb dL_law_2375 hl (by decide) rfl (fun ls hl => ?_)
    refine lv_aload_n hx hb dL_law_2377 rfl (lv_at hl 4 rfl) ?_
    refine lv_aload_n hx hb dL_law_2378 rfl (lv_at hl 6 rfl) ?_
    refine lv_iload hx hb dL_law_2379 (lv_at hl 1 rfl) ?_
    refine lv_iconst (v := 1) hx hb dL_law_2381 (by decide) ?_
    refine lv_iadd hx hb dL_law_2382 ?_
    refine lv_topi (fun y9 ey9 => ?_)
    obtain rfl : y9 = 1 := by rw [ey9] <;> decide
    refine va_sld hx hb hX hbl hbA hS (zx_bn (by decide)) dL_law_2383 ?_
    have hPc := hP.sub (ws' := [(m0, .inr (20, [.int 0, .ref mp, .int 0, .ref b1, .ref b2, .ref b3, .ref b4, .ref b5, .ref mq])), (mp, .inr (4, [.int 0, .ref ed, .int 0])), (mq, .inr (4, [.int 0, .ref ed, .int 0]))]) [10, 16, 17] rfl
    have hDc := hD.sub (ws' := [(m0, .inr (20, [.int 0, .ref mp, .int 0, .ref b1, .ref b2, .ref b3, .ref b4, .ref b5, .ref mq])), (mp, .inr (4, [.int 0, .ref ed, .int 0])), (mq, .inr (4, [.int 0, .ref ed, .int 0]))]) [10, 16, 17] (by decide) rfl
    have hFc := va_free (wc := [(m0, .inr (20, [.int 0, .ref mp, .int 0, .ref b1, .ref b2, .ref b3, .ref b4, .ref b5, .ref mq])), (mp, .inr (4, [.int 0, .ref ed, .int 0])), (mq, .inr (4, [.int 0, .ref ed, .int 0]))]) hD hS hA [10, 16, 17] rfl
    refine va_calli (va_runV (As := [.int (xs (1 : Int32).toNatClampNeg)]) (rest := []) ⟨hx, hb, hml, hown, hts⟩ (c_X15_retract l hst D cy ed H.size m0 mp mq b1 b2 b3 b4 b5 0 0 0 ed 0 ed (xs (1 : Int32).toNatClampNeg)) (cwV 1 hts (zx_GV mm_2329 mm_2330 mm_2331 mm_78 mm_2332) rfl rfl rfl (by decide +kernel) ⟨(Nat.le_of_ble_eq_true rfl), (Nat.le_of_ble_eq_true rfl)⟩) ⟨zx_blind, va_recv hK hPc (ci := 20) (q0 := 0) rfl rfl, zx_give hPc hK hDc hS hFc hZ hN⟩ rfl rfl hl.1 rfl (lv_room (Nat.le_of_ble_eq_true rfl)) dL_law_2384 ⟨(Nat.le_of_ble_eq_true rfl), (Nat.le_of_ble_eq_true rfl)⟩) hS (fun q _ h => hFc q h) hFc (fun r9 u t H1 locs ht hvm hw hB hz1 hk1 hS => ?_)
    obtain ⟨r_700, rfl⟩ : ∃ z9, z9 = r9 := ⟨_, rfl⟩
    have h_701 := hw
    obtain ⟨hP, hD⟩ := zx_join (wr := [(pe, .inr (9, [.int 0, .ref a1, .ref a2, .ref a3, .ref a4, .ref a5, .ref a6, .ref a7, .ref a8, .ref a9])), (a1, .inl (cy 0, 20, .inl (fun _ => 0))), (a2, .inl (cy 0, 20, .inl (fun _ => 0))), (ne, .inr (6, [.ref n1, .ref n2, .ref n3, .ref n4, .ref n5])), (n1, .inl (cy 0, 8, .inl (fun _ => 0))), (n2, .inl (cy 0, 8, .inl f2)), (n3, .inl (cy 0, 8, .inl f3)), (n4, .inl (cy 0, 8, .inl f4)), (n5, .inl (cy 1, 8, .inl f5)), (ro, .inl (cy 0, 20, .inl (fun _ => 0))), (b1, .inl (cy 0, 8, .inl (fun _ => 0))), (b2, .inl (cy 0, 8, .inl g2)), (b3, .inl (cy 0, 8, .inl g3)), (b4, .inl (cy 0, 8, .inl g4)), (b5, .inl (cy 1, 8, .inl g5)), (od, .inl (cy 4, 1, .inr (.inr (.inr (.inl (fun _ => 0))))))]) (w1 := [(m0, .inr (20, [.int 1, .ref mp, .int 0, .ref b1, .ref b2, .ref b3, .ref b4, .ref b5, .ref mq]))]) [10, 16, 17] [0, 1, 2, 3, 4, 5, 6, 7, 8, 9, 11, 12, 13, 14, 15, 18] rfl rfl (by decide) (by decide) hP hD hk1 hFc hB ht
    generalize H1 = H at hP hS ⊢
    have hP : va_P D vwCl [(pe, .inr (9, [.int 0, .ref a1, .ref a2, .ref a3, .ref a4, .ref a5, .ref a6, .ref a7, .ref a8, .ref a9])), (a1, .inl (cy 0, 20, .inl (fun _ => 0))), (a2, .inl (cy 0, 20, .inl (fun _ => 0))), (ne, .inr (6, [.ref n1, .ref n2, .ref n3, .ref n4, .ref n5])), (n1, .inl (cy 0, 8, .inl (fun _ => 0))), (n2, .inl (cy 0, 8, .inl f2)), (n3, .inl (cy 0, 8, .inl f3)), (n4, .inl (cy 0, 8, .inl f4)), (n5, .inl (cy 1, 8, .inl f5)), (ro, .inl (cy 0, 20, .inl (fun _ => 0))), (b1, .inl (cy 0, 8, .inl (fun _ => 0))), (b2, .inl (cy 0, 8, .inl g2)), (b3, .inl (cy 0, 8, .inl g3)), (b4, .inl (cy 0, 8, .inl g4)), (b5, .inl (cy 1, 8, .inl g5)), (od, .inl (cy 4, 1, .inr (.inr (.inr (.inl (fun _ => 0)))))), (m0, .inr (20, [.int 1, .ref mp, .int 0, .ref b1, .ref b2, .ref b3, .ref b4, .ref b5, .ref mq]))] H := hP
    have hD : va_D A [(pe, .inr (9, [.int 0, .ref a1, .ref a2, .ref a3, .ref a4, .ref a5, .ref a6, .ref a7, .ref a8, .ref a9])), (a1, .inl (cy 0, 20, .inl (fun _ => 0))), (a2, .inl (cy 0, 20, .inl (fun _ => 0))), (ne, .inr (6, [.ref n1, .ref n2, .ref n3, .ref n4, .ref n5])), (n1, .inl (cy 0, 8, .inl (fun _ => 0))), (n2, .inl (cy 0, 8, .inl f2)), (n3, .inl (cy 0, 8, .inl f3)), (n4, .inl (cy 0, 8, .inl f4)), (n5, .inl (cy 1, 8, .inl f5)), (ro, .inl (cy 0, 20, .inl (fun _ => 0))), (b1, .inl (cy 0, 8, .inl (fun _ => 0))), (b2, .inl (cy 0, 8, .inl g2)), (b3, .inl (cy 0, 8, .inl g3)), (b4, .inl (cy 0, 8, .inl g4)), (b5, .inl (cy 1, 8, .inl g5)), (od, .inl (cy 4, 1, .inr (.inr (.inr (.inl (fun _ => 0)))))), (m0, .inr (20, [.int 1, .ref mp, .int 0, .ref b1, .ref b2, .ref b3, .ref b4, .ref b5, .ref mq]))] := hD
    refine W.widen (k := 30) (n := 886) (Nat.le_of_ble_eq_true rfl) (Nat.le_of_ble_eq_true rfl) ?_
    refine lv_istore (lv' := [(7, .int r_700), (6, .int 1), (5, .int 0), (4, .ref od), (3, .ref oa), (2, .ref m0), (1, .ref h), (0, .ref b)]) hx hb dL_law_2387 hl (by decide) rfl (fun ls hl => ?_)
    refine lv_aload_n hx hb dL_law_2389 rfl (lv_at hl 5 rfl) ?_
    have hPc := hP.sub (ws' := [(m0, .inr (20, [.int 1, .ref mp, .int 0, .ref b1, .ref b2, .ref b3, .ref b4, .ref b5, .ref mq]))]) [16] rfl
    have hDc := hD.sub (ws' := [(m0, .inr (20, [.int 1, .ref mp, .int 0, .ref b1, .ref b2, .ref b3, .ref b4, .ref b5, .ref mq]))]) [16] (by decide) rfl
    have hFc := va_free (wc := [(m0, .inr (20, [.int 1, .ref mp, .int 0, .ref b1, .ref b2, .ref b3, .ref b4, .ref b5, .ref mq]))]) hD hS hA [16] rfl
    refine va_calli (va_runV (As := []) (rest := []) ⟨hx, hb, hml, hown, hts⟩ (c_X15_thrown l hst D cy ed H.size m0 mp mq b1 b2 b3 b4 b5 1 0) (cwV 0 hts (zx_GV mm_1599 mm_1600 mm_1601 mm_78 mm_1602) rfl rfl rfl (by decide +kernel) ⟨(Nat.le_of_ble_eq_true rfl), (Nat.le_of_ble_eq_true rfl)⟩) ⟨zx_blind, va_recv hK hPc (ci := 20) (q0 := 0) rfl rfl, zx_give hPc hK hDc hS hFc hZ hN⟩ rfl rfl hl.1 rfl (lv_room (Nat.le_of_ble_eq_true rfl)) dL_law_2390 ⟨(Nat.le_of_ble_eq_true rfl), (Nat.le_of_ble_eq_true rfl)⟩) hS (fun q _ h => hFc q h) hFc (fun r9 u t H1 locs ht hvm hw hB hz1 hk1 hS => ?_)
    obtain rfl : r9 = 1 := hw
    obtain ⟨hP, hD⟩ := zx_join (wr := [(pe, .inr (9, [.int 0, .ref a1, .ref a2, .ref a3, .ref a4, .ref a5, .ref a6, .ref a7, .ref a8, .ref a9])), (a1, .inl (cy 0, 20, .inl (fun _ => 0))), (a2, .inl (cy 0, 20, .inl (fun _ => 0))), (ne, .inr (6, [.ref n1, .ref n2, .ref n3, .ref n4, .ref n5])), (n1, .inl (cy 0, 8, .inl (fun _ => 0))), (n2, .inl (cy 0, 8, .inl f2)), (n3, .inl (cy 0, 8, .inl f3)), (n4, .inl (cy 0, 8, .inl f4)), (n5, .inl (cy 1, 8, .inl f5)), (ro, .inl (cy 0, 20, .inl (fun _ => 0))), (b1, .inl (cy 0, 8, .inl (fun _ => 0))), (b2, .inl (cy 0, 8, .inl g2)), (b3, .inl (cy 0, 8, .inl g3)), (b4, .inl (cy 0, 8, .inl g4)), (b5, .inl (cy 1, 8, .inl g5)), (od, .inl (cy 4, 1, .inr (.inr (.inr (.inl (fun _ => 0))))))]) (w1 := [(m0, .inr (20, [.int 1, .ref mp, .int 0, .ref b1, .ref b2, .ref b3, .ref b4, .ref b5, .ref mq]))]) [16] [0, 1, 2, 3, 4, 5, 6, 7, 8, 9, 10, 11, 12, 13, 14, 15] rfl rfl (by decide) (by decide) hP hD hk1 hFc hB ht
    generalize H1 = H at hP hS ⊢
    have hP : va_P D vwCl [(pe, .inr (9, [.int 0, .ref a1, .ref a2, .ref a3, .ref a4, .ref a5, .ref a6, .ref a7, .ref a8, .ref a9])), (a1, .inl (cy 0, 20, .inl (fun _ => 0))), (a2, .inl (cy 0, 20, .inl (fun _ => 0))), (ne, .inr (6, [.ref n1, .ref n2, .ref n3, .ref n4, .ref n5])), (n1, .inl (cy 0, 8, .inl (fun _ => 0))), (n2, .inl (cy 0, 8, .inl f2)), (n3, .inl (cy 0, 8, .inl f3)), (n4, .inl (cy 0, 8, .inl f4)), (n5, .inl (cy 1, 8, .inl f5)), (ro, .inl (cy 0, 20, .inl (fun _ => 0))), (b1, .inl (cy 0, 8, .inl (fun _ => 0))), (b2, .inl (cy 0, 8, .inl g2)), (b3, .inl (cy 0, 8, .inl g3)), (b4, .inl (cy 0, 8, .inl g4)), (b5, .inl (cy 1, 8, .inl g5)), (od, .inl (cy 4, 1, .inr (.inr (.inr (.inl (fun _ => 0)))))), (m0, .inr (20, [.int 1, .ref mp, .int 0, .ref b1, .ref b2, .ref b3, .ref b4, .ref b5, .ref mq]))] H := hP
    have hD : va_D A [(pe, .inr (9, [.int 0, .ref a1, .ref a2, .ref a3, .ref a4, .ref a5, .ref a6, .ref a7, .ref a8, .ref a9])), (a1, .inl (cy 0, 20, .inl (fun _ => 0))), (a2, .inl (cy 0, 20, .inl (fun _ => 0))), (ne, .inr (6, [.ref n1, .ref n2, .ref n3, .ref n4, .ref n5])), (n1, .inl (cy 0, 8, .inl (fun _ => 0))), (n2, .inl (cy 0, 8, .inl f2)), (n3, .inl (cy 0, 8, .inl f3)), (n4, .inl (cy 0, 8, .inl f4)), (n5, .inl (cy 1, 8, .inl f5)), (ro, .inl (cy 0, 20, .inl (fun _ => 0))), (b1, .inl (cy 0, 8, .inl (fun _ => 0))), (b2, .inl (cy 0, 8, .inl g2)), (b3, .inl (cy 0, 8, .inl g3)), (b4, .inl (cy 0, 8, .inl g4)), (b5, .inl (cy 1, 8, .inl g5)), (od, .inl (cy 4, 1, .inr (.inr (.inr (.inl (fun _ => 0)))))), (m0, .inr (20, [.int 1, .ref mp, .int 0, .ref b1, .ref b2, .ref b3, .ref b4, .ref b5, .ref mq]))] := hD
    refine W.widen (k := 30) (n := 886) (Nat.le_of_ble_eq_true rfl) (Nat.le_of_ble_eq_true rfl) ?_
    refine lv_iload hx hb dL_law_2393 (lv_at hl 1 rfl) ?_
    refine lv_icmp_eq (tgt := 2400) hx hb dL_law_2395 (by decide) (fun _ => ?_) (fun c_702 => absurd (by decide) c_702)
    refine lv_iload hx hb dL_law_2400 (lv_at hl 1 rfl) ?_
    refine lv_if_ne (tgt := 2417) hx hb dL_law_2402 (by decide) (fun _ => ?_) (fun c_703 => absurd c_703 (by decide))
    refine lv_goto (tgt := 4257) hx hb dL_law_2417 (by decide) ?_
    refine W.widen (k := 60) (n := 1200) (Nat.le_of_ble_eq_true rfl) (Nat.le_of_ble_eq_true rfl) ?_
    exact hend _ _ _ hS (lv_sub hl [7, 2] rfl)
set_option maxHeartbeats 4000000 in
set_option maxRecDepth 100000 in
theorem law_case_31 {p : Program} {l : Launch} {e : Env} {s : State} {m : MethodId} {below : List Frame} {meth : Method} {c : Code} {D : va_G} {cy : Nat → ClassId} {ed b : Nat} {xs : Nat → Int32} {A : Nat → Prop} {Q : State → Prop} (C0 : zx_LW p l s m c D cy ed b xs A)
    {h pe ne pa ro a1 a2 a3 a4 a5 a6 a7 a8 a9 n1 n2 n3 n4 n5 m0 mp b1 b2 b3 b4 b5 mq oa od : Nat} {f2 f3 f4 f5 g2 g3 g4 g5 : Nat → Int32} (hf5 : ∀ j, j < 8 → f5 j = 115) (hg5 : ∀ j, j < 8 → g5 j = 115) {H : Heap} {locs : List Loc} {ls : Array Slot}
    (hP : va_P D vwCl [(h, .inr (13, [.ref pe, .ref ne, .ref pa, .ref ro, .int 0])), (pe, .inr (9, [.int 0, .ref a1, .ref a2, .ref a3, .ref a4, .ref a5, .ref a6, .ref a7, .ref a8, .ref a9])), (a1, .inl (cy 0, 20, .inl (fun _ => 0))), (a2, .inl (cy 0, 20, .inl (fun _ => 0))), (ne, .inr (6, [.ref n1, .ref n2, .ref n3, .ref n4, .ref n5])), (n1, .inl (cy 0, 8, .inl (fun _ => 0))), (n2, .inl (cy 0, 8, .inl f2)), (n3, .inl (cy 0, 8, .inl f3)), (n4, .inl (cy 0, 8, .inl f4)), (n5, .inl (cy 1, 8, .inl f5)), (pa, .inr (4, [.int 0, .ref ed, .int 0])), (ro, .inl (cy 0, 20, .inl (fun _ => 0))), (m0, .inr (20, [.int 0, .ref mp, .int 0, .ref b1, .ref b2, .ref b3, .ref b4, .ref b5, .ref mq])), (b1, .inl (cy 0, 8, .inl (fun _ => 0))), (b2, .inl (cy 0, 8, .inl g2)), (b3, .inl (cy 0, 8, .inl g3)), (b4, .inl (cy 0, 8, .inl g4)), (b5, .inl (cy 1, 8, .inl g5)), (mp, .inr (4, [.int 0, .ref ed, .int 0])), (mq, .inr (4, [.int 0, .ref ed, .int 0])), (oa, .inl (cy 3, 1, .inr (.inl (fun _ => 0)))), (od, .inl (cy 4, 1, .inr (.inr (.inr (.inl (fun _ => 0))))))] H) (hD : va_D A [(h, .inr (13, [.ref pe, .ref ne, .ref pa, .ref ro, .int 0])), (pe, .inr (9, [.int 0, .ref a1, .ref a2, .ref a3, .ref a4, .ref a5, .ref a6, .ref a7, .ref a8, .ref a9])), (a1, .inl (cy 0, 20, .inl (fun _ => 0))), (a2, .inl (cy 0, 20, .inl (fun _ => 0))), (ne, .inr (6, [.ref n1, .ref n2, .ref n3, .ref n4, .ref n5])), (n1, .inl (cy 0, 8, .inl (fun _ => 0))), (n2, .inl (cy 0, 8, .inl f2)), (n3, .inl (cy 0, 8, .inl f3)), (n4, .inl (cy 0, 8, .inl f4)), (n5, .inl (cy 1, 8, .inl f5)), (pa, .inr (4, [.int 0, .ref ed, .int 0])), (ro, .inl (cy 0, 20, .inl (fun _ => 0))), (m0, .inr (20, [.int 0, .ref mp, .int 0, .ref b1, .ref b2, .ref b3, .ref b4, .ref b5, .ref mq])), (b1, .inl (cy 0, 8, .inl (fun _ => 0))), (b2, .inl (cy 0, 8, .inl g2)), (b3, .inl (cy 0, 8, .inl g3)), (b4, .inl (cy 0, 8, .inl g4)), (b5, .inl (cy 1, 8, .inl g5)), (mp, .inr (4, [.int 0, .ref ed, .int 0])), (mq, .inr (4, [.int 0, .ref ed, .int 0])), (oa, .inl (cy 3, 1, .inr (.inl (fun _ => 0)))), (od, .inl (cy 4, 1, .inr (.inr (.inr (.inl (fun _ => 0))))))]) (hS : va_S A s.heap H locs) (hl : lv_has ls 9 [(5, .int 0), (4, .ref od), (3, .ref oa), (2, .ref m0), (1, .ref h), (0, .ref b)])
    (hend : ∀ (H : Heap) (locs : List Loc) (ls : Array Slot), va_S A s.heap H locs → lv_has ls 9 [(0, .ref b), (5, .int 0)] → W p l e room_1 s m #[Value.ref b] below meth c H locs 60 1200 Q (F0 m 4257 ls [])) :
    W p l e room_1 s m #[Value.ref b] below meth c H locs 29 880 Q (F0 m 2420 ls []) := by
  obtain ⟨hx, hb, hml, hst, hown, hts, hX, hbl, hbA, hA, hK, hZ, hN⟩ := C0
  refine lv_aload_n hx hb dL_law_2420 rfl (lv_at hl 4 rfl) ?_
  refine lv_aload_n hx hb dL_law_2421 rfl (lv_at hl 5 rfl) ?_
  refine lv_iload hx hb dL_law_2422 (lv_at hl 0 rfl) ?_
  refine lv_iconst (v := 1) hx hb dL_law_2424 (by decide) ?_
  refine lv_iadd hx hb dL_law_2425 ?_
  refine lv_topi (fun y9 ey9 => ?_)
  obtain rfl : y9 = 1 := by rw [ey9] <;> decide
  refine va_sld hx hb hX hbl hbA hS (zx_bn (by decide)) dL_law_2426 ?_
  refine lv_aload_n hx hb dL_law_2427 rfl (lv_at hl 2 rfl) ?_
  have hPc := hP.sub (ws' := [(h, .inr (13, [.ref pe, .ref ne, .ref pa, .ref ro, .int 0])), (pa, .inr (4, [.int 0, .ref ed, .int 0])), (oa, .inl (cy 3, 1, .inr (.inl (fun _ => 0))))]) [0, 10, 20] rfl
  have hDc := hD.sub (ws' := [(h, .inr (13, [.ref pe, .ref ne, .ref pa, .ref ro, .int 0])), (pa, .inr (4, [.int 0, .ref ed, .int 0])), (oa, .inl (cy 3, 1, .inr (.inl (fun _ => 0))))]) [0, 10, 20] (by decide) rfl
  have hFc := va_free (wc := [(h, .inr (13, [.ref pe, .ref ne, .ref pa, .ref ro, .int 0])), (pa, .inr (4, [.int 0, .ref ed, .int 0])), (oa, .inl (cy 3, 1, .inr (.inl (fun _ => 0))))]) hD hS hA [0, 10, 20] rfl
  refine vx_calli (vx_runSX (As := [.ref h, .int (xs (1 : Int32).toNatClampNeg), .ref oa]) (rest := []) ⟨hx, hb, hml, hown, hts⟩ (c_L_hasConcern l hst D cy ed H.size h pe ne pa ro 0 0 ed oa (fun _ => 0) (xs (1 : Int32).toNatClampNeg)) (vx_cwSW 3 hts (zx_GS mm_1267 mm_1268 mm_70 mm_1269) rfl rfl rfl (by decide +kernel) ⟨(Nat.le_of_ble_eq_true rfl), (Nat.le_of_ble_eq_true rfl)⟩) ⟨zx_blind, zx_give hPc hK hDc hS hFc hZ hN⟩ rfl rfl hl.1 rfl (lv_room (Nat.le_of_ble_eq_true rfl)) dL_law_2428 ⟨(Nat.le_of_ble_eq_true rfl), (Nat.le_of_ble_eq_true rfl)⟩) hS (fun q _ h => hFc q h) hFc (fun q _ h => hFc q h) (fun E9 ce9 q9 _ t H locs ht hvm _ hBX hz1 hk1 hS hce hcv hcl => ?_) (fun r9 u t H locs ht hvm hw hB hz1 hk1 hS => ?_)
  · exact hBX.elim
  ·
    obtain rfl : r9 = 1 := hw
    obtain ⟨hP, hD⟩ := zx_join (wr := [(pe, .inr (9, [.int 0, .ref a1, .ref a2, .ref a3, .ref a4, .ref a5, .ref a6, .ref a7, .ref a8, .ref a9])), (a1, .inl (cy 0, 20, .inl (fun _ => 0))), (a2, .inl (cy 0, 20, .inl (fun _ => 0))), (ne, .inr (6, [.ref n1, .ref n2, .ref n3, .ref n4, .ref n5])), (n1, .inl (cy 0, 8, .inl (fun _ => 0))), (n2, .inl (cy 0, 8, .inl f2)), (n3, .inl (cy 0, 8, .inl f3)), (n4, .inl (cy 0, 8, .inl f4)), (n5, .inl (cy 1, 8, .inl f5)), (ro, .inl (cy 0, 20, .inl (fun _ => 0))), (m0, .inr (20, [.int 0, .ref mp, .int 0, .ref b1, .ref b2, .ref b3, .ref b4, .ref b5, .ref mq])), (b1, .inl (cy 0, 8, .inl (fun _ => 0))), (b2, .inl (cy 0, 8, .inl g2)), (b3, .inl (cy 0, 8, .inl g3)), (b4, .inl (cy 0, 8, .inl g4)), (b5, .inl (cy 1, 8, .inl g5)), (mp, .inr (4, [.int 0, .ref ed, .int 0])), (mq, .inr (4, [.int 0, .ref ed, .int 0])), (od, .inl (cy 4, 1, .inr (.inr (.inr (.inl (fun _ => 0))))))]) (w1 := []) [0, 10, 20] [1, 2, 3, 4, 5, 6, 7, 8, 9, 11, 12, 13, 14, 15, 16, 17, 18, 19, 21] rfl rfl (by decide) (by decide) hP hD hk1 hFc hB ht
    have hP : va_P D vwCl [(pe, .inr (9, [.int 0, .ref a1, .ref a2, .ref a3, .ref a4, .ref a5, .ref a6, .ref a7, .ref a8, .ref a9])), (a1, .inl (cy 0, 20, .inl (fun _ => 0))), (a2, .inl (cy 0, 20, .inl (fun _ => 0))), (ne, .inr (6, [.ref n1, .ref n2, .ref n3, .ref n4, .ref n5])), (n1, .inl (cy 0, 8, .inl (fun _ => 0))), (n2, .inl (cy 0, 8, .inl f2)), (n3, .inl (cy 0, 8, .inl f3)), (n4, .inl (cy 0, 8, .inl f4)), (n5, .inl (cy 1, 8, .inl f5)), (ro, .inl (cy 0, 20, .inl (fun _ => 0))), (m0, .inr (20, [.int 0, .ref mp, .int 0, .ref b1, .ref b2, .ref b3, .ref b4, .ref b5, .ref mq])), (b1, .inl (cy 0, 8, .inl (fun _ => 0))), (b2, .inl (cy 0, 8, .inl g2)), (b3, .inl (cy 0, 8, .inl g3)), (b4, .inl (cy 0, 8, .inl g4)), (b5, .inl (cy 1, 8, .inl g5)), (mp, .inr (4, [.int 0, .ref ed, .int 0])), (mq, .inr (4, [.int 0, .ref ed, .int 0])), (od, .inl (cy 4, 1, .inr (.inr (.inr (.inl (fun _ => 0))))))] H := hP
    have hD : va_D A [(pe, .inr (9, [.int 0, .ref a1, .ref a2, .ref a3, .ref a4, .ref a5, .ref a6, .ref a7, .ref a8, .ref a9])), (a1, .inl (cy 0, 20, .inl (fun _ => 0))), (a2, .inl (cy 0, 20, .inl (fun _ => 0))), (ne, .inr (6, [.ref n1, .ref n2, .ref n3, .ref n4, .ref n5])), (n1, .inl (cy 0, 8, .inl (fun _ => 0))), (n2, .inl (cy 0, 8, .inl f2)), (n3, .inl (cy 0, 8, .inl f3)), (n4, .inl (cy 0, 8, .inl f4)), (n5, .inl (cy 1, 8, .inl f5)), (ro, .inl (cy 0, 20, .inl (fun _ => 0))), (m0, .inr (20, [.int 0, .ref mp, .int 0, .ref b1, .ref b2, .ref b3, .ref b4, .ref b5, .ref mq])), (b1, .inl (cy 0, 8, .inl (fun _ => 0))), (b2, .inl (cy 0, 8, .inl g2)), (b3, .inl (cy 0, 8, .inl g3)), (b4, .inl (cy 0, 8, .inl g4)), (b5, .inl (cy 1, 8, .inl g5)), (mp, .inr (4, [.int 0, .ref ed, .int 0])), (mq, .inr (4, [.int 0, .ref ed, .int 0])), (od, .inl (cy 4, 1, .inr (.inr (.inr (.inl (fun _ => 0))))))] := hD
    refine W.widen (k := 30) (n := 886) (Nat.le_of_ble_eq_true rfl) (Nat.le_of_ble_eq_true rfl) ?_
    refine lv_istore (lv' := [(6, .int 1), (5, .int 0), (4, .ref od), (3, .ref oa), (2, .ref m0), (1, .ref h), (0, .ref b)]) hx hb dL_law_2431 hl (by decide) rfl (fun ls hl => ?_)
    refine lv_aload_n hx hb dL_law_2433 rfl (lv_at hl 4 rfl) ?_
    refine lv_aload_n hx hb dL_law_2434 rfl (lv_at hl 6 rfl) ?_
    refine lv_iload hx hb dL_law_2435 (lv_at hl 1 rfl) ?_
    refine lv_iconst (v := 1) hx hb dL_law_2437 (by decide) ?_
    refine lv_iadd hx hb dL_law_2438 ?_
    refine lv_topi (fun y9 ey9 => ?_)
    obtain rfl : y9 = 1 := by rw [ey9] <;> decide
    refine va_sld hx hb hX hbl hbA hS (zx_bn (by decide)) dL_law_2439 ?_
    have hPc := hP.sub (ws' := [(m0, .inr (20, [.int 0, .ref mp, .int 0, .ref b1, .ref b2, .ref b3, .ref b4, .ref b5, .ref mq])), (mp, .inr (4, [.int 0, .ref ed, .int 0])), (mq, .inr (4, [.int 0, .ref ed, .int 0]))]) [10, 16, 17] rfl
    have hDc := hD.sub (ws' := [(m0, .inr (20, [.int 0, .ref mp, .int 0, .ref b1, .ref b2, .ref b3, .ref b4, .ref b5, .ref mq])), (mp, .inr (4, [.int 0, .ref ed, .int 0])), (mq, .inr (4, [.int 0, .ref ed, .int 0]))]) [10, 16, 17] (by decide) rfl
    have hFc := va_free (wc := [(m0, .inr (20, [.int 0, .ref mp, .int 0, .ref b1, .ref b2, .ref b3, .ref b4, .ref b5, .ref mq])), (mp, .inr (4, [.int 0, .ref ed, .int 0])), (mq, .inr (4, [.int 0, .ref ed, .int 0]))]) hD hS hA [10, 16, 17] rfl
    refine va_calli (va_runV (As := [.int (xs (1 : Int32).toNatClampNeg)]) (rest := []) ⟨hx, hb, hml, hown, hts⟩ (c_X15_hasConcern l hst D cy ed H.size m0 mp mq b1 b2 b3 b4 b5 0 0 0 ed 0 ed (xs (1 : Int32).toNatClampNeg)) (cwV 1 hts (zx_GV mm_2333 mm_2334 mm_2335 mm_78 mm_2336) rfl rfl rfl (by decide +kernel) ⟨(Nat.le_of_ble_eq_true rfl), (Nat.le_of_ble_eq_true rfl)⟩) ⟨zx_blind, va_recv hK hPc (ci := 20) (q0 := 0) rfl rfl, zx_give hPc hK hDc hS hFc hZ hN⟩ rfl rfl hl.1 rfl (lv_room (Nat.le_of_ble_eq_true rfl)) dL_law_2440 ⟨(Nat.le_of_ble_eq_true rfl), (Nat.le_of_ble_eq_true rfl)⟩) hS (fun q _ h => hFc q h) hFc (fun r9 u t H1 locs ht hvm hw hB hz1 hk1 hS => ?_)
    obtain ⟨r_704, rfl⟩ : ∃ z9, z9 = r9 := ⟨_, rfl⟩
    have h_705 := hw
    obtain ⟨hP, hD⟩ := zx_join (wr := [(pe, .inr (9, [.int 0, .ref a1, .ref a2, .ref a3, .ref a4, .ref a5, .ref a6, .ref a7, .ref a8, .ref a9])), (a1, .inl (cy 0, 20, .inl (fun _ => 0))), (a2, .inl (cy 0, 20, .inl (fun _ => 0))), (ne, .inr (6, [.ref n1, .ref n2, .ref n3, .ref n4, .ref n5])), (n1, .inl (cy 0, 8, .inl (fun _ => 0))), (n2, .inl (cy 0, 8, .inl f2)), (n3, .inl (cy 0, 8, .inl f3)), (n4, .inl (cy 0, 8, .inl f4)), (n5, .inl (cy 1, 8, .inl f5)), (ro, .inl (cy 0, 20, .inl (fun _ => 0))), (b1, .inl (cy 0, 8, .inl (fun _ => 0))), (b2, .inl (cy 0, 8, .inl g2)), (b3, .inl (cy 0, 8, .inl g3)), (b4, .inl (cy 0, 8, .inl g4)), (b5, .inl (cy 1, 8, .inl g5)), (od, .inl (cy 4, 1, .inr (.inr (.inr (.inl (fun _ => 0))))))]) (w1 := [(m0, .inr (20, [.int 1, .ref mp, .int 0, .ref b1, .ref b2, .ref b3, .ref b4, .ref b5, .ref mq]))]) [10, 16, 17] [0, 1, 2, 3, 4, 5, 6, 7, 8, 9, 11, 12, 13, 14, 15, 18] rfl rfl (by decide) (by decide) hP hD hk1 hFc hB ht
    generalize H1 = H at hP hS ⊢
    have hP : va_P D vwCl [(pe, .inr (9, [.int 0, .ref a1, .ref a2, .ref a3, .ref a4, .ref a5, .ref a6, .ref a7, .ref a8, .ref a9])), (a1, .inl (cy 0, 20, .inl (fun _ => 0))), (a2, .inl (cy 0, 20, .inl (fun _ => 0))), (ne, .inr (6, [.ref n1, .ref n2, .ref n3, .ref n4, .ref n5])), (n1, .inl (cy 0, 8, .inl (fun _ => 0))), (n2, .inl (cy 0, 8, .inl f2)), (n3, .inl (cy 0, 8, .inl f3)), (n4, .inl (cy 0, 8, .inl f4)), (n5, .inl (cy 1, 8, .inl f5)), (ro, .inl (cy 0, 20, .inl (fun _ => 0))), (b1, .inl (cy 0, 8, .inl (fun _ => 0))), (b2, .inl (cy 0, 8, .inl g2)), (b3, .inl (cy 0, 8, .inl g3)), (b4, .inl (cy 0, 8, .inl g4)), (b5, .inl (cy 1, 8, .inl g5)), (od, .inl (cy 4, 1, .inr (.inr (.inr (.inl (fun _ => 0)))))), (m0, .inr (20, [.int 1, .ref mp, .int 0, .ref b1, .ref b2, .ref b3, .ref b4, .ref b5, .ref mq]))] H := hP
    have hD : va_D A [(pe, .inr (9, [.int 0, .ref a1, .ref a2, .ref a3, .ref a4, .ref a5, .ref a6, .ref a7, .ref a8, .ref a9])), (a1, .inl (cy 0, 20, .inl (fun _ => 0))), (a2, .inl (cy 0, 20, .inl (fun _ => 0))), (ne, .inr (6, [.ref n1, .ref n2, .ref n3, .ref n4, .ref n5])), (n1, .inl (cy 0, 8, .inl (fun _ => 0))), (n2, .inl (cy 0, 8, .inl f2)), (n3, .inl (cy 0, 8, .inl f3)), (n4, .inl (cy 0, 8, .inl f4)), (n5, .inl (cy 1, 8, .inl f5)), (ro, .inl (cy 0, 20, .inl (fun _ => 0))), (b1, .inl (cy 0, 8, .inl (fun _ => 0))), (b2, .inl (cy 0, 8, .inl g2)), (b3, .inl (cy 0, 8, .inl g3)), (b4, .inl (cy 0, 8, .inl g4)), (b5, .inl (cy 1, 8, .inl g5)), (od, .inl (cy 4, 1, .inr (.inr (.inr (.inl (fun _ => 0)))))), (m0, .inr (20, [.int 1, .ref mp, .int 0, .ref b1, .ref b2, .ref b3, .ref b4, .ref b5, .ref mq]))] := hD
    refine W.widen (k := 30) (n := 886) (Nat.le_of_ble_eq_true rfl) (Nat.le_of_ble_eq_true rfl) ?_
    refine lv_istore (lv' := [(7, .int r_704), (6, .int 1), (5, .int 0), (4, .ref od), (3, .ref oa), (2, .ref m0), (1, .ref h), (0, .ref b)]) hx hb dL_law_2443 hl (by decide) rfl (fun ls hl => ?_)
    refine lv_aload_n hx hb dL_law_2445 rfl (lv_at hl 5 rfl) ?_
    have hPc := hP.sub (ws' := [(m0, .inr (20, [.int 1, .ref mp, .int 0, .ref b1, .ref b2, .ref b3, .ref b4, .ref b5, .ref mq]))]) [16] rfl
    have hDc := hD.sub (ws' := [(m0, .inr (20, [.int 1, .ref mp, .int 0, .ref b1, .ref b2, .ref b3, .ref b4, .ref b5, .ref mq]))]) [16] (by decide) rfl
    have hFc := va_free (wc := [(m0, .inr (20, [.int 1, .ref mp, .int 0, .ref b1, .ref b2, .ref b3, .ref b4, .ref b5, .ref mq]))]) hD hS hA [16] rfl
    refine va_calli (va_runV (As := []) (rest := []) ⟨hx, hb, hml, hown, hts⟩ (c_X15_thrown l hst D cy ed H.size m0 mp mq b1 b2 b3 b4 b5 1 0) (cwV 0 hts (zx_GV mm_1599 mm_1600 mm_1601 mm_78 mm_1602) rfl rfl rfl (by decide +kernel) ⟨(Nat.le_of_ble_eq_true rfl), (Nat.le_of_ble_eq_true rfl)⟩) ⟨zx_blind, va_recv hK hPc (ci := 20) (q0 := 0) rfl rfl, zx_give hPc hK hDc hS hFc hZ hN⟩ rfl rfl hl.1 rfl (lv_room (Nat.le_of_ble_eq_true rfl)) dL_law_2446 ⟨(Nat.le_of_ble_eq_true rfl), (Nat.le_of_ble_eq_true rfl)⟩) hS (fun q _ h => hFc q h) hFc (fun r9 u t H1 locs ht hvm hw hB hz1 hk1 hS => ?_)
    obtain rfl : r9 = 1 := hw
    obtain ⟨hP, hD⟩ := zx_join (wr := [(pe, .inr (9, [.int 0, .ref a1, .ref a2, .ref a3, .ref a4, .ref a5, .ref a6, .ref a7, .ref a8, .ref a9])), (a1, .inl (cy 0, 20, .inl (fun _ => 0))), (a2, .inl (cy 0, 20, .inl (fun _ => 0))), (ne, .inr (6, [.ref n1, .ref n2, .ref n3, .ref n4, .ref n5])), (n1, .inl (cy 0, 8, .inl (fun _ => 0))), (n2, .inl (cy 0, 8, .inl f2)), (n3, .inl (cy 0, 8, .inl f3)), (n4, .inl (cy 0, 8, .inl f4)), (n5, .inl (cy 1, 8, .inl f5)), (ro, .inl (cy 0, 20, .inl (fun _ => 0))), (b1, .inl (cy 0, 8, .inl (fun _ => 0))), (b2, .inl (cy 0, 8, .inl g2)), (b3, .inl (cy 0, 8, .inl g3)), (b4, .inl (cy 0, 8, .inl g4)), (b5, .inl (cy 1, 8, .inl g5)), (od, .inl (cy 4, 1, .inr (.inr (.inr (.inl (fun _ => 0))))))]) (w1 := [(m0, .inr (20, [.int 1, .ref mp, .int 0, .ref b1, .ref b2, .ref b3, .ref b4, .ref b5, .ref mq]))]) [16] [0, 1, 2, 3, 4, 5, 6, 7, 8, 9, 10, 11, 12, 13, 14, 15] rfl rfl (by decide) (by decide) hP hD hk1 hFc hB ht
    generalize H1 = H at hP hS ⊢
    have hP : va_P D vwCl [(pe, .inr (9, [.int 0, .ref a1, .ref a2, .ref a3, .ref a4, .ref a5, .ref a6, .ref a7, .ref a8, .ref a9])), (a1, .inl (cy 0, 20, .inl (fun _ => 0))), (a2, .inl (cy 0, 20, .inl (fun _ => 0))), (ne, .inr (6, [.ref n1, .ref n2, .ref n3, .ref n4, .ref n5])), (n1, .inl (cy 0, 8, .inl (fun _ => 0))), (n2, .inl (cy 0, 8, .inl f2)), (n3, .inl (cy 0, 8, .inl f3)), (n4, .inl (cy 0, 8, .inl f4)), (n5, .inl (cy 1, 8, .inl f5)), (ro, .inl (cy 0, 20, .inl (fun _ => 0))), (b1, .inl (cy 0, 8, .inl (fun _ => 0))), (b2, .inl (cy 0, 8, .inl g2)), (b3, .inl (cy 0, 8, .inl g3)), (b4, .inl (cy 0, 8, .inl g4)), (b5, .inl (cy 1, 8, .inl g5)), (od, .inl (cy 4, 1, .inr (.inr (.inr (.inl (fun _ => 0)))))), (m0, .inr (20, [.int 1, .ref mp, .int 0, .ref b1, .ref b2, .ref b3, .ref b4, .ref b5, .ref mq]))] H := hP
    have hD : va_D A [(pe, .inr (9, [.int 0, .ref a1, .ref a2, .ref a3, .ref a4, .ref a5, .ref a6, .ref a7, .ref a8, .ref a9])), (a1, .inl (cy 0, 20, .inl (fun _ => 0))), (a2, .inl (cy 0, 20, .inl (fun _ => 0))), (ne, .inr (6, [.ref n1, .ref n2, .ref n3, .ref n4, .ref n5])), (n1, .inl (cy 0, 8, .inl (fun _ => 0))), (n2, .inl (cy 0, 8, .inl f2)), (n3, .inl (cy 0, 8, .inl f3)), (n4, .inl (cy 0, 8, .inl f4)), (n5, .inl (cy 1, 8, .inl f5)), (ro, .inl (cy 0, 20, .inl (fun _ => 0))), (b1, .inl (cy 0, 8, .inl (fun _ => 0))), (b2, .inl (cy 0, 8, .inl g2)), (b3, .inl (cy 0, 8, .inl g3)), (b4, .inl (cy 0, 8, .inl g4)), (b5, .inl (cy 1, 8, .inl g5)), (od, .inl (cy 4, 1, .inr (.inr (.inr (.inl (fun _ => 0)))))), (m0, .inr (20, [.int 1, .ref mp, .int 0, .ref b1, .ref b2, .ref b3, .ref b4, .ref b5, .ref mq]))] := hD
    refine W.widen (k := 30) (n := 886) (Nat.le_of_ble_eq_true rfl) (Nat.le_of_ble_eq_true rfl) ?_
    refine lv_iload hx hb dL_law_2449 (lv_at hl 1 rfl) ?_
    refine lv_icmp_eq (tgt := 2456) hx hb dL_law_2451 (by decide) (fun _ => ?_) (fun c_706 => absurd (by decide) c_706)
    refine lv_iload hx hb dL_law_2456 (lv_at hl 1 rfl) ?_
    refine lv_if_ne (tgt := 2480) hx hb dL_law_2458 (by decide) (fun _ => ?_) (fun c_707 => absurd c_707 (by decide))
    refine lv_goto (tgt := 4257) hx hb dL_law_2480 (by decide) ?_
    refine W.widen (k := 60) (n := 1200) (Nat.le_of_ble_eq_true rfl) (Nat.le_of_ble_eq_true rfl) ?_
    exact hend _ _ _ hS (lv_sub hl [7, 2] rfl)
set_option maxHeartbeats 4000000 in
set_option maxRecDepth 100000 in
theorem law_case_32 {p : Program} {l : Launch} {e : Env} {s : State} {m : MethodId} {below : List Frame} {meth : Method} {c : Code} {D : va_G} {cy : Nat → ClassId} {ed b : Nat} {xs : Nat → Int32} {A : Nat → Prop} {Q : State → Prop} (C0 : zx_LW p l s m c D cy ed b xs A)
    {h pe ne pa ro a1 a2 a3 a4 a5 a6 a7 a8 a9 n1 n2 n3 n4 n5 m0 mp b1 b2 b3 b4 b5 mq oa od : Nat} {f2 f3 f4 f5 g2 g3 g4 g5 : Nat → Int32} (hf5 : ∀ j, j < 8 → f5 j = 115) (hg5 : ∀ j, j < 8 → g5 j = 115) {H : Heap} {locs : List Loc} {ls : Array Slot}
    (hP : va_P D vwCl [(h, .inr (13, [.ref pe, .ref ne, .ref pa, .ref ro, .int 0])), (pe, .inr (9, [.int 0, .ref a1, .ref a2, .ref a3, .ref a4, .ref a5, .ref a6, .ref a7, .ref a8, .ref a9])), (a1, .inl (cy 0, 20, .inl (fun _ => 0))), (a2, .inl (cy 0, 20, .inl (fun _ => 0))), (ne, .inr (6, [.ref n1, .ref n2, .ref n3, .ref n4, .ref n5])), (n1, .inl (cy 0, 8, .inl (fun _ => 0))), (n2, .inl (cy 0, 8, .inl f2)), (n3, .inl (cy 0, 8, .inl f3)), (n4, .inl (cy 0, 8, .inl f4)), (n5, .inl (cy 1, 8, .inl f5)), (pa, .inr (4, [.int 0, .ref ed, .int 0])), (ro, .inl (cy 0, 20, .inl (fun _ => 0))), (m0, .inr (20, [.int 0, .ref mp, .int 0, .ref b1, .ref b2, .ref b3, .ref b4, .ref b5, .ref mq])), (b1, .inl (cy 0, 8, .inl (fun _ => 0))), (b2, .inl (cy 0, 8, .inl g2)), (b3, .inl (cy 0, 8, .inl g3)), (b4, .inl (cy 0, 8, .inl g4)), (b5, .inl (cy 1, 8, .inl g5)), (mp, .inr (4, [.int 0, .ref ed, .int 0])), (mq, .inr (4, [.int 0, .ref ed, .int 0])), (oa, .inl (cy 3, 1, .inr (.inl (fun _ => 0)))), (od, .inl (cy 4, 1, .inr (.inr (.inr (.inl (fun _ => 0))))))] H) (hD : va_D A [(h, .inr (13, [.ref pe, .ref ne, .ref pa, .ref ro, .int 0])), (pe, .inr (9, [.int 0, .ref a1, .ref a2, .ref a3, .ref a4, .ref a5, .ref a6, .ref a7, .ref a8, .ref a9])), (a1, .inl (cy 0, 20, .inl (fun _ => 0))), (a2, .inl (cy 0, 20, .inl (fun _ => 0))), (ne, .inr (6, [.ref n1, .ref n2, .ref n3, .ref n4, .ref n5])), (n1, .inl (cy 0, 8, .inl (fun _ => 0))), (n2, .inl (cy 0, 8, .inl f2)), (n3, .inl (cy 0, 8, .inl f3)), (n4, .inl (cy 0, 8, .inl f4)), (n5, .inl (cy 1, 8, .inl f5)), (pa, .inr (4, [.int 0, .ref ed, .int 0])), (ro, .inl (cy 0, 20, .inl (fun _ => 0))), (m0, .inr (20, [.int 0, .ref mp, .int 0, .ref b1, .ref b2, .ref b3, .ref b4, .ref b5, .ref mq])), (b1, .inl (cy 0, 8, .inl (fun _ => 0))), (b2, .inl (cy 0, 8, .inl g2)), (b3, .inl (cy 0, 8, .inl g3)), (b4, .inl (cy 0, 8, .inl g4)), (b5, .inl (cy 1, 8, .inl g5)), (mp, .inr (4, [.int 0, .ref ed, .int 0])), (mq, .inr (4, [.int 0, .ref ed, .int 0])), (oa, .inl (cy 3, 1, .inr (.inl (fun _ => 0)))), (od, .inl (cy 4, 1, .inr (.inr (.inr (.inl (fun _ => 0))))))]) (hS : va_S A s.heap H locs) (hl : lv_has ls 9 [(5, .int 0), (4, .ref od), (3, .ref oa), (2, .ref m0), (1, .ref h), (0, .ref b)])
    (hend : ∀ (H : Heap) (locs : List Loc) (ls : Array Slot), va_S A s.heap H locs → lv_has ls 9 [(0, .ref b), (5, .int 0)] → W p l e room_1 s m #[Value.ref b] below meth c H locs 60 1200 Q (F0 m 4257 ls [])) :
    W p l e room_1 s m #[Value.ref b] below meth c H locs 29 880 Q (F0 m 2483 ls []) := by
  obtain ⟨hx, hb, hml, hst, hown, hts, hX, hbl, hbA, hA, hK, hZ, hN⟩ := C0
  refine lv_aload_n hx hb dL_law_2483 rfl (lv_at hl 4 rfl) ?_
  refine lv_aload_n hx hb dL_law_2484 rfl (lv_at hl 5 rfl) ?_
  refine lv_iload hx hb dL_law_2485 (lv_at hl 0 rfl) ?_
  refine lv_iconst (v := 1) hx hb dL_law_2487 (by decide) ?_
  refine lv_iadd hx hb dL_law_2488 ?_
  refine lv_topi (fun y9 ey9 => ?_)
  obtain rfl : y9 = 1 := by rw [ey9] <;> decide
  refine va_sld hx hb hX hbl hbA hS (zx_bn (by decide)) dL_law_2489 ?_
  refine lv_aload_n hx hb dL_law_2490 rfl (lv_at hl 5 rfl) ?_
  refine lv_iload hx hb dL_law_2491 (lv_at hl 0 rfl) ?_
  refine lv_iconst (v := 2) hx hb dL_law_2493 (by decide) ?_
  refine lv_iadd hx hb dL_law_2494 ?_
  refine lv_topi (fun y9 ey9 => ?_)
  obtain rfl : y9 = 2 := by rw [ey9] <;> decide
  refine va_sld hx hb hX hbl hbA hS (zx_bn (by decide)) dL_law_2495 ?_
  refine lv_i2c (v := (((xs (2 : Int32).toNatClampNeg).toUInt32 % 65536).toInt32)) hx hb dL_law_2496 rfl ?_
  refine lv_aload_n hx hb dL_law_2497 rfl (lv_at hl 5 rfl) ?_
  refine lv_iload hx hb dL_law_2498 (lv_at hl 0 rfl) ?_
  refine lv_iconst (v := 3) hx hb dL_law_2500 (by decide) ?_
  refine lv_iadd hx hb dL_law_2501 ?_
  refine lv_topi (fun y9 ey9 => ?_)
  obtain rfl : y9 = 3 := by rw [ey9] <;> decide
  refine va_sld hx hb hX hbl hbA hS (zx_bn (by decide)) dL_law_2502 ?_
  refine lv_aload_n hx hb dL_law_2503 rfl (lv_at hl 2 rfl) ?_
  have hPc := hP.sub (ws' := [(h, .inr (13, [.ref pe, .ref ne, .ref pa, .ref ro, .int 0])), (pa, .inr (4, [.int 0, .ref ed, .int 0])), (oa, .inl (cy 3, 1, .inr (.inl (fun _ => 0))))]) [0, 10, 20] rfl
  have hDc := hD.sub (ws' := [(h, .inr (13, [.ref pe, .ref ne, .ref pa, .ref ro, .int 0])), (pa, .inr (4, [.int 0, .ref ed, .int 0])), (oa, .inl (cy 3, 1, .inr (.inl (fun _ => 0))))]) [0, 10, 20] (by decide) rfl
  have hFc := va_free (wc := [(h, .inr (13, [.ref pe, .ref ne, .ref pa, .ref ro, .int 0])), (pa, .inr (4, [.int 0, .ref ed, .int 0])), (oa, .inl (cy 3, 1, .inr (.inl (fun _ => 0))))]) hD hS hA [0, 10, 20] rfl
  refine vx_calli (vx_runSX (As := [.ref h, .int (xs (1 : Int32).toNatClampNeg), .int (((xs (2 : Int32).toNatClampNeg).toUInt32 % 65536).toInt32), .int (xs (3 : Int32).toNatClampNeg), .ref oa]) (rest := []) ⟨hx, hb, hml, hown, hts⟩ (c_L_step l hst D cy ed H.size h pe ne pa ro 0 0 ed oa (fun _ => 0) (xs (1 : Int32).toNatClampNeg) (((xs (2 : Int32).toNatClampNeg).toUInt32 % 65536).toInt32) (xs (3 : Int32).toNatClampNeg)) (vx_cwSW 5 hts (zx_GS mm_1274 mm_1275 mm_70 mm_1276) rfl rfl rfl (by decide +kernel) ⟨(Nat.le_of_ble_eq_true rfl), (Nat.le_of_ble_eq_true rfl)⟩) ⟨zx_blind, zx_give hPc hK hDc hS hFc hZ hN⟩ rfl rfl hl.1 rfl (lv_room (Nat.le_of_ble_eq_true rfl)) dL_law_2504 ⟨(Nat.le_of_ble_eq_true rfl), (Nat.le_of_ble_eq_true rfl)⟩) hS (fun q _ h => hFc q h) hFc (fun q _ h => hFc q h) (fun E9 ce9 q9 _ t H locs ht hvm _ hBX hz1 hk1 hS hce hcv hcl => ?_) (fun r9 u t H locs ht hvm hw hB hz1 hk1 hS => ?_)
  · exact hBX.elim
  ·
    obtain rfl : r9 = 1 := hw
    obtain ⟨hP, hD⟩ := zx_join (wr := [(pe, .inr (9, [.int 0, .ref a1, .ref a2, .ref a3, .ref a4, .ref a5, .ref a6, .ref a7, .ref a8, .ref a9])), (a1, .inl (cy 0, 20, .inl (fun _ => 0))), (a2, .inl (cy 0, 20, .inl (fun _ => 0))), (ne, .inr (6, [.ref n1, .ref n2, .ref n3, .ref n4, .ref n5])), (n1, .inl (cy 0, 8, .inl (fun _ => 0))), (n2, .inl (cy 0, 8, .inl f2)), (n3, .inl (cy 0, 8, .inl f3)), (n4, .inl (cy 0, 8, .inl f4)), (n5, .inl (cy 1, 8, .inl f5)), (ro, .inl (cy 0, 20, .inl (fun _ => 0))), (m0, .inr (20, [.int 0, .ref mp, .int 0, .ref b1, .ref b2, .ref b3, .ref b4, .ref b5, .ref mq])), (b1, .inl (cy 0, 8, .inl (fun _ => 0))), (b2, .inl (cy 0, 8, .inl g2)), (b3, .inl (cy 0, 8, .inl g3)), (b4, .inl (cy 0, 8, .inl g4)), (b5, .inl (cy 1, 8, .inl g5)), (mp, .inr (4, [.int 0, .ref ed, .int 0])), (mq, .inr (4, [.int 0, .ref ed, .int 0])), (od, .inl (cy 4, 1, .inr (.inr (.inr (.inl (fun _ => 0))))))]) (w1 := []) [0, 10, 20] [1, 2, 3, 4, 5, 6, 7, 8, 9, 11, 12, 13, 14, 15, 16, 17, 18, 19, 21] rfl rfl (by decide) (by decide) hP hD hk1 hFc hB ht
    have hP : va_P D vwCl [(pe, .inr (9, [.int 0, .ref a1, .ref a2, .ref a3, .ref a4, .ref a5, .ref a6, .ref a7, .ref a8, .ref a9])), (a1, .inl (cy 0, 20, .inl (fun _ => 0))), (a2, .inl (cy 0, 20, .inl (fun _ => 0))), (ne, .inr (6, [.ref n1, .ref n2, .ref n3, .ref n4, .ref n5])), (n1, .inl (cy 0, 8, .inl (fun _ => 0))), (n2, .inl (cy 0, 8, .inl f2)), (n3, .inl (cy 0, 8, .inl f3)), (n4, .inl (cy 0, 8, .inl f4)), (n5, .inl (cy 1, 8, .inl f5)), (ro, .inl (cy 0, 20, .inl (fun _ => 0))), (m0, .inr (20, [.int 0, .ref mp, .int 0, .ref b1, .ref b2, .ref b3, .ref b4, .ref b5, .ref mq])), (b1, .inl (cy 0, 8, .inl (fun _ => 0))), (b2, .inl (cy 0, 8, .inl g2)), (b3, .inl (cy 0, 8, .inl g3)), (b4, .inl (cy 0, 8, .inl g4)), (b5, .inl (cy 1, 8, .inl g5)), (mp, .inr (4, [.int 0, .ref ed, .int 0])), (mq, .inr (4, [.int 0, .ref ed, .int 0])), (od, .inl (cy 4, 1, .inr (.inr (.inr (.inl (fun _ => 0))))))] H := hP
    have hD : va_D A [(pe, .inr (9, [.int 0, .ref a1, .ref a2, .ref a3, .ref a4, .ref a5, .ref a6, .ref a7, .ref a8, .ref a9])), (a1, .inl (cy 0, 20, .inl (fun _ => 0))), (a2, .inl (cy 0, 20, .inl (fun _ => 0))), (ne, .inr (6, [.ref n1, .ref n2, .ref n3, .ref n4, .ref n5])), (n1, .inl (cy 0, 8, .inl (fun _ => 0))), (n2, .inl (cy 0, 8, .inl f2)), (n3, .inl (cy 0, 8, .inl f3)), (n4, .inl (cy 0, 8, .inl f4)), (n5, .inl (cy 1, 8, .inl f5)), (ro, .inl (cy 0, 20, .inl (fun _ => 0))), (m0, .inr (20, [.int 0, .ref mp, .int 0, .ref b1, .ref b2, .ref b3, .ref b4, .ref b5, .ref mq])), (b1, .inl (cy 0, 8, .inl (fun _ => 0))), (b2, .inl (cy 0, 8, .inl g2)), (b3, .inl (cy 0, 8, .inl g3)), (b4, .inl (cy 0, 8, .inl g4)), (b5, .inl (cy 1, 8, .inl g5)), (mp, .inr (4, [.int 0, .ref ed, .int 0])), (mq, .inr (4, [.int 0, .ref ed, .int 0])), (od, .inl (cy 4, 1, .inr (.inr (.inr (.inl (fun _ => 0))))))] := hD
    refine W.widen (k := 30) (n := 886) (Nat.le_of_ble_eq_true rfl) (Nat.le_of_ble_eq_true rfl) ?_
    refine lv_istore (lv' := [(6, .int 1), (5, .int 0), (4, .ref od), (3, .ref oa), (2, .ref m0), (1, .ref h), (0, .ref b)]) hx hb dL_law_2507 hl (by decide) rfl (fun ls hl => ?_)
    refine lv_aload_n hx hb dL_law_2509 rfl (lv_at hl 4 rfl) ?_
    refine lv_aload_n hx hb dL_law_2510 rfl (lv_at hl 6 rfl) ?_
    refine lv_iload hx hb dL_law_2511 (lv_at hl 1 rfl) ?_
    refine lv_iconst (v := 1) hx hb dL_law_2513 (by decide) ?_
    refine lv_iadd hx hb dL_law_2514 ?_
    refine lv_topi (fun y9 ey9 => ?_)
    obtain rfl : y9 = 1 := by rw [ey9] <;> decide
    refine va_sld hx hb hX hbl hbA hS (zx_bn (by decide)) dL_law_2515 ?_
    refine lv_aload_n hx hb dL_law_2516 rfl (lv_at hl 6 rfl) ?_
    refine lv_iload hx hb dL_law_2517 (lv_at hl 1 rfl) ?_
    refine lv_iconst (v := 2) hx hb dL_law_2519 (by decide) ?_
    refine lv_iadd hx hb dL_law_2520 ?_
    refine lv_topi (fun y9 ey9 => ?_)
    obtain rfl : y9 = 2 := by rw [ey9] <;> decide
    refine va_sld hx hb hX hbl hbA hS (zx_bn (by decide)) dL_law_2521 ?_
    refine lv_i2c (v := (((xs (2 : Int32).toNatClampNeg).toUInt32 % 65536).toInt32)) hx hb dL_law_2522 rfl ?_
    refine lv_aload_n hx hb dL_law_2523 rfl (lv_at hl 6 rfl) ?_
    refine lv_iload hx hb dL_law_2524 (lv_at hl 1 rfl) ?_
    refine lv_iconst (v := 3) hx hb dL_law_2526 (by decide) ?_
    refine lv_iadd hx hb dL_law_2527 ?_
    refine lv_topi (fun y9 ey9 => ?_)
    obtain rfl : y9 = 3 := by rw [ey9] <;> decide
    refine va_sld hx hb hX hbl hbA hS (zx_bn (by decide)) dL_law_2528 ?_
    have hPc := hP.sub (ws' := [(m0, .inr (20, [.int 0, .ref mp, .int 0, .ref b1, .ref b2, .ref b3, .ref b4, .ref b5, .ref mq])), (mp, .inr (4, [.int 0, .ref ed, .int 0])), (mq, .inr (4, [.int 0, .ref ed, .int 0]))]) [10, 16, 17] rfl
    have hDc := hD.sub (ws' := [(m0, .inr (20, [.int 0, .ref mp, .int 0, .ref b1, .ref b2, .ref b3, .ref b4, .ref b5, .ref mq])), (mp, .inr (4, [.int 0, .ref ed, .int 0])), (mq, .inr (4, [.int 0, .ref ed, .int 0]))]) [10, 16, 17] (by decide) rfl
    have hFc := va_free (wc := [(m0, .inr (20, [.int 0, .ref mp, .int 0, .ref b1, .ref b2, .ref b3, .ref b4, .ref b5, .ref mq])), (mp, .inr (4, [.int 0, .ref ed, .int 0])), (mq, .inr (4, [.int 0, .ref ed, .int 0]))]) hD hS hA [10, 16, 17] rfl
    refine va_calli (va_runV (As := [.int (xs (1 : Int32).toNatClampNeg), .int (((xs (2 : Int32).toNatClampNeg).toUInt32 % 65536).toInt32), .int (xs (3 : Int32).toNatClampNeg)]) (rest := []) ⟨hx, hb, hml, hown, hts⟩ (c_X15_step l hst D cy ed H.size m0 mp mq b1 b2 b3 b4 b5 0 0 0 ed 0 ed (xs (1 : Int32).toNatClampNeg) (((xs (2 : Int32).toNatClampNeg).toUInt32 % 65536).toInt32) (xs (3 : Int32).toNatClampNeg)) (cwV 3 hts (zx_GV mm_2337 mm_2338 mm_2339 mm_78 mm_2340) rfl rfl rfl (by decide +kernel) ⟨(Nat.le_of_ble_eq_true rfl), (Nat.le_of_ble_eq_true rfl)⟩) ⟨zx_blind, va_recv hK hPc (ci := 20) (q0 := 0) rfl rfl, zx_give hPc hK hDc hS hFc hZ hN⟩ rfl rfl hl.1 rfl (lv_room (Nat.le_of_ble_eq_true rfl)) dL_law_2529 ⟨(Nat.le_of_ble_eq_true rfl), (Nat.le_of_ble_eq_true rfl)⟩) hS (fun q _ h => hFc q h) hFc (fun r9 u t H1 locs ht hvm hw hB hz1 hk1 hS => ?_)
    obtain ⟨r_708, rfl⟩ : ∃ z9, z9 = r9 := ⟨_, rfl⟩
    have h_709 := hw
    obtain ⟨hP, hD⟩ := zx_join (wr := [(pe, .inr (9, [.int 0, .ref a1, .ref a2, .ref a3, .ref a4, .ref a5, .ref a6, .ref a7, .ref a8, .ref a9])), (a1, .inl (cy 0, 20, .inl (fun _ => 0))), (a2, .inl (cy 0, 20, .inl (fun _ => 0))), (ne, .inr (6, [.ref n1, .ref n2, .ref n3, .ref n4, .ref n5])), (n1, .inl (cy 0, 8, .inl (fun _ => 0))), (n2, .inl (cy 0, 8, .inl f2)), (n3, .inl (cy 0, 8, .inl f3)), (n4, .inl (cy 0, 8, .inl f4)), (n5, .inl (cy 1, 8, .inl f5)), (ro, .inl (cy 0, 20, .inl (fun _ => 0))), (b1, .inl (cy 0, 8, .inl (fun _ => 0))), (b2, .inl (cy 0, 8, .inl g2)), (b3, .inl (cy 0, 8, .inl g3)), (b4, .inl (cy 0, 8, .inl g4)), (b5, .inl (cy 1, 8, .inl g5)), (od, .inl (cy 4, 1, .inr (.inr (.inr (.inl (fun _ => 0))))))]) (w1 := [(m0, .inr (20, [.int 1, .ref mp, .int 0, .ref b1, .ref b2, .ref b3, .ref b4, .ref b5, .ref mq]))]) [10, 16, 17] [0, 1, 2, 3, 4, 5, 6, 7, 8, 9, 11, 12, 13, 14, 15, 18] rfl rfl (by decide) (by decide) hP hD hk1 hFc hB ht
    generalize H1 = H at hP hS ⊢
    have hP : va_P D vwCl [(pe, .inr (9, [.int 0, .ref a1, .ref a2, .ref a3, .ref a4, .ref a5, .ref a6, .ref a7, .ref a8, .ref a9])), (a1, .inl (cy 0, 20, .inl (fun _ => 0))), (a2, .inl (cy 0, 20, .inl (fun _ => 0))), (ne, .inr (6, [.ref n1, .ref n2, .ref n3, .ref n4, .ref n5])), (n1, .inl (cy 0, 8, .inl (fun _ => 0))), (n2, .inl (cy 0, 8, .inl f2)), (n3, .inl (cy 0, 8, .inl f3)), (n4, .inl (cy 0, 8, .inl f4)), (n5, .inl (cy 1, 8, .inl f5)), (ro, .inl (cy 0, 20, .inl (fun _ => 0))), (b1, .inl (cy 0, 8, .inl (fun _ => 0))), (b2, .inl (cy 0, 8, .inl g2)), (b3, .inl (cy 0, 8, .inl g3)), (b4, .inl (cy 0, 8, .inl g4)), (b5, .inl (cy 1, 8, .inl g5)), (od, .inl (cy 4, 1, .inr (.inr (.inr (.inl (fun _ => 0)))))), (m0, .inr (20, [.int 1, .ref mp, .int 0, .ref b1, .ref b2, .ref b3, .ref b4, .ref b5, .ref mq]))] H := hP
    have hD : va_D A [(pe, .inr (9, [.int 0, .ref a1, .ref a2, .ref a3, .ref a4, .ref a5, .ref a6, .ref a7, .ref a8, .ref a9])), (a1, .inl (cy 0, 20, .inl (fun _ => 0))), (a2, .inl (cy 0, 20, .inl (fun _ => 0))), (ne, .inr (6, [.ref n1, .ref n2, .ref n3, .ref n4, .ref n5])), (n1, .inl (cy 0, 8, .inl (fun _ => 0))), (n2, .inl (cy 0, 8, .inl f2)), (n3, .inl (cy 0, 8, .inl f3)), (n4, .inl (cy 0, 8, .inl f4)), (n5, .inl (cy 1, 8, .inl f5)), (ro, .inl (cy 0, 20, .inl (fun _ => 0))), (b1, .inl (cy 0, 8, .inl (fun _ => 0))), (b2, .inl (cy 0, 8, .inl g2)), (b3, .inl (cy 0, 8, .inl g3)), (b4, .inl (cy 0, 8, .inl g4)), (b5, .inl (cy 1, 8, .inl g5)), (od, .inl (cy 4, 1, .inr (.inr (.inr (.inl (fun _ => 0)))))), (m0, .inr (20, [.int 1, .ref mp, .int 0, .ref b1, .ref b2, .ref b3, .ref b4, .ref b5, .ref mq]))] := hD
    refine W.widen (k := 30) (n := 886) (Nat.le_of_ble_eq_true rfl) (Nat.le_of_ble_eq_true rfl) ?_
    refine lv_istore (lv' := [(7, .int r_708), (6, .int 1), (5, .int 0), (4, .ref od), (3, .ref oa), (2, .ref m0), (1, .ref h), (0, .ref b)]) hx hb dL_law_2532 hl (by decide) rfl (fun ls hl => ?_)
    refine lv_aload_n hx hb dL_law_2534 rfl (lv_at hl 5 rfl) ?_
    have hPc := hP.sub (ws' := [(m0, .inr (20, [.int 1, .ref mp, .int 0, .ref b1, .ref b2, .ref b3, .ref b4, .ref b5, .ref mq]))]) [16] rfl
    have hDc := hD.sub (ws' := [(m0, .inr (20, [.int 1, .ref mp, .int 0, .ref b1, .ref b2, .ref b3, .ref b4, .ref b5, .ref mq]))]) [16] (by decide) rfl
    have hFc := va_free (wc := [(m0, .inr (20, [.int 1, .ref mp, .int 0, .ref b1, .ref b2, .ref b3, .ref b4, .ref b5, .ref mq]))]) hD hS hA [16] rfl
    refine va_calli (va_runV (As := []) (rest := []) ⟨hx, hb, hml, hown, hts⟩ (c_X15_thrown l hst D cy ed H.size m0 mp mq b1 b2 b3 b4 b5 1 0) (cwV 0 hts (zx_GV mm_1599 mm_1600 mm_1601 mm_78 mm_1602) rfl rfl rfl (by decide +kernel) ⟨(Nat.le_of_ble_eq_true rfl), (Nat.le_of_ble_eq_true rfl)⟩) ⟨zx_blind, va_recv hK hPc (ci := 20) (q0 := 0) rfl rfl, zx_give hPc hK hDc hS hFc hZ hN⟩ rfl rfl hl.1 rfl (lv_room (Nat.le_of_ble_eq_true rfl)) dL_law_2535 ⟨(Nat.le_of_ble_eq_true rfl), (Nat.le_of_ble_eq_true rfl)⟩) hS (fun q _ h => hFc q h) hFc (fun r9 u t H1 locs ht hvm hw hB hz1 hk1 hS => ?_)
    obtain rfl : r9 = 1 := hw
    obtain ⟨hP, hD⟩ := zx_join (wr := [(pe, .inr (9, [.int 0, .ref a1, .ref a2, .ref a3, .ref a4, .ref a5, .ref a6, .ref a7, .ref a8, .ref a9])), (a1, .inl (cy 0, 20, .inl (fun _ => 0))), (a2, .inl (cy 0, 20, .inl (fun _ => 0))), (ne, .inr (6, [.ref n1, .ref n2, .ref n3, .ref n4, .ref n5])), (n1, .inl (cy 0, 8, .inl (fun _ => 0))), (n2, .inl (cy 0, 8, .inl f2)), (n3, .inl (cy 0, 8, .inl f3)), (n4, .inl (cy 0, 8, .inl f4)), (n5, .inl (cy 1, 8, .inl f5)), (ro, .inl (cy 0, 20, .inl (fun _ => 0))), (b1, .inl (cy 0, 8, .inl (fun _ => 0))), (b2, .inl (cy 0, 8, .inl g2)), (b3, .inl (cy 0, 8, .inl g3)), (b4, .inl (cy 0, 8, .inl g4)), (b5, .inl (cy 1, 8, .inl g5)), (od, .inl (cy 4, 1, .inr (.inr (.inr (.inl (fun _ => 0))))))]) (w1 := [(m0, .inr (20, [.int 1, .ref mp, .int 0, .ref b1, .ref b2, .ref b3, .ref b4, .ref b5, .ref mq]))]) [16] [0, 1, 2, 3, 4, 5, 6, 7, 8, 9, 10, 11, 12, 13, 14, 15] rfl rfl (by decide) (by decide) hP hD hk1 hFc hB ht
    generalize H1 = H at hP hS ⊢
    have hP : va_P D vwCl [(pe, .inr (9, [.int 0, .ref a1, .ref a2, .ref a3, .ref a4, .ref a5, .ref a6, .ref a7, .ref a8, .ref a9])), (a1, .inl (cy 0, 20, .inl (fun _ => 0))), (a2, .inl (cy 0, 20, .inl (fun _ => 0))), (ne, .inr (6, [.ref n1, .ref n2, .ref n3, .ref n4, .ref n5])), (n1, .inl (cy 0, 8, .inl (fun _ => 0))), (n2, .inl (cy 0, 8, .inl f2)), (n3, .inl (cy 0, 8, .inl f3)), (n4, .inl (cy 0, 8, .inl f4)), (n5, .inl (cy 1, 8, .inl f5)), (ro, .inl (cy 0, 20, .inl (fun _ => 0))), (b1, .inl (cy 0, 8, .inl (fun _ => 0))), (b2, .inl (cy 0, 8, .inl g2)), (b3, .inl (cy 0, 8, .inl g3)), (b4, .inl (cy 0, 8, .inl g4)), (b5, .inl (cy 1, 8, .inl g5)), (od, .inl (cy 4, 1, .inr (.inr (.inr (.inl (fun _ => 0)))))), (m0, .inr (20, [.int 1, .ref mp, .int 0, .ref b1, .ref b2, .ref b3, .ref b4, .ref b5, .ref mq]))] H := hP
    have hD : va_D A [(pe, .inr (9, [.int 0, .ref a1, .ref a2, .ref a3, .ref a4, .ref a5, .ref a6, .ref a7, .ref a8, .ref a9])), (a1, .inl (cy 0, 20, .inl (fun _ => 0))), (a2, .inl (cy 0, 20, .inl (fun _ => 0))), (ne, .inr (6, [.ref n1, .ref n2, .ref n3, .ref n4, .ref n5])), (n1, .inl (cy 0, 8, .inl (fun _ => 0))), (n2, .inl (cy 0, 8, .inl f2)), (n3, .inl (cy 0, 8, .inl f3)), (n4, .inl (cy 0, 8, .inl f4)), (n5, .inl (cy 1, 8, .inl f5)), (ro, .inl (cy 0, 20, .inl (fun _ => 0))), (b1, .inl (cy 0, 8, .inl (fun _ => 0))), (b2, .inl (cy 0, 8, .inl g2)), (b3, .inl (cy 0, 8, .inl g3)), (b4, .inl (cy 0, 8, .inl g4)), (b5, .inl (cy 1, 8, .inl g5)), (od, .inl (cy 4, 1, .inr (.inr (.inr (.inl (fun _ => 0)))))), (m0, .inr (20, [.int 1, .ref mp, .int 0, .ref b1, .ref b2, .ref b3, .ref b4, .ref b5, .ref mq]))] := hD
    refine W.widen (k := 30) (n := 886) (Nat.le_of_ble_eq_true rfl) (Nat.le_of_ble_eq_true rfl) ?_
    refine lv_iload hx hb dL_law_2538 (lv_at hl 1 rfl) ?_
    refine lv_icmp_eq (tgt := 2545) hx hb dL_law_2540 (by decide) (fun _ => ?_) (fun c_710 => absurd (by decide) c_710)
    refine lv_iload hx hb dL_law_2545 (lv_at hl 1 rfl) ?_
    refine lv_if_ne (tgt := 2562) hx hb dL_law_2547 (by decide) (fun _ => ?_) (fun c_711 => absurd c_711 (by decide))
    refine lv_goto (tgt := 4257) hx hb dL_law_2562 (by decide) ?_
    refine W.widen (k := 60) (n := 1200) (Nat.le_of_ble_eq_true rfl) (Nat.le_of_ble_eq_true rfl) ?_
    exact hend _ _ _ hS (lv_sub hl [7, 2] rfl)
set_option maxHeartbeats 4000000 in
set_option maxRecDepth 100000 in
theorem law_case_33 {p : Program} {l : Launch} {e : Env} {s : State} {m : MethodId} {below : List Frame} {meth : Method} {c : Code} {D : va_G} {cy : Nat → ClassId} {ed b : Nat} {xs : Nat → Int32} {A : Nat → Prop} {Q : State → Prop} (C0 : zx_LW p l s m c D cy ed b xs A)
    {h pe ne pa ro a1 a2 a3 a4 a5 a6 a7 a8 a9 n1 n2 n3 n4 n5 m0 mp b1 b2 b3 b4 b5 mq oa od : Nat} {f2 f3 f4 f5 g2 g3 g4 g5 : Nat → Int32} (hf5 : ∀ j, j < 8 → f5 j = 115) (hg5 : ∀ j, j < 8 → g5 j = 115) {H : Heap} {locs : List Loc} {ls : Array Slot}
    (hP : va_P D vwCl [(h, .inr (13, [.ref pe, .ref ne, .ref pa, .ref ro, .int 0])), (pe, .inr (9, [.int 0, .ref a1, .ref a2, .ref a3, .ref a4, .ref a5, .ref a6, .ref a7, .ref a8, .ref a9])), (a1, .inl (cy 0, 20, .inl (fun _ => 0))), (a2, .inl (cy 0, 20, .inl (fun _ => 0))), (ne, .inr (6, [.ref n1, .ref n2, .ref n3, .ref n4, .ref n5])), (n1, .inl (cy 0, 8, .inl (fun _ => 0))), (n2, .inl (cy 0, 8, .inl f2)), (n3, .inl (cy 0, 8, .inl f3)), (n4, .inl (cy 0, 8, .inl f4)), (n5, .inl (cy 1, 8, .inl f5)), (pa, .inr (4, [.int 0, .ref ed, .int 0])), (ro, .inl (cy 0, 20, .inl (fun _ => 0))), (m0, .inr (20, [.int 0, .ref mp, .int 0, .ref b1, .ref b2, .ref b3, .ref b4, .ref b5, .ref mq])), (b1, .inl (cy 0, 8, .inl (fun _ => 0))), (b2, .inl (cy 0, 8, .inl g2)), (b3, .inl (cy 0, 8, .inl g3)), (b4, .inl (cy 0, 8, .inl g4)), (b5, .inl (cy 1, 8, .inl g5)), (mp, .inr (4, [.int 0, .ref ed, .int 0])), (mq, .inr (4, [.int 0, .ref ed, .int 0])), (oa, .inl (cy 3, 1, .inr (.inl (fun _ => 0)))), (od, .inl (cy 4, 1, .inr (.inr (.inr (.inl (fun _ => 0))))))] H) (hD : va_D A [(h, .inr (13, [.ref pe, .ref ne, .ref pa, .ref ro, .int 0])), (pe, .inr (9, [.int 0, .ref a1, .ref a2, .ref a3, .ref a4, .ref a5, .ref a6, .ref a7, .ref a8, .ref a9])), (a1, .inl (cy 0, 20, .inl (fun _ => 0))), (a2, .inl (cy 0, 20, .inl (fun _ => 0))), (ne, .inr (6, [.ref n1, .ref n2, .ref n3, .ref n4, .ref n5])), (n1, .inl (cy 0, 8, .inl (fun _ => 0))), (n2, .inl (cy 0, 8, .inl f2)), (n3, .inl (cy 0, 8, .inl f3)), (n4, .inl (cy 0, 8, .inl f4)), (n5, .inl (cy 1, 8, .inl f5)), (pa, .inr (4, [.int 0, .ref ed, .int 0])), (ro, .inl (cy 0, 20, .inl (fun _ => 0))), (m0, .inr (20, [.int 0, .ref mp, .int 0, .ref b1, .ref b2, .ref b3, .ref b4, .ref b5, .ref mq])), (b1, .inl (cy 0, 8, .inl (fun _ => 0))), (b2, .inl (cy 0, 8, .inl g2)), (b3, .inl (cy 0, 8, .inl g3)), (b4, .inl (cy 0, 8, .inl g4)), (b5, .inl (cy 1, 8, .inl g5)), (mp, .inr (4, [.int 0, .ref ed, .int 0])), (mq, .inr (4, [.int 0, .ref ed, .int 0])), (oa, .inl (cy 3, 1, .inr (.inl (fun _ => 0)))), (od, .inl (cy 4, 1, .inr (.inr (.inr (.inl (fun _ => 0))))))]) (hS : va_S A s.heap H locs) (hl : lv_has ls 9 [(5, .int 0), (4, .ref od), (3, .ref oa), (2, .ref m0), (1, .ref h), (0, .ref b)])
    (hend : ∀ (H : Heap) (locs : List Loc) (ls : Array Slot), va_S A s.heap H locs → lv_has ls 9 [(0, .ref b), (5, .int 0)] → W p l e room_1 s m #[Value.ref b] below meth c H locs 60 1200 Q (F0 m 4257 ls [])) :
    W p l e room_1 s m #[Value.ref b] below meth c H locs 29 880 Q (F0 m 2565 ls []) := by
  obtain ⟨hx, hb, hml, hst, hown, hts, hX, hbl, hbA, hA, hK, hZ, hN⟩ := C0
  refine lv_aload_n hx hb dL_law_2565 rfl (lv_at hl 4 rfl) ?_
  refine lv_aload_n hx hb dL_law_2566 rfl (lv_at hl 5 rfl) ?_
  refine lv_iload hx hb dL_law_2567 (lv_at hl 0 rfl) ?_
  refine lv_iconst (v := 1) hx hb dL_law_2569 (by decide) ?_
  refine lv_iadd hx hb dL_law_2570 ?_
  refine lv_topi (fun y9 ey9 => ?_)
  obtain rfl : y9 = 1 := by rw [ey9] <;> decide
  refine va_sld hx hb hX hbl hbA hS (zx_bn (by decide)) dL_law_2571 ?_
  refine lv_aload_n hx hb dL_law_2572 rfl (lv_at hl 5 rfl) ?_
  refine lv_iload hx hb dL_law_2573 (lv_at hl 0 rfl) ?_
  refine lv_iconst (v := 2) hx hb dL_law_2575 (by decide) ?_
  refine lv_iadd hx hb dL_law_2576 ?_
  refine lv_topi (fun y9 ey9 => ?_)
  obtain rfl : y9 = 2 := by rw [ey9] <;> decide
  refine va_sld hx hb hX hbl hbA hS (zx_bn (by decide)) dL_law_2577 ?_
  refine lv_aload_n hx hb dL_law_2578 rfl (lv_at hl 2 rfl) ?_
  have hPc := hP.sub (ws' := [(h, .inr (13, [.ref pe, .ref ne, .ref pa, .ref ro, .int 0])), (pa, .inr (4, [.int 0, .ref ed, .int 0])), (oa, .inl (cy 3, 1, .inr (.inl (fun _ => 0))))]) [0, 10, 20] rfl
  have hDc := hD.sub (ws' := [(h, .inr (13, [.ref pe, .ref ne, .ref pa, .ref ro, .int 0])), (pa, .inr (4, [.int 0, .ref ed, .int 0])), (oa, .inl (cy 3, 1, .inr (.inl (fun _ => 0))))]) [0, 10, 20] (by decide) rfl
  have hFc := va_free (wc := [(h, .inr (13, [.ref pe, .ref ne, .ref pa, .ref ro, .int 0])), (pa, .inr (4, [.int 0, .ref ed, .int 0])), (oa, .inl (cy 3, 1, .inr (.inl (fun _ => 0))))]) hD hS hA [0, 10, 20] rfl
  refine vx_calli (vx_runSX (As := [.ref h, .int (xs (1 : Int32).toNatClampNeg), .int (xs (2 : Int32).toNatClampNeg), .ref oa]) (rest := []) ⟨hx, hb, hml, hown, hts⟩ (c_L_claim l hst D cy ed H.size h pe ne pa ro 0 0 ed oa (fun _ => 0) (xs (1 : Int32).toNatClampNeg) (xs (2 : Int32).toNatClampNeg)) (vx_cwSW 4 hts (zx_GS mm_1285 mm_1286 mm_70 mm_1287) rfl rfl rfl (by decide +kernel) ⟨(Nat.le_of_ble_eq_true rfl), (Nat.le_of_ble_eq_true rfl)⟩) ⟨zx_blind, zx_give hPc hK hDc hS hFc hZ hN⟩ rfl rfl hl.1 rfl (lv_room (Nat.le_of_ble_eq_true rfl)) dL_law_2579 ⟨(Nat.le_of_ble_eq_true rfl), (Nat.le_of_ble_eq_true rfl)⟩) hS (fun q _ h => hFc q h) hFc (fun q _ h => hFc q h) (fun E9 ce9 q9 _ t H locs ht hvm _ hBX hz1 hk1 hS hce hcv hcl => ?_) (fun r9 u t H locs ht hvm hw hB hz1 hk1 hS => ?_)
  · exact hBX.elim
  ·
    obtain rfl : r9 = 1 := hw
    obtain ⟨hP, hD⟩ := zx_join (wr := [(pe, .inr (9, [.int 0, .ref a1, .ref a2, .ref a3, .ref a4, .ref a5, .ref a6, .ref a7, .ref a8, .ref a9])), (a1, .inl (cy 0, 20, .inl (fun _ => 0))), (a2, .inl (cy 0, 20, .inl (fun _ => 0))), (ne, .inr (6, [.ref n1, .ref n2, .ref n3, .ref n4, .ref n5])), (n1, .inl (cy 0, 8, .inl (fun _ => 0))), (n2, .inl (cy 0, 8, .inl f2)), (n3, .inl (cy 0, 8, .inl f3)), (n4, .inl (cy 0, 8, .inl f4)), (n5, .inl (cy 1, 8, .inl f5)), (ro, .inl (cy 0, 20, .inl (fun _ => 0))), (m0, .inr (20, [.int 0, .ref mp, .int 0, .ref b1, .ref b2, .ref b3, .ref b4, .ref b5, .ref mq])), (b1, .inl (cy 0, 8, .inl (fun _ => 0))), (b2, .inl (cy 0, 8, .inl g2)), (b3, .inl (cy 0, 8, .inl g3)), (b4, .inl (cy 0, 8, .inl g4)), (b5, .inl (cy 1, 8, .inl g5)), (mp, .inr (4, [.int 0, .ref ed, .int 0])), (mq, .inr (4, [.int 0, .ref ed, .int 0])), (od, .inl (cy 4, 1, .inr (.inr (.inr (.inl (fun _ => 0))))))]) (w1 := []) [0, 10, 20] [1, 2, 3, 4, 5, 6, 7, 8, 9, 11, 12, 13, 14, 15, 16, 17, 18, 19, 21] rfl rfl (by decide) (by decide) hP hD hk1 hFc hB ht
    have hP : va_P D vwCl [(pe, .inr (9, [.int 0, .ref a1, .ref a2, .ref a3, .ref a4, .ref a5, .ref a6, .ref a7, .ref a8, .ref a9])), (a1, .inl (cy 0, 20, .inl (fun _ => 0))), (a2, .inl (cy 0, 20, .inl (fun _ => 0))), (ne, .inr (6, [.ref n1, .ref n2, .ref n3, .ref n4, .ref n5])), (n1, .inl (cy 0, 8, .inl (fun _ => 0))), (n2, .inl (cy 0, 8, .inl f2)), (n3, .inl (cy 0, 8, .inl f3)), (n4, .inl (cy 0, 8, .inl f4)), (n5, .inl (cy 1, 8, .inl f5)), (ro, .inl (cy 0, 20, .inl (fun _ => 0))), (m0, .inr (20, [.int 0, .ref mp, .int 0, .ref b1, .ref b2, .ref b3, .ref b4, .ref b5, .ref mq])), (b1, .inl (cy 0, 8, .inl (fun _ => 0))), (b2, .inl (cy 0, 8, .inl g2)), (b3, .inl (cy 0, 8, .inl g3)), (b4, .inl (cy 0, 8, .inl g4)), (b5, .inl (cy 1, 8, .inl g5)), (mp, .inr (4, [.int 0, .ref ed, .int 0])), (mq, .inr (4, [.int 0, .ref ed, .int 0])), (od, .inl (cy 4, 1, .inr (.inr (.inr (.inl (fun _ => 0))))))] H := hP
    have hD : va_D A [(pe, .inr (9, [.int 0, .ref a1, .ref a2, .ref a3, .ref a4, .ref a5, .ref a6, .ref a7, .ref a8, .ref a9])), (a1, .inl (cy 0, 20, .inl (fun _ => 0))), (a2, .inl (cy 0, 20, .inl (fun _ => 0))), (ne, .inr (6, [.ref n1, .ref n2, .ref n3, .ref n4, .ref n5])), (n1, .inl (cy 0, 8, .inl (fun _ => 0))), (n2, .inl (cy 0, 8, .inl f2)), (n3, .inl (cy 0, 8, .inl f3)), (n4, .inl (cy 0, 8, .inl f4)), (n5, .inl (cy 1, 8, .inl f5)), (ro, .inl (cy 0, 20, .inl (fun _ => 0))), (m0, .inr (20, [.int 0, .ref mp, .int 0, .ref b1, .ref b2, .ref b3, .ref b4, .ref b5, .ref mq])), (b1, .inl (cy 0, 8, .inl (fun _ => 0))), (b2, .inl (cy 0, 8, .inl g2)), (b3, .inl (cy 0, 8, .inl g3)), (b4, .inl (cy 0, 8, .inl g4)), (b5, .inl (cy 1, 8, .inl g5)), (mp, .inr (4, [.int 0, .ref ed, .int 0])), (mq, .inr (4, [.int 0, .ref ed, .int 0])), (od, .inl (cy 4, 1, .inr (.inr (.inr (.inl (fun _ => 0))))))] := hD
    refine W.widen (k := 30) (n := 886) (Nat.le_of_ble_eq_true rfl) (Nat.le_of_ble_eq_true rfl) ?_
    refine lv_istore (lv' := [(6, .int 1), (5, .int 0), (4, .ref od), (3, .ref oa), (2, .ref m0), (1, .ref h), (0, .ref b)]) hx hb dL_law_2582 hl (by decide) rfl (fun ls hl => ?_)
    refine lv_aload_n hx hb dL_law_2584 rfl (lv_at hl 4 rfl) ?_
    refine lv_aload_n hx hb dL_law_2585 rfl (lv_at hl 6 rfl) ?_
    refine lv_iload hx hb dL_law_2586 (lv_at hl 1 rfl) ?_
    refine lv_iconst (v := 1) hx hb dL_law_2588 (by decide) ?_
    refine lv_iadd hx hb dL_law_2589 ?_
    refine lv_topi (fun y9 ey9 => ?_)
    obtain rfl : y9 = 1 := by rw [ey9] <;> decide
    refine va_sld hx hb hX hbl hbA hS (zx_bn (by decide)) dL_law_2590 ?_
    refine lv_aload_n hx hb dL_law_2591 rfl (lv_at hl 6 rfl) ?_
    refine lv_iload hx hb dL_law_2592 (lv_at hl 1 rfl) ?_
    refine lv_iconst (v := 2) hx hb dL_law_2594 (by decide) ?_
    refine lv_iadd hx hb dL_law_2595 ?_
    refine lv_topi (fun y9 ey9 => ?_)
    obtain rfl : y9 = 2 := by rw [ey9] <;> decide
    refine va_sld hx hb hX hbl hbA hS (zx_bn (by decide)) dL_law_2596 ?_
    have hPc := hP.sub (ws' := [(m0, .inr (20, [.int 0, .ref mp, .int 0, .ref b1, .ref b2, .ref b3, .ref b4, .ref b5, .ref mq])), (mp, .inr (4, [.int 0, .ref ed, .int 0])), (mq, .inr (4, [.int 0, .ref ed, .int 0]))]) [10, 16, 17] rfl
    have hDc := hD.sub (ws' := [(m0, .inr (20, [.int 0, .ref mp, .int 0, .ref b1, .ref b2, .ref b3, .ref b4, .ref b5, .ref mq])), (mp, .inr (4, [.int 0, .ref ed, .int 0])), (mq, .inr (4, [.int 0, .ref ed, .int 0]))]) [10, 16, 17] (by decide) rfl
    have hFc := va_free (wc := [(m0, .inr (20, [.int 0, .ref mp, .int 0, .ref b1, .ref b2, .ref b3, .ref b4, .ref b5, .ref mq])), (mp, .inr (4, [.int 0, .ref ed, .int 0])), (mq, .inr (4, [.int 0, .ref ed, .int 0]))]) hD hS hA [10, 16, 17] rfl
    refine va_calli (va_runV (As := [.int (xs (1 : Int32).toNatClampNeg), .int (xs (2 : Int32).toNatClampNeg)]) (rest := []) ⟨hx, hb, hml, hown, hts⟩ (c_X15_claim l hst D cy ed H.size m0 mp mq b1 b2 b3 b4 b5 0 0 0 ed 0 ed (xs (1 : Int32).toNatClampNeg) (xs (2 : Int32).toNatClampNeg)) (cwV 2 hts (zx_GV mm_2341 mm_2342 mm_2343 mm_78 mm_2344) rfl rfl rfl (by decide +kernel) ⟨(Nat.le_of_ble_eq_true rfl), (Nat.le_of_ble_eq_true rfl)⟩) ⟨zx_blind, va_recv hK hPc (ci := 20) (q0 := 0) rfl rfl, zx_give hPc hK hDc hS hFc hZ hN⟩ rfl rfl hl.1 rfl (lv_room (Nat.le_of_ble_eq_true rfl)) dL_law_2597 ⟨(Nat.le_of_ble_eq_true rfl), (Nat.le_of_ble_eq_true rfl)⟩) hS (fun q _ h => hFc q h) hFc (fun r9 u t H1 locs ht hvm hw hB hz1 hk1 hS => ?_)
    obtain ⟨r_712, rfl⟩ : ∃ z9, z9 = r9 := ⟨_, rfl⟩
    have h_713 := hw
    obtain ⟨hP, hD⟩ := zx_join (wr := [(pe, .inr (9, [.int 0, .ref a1, .ref a2, .ref a3, .ref a4, .ref a5, .ref a6, .ref a7, .ref a8, .ref a9])), (a1, .inl (cy 0, 20, .inl (fun _ => 0))), (a2, .inl (cy 0, 20, .inl (fun _ => 0))), (ne, .inr (6, [.ref n1, .ref n2, .ref n3, .ref n4, .ref n5])), (n1, .inl (cy 0, 8, .inl (fun _ => 0))), (n2, .inl (cy 0, 8, .inl f2)), (n3, .inl (cy 0, 8, .inl f3)), (n4, .inl (cy 0, 8, .inl f4)), (n5, .inl (cy 1, 8, .inl f5)), (ro, .inl (cy 0, 20, .inl (fun _ => 0))), (b1, .inl (cy 0, 8, .inl (fun _ => 0))), (b2, .inl (cy 0, 8, .inl g2)), (b3, .inl (cy 0, 8, .inl g3)), (b4, .inl (cy 0, 8, .inl g4)), (b5, .inl (cy 1, 8, .inl g5)), (od, .inl (cy 4, 1, .inr (.inr (.inr (.inl (fun _ => 0))))))]) (w1 := [(m0, .inr (20, [.int 1, .ref mp, .int 0, .ref b1, .ref b2, .ref b3, .ref b4, .ref b5, .ref mq]))]) [10, 16, 17] [0, 1, 2, 3, 4, 5, 6, 7, 8, 9, 11, 12, 13, 14, 15, 18] rfl rfl (by decide) (by decide) hP hD hk1 hFc hB ht
    generalize H1 = H at hP hS ⊢
    have hP : va_P D vwCl [(pe, .inr (9, [.int 0, .ref a1, .ref a2, .ref a3, .ref a4, .ref a5, .ref a6, .ref a7, .ref a8, .ref a9])), (a1, .inl (cy 0, 20, .inl (fun _ => 0))), (a2, .inl (cy 0, 20, .inl (fun _ => 0))), (ne, .inr (6, [.ref n1, .ref n2, .ref n3, .ref n4, .ref n5])), (n1, .inl (cy 0, 8, .inl (fun _ => 0))), (n2, .inl (cy 0, 8, .inl f2)), (n3, .inl (cy 0, 8, .inl f3)), (n4, .inl (cy 0, 8, .inl f4)), (n5, .inl (cy 1, 8, .inl f5)), (ro, .inl (cy 0, 20, .inl (fun _ => 0))), (b1, .inl (cy 0, 8, .inl (fun _ => 0))), (b2, .inl (cy 0, 8, .inl g2)), (b3, .inl (cy 0, 8, .inl g3)), (b4, .inl (cy 0, 8, .inl g4)), (b5, .inl (cy 1, 8, .inl g5)), (od, .inl (cy 4, 1, .inr (.inr (.inr (.inl (fun _ => 0)))))), (m0, .inr (20, [.int 1, .ref mp, .int 0, .ref b1, .ref b2, .ref b3, .ref b4, .ref b5, .ref mq]))] H := hP
    have hD : va_D A [(pe, .inr (9, [.int 0, .ref a1, .ref a2, .ref a3, .ref a4, .ref a5, .ref a6, .ref a7, .ref a8, .ref a9])), (a1, .inl (cy 0, 20, .inl (fun _ => 0))), (a2, .inl (cy 0, 20, .inl (fun _ => 0))), (ne, .inr (6, [.ref n1, .ref n2, .ref n3, .ref n4, .ref n5])), (n1, .inl (cy 0, 8, .inl (fun _ => 0))), (n2, .inl (cy 0, 8, .inl f2)), (n3, .inl (cy 0, 8, .inl f3)), (n4, .inl (cy 0, 8, .inl f4)), (n5, .inl (cy 1, 8, .inl f5)), (ro, .inl (cy 0, 20, .inl (fun _ => 0))), (b1, .inl (cy 0, 8, .inl (fun _ => 0))), (b2, .inl (cy 0, 8, .inl g2)), (b3, .inl (cy 0, 8, .inl g3)), (b4, .inl (cy 0, 8, .inl g4)), (b5, .inl (cy 1, 8, .inl g5)), (od, .inl (cy 4, 1, .inr (.inr (.inr (.inl (fun _ => 0)))))), (m0, .inr (20, [.int 1, .ref mp, .int 0, .ref b1, .ref b2, .ref b3, .ref b4, .ref b5, .ref mq]))] := hD
    refine W.widen (k := 30) (n := 886) (Nat.le_of_ble_eq_true rfl) (Nat.le_of_ble_eq_true rfl) ?_
    refine lv_istore (lv' := [(7, .int r_712), (6, .int 1), (5, .int 0), (4, .ref od), (3, .ref oa), (2, .ref m0), (1, .ref h), (0, .ref b)]) hx hb dL_law_2600 hl (by decide) rfl (fun ls hl => ?_)
    refine lv_aload_n hx hb dL_law_2602 rfl (lv_at hl 5 rfl) ?_
    have hPc := hP.sub (ws' := [(m0, .inr (20, [.int 1, .ref mp, .int 0, .ref b1, .ref b2, .ref b3, .ref b4, .ref b5, .ref mq]))]) [16] rfl
    have hDc := hD.sub (ws' := [(m0, .inr (20, [.int 1, .ref mp, .int 0, .ref b1, .ref b2, .ref b3, .ref b4, .ref b5, .ref mq]))]) [16] (by decide) rfl
    have hFc := va_free (wc := [(m0, .inr (20, [.int 1, .ref mp, .int 0, .ref b1, .ref b2, .ref b3, .ref b4, .ref b5, .ref mq]))]) hD hS hA [16] rfl
    refine va_calli (va_runV (As := []) (rest := []) ⟨hx, hb, hml, hown, hts⟩ (c_X15_thrown l hst D cy ed H.size m0 mp mq b1 b2 b3 b4 b5 1 0) (cwV 0 hts (zx_GV mm_1599 mm_1600 mm_1601 mm_78 mm_1602) rfl rfl rfl (by decide +kernel) ⟨(Nat.le_of_ble_eq_true rfl), (Nat.le_of_ble_eq_true rfl)⟩) ⟨zx_blind, va_recv hK hPc (ci := 20) (q0 := 0) rfl rfl, zx_give hPc hK hDc hS hFc hZ hN⟩ rfl rfl hl.1 rfl (lv_room (Nat.le_of_ble_eq_true rfl)) dL_law_2603 ⟨(Nat.le_of_ble_eq_true rfl), (Nat.le_of_ble_eq_true rfl)⟩) hS (fun q _ h => hFc q h) hFc (fun r9 u t H1 locs ht hvm hw hB hz1 hk1 hS => ?_)
    obtain rfl : r9 = 1 := hw
    obtain ⟨hP, hD⟩ := zx_join (wr := [(pe, .inr (9, [.int 0, .ref a1, .ref a2, .ref a3, .ref a4, .ref a5, .ref a6, .ref a7, .ref a8, .ref a9])), (a1, .inl (cy 0, 20, .inl (fun _ => 0))), (a2, .inl (cy 0, 20, .inl (fun _ => 0))), (ne, .inr (6, [.ref n1, .ref n2, .ref n3, .ref n4, .ref n5])), (n1, .inl (cy 0, 8, .inl (fun _ => 0))), (n2, .inl (cy 0, 8, .inl f2)), (n3, .inl (cy 0, 8, .inl f3)), (n4, .inl (cy 0, 8, .inl f4)), (n5, .inl (cy 1, 8, .inl f5)), (ro, .inl (cy 0, 20, .inl (fun _ => 0))), (b1, .inl (cy 0, 8, .inl (fun _ => 0))), (b2, .inl (cy 0, 8, .inl g2)), (b3, .inl (cy 0, 8, .inl g3)), (b4, .inl (cy 0, 8, .inl g4)), (b5, .inl (cy 1, 8, .inl g5)), (od, .inl (cy 4, 1, .inr (.inr (.inr (.inl (fun _ => 0))))))]) (w1 := [(m0, .inr (20, [.int 1, .ref mp, .int 0, .ref b1, .ref b2, .ref b3, .ref b4, .ref b5, .ref mq]))]) [16] [0, 1, 2, 3, 4, 5, 6, 7, 8, 9, 10, 11, 12, 13, 14, 15] rfl rfl (by decide) (by decide) hP hD hk1 hFc hB ht
    generalize H1 = H at hP hS ⊢
    have hP : va_P D vwCl [(pe, .inr (9, [.int 0, .ref a1, .ref a2, .ref a3, .ref a4, .ref a5, .ref a6, .ref a7, .ref a8, .ref a9])), (a1, .inl (cy 0, 20, .inl (fun _ => 0))), (a2, .inl (cy 0, 20, .inl (fun _ => 0))), (ne, .inr (6, [.ref n1, .ref n2, .ref n3, .ref n4, .ref n5])), (n1, .inl (cy 0, 8, .inl (fun _ => 0))), (n2, .inl (cy 0, 8, .inl f2)), (n3, .inl (cy 0, 8, .inl f3)), (n4, .inl (cy 0, 8, .inl f4)), (n5, .inl (cy 1, 8, .inl f5)), (ro, .inl (cy 0, 20, .inl (fun _ => 0))), (b1, .inl (cy 0, 8, .inl (fun _ => 0))), (b2, .inl (cy 0, 8, .inl g2)), (b3, .inl (cy 0, 8, .inl g3)), (b4, .inl (cy 0, 8, .inl g4)), (b5, .inl (cy 1, 8, .inl g5)), (od, .inl (cy 4, 1, .inr (.inr (.inr (.inl (fun _ => 0)))))), (m0, .inr (20, [.int 1, .ref mp, .int 0, .ref b1, .ref b2, .ref b3, .ref b4, .ref b5, .ref mq]))] H := hP
    have hD : va_D A [(pe, .inr (9, [.int 0, .ref a1, .ref a2, .ref a3, .ref a4, .ref a5, .ref a6, .ref a7, .ref a8, .ref a9])), (a1, .inl (cy 0, 20, .inl (fun _ => 0))), (a2, .inl (cy 0, 20, .inl (fun _ => 0))), (ne, .inr (6, [.ref n1, .ref n2, .ref n3, .ref n4, .ref n5])), (n1, .inl (cy 0, 8, .inl (fun _ => 0))), (n2, .inl (cy 0, 8, .inl f2)), (n3, .inl (cy 0, 8, .inl f3)), (n4, .inl (cy 0, 8, .inl f4)), (n5, .inl (cy 1, 8, .inl f5)), (ro, .inl (cy 0, 20, .inl (fun _ => 0))), (b1, .inl (cy 0, 8, .inl (fun _ => 0))), (b2, .inl (cy 0, 8, .inl g2)), (b3, .inl (cy 0, 8, .inl g3)), (b4, .inl (cy 0, 8, .inl g4)), (b5, .inl (cy 1, 8, .inl g5)), (od, .inl (cy 4, 1, .inr (.inr (.inr (.inl (fun _ => 0)))))), (m0, .inr (20, [.int 1, .ref mp, .int 0, .ref b1, .ref b2, .ref b3, .ref b4, .ref b5, .ref mq]))] := hD
    refine W.widen (k := 30) (n := 886) (Nat.le_of_ble_eq_true rfl) (Nat.le_of_ble_eq_true rfl) ?_
    refine lv_iload hx hb dL_law_2606 (lv_at hl 1 rfl) ?_
    refine lv_icmp_eq (tgt := 2613) hx hb dL_law_2608 (by decide) (fun _ => ?_) (fun c_714 => absurd (by decide) c_714)
    refine lv_iload hx hb dL_law_2613 (lv_at hl 1 rfl) ?_
    refine lv_if_ne (tgt := 2630) hx hb dL_law_2615 (by decide) (fun _ => ?_) (fun c_715 => absurd c_715 (by decide))
    refine lv_goto (tgt := 4257) hx hb dL_law_2630 (by decide) ?_
    refine W.widen (k := 60) (n := 1200) (Nat.le_of_ble_eq_true rfl) (Nat.le_of_ble_eq_true rfl) ?_
    exact hend _ _ _ hS (lv_sub hl [7, 2] rfl)
set_option maxHeartbeats 4000000 in
set_option maxRecDepth 100000 in
theorem law_case_34 {p : Program} {l : Launch} {e : Env} {s : State} {m : MethodId} {below : List Frame} {meth : Method} {c : Code} {D : va_G} {cy : Nat → ClassId} {ed b : Nat} {xs : Nat → Int32} {A : Nat → Prop} {Q : State → Prop} (C0 : zx_LW p l s m c D cy ed b xs A)
    {h pe ne pa ro a1 a2 a3 a4 a5 a6 a7 a8 a9 n1 n2 n3 n4 n5 m0 mp b1 b2 b3 b4 b5 mq oa od : Nat} {f2 f3 f4 f5 g2 g3 g4 g5 : Nat → Int32} (hf5 : ∀ j, j < 8 → f5 j = 115) (hg5 : ∀ j, j < 8 → g5 j = 115) {H : Heap} {locs : List Loc} {ls : Array Slot}
    (hP : va_P D vwCl [(h, .inr (13, [.ref pe, .ref ne, .ref pa, .ref ro, .int 0])), (pe, .inr (9, [.int 0, .ref a1, .ref a2, .ref a3, .ref a4, .ref a5, .ref a6, .ref a7, .ref a8, .ref a9])), (a1, .inl (cy 0, 20, .inl (fun _ => 0))), (a2, .inl (cy 0, 20, .inl (fun _ => 0))), (ne, .inr (6, [.ref n1, .ref n2, .ref n3, .ref n4, .ref n5])), (n1, .inl (cy 0, 8, .inl (fun _ => 0))), (n2, .inl (cy 0, 8, .inl f2)), (n3, .inl (cy 0, 8, .inl f3)), (n4, .inl (cy 0, 8, .inl f4)), (n5, .inl (cy 1, 8, .inl f5)), (pa, .inr (4, [.int 0, .ref ed, .int 0])), (ro, .inl (cy 0, 20, .inl (fun _ => 0))), (m0, .inr (20, [.int 0, .ref mp, .int 0, .ref b1, .ref b2, .ref b3, .ref b4, .ref b5, .ref mq])), (b1, .inl (cy 0, 8, .inl (fun _ => 0))), (b2, .inl (cy 0, 8, .inl g2)), (b3, .inl (cy 0, 8, .inl g3)), (b4, .inl (cy 0, 8, .inl g4)), (b5, .inl (cy 1, 8, .inl g5)), (mp, .inr (4, [.int 0, .ref ed, .int 0])), (mq, .inr (4, [.int 0, .ref ed, .int 0])), (oa, .inl (cy 3, 1, .inr (.inl (fun _ => 0)))), (od, .inl (cy 4, 1, .inr (.inr (.inr (.inl (fun _ => 0))))))] H) (hD : va_D A [(h, .inr (13, [.ref pe, .ref ne, .ref pa, .ref ro, .int 0])), (pe, .inr (9, [.int 0, .ref a1, .ref a2, .ref a3, .ref a4, .ref a5, .ref a6, .ref a7, .ref a8, .ref a9])), (a1, .inl (cy 0, 20, .inl (fun _ => 0))), (a2, .inl (cy 0, 20, .inl (fun _ => 0))), (ne, .inr (6, [.ref n1, .ref n2, .ref n3, .ref n4, .ref n5])), (n1, .inl (cy 0, 8, .inl (fun _ => 0))), (n2, .inl (cy 0, 8, .inl f2)), (n3, .inl (cy 0, 8, .inl f3)), (n4, .inl (cy 0, 8, .inl f4)), (n5, .inl (cy 1, 8, .inl f5)), (pa, .inr (4, [.int 0, .ref ed, .int 0])), (ro, .inl (cy 0, 20, .inl (fun _ => 0))), (m0, .inr (20, [.int 0, .ref mp, .int 0, .ref b1, .ref b2, .ref b3, .ref b4, .ref b5, .ref mq])), (b1, .inl (cy 0, 8, .inl (fun _ => 0))), (b2, .inl (cy 0, 8, .inl g2)), (b3, .inl (cy 0, 8, .inl g3)), (b4, .inl (cy 0, 8, .inl g4)), (b5, .inl (cy 1, 8, .inl g5)), (mp, .inr (4, [.int 0, .ref ed, .int 0])), (mq, .inr (4, [.int 0, .ref ed, .int 0])), (oa, .inl (cy 3, 1, .inr (.inl (fun _ => 0)))), (od, .inl (cy 4, 1, .inr (.inr (.inr (.inl (fun _ => 0))))))]) (hS : va_S A s.heap H locs) (hl : lv_has ls 9 [(5, .int 0), (4, .ref od), (3, .ref oa), (2, .ref m0), (1, .ref h), (0, .ref b)])
    (hend : ∀ (H : Heap) (locs : List Loc) (ls : Array Slot), va_S A s.heap H locs → lv_has ls 9 [(0, .ref b), (5, .int 0)] → W p l e room_1 s m #[Value.ref b] below meth c H locs 60 1200 Q (F0 m 4257 ls [])) :
    W p l e room_1 s m #[Value.ref b] below meth c H locs 29 880 Q (F0 m 2633 ls []) := by
  obtain ⟨hx, hb, hml, hst, hown, hts, hX, hbl, hbA, hA, hK, hZ, hN⟩ := C0
  refine lv_aload_n hx hb dL_law_2633 rfl (lv_at hl 4 rfl) ?_
  refine lv_aload_n hx hb dL_law_2634 rfl (lv_at hl 5 rfl) ?_
  refine lv_iload hx hb dL_law_2635 (lv_at hl 0 rfl) ?_
  refine lv_iconst (v := 1) hx hb dL_law_2637 (by decide) ?_
  refine lv_iadd hx hb dL_law_2638 ?_
  refine lv_topi (fun y9 ey9 => ?_)
  obtain rfl : y9 = 1 := by rw [ey9] <;> decide
  refine va_sld hx hb hX hbl hbA hS (zx_bn (by decide)) dL_law_2639 ?_
  refine lv_aload_n hx hb dL_law_2640 rfl (lv_at hl 2 rfl) ?_
  have hPc := hP.sub (ws' := [(h, .inr (13, [.ref pe, .ref ne, .ref pa, .ref ro, .int 0])), (pa, .inr (4, [.int 0, .ref ed, .int 0])), (oa, .inl (cy 3, 1, .inr (.inl (fun _ => 0))))]) [0, 10, 20] rfl
  have hDc := hD.sub (ws' := [(h, .inr (13, [.ref pe, .ref ne, .ref pa, .ref ro, .int 0])), (pa, .inr (4, [.int 0, .ref ed, .int 0])), (oa, .inl (cy 3, 1, .inr (.inl (fun _ => 0))))]) [0, 10, 20] (by decide) rfl
  have hFc := va_free (wc := [(h, .inr (13, [.ref pe, .ref ne, .ref pa, .ref ro, .int 0])), (pa, .inr (4, [.int 0, .ref ed, .int 0])), (oa, .inl (cy 3, 1, .inr (.inl (fun _ => 0))))]) hD hS hA [0, 10, 20] rfl
  refine vx_calli (vx_runSX (As := [.ref h, .int (xs (1 : Int32).toNatClampNeg), .ref oa]) (rest := []) ⟨hx, hb, hml, hown, hts⟩ (c_L_isRight l hst D cy ed H.size h pe ne pa ro 0 0 ed oa (fun _ => 0) (xs (1 : Int32).toNatClampNeg)) (vx_cwSW 3 hts (zx_GS mm_1292 mm_1293 mm_70 mm_1294) rfl rfl rfl (by decide +kernel) ⟨(Nat.le_of_ble_eq_true rfl), (Nat.le_of_ble_eq_true rfl)⟩) ⟨zx_blind, zx_give hPc hK hDc hS hFc hZ hN⟩ rfl rfl hl.1 rfl (lv_room (Nat.le_of_ble_eq_true rfl)) dL_law_2641 ⟨(Nat.le_of_ble_eq_true rfl), (Nat.le_of_ble_eq_true rfl)⟩) hS (fun q _ h => hFc q h) hFc (fun q _ h => hFc q h) (fun E9 ce9 q9 _ t H locs ht hvm _ hBX hz1 hk1 hS hce hcv hcl => ?_) (fun r9 u t H locs ht hvm hw hB hz1 hk1 hS => ?_)
  · exact hBX.elim
  ·
    obtain rfl : r9 = 1 := hw
    obtain ⟨hP, hD⟩ := zx_join (wr := [(pe, .inr (9, [.int 0, .ref a1, .ref a2, .ref a3, .ref a4, .ref a5, .ref a6, .ref a7, .ref a8, .ref a9])), (a1, .inl (cy 0, 20, .inl (fun _ => 0))), (a2, .inl (cy 0, 20, .inl (fun _ => 0))), (ne, .inr (6, [.ref n1, .ref n2, .ref n3, .ref n4, .ref n5])), (n1, .inl (cy 0, 8, .inl (fun _ => 0))), (n2, .inl (cy 0, 8, .inl f2)), (n3, .inl (cy 0, 8, .inl f3)), (n4, .inl (cy 0, 8, .inl f4)), (n5, .inl (cy 1, 8, .inl f5)), (ro, .inl (cy 0, 20, .inl (fun _ => 0))), (m0, .inr (20, [.int 0, .ref mp, .int 0, .ref b1, .ref b2, .ref b3, .ref b4, .ref b5, .ref mq])), (b1, .inl (cy 0, 8, .inl (fun _ => 0))), (b2, .inl (cy 0, 8, .inl g2)), (b3, .inl (cy 0, 8, .inl g3)), (b4, .inl (cy 0, 8, .inl g4)), (b5, .inl (cy 1, 8, .inl g5)), (mp, .inr (4, [.int 0, .ref ed, .int 0])), (mq, .inr (4, [.int 0, .ref ed, .int 0])), (od, .inl (cy 4, 1, .inr (.inr (.inr (.inl (fun _ => 0))))))]) (w1 := []) [0, 10, 20] [1, 2, 3, 4, 5, 6, 7, 8, 9, 11, 12, 13, 14, 15, 16, 17, 18, 19, 21] rfl rfl (by decide) (by decide) hP hD hk1 hFc hB ht
    have hP : va_P D vwCl [(pe, .inr (9, [.int 0, .ref a1, .ref a2, .ref a3, .ref a4, .ref a5, .ref a6, .ref a7, .ref a8, .ref a9])), (a1, .inl (cy 0, 20, .inl (fun _ => 0))), (a2, .inl (cy 0, 20, .inl (fun _ => 0))), (ne, .inr (6, [.ref n1, .ref n2, .ref n3, .ref n4, .ref n5])), (n1, .inl (cy 0, 8, .inl (fun _ => 0))), (n2, .inl (cy 0, 8, .inl f2)), (n3, .inl (cy 0, 8, .inl f3)), (n4, .inl (cy 0, 8, .inl f4)), (n5, .inl (cy 1, 8, .inl f5)), (ro, .inl (cy 0, 20, .inl (fun _ => 0))), (m0, .inr (20, [.int 0, .ref mp, .int 0, .ref b1, .ref b2, .ref b3, .ref b4, .ref b5, .ref mq])), (b1, .inl (cy 0, 8, .inl (fun _ => 0))), (b2, .inl (cy 0, 8, .inl g2)), (b3, .inl (cy 0, 8, .inl g3)), (b4, .inl (cy 0, 8, .inl g4)), (b5, .inl (cy 1, 8, .inl g5)), (mp, .inr (4, [.int 0, .ref ed, .int 0])), (mq, .inr (4, [.int 0, .ref ed, .int 0])), (od, .inl (cy 4, 1, .inr (.inr (.inr (.inl (fun _ => 0))))))] H := hP
    have hD : va_D A [(pe, .inr (9, [.int 0, .ref a1, .ref a2, .ref a3, .ref a4, .ref a5, .ref a6, .ref a7, .ref a8, .ref a9])), (a1, .inl (cy 0, 20, .inl (fun _ => 0))), (a2, .inl (cy 0, 20, .inl (fun _ => 0))), (ne, .inr (6, [.ref n1, .ref n2, .ref n3, .ref n4, .ref n5])), (n1, .inl (cy 0, 8, .inl (fun _ => 0))), (n2, .inl (cy 0, 8, .inl f2)), (n3, .inl (cy 0, 8, .inl f3)), (n4, .inl (cy 0, 8, .inl f4)), (n5, .inl (cy 1, 8, .inl f5)), (ro, .inl (cy 0, 20, .inl (fun _ => 0))), (m0, .inr (20, [.int 0, .ref mp, .int 0, .ref b1, .ref b2, .ref b3, .ref b4, .ref b5, .ref mq])), (b1, .inl (cy 0, 8, .inl (fun _ => 0))), (b2, .inl (cy 0, 8, .inl g2)), (b3, .inl (cy 0, 8, .inl g3)), (b4, .inl (cy 0, 8, .inl g4)), (b5, .inl (cy 1, 8, .inl g5)), (mp, .inr (4, [.int 0, .ref ed, .int 0])), (mq, .inr (4, [.int 0, .ref ed, .int 0])), (od, .inl (cy 4, 1, .inr (.inr (.inr (.inl (fun _ => 0))))))] := hD
    refine W.widen (k := 30) (n := 886) (Nat.le_of_ble_eq_true rfl) (Nat.le_of_ble_eq_true rfl) ?_
    refine lv_istore (lv' := [(6, .int 1), (5, .int 0), (4, .ref od), (3, .ref oa), (2, .ref m0), (1, .ref h), (0, .ref b)]) hx hb dL_law_2644 hl (by decide) rfl (fun ls hl => ?_)
    refine lv_aload_n hx hb dL_law_2646 rfl (lv_at hl 4 rfl) ?_
    refine lv_aload_n hx hb dL_law_2647 rfl (lv_at hl 6 rfl) ?_
    refine lv_iload hx hb dL_law_2648 (lv_at hl 1 rfl) ?_
    refine lv_iconst (v := 1) hx hb dL_law_2650 (by decide) ?_
    refine lv_iadd hx hb dL_law_2651 ?_
    refine lv_topi (fun y9 ey9 => ?_)
    obtain rfl : y9 = 1 := by rw [ey9] <;> decide
    refine va_sld hx hb hX hbl hbA hS (zx_bn (by decide)) dL_law_2652 ?_
    have hPc := hP.sub (ws' := [(m0, .inr (20, [.int 0, .ref mp, .int 0, .ref b1, .ref b2, .ref b3, .ref b4, .ref b5, .ref mq])), (mp, .inr (4, [.int 0, .ref ed, .int 0])), (mq, .inr (4, [.int 0, .ref ed, .int 0]))]) [10, 16, 17] rfl
    have hDc := hD.sub (ws' := [(m0, .inr (20, [.int 0, .ref mp, .int 0, .ref b1, .ref b2, .ref b3, .ref b4, .ref b5, .ref mq])), (mp, .inr (4, [.int 0, .ref ed, .int 0])), (mq, .inr (4, [.int 0, .ref ed, .int 0]))]) [10, 16, 17] (by decide) rfl
    have hFc := va_free (wc := [(m0, .inr (20, [.int 0, .ref mp, .int 0, .ref b1, .ref b2, .ref b3, .ref b4, .ref b5, .ref mq])), (mp, .inr (4, [.int 0, .ref ed, .int 0])), (mq, .inr (4, [.int 0, .ref ed, .int 0]))]) hD hS hA [10, 16, 17] rfl
    refine va_calli (va_runV (As := [.int (xs (1 : Int32).toNatClampNeg)]) (rest := []) ⟨hx, hb, hml, hown, hts⟩ (c_X15_isRight l hst D cy ed H.size m0 mp mq b1 b2 b3 b4 b5 0 0 0 ed 0 ed (xs (1 : Int32).toNatClampNeg)) (cwV 1 hts (zx_GV mm_2345 mm_2346 mm_2347 mm_78 mm_2348) rfl rfl rfl (by decide +kernel) ⟨(Nat.le_of_ble_eq_true rfl), (Nat.le_of_ble_eq_true rfl)⟩) ⟨zx_blind, va_recv hK hPc (ci := 20) (q0 := 0) rfl rfl, zx_give hPc hK hDc hS hFc hZ hN⟩ rfl rfl hl.1 rfl (lv_room (Nat.le_of_ble_eq_true rfl)) dL_law_2653 ⟨(Nat.le_of_ble_eq_true rfl), (Nat.le_of_ble_eq_true rfl)⟩) hS (fun q _ h => hFc q h) hFc (fun r9 u t H1 locs ht hvm hw hB hz1 hk1 hS => ?_)
    obtain ⟨r_716, rfl⟩ : ∃ z9, z9 = r9 := ⟨_, rfl⟩
    have h_717 := hw
    obtain ⟨hP, hD⟩ := zx_join (wr := [(pe, .inr (9, [.int 0, .ref a1, .ref a2, .ref a3, .ref a4, .ref a5, .ref a6, .ref a7, .ref a8, .ref a9])), (a1, .inl (cy 0, 20, .inl (fun _ => 0))), (a2, .inl (cy 0, 20, .inl (fun _ => 0))), (ne, .inr (6, [.ref n1, .ref n2, .ref n3, .ref n4, .ref n5])), (n1, .inl (cy 0, 8, .inl (fun _ => 0))), (n2, .inl (cy 0, 8, .inl f2)), (n3, .inl (cy 0, 8, .inl f3)), (n4, .inl (cy 0, 8, .inl f4)), (n5, .inl (cy 1, 8, .inl f5)), (ro, .inl (cy 0, 20, .inl (fun _ => 0))), (b1, .inl (cy 0, 8, .inl (fun _ => 0))), (b2, .inl (cy 0, 8, .inl g2)), (b3, .inl (cy 0, 8, .inl g3)), (b4, .inl (cy 0, 8, .inl g4)), (b5, .inl (cy 1, 8, .inl g5)), (od, .inl (cy 4, 1, .inr (.inr (.inr (.inl (fun _ => 0))))))]) (w1 := [(m0, .inr (20, [.int 1, .ref mp, .int 0, .ref b1, .ref b2, .ref b3, .ref b4, .ref b5, .ref mq]))]) [10, 16, 17] [0, 1, 2, 3, 4, 5, 6, 7, 8, 9, 11, 12, 13, 14, 15, 18] rfl rfl (by decide) (by decide) hP hD hk1 hFc hB ht
    generalize H1 = H at hP hS ⊢
    have hP : va_P D vwCl [(pe, .inr (9, [.int 0, .ref a1, .ref a2, .ref a3, .ref a4, .ref a5, .ref a6, .ref a7, .ref a8, .ref a9])), (a1, .inl (cy 0, 20, .inl (fun _ => 0))), (a2, .inl (cy 0, 20, .inl (fun _ => 0))), (ne, .inr (6, [.ref n1, .ref n2, .ref n3, .ref n4, .ref n5])), (n1, .inl (cy 0, 8, .inl (fun _ => 0))), (n2, .inl (cy 0, 8, .inl f2)), (n3, .inl (cy 0, 8, .inl f3)), (n4, .inl (cy 0, 8, .inl f4)), (n5, .inl (cy 1, 8, .inl f5)), (ro, .inl (cy 0, 20, .inl (fun _ => 0))), (b1, .inl (cy 0, 8, .inl (fun _ => 0))), (b2, .inl (cy 0, 8, .inl g2)), (b3, .inl (cy 0, 8, .inl g3)), (b4, .inl (cy 0, 8, .inl g4)), (b5, .inl (cy 1, 8, .inl g5)), (od, .inl (cy 4, 1, .inr (.inr (.inr (.inl (fun _ => 0)))))), (m0, .inr (20, [.int 1, .ref mp, .int 0, .ref b1, .ref b2, .ref b3, .ref b4, .ref b5, .ref mq]))] H := hP
    have hD : va_D A [(pe, .inr (9, [.int 0, .ref a1, .ref a2, .ref a3, .ref a4, .ref a5, .ref a6, .ref a7, .ref a8, .ref a9])), (a1, .inl (cy 0, 20, .inl (fun _ => 0))), (a2, .inl (cy 0, 20, .inl (fun _ => 0))), (ne, .inr (6, [.ref n1, .ref n2, .ref n3, .ref n4, .ref n5])), (n1, .inl (cy 0, 8, .inl (fun _ => 0))), (n2, .inl (cy 0, 8, .inl f2)), (n3, .inl (cy 0, 8, .inl f3)), (n4, .inl (cy 0, 8, .inl f4)), (n5, .inl (cy 1, 8, .inl f5)), (ro, .inl (cy 0, 20, .inl (fun _ => 0))), (b1, .inl (cy 0, 8, .inl (fun _ => 0))), (b2, .inl (cy 0, 8, .inl g2)), (b3, .inl (cy 0, 8, .inl g3)), (b4, .inl (cy 0, 8, .inl g4)), (b5, .inl (cy 1, 8, .inl g5)), (od, .inl (cy 4, 1, .inr (.inr (.inr (.inl (fun _ => 0)))))), (m0, .inr (20, [.int 1, .ref mp, .int 0, .ref b1, .ref b2, .ref b3, .ref b4, .ref b5, .ref mq]))] := hD
    refine W.widen (k := 30) (n := 886) (Nat.le_of_ble_eq_true rfl) (Nat.le_of_ble_eq_true rfl) ?_
    refine lv_istore (lv' := [(7, .int r_716), (6, .int 1), (5, .int 0), (4, .ref od), (3, .ref oa), (2, .ref m0), (1, .ref h), (0, .ref b)]) hx hb dL_law_2656 hl (by decide) rfl (fun ls hl => ?_)
    refine lv_aload_n hx hb dL_law_2658 rfl (lv_at hl 5 rfl) ?_
    have hPc := hP.sub (ws' := [(m0, .inr (20, [.int 1, .ref mp, .int 0, .ref b1, .ref b2, .ref b3, .ref b4, .ref b5, .ref mq]))]) [16] rfl
    have hDc := hD.sub (ws' := [(m0, .inr (20, [.int 1, .ref mp, .int 0, .ref b1, .ref b2, .ref b3, .ref b4, .ref b5, .ref mq]))]) [16] (by decide) rfl
    have hFc := va_free (wc := [(m0, .inr (20, [.int 1, .ref mp, .int 0, .ref b1, .ref b2, .ref b3, .ref b4, .ref b5, .ref mq]))]) hD hS hA [16] rfl
    refine va_calli (va_runV (As := []) (rest := []) ⟨hx, hb, hml, hown, hts⟩ (c_X15_thrown l hst D cy ed H.size m0 mp mq b1 b2 b3 b4 b5 1 0) (cwV 0 hts (zx_GV mm_1599 mm_1600 mm_1601 mm_78 mm_1602) rfl rfl rfl (by decide +kernel) ⟨(Nat.le_of_ble_eq_true rfl), (Nat.le_of_ble_eq_true rfl)⟩) ⟨zx_blind, va_recv hK hPc (ci := 20) (q0 := 0) rfl rfl, zx_give hPc hK hDc hS hFc hZ hN⟩ rfl rfl hl.1 rfl (lv_room (Nat.le_of_ble_eq_true rfl)) dL_law_2659 ⟨(Nat.le_of_ble_eq_true rfl), (Nat.le_of_ble_eq_true rfl)⟩) hS (fun q _ h => hFc q h) hFc (fun r9 u t H1 locs ht hvm hw hB hz1 hk1 hS => ?_)
    obtain rfl : r9 = 1 := hw
    obtain ⟨hP, hD⟩ := zx_join (wr := [(pe, .inr (9, [.int 0, .ref a1, .ref a2, .ref a3, .ref a4, .ref a5, .ref a6, .ref a7, .ref a8, .ref a9])), (a1, .inl (cy 0, 20, .inl (fun _ => 0))), (a2, .inl (cy 0, 20, .inl (fun _ => 0))), (ne, .inr (6, [.ref n1, .ref n2, .ref n3, .ref n4, .ref n5])), (n1, .inl (cy 0, 8, .inl (fun _ => 0))), (n2, .inl (cy 0, 8, .inl f2)), (n3, .inl (cy 0, 8, .inl f3)), (n4, .inl (cy 0, 8, .inl f4)), (n5, .inl (cy 1, 8, .inl f5)), (ro, .inl (cy 0, 20, .inl (fun _ => 0))), (b1, .inl (cy 0, 8, .inl (fun _ => 0))), (b2, .inl (cy 0, 8, .inl g2)), (b3, .inl (cy 0, 8, .inl g3)), (b4, .inl (cy 0, 8, .inl g4)), (b5, .inl (cy 1, 8, .inl g5)), (od, .inl (cy 4, 1, .inr (.inr (.inr (.inl (fun _ => 0))))))]) (w1 := [(m0, .inr (20, [.int 1, .ref mp, .int 0, .ref b1, .ref b2, .ref b3, .ref b4, .ref b5, .ref mq]))]) [16] [0, 1, 2, 3, 4, 5, 6, 7, 8, 9, 10, 11, 12, 13, 14, 15] rfl rfl (by decide) (by decide) hP hD hk1 hFc hB ht
    generalize H1 = H at hP hS ⊢
    have hP : va_P D vwCl [(pe, .inr (9, [.int 0, .ref a1, .ref a2, .ref a3, .ref a4, .ref a5, .ref a6, .ref a7, .ref a8, .ref a9])), (a1, .inl (cy 0, 20, .inl (fun _ => 0))), (a2, .inl (cy 0, 20, .inl (fun _ => 0))), (ne, .inr (6, [.ref n1, .ref n2, .ref n3, .ref n4, .ref n5])), (n1, .inl (cy 0, 8, .inl (fun _ => 0))), (n2, .inl (cy 0, 8, .inl f2)), (n3, .inl (cy 0, 8, .inl f3)), (n4, .inl (cy 0, 8, .inl f4)), (n5, .inl (cy 1, 8, .inl f5)), (ro, .inl (cy 0, 20, .inl (fun _ => 0))), (b1, .inl (cy 0, 8, .inl (fun _ => 0))), (b2, .inl (cy 0, 8, .inl g2)), (b3, .inl (cy 0, 8, .inl g3)), (b4, .inl (cy 0, 8, .inl g4)), (b5, .inl (cy 1, 8, .inl g5)), (od, .inl (cy 4, 1, .inr (.inr (.inr (.inl (fun _ => 0)))))), (m0, .inr (20, [.int 1, .ref mp, .int 0, .ref b1, .ref b2, .ref b3, .ref b4, .ref b5, .ref mq]))] H := hP
    have hD : va_D A [(pe, .inr (9, [.int 0, .ref a1, .ref a2, .ref a3, .ref a4, .ref a5, .ref a6, .ref a7, .ref a8, .ref a9])), (a1, .inl (cy 0, 20, .inl (fun _ => 0))), (a2, .inl (cy 0, 20, .inl (fun _ => 0))), (ne, .inr (6, [.ref n1, .ref n2, .ref n3, .ref n4, .ref n5])), (n1, .inl (cy 0, 8, .inl (fun _ => 0))), (n2, .inl (cy 0, 8, .inl f2)), (n3, .inl (cy 0, 8, .inl f3)), (n4, .inl (cy 0, 8, .inl f4)), (n5, .inl (cy 1, 8, .inl f5)), (ro, .inl (cy 0, 20, .inl (fun _ => 0))), (b1, .inl (cy 0, 8, .inl (fun _ => 0))), (b2, .inl (cy 0, 8, .inl g2)), (b3, .inl (cy 0, 8, .inl g3)), (b4, .inl (cy 0, 8, .inl g4)), (b5, .inl (cy 1, 8, .inl g5)), (od, .inl (cy 4, 1, .inr (.inr (.inr (.inl (fun _ => 0)))))), (m0, .inr (20, [.int 1, .ref mp, .int 0, .ref b1, .ref b2, .ref b3, .ref b4, .ref b5, .ref mq]))] := hD
    refine W.widen (k := 30) (n := 886) (Nat.le_of_ble_eq_true rfl) (Nat.le_of_ble_eq_true rfl) ?_
    refine lv_iload hx hb dL_law_2662 (lv_at hl 1 rfl) ?_
    refine lv_icmp_eq (tgt := 2669) hx hb dL_law_2664 (by decide) (fun _ => ?_) (fun c_718 => absurd (by decide) c_718)
    refine lv_iload hx hb dL_law_2669 (lv_at hl 1 rfl) ?_
    refine lv_if_ne (tgt := 2693) hx hb dL_law_2671 (by decide) (fun _ => ?_) (fun c_719 => absurd c_719 (by decide))
    refine lv_goto (tgt := 4257) hx hb dL_law_2693 (by decide) ?_
    refine W.widen (k := 60) (n := 1200) (Nat.le_of_ble_eq_true rfl) (Nat.le_of_ble_eq_true rfl) ?_
    exact hend _ _ _ hS (lv_sub hl [7, 2] rfl)
set_option maxHeartbeats 4000000 in
set_option maxRecDepth 100000 in
theorem law_case_35 {p : Program} {l : Launch} {e : Env} {s : State} {m : MethodId} {below : List Frame} {meth : Method} {c : Code} {D : va_G} {cy : Nat → ClassId} {ed b : Nat} {xs : Nat → Int32} {A : Nat → Prop} {Q : State → Prop} (C0 : zx_LW p l s m c D cy ed b xs A)
    {h pe ne pa ro a1 a2 a3 a4 a5 a6 a7 a8 a9 n1 n2 n3 n4 n5 m0 mp b1 b2 b3 b4 b5 mq oa od : Nat} {f2 f3 f4 f5 g2 g3 g4 g5 : Nat → Int32} (hf5 : ∀ j, j < 8 → f5 j = 115) (hg5 : ∀ j, j < 8 → g5 j = 115) {H : Heap} {locs : List Loc} {ls : Array Slot}
    (hP : va_P D vwCl [(h, .inr (13, [.ref pe, .ref ne, .ref pa, .ref ro, .int 0])), (pe, .inr (9, [.int 0, .ref a1, .ref a2, .ref a3, .ref a4, .ref a5, .ref a6, .ref a7, .ref a8, .ref a9])), (a1, .inl (cy 0, 20, .inl (fun _ => 0))), (a2, .inl (cy 0, 20, .inl (fun _ => 0))), (ne, .inr (6, [.ref n1, .ref n2, .ref n3, .ref n4, .ref n5])), (n1, .inl (cy 0, 8, .inl (fun _ => 0))), (n2, .inl (cy 0, 8, .inl f2)), (n3, .inl (cy 0, 8, .inl f3)), (n4, .inl (cy 0, 8, .inl f4)), (n5, .inl (cy 1, 8, .inl f5)), (pa, .inr (4, [.int 0, .ref ed, .int 0])), (ro, .inl (cy 0, 20, .inl (fun _ => 0))), (m0, .inr (20, [.int 0, .ref mp, .int 0, .ref b1, .ref b2, .ref b3, .ref b4, .ref b5, .ref mq])), (b1, .inl (cy 0, 8, .inl (fun _ => 0))), (b2, .inl (cy 0, 8, .inl g2)), (b3, .inl (cy 0, 8, .inl g3)), (b4, .inl (cy 0, 8, .inl g4)), (b5, .inl (cy 1, 8, .inl g5)), (mp, .inr (4, [.int 0, .ref ed, .int 0])), (mq, .inr (4, [.int 0, .ref ed, .int 0])), (oa, .inl (cy 3, 1, .inr (.inl (fun _ => 0)))), (od, .inl (cy 4, 1, .inr (.inr (.inr (.inl (fun _ => 0))))))] H) (hD : va_D A [(h, .inr (13, [.ref pe, .ref ne, .ref pa, .ref ro, .int 0])), (pe, .inr (9, [.int 0, .ref a1, .ref a2, .ref a3, .ref a4, .ref a5, .ref a6, .ref a7, .ref a8, .ref a9])), (a1, .inl (cy 0, 20, .inl (fun _ => 0))), (a2, .inl (cy 0, 20, .inl (fun _ => 0))), (ne, .inr (6, [.ref n1, .ref n2, .ref n3, .ref n4, .ref n5])), (n1, .inl (cy 0, 8, .inl (fun _ => 0))), (n2, .inl (cy 0, 8, .inl f2)), (n3, .inl (cy 0, 8, .inl f3)), (n4, .inl (cy 0, 8, .inl f4)), (n5, .inl (cy 1, 8, .inl f5)), (pa, .inr (4, [.int 0, .ref ed, .int 0])), (ro, .inl (cy 0, 20, .inl (fun _ => 0))), (m0, .inr (20, [.int 0, .ref mp, .int 0, .ref b1, .ref b2, .ref b3, .ref b4, .ref b5, .ref mq])), (b1, .inl (cy 0, 8, .inl (fun _ => 0))), (b2, .inl (cy 0, 8, .inl g2)), (b3, .inl (cy 0, 8, .inl g3)), (b4, .inl (cy 0, 8, .inl g4)), (b5, .inl (cy 1, 8, .inl g5)), (mp, .inr (4, [.int 0, .ref ed, .int 0])), (mq, .inr (4, [.int 0, .ref ed, .int 0])), (oa, .inl (cy 3, 1, .inr (.inl (fun _ => 0)))), (od, .inl (cy 4, 1, .inr (.inr (.inr (.inl (fun _ => 0))))))]) (hS : va_S A s.heap H locs) (hl : lv_has ls 9 [(5, .int 0), (4, .ref od), (3, .ref oa), (2, .ref m0), (1, .ref h), (0, .ref b)])
    (hend : ∀ (H : Heap) (locs : List Loc) (ls : Array Slot), va_S A s.heap H locs → lv_has ls 9 [(0, .ref b), (5, .int 0)] → W p l e room_1 s m #[Value.ref b] below meth c H locs 60 1200 Q (F0 m 4257 ls [])) :
    W p l e room_1 s m #[Value.ref b] below meth c H locs 29 880 Q (F0 m 2696 ls []) := by
  obtain ⟨hx, hb, hml, hst, hown, hts, hX, hbl, hbA, hA, hK, hZ, hN⟩ := C0
  refine lv_aload_n hx hb dL_law_2696 rfl (lv_at hl 4 rfl) ?_
  refine lv_aload_n hx hb dL_law_2697 rfl (lv_at hl 5 rfl) ?_
  refine lv_iload hx hb dL_law_2698 (lv_at hl 0 rfl) ?_
  refine lv_iconst (v := 1) hx hb dL_law_2700 (by decide) ?_
  refine lv_iadd hx hb dL_law_2701 ?_
  refine lv_topi (fun y9 ey9 => ?_)
  obtain rfl : y9 = 1 := by rw [ey9] <;> decide
  refine va_sld hx hb hX hbl hbA hS (zx_bn (by decide)) dL_law_2702 ?_
  refine lv_aload_n hx hb dL_law_2703 rfl (lv_at hl 5 rfl) ?_
  refine lv_iload hx hb dL_law_2704 (lv_at hl 0 rfl) ?_
  refine lv_iconst (v := 2) hx hb dL_law_2706 (by decide) ?_
  refine lv_iadd hx hb dL_law_2707 ?_
  refine lv_topi (fun y9 ey9 => ?_)
  obtain rfl : y9 = 2 := by rw [ey9] <;> decide
  refine va_sld hx hb hX hbl hbA hS (zx_bn (by decide)) dL_law_2708 ?_
  refine lv_aload_n hx hb dL_law_2709 rfl (lv_at hl 2 rfl) ?_
  have hPc := hP.sub (ws' := [(h, .inr (13, [.ref pe, .ref ne, .ref pa, .ref ro, .int 0])), (pa, .inr (4, [.int 0, .ref ed, .int 0])), (oa, .inl (cy 3, 1, .inr (.inl (fun _ => 0))))]) [0, 10, 20] rfl
  have hDc := hD.sub (ws' := [(h, .inr (13, [.ref pe, .ref ne, .ref pa, .ref ro, .int 0])), (pa, .inr (4, [.int 0, .ref ed, .int 0])), (oa, .inl (cy 3, 1, .inr (.inl (fun _ => 0))))]) [0, 10, 20] (by decide) rfl
  have hFc := va_free (wc := [(h, .inr (13, [.ref pe, .ref ne, .ref pa, .ref ro, .int 0])), (pa, .inr (4, [.int 0, .ref ed, .int 0])), (oa, .inl (cy 3, 1, .inr (.inl (fun _ => 0))))]) hD hS hA [0, 10, 20] rfl
  refine vx_calli (vx_runSX (As := [.ref h, .int (xs (1 : Int32).toNatClampNeg), .int (xs (2 : Int32).toNatClampNeg), .ref oa]) (rest := []) ⟨hx, hb, hml, hown, hts⟩ (c_L_likeness l hst D cy ed H.size h pe ne pa ro 0 0 ed oa (fun _ => 0) (xs (1 : Int32).toNatClampNeg) (xs (2 : Int32).toNatClampNeg)) (vx_cwSW 4 hts (zx_GS mm_1299 mm_1300 mm_70 mm_1301) rfl rfl rfl (by decide +kernel) ⟨(Nat.le_of_ble_eq_true rfl), (Nat.le_of_ble_eq_true rfl)⟩) ⟨zx_blind, zx_give hPc hK hDc hS hFc hZ hN⟩ rfl rfl hl.1 rfl (lv_room (Nat.le_of_ble_eq_true rfl)) dL_law_2710 ⟨(Nat.le_of_ble_eq_true rfl), (Nat.le_of_ble_eq_true rfl)⟩) hS (fun q _ h => hFc q h) hFc (fun q _ h => hFc q h) (fun E9 ce9 q9 _ t H locs ht hvm _ hBX hz1 hk1 hS hce hcv hcl => ?_) (fun r9 u t H locs ht hvm hw hB hz1 hk1 hS => ?_)
  · exact hBX.elim
  ·
    obtain rfl : r9 = 1 := hw
    obtain ⟨hP, hD⟩ := zx_join (wr := [(pe, .inr (9, [.int 0, .ref a1, .ref a2, .ref a3, .ref a4, .ref a5, .ref a6, .ref a7, .ref a8, .ref a9])), (a1, .inl (cy 0, 20, .inl (fun _ => 0))), (a2, .inl (cy 0, 20, .inl (fun _ => 0))), (ne, .inr (6, [.ref n1, .ref n2, .ref n3, .ref n4, .ref n5])), (n1, .inl (cy 0, 8, .inl (fun _ => 0))), (n2, .inl (cy 0, 8, .inl f2)), (n3, .inl (cy 0, 8, .inl f3)), (n4, .inl (cy 0, 8, .inl f4)), (n5, .inl (cy 1, 8, .inl f5)), (ro, .inl (cy 0, 20, .inl (fun _ => 0))), (m0, .inr (20, [.int 0, .ref mp, .int 0, .ref b1, .ref b2, .ref b3, .ref b4, .ref b5, .ref mq])), (b1, .inl (cy 0, 8, .inl (fun _ => 0))), (b2, .inl (cy 0, 8, .inl g2)), (b3, .inl (cy 0, 8, .inl g3)), (b4, .inl (cy 0, 8, .inl g4)), (b5, .inl (cy 1, 8, .inl g5)), (mp, .inr (4, [.int 0, .ref ed, .int 0])), (mq, .inr (4, [.int 0, .ref ed, .int 0])), (od, .inl (cy 4, 1, .inr (.inr (.inr (.inl (fun _ => 0))))))]) (w1 := []) [0, 10, 20] [1, 2, 3, 4, 5, 6, 7, 8, 9, 11, 12, 13, 14, 15, 16, 17, 18, 19, 21] rfl rfl (by decide) (by decide) hP hD hk1 hFc hB ht
    have hP : va_P D vwCl [(pe, .inr (9, [.int 0, .ref a1, .ref a2, .ref a3, .ref a4, .ref a5, .ref a6, .ref a7, .ref a8, .ref a9])), (a1, .inl (cy 0, 20, .inl (fun _ => 0))), (a2, .inl (cy 0, 20, .inl (fun _ => 0))), (ne, .inr (6, [.ref n1, .ref n2, .ref n3, .ref n4, .ref n5])), (n1, .inl (cy 0, 8, .inl (fun _ => 0))), (n2, .inl (cy 0, 8, .inl f2)), (n3, .inl (cy 0, 8, .inl f3)), (n4, .inl (cy 0, 8, .inl f4)), (n5, .inl (cy 1, 8, .inl f5)), (ro, .inl (cy 0, 20, .inl (fun _ => 0))), (m0, .inr (20, [.int 0, .ref mp, .int 0, .ref b1, .ref b2, .ref b3, .ref b4, .ref b5, .ref mq])), (b1, .inl (cy 0, 8, .inl (fun _ => 0))), (b2, .inl (cy 0, 8, .inl g2)), (b3, .inl (cy 0, 8, .inl g3)), (b4, .inl (cy 0, 8, .inl g4)), (b5, .inl (cy 1, 8, .inl g5)), (mp, .inr (4, [.int 0, .ref ed, .int 0])), (mq, .inr (4, [.int 0, .ref ed, .int 0])), (od, .inl (cy 4, 1, .inr (.inr (.inr (.inl (fun _ => 0))))))] H := hP
    have hD : va_D A [(pe, .inr (9, [.int 0, .ref a1, .ref a2, .ref a3, .ref a4, .ref a5, .ref a6, .ref a7, .ref a8, .ref a9])), (a1, .inl (cy 0, 20, .inl (fun _ => 0))), (a2, .inl (cy 0, 20, .inl (fun _ => 0))), (ne, .inr (6, [.ref n1, .ref n2, .ref n3, .ref n4, .ref n5])), (n1, .inl (cy 0, 8, .inl (fun _ => 0))), (n2, .inl (cy 0, 8, .inl f2)), (n3, .inl (cy 0, 8, .inl f3)), (n4, .inl (cy 0, 8, .inl f4)), (n5, .inl (cy 1, 8, .inl f5)), (ro, .inl (cy 0, 20, .inl (fun _ => 0))), (m0, .inr (20, [.int 0, .ref mp, .int 0, .ref b1, .ref b2, .ref b3, .ref b4, .ref b5, .ref mq])), (b1, .inl (cy 0, 8, .inl (fun _ => 0))), (b2, .inl (cy 0, 8, .inl g2)), (b3, .inl (cy 0, 8, .inl g3)), (b4, .inl (cy 0, 8, .inl g4)), (b5, .inl (cy 1, 8, .inl g5)), (mp, .inr (4, [.int 0, .ref ed, .int 0])), (mq, .inr (4, [.int 0, .ref ed, .int 0])), (od, .inl (cy 4, 1, .inr (.inr (.inr (.inl (fun _ => 0))))))] := hD
    refine W.widen (k := 30) (n := 886) (Nat.le_of_ble_eq_true rfl) (Nat.le_of_ble_eq_true rfl) ?_
    refine lv_istore (lv' := [(6, .int 1), (5, .int 0), (4, .ref od), (3, .ref oa), (2, .ref m0), (1, .ref h), (0, .ref b)]) hx hb dL_law_2713 hl (by decide) rfl (fun ls hl => ?_)
    refine lv_aload_n hx hb dL_law_2715 rfl (lv_at hl 4 rfl) ?_
    refine lv_aload_n hx hb dL_law_2716 rfl (lv_at hl 6 rfl) ?_
    refine lv_iload hx hb dL_law_2717 (lv_at hl 1 rfl) ?_
    refine lv_iconst (v := 1) hx hb dL_law_2719 (by decide) ?_
    refine lv_iadd hx hb dL_law_2720 ?_
    refine lv_topi (fun y9 ey9 => ?_)
    obtain rfl : y9 = 1 := by rw [ey9] <;> decide
    refine va_sld hx hb hX hbl hbA hS (zx_bn (by decide)) dL_law_2721 ?_
    refine lv_aload_n hx hb dL_law_2722 rfl (lv_at hl 6 rfl) ?_
    refine lv_iload hx hb dL_law_2723 (lv_at hl 1 rfl) ?_
    refine lv_iconst (v := 2) hx hb dL_law_2725 (by decide) ?_
    refine lv_iadd hx hb dL_law_2726 ?_
    refine lv_topi (fun y9 ey9 => ?_)
    obtain rfl : y9 = 2 := by rw [ey9] <;> decide
    refine va_sld hx hb hX hbl hbA hS (zx_bn (by decide)) dL_law_2727 ?_
    have hPc := hP.sub (ws' := [(m0, .inr (20, [.int 0, .ref mp, .int 0, .ref b1, .ref b2, .ref b3, .ref b4, .ref b5, .ref mq])), (mp, .inr (4, [.int 0, .ref ed, .int 0])), (mq, .inr (4, [.int 0, .ref ed, .int 0]))]) [10, 16, 17] rfl
    have hDc := hD.sub (ws' := [(m0, .inr (20, [.int 0, .ref mp, .int 0, .ref b1, .ref b2, .ref b3, .ref b4, .ref b5, .ref mq])), (mp, .inr (4, [.int 0, .ref ed, .int 0])), (mq, .inr (4, [.int 0, .ref ed, .int 0]))]) [10, 16, 17] (by decide) rfl
    have hFc := va_free (wc := [(m0, .inr (20, [.int 0, .ref mp, .int 0, .ref b1, .ref b2, .ref b3, .ref b4, .ref b5, .ref mq])), (mp, .inr (4, [.int 0, .ref ed, .int 0])), (mq, .inr (4, [.int 0, .ref ed, .int 0]))]) hD hS hA [10, 16, 17] rfl
    refine va_calli (va_runV (As := [.int (xs (1 : Int32).toNatClampNeg), .int (xs (2 : Int32).toNatClampNeg)]) (rest := []) ⟨hx, hb, hml, hown, hts⟩ (c_X15_likeness l hst D cy ed H.size m0 mp mq b1 b2 b3 b4 b5 0 0 0 ed 0 ed (xs (1 : Int32).toNatClampNeg) (xs (2 : Int32).toNatClampNeg)) (cwV 2 hts (zx_GV mm_2235 mm_2236 mm_2237 mm_78 mm_2238) rfl rfl rfl (by decide +kernel) ⟨(Nat.le_of_ble_eq_true rfl), (Nat.le_of_ble_eq_true rfl)⟩) ⟨zx_blind, va_recv hK hPc (ci := 20) (q0 := 0) rfl rfl, zx_give hPc hK hDc hS hFc hZ hN⟩ rfl rfl hl.1 rfl (lv_room (Nat.le_of_ble_eq_true rfl)) dL_law_2728 ⟨(Nat.le_of_ble_eq_true rfl), (Nat.le_of_ble_eq_true rfl)⟩) hS (fun q _ h => hFc q h) hFc (fun r9 u t H1 locs ht hvm hw hB hz1 hk1 hS => ?_)
    obtain ⟨r_720, rfl⟩ : ∃ z9, z9 = r9 := ⟨_, rfl⟩
    have h_721 := hw
    obtain ⟨hP, hD⟩ := zx_join (wr := [(pe, .inr (9, [.int 0, .ref a1, .ref a2, .ref a3, .ref a4, .ref a5, .ref a6, .ref a7, .ref a8, .ref a9])), (a1, .inl (cy 0, 20, .inl (fun _ => 0))), (a2, .inl (cy 0, 20, .inl (fun _ => 0))), (ne, .inr (6, [.ref n1, .ref n2, .ref n3, .ref n4, .ref n5])), (n1, .inl (cy 0, 8, .inl (fun _ => 0))), (n2, .inl (cy 0, 8, .inl f2)), (n3, .inl (cy 0, 8, .inl f3)), (n4, .inl (cy 0, 8, .inl f4)), (n5, .inl (cy 1, 8, .inl f5)), (ro, .inl (cy 0, 20, .inl (fun _ => 0))), (b1, .inl (cy 0, 8, .inl (fun _ => 0))), (b2, .inl (cy 0, 8, .inl g2)), (b3, .inl (cy 0, 8, .inl g3)), (b4, .inl (cy 0, 8, .inl g4)), (b5, .inl (cy 1, 8, .inl g5)), (od, .inl (cy 4, 1, .inr (.inr (.inr (.inl (fun _ => 0))))))]) (w1 := [(m0, .inr (20, [.int 1, .ref mp, .int 0, .ref b1, .ref b2, .ref b3, .ref b4, .ref b5, .ref mq]))]) [10, 16, 17] [0, 1, 2, 3, 4, 5, 6, 7, 8, 9, 11, 12, 13, 14, 15, 18] rfl rfl (by decide) (by decide) hP hD hk1 hFc hB ht
    generalize H1 = H at hP hS ⊢
    have hP : va_P D vwCl [(pe, .inr (9, [.int 0, .ref a1, .ref a2, .ref a3, .ref a4, .ref a5, .ref a6, .ref a7, .ref a8, .ref a9])), (a1, .inl (cy 0, 20, .inl (fun _ => 0))), (a2, .inl (cy 0, 20, .inl (fun _ => 0))), (ne, .inr (6, [.ref n1, .ref n2, .ref n3, .ref n4, .ref n5])), (n1, .inl (cy 0, 8, .inl (fun _ => 0))), (n2, .inl (cy 0, 8, .inl f2)), (n3, .inl (cy 0, 8, .inl f3)), (n4, .inl (cy 0, 8, .inl f4)), (n5, .inl (cy 1, 8, .inl f5)), (ro, .inl (cy 0, 20, .inl (fun _ => 0))), (b1, .inl (cy 0, 8, .inl (fun _ => 0))), (b2, .inl (cy 0, 8, .inl g2)), (b3, .inl (cy 0, 8, .inl g3)), (b4, .inl (cy 0, 8, .inl g4)), (b5, .inl (cy 1, 8, .inl g5)), (od, .inl (cy 4, 1, .inr (.inr (.inr (.inl (fun _ => 0)))))), (m0, .inr (20, [.int 1, .ref mp, .int 0, .ref b1, .ref b2, .ref b3, .ref b4, .ref b5, .ref mq]))] H := hP
    have hD : va_D A [(pe, .inr (9, [.int 0, .ref a1, .ref a2, .ref a3, .ref a4, .ref a5, .ref a6, .ref a7, .ref a8, .ref a9])), (a1, .inl (cy 0, 20, .inl (fun _ => 0))), (a2, .inl (cy 0, 20, .inl (fun _ => 0))), (ne, .inr (6, [.ref n1, .ref n2, .ref n3, .ref n4, .ref n5])), (n1, .inl (cy 0, 8, .inl (fun _ => 0))), (n2, .inl (cy 0, 8, .inl f2)), (n3, .inl (cy 0, 8, .inl f3)), (n4, .inl (cy 0, 8, .inl f4)), (n5, .inl (cy 1, 8, .inl f5)), (ro, .inl (cy 0, 20, .inl (fun _ => 0))), (b1, .inl (cy 0, 8, .inl (fun _ => 0))), (b2, .inl (cy 0, 8, .inl g2)), (b3, .inl (cy 0, 8, .inl g3)), (b4, .inl (cy 0, 8, .inl g4)), (b5, .inl (cy 1, 8, .inl g5)), (od, .inl (cy 4, 1, .inr (.inr (.inr (.inl (fun _ => 0)))))), (m0, .inr (20, [.int 1, .ref mp, .int 0, .ref b1, .ref b2, .ref b3, .ref b4, .ref b5, .ref mq]))] := hD
    refine W.widen (k := 30) (n := 886) (Nat.le_of_ble_eq_true rfl) (Nat.le_of_ble_eq_true rfl) ?_
    refine lv_istore (lv' := [(7, .int r_720), (6, .int 1), (5, .int 0), (4, .ref od), (3, .ref oa), (2, .ref m0), (1, .ref h), (0, .ref b)]) hx hb dL_law_2731 hl (by decide) rfl (fun ls hl => ?_)
    refine lv_aload_n hx hb dL_law_2733 rfl (lv_at hl 5 rfl) ?_
    have hPc := hP.sub (ws' := [(m0, .inr (20, [.int 1, .ref mp, .int 0, .ref b1, .ref b2, .ref b3, .ref b4, .ref b5, .ref mq]))]) [16] rfl
    have hDc := hD.sub (ws' := [(m0, .inr (20, [.int 1, .ref mp, .int 0, .ref b1, .ref b2, .ref b3, .ref b4, .ref b5, .ref mq]))]) [16] (by decide) rfl
    have hFc := va_free (wc := [(m0, .inr (20, [.int 1, .ref mp, .int 0, .ref b1, .ref b2, .ref b3, .ref b4, .ref b5, .ref mq]))]) hD hS hA [16] rfl
    refine va_calli (va_runV (As := []) (rest := []) ⟨hx, hb, hml, hown, hts⟩ (c_X15_thrown l hst D cy ed H.size m0 mp mq b1 b2 b3 b4 b5 1 0) (cwV 0 hts (zx_GV mm_1599 mm_1600 mm_1601 mm_78 mm_1602) rfl rfl rfl (by decide +kernel) ⟨(Nat.le_of_ble_eq_true rfl), (Nat.le_of_ble_eq_true rfl)⟩) ⟨zx_blind, va_recv hK hPc (ci := 20) (q0 := 0) rfl rfl, zx_give hPc hK hDc hS hFc hZ hN⟩ rfl rfl hl.1 rfl (lv_room (Nat.le_of_ble_eq_true rfl)) dL_law_2734 ⟨(Nat.le_of_ble_eq_true rfl), (Nat.le_of_ble_eq_true rfl)⟩) hS (fun q _ h => hFc q h) hFc (fun r9 u t H1 locs ht hvm hw hB hz1 hk1 hS => ?_)
    obtain rfl : r9 = 1 := hw
    obtain ⟨hP, hD⟩ := zx_join (wr := [(pe, .inr (9, [.int 0, .ref a1, .ref a2, .ref a3, .ref a4, .ref a5, .ref a6, .ref a7, .ref a8, .ref a9])), (a1, .inl (cy 0, 20, .inl (fun _ => 0))), (a2, .inl (cy 0, 20, .inl (fun _ => 0))), (ne, .inr (6, [.ref n1, .ref n2, .ref n3, .ref n4, .ref n5])), (n1, .inl (cy 0, 8, .inl (fun _ => 0))), (n2, .inl (cy 0, 8, .inl f2)), (n3, .inl (cy 0, 8, .inl f3)), (n4, .inl (cy 0, 8, .inl f4)), (n5, .inl (cy 1, 8, .inl f5)), (ro, .inl (cy 0, 20, .inl (fun _ => 0))), (b1, .inl (cy 0, 8, .inl (fun _ => 0))), (b2, .inl (cy 0, 8, .inl g2)), (b3, .inl (cy 0, 8, .inl g3)), (b4, .inl (cy 0, 8, .inl g4)), (b5, .inl (cy 1, 8, .inl g5)), (od, .inl (cy 4, 1, .inr (.inr (.inr (.inl (fun _ => 0))))))]) (w1 := [(m0, .inr (20, [.int 1, .ref mp, .int 0, .ref b1, .ref b2, .ref b3, .ref b4, .ref b5, .ref mq]))]) [16] [0, 1, 2, 3, 4, 5, 6, 7, 8, 9, 10, 11, 12, 13, 14, 15] rfl rfl (by decide) (by decide) hP hD hk1 hFc hB ht
    generalize H1 = H at hP hS ⊢
    have hP : va_P D vwCl [(pe, .inr (9, [.int 0, .ref a1, .ref a2, .ref a3, .ref a4, .ref a5, .ref a6, .ref a7, .ref a8, .ref a9])), (a1, .inl (cy 0, 20, .inl (fun _ => 0))), (a2, .inl (cy 0, 20, .inl (fun _ => 0))), (ne, .inr (6, [.ref n1, .ref n2, .ref n3, .ref n4, .ref n5])), (n1, .inl (cy 0, 8, .inl (fun _ => 0))), (n2, .inl (cy 0, 8, .inl f2)), (n3, .inl (cy 0, 8, .inl f3)), (n4, .inl (cy 0, 8, .inl f4)), (n5, .inl (cy 1, 8, .inl f5)), (ro, .inl (cy 0, 20, .inl (fun _ => 0))), (b1, .inl (cy 0, 8, .inl (fun _ => 0))), (b2, .inl (cy 0, 8, .inl g2)), (b3, .inl (cy 0, 8, .inl g3)), (b4, .inl (cy 0, 8, .inl g4)), (b5, .inl (cy 1, 8, .inl g5)), (od, .inl (cy 4, 1, .inr (.inr (.inr (.inl (fun _ => 0)))))), (m0, .inr (20, [.int 1, .ref mp, .int 0, .ref b1, .ref b2, .ref b3, .ref b4, .ref b5, .ref mq]))] H := hP
    have hD : va_D A [(pe, .inr (9, [.int 0, .ref a1, .ref a2, .ref a3, .ref a4, .ref a5, .ref a6, .ref a7, .ref a8, .ref a9])), (a1, .inl (cy 0, 20, .inl (fun _ => 0))), (a2, .inl (cy 0, 20, .inl (fun _ => 0))), (ne, .inr (6, [.ref n1, .ref n2, .ref n3, .ref n4, .ref n5])), (n1, .inl (cy 0, 8, .inl (fun _ => 0))), (n2, .inl (cy 0, 8, .inl f2)), (n3, .inl (cy 0, 8, .inl f3)), (n4, .inl (cy 0, 8, .inl f4)), (n5, .inl (cy 1, 8, .inl f5)), (ro, .inl (cy 0, 20, .inl (fun _ => 0))), (b1, .inl (cy 0, 8, .inl (fun _ => 0))), (b2, .inl (cy 0, 8, .inl g2)), (b3, .inl (cy 0, 8, .inl g3)), (b4, .inl (cy 0, 8, .inl g4)), (b5, .inl (cy 1, 8, .inl g5)), (od, .inl (cy 4, 1, .inr (.inr (.inr (.inl (fun _ => 0)))))), (m0, .inr (20, [.int 1, .ref mp, .int 0, .ref b1, .ref b2, .ref b3, .ref b4, .ref b5, .ref mq]))] := hD
    refine W.widen (k := 30) (n := 886) (Nat.le_of_ble_eq_true rfl) (Nat.le_of_ble_eq_true rfl) ?_
    refine lv_iload hx hb dL_law_2737 (lv_at hl 1 rfl) ?_
    refine lv_icmp_eq (tgt := 2744) hx hb dL_law_2739 (by decide) (fun _ => ?_) (fun c_722 => absurd (by decide) c_722)
    refine lv_iload hx hb dL_law_2744 (lv_at hl 1 rfl) ?_
    refine lv_if_ne (tgt := 2761) hx hb dL_law_2746 (by decide) (fun _ => ?_) (fun c_723 => absurd c_723 (by decide))
    refine lv_goto (tgt := 4257) hx hb dL_law_2761 (by decide) ?_
    refine W.widen (k := 60) (n := 1200) (Nat.le_of_ble_eq_true rfl) (Nat.le_of_ble_eq_true rfl) ?_
    exact hend _ _ _ hS (lv_sub hl [7, 2] rfl)
set_option maxHeartbeats 4000000 in
set_option maxRecDepth 100000 in
theorem law_case_36 {p : Program} {l : Launch} {e : Env} {s : State} {m : MethodId} {below : List Frame} {meth : Method} {c : Code} {D : va_G} {cy : Nat → ClassId} {ed b : Nat} {xs : Nat → Int32} {A : Nat → Prop} {Q : State → Prop} (C0 : zx_LW p l s m c D cy ed b xs A)
    {h pe ne pa ro a1 a2 a3 a4 a5 a6 a7 a8 a9 n1 n2 n3 n4 n5 m0 mp b1 b2 b3 b4 b5 mq oa od : Nat} {f2 f3 f4 f5 g2 g3 g4 g5 : Nat → Int32} (hf5 : ∀ j, j < 8 → f5 j = 115) (hg5 : ∀ j, j < 8 → g5 j = 115) {H : Heap} {locs : List Loc} {ls : Array Slot}
    (hP : va_P D vwCl [(h, .inr (13, [.ref pe, .ref ne, .ref pa, .ref ro, .int 0])), (pe, .inr (9, [.int 0, .ref a1, .ref a2, .ref a3, .ref a4, .ref a5, .ref a6, .ref a7, .ref a8, .ref a9])), (a1, .inl (cy 0, 20, .inl (fun _ => 0))), (a2, .inl (cy 0, 20, .inl (fun _ => 0))), (ne, .inr (6, [.ref n1, .ref n2, .ref n3, .ref n4, .ref n5])), (n1, .inl (cy 0, 8, .inl (fun _ => 0))), (n2, .inl (cy 0, 8, .inl f2)), (n3, .inl (cy 0, 8, .inl f3)), (n4, .inl (cy 0, 8, .inl f4)), (n5, .inl (cy 1, 8, .inl f5)), (pa, .inr (4, [.int 0, .ref ed, .int 0])), (ro, .inl (cy 0, 20, .inl (fun _ => 0))), (m0, .inr (20, [.int 0, .ref mp, .int 0, .ref b1, .ref b2, .ref b3, .ref b4, .ref b5, .ref mq])), (b1, .inl (cy 0, 8, .inl (fun _ => 0))), (b2, .inl (cy 0, 8, .inl g2)), (b3, .inl (cy 0, 8, .inl g3)), (b4, .inl (cy 0, 8, .inl g4)), (b5, .inl (cy 1, 8, .inl g5)), (mp, .inr (4, [.int 0, .ref ed, .int 0])), (mq, .inr (4, [.int 0, .ref ed, .int 0])), (oa, .inl (cy 3, 1, .inr (.inl (fun _ => 0)))), (od, .inl (cy 4, 1, .inr (.inr (.inr (.inl (fun _ => 0))))))] H) (hD : va_D A [(h, .inr (13, [.ref pe, .ref ne, .ref pa, .ref ro, .int 0])), (pe, .inr (9, [.int 0, .ref a1, .ref a2, .ref a3, .ref a4, .ref a5, .ref a6, .ref a7, .ref a8, .ref a9])), (a1, .inl (cy 0, 20, .inl (fun _ => 0))), (a2, .inl (cy 0, 20, .inl (fun _ => 0))), (ne, .inr (6, [.ref n1, .ref n2, .ref n3, .ref n4, .ref n5])), (n1, .inl (cy 0, 8, .inl (fun _ => 0))), (n2, .inl (cy 0, 8, .inl f2)), (n3, .inl (cy 0, 8, .inl f3)), (n4, .inl (cy 0, 8, .inl f4)), (n5, .inl (cy 1, 8, .inl f5)), (pa, .inr (4, [.int 0, .ref ed, .int 0])), (ro, .inl (cy 0, 20, .inl (fun _ => 0))), (m0, .inr (20, [.int 0, .ref mp, .int 0, .ref b1, .ref b2, .ref b3, .ref b4, .ref b5, .ref mq])), (b1, .inl (cy 0, 8, .inl (fun _ => 0))), (b2, .inl (cy 0, 8, .inl g2)), (b3, .inl (cy 0, 8, .inl g3)), (b4, .inl (cy 0, 8, .inl g4)), (b5, .inl (cy 1, 8, .inl g5)), (mp, .inr (4, [.int 0, .ref ed, .int 0])), (mq, .inr (4, [.int 0, .ref ed, .int 0])), (oa, .inl (cy 3, 1, .inr (.inl (fun _ => 0)))), (od, .inl (cy 4, 1, .inr (.inr (.inr (.inl (fun _ => 0))))))]) (hS : va_S A s.heap H locs) (hl : lv_has ls 9 [(5, .int 0), (4, .ref od), (3, .ref oa), (2, .ref m0), (1, .ref h), (0, .ref b)])
    (hend : ∀ (H : Heap) (locs : List Loc) (ls : Array Slot), va_S A s.heap H locs → lv_has ls 9 [(0, .ref b), (5, .int 0)] → W p l e room_1 s m #[Value.ref b] below meth c H locs 60 1200 Q (F0 m 4257 ls [])) :
    W p l e room_1 s m #[Value.ref b] below meth c H locs 29 880 Q (F0 m 2764 ls []) := by
  obtain ⟨hx, hb, hml, hst, hown, hts, hX, hbl, hbA, hA, hK, hZ, hN⟩ := C0
  refine lv_aload_n hx hb dL_law_2764 rfl (lv_at hl 4 rfl) ?_
  refine lv_aload_n hx hb dL_law_2765 rfl (lv_at hl 5 rfl) ?_
  refine lv_iload hx hb dL_law_2766 (lv_at hl 0 rfl) ?_
  refine lv_iconst (v := 1) hx hb dL_law_2768 (by decide) ?_
  refine lv_iadd hx hb dL_law_2769 ?_
  refine lv_topi (fun y9 ey9 => ?_)
  obtain rfl : y9 = 1 := by rw [ey9] <;> decide
  refine va_sld hx hb hX hbl hbA hS (zx_bn (by decide)) dL_law_2770 ?_
  refine lv_aload_n hx hb dL_law_2771 rfl (lv_at hl 5 rfl) ?_
  refine lv_iload hx hb dL_law_2772 (lv_at hl 0 rfl) ?_
  refine lv_iconst (v := 2) hx hb dL_law_2774 (by decide) ?_
  refine lv_iadd hx hb dL_law_2775 ?_
  refine lv_topi (fun y9 ey9 => ?_)
  obtain rfl : y9 = 2 := by rw [ey9] <;> decide
  refine va_sld hx hb hX hbl hbA hS (zx_bn (by decide)) dL_law_2776 ?_
  refine lv_aload_n hx hb dL_law_2777 rfl (lv_at hl 5 rfl) ?_
  refine lv_iload hx hb dL_law_2778 (lv_at hl 0 rfl) ?_
  refine lv_iconst (v := 3) hx hb dL_law_2780 (by decide) ?_
  refine lv_iadd hx hb dL_law_2781 ?_
  refine lv_topi (fun y9 ey9 => ?_)
  obtain rfl : y9 = 3 := by rw [ey9] <;> decide
  refine va_sld hx hb hX hbl hbA hS (zx_bn (by decide)) dL_law_2782 ?_
  refine lv_aload_n hx hb dL_law_2783 rfl (lv_at hl 2 rfl) ?_
  have hPc := hP.sub (ws' := [(h, .inr (13, [.ref pe, .ref ne, .ref pa, .ref ro, .int 0])), (pe, .inr (9, [.int 0, .ref a1, .ref a2, .ref a3, .ref a4, .ref a5, .ref a6, .ref a7, .ref a8, .ref a9])), (oa, .inl (cy 3, 1, .inr (.inl (fun _ => 0))))]) [0, 1, 20] rfl
  have hDc := hD.sub (ws' := [(h, .inr (13, [.ref pe, .ref ne, .ref pa, .ref ro, .int 0])), (pe, .inr (9, [.int 0, .ref a1, .ref a2, .ref a3, .ref a4, .ref a5, .ref a6, .ref a7, .ref a8, .ref a9])), (oa, .inl (cy 3, 1, .inr (.inl (fun _ => 0))))]) [0, 1, 20] (by decide) rfl
  have hFc := va_free (wc := [(h, .inr (13, [.ref pe, .ref ne, .ref pa, .ref ro, .int 0])), (pe, .inr (9, [.int 0, .ref a1, .ref a2, .ref a3, .ref a4, .ref a5, .ref a6, .ref a7, .ref a8, .ref a9])), (oa, .inl (cy 3, 1, .inr (.inl (fun _ => 0))))]) hD hS hA [0, 1, 20] rfl
  refine vx_calli (vx_runSX (As := [.ref h, .int (xs (1 : Int32).toNatClampNeg), .int (xs (2 : Int32).toNatClampNeg), .int (xs (3 : Int32).toNatClampNeg), .ref oa]) (rest := []) ⟨hx, hb, hml, hown, hts⟩ (c_L_tellMoney l hst D cy ed H.size h pe ne pa ro 0 a1 a2 a3 a4 a5 a6 a7 a8 a9 oa (fun _ => 0) (xs (1 : Int32).toNatClampNeg) (xs (2 : Int32).toNatClampNeg) (xs (3 : Int32).toNatClampNeg)) (vx_cwSW 5 hts (zx_GS mm_1306 mm_1307 mm_70 mm_1308) rfl rfl rfl (by decide +kernel) ⟨(Nat.le_of_ble_eq_true rfl), (Nat.le_of_ble_eq_true rfl)⟩) ⟨zx_blind, zx_give hPc hK hDc hS hFc hZ hN⟩ rfl rfl hl.1 rfl (lv_room (Nat.le_of_ble_eq_true rfl)) dL_law_2784 ⟨(Nat.le_of_ble_eq_true rfl), (Nat.le_of_ble_eq_true rfl)⟩) hS (fun q _ h => hFc q h) hFc (fun q _ h => hFc q h) (fun E9 ce9 q9 _ t H locs ht hvm _ hBX hz1 hk1 hS hce hcv hcl => ?_) (fun r9 u t H locs ht hvm hw hB hz1 hk1 hS => ?_)
  · exact hBX.elim
  ·
    obtain rfl : r9 = 1 := hw
    obtain ⟨hP, hD⟩ := zx_join (wr := [(a1, .inl (cy 0, 20, .inl (fun _ => 0))), (a2, .inl (cy 0, 20, .inl (fun _ => 0))), (ne, .inr (6, [.ref n1, .ref n2, .ref n3, .ref n4, .ref n5])), (n1, .inl (cy 0, 8, .inl (fun _ => 0))), (n2, .inl (cy 0, 8, .inl f2)), (n3, .inl (cy 0, 8, .inl f3)), (n4, .inl (cy 0, 8, .inl f4)), (n5, .inl (cy 1, 8, .inl f5)), (pa, .inr (4, [.int 0, .ref ed, .int 0])), (ro, .inl (cy 0, 20, .inl (fun _ => 0))), (m0, .inr (20, [.int 0, .ref mp, .int 0, .ref b1, .ref b2, .ref b3, .ref b4, .ref b5, .ref mq])), (b1, .inl (cy 0, 8, .inl (fun _ => 0))), (b2, .inl (cy 0, 8, .inl g2)), (b3, .inl (cy 0, 8, .inl g3)), (b4, .inl (cy 0, 8, .inl g4)), (b5, .inl (cy 1, 8, .inl g5)), (mp, .inr (4, [.int 0, .ref ed, .int 0])), (mq, .inr (4, [.int 0, .ref ed, .int 0])), (od, .inl (cy 4, 1, .inr (.inr (.inr (.inl (fun _ => 0))))))]) (w1 := []) [0, 1, 20] [2, 3, 4, 5, 6, 7, 8, 9, 10, 11, 12, 13, 14, 15, 16, 17, 18, 19, 21] rfl rfl (by decide) (by decide) hP hD hk1 hFc hB ht
    have hP : va_P D vwCl [(a1, .inl (cy 0, 20, .inl (fun _ => 0))), (a2, .inl (cy 0, 20, .inl (fun _ => 0))), (ne, .inr (6, [.ref n1, .ref n2, .ref n3, .ref n4, .ref n5])), (n1, .inl (cy 0, 8, .inl (fun _ => 0))), (n2, .inl (cy 0, 8, .inl f2)), (n3, .inl (cy 0, 8, .inl f3)), (n4, .inl (cy 0, 8, .inl f4)), (n5, .inl (cy 1, 8, .inl f5)), (pa, .inr (4, [.int 0, .ref ed, .int 0])), (ro, .inl (cy 0, 20, .inl (fun _ => 0))), (m0, .inr (20, [.int 0, .ref mp, .int 0, .ref b1, .ref b2, .ref b3, .ref b4, .ref b5, .ref mq])), (b1, .inl (cy 0, 8, .inl (fun _ => 0))), (b2, .inl (cy 0, 8, .inl g2)), (b3, .inl (cy 0, 8, .inl g3)), (b4, .inl (cy 0, 8, .inl g4)), (b5, .inl (cy 1, 8, .inl g5)), (mp, .inr (4, [.int 0, .ref ed, .int 0])), (mq, .inr (4, [.int 0, .ref ed, .int 0])), (od, .inl (cy 4, 1, .inr (.inr (.inr (.inl (fun _ => 0))))))] H := hP
    have hD : va_D A [(a1, .inl (cy 0, 20, .inl (fun _ => 0))), (a2, .inl (cy 0, 20, .inl (fun _ => 0))), (ne, .inr (6, [.ref n1, .ref n2, .ref n3, .ref n4, .ref n5])), (n1, .inl (cy 0, 8, .inl (fun _ => 0))), (n2, .inl (cy 0, 8, .inl f2)), (n3, .inl (cy 0, 8, .inl f3)), (n4, .inl (cy 0, 8, .inl f4)), (n5, .inl (cy 1, 8, .inl f5)), (pa, .inr (4, [.int 0, .ref ed, .int 0])), (ro, .inl (cy 0, 20, .inl (fun _ => 0))), (m0, .inr (20, [.int 0, .ref mp, .int 0, .ref b1, .ref b2, .ref b3, .ref b4, .ref b5, .ref mq])), (b1, .inl (cy 0, 8, .inl (fun _ => 0))), (b2, .inl (cy 0, 8, .inl g2)), (b3, .inl (cy 0, 8, .inl g3)), (b4, .inl (cy 0, 8, .inl g4)), (b5, .inl (cy 1, 8, .inl g5)), (mp, .inr (4, [.int 0, .ref ed, .int 0])), (mq, .inr (4, [.int 0, .ref ed, .int 0])), (od, .inl (cy 4, 1, .inr (.inr (.inr (.inl (fun _ => 0))))))] := hD
    refine W.widen (k := 30) (n := 886) (Nat.le_of_ble_eq_true rfl) (Nat.le_of_ble_eq_true rfl) ?_
    refine lv_istore (lv' := [(6, .int 1), (5, .int 0), (4, .ref od), (3, .ref oa), (2, .ref m0), (1, .ref h), (0, .ref b)]) hx hb dL_law_2787 hl (by decide) rfl (fun ls hl => ?_)
    refine lv_aload_n hx hb dL_law_2789 rfl (lv_at hl 4 rfl) ?_
    refine lv_aload_n hx hb dL_law_2790 rfl (lv_at hl 6 rfl) ?_
    refine lv_iload hx hb dL_law_2791 (lv_at hl 1 rfl) ?_
    refine lv_iconst (v := 1) hx hb dL_law_2793 (by decide) ?_
    refine lv_iadd hx hb dL_law_2794 ?_
    refine lv_topi (fun y9 ey9 => ?_)
    obtain rfl : y9 = 1 := by rw [ey9] <;> decide
    refine va_sld hx hb hX hbl hbA hS (zx_bn (by decide)) dL_law_2795 ?_
    refine lv_aload_n hx hb dL_law_2796 rfl (lv_at hl 6 rfl) ?_
    refine lv_iload hx hb dL_law_2797 (lv_at hl 1 rfl) ?_
    refine lv_iconst (v := 2) hx hb dL_law_2799 (by decide) ?_
    refine lv_iadd hx hb dL_law_2800 ?_
    refine lv_topi (fun y9 ey9 => ?_)
    obtain rfl : y9 = 2 := by rw [ey9] <;> decide
    refine va_sld hx hb hX hbl hbA hS (zx_bn (by decide)) dL_law_2801 ?_
    refine lv_aload_n hx hb dL_law_2802 rfl (lv_at hl 6 rfl) ?_
    refine lv_iload hx hb dL_law_2803 (lv_at hl 1 rfl) ?_
    refine lv_iconst (v := 3) hx hb dL_law_2805 (by decide) ?_
    refine lv_iadd hx hb dL_law_2806 ?_
    refine lv_topi (fun y9 ey9 => ?_)
    obtain rfl : y9 = 3 := by rw [ey9] <;> decide
    refine va_sld hx hb hX hbl hbA hS (zx_bn (by decide)) dL_law_2807 ?_
    have hPc := hP.sub (ws' := [(m0, .inr (20, [.int 0, .ref mp, .int 0, .ref b1, .ref b2, .ref b3, .ref b4, .ref b5, .ref mq])), (mp, .inr (4, [.int 0, .ref ed, .int 0])), (mq, .inr (4, [.int 0, .ref ed, .int 0]))]) [10, 16, 17] rfl
    have hDc := hD.sub (ws' := [(m0, .inr (20, [.int 0, .ref mp, .int 0, .ref b1, .ref b2, .ref b3, .ref b4, .ref b5, .ref mq])), (mp, .inr (4, [.int 0, .ref ed, .int 0])), (mq, .inr (4, [.int 0, .ref ed, .int 0]))]) [10, 16, 17] (by decide) rfl
    have hFc := va_free (wc := [(m0, .inr (20, [.int 0, .ref mp, .int 0, .ref b1, .ref b2, .ref b3, .ref b4, .ref b5, .ref mq])), (mp, .inr (4, [.int 0, .ref ed, .int 0])), (mq, .inr (4, [.int 0, .ref ed, .int 0]))]) hD hS hA [10, 16, 17] rfl
    refine va_calli (va_runV (As := [.int (xs (1 : Int32).toNatClampNeg), .int (xs (2 : Int32).toNatClampNeg), .int (xs (3 : Int32).toNatClampNeg)]) (rest := []) ⟨hx, hb, hml, hown, hts⟩ (c_X15_tellMoney l hst D cy ed H.size m0 mp mq b1 b2 b3 b4 b5 0 0 0 ed 0 ed (xs (1 : Int32).toNatClampNeg) (xs (2 : Int32).toNatClampNeg) (xs (3 : Int32).toNatClampNeg)) (cwV 3 hts (zx_GV mm_1742 mm_1743 mm_1744 mm_78 mm_1745) rfl rfl rfl (by decide +kernel) ⟨(Nat.le_of_ble_eq_true rfl), (Nat.le_of_ble_eq_true rfl)⟩) ⟨zx_blind, va_recv hK hPc (ci := 20) (q0 := 0) rfl rfl, zx_give hPc hK hDc hS hFc hZ hN⟩ rfl rfl hl.1 rfl (lv_room (Nat.le_of_ble_eq_true rfl)) dL_law_2808 ⟨(Nat.le_of_ble_eq_true rfl), (Nat.le_of_ble_eq_true rfl)⟩) hS (fun q _ h => hFc q h) hFc (fun r9 u t H1 locs ht hvm hw hB hz1 hk1 hS => ?_)
    obtain ⟨r_724, rfl⟩ : ∃ z9, z9 = r9 := ⟨_, rfl⟩
    have h_725 := hw
    obtain ⟨hP, hD⟩ := zx_join (wr := [(a1, .inl (cy 0, 20, .inl (fun _ => 0))), (a2, .inl (cy 0, 20, .inl (fun _ => 0))), (ne, .inr (6, [.ref n1, .ref n2, .ref n3, .ref n4, .ref n5])), (n1, .inl (cy 0, 8, .inl (fun _ => 0))), (n2, .inl (cy 0, 8, .inl f2)), (n3, .inl (cy 0, 8, .inl f3)), (n4, .inl (cy 0, 8, .inl f4)), (n5, .inl (cy 1, 8, .inl f5)), (pa, .inr (4, [.int 0, .ref ed, .int 0])), (ro, .inl (cy 0, 20, .inl (fun _ => 0))), (b1, .inl (cy 0, 8, .inl (fun _ => 0))), (b2, .inl (cy 0, 8, .inl g2)), (b3, .inl (cy 0, 8, .inl g3)), (b4, .inl (cy 0, 8, .inl g4)), (b5, .inl (cy 1, 8, .inl g5)), (od, .inl (cy 4, 1, .inr (.inr (.inr (.inl (fun _ => 0))))))]) (w1 := [(m0, .inr (20, [.int 1, .ref mp, .int 0, .ref b1, .ref b2, .ref b3, .ref b4, .ref b5, .ref mq]))]) [10, 16, 17] [0, 1, 2, 3, 4, 5, 6, 7, 8, 9, 11, 12, 13, 14, 15, 18] rfl rfl (by decide) (by decide) hP hD hk1 hFc hB ht
    generalize H1 = H at hP hS ⊢
    have hP : va_P D vwCl [(a1, .inl (cy 0, 20, .inl (fun _ => 0))), (a2, .inl (cy 0, 20, .inl (fun _ => 0))), (ne, .inr (6, [.ref n1, .ref n2, .ref n3, .ref n4, .ref n5])), (n1, .inl (cy 0, 8, .inl (fun _ => 0))), (n2, .inl (cy 0, 8, .inl f2)), (n3, .inl (cy 0, 8, .inl f3)), (n4, .inl (cy 0, 8, .inl f4)), (n5, .inl (cy 1, 8, .inl f5)), (pa, .inr (4, [.int 0, .ref ed, .int 0])), (ro, .inl (cy 0, 20, .inl (fun _ => 0))), (b1, .inl (cy 0, 8, .inl (fun _ => 0))), (b2, .inl (cy 0, 8, .inl g2)), (b3, .inl (cy 0, 8, .inl g3)), (b4, .inl (cy 0, 8, .inl g4)), (b5, .inl (cy 1, 8, .inl g5)), (od, .inl (cy 4, 1, .inr (.inr (.inr (.inl (fun _ => 0)))))), (m0, .inr (20, [.int 1, .ref mp, .int 0, .ref b1, .ref b2, .ref b3, .ref b4, .ref b5, .ref mq]))] H := hP
    have hD : va_D A [(a1, .inl (cy 0, 20, .inl (fun _ => 0))), (a2, .inl (cy 0, 20, .inl (fun _ => 0))), (ne, .inr (6, [.ref n1, .ref n2, .ref n3, .ref n4, .ref n5])), (n1, .inl (cy 0, 8, .inl (fun _ => 0))), (n2, .inl (cy 0, 8, .inl f2)), (n3, .inl (cy 0, 8, .inl f3)), (n4, .inl (cy 0, 8, .inl f4)), (n5, .inl (cy 1, 8, .inl f5)), (pa, .inr (4, [.int 0, .ref ed, .int 0])), (ro, .inl (cy 0, 20, .inl (fun _ => 0))), (b1, .inl (cy 0, 8, .inl (fun _ => 0))), (b2, .inl (cy 0, 8, .inl g2)), (b3, .inl (cy 0, 8, .inl g3)), (b4, .inl (cy 0, 8, .inl g4)), (b5, .inl (cy 1, 8, .inl g5)), (od, .inl (cy 4, 1, .inr (.inr (.inr (.inl (fun _ => 0)))))), (m0, .inr (20, [.int 1, .ref mp, .int 0, .ref b1, .ref b2, .ref b3, .ref b4, .ref b5, .ref mq]))] := hD
    refine W.widen (k := 30) (n := 886) (Nat.le_of_ble_eq_true rfl) (Nat.le_of_ble_eq_true rfl) ?_
    refine lv_istore (lv' := [(7, .int r_724), (6, .int 1), (5, .int 0), (4, .ref od), (3, .ref oa), (2, .ref m0), (1, .ref h), (0, .ref b)]) hx hb dL_law_2811 hl (by decide) rfl (fun ls hl => ?_)
    refine lv_aload_n hx hb dL_law_2813 rfl (lv_at hl 5 rfl) ?_
    have hPc := hP.sub (ws' := [(m0, .inr (20, [.int 1, .ref mp, .int 0, .ref b1, .ref b2, .ref b3, .ref b4, .ref b5, .ref mq]))]) [16] rfl
    have hDc := hD.sub (ws' := [(m0, .inr (20, [.int 1, .ref mp, .int 0, .ref b1, .ref b2, .ref b3, .ref b4, .ref b5, .ref mq]))]) [16] (by decide) rfl
    have hFc := va_free (wc := [(m0, .inr (20, [.int 1, .ref mp, .int 0, .ref b1, .ref b2, .ref b3, .ref b4, .ref b5, .ref mq]))]) hD hS hA [16] rfl
    refine va_calli (va_runV (As := []) (rest := []) ⟨hx, hb, hml, hown, hts⟩ (c_X15_thrown l hst D cy ed H.size m0 mp mq b1 b2 b3 b4 b5 1 0) (cwV 0 hts (zx_GV mm_1599 mm_1600 mm_1601 mm_78 mm_1602) rfl rfl rfl (by decide +kernel) ⟨(Nat.le_of_ble_eq_true rfl), (Nat.le_of_ble_eq_true rfl)⟩) ⟨zx_blind, va_recv hK hPc (ci := 20) (q0 := 0) rfl rfl, zx_give hPc hK hDc hS hFc hZ hN⟩ rfl rfl hl.1 rfl (lv_room (Nat.le_of_ble_eq_true rfl)) dL_law_2814 ⟨(Nat.le_of_ble_eq_true rfl), (Nat.le_of_ble_eq_true rfl)⟩) hS (fun q _ h => hFc q h) hFc (fun r9 u t H1 locs ht hvm hw hB hz1 hk1 hS => ?_)
    obtain rfl : r9 = 1 := hw
    obtain ⟨hP, hD⟩ := zx_join (wr := [(a1, .inl (cy 0, 20, .inl (fun _ => 0))), (a2, .inl (cy 0, 20, .inl (fun _ => 0))), (ne, .inr (6, [.ref n1, .ref n2, .ref n3, .ref n4, .ref n5])), (n1, .inl (cy 0, 8, .inl (fun _ => 0))), (n2, .inl (cy 0, 8, .inl f2)), (n3, .inl (cy 0, 8, .inl f3)), (n4, .inl (cy 0, 8, .inl f4)), (n5, .inl (cy 1, 8, .inl f5)), (pa, .inr (4, [.int 0, .ref ed, .int 0])), (ro, .inl (cy 0, 20, .inl (fun _ => 0))), (b1, .inl (cy 0, 8, .inl (fun _ => 0))), (b2, .inl (cy 0, 8, .inl g2)), (b3, .inl (cy 0, 8, .inl g3)), (b4, .inl (cy 0, 8, .inl g4)), (b5, .inl (cy 1, 8, .inl g5)), (od, .inl (cy 4, 1, .inr (.inr (.inr (.inl (fun _ => 0))))))]) (w1 := [(m0, .inr (20, [.int 1, .ref mp, .int 0, .ref b1, .ref b2, .ref b3, .ref b4, .ref b5, .ref mq]))]) [16] [0, 1, 2, 3, 4, 5, 6, 7, 8, 9, 10, 11, 12, 13, 14, 15] rfl rfl (by decide) (by decide) hP hD hk1 hFc hB ht
    generalize H1 = H at hP hS ⊢
    have hP : va_P D vwCl [(a1, .inl (cy 0, 20, .inl (fun _ => 0))), (a2, .inl (cy 0, 20, .inl (fun _ => 0))), (ne, .inr (6, [.ref n1, .ref n2, .ref n3, .ref n4, .ref n5])), (n1, .inl (cy 0, 8, .inl (fun _ => 0))), (n2, .inl (cy 0, 8, .inl f2)), (n3, .inl (cy 0, 8, .inl f3)), (n4, .inl (cy 0, 8, .inl f4)), (n5, .inl (cy 1, 8, .inl f5)), (pa, .inr (4, [.int 0, .ref ed, .int 0])), (ro, .inl (cy 0, 20, .inl (fun _ => 0))), (b1, .inl (cy 0, 8, .inl (fun _ => 0))), (b2, .inl (cy 0, 8, .inl g2)), (b3, .inl (cy 0, 8, .inl g3)), (b4, .inl (cy 0, 8, .inl g4)), (b5, .inl (cy 1, 8, .inl g5)), (od, .inl (cy 4, 1, .inr (.inr (.inr (.inl (fun _ => 0)))))), (m0, .inr (20, [.int 1, .ref mp, .int 0, .ref b1, .ref b2, .ref b3, .ref b4, .ref b5, .ref mq]))] H := hP
    have hD : va_D A [(a1, .inl (cy 0, 20, .inl (fun _ => 0))), (a2, .inl (cy 0, 20, .inl (fun _ => 0))), (ne, .inr (6, [.ref n1, .ref n2, .ref n3, .ref n4, .ref n5])), (n1, .inl (cy 0, 8, .inl (fun _ => 0))), (n2, .inl (cy 0, 8, .inl f2)), (n3, .inl (cy 0, 8, .inl f3)), (n4, .inl (cy 0, 8, .inl f4)), (n5, .inl (cy 1, 8, .inl f5)), (pa, .inr (4, [.int 0, .ref ed, .int 0])), (ro, .inl (cy 0, 20, .inl (fun _ => 0))), (b1, .inl (cy 0, 8, .inl (fun _ => 0))), (b2, .inl (cy 0, 8, .inl g2)), (b3, .inl (cy 0, 8, .inl g3)), (b4, .inl (cy 0, 8, .inl g4)), (b5, .inl (cy 1, 8, .inl g5)), (od, .inl (cy 4, 1, .inr (.inr (.inr (.inl (fun _ => 0)))))), (m0, .inr (20, [.int 1, .ref mp, .int 0, .ref b1, .ref b2, .ref b3, .ref b4, .ref b5, .ref mq]))] := hD
    refine W.widen (k := 30) (n := 886) (Nat.le_of_ble_eq_true rfl) (Nat.le_of_ble_eq_true rfl) ?_
    refine lv_iload hx hb dL_law_2817 (lv_at hl 1 rfl) ?_
    refine lv_icmp_eq (tgt := 2824) hx hb dL_law_2819 (by decide) (fun _ => ?_) (fun c_726 => absurd (by decide) c_726)
    refine lv_iload hx hb dL_law_2824 (lv_at hl 1 rfl) ?_
    refine lv_if_ne (tgt := 2841) hx hb dL_law_2826 (by decide) (fun _ => ?_) (fun c_727 => absurd c_727 (by decide))
    refine lv_goto (tgt := 4257) hx hb dL_law_2841 (by decide) ?_
    refine W.widen (k := 60) (n := 1200) (Nat.le_of_ble_eq_true rfl) (Nat.le_of_ble_eq_true rfl) ?_
    exact hend _ _ _ hS (lv_sub hl [7, 2] rfl)
set_option maxHeartbeats 4000000 in
set_option maxRecDepth 100000 in
theorem law_case_37 {p : Program} {l : Launch} {e : Env} {s : State} {m : MethodId} {below : List Frame} {meth : Method} {c : Code} {D : va_G} {cy : Nat → ClassId} {ed b : Nat} {xs : Nat → Int32} {A : Nat → Prop} {Q : State → Prop} (C0 : zx_LW p l s m c D cy ed b xs A)
    {h pe ne pa ro a1 a2 a3 a4 a5 a6 a7 a8 a9 n1 n2 n3 n4 n5 m0 mp b1 b2 b3 b4 b5 mq oa od : Nat} {f2 f3 f4 f5 g2 g3 g4 g5 : Nat → Int32} (hf5 : ∀ j, j < 8 → f5 j = 115) (hg5 : ∀ j, j < 8 → g5 j = 115) {H : Heap} {locs : List Loc} {ls : Array Slot}
    (hP : va_P D vwCl [(h, .inr (13, [.ref pe, .ref ne, .ref pa, .ref ro, .int 0])), (pe, .inr (9, [.int 0, .ref a1, .ref a2, .ref a3, .ref a4, .ref a5, .ref a6, .ref a7, .ref a8, .ref a9])), (a1, .inl (cy 0, 20, .inl (fun _ => 0))), (a2, .inl (cy 0, 20, .inl (fun _ => 0))), (ne, .inr (6, [.ref n1, .ref n2, .ref n3, .ref n4, .ref n5])), (n1, .inl (cy 0, 8, .inl (fun _ => 0))), (n2, .inl (cy 0, 8, .inl f2)), (n3, .inl (cy 0, 8, .inl f3)), (n4, .inl (cy 0, 8, .inl f4)), (n5, .inl (cy 1, 8, .inl f5)), (pa, .inr (4, [.int 0, .ref ed, .int 0])), (ro, .inl (cy 0, 20, .inl (fun _ => 0))), (m0, .inr (20, [.int 0, .ref mp, .int 0, .ref b1, .ref b2, .ref b3, .ref b4, .ref b5, .ref mq])), (b1, .inl (cy 0, 8, .inl (fun _ => 0))), (b2, .inl (cy 0, 8, .inl g2)), (b3, .inl (cy 0, 8, .inl g3)), (b4, .inl (cy 0, 8, .inl g4)), (b5, .inl (cy 1, 8, .inl g5)), (mp, .inr (4, [.int 0, .ref ed, .int 0])), (mq, .inr (4, [.int 0, .ref ed, .int 0])), (oa, .inl (cy 3, 1, .inr (.inl (fun _ => 0)))), (od, .inl (cy 4, 1, .inr (.inr (.inr (.inl (fun _ => 0))))))] H) (hD : va_D A [(h, .inr (13, [.ref pe, .ref ne, .ref pa, .ref ro, .int 0])), (pe, .inr (9, [.int 0, .ref a1, .ref a2, .ref a3, .ref a4, .ref a5, .ref a6, .ref a7, .ref a8, .ref a9])), (a1, .inl (cy 0, 20, .inl (fun _ => 0))), (a2, .inl (cy 0, 20, .inl (fun _ => 0))), (ne, .inr (6, [.ref n1, .ref n2, .ref n3, .ref n4, .ref n5])), (n1, .inl (cy 0, 8, .inl (fun _ => 0))), (n2, .inl (cy 0, 8, .inl f2)), (n3, .inl (cy 0, 8, .inl f3)), (n4, .inl (cy 0, 8, .inl f4)), (n5, .inl (cy 1, 8, .inl f5)), (pa, .inr (4, [.int 0, .ref ed, .int 0])), (ro, .inl (cy 0, 20, .inl (fun _ => 0))), (m0, .inr (20, [.int 0, .ref mp, .int 0, .ref b1, .ref b2, .ref b3, .ref b4, .ref b5, .ref mq])), (b1, .inl (cy 0, 8, .inl (fun _ => 0))), (b2, .inl (cy 0, 8, .inl g2)), (b3, .inl (cy 0, 8, .inl g3)), (b4, .inl (cy 0, 8, .inl g4)), (b5, .inl (cy 1, 8, .inl g5)), (mp, .inr (4, [.int 0, .ref ed, .int 0])), (mq, .inr (4, [.int 0, .ref ed, .int 0])), (oa, .inl (cy 3, 1, .inr (.inl (fun _ => 0)))), (od, .inl (cy 4, 1, .inr (.inr (.inr (.inl (fun _ => 0))))))]) (hS : va_S A s.heap H locs) (hl : lv_has ls 9 [(5, .int 0), (4, .ref od), (3, .ref oa), (2, .ref m0), (1, .ref h), (0, .ref b)])
    (hend : ∀ (H : Heap) (locs : List Loc) (ls : Array Slot), va_S A s.heap H locs → lv_has ls 9 [(0, .ref b), (5, .int 0)] → W p l e room_1 s m #[Value.ref b] below meth c H locs 60 1200 Q (F0 m 4257 ls [])) :
    W p l e room_1 s m #[Value.ref b] below meth c H locs 29 880 Q (F0 m 2844 ls []) := by
  obtain ⟨hx, hb, hml, hst, hown, hts, hX, hbl, hbA, hA, hK, hZ, hN⟩ := C0
  refine lv_aload_n hx hb dL_law_2844 rfl (lv_at hl 4 rfl) ?_
  refine lv_aload_n hx hb dL_law_2845 rfl (lv_at hl 5 rfl) ?_
  refine lv_iload hx hb dL_law_2846 (lv_at hl 0 rfl) ?_
  refine lv_iconst (v := 1) hx hb dL_law_2848 (by decide) ?_
  refine lv_iadd hx hb dL_law_2849 ?_
  refine lv_topi (fun y9 ey9 => ?_)
  obtain rfl : y9 = 1 := by rw [ey9] <;> decide
  refine va_sld hx hb hX hbl hbA hS (zx_bn (by decide)) dL_law_2850 ?_
  refine lv_aload_n hx hb dL_law_2851 rfl (lv_at hl 5 rfl) ?_
  refine lv_iload hx hb dL_law_2852 (lv_at hl 0 rfl) ?_
  refine lv_iconst (v := 2) hx hb dL_law_2854 (by decide) ?_
  refine lv_iadd hx hb dL_law_2855 ?_
  refine lv_topi (fun y9 ey9 => ?_)
  obtain rfl : y9 = 2 := by rw [ey9] <;> decide
  refine va_sld hx hb hX hbl hbA hS (zx_bn (by decide)) dL_law_2856 ?_
  refine lv_aload_n hx hb dL_law_2857 rfl (lv_at hl 2 rfl) ?_
  have hPc := hP.sub (ws' := [(h, .inr (13, [.ref pe, .ref ne, .ref pa, .ref ro, .int 0])), (pe, .inr (9, [.int 0, .ref a1, .ref a2, .ref a3, .ref a4, .ref a5, .ref a6, .ref a7, .ref a8, .ref a9])), (oa, .inl (cy 3, 1, .inr (.inl (fun _ => 0))))]) [0, 1, 20] rfl
  have hDc := hD.sub (ws' := [(h, .inr (13, [.ref pe, .ref ne, .ref pa, .ref ro, .int 0])), (pe, .inr (9, [.int 0, .ref a1, .ref a2, .ref a3, .ref a4, .ref a5, .ref a6, .ref a7, .ref a8, .ref a9])), (oa, .inl (cy 3, 1, .inr (.inl (fun _ => 0))))]) [0, 1, 20] (by decide) rfl
  have hFc := va_free (wc := [(h, .inr (13, [.ref pe, .ref ne, .ref pa, .ref ro, .int 0])), (pe, .inr (9, [.int 0, .ref a1, .ref a2, .ref a3, .ref a4, .ref a5, .ref a6, .ref a7, .ref a8, .ref a9])), (oa, .inl (cy 3, 1, .inr (.inl (fun _ => 0))))]) hD hS hA [0, 1, 20] rfl
  refine vx_calli (vx_runSX (As := [.ref h, .int (xs (1 : Int32).toNatClampNeg), .int (xs (2 : Int32).toNatClampNeg), .ref oa]) (rest := []) ⟨hx, hb, hml, hown, hts⟩ (c_L_move l hst D cy ed H.size h pe ne pa ro 0 a1 a2 a3 a4 a5 a6 a7 a8 a9 oa (fun _ => 0) (xs (1 : Int32).toNatClampNeg) (xs (2 : Int32).toNatClampNeg)) (vx_cwSW 4 hts (zx_GS mm_1313 mm_1314 mm_70 mm_1315) rfl rfl rfl (by decide +kernel) ⟨(Nat.le_of_ble_eq_true rfl), (Nat.le_of_ble_eq_true rfl)⟩) ⟨zx_blind, zx_give hPc hK hDc hS hFc hZ hN⟩ rfl rfl hl.1 rfl (lv_room (Nat.le_of_ble_eq_true rfl)) dL_law_2858 ⟨(Nat.le_of_ble_eq_true rfl), (Nat.le_of_ble_eq_true rfl)⟩) hS (fun q _ h => hFc q h) hFc (fun q _ h => hFc q h) (fun E9 ce9 q9 _ t H locs ht hvm _ hBX hz1 hk1 hS hce hcv hcl => ?_) (fun r9 u t H locs ht hvm hw hB hz1 hk1 hS => ?_)
  · exact hBX.elim
  ·
    obtain rfl : r9 = 1 := hw
    obtain ⟨hP, hD⟩ := zx_join (wr := [(a1, .inl (cy 0, 20, .inl (fun _ => 0))), (a2, .inl (cy 0, 20, .inl (fun _ => 0))), (ne, .inr (6, [.ref n1, .ref n2, .ref n3, .ref n4, .ref n5])), (n1, .inl (cy 0, 8, .inl (fun _ => 0))), (n2, .inl (cy 0, 8, .inl f2)), (n3, .inl (cy 0, 8, .inl f3)), (n4, .inl (cy 0, 8, .inl f4)), (n5, .inl (cy 1, 8, .inl f5)), (pa, .inr (4, [.int 0, .ref ed, .int 0])), (ro, .inl (cy 0, 20, .inl (fun _ => 0))), (m0, .inr (20, [.int 0, .ref mp, .int 0, .ref b1, .ref b2, .ref b3, .ref b4, .ref b5, .ref mq])), (b1, .inl (cy 0, 8, .inl (fun _ => 0))), (b2, .inl (cy 0, 8, .inl g2)), (b3, .inl (cy 0, 8, .inl g3)), (b4, .inl (cy 0, 8, .inl g4)), (b5, .inl (cy 1, 8, .inl g5)), (mp, .inr (4, [.int 0, .ref ed, .int 0])), (mq, .inr (4, [.int 0, .ref ed, .int 0])), (od, .inl (cy 4, 1, .inr (.inr (.inr (.inl (fun _ => 0))))))]) (w1 := []) [0, 1, 20] [2, 3, 4, 5, 6, 7, 8, 9, 10, 11, 12, 13, 14, 15, 16, 17, 18, 19, 21] rfl rfl (by decide) (by decide) hP hD hk1 hFc hB ht
    have hP : va_P D vwCl [(a1, .inl (cy 0, 20, .inl (fun _ => 0))), (a2, .inl (cy 0, 20, .inl (fun _ => 0))), (ne, .inr (6, [.ref n1, .ref n2, .ref n3, .ref n4, .ref n5])), (n1, .inl (cy 0, 8, .inl (fun _ => 0))), (n2, .inl (cy 0, 8, .inl f2)), (n3, .inl (cy 0, 8, .inl f3)), (n4, .inl (cy 0, 8, .inl f4)), (n5, .inl (cy 1, 8, .inl f5)), (pa, .inr (4, [.int 0, .ref ed, .int 0])), (ro, .inl (cy 0, 20, .inl (fun _ => 0))), (m0, .inr (20, [.int 0, .ref mp, .int 0, .ref b1, .ref b2, .ref b3, .ref b4, .ref b5, .ref mq])), (b1, .inl (cy 0, 8, .inl (fun _ => 0))), (b2, .inl (cy 0, 8, .inl g2)), (b3, .inl (cy 0, 8, .inl g3)), (b4, .inl (cy 0, 8, .inl g4)), (b5, .inl (cy 1, 8, .inl g5)), (mp, .inr (4, [.int 0, .ref ed, .int 0])), (mq, .inr (4, [.int 0, .ref ed, .int 0])), (od, .inl (cy 4, 1, .inr (.inr (.inr (.inl (fun _ => 0))))))] H := hP
    have hD : va_D A [(a1, .inl (cy 0, 20, .inl (fun _ => 0))), (a2, .inl (cy 0, 20, .inl (fun _ => 0))), (ne, .inr (6, [.ref n1, .ref n2, .ref n3, .ref n4, .ref n5])), (n1, .inl (cy 0, 8, .inl (fun _ => 0))), (n2, .inl (cy 0, 8, .inl f2)), (n3, .inl (cy 0, 8, .inl f3)), (n4, .inl (cy 0, 8, .inl f4)), (n5, .inl (cy 1, 8, .inl f5)), (pa, .inr (4, [.int 0, .ref ed, .int 0])), (ro, .inl (cy 0, 20, .inl (fun _ => 0))), (m0, .inr (20, [.int 0, .ref mp, .int 0, .ref b1, .ref b2, .ref b3, .ref b4, .ref b5, .ref mq])), (b1, .inl (cy 0, 8, .inl (fun _ => 0))), (b2, .inl (cy 0, 8, .inl g2)), (b3, .inl (cy 0, 8, .inl g3)), (b4, .inl (cy 0, 8, .inl g4)), (b5, .inl (cy 1, 8, .inl g5)), (mp, .inr (4, [.int 0, .ref ed, .int 0])), (mq, .inr (4, [.int 0, .ref ed, .int 0])), (od, .inl (cy 4, 1, .inr (.inr (.inr (.inl (fun _ => 0))))))] := hD
    refine W.widen (k := 30) (n := 886) (Nat.le_of_ble_eq_true rfl) (Nat.le_of_ble_eq_true rfl) ?_
    refine lv_istore (lv' := [(6, .int 1), (5, .int 0), (4, .ref od), (3, .ref oa), (2, .ref m0), (1, .ref h), (0, .ref b)]) hx hb dL_law_2861 hl (by decide) rfl (fun ls hl => ?_)
    refine lv_aload_n hx hb dL_law_2863 rfl (lv_at hl 4 rfl) ?_
    refine lv_aload_n hx hb dL_law_2864 rfl (lv_at hl 6 rfl) ?_
    refine lv_iload hx hb dL_law_2865 (lv_at hl 1 rfl) ?_
    refine lv_iconst (v := 1) hx hb dL_law_2867 (by decide) ?_
    refine lv_iadd hx hb dL_law_2868 ?_
    refine lv_topi (fun y9 ey9 => ?_)
    obtain rfl : y9 = 1 := by rw [ey9] <;> decide
    refine va_sld hx hb hX hbl hbA hS (zx_bn (by decide)) dL_law_2869 ?_
    refine lv_aload_n hx hb dL_law_2870 rfl (lv_at hl 6 rfl) ?_
    refine lv_iload hx hb dL_law_2871 (lv_at hl 1 rfl) ?_
    refine lv_iconst (v := 2) hx hb dL_law_2873 (by decide) ?_
    refine lv_iadd hx hb dL_law_2874 ?_
    refine lv_topi (fun y9 ey9 => ?_)
    obtain rfl : y9 = 2 := by rw [ey9] <;> decide
    refine va_sld hx hb hX hbl hbA hS (zx_bn (by decide)) dL_law_2875 ?_
    have hPc := hP.sub (ws' := [(m0, .inr (20, [.int 0, .ref mp, .int 0, .ref b1, .ref b2, .ref b3, .ref b4, .ref b5, .ref mq])), (mp, .inr (4, [.int 0, .ref ed, .int 0])), (mq, .inr (4, [.int 0, .ref ed, .int 0]))]) [10, 16, 17] rfl
    have hDc := hD.sub (ws' := [(m0, .inr (20, [.int 0, .ref mp, .int 0, .ref b1, .ref b2, .ref b3, .ref b4, .ref b5, .ref mq])), (mp, .inr (4, [.int 0, .ref ed, .int 0])), (mq, .inr (4, [.int 0, .ref ed, .int 0]))]) [10, 16, 17] (by decide) rfl
    have hFc := va_free (wc := [(m0, .inr (20, [.int 0, .ref mp, .int 0, .ref b1, .ref b2, .ref b3, .ref b4, .ref b5, .ref mq])), (mp, .inr (4, [.int 0, .ref ed, .int 0])), (mq, .inr (4, [.int 0, .ref ed, .int 0]))]) hD hS hA [10, 16, 17] rfl
    refine va_calli (va_runV (As := [.int (xs (1 : Int32).toNatClampNeg), .int (xs (2 : Int32).toNatClampNeg)]) (rest := []) ⟨hx, hb, hml, hown, hts⟩ (c_X15_move l hst D cy ed H.size m0 mp mq b1 b2 b3 b4 b5 0 0 0 ed 0 ed (xs (1 : Int32).toNatClampNeg) (xs (2 : Int32).toNatClampNeg)) (cwV 2 hts (zx_GV mm_1746 mm_1747 mm_1748 mm_78 mm_1749) rfl rfl rfl (by decide +kernel) ⟨(Nat.le_of_ble_eq_true rfl), (Nat.le_of_ble_eq_true rfl)⟩) ⟨zx_blind, va_recv hK hPc (ci := 20) (q0 := 0) rfl rfl, zx_give hPc hK hDc hS hFc hZ hN⟩ rfl rfl hl.1 rfl (lv_room (Nat.le_of_ble_eq_true rfl)) dL_law_2876 ⟨(Nat.le_of_ble_eq_true rfl), (Nat.le_of_ble_eq_true rfl)⟩) hS (fun q _ h => hFc q h) hFc (fun r9 u t H1 locs ht hvm hw hB hz1 hk1 hS => ?_)
    obtain ⟨r_728, rfl⟩ : ∃ z9, z9 = r9 := ⟨_, rfl⟩
    have h_729 := hw
    obtain ⟨hP, hD⟩ := zx_join (wr := [(a1, .inl (cy 0, 20, .inl (fun _ => 0))), (a2, .inl (cy 0, 20, .inl (fun _ => 0))), (ne, .inr (6, [.ref n1, .ref n2, .ref n3, .ref n4, .ref n5])), (n1, .inl (cy 0, 8, .inl (fun _ => 0))), (n2, .inl (cy 0, 8, .inl f2)), (n3, .inl (cy 0, 8, .inl f3)), (n4, .inl (cy 0, 8, .inl f4)), (n5, .inl (cy 1, 8, .inl f5)), (pa, .inr (4, [.int 0, .ref ed, .int 0])), (ro, .inl (cy 0, 20, .inl (fun _ => 0))), (b1, .inl (cy 0, 8, .inl (fun _ => 0))), (b2, .inl (cy 0, 8, .inl g2)), (b3, .inl (cy 0, 8, .inl g3)), (b4, .inl (cy 0, 8, .inl g4)), (b5, .inl (cy 1, 8, .inl g5)), (od, .inl (cy 4, 1, .inr (.inr (.inr (.inl (fun _ => 0))))))]) (w1 := [(m0, .inr (20, [.int 1, .ref mp, .int 0, .ref b1, .ref b2, .ref b3, .ref b4, .ref b5, .ref mq]))]) [10, 16, 17] [0, 1, 2, 3, 4, 5, 6, 7, 8, 9, 11, 12, 13, 14, 15, 18] rfl rfl (by decide) (by decide) hP hD hk1 hFc hB ht
    generalize H1 = H at hP hS ⊢
    have hP : va_P D vwCl [(a1, .inl (cy 0, 20, .inl (fun _ => 0))), (a2, .inl (cy 0, 20, .inl (fun _ => 0))), (ne, .inr (6, [.ref n1, .ref n2, .ref n3, .ref n4, .ref n5])), (n1, .inl (cy 0, 8, .inl (fun _ => 0))), (n2, .inl (cy 0, 8, .inl f2)), (n3, .inl (cy 0, 8, .inl f3)), (n4, .inl (cy 0, 8, .inl f4)), (n5, .inl (cy 1, 8, .inl f5)), (pa, .inr (4, [.int 0, .ref ed, .int 0])), (ro, .inl (cy 0, 20, .inl (fun _ => 0))), (b1, .inl (cy 0, 8, .inl (fun _ => 0))), (b2, .inl (cy 0, 8, .inl g2)), (b3, .inl (cy 0, 8, .inl g3)), (b4, .inl (cy 0, 8, .inl g4)), (b5, .inl (cy 1, 8, .inl g5)), (od, .inl (cy 4, 1, .inr (.inr (.inr (.inl (fun _ => 0)))))), (m0, .inr (20, [.int 1, .ref mp, .int 0, .ref b1, .ref b2, .ref b3, .ref b4, .ref b5, .ref mq]))] H := hP
    have hD : va_D A [(a1, .inl (cy 0, 20, .inl (fun _ => 0))), (a2, .inl (cy 0, 20, .inl (fun _ => 0))), (ne, .inr (6, [.ref n1, .ref n2, .ref n3, .ref n4, .ref n5])), (n1, .inl (cy 0, 8, .inl (fun _ => 0))), (n2, .inl (cy 0, 8, .inl f2)), (n3, .inl (cy 0, 8, .inl f3)), (n4, .inl (cy 0, 8, .inl f4)), (n5, .inl (cy 1, 8, .inl f5)), (pa, .inr (4, [.int 0, .ref ed, .int 0])), (ro, .inl (cy 0, 20, .inl (fun _ => 0))), (b1, .inl (cy 0, 8, .inl (fun _ => 0))), (b2, .inl (cy 0, 8, .inl g2)), (b3, .inl (cy 0, 8, .inl g3)), (b4, .inl (cy 0, 8, .inl g4)), (b5, .inl (cy 1, 8, .inl g5)), (od, .inl (cy 4, 1, .inr (.inr (.inr (.inl (fun _ => 0)))))), (m0, .inr (20, [.int 1, .ref mp, .int 0, .ref b1, .ref b2, .ref b3, .ref b4, .ref b5, .ref mq]))] := hD
    refine W.widen (k := 30) (n := 886) (Nat.le_of_ble_eq_true rfl) (Nat.le_of_ble_eq_true rfl) ?_
    refine lv_istore (lv' := [(7, .int r_728), (6, .int 1), (5, .int 0), (4, .ref od), (3, .ref oa), (2, .ref m0), (1, .ref h), (0, .ref b)]) hx hb dL_law_2879 hl (by decide) rfl (fun ls hl => ?_)
    refine lv_aload_n hx hb dL_law_2881 rfl (lv_at hl 5 rfl) ?_
    have hPc := hP.sub (ws' := [(m0, .inr (20, [.int 1, .ref mp, .int 0, .ref b1, .ref b2, .ref b3, .ref b4, .ref b5, .ref mq]))]) [16] rfl
    have hDc := hD.sub (ws' := [(m0, .inr (20, [.int 1, .ref mp, .int 0, .ref b1, .ref b2, .ref b3, .ref b4, .ref b5, .ref mq]))]) [16] (by decide) rfl
    have hFc := va_free (wc := [(m0, .inr (20, [.int 1, .ref mp, .int 0, .ref b1, .ref b2, .ref b3, .ref b4, .ref b5, .ref mq]))]) hD hS hA [16] rfl
    refine va_calli (va_runV (As := []) (rest := []) ⟨hx, hb, hml, hown, hts⟩ (c_X15_thrown l hst D cy ed H.size m0 mp mq b1 b2 b3 b4 b5 1 0) (cwV 0 hts (zx_GV mm_1599 mm_1600 mm_1601 mm_78 mm_1602) rfl rfl rfl (by decide +kernel) ⟨(Nat.le_of_ble_eq_true rfl), (Nat.le_of_ble_eq_true rfl)⟩) ⟨zx_blind, va_recv hK hPc (ci := 20) (q0 := 0) rfl rfl, zx_give hPc hK hDc hS hFc hZ hN⟩ rfl rfl hl.1 rfl (lv_room (Nat.le_of_ble_eq_true rfl)) dL_law_2882 ⟨(Nat.le_of_ble_eq_true rfl), (Nat.le_of_ble_eq_true rfl)⟩) hS (fun q _ h => hFc q h) hFc (fun r9 u t H1 locs ht hvm hw hB hz1 hk1 hS => ?_)
    obtain rfl : r9 = 1 := hw
    obtain ⟨hP, hD⟩ := zx_join (wr := [(a1, .inl (cy 0, 20, .inl (fun _ => 0))), (a2, .inl (cy 0, 20, .inl (fun _ => 0))), (ne, .inr (6, [.ref n1, .ref n2, .ref n3, .ref n4, .ref n5])), (n1, .inl (cy 0, 8, .inl (fun _ => 0))), (n2, .inl (cy 0, 8, .inl f2)), (n3, .inl (cy 0, 8, .inl f3)), (n4, .inl (cy 0, 8, .inl f4)), (n5, .inl (cy 1, 8, .inl f5)), (pa, .inr (4, [.int 0, .ref ed, .int 0])), (ro, .inl (cy 0, 20, .inl (fun _ => 0))), (b1, .inl (cy 0, 8, .inl (fun _ => 0))), (b2, .inl (cy 0, 8, .inl g2)), (b3, .inl (cy 0, 8, .inl g3)), (b4, .inl (cy 0, 8, .inl g4)), (b5, .inl (cy 1, 8, .inl g5)), (od, .inl (cy 4, 1, .inr (.inr (.inr (.inl (fun _ => 0))))))]) (w1 := [(m0, .inr (20, [.int 1, .ref mp, .int 0, .ref b1, .ref b2, .ref b3, .ref b4, .ref b5, .ref mq]))]) [16] [0, 1, 2, 3, 4, 5, 6, 7, 8, 9, 10, 11, 12, 13, 14, 15] rfl rfl (by decide) (by decide) hP hD hk1 hFc hB ht
    generalize H1 = H at hP hS ⊢
    have hP : va_P D vwCl [(a1, .inl (cy 0, 20, .inl (fun _ => 0))), (a2, .inl (cy 0, 20, .inl (fun _ => 0))), (ne, .inr (6, [.ref n1, .ref n2, .ref n3, .ref n4, .ref n5])), (n1, .inl (cy 0, 8, .inl (fun _ => 0))), (n2, .inl (cy 0, 8, .inl f2)), (n3, .inl (cy 0, 8, .inl f3)), (n4, .inl (cy 0, 8, .inl f4)), (n5, .inl (cy 1, 8, .inl f5)), (pa, .inr (4, [.int 0, .ref ed, .int 0])), (ro, .inl (cy 0, 20, .inl (fun _ => 0))), (b1, .inl (cy 0, 8, .inl (fun _ => 0))), (b2, .inl (cy 0, 8, .inl g2)), (b3, .inl (cy 0, 8, .inl g3)), (b4, .inl (cy 0, 8, .inl g4)), (b5, .inl (cy 1, 8, .inl g5)), (od, .inl (cy 4, 1, .inr (.inr (.inr (.inl (fun _ => 0)))))), (m0, .inr (20, [.int 1, .ref mp, .int 0, .ref b1, .ref b2, .ref b3, .ref b4, .ref b5, .ref mq]))] H := hP
    have hD : va_D A [(a1, .inl (cy 0, 20, .inl (fun _ => 0))), (a2, .inl (cy 0, 20, .inl (fun _ => 0))), (ne, .inr (6, [.ref n1, .ref n2, .ref n3, .ref n4, .ref n5])), (n1, .inl (cy 0, 8, .inl (fun _ => 0))), (n2, .inl (cy 0, 8, .inl f2)), (n3, .inl (cy 0, 8, .inl f3)), (n4, .inl (cy 0, 8, .inl f4)), (n5, .inl (cy 1, 8, .inl f5)), (pa, .inr (4, [.int 0, .ref ed, .int 0])), (ro, .inl (cy 0, 20, .inl (fun _ => 0))), (b1, .inl (cy 0, 8, .inl (fun _ => 0))), (b2, .inl (cy 0, 8, .inl g2)), (b3, .inl (cy 0, 8, .inl g3)), (b4, .inl (cy 0, 8, .inl g4)), (b5, .inl (cy 1, 8, .inl g5)), (od, .inl (cy 4, 1, .inr (.inr (.inr (.inl (fun _ => 0)))))), (m0, .inr (20, [.int 1, .ref mp, .int 0, .ref b1, .ref b2, .ref b3, .ref b4, .ref b5, .ref mq]))] := hD
    refine W.widen (k := 30) (n := 886) (Nat.le_of_ble_eq_true rfl) (Nat.le_of_ble_eq_true rfl) ?_
    refine lv_iload hx hb dL_law_2885 (lv_at hl 1 rfl) ?_
    refine lv_icmp_eq (tgt := 2892) hx hb dL_law_2887 (by decide) (fun _ => ?_) (fun c_730 => absurd (by decide) c_730)
    refine lv_iload hx hb dL_law_2892 (lv_at hl 1 rfl) ?_
    refine lv_if_ne (tgt := 2909) hx hb dL_law_2894 (by decide) (fun _ => ?_) (fun c_731 => absurd c_731 (by decide))
    refine lv_goto (tgt := 4257) hx hb dL_law_2909 (by decide) ?_
    refine W.widen (k := 60) (n := 1200) (Nat.le_of_ble_eq_true rfl) (Nat.le_of_ble_eq_true rfl) ?_
    exact hend _ _ _ hS (lv_sub hl [7, 2] rfl)
set_option maxHeartbeats 4000000 in
set_option maxRecDepth 100000 in
theorem law_case_38 {p : Program} {l : Launch} {e : Env} {s : State} {m : MethodId} {below : List Frame} {meth : Method} {c : Code} {D : va_G} {cy : Nat → ClassId} {ed b : Nat} {xs : Nat → Int32} {A : Nat → Prop} {Q : State → Prop} (C0 : zx_LW p l s m c D cy ed b xs A)
    {h pe ne pa ro a1 a2 a3 a4 a5 a6 a7 a8 a9 n1 n2 n3 n4 n5 m0 mp b1 b2 b3 b4 b5 mq oa od : Nat} {f2 f3 f4 f5 g2 g3 g4 g5 : Nat → Int32} (hf5 : ∀ j, j < 8 → f5 j = 115) (hg5 : ∀ j, j < 8 → g5 j = 115) {H : Heap} {locs : List Loc} {ls : Array Slot}
    (hP : va_P D vwCl [(h, .inr (13, [.ref pe, .ref ne, .ref pa, .ref ro, .int 0])), (pe, .inr (9, [.int 0, .ref a1, .ref a2, .ref a3, .ref a4, .ref a5, .ref a6, .ref a7, .ref a8, .ref a9])), (a1, .inl (cy 0, 20, .inl (fun _ => 0))), (a2, .inl (cy 0, 20, .inl (fun _ => 0))), (ne, .inr (6, [.ref n1, .ref n2, .ref n3, .ref n4, .ref n5])), (n1, .inl (cy 0, 8, .inl (fun _ => 0))), (n2, .inl (cy 0, 8, .inl f2)), (n3, .inl (cy 0, 8, .inl f3)), (n4, .inl (cy 0, 8, .inl f4)), (n5, .inl (cy 1, 8, .inl f5)), (pa, .inr (4, [.int 0, .ref ed, .int 0])), (ro, .inl (cy 0, 20, .inl (fun _ => 0))), (m0, .inr (20, [.int 0, .ref mp, .int 0, .ref b1, .ref b2, .ref b3, .ref b4, .ref b5, .ref mq])), (b1, .inl (cy 0, 8, .inl (fun _ => 0))), (b2, .inl (cy 0, 8, .inl g2)), (b3, .inl (cy 0, 8, .inl g3)), (b4, .inl (cy 0, 8, .inl g4)), (b5, .inl (cy 1, 8, .inl g5)), (mp, .inr (4, [.int 0, .ref ed, .int 0])), (mq, .inr (4, [.int 0, .ref ed, .int 0])), (oa, .inl (cy 3, 1, .inr (.inl (fun _ => 0)))), (od, .inl (cy 4, 1, .inr (.inr (.inr (.inl (fun _ => 0))))))] H) (hD : va_D A [(h, .inr (13, [.ref pe, .ref ne, .ref pa, .ref ro, .int 0])), (pe, .inr (9, [.int 0, .ref a1, .ref a2, .ref a3, .ref a4, .ref a5, .ref a6, .ref a7, .ref a8, .ref a9])), (a1, .inl (cy 0, 20, .inl (fun _ => 0))), (a2, .inl (cy 0, 20, .inl (fun _ => 0))), (ne, .inr (6, [.ref n1, .ref n2, .ref n3, .ref n4, .ref n5])), (n1, .inl (cy 0, 8, .inl (fun _ => 0))), (n2, .inl (cy 0, 8, .inl f2)), (n3, .inl (cy 0, 8, .inl f3)), (n4, .inl (cy 0, 8, .inl f4)), (n5, .inl (cy 1, 8, .inl f5)), (pa, .inr (4, [.int 0, .ref ed, .int 0])), (ro, .inl (cy 0, 20, .inl (fun _ => 0))), (m0, .inr (20, [.int 0, .ref mp, .int 0, .ref b1, .ref b2, .ref b3, .ref b4, .ref b5, .ref mq])), (b1, .inl (cy 0, 8, .inl (fun _ => 0))), (b2, .inl (cy 0, 8, .inl g2)), (b3, .inl (cy 0, 8, .inl g3)), (b4, .inl (cy 0, 8, .inl g4)), (b5, .inl (cy 1, 8, .inl g5)), (mp, .inr (4, [.int 0, .ref ed, .int 0])), (mq, .inr (4, [.int 0, .ref ed, .int 0])), (oa, .inl (cy 3, 1, .inr (.inl (fun _ => 0)))), (od, .inl (cy 4, 1, .inr (.inr (.inr (.inl (fun _ => 0))))))]) (hS : va_S A s.heap H locs) (hl : lv_has ls 9 [(5, .int 0), (4, .ref od), (3, .ref oa), (2, .ref m0), (1, .ref h), (0, .ref b)])
    (hend : ∀ (H : Heap) (locs : List Loc) (ls : Array Slot), va_S A s.heap H locs → lv_has ls 9 [(0, .ref b), (5, .int 0)] → W p l e room_1 s m #[Value.ref b] below meth c H locs 60 1200 Q (F0 m 4257 ls [])) :
    W p l e room_1 s m #[Value.ref b] below meth c H locs 29 880 Q (F0 m 2912 ls []) := by
  obtain ⟨hx, hb, hml, hst, hown, hts, hX, hbl, hbA, hA, hK, hZ, hN⟩ := C0
  refine lv_aload_n hx hb dL_law_2912 rfl (lv_at hl 4 rfl) ?_
  refine lv_aload_n hx hb dL_law_2913 rfl (lv_at hl 5 rfl) ?_
  refine lv_iload hx hb dL_law_2914 (lv_at hl 0 rfl) ?_
  refine lv_iconst (v := 1) hx hb dL_law_2916 (by decide) ?_
  refine lv_iadd hx hb dL_law_2917 ?_
  refine lv_topi (fun y9 ey9 => ?_)
  obtain rfl : y9 = 1 := by rw [ey9] <;> decide
  refine va_sld hx hb hX hbl hbA hS (zx_bn (by decide)) dL_law_2918 ?_
  refine lv_aload_n hx hb dL_law_2919 rfl (lv_at hl 5 rfl) ?_
  refine lv_iload hx hb dL_law_2920 (lv_at hl 0 rfl) ?_
  refine lv_iconst (v := 2) hx hb dL_law_2922 (by decide) ?_
  refine lv_iadd hx hb dL_law_2923 ?_
  refine lv_topi (fun y9 ey9 => ?_)
  obtain rfl : y9 = 2 := by rw [ey9] <;> decide
  refine va_sld hx hb hX hbl hbA hS (zx_bn (by decide)) dL_law_2924 ?_
  refine lv_aload_n hx hb dL_law_2925 rfl (lv_at hl 5 rfl) ?_
  refine lv_iload hx hb dL_law_2926 (lv_at hl 0 rfl) ?_
  refine lv_iconst (v := 3) hx hb dL_law_2928 (by decide) ?_
  refine lv_iadd hx hb dL_law_2929 ?_
  refine lv_topi (fun y9 ey9 => ?_)
  obtain rfl : y9 = 3 := by rw [ey9] <;> decide
  refine va_sld hx hb hX hbl hbA hS (zx_bn (by decide)) dL_law_2930 ?_
  refine lv_aload_n hx hb dL_law_2931 rfl (lv_at hl 5 rfl) ?_
  refine lv_iload hx hb dL_law_2932 (lv_at hl 0 rfl) ?_
  refine lv_iconst (v := 4) hx hb dL_law_2934 (by decide) ?_
  refine lv_iadd hx hb dL_law_2935 ?_
  refine lv_topi (fun y9 ey9 => ?_)
  obtain rfl : y9 = 4 := by rw [ey9] <;> decide
  refine va_sld hx hb hX hbl hbA hS (zx_bn (by decide)) dL_law_2936 ?_
  refine lv_aload_n hx hb dL_law_2937 rfl (lv_at hl 5 rfl) ?_
  refine lv_iload hx hb dL_law_2938 (lv_at hl 0 rfl) ?_
  refine lv_iconst (v := 5) hx hb dL_law_2940 (by decide) ?_
  refine lv_iadd hx hb dL_law_2941 ?_
  refine lv_topi (fun y9 ey9 => ?_)
  obtain rfl : y9 = 5 := by rw [ey9] <;> decide
  refine va_sld hx hb hX hbl hbA hS (zx_bn (by decide)) dL_law_2942 ?_
  refine lv_i2c (v := (((xs (5 : Int32).toNatClampNeg).toUInt32 % 65536).toInt32)) hx hb dL_law_2943 rfl ?_
  refine lv_aload_n hx hb dL_law_2944 rfl (lv_at hl 2 rfl) ?_
  have hPc := hP.sub (ws' := [(h, .inr (13, [.ref pe, .ref ne, .ref pa, .ref ro, .int 0])), (ne, .inr (6, [.ref n1, .ref n2, .ref n3, .ref n4, .ref n5])), (n1, .inl (cy 0, 8, .inl (fun _ => 0))), (n2, .inl (cy 0, 8, .inl f2)), (n3, .inl (cy 0, 8, .inl f3)), (n4, .inl (cy 0, 8, .inl f4)), (n5, .inl (cy 1, 8, .inl f5)), (oa, .inl (cy 3, 1, .inr (.inl (fun _ => 0))))]) [0, 4, 5, 6, 7, 8, 9, 20] rfl
  have hDc := hD.sub (ws' := [(h, .inr (13, [.ref pe, .ref ne, .ref pa, .ref ro, .int 0])), (ne, .inr (6, [.ref n1, .ref n2, .ref n3, .ref n4, .ref n5])), (n1, .inl (cy 0, 8, .inl (fun _ => 0))), (n2, .inl (cy 0, 8, .inl f2)), (n3, .inl (cy 0, 8, .inl f3)), (n4, .inl (cy 0, 8, .inl f4)), (n5, .inl (cy 1, 8, .inl f5)), (oa, .inl (cy 3, 1, .inr (.inl (fun _ => 0))))]) [0, 4, 5, 6, 7, 8, 9, 20] (by decide) rfl
  have hFc := va_free (wc := [(h, .inr (13, [.ref pe, .ref ne, .ref pa, .ref ro, .int 0])), (ne, .inr (6, [.ref n1, .ref n2, .ref n3, .ref n4, .ref n5])), (n1, .inl (cy 0, 8, .inl (fun _ => 0))), (n2, .inl (cy 0, 8, .inl f2)), (n3, .inl (cy 0, 8, .inl f3)), (n4, .inl (cy 0, 8, .inl f4)), (n5, .inl (cy 1, 8, .inl f5)), (oa, .inl (cy 3, 1, .inr (.inl (fun _ => 0))))]) hD hS hA [0, 4, 5, 6, 7, 8, 9, 20] rfl
  refine vx_calli (vx_runSX (As := [.ref h, .int (xs (1 : Int32).toNatClampNeg), .int (xs (2 : Int32).toNatClampNeg), .int (xs (3 : Int32).toNatClampNeg), .int (xs (4 : Int32).toNatClampNeg), .int (((xs (5 : Int32).toNatClampNeg).toUInt32 % 65536).toInt32), .ref oa]) (rest := []) ⟨hx, hb, hml, hown, hts⟩ (c_L_setRules l hst D cy ed H.size h pe ne pa ro 0 n1 n2 n3 n4 n5 (fun _ => 0) f2 f3 f4 f5 oa (fun _ => 0) (xs (1 : Int32).toNatClampNeg) (xs (2 : Int32).toNatClampNeg) (xs (3 : Int32).toNatClampNeg) (xs (4 : Int32).toNatClampNeg) (((xs (5 : Int32).toNatClampNeg).toUInt32 % 65536).toInt32) hf5) (vx_cwSW 7 hts (zx_GS mm_1320 mm_1321 mm_70 mm_1322) rfl rfl rfl (by decide +kernel) ⟨(Nat.le_of_ble_eq_true rfl), (Nat.le_of_ble_eq_true rfl)⟩) ⟨zx_blind, zx_give hPc hK hDc hS hFc hZ hN⟩ rfl rfl hl.1 rfl (lv_room (Nat.le_of_ble_eq_true rfl)) dL_law_2945 ⟨(Nat.le_of_ble_eq_true rfl), (Nat.le_of_ble_eq_true rfl)⟩) hS (fun q _ h => hFc q h) hFc (fun q _ h => hFc q h) (fun E9 ce9 q9 _ t H locs ht hvm _ hBX hz1 hk1 hS hce hcv hcl => ?_) (fun r9 u t H locs ht hvm hw hB hz1 hk1 hS => ?_)
  · exact hBX.elim
  ·
    obtain ⟨o2_732, rfl⟩ : ∃ z9, z9 = u := ⟨_, rfl⟩
    obtain ⟨rfl, h_733⟩ := hw
    obtain ⟨hP, hD⟩ := zx_join (wr := [(pe, .inr (9, [.int 0, .ref a1, .ref a2, .ref a3, .ref a4, .ref a5, .ref a6, .ref a7, .ref a8, .ref a9])), (a1, .inl (cy 0, 20, .inl (fun _ => 0))), (a2, .inl (cy 0, 20, .inl (fun _ => 0))), (pa, .inr (4, [.int 0, .ref ed, .int 0])), (ro, .inl (cy 0, 20, .inl (fun _ => 0))), (m0, .inr (20, [.int 0, .ref mp, .int 0, .ref b1, .ref b2, .ref b3, .ref b4, .ref b5, .ref mq])), (b1, .inl (cy 0, 8, .inl (fun _ => 0))), (b2, .inl (cy 0, 8, .inl g2)), (b3, .inl (cy 0, 8, .inl g3)), (b4, .inl (cy 0, 8, .inl g4)), (b5, .inl (cy 1, 8, .inl g5)), (mp, .inr (4, [.int 0, .ref ed, .int 0])), (mq, .inr (4, [.int 0, .ref ed, .int 0])), (od, .inl (cy 4, 1, .inr (.inr (.inr (.inl (fun _ => 0))))))]) (w1 := [(oa, .inl (cy 3, 1, .inr (.inl o2_732)))]) [0, 4, 5, 6, 7, 8, 9, 20] [1, 2, 3, 10, 11, 12, 13, 14, 15, 16, 17, 18, 19, 21] rfl rfl (by decide) (by decide) hP hD hk1 hFc hB ht
    have hP : va_P D vwCl [(pe, .inr (9, [.int 0, .ref a1, .ref a2, .ref a3, .ref a4, .ref a5, .ref a6, .ref a7, .ref a8, .ref a9])), (a1, .inl (cy 0, 20, .inl (fun _ => 0))), (a2, .inl (cy 0, 20, .inl (fun _ => 0))), (pa, .inr (4, [.int 0, .ref ed, .int 0])), (ro, .inl (cy 0, 20, .inl (fun _ => 0))), (m0, .inr (20, [.int 0, .ref mp, .int 0, .ref b1, .ref b2, .ref b3, .ref b4, .ref b5, .ref mq])), (b1, .inl (cy 0, 8, .inl (fun _ => 0))), (b2, .inl (cy 0, 8, .inl g2)), (b3, .inl (cy 0, 8, .inl g3)), (b4, .inl (cy 0, 8, .inl g4)), (b5, .inl (cy 1, 8, .inl g5)), (mp, .inr (4, [.int 0, .ref ed, .int 0])), (mq, .inr (4, [.int 0, .ref ed, .int 0])), (od, .inl (cy 4, 1, .inr (.inr (.inr (.inl (fun _ => 0)))))), (oa, .inl (cy 3, 1, .inr (.inl o2_732)))] H := hP
    have hD : va_D A [(pe, .inr (9, [.int 0, .ref a1, .ref a2, .ref a3, .ref a4, .ref a5, .ref a6, .ref a7, .ref a8, .ref a9])), (a1, .inl (cy 0, 20, .inl (fun _ => 0))), (a2, .inl (cy 0, 20, .inl (fun _ => 0))), (pa, .inr (4, [.int 0, .ref ed, .int 0])), (ro, .inl (cy 0, 20, .inl (fun _ => 0))), (m0, .inr (20, [.int 0, .ref mp, .int 0, .ref b1, .ref b2, .ref b3, .ref b4, .ref b5, .ref mq])), (b1, .inl (cy 0, 8, .inl (fun _ => 0))), (b2, .inl (cy 0, 8, .inl g2)), (b3, .inl (cy 0, 8, .inl g3)), (b4, .inl (cy 0, 8, .inl g4)), (b5, .inl (cy 1, 8, .inl g5)), (mp, .inr (4, [.int 0, .ref ed, .int 0])), (mq, .inr (4, [.int 0, .ref ed, .int 0])), (od, .inl (cy 4, 1, .inr (.inr (.inr (.inl (fun _ => 0)))))), (oa, .inl (cy 3, 1, .inr (.inl o2_732)))] := hD
    refine W.widen (k := 33) (n := 904) (Nat.le_of_ble_eq_true rfl) (Nat.le_of_ble_eq_true rfl) ?_
    refine lv_istore (lv' := [(6, .int (k_setRules (xs (1 : Int32).toNatClampNeg) (xs (2 : Int32).toNatClampNeg) (xs (3 : Int32).toNatClampNeg) (xs (4 : Int32).toNatClampNeg) (((xs (5 : Int32).toNatClampNeg).toUInt32 % 65536).toInt32))), (5, .int 0), (4, .ref od), (3, .ref oa), (2, .ref m0), (1, .ref h), (0, .ref b)]) hx hb dL_law_2948 hl (by decide) rfl (fun ls hl => ?_)
    refine lv_aload_n hx hb dL_law_2950 rfl (lv_at hl 4 rfl) ?_
    refine lv_aload_n hx hb dL_law_2951 rfl (lv_at hl 6 rfl) ?_
    refine lv_iload hx hb dL_law_2952 (lv_at hl 1 rfl) ?_
    refine lv_iconst (v := 1) hx hb dL_law_2954 (by decide) ?_
    refine lv_iadd hx hb dL_law_2955 ?_
    refine lv_topi (fun y9 ey9 => ?_)
    obtain rfl : y9 = 1 := by rw [ey9] <;> decide
    refine va_sld hx hb hX hbl hbA hS (zx_bn (by decide)) dL_law_2956 ?_
    refine lv_aload_n hx hb dL_law_2957 rfl (lv_at hl 6 rfl) ?_
    refine lv_iload hx hb dL_law_2958 (lv_at hl 1 rfl) ?_
    refine lv_iconst (v := 2) hx hb dL_law_2960 (by decide) ?_
    refine lv_iadd hx hb dL_law_2961 ?_
    refine lv_topi (fun y9 ey9 => ?_)
    obtain rfl : y9 = 2 := by rw [ey9] <;> decide
    refine va_sld hx hb hX hbl hbA hS (zx_bn (by decide)) dL_law_2962 ?_
    refine lv_aload_n hx hb dL_law_2963 rfl (lv_at hl 6 rfl) ?_
    refine lv_iload hx hb dL_law_2964 (lv_at hl 1 rfl) ?_
    refine lv_iconst (v := 3) hx hb dL_law_2966 (by decide) ?_
    refine lv_iadd hx hb dL_law_2967 ?_
    refine lv_topi (fun y9 ey9 => ?_)
    obtain rfl : y9 = 3 := by rw [ey9] <;> decide
    refine va_sld hx hb hX hbl hbA hS (zx_bn (by decide)) dL_law_2968 ?_
    refine lv_aload_n hx hb dL_law_2969 rfl (lv_at hl 6 rfl) ?_
    refine lv_iload hx hb dL_law_2970 (lv_at hl 1 rfl) ?_
    refine lv_iconst (v := 4) hx hb dL_law_2972 (by decide) ?_
    refine lv_iadd hx hb dL_law_2973 ?_
    refine lv_topi (fun y9 ey9 => ?_)
    obtain rfl : y9 = 4 := by rw [ey9] <;> decide
    refine va_sld hx hb hX hbl hbA hS (zx_bn (by decide)) dL_law_2974 ?_
    refine lv_aload_n hx hb dL_law_2975 rfl (lv_at hl 6 rfl) ?_
    refine lv_iload hx hb dL_law_2976 (lv_at hl 1 rfl) ?_
    refine lv_iconst (v := 5) hx hb dL_law_2978 (by decide) ?_
    refine lv_iadd hx hb dL_law_2979 ?_
    refine lv_topi (fun y9 ey9 => ?_)
    obtain rfl : y9 = 5 := by rw [ey9] <;> decide
    refine va_sld hx hb hX hbl hbA hS (zx_bn (by decide)) dL_law_2980 ?_
    refine lv_i2c (v := (((xs (5 : Int32).toNatClampNeg).toUInt32 % 65536).toInt32)) hx hb dL_law_2981 rfl ?_
    have hPc := hP.sub (ws' := [(m0, .inr (20, [.int 0, .ref mp, .int 0, .ref b1, .ref b2, .ref b3, .ref b4, .ref b5, .ref mq])), (b2, .inl (cy 0, 8, .inl g2)), (b3, .inl (cy 0, 8, .inl g3)), (b4, .inl (cy 0, 8, .inl g4)), (b5, .inl (cy 1, 8, .inl g5))]) [5, 7, 8, 9, 10] rfl
    have hDc := hD.sub (ws' := [(m0, .inr (20, [.int 0, .ref mp, .int 0, .ref b1, .ref b2, .ref b3, .ref b4, .ref b5, .ref mq])), (b2, .inl (cy 0, 8, .inl g2)), (b3, .inl (cy 0, 8, .inl g3)), (b4, .inl (cy 0, 8, .inl g4)), (b5, .inl (cy 1, 8, .inl g5))]) [5, 7, 8, 9, 10] (by decide) rfl
    have hFc := va_free (wc := [(m0, .inr (20, [.int 0, .ref mp, .int 0, .ref b1, .ref b2, .ref b3, .ref b4, .ref b5, .ref mq])), (b2, .inl (cy 0, 8, .inl g2)), (b3, .inl (cy 0, 8, .inl g3)), (b4, .inl (cy 0, 8, .inl g4)), (b5, .inl (cy 1, 8, .inl g5))]) hD hS hA [5, 7, 8, 9, 10] rfl
    refine va_calli (va_runV (As := [.int (xs (1 : Int32).toNatClampNeg), .int (xs (2 : Int32).toNatClampNeg), .int (xs (3 : Int32).toNatClampNeg), .int (xs (4 : Int32).toNatClampNeg), .int (((xs (5 : Int32).toNatClampNeg).toUInt32 % 65536).toInt32)]) (rest := []) ⟨hx, hb, hml, hown, hts⟩ (c_X15_setRules l hst D cy ed H.size m0 mp mq b1 b2 b3 b4 b5 0 0 g2 g3 g4 g5 (xs (1 : Int32).toNatClampNeg) (xs (2 : Int32).toNatClampNeg) (xs (3 : Int32).toNatClampNeg) (xs (4 : Int32).toNatClampNeg) (((xs (5 : Int32).toNatClampNeg).toUInt32 % 65536).toInt32) hg5) (cwV 5 hts (zx_GV mm_1779 mm_1780 mm_1781 mm_78 mm_1782) rfl rfl rfl (by decide +kernel) ⟨(Nat.le_of_ble_eq_true rfl), (Nat.le_of_ble_eq_true rfl)⟩) ⟨zx_blind, va_recv hK hPc (ci := 20) (q0 := 0) rfl rfl, zx_give hPc hK hDc hS hFc hZ hN⟩ rfl rfl hl.1 rfl (lv_room (Nat.le_of_ble_eq_true rfl)) dL_law_2982 ⟨(Nat.le_of_ble_eq_true rfl), (Nat.le_of_ble_eq_true rfl)⟩) hS (fun q _ h => hFc q h) hFc (fun r9 u t H1 locs ht hvm hw hB hz1 hk1 hS => ?_)
    obtain ⟨tv_734, rfl⟩ : ∃ z9, z9 = u := ⟨_, rfl⟩
    obtain ⟨r_735, rfl⟩ : ∃ z9, z9 = r9 := ⟨_, rfl⟩
    have h_736 := hw
    obtain ⟨hP, hD⟩ := zx_join (wr := [(pe, .inr (9, [.int 0, .ref a1, .ref a2, .ref a3, .ref a4, .ref a5, .ref a6, .ref a7, .ref a8, .ref a9])), (a1, .inl (cy 0, 20, .inl (fun _ => 0))), (a2, .inl (cy 0, 20, .inl (fun _ => 0))), (pa, .inr (4, [.int 0, .ref ed, .int 0])), (ro, .inl (cy 0, 20, .inl (fun _ => 0))), (b1, .inl (cy 0, 8, .inl (fun _ => 0))), (mp, .inr (4, [.int 0, .ref ed, .int 0])), (mq, .inr (4, [.int 0, .ref ed, .int 0])), (od, .inl (cy 4, 1, .inr (.inr (.inr (.inl (fun _ => 0)))))), (oa, .inl (cy 3, 1, .inr (.inl o2_732)))]) (w1 := [(m0, .inr (20, [.int tv_734, .ref mp, .int 0, .ref b1, .ref b2, .ref b3, .ref b4, .ref b5, .ref mq]))]) [5, 7, 8, 9, 10] [0, 1, 2, 3, 4, 6, 11, 12, 13, 14] rfl rfl (by decide) (by decide) hP hD hk1 hFc hB ht
    generalize H1 = H at hP hS ⊢
    have hP : va_P D vwCl [(pe, .inr (9, [.int 0, .ref a1, .ref a2, .ref a3, .ref a4, .ref a5, .ref a6, .ref a7, .ref a8, .ref a9])), (a1, .inl (cy 0, 20, .inl (fun _ => 0))), (a2, .inl (cy 0, 20, .inl (fun _ => 0))), (pa, .inr (4, [.int 0, .ref ed, .int 0])), (ro, .inl (cy 0, 20, .inl (fun _ => 0))), (b1, .inl (cy 0, 8, .inl (fun _ => 0))), (mp, .inr (4, [.int 0, .ref ed, .int 0])), (mq, .inr (4, [.int 0, .ref ed, .int 0])), (od, .inl (cy 4, 1, .inr (.inr (.inr (.inl (fun _ => 0)))))), (oa, .inl (cy 3, 1, .inr (.inl o2_732))), (m0, .inr (20, [.int tv_734, .ref mp, .int 0, .ref b1, .ref b2, .ref b3, .ref b4, .ref b5, .ref mq]))] H := hP
    have hD : va_D A [(pe, .inr (9, [.int 0, .ref a1, .ref a2, .ref a3, .ref a4, .ref a5, .ref a6, .ref a7, .ref a8, .ref a9])), (a1, .inl (cy 0, 20, .inl (fun _ => 0))), (a2, .inl (cy 0, 20, .inl (fun _ => 0))), (pa, .inr (4, [.int 0, .ref ed, .int 0])), (ro, .inl (cy 0, 20, .inl (fun _ => 0))), (b1, .inl (cy 0, 8, .inl (fun _ => 0))), (mp, .inr (4, [.int 0, .ref ed, .int 0])), (mq, .inr (4, [.int 0, .ref ed, .int 0])), (od, .inl (cy 4, 1, .inr (.inr (.inr (.inl (fun _ => 0)))))), (oa, .inl (cy 3, 1, .inr (.inl o2_732))), (m0, .inr (20, [.int tv_734, .ref mp, .int 0, .ref b1, .ref b2, .ref b3, .ref b4, .ref b5, .ref mq]))] := hD
    refine W.widen (k := 33) (n := 904) (Nat.le_of_ble_eq_true rfl) (Nat.le_of_ble_eq_true rfl) ?_
    refine lv_istore (lv' := [(7, .int r_735), (6, .int (k_setRules (xs (1 : Int32).toNatClampNeg) (xs (2 : Int32).toNatClampNeg) (xs (3 : Int32).toNatClampNeg) (xs (4 : Int32).toNatClampNeg) (((xs (5 : Int32).toNatClampNeg).toUInt32 % 65536).toInt32))), (5, .int 0), (4, .ref od), (3, .ref oa), (2, .ref m0), (1, .ref h), (0, .ref b)]) hx hb dL_law_2985 hl (by decide) rfl (fun ls hl => ?_)
    refine lv_aload_n hx hb dL_law_2987 rfl (lv_at hl 5 rfl) ?_
    have hPc := hP.sub (ws' := [(m0, .inr (20, [.int tv_734, .ref mp, .int 0, .ref b1, .ref b2, .ref b3, .ref b4, .ref b5, .ref mq]))]) [10] rfl
    have hDc := hD.sub (ws' := [(m0, .inr (20, [.int tv_734, .ref mp, .int 0, .ref b1, .ref b2, .ref b3, .ref b4, .ref b5, .ref mq]))]) [10] (by decide) rfl
    have hFc := va_free (wc := [(m0, .inr (20, [.int tv_734, .ref mp, .int 0, .ref b1, .ref b2, .ref b3, .ref b4, .ref b5, .ref mq]))]) hD hS hA [10] rfl
    refine va_calli (va_runV (As := []) (rest := []) ⟨hx, hb, hml, hown, hts⟩ (c_X15_thrown l hst D cy ed H.size m0 mp mq b1 b2 b3 b4 b5 tv_734 0) (cwV 0 hts (zx_GV mm_1599 mm_1600 mm_1601 mm_78 mm_1602) rfl rfl rfl (by decide +kernel) ⟨(Nat.le_of_ble_eq_true rfl), (Nat.le_of_ble_eq_true rfl)⟩) ⟨zx_blind, va_recv hK hPc (ci := 20) (q0 := 0) rfl rfl, zx_give hPc hK hDc hS hFc hZ hN⟩ rfl rfl hl.1 rfl (lv_room (Nat.le_of_ble_eq_true rfl)) dL_law_2988 ⟨(Nat.le_of_ble_eq_true rfl), (Nat.le_of_ble_eq_true rfl)⟩) hS (fun q _ h => hFc q h) hFc (fun r9 u t H1 locs ht hvm hw hB hz1 hk1 hS => ?_)
    obtain rfl : tv_734 = r9 := hw.symm
    obtain ⟨hP, hD⟩ := zx_join (wr := [(pe, .inr (9, [.int 0, .ref a1, .ref a2, .ref a3, .ref a4, .ref a5, .ref a6, .ref a7, .ref a8, .ref a9])), (a1, .inl (cy 0, 20, .inl (fun _ => 0))), (a2, .inl (cy 0, 20, .inl (fun _ => 0))), (pa, .inr (4, [.int 0, .ref ed, .int 0])), (ro, .inl (cy 0, 20, .inl (fun _ => 0))), (b1, .inl (cy 0, 8, .inl (fun _ => 0))), (mp, .inr (4, [.int 0, .ref ed, .int 0])), (mq, .inr (4, [.int 0, .ref ed, .int 0])), (od, .inl (cy 4, 1, .inr (.inr (.inr (.inl (fun _ => 0)))))), (oa, .inl (cy 3, 1, .inr (.inl o2_732)))]) (w1 := [(m0, .inr (20, [.int tv_734, .ref mp, .int 0, .ref b1, .ref b2, .ref b3, .ref b4, .ref b5, .ref mq]))]) [10] [0, 1, 2, 3, 4, 5, 6, 7, 8, 9] rfl rfl (by decide) (by decide) hP hD hk1 hFc hB ht
    generalize H1 = H at hP hS ⊢
    have hP : va_P D vwCl [(pe, .inr (9, [.int 0, .ref a1, .ref a2, .ref a3, .ref a4, .ref a5, .ref a6, .ref a7, .ref a8, .ref a9])), (a1, .inl (cy 0, 20, .inl (fun _ => 0))), (a2, .inl (cy 0, 20, .inl (fun _ => 0))), (pa, .inr (4, [.int 0, .ref ed, .int 0])), (ro, .inl (cy 0, 20, .inl (fun _ => 0))), (b1, .inl (cy 0, 8, .inl (fun _ => 0))), (mp, .inr (4, [.int 0, .ref ed, .int 0])), (mq, .inr (4, [.int 0, .ref ed, .int 0])), (od, .inl (cy 4, 1, .inr (.inr (.inr (.inl (fun _ => 0)))))), (oa, .inl (cy 3, 1, .inr (.inl o2_732))), (m0, .inr (20, [.int tv_734, .ref mp, .int 0, .ref b1, .ref b2, .ref b3, .ref b4, .ref b5, .ref mq]))] H := hP
    have hD : va_D A [(pe, .inr (9, [.int 0, .ref a1, .ref a2, .ref a3, .ref a4, .ref a5, .ref a6, .ref a7, .ref a8, .ref a9])), (a1, .inl (cy 0, 20, .inl (fun _ => 0))), (a2, .inl (cy 0, 20, .inl (fun _ => 0))), (pa, .inr (4, [.int 0, .ref ed, .int 0])), (ro, .inl (cy 0, 20, .inl (fun _ => 0))), (b1, .inl (cy 0, 8, .inl (fun _ => 0))), (mp, .inr (4, [.int 0, .ref ed, .int 0])), (mq, .inr (4, [.int 0, .ref ed, .int 0])), (od, .inl (cy 4, 1, .inr (.inr (.inr (.inl (fun _ => 0)))))), (oa, .inl (cy 3, 1, .inr (.inl o2_732))), (m0, .inr (20, [.int tv_734, .ref mp, .int 0, .ref b1, .ref b2, .ref b3, .ref b4, .ref b5, .ref mq]))] := hD
    refine W.widen (k := 33) (n := 904) (Nat.le_of_ble_eq_true rfl) (Nat.le_of_ble_eq_true rfl) ?_
    refine lv_iload hx hb dL_law_2991 (lv_at hl 1 rfl) ?_
    refine lv_icmp_eq (tgt := 2998) hx hb dL_law_2993 (by decide) (fun c_737 => ?_) (fun c_737 => ?_)
    ·
      refine lv_iload hx hb dL_law_2998 (lv_at hl 1 rfl) ?_
      refine lv_if_ne (tgt := 3015) hx hb dL_law_3000 (by decide) (fun c_738 => ?_) (fun c_738 => ?_)
      ·
        refine lv_goto (tgt := 4257) hx hb dL_law_3015 (by decide) ?_
        refine W.widen (k := 60) (n := 1200) (Nat.le_of_ble_eq_true rfl) (Nat.le_of_ble_eq_true rfl) ?_
        exact hend _ _ _ hS (lv_sub hl [7, 2] rfl)
      ·
        obtain rfl : r_735 = 115 := h_736.2 c_738
        refine lv_aload_n hx hb dL_law_3003 rfl (lv_at hl 4 rfl) ?_
        refine lv_iconst (v := 0) hx hb dL_law_3004 (by decide) ?_
        refine va_lald hx hb hK hP 9 3 rfl rfl (zx_bn (by decide)) dL_law_3005 ?_
        refine lv_iload hx hb dL_law_3006 (lv_at hl 0 rfl) ?_
        refine lv_i2l (v := 115) hx hb dL_law_3008 rfl ?_
        refine W.lcmp hx hb dL_law_3009 ?_
        refine lv_topi (fun y9 ey9 => ?_)
        obtain rfl : y9 = 0 := ey9.trans (zx_lcmpe (h_733 c_738))
        refine lv_if_eq (tgt := 3015) hx hb dL_law_3010 (by decide) (fun _ => ?_) (fun c_739 => absurd (by decide) c_739)
        refine lv_goto (tgt := 4257) hx hb dL_law_3015 (by decide) ?_
        refine W.widen (k := 60) (n := 1200) (Nat.le_of_ble_eq_true rfl) (Nat.le_of_ble_eq_true rfl) ?_
        exact hend _ _ _ hS (lv_sub hl [7, 2] rfl)
    ·
      exact absurd h_736.1 c_737
set_option maxHeartbeats 4000000 in
set_option maxRecDepth 100000 in
theorem law_case_39 {p : Program} {l : Launch} {e : Env} {s : State} {m : MethodId} {below : List Frame} {meth : Method} {c : Code} {D : va_G} {cy : Nat → ClassId} {ed b : Nat} {xs : Nat → Int32} {A : Nat → Prop} {Q : State → Prop} (C0 : zx_LW p l s m c D cy ed b xs A)
    {h pe ne pa ro a1 a2 a3 a4 a5 a6 a7 a8 a9 n1 n2 n3 n4 n5 m0 mp b1 b2 b3 b4 b5 mq oa od : Nat} {f2 f3 f4 f5 g2 g3 g4 g5 : Nat → Int32} (hf5 : ∀ j, j < 8 → f5 j = 115) (hg5 : ∀ j, j < 8 → g5 j = 115) {H : Heap} {locs : List Loc} {ls : Array Slot}
    (hP : va_P D vwCl [(h, .inr (13, [.ref pe, .ref ne, .ref pa, .ref ro, .int 0])), (pe, .inr (9, [.int 0, .ref a1, .ref a2, .ref a3, .ref a4, .ref a5, .ref a6, .ref a7, .ref a8, .ref a9])), (a1, .inl (cy 0, 20, .inl (fun _ => 0))), (a2, .inl (cy 0, 20, .inl (fun _ => 0))), (ne, .inr (6, [.ref n1, .ref n2, .ref n3, .ref n4, .ref n5])), (n1, .inl (cy 0, 8, .inl (fun _ => 0))), (n2, .inl (cy 0, 8, .inl f2)), (n3, .inl (cy 0, 8, .inl f3)), (n4, .inl (cy 0, 8, .inl f4)), (n5, .inl (cy 1, 8, .inl f5)), (pa, .inr (4, [.int 0, .ref ed, .int 0])), (ro, .inl (cy 0, 20, .inl (fun _ => 0))), (m0, .inr (20, [.int 0, .ref mp, .int 0, .ref b1, .ref b2, .ref b3, .ref b4, .ref b5, .ref mq])), (b1, .inl (cy 0, 8, .inl (fun _ => 0))), (b2, .inl (cy 0, 8, .inl g2)), (b3, .inl (cy 0, 8, .inl g3)), (b4, .inl (cy 0, 8, .inl g4)), (b5, .inl (cy 1, 8, .inl g5)), (mp, .inr (4, [.int 0, .ref ed, .int 0])), (mq, .inr (4, [.int 0, .ref ed, .int 0])), (oa, .inl (cy 3, 1, .inr (.inl (fun _ => 0)))), (od, .inl (cy 4, 1, .inr (.inr (.inr (.inl (fun _ => 0))))))] H) (hD : va_D A [(h, .inr (13, [.ref pe, .ref ne, .ref pa, .ref ro, .int 0])), (pe, .inr (9, [.int 0, .ref a1, .ref a2, .ref a3, .ref a4, .ref a5, .ref a6, .ref a7, .ref a8, .ref a9])), (a1, .inl (cy 0, 20, .inl (fun _ => 0))), (a2, .inl (cy 0, 20, .inl (fun _ => 0))), (ne, .inr (6, [.ref n1, .ref n2, .ref n3, .ref n4, .ref n5])), (n1, .inl (cy 0, 8, .inl (fun _ => 0))), (n2, .inl (cy 0, 8, .inl f2)), (n3, .inl (cy 0, 8, .inl f3)), (n4, .inl (cy 0, 8, .inl f4)), (n5, .inl (cy 1, 8, .inl f5)), (pa, .inr (4, [.int 0, .ref ed, .int 0])), (ro, .inl (cy 0, 20, .inl (fun _ => 0))), (m0, .inr (20, [.int 0, .ref mp, .int 0, .ref b1, .ref b2, .ref b3, .ref b4, .ref b5, .ref mq])), (b1, .inl (cy 0, 8, .inl (fun _ => 0))), (b2, .inl (cy 0, 8, .inl g2)), (b3, .inl (cy 0, 8, .inl g3)), (b4, .inl (cy 0, 8, .inl g4)), (b5, .inl (cy 1, 8, .inl g5)), (mp, .inr (4, [.int 0, .ref ed, .int 0])), (mq, .inr (4, [.int 0, .ref ed, .int 0])), (oa, .inl (cy 3, 1, .inr (.inl (fun _ => 0)))), (od, .inl (cy 4, 1, .inr (.inr (.inr (.inl (fun _ => 0))))))]) (hS : va_S A s.heap H locs) (hl : lv_has ls 9 [(5, .int 0), (4, .ref od), (3, .ref oa), (2, .ref m0), (1, .ref h), (0, .ref b)])
    (hend : ∀ (H : Heap) (locs : List Loc) (ls : Array Slot), va_S A s.heap H locs → lv_has ls 9 [(0, .ref b), (5, .int 0)] → W p l e room_1 s m #[Value.ref b] below meth c H locs 60 1200 Q (F0 m 4257 ls [])) :
    W p l e room_1 s m #[Value.ref b] below meth c H locs 29 880 Q (F0 m 3018 ls []) := by
  obtain ⟨hx, hb, hml, hst, hown, hts, hX, hbl, hbA, hA, hK, hZ, hN⟩ := C0
  refine lv_aload_n hx hb dL_law_3018 rfl (lv_at hl 4 rfl) ?_
  refine lv_aload_n hx hb dL_law_3019 rfl (lv_at hl 5 rfl) ?_
  refine lv_iload hx hb dL_law_3020 (lv_at hl 0 rfl) ?_
  refine lv_iconst (v := 1) hx hb dL_law_3022 (by decide) ?_
  refine lv_iadd hx hb dL_law_3023 ?_
  refine lv_topi (fun y9 ey9 => ?_)
  obtain rfl : y9 = 1 := by rw [ey9] <;> decide
  refine va_sld hx hb hX hbl hbA hS (zx_bn (by decide)) dL_law_3024 ?_
  refine lv_aload_n hx hb dL_law_3025 rfl (lv_at hl 5 rfl) ?_
  refine lv_iload hx hb dL_law_3026 (lv_at hl 0 rfl) ?_
  refine lv_iconst (v := 2) hx hb dL_law_3028 (by decide) ?_
  refine lv_iadd hx hb dL_law_3029 ?_
  refine lv_topi (fun y9 ey9 => ?_)
  obtain rfl : y9 = 2 := by rw [ey9] <;> decide
  refine va_sld hx hb hX hbl hbA hS (zx_bn (by decide)) dL_law_3030 ?_
  refine lv_aload_n hx hb dL_law_3031 rfl (lv_at hl 2 rfl) ?_
  have hPc := hP.sub (ws' := [(h, .inr (13, [.ref pe, .ref ne, .ref pa, .ref ro, .int 0])), (pa, .inr (4, [.int 0, .ref ed, .int 0])), (oa, .inl (cy 3, 1, .inr (.inl (fun _ => 0))))]) [0, 10, 20] rfl
  have hDc := hD.sub (ws' := [(h, .inr (13, [.ref pe, .ref ne, .ref pa, .ref ro, .int 0])), (pa, .inr (4, [.int 0, .ref ed, .int 0])), (oa, .inl (cy 3, 1, .inr (.inl (fun _ => 0))))]) [0, 10, 20] (by decide) rfl
  have hFc := va_free (wc := [(h, .inr (13, [.ref pe, .ref ne, .ref pa, .ref ro, .int 0])), (pa, .inr (4, [.int 0, .ref ed, .int 0])), (oa, .inl (cy 3, 1, .inr (.inl (fun _ => 0))))]) hD hS hA [0, 10, 20] rfl
  refine vx_calli (vx_runSX (As := [.ref h, .int (xs (1 : Int32).toNatClampNeg), .int (xs (2 : Int32).toNatClampNeg), .ref oa]) (rest := []) ⟨hx, hb, hml, hown, hts⟩ (c_L_alarm l hst D cy ed H.size h pe ne pa ro 0 0 ed oa (fun _ => 0) (xs (1 : Int32).toNatClampNeg) (xs (2 : Int32).toNatClampNeg)) (vx_cwSW 4 hts (zx_GS mm_1327 mm_1328 mm_70 mm_1329) rfl rfl rfl (by decide +kernel) ⟨(Nat.le_of_ble_eq_true rfl), (Nat.le_of_ble_eq_true rfl)⟩) ⟨zx_blind, zx_give hPc hK hDc hS hFc hZ hN⟩ rfl rfl hl.1 rfl (lv_room (Nat.le_of_ble_eq_true rfl)) dL_law_3032 ⟨(Nat.le_of_ble_eq_true rfl), (Nat.le_of_ble_eq_true rfl)⟩) hS (fun q _ h => hFc q h) hFc (fun q _ h => hFc q h) (fun E9 ce9 q9 _ t H locs ht hvm _ hBX hz1 hk1 hS hce hcv hcl => ?_) (fun r9 u t H locs ht hvm hw hB hz1 hk1 hS => ?_)
  · exact hBX.elim
  ·
    obtain rfl : r9 = 1 := hw
    obtain ⟨hP, hD⟩ := zx_join (wr := [(pe, .inr (9, [.int 0, .ref a1, .ref a2, .ref a3, .ref a4, .ref a5, .ref a6, .ref a7, .ref a8, .ref a9])), (a1, .inl (cy 0, 20, .inl (fun _ => 0))), (a2, .inl (cy 0, 20, .inl (fun _ => 0))), (ne, .inr (6, [.ref n1, .ref n2, .ref n3, .ref n4, .ref n5])), (n1, .inl (cy 0, 8, .inl (fun _ => 0))), (n2, .inl (cy 0, 8, .inl f2)), (n3, .inl (cy 0, 8, .inl f3)), (n4, .inl (cy 0, 8, .inl f4)), (n5, .inl (cy 1, 8, .inl f5)), (ro, .inl (cy 0, 20, .inl (fun _ => 0))), (m0, .inr (20, [.int 0, .ref mp, .int 0, .ref b1, .ref b2, .ref b3, .ref b4, .ref b5, .ref mq])), (b1, .inl (cy 0, 8, .inl (fun _ => 0))), (b2, .inl (cy 0, 8, .inl g2)), (b3, .inl (cy 0, 8, .inl g3)), (b4, .inl (cy 0, 8, .inl g4)), (b5, .inl (cy 1, 8, .inl g5)), (mp, .inr (4, [.int 0, .ref ed, .int 0])), (mq, .inr (4, [.int 0, .ref ed, .int 0])), (od, .inl (cy 4, 1, .inr (.inr (.inr (.inl (fun _ => 0))))))]) (w1 := []) [0, 10, 20] [1, 2, 3, 4, 5, 6, 7, 8, 9, 11, 12, 13, 14, 15, 16, 17, 18, 19, 21] rfl rfl (by decide) (by decide) hP hD hk1 hFc hB ht
    have hP : va_P D vwCl [(pe, .inr (9, [.int 0, .ref a1, .ref a2, .ref a3, .ref a4, .ref a5, .ref a6, .ref a7, .ref a8, .ref a9])), (a1, .inl (cy 0, 20, .inl (fun _ => 0))), (a2, .inl (cy 0, 20, .inl (fun _ => 0))), (ne, .inr (6, [.ref n1, .ref n2, .ref n3, .ref n4, .ref n5])), (n1, .inl (cy 0, 8, .inl (fun _ => 0))), (n2, .inl (cy 0, 8, .inl f2)), (n3, .inl (cy 0, 8, .inl f3)), (n4, .inl (cy 0, 8, .inl f4)), (n5, .inl (cy 1, 8, .inl f5)), (ro, .inl (cy 0, 20, .inl (fun _ => 0))), (m0, .inr (20, [.int 0, .ref mp, .int 0, .ref b1, .ref b2, .ref b3, .ref b4, .ref b5, .ref mq])), (b1, .inl (cy 0, 8, .inl (fun _ => 0))), (b2, .inl (cy 0, 8, .inl g2)), (b3, .inl (cy 0, 8, .inl g3)), (b4, .inl (cy 0, 8, .inl g4)), (b5, .inl (cy 1, 8, .inl g5)), (mp, .inr (4, [.int 0, .ref ed, .int 0])), (mq, .inr (4, [.int 0, .ref ed, .int 0])), (od, .inl (cy 4, 1, .inr (.inr (.inr (.inl (fun _ => 0))))))] H := hP
    have hD : va_D A [(pe, .inr (9, [.int 0, .ref a1, .ref a2, .ref a3, .ref a4, .ref a5, .ref a6, .ref a7, .ref a8, .ref a9])), (a1, .inl (cy 0, 20, .inl (fun _ => 0))), (a2, .inl (cy 0, 20, .inl (fun _ => 0))), (ne, .inr (6, [.ref n1, .ref n2, .ref n3, .ref n4, .ref n5])), (n1, .inl (cy 0, 8, .inl (fun _ => 0))), (n2, .inl (cy 0, 8, .inl f2)), (n3, .inl (cy 0, 8, .inl f3)), (n4, .inl (cy 0, 8, .inl f4)), (n5, .inl (cy 1, 8, .inl f5)), (ro, .inl (cy 0, 20, .inl (fun _ => 0))), (m0, .inr (20, [.int 0, .ref mp, .int 0, .ref b1, .ref b2, .ref b3, .ref b4, .ref b5, .ref mq])), (b1, .inl (cy 0, 8, .inl (fun _ => 0))), (b2, .inl (cy 0, 8, .inl g2)), (b3, .inl (cy 0, 8, .inl g3)), (b4, .inl (cy 0, 8, .inl g4)), (b5, .inl (cy 1, 8, .inl g5)), (mp, .inr (4, [.int 0, .ref ed, .int 0])), (mq, .inr (4, [.int 0, .ref ed, .int 0])), (od, .inl (cy 4, 1, .inr (.inr (.inr (.inl (fun _ => 0))))))] := hD
    refine W.widen (k := 30) (n := 886) (Nat.le_of_ble_eq_true rfl) (Nat.le_of_ble_eq_true rfl) ?_
    refine lv_istore (lv' := [(6, .int 1), (5, .int 0), (4, .ref od), (3, .ref oa), (2, .ref m0), (1, .ref h), (0, .ref b)]) hx hb dL_law_3035 hl (by decide) rfl (fun ls hl => ?_)
    refine lv_aload_n hx hb dL_law_3037 rfl (lv_at hl 4 rfl) ?_
    refine lv_aload_n hx hb dL_law_3038 rfl (lv_at hl 6 rfl) ?_
    refine lv_iload hx hb dL_law_3039 (lv_at hl 1 rfl) ?_
    refine lv_iconst (v := 1) hx hb dL_law_3041 (by decide) ?_
    refine lv_iadd hx hb dL_law_3042 ?_
    refine lv_topi (fun y9 ey9 => ?_)
    obtain rfl : y9 = 1 := by rw [ey9] <;> decide
    refine va_sld hx hb hX hbl hbA hS (zx_bn (by decide)) dL_law_3043 ?_
    refine lv_aload_n hx hb dL_law_3044 rfl (lv_at hl 6 rfl) ?_
    refine lv_iload hx hb dL_law_3045 (lv_at hl 1 rfl) ?_
    refine lv_iconst (v := 2) hx hb dL_law_3047 (by decide) ?_
    refine lv_iadd hx hb dL_law_3048 ?_
    refine lv_topi (fun y9 ey9 => ?_)
    obtain rfl : y9 = 2 := by rw [ey9] <;> decide
    refine va_sld hx hb hX hbl hbA hS (zx_bn (by decide)) dL_law_3049 ?_
    have hPc := hP.sub (ws' := [(m0, .inr (20, [.int 0, .ref mp, .int 0, .ref b1, .ref b2, .ref b3, .ref b4, .ref b5, .ref mq])), (mp, .inr (4, [.int 0, .ref ed, .int 0])), (mq, .inr (4, [.int 0, .ref ed, .int 0]))]) [10, 16, 17] rfl
    have hDc := hD.sub (ws' := [(m0, .inr (20, [.int 0, .ref mp, .int 0, .ref b1, .ref b2, .ref b3, .ref b4, .ref b5, .ref mq])), (mp, .inr (4, [.int 0, .ref ed, .int 0])), (mq, .inr (4, [.int 0, .ref ed, .int 0]))]) [10, 16, 17] (by decide) rfl
    have hFc := va_free (wc := [(m0, .inr (20, [.int 0, .ref mp, .int 0, .ref b1, .ref b2, .ref b3, .ref b4, .ref b5, .ref mq])), (mp, .inr (4, [.int 0, .ref ed, .int 0])), (mq, .inr (4, [.int 0, .ref ed, .int 0]))]) hD hS hA [10, 16, 17] rfl
    refine va_calli (va_runV (As := [.int (xs (1 : Int32).toNatClampNeg), .int (xs (2 : Int32).toNatClampNeg)]) (rest := []) ⟨hx, hb, hml, hown, hts⟩ (c_X15_alarm l hst D cy ed H.size m0 mp mq b1 b2 b3 b4 b5 0 0 0 ed 0 ed (xs (1 : Int32).toNatClampNeg) (xs (2 : Int32).toNatClampNeg)) (cwV 2 hts (zx_GV mm_2214 mm_2215 mm_2216 mm_78 mm_2217) rfl rfl rfl (by decide +kernel) ⟨(Nat.le_of_ble_eq_true rfl), (Nat.le_of_ble_eq_true rfl)⟩) ⟨zx_blind, va_recv hK hPc (ci := 20) (q0 := 0) rfl rfl, zx_give hPc hK hDc hS hFc hZ hN⟩ rfl rfl hl.1 rfl (lv_room (Nat.le_of_ble_eq_true rfl)) dL_law_3050 ⟨(Nat.le_of_ble_eq_true rfl), (Nat.le_of_ble_eq_true rfl)⟩) hS (fun q _ h => hFc q h) hFc (fun r9 u t H1 locs ht hvm hw hB hz1 hk1 hS => ?_)
    obtain ⟨r_740, rfl⟩ : ∃ z9, z9 = r9 := ⟨_, rfl⟩
    have h_741 := hw
    obtain ⟨hP, hD⟩ := zx_join (wr := [(pe, .inr (9, [.int 0, .ref a1, .ref a2, .ref a3, .ref a4, .ref a5, .ref a6, .ref a7, .ref a8, .ref a9])), (a1, .inl (cy 0, 20, .inl (fun _ => 0))), (a2, .inl (cy 0, 20, .inl (fun _ => 0))), (ne, .inr (6, [.ref n1, .ref n2, .ref n3, .ref n4, .ref n5])), (n1, .inl (cy 0, 8, .inl (fun _ => 0))), (n2, .inl (cy 0, 8, .inl f2)), (n3, .inl (cy 0, 8, .inl f3)), (n4, .inl (cy 0, 8, .inl f4)), (n5, .inl (cy 1, 8, .inl f5)), (ro, .inl (cy 0, 20, .inl (fun _ => 0))), (b1, .inl (cy 0, 8, .inl (fun _ => 0))), (b2, .inl (cy 0, 8, .inl g2)), (b3, .inl (cy 0, 8, .inl g3)), (b4, .inl (cy 0, 8, .inl g4)), (b5, .inl (cy 1, 8, .inl g5)), (od, .inl (cy 4, 1, .inr (.inr (.inr (.inl (fun _ => 0))))))]) (w1 := [(m0, .inr (20, [.int 1, .ref mp, .int 0, .ref b1, .ref b2, .ref b3, .ref b4, .ref b5, .ref mq]))]) [10, 16, 17] [0, 1, 2, 3, 4, 5, 6, 7, 8, 9, 11, 12, 13, 14, 15, 18] rfl rfl (by decide) (by decide) hP hD hk1 hFc hB ht
    generalize H1 = H at hP hS ⊢
    have hP : va_P D vwCl [(pe, .inr (9, [.int 0, .ref a1, .ref a2, .ref a3, .ref a4, .ref a5, .ref a6, .ref a7, .ref a8, .ref a9])), (a1, .inl (cy 0, 20, .inl (fun _ => 0))), (a2, .inl (cy 0, 20, .inl (fun _ => 0))), (ne, .inr (6, [.ref n1, .ref n2, .ref n3, .ref n4, .ref n5])), (n1, .inl (cy 0, 8, .inl (fun _ => 0))), (n2, .inl (cy 0, 8, .inl f2)), (n3, .inl (cy 0, 8, .inl f3)), (n4, .inl (cy 0, 8, .inl f4)), (n5, .inl (cy 1, 8, .inl f5)), (ro, .inl (cy 0, 20, .inl (fun _ => 0))), (b1, .inl (cy 0, 8, .inl (fun _ => 0))), (b2, .inl (cy 0, 8, .inl g2)), (b3, .inl (cy 0, 8, .inl g3)), (b4, .inl (cy 0, 8, .inl g4)), (b5, .inl (cy 1, 8, .inl g5)), (od, .inl (cy 4, 1, .inr (.inr (.inr (.inl (fun _ => 0)))))), (m0, .inr (20, [.int 1, .ref mp, .int 0, .ref b1, .ref b2, .ref b3, .ref b4, .ref b5, .ref mq]))] H := hP
    have hD : va_D A [(pe, .inr (9, [.int 0, .ref a1, .ref a2, .ref a3, .ref a4, .ref a5, .ref a6, .ref a7, .ref a8, .ref a9])), (a1, .inl (cy 0, 20, .inl (fun _ => 0))), (a2, .inl (cy 0, 20, .inl (fun _ => 0))), (ne, .inr (6, [.ref n1, .ref n2, .ref n3, .ref n4, .ref n5])), (n1, .inl (cy 0, 8, .inl (fun _ => 0))), (n2, .inl (cy 0, 8, .inl f2)), (n3, .inl (cy 0, 8, .inl f3)), (n4, .inl (cy 0, 8, .inl f4)), (n5, .inl (cy 1, 8, .inl f5)), (ro, .inl (cy 0, 20, .inl (fun _ => 0))), (b1, .inl (cy 0, 8, .inl (fun _ => 0))), (b2, .inl (cy 0, 8, .inl g2)), (b3, .inl (cy 0, 8, .inl g3)), (b4, .inl (cy 0, 8, .inl g4)), (b5, .inl (cy 1, 8, .inl g5)), (od, .inl (cy 4, 1, .inr (.inr (.inr (.inl (fun _ => 0)))))), (m0, .inr (20, [.int 1, .ref mp, .int 0, .ref b1, .ref b2, .ref b3, .ref b4, .ref b5, .ref mq]))] := hD
    refine W.widen (k := 30) (n := 886) (Nat.le_of_ble_eq_true rfl) (Nat.le_of_ble_eq_true rfl) ?_
    refine lv_istore (lv' := [(7, .int r_740), (6, .int 1), (5, .int 0), (4, .ref od), (3, .ref oa), (2, .ref m0), (1, .ref h), (0, .ref b)]) hx hb dL_law_3053 hl (by decide) rfl (fun ls hl => ?_)
    refine lv_aload_n hx hb dL_law_3055 rfl (lv_at hl 5 rfl) ?_
    have hPc := hP.sub (ws' := [(m0, .inr (20, [.int 1, .ref mp, .int 0, .ref b1, .ref b2, .ref b3, .ref b4, .ref b5, .ref mq]))]) [16] rfl
    have hDc := hD.sub (ws' := [(m0, .inr (20, [.int 1, .ref mp, .int 0, .ref b1, .ref b2, .ref b3, .ref b4, .ref b5, .ref mq]))]) [16] (by decide) rfl
    have hFc := va_free (wc := [(m0, .inr (20, [.int 1, .ref mp, .int 0, .ref b1, .ref b2, .ref b3, .ref b4, .ref b5, .ref mq]))]) hD hS hA [16] rfl
    refine va_calli (va_runV (As := []) (rest := []) ⟨hx, hb, hml, hown, hts⟩ (c_X15_thrown l hst D cy ed H.size m0 mp mq b1 b2 b3 b4 b5 1 0) (cwV 0 hts (zx_GV mm_1599 mm_1600 mm_1601 mm_78 mm_1602) rfl rfl rfl (by decide +kernel) ⟨(Nat.le_of_ble_eq_true rfl), (Nat.le_of_ble_eq_true rfl)⟩) ⟨zx_blind, va_recv hK hPc (ci := 20) (q0 := 0) rfl rfl, zx_give hPc hK hDc hS hFc hZ hN⟩ rfl rfl hl.1 rfl (lv_room (Nat.le_of_ble_eq_true rfl)) dL_law_3056 ⟨(Nat.le_of_ble_eq_true rfl), (Nat.le_of_ble_eq_true rfl)⟩) hS (fun q _ h => hFc q h) hFc (fun r9 u t H1 locs ht hvm hw hB hz1 hk1 hS => ?_)
    obtain rfl : r9 = 1 := hw
    obtain ⟨hP, hD⟩ := zx_join (wr := [(pe, .inr (9, [.int 0, .ref a1, .ref a2, .ref a3, .ref a4, .ref a5, .ref a6, .ref a7, .ref a8, .ref a9])), (a1, .inl (cy 0, 20, .inl (fun _ => 0))), (a2, .inl (cy 0, 20, .inl (fun _ => 0))), (ne, .inr (6, [.ref n1, .ref n2, .ref n3, .ref n4, .ref n5])), (n1, .inl (cy 0, 8, .inl (fun _ => 0))), (n2, .inl (cy 0, 8, .inl f2)), (n3, .inl (cy 0, 8, .inl f3)), (n4, .inl (cy 0, 8, .inl f4)), (n5, .inl (cy 1, 8, .inl f5)), (ro, .inl (cy 0, 20, .inl (fun _ => 0))), (b1, .inl (cy 0, 8, .inl (fun _ => 0))), (b2, .inl (cy 0, 8, .inl g2)), (b3, .inl (cy 0, 8, .inl g3)), (b4, .inl (cy 0, 8, .inl g4)), (b5, .inl (cy 1, 8, .inl g5)), (od, .inl (cy 4, 1, .inr (.inr (.inr (.inl (fun _ => 0))))))]) (w1 := [(m0, .inr (20, [.int 1, .ref mp, .int 0, .ref b1, .ref b2, .ref b3, .ref b4, .ref b5, .ref mq]))]) [16] [0, 1, 2, 3, 4, 5, 6, 7, 8, 9, 10, 11, 12, 13, 14, 15] rfl rfl (by decide) (by decide) hP hD hk1 hFc hB ht
    generalize H1 = H at hP hS ⊢
    have hP : va_P D vwCl [(pe, .inr (9, [.int 0, .ref a1, .ref a2, .ref a3, .ref a4, .ref a5, .ref a6, .ref a7, .ref a8, .ref a9])), (a1, .inl (cy 0, 20, .inl (fun _ => 0))), (a2, .inl (cy 0, 20, .inl (fun _ => 0))), (ne, .inr (6, [.ref n1, .ref n2, .ref n3, .ref n4, .ref n5])), (n1, .inl (cy 0, 8, .inl (fun _ => 0))), (n2, .inl (cy 0, 8, .inl f2)), (n3, .inl (cy 0, 8, .inl f3)), (n4, .inl (cy 0, 8, .inl f4)), (n5, .inl (cy 1, 8, .inl f5)), (ro, .inl (cy 0, 20, .inl (fun _ => 0))), (b1, .inl (cy 0, 8, .inl (fun _ => 0))), (b2, .inl (cy 0, 8, .inl g2)), (b3, .inl (cy 0, 8, .inl g3)), (b4, .inl (cy 0, 8, .inl g4)), (b5, .inl (cy 1, 8, .inl g5)), (od, .inl (cy 4, 1, .inr (.inr (.inr (.inl (fun _ => 0)))))), (m0, .inr (20, [.int 1, .ref mp, .int 0, .ref b1, .ref b2, .ref b3, .ref b4, .ref b5, .ref mq]))] H := hP
    have hD : va_D A [(pe, .inr (9, [.int 0, .ref a1, .ref a2, .ref a3, .ref a4, .ref a5, .ref a6, .ref a7, .ref a8, .ref a9])), (a1, .inl (cy 0, 20, .inl (fun _ => 0))), (a2, .inl (cy 0, 20, .inl (fun _ => 0))), (ne, .inr (6, [.ref n1, .ref n2, .ref n3, .ref n4, .ref n5])), (n1, .inl (cy 0, 8, .inl (fun _ => 0))), (n2, .inl (cy 0, 8, .inl f2)), (n3, .inl (cy 0, 8, .inl f3)), (n4, .inl (cy 0, 8, .inl f4)), (n5, .inl (cy 1, 8, .inl f5)), (ro, .inl (cy 0, 20, .inl (fun _ => 0))), (b1, .inl (cy 0, 8, .inl (fun _ => 0))), (b2, .inl (cy 0, 8, .inl g2)), (b3, .inl (cy 0, 8, .inl g3)), (b4, .inl (cy 0, 8, .inl g4)), (b5, .inl (cy 1, 8, .inl g5)), (od, .inl (cy 4, 1, .inr (.inr (.inr (.inl (fun _ => 0)))))), (m0, .inr (20, [.int 1, .ref mp, .int 0, .ref b1, .ref b2, .ref b3, .ref b4, .ref b5, .ref mq]))] := hD
    refine W.widen (k := 30) (n := 886) (Nat.le_of_ble_eq_true rfl) (Nat.le_of_ble_eq_true rfl) ?_
    refine lv_iload hx hb dL_law_3059 (lv_at hl 1 rfl) ?_
    refine lv_icmp_eq (tgt := 3066) hx hb dL_law_3061 (by decide) (fun _ => ?_) (fun c_742 => absurd (by decide) c_742)
    refine lv_iload hx hb dL_law_3066 (lv_at hl 1 rfl) ?_
    refine lv_if_ne (tgt := 3090) hx hb dL_law_3068 (by decide) (fun _ => ?_) (fun c_743 => absurd c_743 (by decide))
    refine lv_goto (tgt := 4257) hx hb dL_law_3090 (by decide) ?_
    refine W.widen (k := 60) (n := 1200) (Nat.le_of_ble_eq_true rfl) (Nat.le_of_ble_eq_true rfl) ?_
    exact hend _ _ _ hS (lv_sub hl [7, 2] rfl)
set_option maxHeartbeats 4000000 in
set_option maxRecDepth 100000 in
theorem law_case_40 {p : Program} {l : Launch} {e : Env} {s : State} {m : MethodId} {below : List Frame} {meth : Method} {c : Code} {D : va_G} {cy : Nat → ClassId} {ed b : Nat} {xs : Nat → Int32} {A : Nat → Prop} {Q : State → Prop} (C0 : zx_LW p l s m c D cy ed b xs A)
    {h pe ne pa ro a1 a2 a3 a4 a5 a6 a7 a8 a9 n1 n2 n3 n4 n5 m0 mp b1 b2 b3 b4 b5 mq oa od : Nat} {f2 f3 f4 f5 g2 g3 g4 g5 : Nat → Int32} (hf5 : ∀ j, j < 8 → f5 j = 115) (hg5 : ∀ j, j < 8 → g5 j = 115) {H : Heap} {locs : List Loc} {ls : Array Slot}
    (hP : va_P D vwCl [(h, .inr (13, [.ref pe, .ref ne, .ref pa, .ref ro, .int 0])), (pe, .inr (9, [.int 0, .ref a1, .ref a2, .ref a3, .ref a4, .ref a5, .ref a6, .ref a7, .ref a8, .ref a9])), (a1, .inl (cy 0, 20, .inl (fun _ => 0))), (a2, .inl (cy 0, 20, .inl (fun _ => 0))), (ne, .inr (6, [.ref n1, .ref n2, .ref n3, .ref n4, .ref n5])), (n1, .inl (cy 0, 8, .inl (fun _ => 0))), (n2, .inl (cy 0, 8, .inl f2)), (n3, .inl (cy 0, 8, .inl f3)), (n4, .inl (cy 0, 8, .inl f4)), (n5, .inl (cy 1, 8, .inl f5)), (pa, .inr (4, [.int 0, .ref ed, .int 0])), (ro, .inl (cy 0, 20, .inl (fun _ => 0))), (m0, .inr (20, [.int 0, .ref mp, .int 0, .ref b1, .ref b2, .ref b3, .ref b4, .ref b5, .ref mq])), (b1, .inl (cy 0, 8, .inl (fun _ => 0))), (b2, .inl (cy 0, 8, .inl g2)), (b3, .inl (cy 0, 8, .inl g3)), (b4, .inl (cy 0, 8, .inl g4)), (b5, .inl (cy 1, 8, .inl g5)), (mp, .inr (4, [.int 0, .ref ed, .int 0])), (mq, .inr (4, [.int 0, .ref ed, .int 0])), (oa, .inl (cy 3, 1, .inr (.inl (fun _ => 0)))), (od, .inl (cy 4, 1, .inr (.inr (.inr (.inl (fun _ => 0))))))] H) (hD : va_D A [(h, .inr (13, [.ref pe, .ref ne, .ref pa, .ref ro, .int 0])), (pe, .inr (9, [.int 0, .ref a1, .ref a2, .ref a3, .ref a4, .ref a5, .ref a6, .ref a7, .ref a8, .ref a9])), (a1, .inl (cy 0, 20, .inl (fun _ => 0))), (a2, .inl (cy 0, 20, .inl (fun _ => 0))), (ne, .inr (6, [.ref n1, .ref n2, .ref n3, .ref n4, .ref n5])), (n1, .inl (cy 0, 8, .inl (fun _ => 0))), (n2, .inl (cy 0, 8, .inl f2)), (n3, .inl (cy 0, 8, .inl f3)), (n4, .inl (cy 0, 8, .inl f4)), (n5, .inl (cy 1, 8, .inl f5)), (pa, .inr (4, [.int 0, .ref ed, .int 0])), (ro, .inl (cy 0, 20, .inl (fun _ => 0))), (m0, .inr (20, [.int 0, .ref mp, .int 0, .ref b1, .ref b2, .ref b3, .ref b4, .ref b5, .ref mq])), (b1, .inl (cy 0, 8, .inl (fun _ => 0))), (b2, .inl (cy 0, 8, .inl g2)), (b3, .inl (cy 0, 8, .inl g3)), (b4, .inl (cy 0, 8, .inl g4)), (b5, .inl (cy 1, 8, .inl g5)), (mp, .inr (4, [.int 0, .ref ed, .int 0])), (mq, .inr (4, [.int 0, .ref ed, .int 0])), (oa, .inl (cy 3, 1, .inr (.inl (fun _ => 0)))), (od, .inl (cy 4, 1, .inr (.inr (.inr (.inl (fun _ => 0))))))]) (hS : va_S A s.heap H locs) (hl : lv_has ls 9 [(5, .int 0), (4, .ref od), (3, .ref oa), (2, .ref m0), (1, .ref h), (0, .ref b)])
    (hend : ∀ (H : Heap) (locs : List Loc) (ls : Array Slot), va_S A s.heap H locs → lv_has ls 9 [(0, .ref b), (5, .int 0)] → W p l e room_1 s m #[Value.ref b] below meth c H locs 60 1200 Q (F0 m 4257 ls [])) :
    W p l e room_1 s m #[Value.ref b] below meth c H locs 29 880 Q (F0 m 3093 ls []) := by
  obtain ⟨hx, hb, hml, hst, hown, hts, hX, hbl, hbA, hA, hK, hZ, hN⟩ := C0
  refine lv_aload_n hx hb dL_law_3093 rfl (lv_at hl 4 rfl) ?_
  refine lv_aload_n hx hb dL_law_3094 rfl (lv_at hl 5 rfl) ?_
  refine lv_iload hx hb dL_law_3095 (lv_at hl 0 rfl) ?_
  refine lv_iconst (v := 1) hx hb dL_law_3097 (by decide) ?_
  refine lv_iadd hx hb dL_law_3098 ?_
  refine lv_topi (fun y9 ey9 => ?_)
  obtain rfl : y9 = 1 := by rw [ey9] <;> decide
  refine va_sld hx hb hX hbl hbA hS (zx_bn (by decide)) dL_law_3099 ?_
  refine lv_aload_n hx hb dL_law_3100 rfl (lv_at hl 2 rfl) ?_
  have hPc := hP.sub (ws' := [(h, .inr (13, [.ref pe, .ref ne, .ref pa, .ref ro, .int 0])), (pa, .inr (4, [.int 0, .ref ed, .int 0])), (oa, .inl (cy 3, 1, .inr (.inl (fun _ => 0))))]) [0, 10, 20] rfl
  have hDc := hD.sub (ws' := [(h, .inr (13, [.ref pe, .ref ne, .ref pa, .ref ro, .int 0])), (pa, .inr (4, [.int 0, .ref ed, .int 0])), (oa, .inl (cy 3, 1, .inr (.inl (fun _ => 0))))]) [0, 10, 20] (by decide) rfl
  have hFc := va_free (wc := [(h, .inr (13, [.ref pe, .ref ne, .ref pa, .ref ro, .int 0])), (pa, .inr (4, [.int 0, .ref ed, .int 0])), (oa, .inl (cy 3, 1, .inr (.inl (fun _ => 0))))]) hD hS hA [0, 10, 20] rfl
  refine vx_calli (vx_runSX (As := [.ref h, .int (xs (1 : Int32).toNatClampNeg), .ref oa]) (rest := []) ⟨hx, hb, hml, hown, hts⟩ (c_L_equalTo l hst D cy ed H.size h pe ne pa ro 0 0 ed oa (fun _ => 0) (xs (1 : Int32).toNatClampNeg)) (vx_cwSW 3 hts (zx_GS mm_1334 mm_1335 mm_70 mm_1336) rfl rfl rfl (by decide +kernel) ⟨(Nat.le_of_ble_eq_true rfl), (Nat.le_of_ble_eq_true rfl)⟩) ⟨zx_blind, zx_give hPc hK hDc hS hFc hZ hN⟩ rfl rfl hl.1 rfl (lv_room (Nat.le_of_ble_eq_true rfl)) dL_law_3101 ⟨(Nat.le_of_ble_eq_true rfl), (Nat.le_of_ble_eq_true rfl)⟩) hS (fun q _ h => hFc q h) hFc (fun q _ h => hFc q h) (fun E9 ce9 q9 _ t H locs ht hvm _ hBX hz1 hk1 hS hce hcv hcl => ?_) (fun r9 u t H locs ht hvm hw hB hz1 hk1 hS => ?_)
  · exact hBX.elim
  ·
    obtain rfl : r9 = 1 := hw
    obtain ⟨hP, hD⟩ := zx_join (wr := [(pe, .inr (9, [.int 0, .ref a1, .ref a2, .ref a3, .ref a4, .ref a5, .ref a6, .ref a7, .ref a8, .ref a9])), (a1, .inl (cy 0, 20, .inl (fun _ => 0))), (a2, .inl (cy 0, 20, .inl (fun _ => 0))), (ne, .inr (6, [.ref n1, .ref n2, .ref n3, .ref n4, .ref n5])), (n1, .inl (cy 0, 8, .inl (fun _ => 0))), (n2, .inl (cy 0, 8, .inl f2)), (n3, .inl (cy 0, 8, .inl f3)), (n4, .inl (cy 0, 8, .inl f4)), (n5, .inl (cy 1, 8, .inl f5)), (ro, .inl (cy 0, 20, .inl (fun _ => 0))), (m0, .inr (20, [.int 0, .ref mp, .int 0, .ref b1, .ref b2, .ref b3, .ref b4, .ref b5, .ref mq])), (b1, .inl (cy 0, 8, .inl (fun _ => 0))), (b2, .inl (cy 0, 8, .inl g2)), (b3, .inl (cy 0, 8, .inl g3)), (b4, .inl (cy 0, 8, .inl g4)), (b5, .inl (cy 1, 8, .inl g5)), (mp, .inr (4, [.int 0, .ref ed, .int 0])), (mq, .inr (4, [.int 0, .ref ed, .int 0])), (od, .inl (cy 4, 1, .inr (.inr (.inr (.inl (fun _ => 0))))))]) (w1 := []) [0, 10, 20] [1, 2, 3, 4, 5, 6, 7, 8, 9, 11, 12, 13, 14, 15, 16, 17, 18, 19, 21] rfl rfl (by decide) (by decide) hP hD hk1 hFc hB ht
    have hP : va_P D vwCl [(pe, .inr (9, [.int 0, .ref a1, .ref a2, .ref a3, .ref a4, .ref a5, .ref a6, .ref a7, .ref a8, .ref a9])), (a1, .inl (cy 0, 20, .inl (fun _ => 0))), (a2, .inl (cy 0, 20, .inl (fun _ => 0))), (ne, .inr (6, [.ref n1, .ref n2, .ref n3, .ref n4, .ref n5])), (n1, .inl (cy 0, 8, .inl (fun _ => 0))), (n2, .inl (cy 0, 8, .inl f2)), (n3, .inl (cy 0, 8, .inl f3)), (n4, .inl (cy 0, 8, .inl f4)), (n5, .inl (cy 1, 8, .inl f5)), (ro, .inl (cy 0, 20, .inl (fun _ => 0))), (m0, .inr (20, [.int 0, .ref mp, .int 0, .ref b1, .ref b2, .ref b3, .ref b4, .ref b5, .ref mq])), (b1, .inl (cy 0, 8, .inl (fun _ => 0))), (b2, .inl (cy 0, 8, .inl g2)), (b3, .inl (cy 0, 8, .inl g3)), (b4, .inl (cy 0, 8, .inl g4)), (b5, .inl (cy 1, 8, .inl g5)), (mp, .inr (4, [.int 0, .ref ed, .int 0])), (mq, .inr (4, [.int 0, .ref ed, .int 0])), (od, .inl (cy 4, 1, .inr (.inr (.inr (.inl (fun _ => 0))))))] H := hP
    have hD : va_D A [(pe, .inr (9, [.int 0, .ref a1, .ref a2, .ref a3, .ref a4, .ref a5, .ref a6, .ref a7, .ref a8, .ref a9])), (a1, .inl (cy 0, 20, .inl (fun _ => 0))), (a2, .inl (cy 0, 20, .inl (fun _ => 0))), (ne, .inr (6, [.ref n1, .ref n2, .ref n3, .ref n4, .ref n5])), (n1, .inl (cy 0, 8, .inl (fun _ => 0))), (n2, .inl (cy 0, 8, .inl f2)), (n3, .inl (cy 0, 8, .inl f3)), (n4, .inl (cy 0, 8, .inl f4)), (n5, .inl (cy 1, 8, .inl f5)), (ro, .inl (cy 0, 20, .inl (fun _ => 0))), (m0, .inr (20, [.int 0, .ref mp, .int 0, .ref b1, .ref b2, .ref b3, .ref b4, .ref b5, .ref mq])), (b1, .inl (cy 0, 8, .inl (fun _ => 0))), (b2, .inl (cy 0, 8, .inl g2)), (b3, .inl (cy 0, 8, .inl g3)), (b4, .inl (cy 0, 8, .inl g4)), (b5, .inl (cy 1, 8, .inl g5)), (mp, .inr (4, [.int 0, .ref ed, .int 0])), (mq, .inr (4, [.int 0, .ref ed, .int 0])), (od, .inl (cy 4, 1, .inr (.inr (.inr (.inl (fun _ => 0))))))] := hD
    refine W.widen (k := 30) (n := 886) (Nat.le_of_ble_eq_true rfl) (Nat.le_of_ble_eq_true rfl) ?_
    refine lv_istore (lv' := [(6, .int 1), (5, .int 0), (4, .ref od), (3, .ref oa), (2, .ref m0), (1, .ref h), (0, .ref b)]) hx hb dL_law_3104 hl (by decide) rfl (fun ls hl => ?_)
    refine lv_aload_n hx hb dL_law_3106 rfl (lv_at hl 4 rfl) ?_
    refine lv_aload_n hx hb dL_law_3107 rfl (lv_at hl 6 rfl) ?_
    refine lv_iload hx hb dL_law_3108 (lv_at hl 1 rfl) ?_
    refine lv_iconst (v := 1) hx hb dL_law_3110 (by decide) ?_
    refine lv_iadd hx hb dL_law_3111 ?_
    refine lv_topi (fun y9 ey9 => ?_)
    obtain rfl : y9 = 1 := by rw [ey9] <;> decide
    refine va_sld hx hb hX hbl hbA hS (zx_bn (by decide)) dL_law_3112 ?_
    have hPc := hP.sub (ws' := [(m0, .inr (20, [.int 0, .ref mp, .int 0, .ref b1, .ref b2, .ref b3, .ref b4, .ref b5, .ref mq])), (mp, .inr (4, [.int 0, .ref ed, .int 0])), (mq, .inr (4, [.int 0, .ref ed, .int 0]))]) [10, 16, 17] rfl
    have hDc := hD.sub (ws' := [(m0, .inr (20, [.int 0, .ref mp, .int 0, .ref b1, .ref b2, .ref b3, .ref b4, .ref b5, .ref mq])), (mp, .inr (4, [.int 0, .ref ed, .int 0])), (mq, .inr (4, [.int 0, .ref ed, .int 0]))]) [10, 16, 17] (by decide) rfl
    have hFc := va_free (wc := [(m0, .inr (20, [.int 0, .ref mp, .int 0, .ref b1, .ref b2, .ref b3, .ref b4, .ref b5, .ref mq])), (mp, .inr (4, [.int 0, .ref ed, .int 0])), (mq, .inr (4, [.int 0, .ref ed, .int 0]))]) hD hS hA [10, 16, 17] rfl
    refine va_calli (va_runV (As := [.int (xs (1 : Int32).toNatClampNeg)]) (rest := []) ⟨hx, hb, hml, hown, hts⟩ (c_X15_equalTo l hst D cy ed H.size m0 mp mq b1 b2 b3 b4 b5 0 0 0 ed 0 ed (xs (1 : Int32).toNatClampNeg)) (cwV 1 hts (zx_GV mm_2243 mm_2244 mm_2245 mm_78 mm_2246) rfl rfl rfl (by decide +kernel) ⟨(Nat.le_of_ble_eq_true rfl), (Nat.le_of_ble_eq_true rfl)⟩) ⟨zx_blind, va_recv hK hPc (ci := 20) (q0 := 0) rfl rfl, zx_give hPc hK hDc hS hFc hZ hN⟩ rfl rfl hl.1 rfl (lv_room (Nat.le_of_ble_eq_true rfl)) dL_law_3113 ⟨(Nat.le_of_ble_eq_true rfl), (Nat.le_of_ble_eq_true rfl)⟩) hS (fun q _ h => hFc q h) hFc (fun r9 u t H1 locs ht hvm hw hB hz1 hk1 hS => ?_)
    obtain ⟨r_744, rfl⟩ : ∃ z9, z9 = r9 := ⟨_, rfl⟩
    have h_745 := hw
    obtain ⟨hP, hD⟩ := zx_join (wr := [(pe, .inr (9, [.int 0, .ref a1, .ref a2, .ref a3, .ref a4, .ref a5, .ref a6, .ref a7, .ref a8, .ref a9])), (a1, .inl (cy 0, 20, .inl (fun _ => 0))), (a2, .inl (cy 0, 20, .inl (fun _ => 0))), (ne, .inr (6, [.ref n1, .ref n2, .ref n3, .ref n4, .ref n5])), (n1, .inl (cy 0, 8, .inl (fun _ => 0))), (n2, .inl (cy 0, 8, .inl f2)), (n3, .inl (cy 0, 8, .inl f3)), (n4, .inl (cy 0, 8, .inl f4)), (n5, .inl (cy 1, 8, .inl f5)), (ro, .inl (cy 0, 20, .inl (fun _ => 0))), (b1, .inl (cy 0, 8, .inl (fun _ => 0))), (b2, .inl (cy 0, 8, .inl g2)), (b3, .inl (cy 0, 8, .inl g3)), (b4, .inl (cy 0, 8, .inl g4)), (b5, .inl (cy 1, 8, .inl g5)), (od, .inl (cy 4, 1, .inr (.inr (.inr (.inl (fun _ => 0))))))]) (w1 := [(m0, .inr (20, [.int 1, .ref mp, .int 0, .ref b1, .ref b2, .ref b3, .ref b4, .ref b5, .ref mq]))]) [10, 16, 17] [0, 1, 2, 3, 4, 5, 6, 7, 8, 9, 11, 12, 13, 14, 15, 18] rfl rfl (by decide) (by decide) hP hD hk1 hFc hB ht
    generalize H1 = H at hP hS ⊢
    have hP : va_P D vwCl [(pe, .inr (9, [.int 0, .ref a1, .ref a2, .ref a3, .ref a4, .ref a5, .ref a6, .ref a7, .ref a8, .ref a9])), (a1, .inl (cy 0, 20, .inl (fun _ => 0))), (a2, .inl (cy 0, 20, .inl (fun _ => 0))), (ne, .inr (6, [.ref n1, .ref n2, .ref n3, .ref n4, .ref n5])), (n1, .inl (cy 0, 8, .inl (fun _ => 0))), (n2, .inl (cy 0, 8, .inl f2)), (n3, .inl (cy 0, 8, .inl f3)), (n4, .inl (cy 0, 8, .inl f4)), (n5, .inl (cy 1, 8, .inl f5)), (ro, .inl (cy 0, 20, .inl (fun _ => 0))), (b1, .inl (cy 0, 8, .inl (fun _ => 0))), (b2, .inl (cy 0, 8, .inl g2)), (b3, .inl (cy 0, 8, .inl g3)), (b4, .inl (cy 0, 8, .inl g4)), (b5, .inl (cy 1, 8, .inl g5)), (od, .inl (cy 4, 1, .inr (.inr (.inr (.inl (fun _ => 0)))))), (m0, .inr (20, [.int 1, .ref mp, .int 0, .ref b1, .ref b2, .ref b3, .ref b4, .ref b5, .ref mq]))] H := hP
    have hD : va_D A [(pe, .inr (9, [.int 0, .ref a1, .ref a2, .ref a3, .ref a4, .ref a5, .ref a6, .ref a7, .ref a8, .ref a9])), (a1, .inl (cy 0, 20, .inl (fun _ => 0))), (a2, .inl (cy 0, 20, .inl (fun _ => 0))), (ne, .inr (6, [.ref n1, .ref n2, .ref n3, .ref n4, .ref n5])), (n1, .inl (cy 0, 8, .inl (fun _ => 0))), (n2, .inl (cy 0, 8, .inl f2)), (n3, .inl (cy 0, 8, .inl f3)), (n4, .inl (cy 0, 8, .inl f4)), (n5, .inl (cy 1, 8, .inl f5)), (ro, .inl (cy 0, 20, .inl (fun _ => 0))), (b1, .inl (cy 0, 8, .inl (fun _ => 0))), (b2, .inl (cy 0, 8, .inl g2)), (b3, .inl (cy 0, 8, .inl g3)), (b4, .inl (cy 0, 8, .inl g4)), (b5, .inl (cy 1, 8, .inl g5)), (od, .inl (cy 4, 1, .inr (.inr (.inr (.inl (fun _ => 0)))))), (m0, .inr (20, [.int 1, .ref mp, .int 0, .ref b1, .ref b2, .ref b3, .ref b4, .ref b5, .ref mq]))] := hD
    refine W.widen (k := 30) (n := 886) (Nat.le_of_ble_eq_true rfl) (Nat.le_of_ble_eq_true rfl) ?_
    refine lv_istore (lv' := [(7, .int r_744), (6, .int 1), (5, .int 0), (4, .ref od), (3, .ref oa), (2, .ref m0), (1, .ref h), (0, .ref b)]) hx hb dL_law_3116 hl (by decide) rfl (fun ls hl => ?_)
    refine lv_aload_n hx hb dL_law_3118 rfl (lv_at hl 5 rfl) ?_
    have hPc := hP.sub (ws' := [(m0, .inr (20, [.int 1, .ref mp, .int 0, .ref b1, .ref b2, .ref b3, .ref b4, .ref b5, .ref mq]))]) [16] rfl
    have hDc := hD.sub (ws' := [(m0, .inr (20, [.int 1, .ref mp, .int 0, .ref b1, .ref b2, .ref b3, .ref b4, .ref b5, .ref mq]))]) [16] (by decide) rfl
    have hFc := va_free (wc := [(m0, .inr (20, [.int 1, .ref mp, .int 0, .ref b1, .ref b2, .ref b3, .ref b4, .ref b5, .ref mq]))]) hD hS hA [16] rfl
    refine va_calli (va_runV (As := []) (rest := []) ⟨hx, hb, hml, hown, hts⟩ (c_X15_thrown l hst D cy ed H.size m0 mp mq b1 b2 b3 b4 b5 1 0) (cwV 0 hts (zx_GV mm_1599 mm_1600 mm_1601 mm_78 mm_1602) rfl rfl rfl (by decide +kernel) ⟨(Nat.le_of_ble_eq_true rfl), (Nat.le_of_ble_eq_true rfl)⟩) ⟨zx_blind, va_recv hK hPc (ci := 20) (q0 := 0) rfl rfl, zx_give hPc hK hDc hS hFc hZ hN⟩ rfl rfl hl.1 rfl (lv_room (Nat.le_of_ble_eq_true rfl)) dL_law_3119 ⟨(Nat.le_of_ble_eq_true rfl), (Nat.le_of_ble_eq_true rfl)⟩) hS (fun q _ h => hFc q h) hFc (fun r9 u t H1 locs ht hvm hw hB hz1 hk1 hS => ?_)
    obtain rfl : r9 = 1 := hw
    obtain ⟨hP, hD⟩ := zx_join (wr := [(pe, .inr (9, [.int 0, .ref a1, .ref a2, .ref a3, .ref a4, .ref a5, .ref a6, .ref a7, .ref a8, .ref a9])), (a1, .inl (cy 0, 20, .inl (fun _ => 0))), (a2, .inl (cy 0, 20, .inl (fun _ => 0))), (ne, .inr (6, [.ref n1, .ref n2, .ref n3, .ref n4, .ref n5])), (n1, .inl (cy 0, 8, .inl (fun _ => 0))), (n2, .inl (cy 0, 8, .inl f2)), (n3, .inl (cy 0, 8, .inl f3)), (n4, .inl (cy 0, 8, .inl f4)), (n5, .inl (cy 1, 8, .inl f5)), (ro, .inl (cy 0, 20, .inl (fun _ => 0))), (b1, .inl (cy 0, 8, .inl (fun _ => 0))), (b2, .inl (cy 0, 8, .inl g2)), (b3, .inl (cy 0, 8, .inl g3)), (b4, .inl (cy 0, 8, .inl g4)), (b5, .inl (cy 1, 8, .inl g5)), (od, .inl (cy 4, 1, .inr (.inr (.inr (.inl (fun _ => 0))))))]) (w1 := [(m0, .inr (20, [.int 1, .ref mp, .int 0, .ref b1, .ref b2, .ref b3, .ref b4, .ref b5, .ref mq]))]) [16] [0, 1, 2, 3, 4, 5, 6, 7, 8, 9, 10, 11, 12, 13, 14, 15] rfl rfl (by decide) (by decide) hP hD hk1 hFc hB ht
    generalize H1 = H at hP hS ⊢
    have hP : va_P D vwCl [(pe, .inr (9, [.int 0, .ref a1, .ref a2, .ref a3, .ref a4, .ref a5, .ref a6, .ref a7, .ref a8, .ref a9])), (a1, .inl (cy 0, 20, .inl (fun _ => 0))), (a2, .inl (cy 0, 20, .inl (fun _ => 0))), (ne, .inr (6, [.ref n1, .ref n2, .ref n3, .ref n4, .ref n5])), (n1, .inl (cy 0, 8, .inl (fun _ => 0))), (n2, .inl (cy 0, 8, .inl f2)), (n3, .inl (cy 0, 8, .inl f3)), (n4, .inl (cy 0, 8, .inl f4)), (n5, .inl (cy 1, 8, .inl f5)), (ro, .inl (cy 0, 20, .inl (fun _ => 0))), (b1, .inl (cy 0, 8, .inl (fun _ => 0))), (b2, .inl (cy 0, 8, .inl g2)), (b3, .inl (cy 0, 8, .inl g3)), (b4, .inl (cy 0, 8, .inl g4)), (b5, .inl (cy 1, 8, .inl g5)), (od, .inl (cy 4, 1, .inr (.inr (.inr (.inl (fun _ => 0)))))), (m0, .inr (20, [.int 1, .ref mp, .int 0, .ref b1, .ref b2, .ref b3, .ref b4, .ref b5, .ref mq]))] H := hP
    have hD : va_D A [(pe, .inr (9, [.int 0, .ref a1, .ref a2, .ref a3, .ref a4, .ref a5, .ref a6, .ref a7, .ref a8, .ref a9])), (a1, .inl (cy 0, 20, .inl (fun _ => 0))), (a2, .inl (cy 0, 20, .inl (fun _ => 0))), (ne, .inr (6, [.ref n1, .ref n2, .ref n3, .ref n4, .ref n5])), (n1, .inl (cy 0, 8, .inl (fun _ => 0))), (n2, .inl (cy 0, 8, .inl f2)), (n3, .inl (cy 0, 8, .inl f3)), (n4, .inl (cy 0, 8, .inl f4)), (n5, .inl (cy 1, 8, .inl f5)), (ro, .inl (cy 0, 20, .inl (fun _ => 0))), (b1, .inl (cy 0, 8, .inl (fun _ => 0))), (b2, .inl (cy 0, 8, .inl g2)), (b3, .inl (cy 0, 8, .inl g3)), (b4, .inl (cy 0, 8, .inl g4)), (b5, .inl (cy 1, 8, .inl g5)), (od, .inl (cy 4, 1, .inr (.inr (.inr (.inl (fun _ => 0)))))), (m0, .inr (20, [.int 1, .ref mp, .int 0, .ref b1, .ref b2, .ref b3, .ref b4, .ref b5, .ref mq]))] := hD
    refine W.widen (k := 30) (n := 886) (Nat.le_of_ble_eq_true rfl) (Nat.le_of_ble_eq_true rfl) ?_
    refine lv_iload hx hb dL_law_3122 (lv_at hl 1 rfl) ?_
    refine lv_icmp_eq (tgt := 3129) hx hb dL_law_3124 (by decide) (fun _ => ?_) (fun c_746 => absurd (by decide) c_746)
    refine lv_iload hx hb dL_law_3129 (lv_at hl 1 rfl) ?_
    refine lv_if_ne (tgt := 3146) hx hb dL_law_3131 (by decide) (fun _ => ?_) (fun c_747 => absurd c_747 (by decide))
    refine lv_goto (tgt := 4257) hx hb dL_law_3146 (by decide) ?_
    refine W.widen (k := 60) (n := 1200) (Nat.le_of_ble_eq_true rfl) (Nat.le_of_ble_eq_true rfl) ?_
    exact hend _ _ _ hS (lv_sub hl [7, 2] rfl)
set_option maxHeartbeats 4000000 in
set_option maxRecDepth 100000 in
theorem law_case_41 {p : Program} {l : Launch} {e : Env} {s : State} {m : MethodId} {below : List Frame} {meth : Method} {c : Code} {D : va_G} {cy : Nat → ClassId} {ed b : Nat} {xs : Nat → Int32} {A : Nat → Prop} {Q : State → Prop} (C0 : zx_LW p l s m c D cy ed b xs A)
    {h pe ne pa ro a1 a2 a3 a4 a5 a6 a7 a8 a9 n1 n2 n3 n4 n5 m0 mp b1 b2 b3 b4 b5 mq oa od : Nat} {f2 f3 f4 f5 g2 g3 g4 g5 : Nat → Int32} (hf5 : ∀ j, j < 8 → f5 j = 115) (hg5 : ∀ j, j < 8 → g5 j = 115) {H : Heap} {locs : List Loc} {ls : Array Slot}
    (hP : va_P D vwCl [(h, .inr (13, [.ref pe, .ref ne, .ref pa, .ref ro, .int 0])), (pe, .inr (9, [.int 0, .ref a1, .ref a2, .ref a3, .ref a4, .ref a5, .ref a6, .ref a7, .ref a8, .ref a9])), (a1, .inl (cy 0, 20, .inl (fun _ => 0))), (a2, .inl (cy 0, 20, .inl (fun _ => 0))), (ne, .inr (6, [.ref n1, .ref n2, .ref n3, .ref n4, .ref n5])), (n1, .inl (cy 0, 8, .inl (fun _ => 0))), (n2, .inl (cy 0, 8, .inl f2)), (n3, .inl (cy 0, 8, .inl f3)), (n4, .inl (cy 0, 8, .inl f4)), (n5, .inl (cy 1, 8, .inl f5)), (pa, .inr (4, [.int 0, .ref ed, .int 0])), (ro, .inl (cy 0, 20, .inl (fun _ => 0))), (m0, .inr (20, [.int 0, .ref mp, .int 0, .ref b1, .ref b2, .ref b3, .ref b4, .ref b5, .ref mq])), (b1, .inl (cy 0, 8, .inl (fun _ => 0))), (b2, .inl (cy 0, 8, .inl g2)), (b3, .inl (cy 0, 8, .inl g3)), (b4, .inl (cy 0, 8, .inl g4)), (b5, .inl (cy 1, 8, .inl g5)), (mp, .inr (4, [.int 0, .ref ed, .int 0])), (mq, .inr (4, [.int 0, .ref ed, .int 0])), (oa, .inl (cy 3, 1, .inr (.inl (fun _ => 0)))), (od, .inl (cy 4, 1, .inr (.inr (.inr (.inl (fun _ => 0))))))] H) (hD : va_D A [(h, .inr (13, [.ref pe, .ref ne, .ref pa, .ref ro, .int 0])), (pe, .inr (9, [.int 0, .ref a1, .ref a2, .ref a3, .ref a4, .ref a5, .ref a6, .ref a7, .ref a8, .ref a9])), (a1, .inl (cy 0, 20, .inl (fun _ => 0))), (a2, .inl (cy 0, 20, .inl (fun _ => 0))), (ne, .inr (6, [.ref n1, .ref n2, .ref n3, .ref n4, .ref n5])), (n1, .inl (cy 0, 8, .inl (fun _ => 0))), (n2, .inl (cy 0, 8, .inl f2)), (n3, .inl (cy 0, 8, .inl f3)), (n4, .inl (cy 0, 8, .inl f4)), (n5, .inl (cy 1, 8, .inl f5)), (pa, .inr (4, [.int 0, .ref ed, .int 0])), (ro, .inl (cy 0, 20, .inl (fun _ => 0))), (m0, .inr (20, [.int 0, .ref mp, .int 0, .ref b1, .ref b2, .ref b3, .ref b4, .ref b5, .ref mq])), (b1, .inl (cy 0, 8, .inl (fun _ => 0))), (b2, .inl (cy 0, 8, .inl g2)), (b3, .inl (cy 0, 8, .inl g3)), (b4, .inl (cy 0, 8, .inl g4)), (b5, .inl (cy 1, 8, .inl g5)), (mp, .inr (4, [.int 0, .ref ed, .int 0])), (mq, .inr (4, [.int 0, .ref ed, .int 0])), (oa, .inl (cy 3, 1, .inr (.inl (fun _ => 0)))), (od, .inl (cy 4, 1, .inr (.inr (.inr (.inl (fun _ => 0))))))]) (hS : va_S A s.heap H locs) (hl : lv_has ls 9 [(5, .int 0), (4, .ref od), (3, .ref oa), (2, .ref m0), (1, .ref h), (0, .ref b)])
    (hend : ∀ (H : Heap) (locs : List Loc) (ls : Array Slot), va_S A s.heap H locs → lv_has ls 9 [(0, .ref b), (5, .int 0)] → W p l e room_1 s m #[Value.ref b] below meth c H locs 60 1200 Q (F0 m 4257 ls [])) :
    W p l e room_1 s m #[Value.ref b] below meth c H locs 29 880 Q (F0 m 3149 ls []) := by
  obtain ⟨hx, hb, hml, hst, hown, hts, hX, hbl, hbA, hA, hK, hZ, hN⟩ := C0
  refine lv_aload_n hx hb dL_law_3149 rfl (lv_at hl 4 rfl) ?_
  refine lv_aload_n hx hb dL_law_3150 rfl (lv_at hl 5 rfl) ?_
  refine lv_iload hx hb dL_law_3151 (lv_at hl 0 rfl) ?_
  refine lv_iconst (v := 1) hx hb dL_law_3153 (by decide) ?_
  refine lv_iadd hx hb dL_law_3154 ?_
  refine lv_topi (fun y9 ey9 => ?_)
  obtain rfl : y9 = 1 := by rw [ey9] <;> decide
  refine va_sld hx hb hX hbl hbA hS (zx_bn (by decide)) dL_law_3155 ?_
  refine lv_aload_n hx hb dL_law_3156 rfl (lv_at hl 5 rfl) ?_
  refine lv_iload hx hb dL_law_3157 (lv_at hl 0 rfl) ?_
  refine lv_iconst (v := 2) hx hb dL_law_3159 (by decide) ?_
  refine lv_iadd hx hb dL_law_3160 ?_
  refine lv_topi (fun y9 ey9 => ?_)
  obtain rfl : y9 = 2 := by rw [ey9] <;> decide
  refine va_sld hx hb hX hbl hbA hS (zx_bn (by decide)) dL_law_3161 ?_
  refine lv_aload_n hx hb dL_law_3162 rfl (lv_at hl 2 rfl) ?_
  have hPc := hP.sub (ws' := [(h, .inr (13, [.ref pe, .ref ne, .ref pa, .ref ro, .int 0])), (pa, .inr (4, [.int 0, .ref ed, .int 0])), (oa, .inl (cy 3, 1, .inr (.inl (fun _ => 0))))]) [0, 10, 20] rfl
  have hDc := hD.sub (ws' := [(h, .inr (13, [.ref pe, .ref ne, .ref pa, .ref ro, .int 0])), (pa, .inr (4, [.int 0, .ref ed, .int 0])), (oa, .inl (cy 3, 1, .inr (.inl (fun _ => 0))))]) [0, 10, 20] (by decide) rfl
  have hFc := va_free (wc := [(h, .inr (13, [.ref pe, .ref ne, .ref pa, .ref ro, .int 0])), (pa, .inr (4, [.int 0, .ref ed, .int 0])), (oa, .inl (cy 3, 1, .inr (.inl (fun _ => 0))))]) hD hS hA [0, 10, 20] rfl
  refine vx_calli (vx_runSX (As := [.ref h, .int (xs (1 : Int32).toNatClampNeg), .int (xs (2 : Int32).toNatClampNeg), .ref oa]) (rest := []) ⟨hx, hb, hml, hown, hts⟩ (c_L_complain l hst D cy ed H.size h pe ne pa ro 0 0 ed oa (fun _ => 0) (xs (1 : Int32).toNatClampNeg) (xs (2 : Int32).toNatClampNeg)) (vx_cwSW 4 hts (zx_GS mm_1341 mm_1342 mm_70 mm_1343) rfl rfl rfl (by decide +kernel) ⟨(Nat.le_of_ble_eq_true rfl), (Nat.le_of_ble_eq_true rfl)⟩) ⟨zx_blind, zx_give hPc hK hDc hS hFc hZ hN⟩ rfl rfl hl.1 rfl (lv_room (Nat.le_of_ble_eq_true rfl)) dL_law_3163 ⟨(Nat.le_of_ble_eq_true rfl), (Nat.le_of_ble_eq_true rfl)⟩) hS (fun q _ h => hFc q h) hFc (fun q _ h => hFc q h) (fun E9 ce9 q9 _ t H locs ht hvm _ hBX hz1 hk1 hS hce hcv hcl => ?_) (fun r9 u t H locs ht hvm hw hB hz1 hk1 hS => ?_)
  · exact hBX.elim
  ·
    obtain rfl : r9 = 1 := hw
    obtain ⟨hP, hD⟩ := zx_join (wr := [(pe, .inr (9, [.int 0, .ref a1, .ref a2, .ref a3, .ref a4, .ref a5, .ref a6, .ref a7, .ref a8, .ref a9])), (a1, .inl (cy 0, 20, .inl (fun _ => 0))), (a2, .inl (cy 0, 20, .inl (fun _ => 0))), (ne, .inr (6, [.ref n1, .ref n2, .ref n3, .ref n4, .ref n5])), (n1, .inl (cy 0, 8, .inl (fun _ => 0))), (n2, .inl (cy 0, 8, .inl f2)), (n3, .inl (cy 0, 8, .inl f3)), (n4, .inl (cy 0, 8, .inl f4)), (n5, .inl (cy 1, 8, .inl f5)), (ro, .inl (cy 0, 20, .inl (fun _ => 0))), (m0, .inr (20, [.int 0, .ref mp, .int 0, .ref b1, .ref b2, .ref b3, .ref b4, .ref b5, .ref mq])), (b1, .inl (cy 0, 8, .inl (fun _ => 0))), (b2, .inl (cy 0, 8, .inl g2)), (b3, .inl (cy 0, 8, .inl g3)), (b4, .inl (cy 0, 8, .inl g4)), (b5, .inl (cy 1, 8, .inl g5)), (mp, .inr (4, [.int 0, .ref ed, .int 0])), (mq, .inr (4, [.int 0, .ref ed, .int 0])), (od, .inl (cy 4, 1, .inr (.inr (.inr (.inl (fun _ => 0))))))]) (w1 := []) [0, 10, 20] [1, 2, 3, 4, 5, 6, 7, 8, 9, 11, 12, 13, 14, 15, 16, 17, 18, 19, 21] rfl rfl (by decide) (by decide) hP hD hk1 hFc hB ht
    have hP : va_P D vwCl [(pe, .inr (9, [.int 0, .ref a1, .ref a2, .ref a3, .ref a4, .ref a5, .ref a6, .ref a7, .ref a8, .ref a9])), (a1, .inl (cy 0, 20, .inl (fun _ => 0))), (a2, .inl (cy 0, 20, .inl (fun _ => 0))), (ne, .inr (6, [.ref n1, .ref n2, .ref n3, .ref n4, .ref n5])), (n1, .inl (cy 0, 8, .inl (fun _ => 0))), (n2, .inl (cy 0, 8, .inl f2)), (n3, .inl (cy 0, 8, .inl f3)), (n4, .inl (cy 0, 8, .inl f4)), (n5, .inl (cy 1, 8, .inl f5)), (ro, .inl (cy 0, 20, .inl (fun _ => 0))), (m0, .inr (20, [.int 0, .ref mp, .int 0, .ref b1, .ref b2, .ref b3, .ref b4, .ref b5, .ref mq])), (b1, .inl (cy 0, 8, .inl (fun _ => 0))), (b2, .inl (cy 0, 8, .inl g2)), (b3, .inl (cy 0, 8, .inl g3)), (b4, .inl (cy 0, 8, .inl g4)), (b5, .inl (cy 1, 8, .inl g5)), (mp, .inr (4, [.int 0, .ref ed, .int 0])), (mq, .inr (4, [.int 0, .ref ed, .int 0])), (od, .inl (cy 4, 1, .inr (.inr (.inr (.inl (fun _ => 0))))))] H := hP
    have hD : va_D A [(pe, .inr (9, [.int 0, .ref a1, .ref a2, .ref a3, .ref a4, .ref a5, .ref a6, .ref a7, .ref a8, .ref a9])), (a1, .inl (cy 0, 20, .inl (fun _ => 0))), (a2, .inl (cy 0, 20, .inl (fun _ => 0))), (ne, .inr (6, [.ref n1, .ref n2, .ref n3, .ref n4, .ref n5])), (n1, .inl (cy 0, 8, .inl (fun _ => 0))), (n2, .inl (cy 0, 8, .inl f2)), (n3, .inl (cy 0, 8, .inl f3)), (n4, .inl (cy 0, 8, .inl f4)), (n5, .inl (cy 1, 8, .inl f5)), (ro, .inl (cy 0, 20, .inl (fun _ => 0))), (m0, .inr (20, [.int 0, .ref mp, .int 0, .ref b1, .ref b2, .ref b3, .ref b4, .ref b5, .ref mq])), (b1, .inl (cy 0, 8, .inl (fun _ => 0))), (b2, .inl (cy 0, 8, .inl g2)), (b3, .inl (cy 0, 8, .inl g3)), (b4, .inl (cy 0, 8, .inl g4)), (b5, .inl (cy 1, 8, .inl g5)), (mp, .inr (4, [.int 0, .ref ed, .int 0])), (mq, .inr (4, [.int 0, .ref ed, .int 0])), (od, .inl (cy 4, 1, .inr (.inr (.inr (.inl (fun _ => 0))))))] := hD
    refine W.widen (k := 30) (n := 886) (Nat.le_of_ble_eq_true rfl) (Nat.le_of_ble_eq_true rfl) ?_
    refine lv_istore (lv' := [(6, .int 1), (5, .int 0), (4, .ref od), (3, .ref oa), (2, .ref m0), (1, .ref h), (0, .ref b)]) hx hb dL_law_3166 hl (by decide) rfl (fun ls hl => ?_)
    refine lv_aload_n hx hb dL_law_3168 rfl (lv_at hl 4 rfl) ?_
    refine lv_aload_n hx hb dL_law_3169 rfl (lv_at hl 6 rfl) ?_
    refine lv_iload hx hb dL_law_3170 (lv_at hl 1 rfl) ?_
    refine lv_iconst (v := 1) hx hb dL_law_3172 (by decide) ?_
    refine lv_iadd hx hb dL_law_3173 ?_
    refine lv_topi (fun y9 ey9 => ?_)
    obtain rfl : y9 = 1 := by rw [ey9] <;> decide
    refine va_sld hx hb hX hbl hbA hS (zx_bn (by decide)) dL_law_3174 ?_
    refine lv_aload_n hx hb dL_law_3175 rfl (lv_at hl 6 rfl) ?_
    refine lv_iload hx hb dL_law_3176 (lv_at hl 1 rfl) ?_
    refine lv_iconst (v := 2) hx hb dL_law_3178 (by decide) ?_
    refine lv_iadd hx hb dL_law_3179 ?_
    refine lv_topi (fun y9 ey9 => ?_)
    obtain rfl : y9 = 2 := by rw [ey9] <;> decide
    refine va_sld hx hb hX hbl hbA hS (zx_bn (by decide)) dL_law_3180 ?_
    have hPc := hP.sub (ws' := [(m0, .inr (20, [.int 0, .ref mp, .int 0, .ref b1, .ref b2, .ref b3, .ref b4, .ref b5, .ref mq])), (mp, .inr (4, [.int 0, .ref ed, .int 0])), (mq, .inr (4, [.int 0, .ref ed, .int 0]))]) [10, 16, 17] rfl
    have hDc := hD.sub (ws' := [(m0, .inr (20, [.int 0, .ref mp, .int 0, .ref b1, .ref b2, .ref b3, .ref b4, .ref b5, .ref mq])), (mp, .inr (4, [.int 0, .ref ed, .int 0])), (mq, .inr (4, [.int 0, .ref ed, .int 0]))]) [10, 16, 17] (by decide) rfl
    have hFc := va_free (wc := [(m0, .inr (20, [.int 0, .ref mp, .int 0, .ref b1, .ref b2, .ref b3, .ref b4, .ref b5, .ref mq])), (mp, .inr (4, [.int 0, .ref ed, .int 0])), (mq, .inr (4, [.int 0, .ref ed, .int 0]))]) hD hS hA [10, 16, 17] rfl
    refine va_calli (va_runV (As := [.int (xs (1 : Int32).toNatClampNeg), .int (xs (2 : Int32).toNatClampNeg)]) (rest := []) ⟨hx, hb, hml, hown, hts⟩ (c_X15_complain l hst D cy ed H.size m0 mp mq b1 b2 b3 b4 b5 0 0 0 ed 0 ed (xs (1 : Int32).toNatClampNeg) (xs (2 : Int32).toNatClampNeg)) (cwV 2 hts (zx_GV mm_2273 mm_2274 mm_2275 mm_78 mm_2276) rfl rfl rfl (by decide +kernel) ⟨(Nat.le_of_ble_eq_true rfl), (Nat.le_of_ble_eq_true rfl)⟩) ⟨zx_blind, va_recv hK hPc (ci := 20) (q0 := 0) rfl rfl, zx_give hPc hK hDc hS hFc hZ hN⟩ rfl rfl hl.1 rfl (lv_room (Nat.le_of_ble_eq_true rfl)) dL_law_3181 ⟨(Nat.le_of_ble_eq_true rfl), (Nat.le_of_ble_eq_true rfl)⟩) hS (fun q _ h => hFc q h) hFc (fun r9 u t H1 locs ht hvm hw hB hz1 hk1 hS => ?_)
    obtain ⟨r_748, rfl⟩ : ∃ z9, z9 = r9 := ⟨_, rfl⟩
    have h_749 := hw
    obtain ⟨hP, hD⟩ := zx_join (wr := [(pe, .inr (9, [.int 0, .ref a1, .ref a2, .ref a3, .ref a4, .ref a5, .ref a6, .ref a7, .ref a8, .ref a9])), (a1, .inl (cy 0, 20, .inl (fun _ => 0))), (a2, .inl (cy 0, 20, .inl (fun _ => 0))), (ne, .inr (6, [.ref n1, .ref n2, .ref n3, .ref n4, .ref n5])), (n1, .inl (cy 0, 8, .inl (fun _ => 0))), (n2, .inl (cy 0, 8, .inl f2)), (n3, .inl (cy 0, 8, .inl f3)), (n4, .inl (cy 0, 8, .inl f4)), (n5, .inl (cy 1, 8, .inl f5)), (ro, .inl (cy 0, 20, .inl (fun _ => 0))), (b1, .inl (cy 0, 8, .inl (fun _ => 0))), (b2, .inl (cy 0, 8, .inl g2)), (b3, .inl (cy 0, 8, .inl g3)), (b4, .inl (cy 0, 8, .inl g4)), (b5, .inl (cy 1, 8, .inl g5)), (od, .inl (cy 4, 1, .inr (.inr (.inr (.inl (fun _ => 0))))))]) (w1 := [(m0, .inr (20, [.int 1, .ref mp, .int 0, .ref b1, .ref b2, .ref b3, .ref b4, .ref b5, .ref mq]))]) [10, 16, 17] [0, 1, 2, 3, 4, 5, 6, 7, 8, 9, 11, 12, 13, 14, 15, 18] rfl rfl (by decide) (by decide) hP hD hk1 hFc hB ht
    generalize H1 = H at hP hS ⊢
    have hP : va_P D vwCl [(pe, .inr (9, [.int 0, .ref a1, .ref a2, .ref a3, .ref a4, .ref a5, .ref a6, .ref a7, .ref a8, .ref a9])), (a1, .inl (cy 0, 20, .inl (fun _ => 0))), (a2, .inl (cy 0, 20, .inl (fun _ => 0))), (ne, .inr (6, [.ref n1, .ref n2, .ref n3, .ref n4, .ref n5])), (n1, .inl (cy 0, 8, .inl (fun _ => 0))), (n2, .inl (cy 0, 8, .inl f2)), (n3, .inl (cy 0, 8, .inl f3)), (n4, .inl (cy 0, 8, .inl f4)), (n5, .inl (cy 1, 8, .inl f5)), (ro, .inl (cy 0, 20, .inl (fun _ => 0))), (b1, .inl (cy 0, 8, .inl (fun _ => 0))), (b2, .inl (cy 0, 8, .inl g2)), (b3, .inl (cy 0, 8, .inl g3)), (b4, .inl (cy 0, 8, .inl g4)), (b5, .inl (cy 1, 8, .inl g5)), (od, .inl (cy 4, 1, .inr (.inr (.inr (.inl (fun _ => 0)))))), (m0, .inr (20, [.int 1, .ref mp, .int 0, .ref b1, .ref b2, .ref b3, .ref b4, .ref b5, .ref mq]))] H := hP
    have hD : va_D A [(pe, .inr (9, [.int 0, .ref a1, .ref a2, .ref a3, .ref a4, .ref a5, .ref a6, .ref a7, .ref a8, .ref a9])), (a1, .inl (cy 0, 20, .inl (fun _ => 0))), (a2, .inl (cy 0, 20, .inl (fun _ => 0))), (ne, .inr (6, [.ref n1, .ref n2, .ref n3, .ref n4, .ref n5])), (n1, .inl (cy 0, 8, .inl (fun _ => 0))), (n2, .inl (cy 0, 8, .inl f2)), (n3, .inl (cy 0, 8, .inl f3)), (n4, .inl (cy 0, 8, .inl f4)), (n5, .inl (cy 1, 8, .inl f5)), (ro, .inl (cy 0, 20, .inl (fun _ => 0))), (b1, .inl (cy 0, 8, .inl (fun _ => 0))), (b2, .inl (cy 0, 8, .inl g2)), (b3, .inl (cy 0, 8, .inl g3)), (b4, .inl (cy 0, 8, .inl g4)), (b5, .inl (cy 1, 8, .inl g5)), (od, .inl (cy 4, 1, .inr (.inr (.inr (.inl (fun _ => 0)))))), (m0, .inr (20, [.int 1, .ref mp, .int 0, .ref b1, .ref b2, .ref b3, .ref b4, .ref b5, .ref mq]))] := hD
    refine W.widen (k := 30) (n := 886) (Nat.le_of_ble_eq_true rfl) (Nat.le_of_ble_eq_true rfl) ?_
    refine lv_istore (lv' := [(7, .int r_748), (6, .int 1), (5, .int 0), (4, .ref od), (3, .ref oa), (2, .ref m0), (1, .ref h), (0, .ref b)]) hx hb dL_law_3184 hl (by decide) rfl (fun ls hl => ?_)
    refine lv_aload_n hx hb dL_law_3186 rfl (lv_at hl 5 rfl) ?_
    have hPc := hP.sub (ws' := [(m0, .inr (20, [.int 1, .ref mp, .int 0, .ref b1, .ref b2, .ref b3, .ref b4, .ref b5, .ref mq]))]) [16] rfl
    have hDc := hD.sub (ws' := [(m0, .inr (20, [.int 1, .ref mp, .int 0, .ref b1, .ref b2, .ref b3, .ref b4, .ref b5, .ref mq]))]) [16] (by decide) rfl
    have hFc := va_free (wc := [(m0, .inr (20, [.int 1, .ref mp, .int 0, .ref b1, .ref b2, .ref b3, .ref b4, .ref b5, .ref mq]))]) hD hS hA [16] rfl
    refine va_calli (va_runV (As := []) (rest := []) ⟨hx, hb, hml, hown, hts⟩ (c_X15_thrown l hst D cy ed H.size m0 mp mq b1 b2 b3 b4 b5 1 0) (cwV 0 hts (zx_GV mm_1599 mm_1600 mm_1601 mm_78 mm_1602) rfl rfl rfl (by decide +kernel) ⟨(Nat.le_of_ble_eq_true rfl), (Nat.le_of_ble_eq_true rfl)⟩) ⟨zx_blind, va_recv hK hPc (ci := 20) (q0 := 0) rfl rfl, zx_give hPc hK hDc hS hFc hZ hN⟩ rfl rfl hl.1 rfl (lv_room (Nat.le_of_ble_eq_true rfl)) dL_law_3187 ⟨(Nat.le_of_ble_eq_true rfl), (Nat.le_of_ble_eq_true rfl)⟩) hS (fun q _ h => hFc q h) hFc (fun r9 u t H1 locs ht hvm hw hB hz1 hk1 hS => ?_)
    obtain rfl : r9 = 1 := hw
    obtain ⟨hP, hD⟩ := zx_join (wr := [(pe, .inr (9, [.int 0, .ref a1, .ref a2, .ref a3, .ref a4, .ref a5, .ref a6, .ref a7, .ref a8, .ref a9])), (a1, .inl (cy 0, 20, .inl (fun _ => 0))), (a2, .inl (cy 0, 20, .inl (fun _ => 0))), (ne, .inr (6, [.ref n1, .ref n2, .ref n3, .ref n4, .ref n5])), (n1, .inl (cy 0, 8, .inl (fun _ => 0))), (n2, .inl (cy 0, 8, .inl f2)), (n3, .inl (cy 0, 8, .inl f3)), (n4, .inl (cy 0, 8, .inl f4)), (n5, .inl (cy 1, 8, .inl f5)), (ro, .inl (cy 0, 20, .inl (fun _ => 0))), (b1, .inl (cy 0, 8, .inl (fun _ => 0))), (b2, .inl (cy 0, 8, .inl g2)), (b3, .inl (cy 0, 8, .inl g3)), (b4, .inl (cy 0, 8, .inl g4)), (b5, .inl (cy 1, 8, .inl g5)), (od, .inl (cy 4, 1, .inr (.inr (.inr (.inl (fun _ => 0))))))]) (w1 := [(m0, .inr (20, [.int 1, .ref mp, .int 0, .ref b1, .ref b2, .ref b3, .ref b4, .ref b5, .ref mq]))]) [16] [0, 1, 2, 3, 4, 5, 6, 7, 8, 9, 10, 11, 12, 13, 14, 15] rfl rfl (by decide) (by decide) hP hD hk1 hFc hB ht
    generalize H1 = H at hP hS ⊢
    have hP : va_P D vwCl [(pe, .inr (9, [.int 0, .ref a1, .ref a2, .ref a3, .ref a4, .ref a5, .ref a6, .ref a7, .ref a8, .ref a9])), (a1, .inl (cy 0, 20, .inl (fun _ => 0))), (a2, .inl (cy 0, 20, .inl (fun _ => 0))), (ne, .inr (6, [.ref n1, .ref n2, .ref n3, .ref n4, .ref n5])), (n1, .inl (cy 0, 8, .inl (fun _ => 0))), (n2, .inl (cy 0, 8, .inl f2)), (n3, .inl (cy 0, 8, .inl f3)), (n4, .inl (cy 0, 8, .inl f4)), (n5, .inl (cy 1, 8, .inl f5)), (ro, .inl (cy 0, 20, .inl (fun _ => 0))), (b1, .inl (cy 0, 8, .inl (fun _ => 0))), (b2, .inl (cy 0, 8, .inl g2)), (b3, .inl (cy 0, 8, .inl g3)), (b4, .inl (cy 0, 8, .inl g4)), (b5, .inl (cy 1, 8, .inl g5)), (od, .inl (cy 4, 1, .inr (.inr (.inr (.inl (fun _ => 0)))))), (m0, .inr (20, [.int 1, .ref mp, .int 0, .ref b1, .ref b2, .ref b3, .ref b4, .ref b5, .ref mq]))] H := hP
    have hD : va_D A [(pe, .inr (9, [.int 0, .ref a1, .ref a2, .ref a3, .ref a4, .ref a5, .ref a6, .ref a7, .ref a8, .ref a9])), (a1, .inl (cy 0, 20, .inl (fun _ => 0))), (a2, .inl (cy 0, 20, .inl (fun _ => 0))), (ne, .inr (6, [.ref n1, .ref n2, .ref n3, .ref n4, .ref n5])), (n1, .inl (cy 0, 8, .inl (fun _ => 0))), (n2, .inl (cy 0, 8, .inl f2)), (n3, .inl (cy 0, 8, .inl f3)), (n4, .inl (cy 0, 8, .inl f4)), (n5, .inl (cy 1, 8, .inl f5)), (ro, .inl (cy 0, 20, .inl (fun _ => 0))), (b1, .inl (cy 0, 8, .inl (fun _ => 0))), (b2, .inl (cy 0, 8, .inl g2)), (b3, .inl (cy 0, 8, .inl g3)), (b4, .inl (cy 0, 8, .inl g4)), (b5, .inl (cy 1, 8, .inl g5)), (od, .inl (cy 4, 1, .inr (.inr (.inr (.inl (fun _ => 0)))))), (m0, .inr (20, [.int 1, .ref mp, .int 0, .ref b1, .ref b2, .ref b3, .ref b4, .ref b5, .ref mq]))] := hD
    refine W.widen (k := 30) (n := 886) (Nat.le_of_ble_eq_true rfl) (Nat.le_of_ble_eq_true rfl) ?_
    refine lv_iload hx hb dL_law_3190 (lv_at hl 1 rfl) ?_
    refine lv_icmp_eq (tgt := 3197) hx hb dL_law_3192 (by decide) (fun _ => ?_) (fun c_750 => absurd (by decide) c_750)
    refine lv_iload hx hb dL_law_3197 (lv_at hl 1 rfl) ?_
    refine lv_if_ne (tgt := 3214) hx hb dL_law_3199 (by decide) (fun _ => ?_) (fun c_751 => absurd c_751 (by decide))
    refine lv_goto (tgt := 4257) hx hb dL_law_3214 (by decide) ?_
    refine W.widen (k := 60) (n := 1200) (Nat.le_of_ble_eq_true rfl) (Nat.le_of_ble_eq_true rfl) ?_
    exact hend _ _ _ hS (lv_sub hl [7, 2] rfl)
set_option maxHeartbeats 4000000 in
set_option maxRecDepth 100000 in
theorem law_case_42 {p : Program} {l : Launch} {e : Env} {s : State} {m : MethodId} {below : List Frame} {meth : Method} {c : Code} {D : va_G} {cy : Nat → ClassId} {ed b : Nat} {xs : Nat → Int32} {A : Nat → Prop} {Q : State → Prop} (C0 : zx_LW p l s m c D cy ed b xs A)
    {h pe ne pa ro a1 a2 a3 a4 a5 a6 a7 a8 a9 n1 n2 n3 n4 n5 m0 mp b1 b2 b3 b4 b5 mq oa od : Nat} {f2 f3 f4 f5 g2 g3 g4 g5 : Nat → Int32} (hf5 : ∀ j, j < 8 → f5 j = 115) (hg5 : ∀ j, j < 8 → g5 j = 115) {H : Heap} {locs : List Loc} {ls : Array Slot}
    (hP : va_P D vwCl [(h, .inr (13, [.ref pe, .ref ne, .ref pa, .ref ro, .int 0])), (pe, .inr (9, [.int 0, .ref a1, .ref a2, .ref a3, .ref a4, .ref a5, .ref a6, .ref a7, .ref a8, .ref a9])), (a1, .inl (cy 0, 20, .inl (fun _ => 0))), (a2, .inl (cy 0, 20, .inl (fun _ => 0))), (ne, .inr (6, [.ref n1, .ref n2, .ref n3, .ref n4, .ref n5])), (n1, .inl (cy 0, 8, .inl (fun _ => 0))), (n2, .inl (cy 0, 8, .inl f2)), (n3, .inl (cy 0, 8, .inl f3)), (n4, .inl (cy 0, 8, .inl f4)), (n5, .inl (cy 1, 8, .inl f5)), (pa, .inr (4, [.int 0, .ref ed, .int 0])), (ro, .inl (cy 0, 20, .inl (fun _ => 0))), (m0, .inr (20, [.int 0, .ref mp, .int 0, .ref b1, .ref b2, .ref b3, .ref b4, .ref b5, .ref mq])), (b1, .inl (cy 0, 8, .inl (fun _ => 0))), (b2, .inl (cy 0, 8, .inl g2)), (b3, .inl (cy 0, 8, .inl g3)), (b4, .inl (cy 0, 8, .inl g4)), (b5, .inl (cy 1, 8, .inl g5)), (mp, .inr (4, [.int 0, .ref ed, .int 0])), (mq, .inr (4, [.int 0, .ref ed, .int 0])), (oa, .inl (cy 3, 1, .inr (.inl (fun _ => 0)))), (od, .inl (cy 4, 1, .inr (.inr (.inr (.inl (fun _ => 0))))))] H) (hD : va_D A [(h, .inr (13, [.ref pe, .ref ne, .ref pa, .ref ro, .int 0])), (pe, .inr (9, [.int 0, .ref a1, .ref a2, .ref a3, .ref a4, .ref a5, .ref a6, .ref a7, .ref a8, .ref a9])), (a1, .inl (cy 0, 20, .inl (fun _ => 0))), (a2, .inl (cy 0, 20, .inl (fun _ => 0))), (ne, .inr (6, [.ref n1, .ref n2, .ref n3, .ref n4, .ref n5])), (n1, .inl (cy 0, 8, .inl (fun _ => 0))), (n2, .inl (cy 0, 8, .inl f2)), (n3, .inl (cy 0, 8, .inl f3)), (n4, .inl (cy 0, 8, .inl f4)), (n5, .inl (cy 1, 8, .inl f5)), (pa, .inr (4, [.int 0, .ref ed, .int 0])), (ro, .inl (cy 0, 20, .inl (fun _ => 0))), (m0, .inr (20, [.int 0, .ref mp, .int 0, .ref b1, .ref b2, .ref b3, .ref b4, .ref b5, .ref mq])), (b1, .inl (cy 0, 8, .inl (fun _ => 0))), (b2, .inl (cy 0, 8, .inl g2)), (b3, .inl (cy 0, 8, .inl g3)), (b4, .inl (cy 0, 8, .inl g4)), (b5, .inl (cy 1, 8, .inl g5)), (mp, .inr (4, [.int 0, .ref ed, .int 0])), (mq, .inr (4, [.int 0, .ref ed, .int 0])), (oa, .inl (cy 3, 1, .inr (.inl (fun _ => 0)))), (od, .inl (cy 4, 1, .inr (.inr (.inr (.inl (fun _ => 0))))))]) (hS : va_S A s.heap H locs) (hl : lv_has ls 9 [(5, .int 0), (4, .ref od), (3, .ref oa), (2, .ref m0), (1, .ref h), (0, .ref b)])
    (hend : ∀ (H : Heap) (locs : List Loc) (ls : Array Slot), va_S A s.heap H locs → lv_has ls 9 [(0, .ref b), (5, .int 0)] → W p l e room_1 s m #[Value.ref b] below meth c H locs 60 1200 Q (F0 m 4257 ls [])) :
    W p l e room_1 s m #[Value.ref b] below meth c H locs 29 880 Q (F0 m 3217 ls []) := by
  obtain ⟨hx, hb, hml, hst, hown, hts, hX, hbl, hbA, hA, hK, hZ, hN⟩ := C0
  refine lv_aload_n hx hb dL_law_3217 rfl (lv_at hl 4 rfl) ?_
  refine lv_aload_n hx hb dL_law_3218 rfl (lv_at hl 5 rfl) ?_
  refine lv_iload hx hb dL_law_3219 (lv_at hl 0 rfl) ?_
  refine lv_iconst (v := 1) hx hb dL_law_3221 (by decide) ?_
  refine lv_iadd hx hb dL_law_3222 ?_
  refine lv_topi (fun y9 ey9 => ?_)
  obtain rfl : y9 = 1 := by rw [ey9] <;> decide
  refine va_sld hx hb hX hbl hbA hS (zx_bn (by decide)) dL_law_3223 ?_
  refine lv_aload_n hx hb dL_law_3224 rfl (lv_at hl 2 rfl) ?_
  have hPc := hP.sub (ws' := [(h, .inr (13, [.ref pe, .ref ne, .ref pa, .ref ro, .int 0])), (pa, .inr (4, [.int 0, .ref ed, .int 0])), (oa, .inl (cy 3, 1, .inr (.inl (fun _ => 0))))]) [0, 10, 20] rfl
  have hDc := hD.sub (ws' := [(h, .inr (13, [.ref pe, .ref ne, .ref pa, .ref ro, .int 0])), (pa, .inr (4, [.int 0, .ref ed, .int 0])), (oa, .inl (cy 3, 1, .inr (.inl (fun _ => 0))))]) [0, 10, 20] (by decide) rfl
  have hFc := va_free (wc := [(h, .inr (13, [.ref pe, .ref ne, .ref pa, .ref ro, .int 0])), (pa, .inr (4, [.int 0, .ref ed, .int 0])), (oa, .inl (cy 3, 1, .inr (.inl (fun _ => 0))))]) hD hS hA [0, 10, 20] rfl
  refine vx_calli (vx_runSX (As := [.ref h, .int (xs (1 : Int32).toNatClampNeg), .ref oa]) (rest := []) ⟨hx, hb, hml, hown, hts⟩ (c_L_seat l hst D cy ed H.size h pe ne pa ro 0 0 ed oa (fun _ => 0) (xs (1 : Int32).toNatClampNeg)) (vx_cwSW 3 hts (zx_GS mm_1348 mm_1349 mm_70 mm_1350) rfl rfl rfl (by decide +kernel) ⟨(Nat.le_of_ble_eq_true rfl), (Nat.le_of_ble_eq_true rfl)⟩) ⟨zx_blind, zx_give hPc hK hDc hS hFc hZ hN⟩ rfl rfl hl.1 rfl (lv_room (Nat.le_of_ble_eq_true rfl)) dL_law_3225 ⟨(Nat.le_of_ble_eq_true rfl), (Nat.le_of_ble_eq_true rfl)⟩) hS (fun q _ h => hFc q h) hFc (fun q _ h => hFc q h) (fun E9 ce9 q9 _ t H locs ht hvm _ hBX hz1 hk1 hS hce hcv hcl => ?_) (fun r9 u t H locs ht hvm hw hB hz1 hk1 hS => ?_)
  · exact hBX.elim
  ·
    obtain rfl : r9 = 1 := hw
    obtain ⟨hP, hD⟩ := zx_join (wr := [(pe, .inr (9, [.int 0, .ref a1, .ref a2, .ref a3, .ref a4, .ref a5, .ref a6, .ref a7, .ref a8, .ref a9])), (a1, .inl (cy 0, 20, .inl (fun _ => 0))), (a2, .inl (cy 0, 20, .inl (fun _ => 0))), (ne, .inr (6, [.ref n1, .ref n2, .ref n3, .ref n4, .ref n5])), (n1, .inl (cy 0, 8, .inl (fun _ => 0))), (n2, .inl (cy 0, 8, .inl f2)), (n3, .inl (cy 0, 8, .inl f3)), (n4, .inl (cy 0, 8, .inl f4)), (n5, .inl (cy 1, 8, .inl f5)), (ro, .inl (cy 0, 20, .inl (fun _ => 0))), (m0, .inr (20, [.int 0, .ref mp, .int 0, .ref b1, .ref b2, .ref b3, .ref b4, .ref b5, .ref mq])), (b1, .inl (cy 0, 8, .inl (fun _ => 0))), (b2, .inl (cy 0, 8, .inl g2)), (b3, .inl (cy 0, 8, .inl g3)), (b4, .inl (cy 0, 8, .inl g4)), (b5, .inl (cy 1, 8, .inl g5)), (mp, .inr (4, [.int 0, .ref ed, .int 0])), (mq, .inr (4, [.int 0, .ref ed, .int 0])), (od, .inl (cy 4, 1, .inr (.inr (.inr (.inl (fun _ => 0))))))]) (w1 := []) [0, 10, 20] [1, 2, 3, 4, 5, 6, 7, 8, 9, 11, 12, 13, 14, 15, 16, 17, 18, 19, 21] rfl rfl (by decide) (by decide) hP hD hk1 hFc hB ht
    have hP : va_P D vwCl [(pe, .inr (9, [.int 0, .ref a1, .ref a2, .ref a3, .ref a4, .ref a5, .ref a6, .ref a7, .ref a8, .ref a9])), (a1, .inl (cy 0, 20, .inl (fun _ => 0))), (a2, .inl (cy 0, 20, .inl (fun _ => 0))), (ne, .inr (6, [.ref n1, .ref n2, .ref n3, .ref n4, .ref n5])), (n1, .inl (cy 0, 8, .inl (fun _ => 0))), (n2, .inl (cy 0, 8, .inl f2)), (n3, .inl (cy 0, 8, .inl f3)), (n4, .inl (cy 0, 8, .inl f4)), (n5, .inl (cy 1, 8, .inl f5)), (ro, .inl (cy 0, 20, .inl (fun _ => 0))), (m0, .inr (20, [.int 0, .ref mp, .int 0, .ref b1, .ref b2, .ref b3, .ref b4, .ref b5, .ref mq])), (b1, .inl (cy 0, 8, .inl (fun _ => 0))), (b2, .inl (cy 0, 8, .inl g2)), (b3, .inl (cy 0, 8, .inl g3)), (b4, .inl (cy 0, 8, .inl g4)), (b5, .inl (cy 1, 8, .inl g5)), (mp, .inr (4, [.int 0, .ref ed, .int 0])), (mq, .inr (4, [.int 0, .ref ed, .int 0])), (od, .inl (cy 4, 1, .inr (.inr (.inr (.inl (fun _ => 0))))))] H := hP
    have hD : va_D A [(pe, .inr (9, [.int 0, .ref a1, .ref a2, .ref a3, .ref a4, .ref a5, .ref a6, .ref a7, .ref a8, .ref a9])), (a1, .inl (cy 0, 20, .inl (fun _ => 0))), (a2, .inl (cy 0, 20, .inl (fun _ => 0))), (ne, .inr (6, [.ref n1, .ref n2, .ref n3, .ref n4, .ref n5])), (n1, .inl (cy 0, 8, .inl (fun _ => 0))), (n2, .inl (cy 0, 8, .inl f2)), (n3, .inl (cy 0, 8, .inl f3)), (n4, .inl (cy 0, 8, .inl f4)), (n5, .inl (cy 1, 8, .inl f5)), (ro, .inl (cy 0, 20, .inl (fun _ => 0))), (m0, .inr (20, [.int 0, .ref mp, .int 0, .ref b1, .ref b2, .ref b3, .ref b4, .ref b5, .ref mq])), (b1, .inl (cy 0, 8, .inl (fun _ => 0))), (b2, .inl (cy 0, 8, .inl g2)), (b3, .inl (cy 0, 8, .inl g3)), (b4, .inl (cy 0, 8, .inl g4)), (b5, .inl (cy 1, 8, .inl g5)), (mp, .inr (4, [.int 0, .ref ed, .int 0])), (mq, .inr (4, [.int 0, .ref ed, .int 0])), (od, .inl (cy 4, 1, .inr (.inr (.inr (.inl (fun _ => 0))))))] := hD
    refine W.widen (k := 30) (n := 886) (Nat.le_of_ble_eq_true rfl) (Nat.le_of_ble_eq_true rfl) ?_
    refine lv_istore (lv' := [(6, .int 1), (5, .int 0), (4, .ref od), (3, .ref oa), (2, .ref m0), (1, .ref h), (0, .ref b)]) hx hb dL_law_3228 hl (by decide) rfl (fun ls hl => ?_)
    refine lv_aload_n hx hb dL_law_3230 rfl (lv_at hl 4 rfl) ?_
    refine lv_aload_n hx hb dL_law_3231 rfl (lv_at hl 6 rfl) ?_
    refine lv_iload hx hb dL_law_3232 (lv_at hl 1 rfl) ?_
    refine lv_iconst (v := 1) hx hb dL_law_3234 (by decide) ?_
    refine lv_iadd hx hb dL_law_3235 ?_
    refine lv_topi (fun y9 ey9 => ?_)
    obtain rfl : y9 = 1 := by rw [ey9] <;> decide
    refine va_sld hx hb hX hbl hbA hS (zx_bn (by decide)) dL_law_3236 ?_
    have hPc := hP.sub (ws' := [(m0, .inr (20, [.int 0, .ref mp, .int 0, .ref b1, .ref b2, .ref b3, .ref b4, .ref b5, .ref mq])), (mp, .inr (4, [.int 0, .ref ed, .int 0])), (mq, .inr (4, [.int 0, .ref ed, .int 0]))]) [10, 16, 17] rfl
    have hDc := hD.sub (ws' := [(m0, .inr (20, [.int 0, .ref mp, .int 0, .ref b1, .ref b2, .ref b3, .ref b4, .ref b5, .ref mq])), (mp, .inr (4, [.int 0, .ref ed, .int 0])), (mq, .inr (4, [.int 0, .ref ed, .int 0]))]) [10, 16, 17] (by decide) rfl
    have hFc := va_free (wc := [(m0, .inr (20, [.int 0, .ref mp, .int 0, .ref b1, .ref b2, .ref b3, .ref b4, .ref b5, .ref mq])), (mp, .inr (4, [.int 0, .ref ed, .int 0])), (mq, .inr (4, [.int 0, .ref ed, .int 0]))]) hD hS hA [10, 16, 17] rfl
    refine va_calli (va_runV (As := [.int (xs (1 : Int32).toNatClampNeg)]) (rest := []) ⟨hx, hb, hml, hown, hts⟩ (c_X15_seat l hst D cy ed H.size m0 mp mq b1 b2 b3 b4 b5 0 0 0 ed 0 ed (xs (1 : Int32).toNatClampNeg)) (cwV 1 hts (zx_GV mm_2277 mm_2278 mm_2279 mm_78 mm_2280) rfl rfl rfl (by decide +kernel) ⟨(Nat.le_of_ble_eq_true rfl), (Nat.le_of_ble_eq_true rfl)⟩) ⟨zx_blind, va_recv hK hPc (ci := 20) (q0 := 0) rfl rfl, zx_give hPc hK hDc hS hFc hZ hN⟩ rfl rfl hl.1 rfl (lv_room (Nat.le_of_ble_eq_true rfl)) dL_law_3237 ⟨(Nat.le_of_ble_eq_true rfl), (Nat.le_of_ble_eq_true rfl)⟩) hS (fun q _ h => hFc q h) hFc (fun r9 u t H1 locs ht hvm hw hB hz1 hk1 hS => ?_)
    obtain ⟨r_752, rfl⟩ : ∃ z9, z9 = r9 := ⟨_, rfl⟩
    have h_753 := hw
    obtain ⟨hP, hD⟩ := zx_join (wr := [(pe, .inr (9, [.int 0, .ref a1, .ref a2, .ref a3, .ref a4, .ref a5, .ref a6, .ref a7, .ref a8, .ref a9])), (a1, .inl (cy 0, 20, .inl (fun _ => 0))), (a2, .inl (cy 0, 20, .inl (fun _ => 0))), (ne, .inr (6, [.ref n1, .ref n2, .ref n3, .ref n4, .ref n5])), (n1, .inl (cy 0, 8, .inl (fun _ => 0))), (n2, .inl (cy 0, 8, .inl f2)), (n3, .inl (cy 0, 8, .inl f3)), (n4, .inl (cy 0, 8, .inl f4)), (n5, .inl (cy 1, 8, .inl f5)), (ro, .inl (cy 0, 20, .inl (fun _ => 0))), (b1, .inl (cy 0, 8, .inl (fun _ => 0))), (b2, .inl (cy 0, 8, .inl g2)), (b3, .inl (cy 0, 8, .inl g3)), (b4, .inl (cy 0, 8, .inl g4)), (b5, .inl (cy 1, 8, .inl g5)), (od, .inl (cy 4, 1, .inr (.inr (.inr (.inl (fun _ => 0))))))]) (w1 := [(m0, .inr (20, [.int 1, .ref mp, .int 0, .ref b1, .ref b2, .ref b3, .ref b4, .ref b5, .ref mq]))]) [10, 16, 17] [0, 1, 2, 3, 4, 5, 6, 7, 8, 9, 11, 12, 13, 14, 15, 18] rfl rfl (by decide) (by decide) hP hD hk1 hFc hB ht
    generalize H1 = H at hP hS ⊢
    have hP : va_P D vwCl [(pe, .inr (9, [.int 0, .ref a1, .ref a2, .ref a3, .ref a4, .ref a5, .ref a6, .ref a7, .ref a8, .ref a9])), (a1, .inl (cy 0, 20, .inl (fun _ => 0))), (a2, .inl (cy 0, 20, .inl (fun _ => 0))), (ne, .inr (6, [.ref n1, .ref n2, .ref n3, .ref n4, .ref n5])), (n1, .inl (cy 0, 8, .inl (fun _ => 0))), (n2, .inl (cy 0, 8, .inl f2)), (n3, .inl (cy 0, 8, .inl f3)), (n4, .inl (cy 0, 8, .inl f4)), (n5, .inl (cy 1, 8, .inl f5)), (ro, .inl (cy 0, 20, .inl (fun _ => 0))), (b1, .inl (cy 0, 8, .inl (fun _ => 0))), (b2, .inl (cy 0, 8, .inl g2)), (b3, .inl (cy 0, 8, .inl g3)), (b4, .inl (cy 0, 8, .inl g4)), (b5, .inl (cy 1, 8, .inl g5)), (od, .inl (cy 4, 1, .inr (.inr (.inr (.inl (fun _ => 0)))))), (m0, .inr (20, [.int 1, .ref mp, .int 0, .ref b1, .ref b2, .ref b3, .ref b4, .ref b5, .ref mq]))] H := hP
    have hD : va_D A [(pe, .inr (9, [.int 0, .ref a1, .ref a2, .ref a3, .ref a4, .ref a5, .ref a6, .ref a7, .ref a8, .ref a9])), (a1, .inl (cy 0, 20, .inl (fun _ => 0))), (a2, .inl (cy 0, 20, .inl (fun _ => 0))), (ne, .inr (6, [.ref n1, .ref n2, .ref n3, .ref n4, .ref n5])), (n1, .inl (cy 0, 8, .inl (fun _ => 0))), (n2, .inl (cy 0, 8, .inl f2)), (n3, .inl (cy 0, 8, .inl f3)), (n4, .inl (cy 0, 8, .inl f4)), (n5, .inl (cy 1, 8, .inl f5)), (ro, .inl (cy 0, 20, .inl (fun _ => 0))), (b1, .inl (cy 0, 8, .inl (fun _ => 0))), (b2, .inl (cy 0, 8, .inl g2)), (b3, .inl (cy 0, 8, .inl g3)), (b4, .inl (cy 0, 8, .inl g4)), (b5, .inl (cy 1, 8, .inl g5)), (od, .inl (cy 4, 1, .inr (.inr (.inr (.inl (fun _ => 0)))))), (m0, .inr (20, [.int 1, .ref mp, .int 0, .ref b1, .ref b2, .ref b3, .ref b4, .ref b5, .ref mq]))] := hD
    refine W.widen (k := 30) (n := 886) (Nat.le_of_ble_eq_true rfl) (Nat.le_of_ble_eq_true rfl) ?_
    refine lv_istore (lv' := [(7, .int r_752), (6, .int 1), (5, .int 0), (4, .ref od), (3, .ref oa), (2, .ref m0), (1, .ref h), (0, .ref b)]) hx hb dL_law_3240 hl (by decide) rfl (fun ls hl => ?_)
    refine lv_aload_n hx hb dL_law_3242 rfl (lv_at hl 5 rfl) ?_
    have hPc := hP.sub (ws' := [(m0, .inr (20, [.int 1, .ref mp, .int 0, .ref b1, .ref b2, .ref b3, .ref b4, .ref b5, .ref mq]))]) [16] rfl
    have hDc := hD.sub (ws' := [(m0, .inr (20, [.int 1, .ref mp, .int 0, .ref b1, .ref b2, .ref b3, .ref b4, .ref b5, .ref mq]))]) [16] (by decide) rfl
    have hFc := va_free (wc := [(m0, .inr (20, [.int 1, .ref mp, .int 0, .ref b1, .ref b2, .ref b3, .ref b4, .ref b5, .ref mq]))]) hD hS hA [16] rfl
    refine va_calli (va_runV (As := []) (rest := []) ⟨hx, hb, hml, hown, hts⟩ (c_X15_thrown l hst D cy ed H.size m0 mp mq b1 b2 b3 b4 b5 1 0) (cwV 0 hts (zx_GV mm_1599 mm_1600 mm_1601 mm_78 mm_1602) rfl rfl rfl (by decide +kernel) ⟨(Nat.le_of_ble_eq_true rfl), (Nat.le_of_ble_eq_true rfl)⟩) ⟨zx_blind, va_recv hK hPc (ci := 20) (q0 := 0) rfl rfl, zx_give hPc hK hDc hS hFc hZ hN⟩ rfl rfl hl.1 rfl (lv_room (Nat.le_of_ble_eq_true rfl)) dL_law_3243 ⟨(Nat.le_of_ble_eq_true rfl), (Nat.le_of_ble_eq_true rfl)⟩) hS (fun q _ h => hFc q h) hFc (fun r9 u t H1 locs ht hvm hw hB hz1 hk1 hS => ?_)
    obtain rfl : r9 = 1 := hw
    obtain ⟨hP, hD⟩ := zx_join (wr := [(pe, .inr (9, [.int 0, .ref a1, .ref a2, .ref a3, .ref a4, .ref a5, .ref a6, .ref a7, .ref a8, .ref a9])), (a1, .inl (cy 0, 20, .inl (fun _ => 0))), (a2, .inl (cy 0, 20, .inl (fun _ => 0))), (ne, .inr (6, [.ref n1, .ref n2, .ref n3, .ref n4, .ref n5])), (n1, .inl (cy 0, 8, .inl (fun _ => 0))), (n2, .inl (cy 0, 8, .inl f2)), (n3, .inl (cy 0, 8, .inl f3)), (n4, .inl (cy 0, 8, .inl f4)), (n5, .inl (cy 1, 8, .inl f5)), (ro, .inl (cy 0, 20, .inl (fun _ => 0))), (b1, .inl (cy 0, 8, .inl (fun _ => 0))), (b2, .inl (cy 0, 8, .inl g2)), (b3, .inl (cy 0, 8, .inl g3)), (b4, .inl (cy 0, 8, .inl g4)), (b5, .inl (cy 1, 8, .inl g5)), (od, .inl (cy 4, 1, .inr (.inr (.inr (.inl (fun _ => 0))))))]) (w1 := [(m0, .inr (20, [.int 1, .ref mp, .int 0, .ref b1, .ref b2, .ref b3, .ref b4, .ref b5, .ref mq]))]) [16] [0, 1, 2, 3, 4, 5, 6, 7, 8, 9, 10, 11, 12, 13, 14, 15] rfl rfl (by decide) (by decide) hP hD hk1 hFc hB ht
    generalize H1 = H at hP hS ⊢
    have hP : va_P D vwCl [(pe, .inr (9, [.int 0, .ref a1, .ref a2, .ref a3, .ref a4, .ref a5, .ref a6, .ref a7, .ref a8, .ref a9])), (a1, .inl (cy 0, 20, .inl (fun _ => 0))), (a2, .inl (cy 0, 20, .inl (fun _ => 0))), (ne, .inr (6, [.ref n1, .ref n2, .ref n3, .ref n4, .ref n5])), (n1, .inl (cy 0, 8, .inl (fun _ => 0))), (n2, .inl (cy 0, 8, .inl f2)), (n3, .inl (cy 0, 8, .inl f3)), (n4, .inl (cy 0, 8, .inl f4)), (n5, .inl (cy 1, 8, .inl f5)), (ro, .inl (cy 0, 20, .inl (fun _ => 0))), (b1, .inl (cy 0, 8, .inl (fun _ => 0))), (b2, .inl (cy 0, 8, .inl g2)), (b3, .inl (cy 0, 8, .inl g3)), (b4, .inl (cy 0, 8, .inl g4)), (b5, .inl (cy 1, 8, .inl g5)), (od, .inl (cy 4, 1, .inr (.inr (.inr (.inl (fun _ => 0)))))), (m0, .inr (20, [.int 1, .ref mp, .int 0, .ref b1, .ref b2, .ref b3, .ref b4, .ref b5, .ref mq]))] H := hP
    have hD : va_D A [(pe, .inr (9, [.int 0, .ref a1, .ref a2, .ref a3, .ref a4, .ref a5, .ref a6, .ref a7, .ref a8, .ref a9])), (a1, .inl (cy 0, 20, .inl (fun _ => 0))), (a2, .inl (cy 0, 20, .inl (fun _ => 0))), (ne, .inr (6, [.ref n1, .ref n2, .ref n3, .ref n4, .ref n5])), (n1, .inl (cy 0, 8, .inl (fun _ => 0))), (n2, .inl (cy 0, 8, .inl f2)), (n3, .inl (cy 0, 8, .inl f3)), (n4, .inl (cy 0, 8, .inl f4)), (n5, .inl (cy 1, 8, .inl f5)), (ro, .inl (cy 0, 20, .inl (fun _ => 0))), (b1, .inl (cy 0, 8, .inl (fun _ => 0))), (b2, .inl (cy 0, 8, .inl g2)), (b3, .inl (cy 0, 8, .inl g3)), (b4, .inl (cy 0, 8, .inl g4)), (b5, .inl (cy 1, 8, .inl g5)), (od, .inl (cy 4, 1, .inr (.inr (.inr (.inl (fun _ => 0)))))), (m0, .inr (20, [.int 1, .ref mp, .int 0, .ref b1, .ref b2, .ref b3, .ref b4, .ref b5, .ref mq]))] := hD
    refine W.widen (k := 30) (n := 886) (Nat.le_of_ble_eq_true rfl) (Nat.le_of_ble_eq_true rfl) ?_
    refine lv_iload hx hb dL_law_3246 (lv_at hl 1 rfl) ?_
    refine lv_icmp_eq (tgt := 3253) hx hb dL_law_3248 (by decide) (fun _ => ?_) (fun c_754 => absurd (by decide) c_754)
    refine lv_iload hx hb dL_law_3253 (lv_at hl 1 rfl) ?_
    refine lv_if_ne (tgt := 3270) hx hb dL_law_3255 (by decide) (fun _ => ?_) (fun c_755 => absurd c_755 (by decide))
    refine lv_goto (tgt := 4257) hx hb dL_law_3270 (by decide) ?_
    refine W.widen (k := 60) (n := 1200) (Nat.le_of_ble_eq_true rfl) (Nat.le_of_ble_eq_true rfl) ?_
    exact hend _ _ _ hS (lv_sub hl [7, 2] rfl)
set_option maxHeartbeats 4000000 in
set_option maxRecDepth 100000 in
theorem law_case_43 {p : Program} {l : Launch} {e : Env} {s : State} {m : MethodId} {below : List Frame} {meth : Method} {c : Code} {D : va_G} {cy : Nat → ClassId} {ed b : Nat} {xs : Nat → Int32} {A : Nat → Prop} {Q : State → Prop} (C0 : zx_LW p l s m c D cy ed b xs A)
    {h pe ne pa ro a1 a2 a3 a4 a5 a6 a7 a8 a9 n1 n2 n3 n4 n5 m0 mp b1 b2 b3 b4 b5 mq oa od : Nat} {f2 f3 f4 f5 g2 g3 g4 g5 : Nat → Int32} (hf5 : ∀ j, j < 8 → f5 j = 115) (hg5 : ∀ j, j < 8 → g5 j = 115) {H : Heap} {locs : List Loc} {ls : Array Slot}
    (hP : va_P D vwCl [(h, .inr (13, [.ref pe, .ref ne, .ref pa, .ref ro, .int 0])), (pe, .inr (9, [.int 0, .ref a1, .ref a2, .ref a3, .ref a4, .ref a5, .ref a6, .ref a7, .ref a8, .ref a9])), (a1, .inl (cy 0, 20, .inl (fun _ => 0))), (a2, .inl (cy 0, 20, .inl (fun _ => 0))), (ne, .inr (6, [.ref n1, .ref n2, .ref n3, .ref n4, .ref n5])), (n1, .inl (cy 0, 8, .inl (fun _ => 0))), (n2, .inl (cy 0, 8, .inl f2)), (n3, .inl (cy 0, 8, .inl f3)), (n4, .inl (cy 0, 8, .inl f4)), (n5, .inl (cy 1, 8, .inl f5)), (pa, .inr (4, [.int 0, .ref ed, .int 0])), (ro, .inl (cy 0, 20, .inl (fun _ => 0))), (m0, .inr (20, [.int 0, .ref mp, .int 0, .ref b1, .ref b2, .ref b3, .ref b4, .ref b5, .ref mq])), (b1, .inl (cy 0, 8, .inl (fun _ => 0))), (b2, .inl (cy 0, 8, .inl g2)), (b3, .inl (cy 0, 8, .inl g3)), (b4, .inl (cy 0, 8, .inl g4)), (b5, .inl (cy 1, 8, .inl g5)), (mp, .inr (4, [.int 0, .ref ed, .int 0])), (mq, .inr (4, [.int 0, .ref ed, .int 0])), (oa, .inl (cy 3, 1, .inr (.inl (fun _ => 0)))), (od, .inl (cy 4, 1, .inr (.inr (.inr (.inl (fun _ => 0))))))] H) (hD : va_D A [(h, .inr (13, [.ref pe, .ref ne, .ref pa, .ref ro, .int 0])), (pe, .inr (9, [.int 0, .ref a1, .ref a2, .ref a3, .ref a4, .ref a5, .ref a6, .ref a7, .ref a8, .ref a9])), (a1, .inl (cy 0, 20, .inl (fun _ => 0))), (a2, .inl (cy 0, 20, .inl (fun _ => 0))), (ne, .inr (6, [.ref n1, .ref n2, .ref n3, .ref n4, .ref n5])), (n1, .inl (cy 0, 8, .inl (fun _ => 0))), (n2, .inl (cy 0, 8, .inl f2)), (n3, .inl (cy 0, 8, .inl f3)), (n4, .inl (cy 0, 8, .inl f4)), (n5, .inl (cy 1, 8, .inl f5)), (pa, .inr (4, [.int 0, .ref ed, .int 0])), (ro, .inl (cy 0, 20, .inl (fun _ => 0))), (m0, .inr (20, [.int 0, .ref mp, .int 0, .ref b1, .ref b2, .ref b3, .ref b4, .ref b5, .ref mq])), (b1, .inl (cy 0, 8, .inl (fun _ => 0))), (b2, .inl (cy 0, 8, .inl g2)), (b3, .inl (cy 0, 8, .inl g3)), (b4, .inl (cy 0, 8, .inl g4)), (b5, .inl (cy 1, 8, .inl g5)), (mp, .inr (4, [.int 0, .ref ed, .int 0])), (mq, .inr (4, [.int 0, .ref ed, .int 0])), (oa, .inl (cy 3, 1, .inr (.inl (fun _ => 0)))), (od, .inl (cy 4, 1, .inr (.inr (.inr (.inl (fun _ => 0))))))]) (hS : va_S A s.heap H locs) (hl : lv_has ls 9 [(5, .int 0), (4, .ref od), (3, .ref oa), (2, .ref m0), (1, .ref h), (0, .ref b)])
    (hend : ∀ (H : Heap) (locs : List Loc) (ls : Array Slot), va_S A s.heap H locs → lv_has ls 9 [(0, .ref b), (5, .int 0)] → W p l e room_1 s m #[Value.ref b] below meth c H locs 60 1200 Q (F0 m 4257 ls [])) :
    W p l e room_1 s m #[Value.ref b] below meth c H locs 29 880 Q (F0 m 3273 ls []) := by
  obtain ⟨hx, hb, hml, hst, hown, hts, hX, hbl, hbA, hA, hK, hZ, hN⟩ := C0
  refine lv_aload_n hx hb dL_law_3273 rfl (lv_at hl 4 rfl) ?_
  refine lv_aload_n hx hb dL_law_3274 rfl (lv_at hl 5 rfl) ?_
  refine lv_iload hx hb dL_law_3275 (lv_at hl 0 rfl) ?_
  refine lv_iconst (v := 1) hx hb dL_law_3277 (by decide) ?_
  refine lv_iadd hx hb dL_law_3278 ?_
  refine lv_topi (fun y9 ey9 => ?_)
  obtain rfl : y9 = 1 := by rw [ey9] <;> decide
  refine va_sld hx hb hX hbl hbA hS (zx_bn (by decide)) dL_law_3279 ?_
  refine lv_aload_n hx hb dL_law_3280 rfl (lv_at hl 5 rfl) ?_
  refine lv_iload hx hb dL_law_3281 (lv_at hl 0 rfl) ?_
  refine lv_iconst (v := 2) hx hb dL_law_3283 (by decide) ?_
  refine lv_iadd hx hb dL_law_3284 ?_
  refine lv_topi (fun y9 ey9 => ?_)
  obtain rfl : y9 = 2 := by rw [ey9] <;> decide
  refine va_sld hx hb hX hbl hbA hS (zx_bn (by decide)) dL_law_3285 ?_
  refine lv_aload_n hx hb dL_law_3286 rfl (lv_at hl 5 rfl) ?_
  refine lv_iload hx hb dL_law_3287 (lv_at hl 0 rfl) ?_
  refine lv_iconst (v := 3) hx hb dL_law_3289 (by decide) ?_
  refine lv_iadd hx hb dL_law_3290 ?_
  refine lv_topi (fun y9 ey9 => ?_)
  obtain rfl : y9 = 3 := by rw [ey9] <;> decide
  refine va_sld hx hb hX hbl hbA hS (zx_bn (by decide)) dL_law_3291 ?_
  refine lv_if_eq (tgt := 3299) hx hb dL_law_3292 (by decide) (fun c_756 => ?_) (fun c_756 => ?_)
  ·
    refine lv_iconst (v := 0) hx hb dL_law_3299 (by decide) ?_
    refine lv_aload_n hx hb dL_law_3300 rfl (lv_at hl 2 rfl) ?_
    have hPc := hP.sub (ws' := [(h, .inr (13, [.ref pe, .ref ne, .ref pa, .ref ro, .int 0])), (pa, .inr (4, [.int 0, .ref ed, .int 0])), (oa, .inl (cy 3, 1, .inr (.inl (fun _ => 0))))]) [0, 10, 20] rfl
    have hDc := hD.sub (ws' := [(h, .inr (13, [.ref pe, .ref ne, .ref pa, .ref ro, .int 0])), (pa, .inr (4, [.int 0, .ref ed, .int 0])), (oa, .inl (cy 3, 1, .inr (.inl (fun _ => 0))))]) [0, 10, 20] (by decide) rfl
    have hFc := va_free (wc := [(h, .inr (13, [.ref pe, .ref ne, .ref pa, .ref ro, .int 0])), (pa, .inr (4, [.int 0, .ref ed, .int 0])), (oa, .inl (cy 3, 1, .inr (.inl (fun _ => 0))))]) hD hS hA [0, 10, 20] rfl
    refine vx_calli (vx_runSX (As := [.ref h, .int (xs (1 : Int32).toNatClampNeg), .int (xs (2 : Int32).toNatClampNeg), .int 0, .ref oa]) (rest := []) ⟨hx, hb, hml, hown, hts⟩ (c_L_vote l hst D cy ed H.size h pe ne pa ro 0 0 ed oa (fun _ => 0) (xs (1 : Int32).toNatClampNeg) (xs (2 : Int32).toNatClampNeg) 0) (vx_cwSW 5 hts (zx_GS mm_1375 mm_1376 mm_70 mm_1377) rfl rfl rfl (by decide +kernel) ⟨(Nat.le_of_ble_eq_true rfl), (Nat.le_of_ble_eq_true rfl)⟩) ⟨zx_blind, zx_give hPc hK hDc hS hFc hZ hN⟩ rfl rfl hl.1 rfl (lv_room (Nat.le_of_ble_eq_true rfl)) dL_law_3301 ⟨(Nat.le_of_ble_eq_true rfl), (Nat.le_of_ble_eq_true rfl)⟩) hS (fun q _ h => hFc q h) hFc (fun q _ h => hFc q h) (fun E9 ce9 q9 _ t H locs ht hvm _ hBX hz1 hk1 hS hce hcv hcl => ?_) (fun r9 u t H locs ht hvm hw hB hz1 hk1 hS => ?_)
    · exact hBX.elim
    ·
      obtain rfl : r9 = 1 := hw
      obtain ⟨hP, hD⟩ := zx_join (wr := [(pe, .inr (9, [.int 0, .ref a1, .ref a2, .ref a3, .ref a4, .ref a5, .ref a6, .ref a7, .ref a8, .ref a9])), (a1, .inl (cy 0, 20, .inl (fun _ => 0))), (a2, .inl (cy 0, 20, .inl (fun _ => 0))), (ne, .inr (6, [.ref n1, .ref n2, .ref n3, .ref n4, .ref n5])), (n1, .inl (cy 0, 8, .inl (fun _ => 0))), (n2, .inl (cy 0, 8, .inl f2)), (n3, .inl (cy 0, 8, .inl f3)), (n4, .inl (cy 0, 8, .inl f4)), (n5, .inl (cy 1, 8, .inl f5)), (ro, .inl (cy 0, 20, .inl (fun _ => 0))), (m0, .inr (20, [.int 0, .ref mp, .int 0, .ref b1, .ref b2, .ref b3, .ref b4, .ref b5, .ref mq])), (b1, .inl (cy 0, 8, .inl (fun _ => 0))), (b2, .inl (cy 0, 8, .inl g2)), (b3, .inl (cy 0, 8, .inl g3)), (b4, .inl (cy 0, 8, .inl g4)), (b5, .inl (cy 1, 8, .inl g5)), (mp, .inr (4, [.int 0, .ref ed, .int 0])), (mq, .inr (4, [.int 0, .ref ed, .int 0])), (od, .inl (cy 4, 1, .inr (.inr (.inr (.inl (fun _ => 0))))))]) (w1 := []) [0, 10, 20] [1, 2, 3, 4, 5, 6, 7, 8, 9, 11, 12, 13, 14, 15, 16, 17, 18, 19, 21] rfl rfl (by decide) (by decide) hP hD hk1 hFc hB ht
      have hP : va_P D vwCl [(pe, .inr (9, [.int 0, .ref a1, .ref a2, .ref a3, .ref a4, .ref a5, .ref a6, .ref a7, .ref a8, .ref a9])), (a1, .inl (cy 0, 20, .inl (fun _ => 0))), (a2, .inl (cy 0, 20, .inl (fun _ => 0))), (ne, .inr (6, [.ref n1, .ref n2, .ref n3, .ref n4, .ref n5])), (n1, .inl (cy 0, 8, .inl (fun _ => 0))), (n2, .inl (cy 0, 8, .inl f2)), (n3, .inl (cy 0, 8, .inl f3)), (n4, .inl (cy 0, 8, .inl f4)), (n5, .inl (cy 1, 8, .inl f5)), (ro, .inl (cy 0, 20, .inl (fun _ => 0))), (m0, .inr (20, [.int 0, .ref mp, .int 0, .ref b1, .ref b2, .ref b3, .ref b4, .ref b5, .ref mq])), (b1, .inl (cy 0, 8, .inl (fun _ => 0))), (b2, .inl (cy 0, 8, .inl g2)), (b3, .inl (cy 0, 8, .inl g3)), (b4, .inl (cy 0, 8, .inl g4)), (b5, .inl (cy 1, 8, .inl g5)), (mp, .inr (4, [.int 0, .ref ed, .int 0])), (mq, .inr (4, [.int 0, .ref ed, .int 0])), (od, .inl (cy 4, 1, .inr (.inr (.inr (.inl (fun _ => 0))))))] H := hP
      have hD : va_D A [(pe, .inr (9, [.int 0, .ref a1, .ref a2, .ref a3, .ref a4, .ref a5, .ref a6, .ref a7, .ref a8, .ref a9])), (a1, .inl (cy 0, 20, .inl (fun _ => 0))), (a2, .inl (cy 0, 20, .inl (fun _ => 0))), (ne, .inr (6, [.ref n1, .ref n2, .ref n3, .ref n4, .ref n5])), (n1, .inl (cy 0, 8, .inl (fun _ => 0))), (n2, .inl (cy 0, 8, .inl f2)), (n3, .inl (cy 0, 8, .inl f3)), (n4, .inl (cy 0, 8, .inl f4)), (n5, .inl (cy 1, 8, .inl f5)), (ro, .inl (cy 0, 20, .inl (fun _ => 0))), (m0, .inr (20, [.int 0, .ref mp, .int 0, .ref b1, .ref b2, .ref b3, .ref b4, .ref b5, .ref mq])), (b1, .inl (cy 0, 8, .inl (fun _ => 0))), (b2, .inl (cy 0, 8, .inl g2)), (b3, .inl (cy 0, 8, .inl g3)), (b4, .inl (cy 0, 8, .inl g4)), (b5, .inl (cy 1, 8, .inl g5)), (mp, .inr (4, [.int 0, .ref ed, .int 0])), (mq, .inr (4, [.int 0, .ref ed, .int 0])), (od, .inl (cy 4, 1, .inr (.inr (.inr (.inl (fun _ => 0))))))] := hD
      refine W.widen (k := 30) (n := 886) (Nat.le_of_ble_eq_true rfl) (Nat.le_of_ble_eq_true rfl) ?_
      refine lv_istore (lv' := [(6, .int 1), (5, .int 0), (4, .ref od), (3, .ref oa), (2, .ref m0), (1, .ref h), (0, .ref b)]) hx hb dL_law_3304 hl (by decide) rfl (fun ls hl => ?_)
      refine lv_aload_n hx hb dL_law_3306 rfl (lv_at hl 4 rfl) ?_
      refine lv_aload_n hx hb dL_law_3307 rfl (lv_at hl 6 rfl) ?_
      refine lv_iload hx hb dL_law_3308 (lv_at hl 1 rfl) ?_
      refine lv_iconst (v := 1) hx hb dL_law_3310 (by decide) ?_
      refine lv_iadd hx hb dL_law_3311 ?_
      refine lv_topi (fun y9 ey9 => ?_)
      obtain rfl : y9 = 1 := by rw [ey9] <;> decide
      refine va_sld hx hb hX hbl hbA hS (zx_bn (by decide)) dL_law_3312 ?_
      refine lv_aload_n hx hb dL_law_3313 rfl (lv_at hl 6 rfl) ?_
      refine lv_iload hx hb dL_law_3314 (lv_at hl 1 rfl) ?_
      refine lv_iconst (v := 2) hx hb dL_law_3316 (by decide) ?_
      refine lv_iadd hx hb dL_law_3317 ?_
      refine lv_topi (fun y9 ey9 => ?_)
      obtain rfl : y9 = 2 := by rw [ey9] <;> decide
      refine va_sld hx hb hX hbl hbA hS (zx_bn (by decide)) dL_law_3318 ?_
      refine lv_aload_n hx hb dL_law_3319 rfl (lv_at hl 6 rfl) ?_
      refine lv_iload hx hb dL_law_3320 (lv_at hl 1 rfl) ?_
      refine lv_iconst (v := 3) hx hb dL_law_3322 (by decide) ?_
      refine lv_iadd hx hb dL_law_3323 ?_
      refine lv_topi (fun y9 ey9 => ?_)
      obtain rfl : y9 = 3 := by rw [ey9] <;> decide
      refine va_sld hx hb hX hbl hbA hS (zx_bn (by decide)) dL_law_3324 ?_
      refine lv_if_eq (tgt := 3332) hx hb dL_law_3325 (by decide) (fun c_757 => ?_) (fun c_757 => ?_)
      ·
        refine lv_iconst (v := 0) hx hb dL_law_3332 (by decide) ?_
        have hPc := hP.sub (ws' := [(m0, .inr (20, [.int 0, .ref mp, .int 0, .ref b1, .ref b2, .ref b3, .ref b4, .ref b5, .ref mq])), (mp, .inr (4, [.int 0, .ref ed, .int 0])), (mq, .inr (4, [.int 0, .ref ed, .int 0]))]) [10, 16, 17] rfl
        have hDc := hD.sub (ws' := [(m0, .inr (20, [.int 0, .ref mp, .int 0, .ref b1, .ref b2, .ref b3, .ref b4, .ref b5, .ref mq])), (mp, .inr (4, [.int 0, .ref ed, .int 0])), (mq, .inr (4, [.int 0, .ref ed, .int 0]))]) [10, 16, 17] (by decide) rfl
        have hFc := va_free (wc := [(m0, .inr (20, [.int 0, .ref mp, .int 0, .ref b1, .ref b2, .ref b3, .ref b4, .ref b5, .ref mq])), (mp, .inr (4, [.int 0, .ref ed, .int 0])), (mq, .inr (4, [.int 0, .ref ed, .int 0]))]) hD hS hA [10, 16, 17] rfl
        refine va_calli (va_runV (As := [.int (xs (1 : Int32).toNatClampNeg), .int (xs (2 : Int32).toNatClampNeg), .int 0]) (rest := []) ⟨hx, hb, hml, hown, hts⟩ (c_X15_vote l hst D cy ed H.size m0 mp mq b1 b2 b3 b4 b5 0 0 0 ed 0 ed (xs (1 : Int32).toNatClampNeg) (xs (2 : Int32).toNatClampNeg) 0) (cwV 3 hts (zx_GV mm_2285 mm_2286 mm_2287 mm_78 mm_2288) rfl rfl rfl (by decide +kernel) ⟨(Nat.le_of_ble_eq_true rfl), (Nat.le_of_ble_eq_true rfl)⟩) ⟨zx_blind, va_recv hK hPc (ci := 20) (q0 := 0) rfl rfl, zx_give hPc hK hDc hS hFc hZ hN⟩ rfl rfl hl.1 rfl (lv_room (Nat.le_of_ble_eq_true rfl)) dL_law_3333 ⟨(Nat.le_of_ble_eq_true rfl), (Nat.le_of_ble_eq_true rfl)⟩) hS (fun q _ h => hFc q h) hFc (fun r9 u t H1 locs ht hvm hw hB hz1 hk1 hS => ?_)
        obtain ⟨r_758, rfl⟩ : ∃ z9, z9 = r9 := ⟨_, rfl⟩
        have h_759 := hw
        obtain ⟨hP, hD⟩ := zx_join (wr := [(pe, .inr (9, [.int 0, .ref a1, .ref a2, .ref a3, .ref a4, .ref a5, .ref a6, .ref a7, .ref a8, .ref a9])), (a1, .inl (cy 0, 20, .inl (fun _ => 0))), (a2, .inl (cy 0, 20, .inl (fun _ => 0))), (ne, .inr (6, [.ref n1, .ref n2, .ref n3, .ref n4, .ref n5])), (n1, .inl (cy 0, 8, .inl (fun _ => 0))), (n2, .inl (cy 0, 8, .inl f2)), (n3, .inl (cy 0, 8, .inl f3)), (n4, .inl (cy 0, 8, .inl f4)), (n5, .inl (cy 1, 8, .inl f5)), (ro, .inl (cy 0, 20, .inl (fun _ => 0))), (b1, .inl (cy 0, 8, .inl (fun _ => 0))), (b2, .inl (cy 0, 8, .inl g2)), (b3, .inl (cy 0, 8, .inl g3)), (b4, .inl (cy 0, 8, .inl g4)), (b5, .inl (cy 1, 8, .inl g5)), (od, .inl (cy 4, 1, .inr (.inr (.inr (.inl (fun _ => 0))))))]) (w1 := [(m0, .inr (20, [.int 1, .ref mp, .int 0, .ref b1, .ref b2, .ref b3, .ref b4, .ref b5, .ref mq]))]) [10, 16, 17] [0, 1, 2, 3, 4, 5, 6, 7, 8, 9, 11, 12, 13, 14, 15, 18] rfl rfl (by decide) (by decide) hP hD hk1 hFc hB ht
        generalize H1 = H at hP hS ⊢
        have hP : va_P D vwCl [(pe, .inr (9, [.int 0, .ref a1, .ref a2, .ref a3, .ref a4, .ref a5, .ref a6, .ref a7, .ref a8, .ref a9])), (a1, .inl (cy 0, 20, .inl (fun _ => 0))), (a2, .inl (cy 0, 20, .inl (fun _ => 0))), (ne, .inr (6, [.ref n1, .ref n2, .ref n3, .ref n4, .ref n5])), (n1, .inl (cy 0, 8, .inl (fun _ => 0))), (n2, .inl (cy 0, 8, .inl f2)), (n3, .inl (cy 0, 8, .inl f3)), (n4, .inl (cy 0, 8, .inl f4)), (n5, .inl (cy 1, 8, .inl f5)), (ro, .inl (cy 0, 20, .inl (fun _ => 0))), (b1, .inl (cy 0, 8, .inl (fun _ => 0))), (b2, .inl (cy 0, 8, .inl g2)), (b3, .inl (cy 0, 8, .inl g3)), (b4, .inl (cy 0, 8, .inl g4)), (b5, .inl (cy 1, 8, .inl g5)), (od, .inl (cy 4, 1, .inr (.inr (.inr (.inl (fun _ => 0)))))), (m0, .inr (20, [.int 1, .ref mp, .int 0, .ref b1, .ref b2, .ref b3, .ref b4, .ref b5, .ref mq]))] H := hP
        have hD : va_D A [(pe, .inr (9, [.int 0, .ref a1, .ref a2, .ref a3, .ref a4, .ref a5, .ref a6, .ref a7, .ref a8, .ref a9])), (a1, .inl (cy 0, 20, .inl (fun _ => 0))), (a2, .inl (cy 0, 20, .inl (fun _ => 0))), (ne, .inr (6, [.ref n1, .ref n2, .ref n3, .ref n4, .ref n5])), (n1, .inl (cy 0, 8, .inl (fun _ => 0))), (n2, .inl (cy 0, 8, .inl f2)), (n3, .inl (cy 0, 8, .inl f3)), (n4, .inl (cy 0, 8, .inl f4)), (n5, .inl (cy 1, 8, .inl f5)), (ro, .inl (cy 0, 20, .inl (fun _ => 0))), (b1, .inl (cy 0, 8, .inl (fun _ => 0))), (b2, .inl (cy 0, 8, .inl g2)), (b3, .inl (cy 0, 8, .inl g3)), (b4, .inl (cy 0, 8, .inl g4)), (b5, .inl (cy 1, 8, .inl g5)), (od, .inl (cy 4, 1, .inr (.inr (.inr (.inl (fun _ => 0)))))), (m0, .inr (20, [.int 1, .ref mp, .int 0, .ref b1, .ref b2, .ref b3, .ref b4, .ref b5, .ref mq]))] := hD
        refine W.widen (k := 30) (n := 886) (Nat.le_of_ble_eq_true rfl) (Nat.le_of_ble_eq_true rfl) ?_
        refine lv_istore (lv' := [(7, .int r_758), (6, .int 1), (5, .int 0), (4, .ref od), (3, .ref oa), (2, .ref m0), (1, .ref h), (0, .ref b)]) hx hb dL_law_3336 hl (by decide) rfl (fun ls hl => ?_)
        refine lv_aload_n hx hb dL_law_3338 rfl (lv_at hl 5 rfl) ?_
        have hPc := hP.sub (ws' := [(m0, .inr (20, [.int 1, .ref mp, .int 0, .ref b1, .ref b2, .ref b3, .ref b4, .ref b5, .ref mq]))]) [16] rfl
        have hDc := hD.sub (ws' := [(m0, .inr (20, [.int 1, .ref mp, .int 0, .ref b1, .ref b2, .ref b3, .ref b4, .ref b5, .ref mq]))]) [16] (by decide) rfl
        have hFc := va_free (wc := [(m0, .inr (20, [.int 1, .ref mp, .int 0, .ref b1, .ref b2, .ref b3, .ref b4, .ref b5, .ref mq]))]) hD hS hA [16] rfl
        refine va_calli (va_runV (As := []) (rest := []) ⟨hx, hb, hml, hown, hts⟩ (c_X15_thrown l hst D cy ed H.size m0 mp mq b1 b2 b3 b4 b5 1 0) (cwV 0 hts (zx_GV mm_1599 mm_1600 mm_1601 mm_78 mm_1602) rfl rfl rfl (by decide +kernel) ⟨(Nat.le_of_ble_eq_true rfl), (Nat.le_of_ble_eq_true rfl)⟩) ⟨zx_blind, va_recv hK hPc (ci := 20) (q0 := 0) rfl rfl, zx_give hPc hK hDc hS hFc hZ hN⟩ rfl rfl hl.1 rfl (lv_room (Nat.le_of_ble_eq_true rfl)) dL_law_3339 ⟨(Nat.le_of_ble_eq_true rfl), (Nat.le_of_ble_eq_true rfl)⟩) hS (fun q _ h => hFc q h) hFc (fun r9 u t H1 locs ht hvm hw hB hz1 hk1 hS => ?_)
        obtain rfl : r9 = 1 := hw
        obtain ⟨hP, hD⟩ := zx_join (wr := [(pe, .inr (9, [.int 0, .ref a1, .ref a2, .ref a3, .ref a4, .ref a5, .ref a6, .ref a7, .ref a8, .ref a9])), (a1, .inl (cy 0, 20, .inl (fun _ => 0))), (a2, .inl (cy 0, 20, .inl (fun _ => 0))), (ne, .inr (6, [.ref n1, .ref n2, .ref n3, .ref n4, .ref n5])), (n1, .inl (cy 0, 8, .inl (fun _ => 0))), (n2, .inl (cy 0, 8, .inl f2)), (n3, .inl (cy 0, 8, .inl f3)), (n4, .inl (cy 0, 8, .inl f4)), (n5, .inl (cy 1, 8, .inl f5)), (ro, .inl (cy 0, 20, .inl (fun _ => 0))), (b1, .inl (cy 0, 8, .inl (fun _ => 0))), (b2, .inl (cy 0, 8, .inl g2)), (b3, .inl (cy 0, 8, .inl g3)), (b4, .inl (cy 0, 8, .inl g4)), (b5, .inl (cy 1, 8, .inl g5)), (od, .inl (cy 4, 1, .inr (.inr (.inr (.inl (fun _ => 0))))))]) (w1 := [(m0, .inr (20, [.int 1, .ref mp, .int 0, .ref b1, .ref b2, .ref b3, .ref b4, .ref b5, .ref mq]))]) [16] [0, 1, 2, 3, 4, 5, 6, 7, 8, 9, 10, 11, 12, 13, 14, 15] rfl rfl (by decide) (by decide) hP hD hk1 hFc hB ht
        generalize H1 = H at hP hS ⊢
        have hP : va_P D vwCl [(pe, .inr (9, [.int 0, .ref a1, .ref a2, .ref a3, .ref a4, .ref a5, .ref a6, .ref a7, .ref a8, .ref a9])), (a1, .inl (cy 0, 20, .inl (fun _ => 0))), (a2, .inl (cy 0, 20, .inl (fun _ => 0))), (ne, .inr (6, [.ref n1, .ref n2, .ref n3, .ref n4, .ref n5])), (n1, .inl (cy 0, 8, .inl (fun _ => 0))), (n2, .inl (cy 0, 8, .inl f2)), (n3, .inl (cy 0, 8, .inl f3)), (n4, .inl (cy 0, 8, .inl f4)), (n5, .inl (cy 1, 8, .inl f5)), (ro, .inl (cy 0, 20, .inl (fun _ => 0))), (b1, .inl (cy 0, 8, .inl (fun _ => 0))), (b2, .inl (cy 0, 8, .inl g2)), (b3, .inl (cy 0, 8, .inl g3)), (b4, .inl (cy 0, 8, .inl g4)), (b5, .inl (cy 1, 8, .inl g5)), (od, .inl (cy 4, 1, .inr (.inr (.inr (.inl (fun _ => 0)))))), (m0, .inr (20, [.int 1, .ref mp, .int 0, .ref b1, .ref b2, .ref b3, .ref b4, .ref b5, .ref mq]))] H := hP
        have hD : va_D A [(pe, .inr (9, [.int 0, .ref a1, .ref a2, .ref a3, .ref a4, .ref a5, .ref a6, .ref a7, .ref a8, .ref a9])), (a1, .inl (cy 0, 20, .inl (fun _ => 0))), (a2, .inl (cy 0, 20, .inl (fun _ => 0))), (ne, .inr (6, [.ref n1, .ref n2, .ref n3, .ref n4, .ref n5])), (n1, .inl (cy 0, 8, .inl (fun _ => 0))), (n2, .inl (cy 0, 8, .inl f2)), (n3, .inl (cy 0, 8, .inl f3)), (n4, .inl (cy 0, 8, .inl f4)), (n5, .inl (cy 1, 8, .inl f5)), (ro, .inl (cy 0, 20, .inl (fun _ => 0))), (b1, .inl (cy 0, 8, .inl (fun _ => 0))), (b2, .inl (cy 0, 8, .inl g2)), (b3, .inl (cy 0, 8, .inl g3)), (b4, .inl (cy 0, 8, .inl g4)), (b5, .inl (cy 1, 8, .inl g5)), (od, .inl (cy 4, 1, .inr (.inr (.inr (.inl (fun _ => 0)))))), (m0, .inr (20, [.int 1, .ref mp, .int 0, .ref b1, .ref b2, .ref b3, .ref b4, .ref b5, .ref mq]))] := hD
        refine W.widen (k := 30) (n := 886) (Nat.le_of_ble_eq_true rfl) (Nat.le_of_ble_eq_true rfl) ?_
        refine lv_iload hx hb dL_law_3342 (lv_at hl 1 rfl) ?_
        refine lv_icmp_eq (tgt := 3349) hx hb dL_law_3344 (by decide) (fun _ => ?_) (fun c_760 => absurd (by decide) c_760)
        refine lv_iload hx hb dL_law_3349 (lv_at hl 1 rfl) ?_
        refine lv_if_ne (tgt := 3366) hx hb dL_law_3351 (by decide) (fun _ => ?_) (fun c_761 => absurd c_761 (by decide))
        refine lv_goto (tgt := 4257) hx hb dL_law_3366 (by decide) ?_
        refine W.widen (k := 60) (n := 1200) (Nat.le_of_ble_eq_true rfl) (Nat.le_of_ble_eq_true rfl) ?_
        exact hend _ _ _ hS (lv_sub hl [7, 2] rfl)
      ·
        exact absurd c_756 c_757
  ·
    refine lv_iconst (v := 1) hx hb dL_law_3295 (by decide) ?_
    refine lv_goto (tgt := 3300) hx hb dL_law_3296 (by decide) ?_
    refine lv_aload_n hx hb dL_law_3300 rfl (lv_at hl 2 rfl) ?_
    have hPc := hP.sub (ws' := [(h, .inr (13, [.ref pe, .ref ne, .ref pa, .ref ro, .int 0])), (pa, .inr (4, [.int 0, .ref ed, .int 0])), (oa, .inl (cy 3, 1, .inr (.inl (fun _ => 0))))]) [0, 10, 20] rfl
    have hDc := hD.sub (ws' := [(h, .inr (13, [.ref pe, .ref ne, .ref pa, .ref ro, .int 0])), (pa, .inr (4, [.int 0, .ref ed, .int 0])), (oa, .inl (cy 3, 1, .inr (.inl (fun _ => 0))))]) [0, 10, 20] (by decide) rfl
    have hFc := va_free (wc := [(h, .inr (13, [.ref pe, .ref ne, .ref pa, .ref ro, .int 0])), (pa, .inr (4, [.int 0, .ref ed, .int 0])), (oa, .inl (cy 3, 1, .inr (.inl (fun _ => 0))))]) hD hS hA [0, 10, 20] rfl
    refine vx_calli (vx_runSX (As := [.ref h, .int (xs (1 : Int32).toNatClampNeg), .int (xs (2 : Int32).toNatClampNeg), .int 1, .ref oa]) (rest := []) ⟨hx, hb, hml, hown, hts⟩ (c_L_vote l hst D cy ed H.size h pe ne pa ro 0 0 ed oa (fun _ => 0) (xs (1 : Int32).toNatClampNeg) (xs (2 : Int32).toNatClampNeg) 1) (vx_cwSW 5 hts (zx_GS mm_1375 mm_1376 mm_70 mm_1377) rfl rfl rfl (by decide +kernel) ⟨(Nat.le_of_ble_eq_true rfl), (Nat.le_of_ble_eq_true rfl)⟩) ⟨zx_blind, zx_give hPc hK hDc hS hFc hZ hN⟩ rfl rfl hl.1 rfl (lv_room (Nat.le_of_ble_eq_true rfl)) dL_law_3301 ⟨(Nat.le_of_ble_eq_true rfl), (Nat.le_of_ble_eq_true rfl)⟩) hS (fun q _ h => hFc q h) hFc (fun q _ h => hFc q h) (fun E9 ce9 q9 _ t H locs ht hvm _ hBX hz1 hk1 hS hce hcv hcl => ?_) (fun r9 u t H locs ht hvm hw hB hz1 hk1 hS => ?_)
    · exact hBX.elim
    ·
      obtain rfl : r9 = 1 := hw
      obtain ⟨hP, hD⟩ := zx_join (wr := [(pe, .inr (9, [.int 0, .ref a1, .ref a2, .ref a3, .ref a4, .ref a5, .ref a6, .ref a7, .ref a8, .ref a9])), (a1, .inl (cy 0, 20, .inl (fun _ => 0))), (a2, .inl (cy 0, 20, .inl (fun _ => 0))), (ne, .inr (6, [.ref n1, .ref n2, .ref n3, .ref n4, .ref n5])), (n1, .inl (cy 0, 8, .inl (fun _ => 0))), (n2, .inl (cy 0, 8, .inl f2)), (n3, .inl (cy 0, 8, .inl f3)), (n4, .inl (cy 0, 8, .inl f4)), (n5, .inl (cy 1, 8, .inl f5)), (ro, .inl (cy 0, 20, .inl (fun _ => 0))), (m0, .inr (20, [.int 0, .ref mp, .int 0, .ref b1, .ref b2, .ref b3, .ref b4, .ref b5, .ref mq])), (b1, .inl (cy 0, 8, .inl (fun _ => 0))), (b2, .inl (cy 0, 8, .inl g2)), (b3, .inl (cy 0, 8, .inl g3)), (b4, .inl (cy 0, 8, .inl g4)), (b5, .inl (cy 1, 8, .inl g5)), (mp, .inr (4, [.int 0, .ref ed, .int 0])), (mq, .inr (4, [.int 0, .ref ed, .int 0])), (od, .inl (cy 4, 1, .inr (.inr (.inr (.inl (fun _ => 0))))))]) (w1 := []) [0, 10, 20] [1, 2, 3, 4, 5, 6, 7, 8, 9, 11, 12, 13, 14, 15, 16, 17, 18, 19, 21] rfl rfl (by decide) (by decide) hP hD hk1 hFc hB ht
      have hP : va_P D vwCl [(pe, .inr (9, [.int 0, .ref a1, .ref a2, .ref a3, .ref a4, .ref a5, .ref a6, .ref a7, .ref a8, .ref a9])), (a1, .inl (cy 0, 20, .inl (fun _ => 0))), (a2, .inl (cy 0, 20, .inl (fun _ => 0))), (ne, .inr (6, [.ref n1, .ref n2, .ref n3, .ref n4, .ref n5])), (n1, .inl (cy 0, 8, .inl (fun _ => 0))), (n2, .inl (cy 0, 8, .inl f2)), (n3, .inl (cy 0, 8, .inl f3)), (n4, .inl (cy 0, 8, .inl f4)), (n5, .inl (cy 1, 8, .inl f5)), (ro, .inl (cy 0, 20, .inl (fun _ => 0))), (m0, .inr (20, [.int 0, .ref mp, .int 0, .ref b1, .ref b2, .ref b3, .ref b4, .ref b5, .ref mq])), (b1, .inl (cy 0, 8, .inl (fun _ => 0))), (b2, .inl (cy 0, 8, .inl g2)), (b3, .inl (cy 0, 8, .inl g3)), (b4, .inl (cy 0, 8, .inl g4)), (b5, .inl (cy 1, 8, .inl g5)), (mp, .inr (4, [.int 0, .ref ed, .int 0])), (mq, .inr (4, [.int 0, .ref ed, .int 0])), (od, .inl (cy 4, 1, .inr (.inr (.inr (.inl (fun _ => 0))))))] H := hP
      have hD : va_D A [(pe, .inr (9, [.int 0, .ref a1, .ref a2, .ref a3, .ref a4, .ref a5, .ref a6, .ref a7, .ref a8, .ref a9])), (a1, .inl (cy 0, 20, .inl (fun _ => 0))), (a2, .inl (cy 0, 20, .inl (fun _ => 0))), (ne, .inr (6, [.ref n1, .ref n2, .ref n3, .ref n4, .ref n5])), (n1, .inl (cy 0, 8, .inl (fun _ => 0))), (n2, .inl (cy 0, 8, .inl f2)), (n3, .inl (cy 0, 8, .inl f3)), (n4, .inl (cy 0, 8, .inl f4)), (n5, .inl (cy 1, 8, .inl f5)), (ro, .inl (cy 0, 20, .inl (fun _ => 0))), (m0, .inr (20, [.int 0, .ref mp, .int 0, .ref b1, .ref b2, .ref b3, .ref b4, .ref b5, .ref mq])), (b1, .inl (cy 0, 8, .inl (fun _ => 0))), (b2, .inl (cy 0, 8, .inl g2)), (b3, .inl (cy 0, 8, .inl g3)), (b4, .inl (cy 0, 8, .inl g4)), (b5, .inl (cy 1, 8, .inl g5)), (mp, .inr (4, [.int 0, .ref ed, .int 0])), (mq, .inr (4, [.int 0, .ref ed, .int 0])), (od, .inl (cy 4, 1, .inr (.inr (.inr (.inl (fun _ => 0))))))] := hD
      refine W.widen (k := 30) (n := 886) (Nat.le_of_ble_eq_true rfl) (Nat.le_of_ble_eq_true rfl) ?_
      refine lv_istore (lv' := [(6, .int 1), (5, .int 0), (4, .ref od), (3, .ref oa), (2, .ref m0), (1, .ref h), (0, .ref b)]) hx hb dL_law_3304 hl (by decide) rfl (fun ls hl => ?_)
      refine lv_aload_n hx hb dL_law_3306 rfl (lv_at hl 4 rfl) ?_
      refine lv_aload_n hx hb dL_law_3307 rfl (lv_at hl 6 rfl) ?_
      refine lv_iload hx hb dL_law_3308 (lv_at hl 1 rfl) ?_
      refine lv_iconst (v := 1) hx hb dL_law_3310 (by decide) ?_
      refine lv_iadd hx hb dL_law_3311 ?_
      refine lv_topi (fun y9 ey9 => ?_)
      obtain rfl : y9 = 1 := by rw [ey9] <;> decide
      refine va_sld hx hb hX hbl hbA hS (zx_bn (by decide)) dL_law_3312 ?_
      refine lv_aload_n hx hb dL_law_3313 rfl (lv_at hl 6 rfl) ?_
      refine lv_iload hx hb dL_law_3314 (lv_at hl 1 rfl) ?_
      refine lv_iconst (v := 2) hx hb dL_law_3316 (by decide) ?_
      refine lv_iadd hx hb dL_law_3317 ?_
      refine lv_topi (fun y9 ey9 => ?_)
      obtain rfl : y9 = 2 := by rw [ey9] <;> decide
      refine va_sld hx hb hX hbl hbA hS (zx_bn (by decide)) dL_law_3318 ?_
      refine lv_aload_n hx hb dL_law_3319 rfl (lv_at hl 6 rfl) ?_
      refine lv_iload hx hb dL_law_3320 (lv_at hl 1 rfl) ?_
      refine lv_iconst (v := 3) hx hb dL_law_3322 (by decide) ?_
      refine lv_iadd hx hb dL_law_3323 ?_
      refine lv_topi (fun y9 ey9 => ?_)
      obtain rfl : y9 = 3 := by rw [ey9] <;> decide
      refine va_sld hx hb hX hbl hbA hS (zx_bn (by decide)) dL_law_3324 ?_
      refine lv_if_eq (tgt := 3332) hx hb dL_law_3325 (by decide) (fun c_762 => ?_) (fun c_762 => ?_)
      ·
        exact absurd c_762 c_756
      ·
        refine lv_iconst (v := 1) hx hb dL_law_3328 (by decide) ?_
        refine lv_goto (tgt := 3333) hx hb dL_law_3329 (by decide) ?_
        have hPc := hP.sub (ws' := [(m0, .inr (20, [.int 0, .ref mp, .int 0, .ref b1, .ref b2, .ref b3, .ref b4, .ref b5, .ref mq])), (mp, .inr (4, [.int 0, .ref ed, .int 0])), (mq, .inr (4, [.int 0, .ref ed, .int 0]))]) [10, 16, 17] rfl
        have hDc := hD.sub (ws' := [(m0, .inr (20, [.int 0, .ref mp, .int 0, .ref b1, .ref b2, .ref b3, .ref b4, .ref b5, .ref mq])), (mp, .inr (4, [.int 0, .ref ed, .int 0])), (mq, .inr (4, [.int 0, .ref ed, .int 0]))]) [10, 16, 17] (by decide) rfl
        have hFc := va_free (wc := [(m0, .inr (20, [.int 0, .ref mp, .int 0, .ref b1, .ref b2, .ref b3, .ref b4, .ref b5, .ref mq])), (mp, .inr (4, [.int 0, .ref ed, .int 0])), (mq, .inr (4, [.int 0, .ref ed, .int 0]))]) hD hS hA [10, 16, 17] rfl
        refine va_calli (va_runV (As := [.int (xs (1 : Int32).toNatClampNeg), .int (xs (2 : Int32).toNatClampNeg), .int 1]) (rest := []) ⟨hx, hb, hml, hown, hts⟩ (c_X15_vote l hst D cy ed H.size m0 mp mq b1 b2 b3 b4 b5 0 0 0 ed 0 ed (xs (1 : Int32).toNatClampNeg) (xs (2 : Int32).toNatClampNeg) 1) (cwV 3 hts (zx_GV mm_2285 mm_2286 mm_2287 mm_78 mm_2288) rfl rfl rfl (by decide +kernel) ⟨(Nat.le_of_ble_eq_true rfl), (Nat.le_of_ble_eq_true rfl)⟩) ⟨zx_blind, va_recv hK hPc (ci := 20) (q0 := 0) rfl rfl, zx_give hPc hK hDc hS hFc hZ hN⟩ rfl rfl hl.1 rfl (lv_room (Nat.le_of_ble_eq_true rfl)) dL_law_3333 ⟨(Nat.le_of_ble_eq_true rfl), (Nat.le_of_ble_eq_true rfl)⟩) hS (fun q _ h => hFc q h) hFc (fun r9 u t H1 locs ht hvm hw hB hz1 hk1 hS => ?_)
        obtain ⟨r_763, rfl⟩ : ∃ z9, z9 = r9 := ⟨_, rfl⟩
        have h_764 := hw
        obtain ⟨hP, hD⟩ := zx_join (wr := [(pe, .inr (9, [.int 0, .ref a1, .ref a2, .ref a3, .ref a4, .ref a5, .ref a6, .ref a7, .ref a8, .ref a9])), (a1, .inl (cy 0, 20, .inl (fun _ => 0))), (a2, .inl (cy 0, 20, .inl (fun _ => 0))), (ne, .inr (6, [.ref n1, .ref n2, .ref n3, .ref n4, .ref n5])), (n1, .inl (cy 0, 8, .inl (fun _ => 0))), (n2, .inl (cy 0, 8, .inl f2)), (n3, .inl (cy 0, 8, .inl f3)), (n4, .inl (cy 0, 8, .inl f4)), (n5, .inl (cy 1, 8, .inl f5)), (ro, .inl (cy 0, 20, .inl (fun _ => 0))), (b1, .inl (cy 0, 8, .inl (fun _ => 0))), (b2, .inl (cy 0, 8, .inl g2)), (b3, .inl (cy 0, 8, .inl g3)), (b4, .inl (cy 0, 8, .inl g4)), (b5, .inl (cy 1, 8, .inl g5)), (od, .inl (cy 4, 1, .inr (.inr (.inr (.inl (fun _ => 0))))))]) (w1 := [(m0, .inr (20, [.int 1, .ref mp, .int 0, .ref b1, .ref b2, .ref b3, .ref b4, .ref b5, .ref mq]))]) [10, 16, 17] [0, 1, 2, 3, 4, 5, 6, 7, 8, 9, 11, 12, 13, 14, 15, 18] rfl rfl (by decide) (by decide) hP hD hk1 hFc hB ht
        generalize H1 = H at hP hS ⊢
        have hP : va_P D vwCl [(pe, .inr (9, [.int 0, .ref a1, .ref a2, .ref a3, .ref a4, .ref a5, .ref a6, .ref a7, .ref a8, .ref a9])), (a1, .inl (cy 0, 20, .inl (fun _ => 0))), (a2, .inl (cy 0, 20, .inl (fun _ => 0))), (ne, .inr (6, [.ref n1, .ref n2, .ref n3, .ref n4, .ref n5])), (n1, .inl (cy 0, 8, .inl (fun _ => 0))), (n2, .inl (cy 0, 8, .inl f2)), (n3, .inl (cy 0, 8, .inl f3)), (n4, .inl (cy 0, 8, .inl f4)), (n5, .inl (cy 1, 8, .inl f5)), (ro, .inl (cy 0, 20, .inl (fun _ => 0))), (b1, .inl (cy 0, 8, .inl (fun _ => 0))), (b2, .inl (cy 0, 8, .inl g2)), (b3, .inl (cy 0, 8, .inl g3)), (b4, .inl (cy 0, 8, .inl g4)), (b5, .inl (cy 1, 8, .inl g5)), (od, .inl (cy 4, 1, .inr (.inr (.inr (.inl (fun _ => 0)))))), (m0, .inr (20, [.int 1, .ref mp, .int 0, .ref b1, .ref b2, .ref b3, .ref b4, .ref b5, .ref mq]))] H := hP
        have hD : va_D A [(pe, .inr (9, [.int 0, .ref a1, .ref a2, .ref a3, .ref a4, .ref a5, .ref a6, .ref a7, .ref a8, .ref a9])), (a1, .inl (cy 0, 20, .inl (fun _ => 0))), (a2, .inl (cy 0, 20, .inl (fun _ => 0))), (ne, .inr (6, [.ref n1, .ref n2, .ref n3, .ref n4, .ref n5])), (n1, .inl (cy 0, 8, .inl (fun _ => 0))), (n2, .inl (cy 0, 8, .inl f2)), (n3, .inl (cy 0, 8, .inl f3)), (n4, .inl (cy 0, 8, .inl f4)), (n5, .inl (cy 1, 8, .inl f5)), (ro, .inl (cy 0, 20, .inl (fun _ => 0))), (b1, .inl (cy 0, 8, .inl (fun _ => 0))), (b2, .inl (cy 0, 8, .inl g2)), (b3, .inl (cy 0, 8, .inl g3)), (b4, .inl (cy 0, 8, .inl g4)), (b5, .inl (cy 1, 8, .inl g5)), (od, .inl (cy 4, 1, .inr (.inr (.inr (.inl (fun _ => 0)))))), (m0, .inr (20, [.int 1, .ref mp, .int 0, .ref b1, .ref b2, .ref b3, .ref b4, .ref b5, .ref mq]))] := hD
        refine W.widen (k := 30) (n := 886) (Nat.le_of_ble_eq_true rfl) (Nat.le_of_ble_eq_true rfl) ?_
        refine lv_istore (lv' := [(7, .int r_763), (6, .int 1), (5, .int 0), (4, .ref od), (3, .ref oa), (2, .ref m0), (1, .ref h), (0, .ref b)]) hx hb dL_law_3336 hl (by decide) rfl (fun ls hl => ?_)
        refine lv_aload_n hx hb dL_law_3338 rfl (lv_at hl 5 rfl) ?_
        have hPc := hP.sub (ws' := [(m0, .inr (20, [.int 1, .ref mp, .int 0, .ref b1, .ref b2, .ref b3, .ref b4, .ref b5, .ref mq]))]) [16] rfl
        have hDc := hD.sub (ws' := [(m0, .inr (20, [.int 1, .ref mp, .int 0, .ref b1, .ref b2, .ref b3, .ref b4, .ref b5, .ref mq]))]) [16] (by decide) rfl
        have hFc := va_free (wc := [(m0, .inr (20, [.int 1, .ref mp, .int 0, .ref b1, .ref b2, .ref b3, .ref b4, .ref b5, .ref mq]))]) hD hS hA [16] rfl
        refine va_calli (va_runV (As := []) (rest := []) ⟨hx, hb, hml, hown, hts⟩ (c_X15_thrown l hst D cy ed H.size m0 mp mq b1 b2 b3 b4 b5 1 0) (cwV 0 hts (zx_GV mm_1599 mm_1600 mm_1601 mm_78 mm_1602) rfl rfl rfl (by decide +kernel) ⟨(Nat.le_of_ble_eq_true rfl), (Nat.le_of_ble_eq_true rfl)⟩) ⟨zx_blind, va_recv hK hPc (ci := 20) (q0 := 0) rfl rfl, zx_give hPc hK hDc hS hFc hZ hN⟩ rfl rfl hl.1 rfl (lv_room (Nat.le_of_ble_eq_true rfl)) dL_law_3339 ⟨(Nat.le_of_ble_eq_true rfl), (Nat.le_of_ble_eq_true rfl)⟩) hS (fun q _ h => hFc q h) hFc (fun r9 u t H1 locs ht hvm hw hB hz1 hk1 hS => ?_)
        obtain rfl : r9 = 1 := hw
        obtain ⟨hP, hD⟩ := zx_join (wr := [(pe, .inr (9, [.int 0, .ref a1, .ref a2, .ref a3, .ref a4, .ref a5, .ref a6, .ref a7, .ref a8, .ref a9])), (a1, .inl (cy 0, 20, .inl (fun _ => 0))), (a2, .inl (cy 0, 20, .inl (fun _ => 0))), (ne, .inr (6, [.ref n1, .ref n2, .ref n3, .ref n4, .ref n5])), (n1, .inl (cy 0, 8, .inl (fun _ => 0))), (n2, .inl (cy 0, 8, .inl f2)), (n3, .inl (cy 0, 8, .inl f3)), (n4, .inl (cy 0, 8, .inl f4)), (n5, .inl (cy 1, 8, .inl f5)), (ro, .inl (cy 0, 20, .inl (fun _ => 0))), (b1, .inl (cy 0, 8, .inl (fun _ => 0))), (b2, .inl (cy 0, 8, .inl g2)), (b3, .inl (cy 0, 8, .inl g3)), (b4, .inl (cy 0, 8, .inl g4)), (b5, .inl (cy 1, 8, .inl g5)), (od, .inl (cy 4, 1, .inr (.inr (.inr (.inl (fun _ => 0))))))]) (w1 := [(m0, .inr (20, [.int 1, .ref mp, .int 0, .ref b1, .ref b2, .ref b3, .ref b4, .ref b5, .ref mq]))]) [16] [0, 1, 2, 3, 4, 5, 6, 7, 8, 9, 10, 11, 12, 13, 14, 15] rfl rfl (by decide) (by decide) hP hD hk1 hFc hB ht
        generalize H1 = H at hP hS ⊢
        have hP : va_P D vwCl [(pe, .inr (9, [.int 0, .ref a1, .ref a2, .ref a3, .ref a4, .ref a5, .ref a6, .ref a7, .ref a8, .ref a9])), (a1, .inl (cy 0, 20, .inl (fun _ => 0))), (a2, .inl (cy 0, 20, .inl (fun _ => 0))), (ne, .inr (6, [.ref n1, .ref n2, .ref n3, .ref n4, .ref n5])), (n1, .inl (cy 0, 8, .inl (fun _ => 0))), (n2, .inl (cy 0, 8, .inl f2)), (n3, .inl (cy 0, 8, .inl f3)), (n4, .inl (cy 0, 8, .inl f4)), (n5, .inl (cy 1, 8, .inl f5)), (ro, .inl (cy 0, 20, .inl (fun _ => 0))), (b1, .inl (cy 0, 8, .inl (fun _ => 0))), (b2, .inl (cy 0, 8, .inl g2)), (b3, .inl (cy 0, 8, .inl g3)), (b4, .inl (cy 0, 8, .inl g4)), (b5, .inl (cy 1, 8, .inl g5)), (od, .inl (cy 4, 1, .inr (.inr (.inr (.inl (fun _ => 0)))))), (m0, .inr (20, [.int 1, .ref mp, .int 0, .ref b1, .ref b2, .ref b3, .ref b4, .ref b5, .ref mq]))] H := hP
        have hD : va_D A [(pe, .inr (9, [.int 0, .ref a1, .ref a2, .ref a3, .ref a4, .ref a5, .ref a6, .ref a7, .ref a8, .ref a9])), (a1, .inl (cy 0, 20, .inl (fun _ => 0))), (a2, .inl (cy 0, 20, .inl (fun _ => 0))), (ne, .inr (6, [.ref n1, .ref n2, .ref n3, .ref n4, .ref n5])), (n1, .inl (cy 0, 8, .inl (fun _ => 0))), (n2, .inl (cy 0, 8, .inl f2)), (n3, .inl (cy 0, 8, .inl f3)), (n4, .inl (cy 0, 8, .inl f4)), (n5, .inl (cy 1, 8, .inl f5)), (ro, .inl (cy 0, 20, .inl (fun _ => 0))), (b1, .inl (cy 0, 8, .inl (fun _ => 0))), (b2, .inl (cy 0, 8, .inl g2)), (b3, .inl (cy 0, 8, .inl g3)), (b4, .inl (cy 0, 8, .inl g4)), (b5, .inl (cy 1, 8, .inl g5)), (od, .inl (cy 4, 1, .inr (.inr (.inr (.inl (fun _ => 0)))))), (m0, .inr (20, [.int 1, .ref mp, .int 0, .ref b1, .ref b2, .ref b3, .ref b4, .ref b5, .ref mq]))] := hD
        refine W.widen (k := 30) (n := 886) (Nat.le_of_ble_eq_true rfl) (Nat.le_of_ble_eq_true rfl) ?_
        refine lv_iload hx hb dL_law_3342 (lv_at hl 1 rfl) ?_
        refine lv_icmp_eq (tgt := 3349) hx hb dL_law_3344 (by decide) (fun _ => ?_) (fun c_765 => absurd (by decide) c_765)
        refine lv_iload hx hb dL_law_3349 (lv_at hl 1 rfl) ?_
        refine lv_if_ne (tgt := 3366) hx hb dL_law_3351 (by decide) (fun _ => ?_) (fun c_766 => absurd c_766 (by decide))
        refine lv_goto (tgt := 4257) hx hb dL_law_3366 (by decide) ?_
        refine W.widen (k := 60) (n := 1200) (Nat.le_of_ble_eq_true rfl) (Nat.le_of_ble_eq_true rfl) ?_
        exact hend _ _ _ hS (lv_sub hl [7, 2] rfl)
set_option maxHeartbeats 4000000 in
set_option maxRecDepth 100000 in
theorem law_case_44 {p : Program} {l : Launch} {e : Env} {s : State} {m : MethodId} {below : List Frame} {meth : Method} {c : Code} {D : va_G} {cy : Nat → ClassId} {ed b : Nat} {xs : Nat → Int32} {A : Nat → Prop} {Q : State → Prop} (C0 : zx_LW p l s m c D cy ed b xs A)
    {h pe ne pa ro a1 a2 a3 a4 a5 a6 a7 a8 a9 n1 n2 n3 n4 n5 m0 mp b1 b2 b3 b4 b5 mq oa od : Nat} {f2 f3 f4 f5 g2 g3 g4 g5 : Nat → Int32} (hf5 : ∀ j, j < 8 → f5 j = 115) (hg5 : ∀ j, j < 8 → g5 j = 115) {H : Heap} {locs : List Loc} {ls : Array Slot}
    (hP : va_P D vwCl [(h, .inr (13, [.ref pe, .ref ne, .ref pa, .ref ro, .int 0])), (pe, .inr (9, [.int 0, .ref a1, .ref a2, .ref a3, .ref a4, .ref a5, .ref a6, .ref a7, .ref a8, .ref a9])), (a1, .inl (cy 0, 20, .inl (fun _ => 0))), (a2, .inl (cy 0, 20, .inl (fun _ => 0))), (ne, .inr (6, [.ref n1, .ref n2, .ref n3, .ref n4, .ref n5])), (n1, .inl (cy 0, 8, .inl (fun _ => 0))), (n2, .inl (cy 0, 8, .inl f2)), (n3, .inl (cy 0, 8, .inl f3)), (n4, .inl (cy 0, 8, .inl f4)), (n5, .inl (cy 1, 8, .inl f5)), (pa, .inr (4, [.int 0, .ref ed, .int 0])), (ro, .inl (cy 0, 20, .inl (fun _ => 0))), (m0, .inr (20, [.int 0, .ref mp, .int 0, .ref b1, .ref b2, .ref b3, .ref b4, .ref b5, .ref mq])), (b1, .inl (cy 0, 8, .inl (fun _ => 0))), (b2, .inl (cy 0, 8, .inl g2)), (b3, .inl (cy 0, 8, .inl g3)), (b4, .inl (cy 0, 8, .inl g4)), (b5, .inl (cy 1, 8, .inl g5)), (mp, .inr (4, [.int 0, .ref ed, .int 0])), (mq, .inr (4, [.int 0, .ref ed, .int 0])), (oa, .inl (cy 3, 1, .inr (.inl (fun _ => 0)))), (od, .inl (cy 4, 1, .inr (.inr (.inr (.inl (fun _ => 0))))))] H) (hD : va_D A [(h, .inr (13, [.ref pe, .ref ne, .ref pa, .ref ro, .int 0])), (pe, .inr (9, [.int 0, .ref a1, .ref a2, .ref a3, .ref a4, .ref a5, .ref a6, .ref a7, .ref a8, .ref a9])), (a1, .inl (cy 0, 20, .inl (fun _ => 0))), (a2, .inl (cy 0, 20, .inl (fun _ => 0))), (ne, .inr (6, [.ref n1, .ref n2, .ref n3, .ref n4, .ref n5])), (n1, .inl (cy 0, 8, .inl (fun _ => 0))), (n2, .inl (cy 0, 8, .inl f2)), (n3, .inl (cy 0, 8, .inl f3)), (n4, .inl (cy 0, 8, .inl f4)), (n5, .inl (cy 1, 8, .inl f5)), (pa, .inr (4, [.int 0, .ref ed, .int 0])), (ro, .inl (cy 0, 20, .inl (fun _ => 0))), (m0, .inr (20, [.int 0, .ref mp, .int 0, .ref b1, .ref b2, .ref b3, .ref b4, .ref b5, .ref mq])), (b1, .inl (cy 0, 8, .inl (fun _ => 0))), (b2, .inl (cy 0, 8, .inl g2)), (b3, .inl (cy 0, 8, .inl g3)), (b4, .inl (cy 0, 8, .inl g4)), (b5, .inl (cy 1, 8, .inl g5)), (mp, .inr (4, [.int 0, .ref ed, .int 0])), (mq, .inr (4, [.int 0, .ref ed, .int 0])), (oa, .inl (cy 3, 1, .inr (.inl (fun _ => 0)))), (od, .inl (cy 4, 1, .inr (.inr (.inr (.inl (fun _ => 0))))))]) (hS : va_S A s.heap H locs) (hl : lv_has ls 9 [(5, .int 0), (4, .ref od), (3, .ref oa), (2, .ref m0), (1, .ref h), (0, .ref b)])
    (hend : ∀ (H : Heap) (locs : List Loc) (ls : Array Slot), va_S A s.heap H locs → lv_has ls 9 [(0, .ref b), (5, .int 0)] → W p l e room_1 s m #[Value.ref b] below meth c H locs 60 1200 Q (F0 m 4257 ls [])) :
    W p l e room_1 s m #[Value.ref b] below meth c H locs 29 880 Q (F0 m 3369 ls []) := by
  obtain ⟨hx, hb, hml, hst, hown, hts, hX, hbl, hbA, hA, hK, hZ, hN⟩ := C0
  refine lv_aload_n hx hb dL_law_3369 rfl (lv_at hl 4 rfl) ?_
  refine lv_aload_n hx hb dL_law_3370 rfl (lv_at hl 5 rfl) ?_
  refine lv_iload hx hb dL_law_3371 (lv_at hl 0 rfl) ?_
  refine lv_iconst (v := 1) hx hb dL_law_3373 (by decide) ?_
  refine lv_iadd hx hb dL_law_3374 ?_
  refine lv_topi (fun y9 ey9 => ?_)
  obtain rfl : y9 = 1 := by rw [ey9] <;> decide
  refine va_sld hx hb hX hbl hbA hS (zx_bn (by decide)) dL_law_3375 ?_
  refine lv_aload_n hx hb dL_law_3376 rfl (lv_at hl 5 rfl) ?_
  refine lv_iload hx hb dL_law_3377 (lv_at hl 0 rfl) ?_
  refine lv_iconst (v := 2) hx hb dL_law_3379 (by decide) ?_
  refine lv_iadd hx hb dL_law_3380 ?_
  refine lv_topi (fun y9 ey9 => ?_)
  obtain rfl : y9 = 2 := by rw [ey9] <;> decide
  refine va_sld hx hb hX hbl hbA hS (zx_bn (by decide)) dL_law_3381 ?_
  refine lv_aload_n hx hb dL_law_3382 rfl (lv_at hl 5 rfl) ?_
  refine lv_iload hx hb dL_law_3383 (lv_at hl 0 rfl) ?_
  refine lv_iconst (v := 3) hx hb dL_law_3385 (by decide) ?_
  refine lv_iadd hx hb dL_law_3386 ?_
  refine lv_topi (fun y9 ey9 => ?_)
  obtain rfl : y9 = 3 := by rw [ey9] <;> decide
  refine va_sld hx hb hX hbl hbA hS (zx_bn (by decide)) dL_law_3387 ?_
  refine lv_aload_n hx hb dL_law_3388 rfl (lv_at hl 2 rfl) ?_
  have hPc := hP.sub (ws' := [(h, .inr (13, [.ref pe, .ref ne, .ref pa, .ref ro, .int 0])), (pe, .inr (9, [.int 0, .ref a1, .ref a2, .ref a3, .ref a4, .ref a5, .ref a6, .ref a7, .ref a8, .ref a9])), (oa, .inl (cy 3, 1, .inr (.inl (fun _ => 0))))]) [0, 1, 20] rfl
  have hDc := hD.sub (ws' := [(h, .inr (13, [.ref pe, .ref ne, .ref pa, .ref ro, .int 0])), (pe, .inr (9, [.int 0, .ref a1, .ref a2, .ref a3, .ref a4, .ref a5, .ref a6, .ref a7, .ref a8, .ref a9])), (oa, .inl (cy 3, 1, .inr (.inl (fun _ => 0))))]) [0, 1, 20] (by decide) rfl
  have hFc := va_free (wc := [(h, .inr (13, [.ref pe, .ref ne, .ref pa, .ref ro, .int 0])), (pe, .inr (9, [.int 0, .ref a1, .ref a2, .ref a3, .ref a4, .ref a5, .ref a6, .ref a7, .ref a8, .ref a9])), (oa, .inl (cy 3, 1, .inr (.inl (fun _ => 0))))]) hD hS hA [0, 1, 20] rfl
  refine vx_calli (vx_runSX (As := [.ref h, .int (xs (1 : Int32).toNatClampNeg), .int (xs (2 : Int32).toNatClampNeg), .int (xs (3 : Int32).toNatClampNeg), .ref oa]) (rest := []) ⟨hx, hb, hml, hown, hts⟩ (c_L_sees l hst D cy ed H.size h pe ne pa ro 0 a1 a2 a3 a4 a5 a6 a7 a8 a9 oa (fun _ => 0) (xs (1 : Int32).toNatClampNeg) (xs (2 : Int32).toNatClampNeg) (xs (3 : Int32).toNatClampNeg)) (vx_cwSW 5 hts (zx_GS mm_1394 mm_1395 mm_70 mm_1396) rfl rfl rfl (by decide +kernel) ⟨(Nat.le_of_ble_eq_true rfl), (Nat.le_of_ble_eq_true rfl)⟩) ⟨zx_blind, zx_give hPc hK hDc hS hFc hZ hN⟩ rfl rfl hl.1 rfl (lv_room (Nat.le_of_ble_eq_true rfl)) dL_law_3389 ⟨(Nat.le_of_ble_eq_true rfl), (Nat.le_of_ble_eq_true rfl)⟩) hS (fun q _ h => hFc q h) hFc (fun q _ h => hFc q h) (fun E9 ce9 q9 _ t H locs ht hvm _ hBX hz1 hk1 hS hce hcv hcl => ?_) (fun r9 u t H locs ht hvm hw hB hz1 hk1 hS => ?_)
  · exact hBX.elim
  ·
    obtain rfl : r9 = 1 := hw
    obtain ⟨hP, hD⟩ := zx_join (wr := [(a1, .inl (cy 0, 20, .inl (fun _ => 0))), (a2, .inl (cy 0, 20, .inl (fun _ => 0))), (ne, .inr (6, [.ref n1, .ref n2, .ref n3, .ref n4, .ref n5])), (n1, .inl (cy 0, 8, .inl (fun _ => 0))), (n2, .inl (cy 0, 8, .inl f2)), (n3, .inl (cy 0, 8, .inl f3)), (n4, .inl (cy 0, 8, .inl f4)), (n5, .inl (cy 1, 8, .inl f5)), (pa, .inr (4, [.int 0, .ref ed, .int 0])), (ro, .inl (cy 0, 20, .inl (fun _ => 0))), (m0, .inr (20, [.int 0, .ref mp, .int 0, .ref b1, .ref b2, .ref b3, .ref b4, .ref b5, .ref mq])), (b1, .inl (cy 0, 8, .inl (fun _ => 0))), (b2, .inl (cy 0, 8, .inl g2)), (b3, .inl (cy 0, 8, .inl g3)), (b4, .inl (cy 0, 8, .inl g4)), (b5, .inl (cy 1, 8, .inl g5)), (mp, .inr (4, [.int 0, .ref ed, .int 0])), (mq, .inr (4, [.int 0, .ref ed, .int 0])), (od, .inl (cy 4, 1, .inr (.inr (.inr (.inl (fun _ => 0))))))]) (w1 := []) [0, 1, 20] [2, 3, 4, 5, 6, 7, 8, 9, 10, 11, 12, 13, 14, 15, 16, 17, 18, 19, 21] rfl rfl (by decide) (by decide) hP hD hk1 hFc hB ht
    have hP : va_P D vwCl [(a1, .inl (cy 0, 20, .inl (fun _ => 0))), (a2, .inl (cy 0, 20, .inl (fun _ => 0))), (ne, .inr (6, [.ref n1, .ref n2, .ref n3, .ref n4, .ref n5])), (n1, .inl (cy 0, 8, .inl (fun _ => 0))), (n2, .inl (cy 0, 8, .inl f2)), (n3, .inl (cy 0, 8, .inl f3)), (n4, .inl (cy 0, 8, .inl f4)), (n5, .inl (cy 1, 8, .inl f5)), (pa, .inr (4, [.int 0, .ref ed, .int 0])), (ro, .inl (cy 0, 20, .inl (fun _ => 0))), (m0, .inr (20, [.int 0, .ref mp, .int 0, .ref b1, .ref b2, .ref b3, .ref b4, .ref b5, .ref mq])), (b1, .inl (cy 0, 8, .inl (fun _ => 0))), (b2, .inl (cy 0, 8, .inl g2)), (b3, .inl (cy 0, 8, .inl g3)), (b4, .inl (cy 0, 8, .inl g4)), (b5, .inl (cy 1, 8, .inl g5)), (mp, .inr (4, [.int 0, .ref ed, .int 0])), (mq, .inr (4, [.int 0, .ref ed, .int 0])), (od, .inl (cy 4, 1, .inr (.inr (.inr (.inl (fun _ => 0))))))] H := hP
    have hD : va_D A [(a1, .inl (cy 0, 20, .inl (fun _ => 0))), (a2, .inl (cy 0, 20, .inl (fun _ => 0))), (ne, .inr (6, [.ref n1, .ref n2, .ref n3, .ref n4, .ref n5])), (n1, .inl (cy 0, 8, .inl (fun _ => 0))), (n2, .inl (cy 0, 8, .inl f2)), (n3, .inl (cy 0, 8, .inl f3)), (n4, .inl (cy 0, 8, .inl f4)), (n5, .inl (cy 1, 8, .inl f5)), (pa, .inr (4, [.int 0, .ref ed, .int 0])), (ro, .inl (cy 0, 20, .inl (fun _ => 0))), (m0, .inr (20, [.int 0, .ref mp, .int 0, .ref b1, .ref b2, .ref b3, .ref b4, .ref b5, .ref mq])), (b1, .inl (cy 0, 8, .inl (fun _ => 0))), (b2, .inl (cy 0, 8, .inl g2)), (b3, .inl (cy 0, 8, .inl g3)), (b4, .inl (cy 0, 8, .inl g4)), (b5, .inl (cy 1, 8, .inl g5)), (mp, .inr (4, [.int 0, .ref ed, .int 0])), (mq, .inr (4, [.int 0, .ref ed, .int 0])), (od, .inl (cy 4, 1, .inr (.inr (.inr (.inl (fun _ => 0))))))] := hD
    refine W.widen (k := 30) (n := 886) (Nat.le_of_ble_eq_true rfl) (Nat.le_of_ble_eq_true rfl) ?_
    refine lv_istore (lv' := [(6, .int 1), (5, .int 0), (4, .ref od), (3, .ref oa), (2, .ref m0), (1, .ref h), (0, .ref b)]) hx hb dL_law_3392 hl (by decide) rfl (fun ls hl => ?_)
    refine lv_aload_n hx hb dL_law_3394 rfl (lv_at hl 4 rfl) ?_
    refine lv_aload_n hx hb dL_law_3395 rfl (lv_at hl 6 rfl) ?_
    refine lv_iload hx hb dL_law_3396 (lv_at hl 1 rfl) ?_
    refine lv_iconst (v := 1) hx hb dL_law_3398 (by decide) ?_
    refine lv_iadd hx hb dL_law_3399 ?_
    refine lv_topi (fun y9 ey9 => ?_)
    obtain rfl : y9 = 1 := by rw [ey9] <;> decide
    refine va_sld hx hb hX hbl hbA hS (zx_bn (by decide)) dL_law_3400 ?_
    refine lv_aload_n hx hb dL_law_3401 rfl (lv_at hl 6 rfl) ?_
    refine lv_iload hx hb dL_law_3402 (lv_at hl 1 rfl) ?_
    refine lv_iconst (v := 2) hx hb dL_law_3404 (by decide) ?_
    refine lv_iadd hx hb dL_law_3405 ?_
    refine lv_topi (fun y9 ey9 => ?_)
    obtain rfl : y9 = 2 := by rw [ey9] <;> decide
    refine va_sld hx hb hX hbl hbA hS (zx_bn (by decide)) dL_law_3406 ?_
    refine lv_aload_n hx hb dL_law_3407 rfl (lv_at hl 6 rfl) ?_
    refine lv_iload hx hb dL_law_3408 (lv_at hl 1 rfl) ?_
    refine lv_iconst (v := 3) hx hb dL_law_3410 (by decide) ?_
    refine lv_iadd hx hb dL_law_3411 ?_
    refine lv_topi (fun y9 ey9 => ?_)
    obtain rfl : y9 = 3 := by rw [ey9] <;> decide
    refine va_sld hx hb hX hbl hbA hS (zx_bn (by decide)) dL_law_3412 ?_
    have hPc := hP.sub (ws' := [(m0, .inr (20, [.int 0, .ref mp, .int 0, .ref b1, .ref b2, .ref b3, .ref b4, .ref b5, .ref mq])), (mp, .inr (4, [.int 0, .ref ed, .int 0])), (mq, .inr (4, [.int 0, .ref ed, .int 0]))]) [10, 16, 17] rfl
    have hDc := hD.sub (ws' := [(m0, .inr (20, [.int 0, .ref mp, .int 0, .ref b1, .ref b2, .ref b3, .ref b4, .ref b5, .ref mq])), (mp, .inr (4, [.int 0, .ref ed, .int 0])), (mq, .inr (4, [.int 0, .ref ed, .int 0]))]) [10, 16, 17] (by decide) rfl
    have hFc := va_free (wc := [(m0, .inr (20, [.int 0, .ref mp, .int 0, .ref b1, .ref b2, .ref b3, .ref b4, .ref b5, .ref mq])), (mp, .inr (4, [.int 0, .ref ed, .int 0])), (mq, .inr (4, [.int 0, .ref ed, .int 0]))]) hD hS hA [10, 16, 17] rfl
    refine va_calli (va_runV (As := [.int (xs (1 : Int32).toNatClampNeg), .int (xs (2 : Int32).toNatClampNeg), .int (xs (3 : Int32).toNatClampNeg)]) (rest := []) ⟨hx, hb, hml, hown, hts⟩ (c_X15_sees l hst D cy ed H.size m0 mp mq b1 b2 b3 b4 b5 0 0 0 ed 0 ed (xs (1 : Int32).toNatClampNeg) (xs (2 : Int32).toNatClampNeg) (xs (3 : Int32).toNatClampNeg)) (cwV 3 hts (zx_GV mm_2349 mm_2350 mm_2351 mm_78 mm_2352) rfl rfl rfl (by decide +kernel) ⟨(Nat.le_of_ble_eq_true rfl), (Nat.le_of_ble_eq_true rfl)⟩) ⟨zx_blind, va_recv hK hPc (ci := 20) (q0 := 0) rfl rfl, zx_give hPc hK hDc hS hFc hZ hN⟩ rfl rfl hl.1 rfl (lv_room (Nat.le_of_ble_eq_true rfl)) dL_law_3413 ⟨(Nat.le_of_ble_eq_true rfl), (Nat.le_of_ble_eq_true rfl)⟩) hS (fun q _ h => hFc q h) hFc (fun r9 u t H1 locs ht hvm hw hB hz1 hk1 hS => ?_)
    obtain ⟨r_767, rfl⟩ : ∃ z9, z9 = r9 := ⟨_, rfl⟩
    have h_768 := hw
    obtain ⟨hP, hD⟩ := zx_join (wr := [(a1, .inl (cy 0, 20, .inl (fun _ => 0))), (a2, .inl (cy 0, 20, .inl (fun _ => 0))), (ne, .inr (6, [.ref n1, .ref n2, .ref n3, .ref n4, .ref n5])), (n1, .inl (cy 0, 8, .inl (fun _ => 0))), (n2, .inl (cy 0, 8, .inl f2)), (n3, .inl (cy 0, 8, .inl f3)), (n4, .inl (cy 0, 8, .inl f4)), (n5, .inl (cy 1, 8, .inl f5)), (pa, .inr (4, [.int 0, .ref ed, .int 0])), (ro, .inl (cy 0, 20, .inl (fun _ => 0))), (b1, .inl (cy 0, 8, .inl (fun _ => 0))), (b2, .inl (cy 0, 8, .inl g2)), (b3, .inl (cy 0, 8, .inl g3)), (b4, .inl (cy 0, 8, .inl g4)), (b5, .inl (cy 1, 8, .inl g5)), (od, .inl (cy 4, 1, .inr (.inr (.inr (.inl (fun _ => 0))))))]) (w1 := [(m0, .inr (20, [.int 1, .ref mp, .int 0, .ref b1, .ref b2, .ref b3, .ref b4, .ref b5, .ref mq]))]) [10, 16, 17] [0, 1, 2, 3, 4, 5, 6, 7, 8, 9, 11, 12, 13, 14, 15, 18] rfl rfl (by decide) (by decide) hP hD hk1 hFc hB ht
    generalize H1 = H at hP hS ⊢
    have hP : va_P D vwCl [(a1, .inl (cy 0, 20, .inl (fun _ => 0))), (a2, .inl (cy 0, 20, .inl (fun _ => 0))), (ne, .inr (6, [.ref n1, .ref n2, .ref n3, .ref n4, .ref n5])), (n1, .inl (cy 0, 8, .inl (fun _ => 0))), (n2, .inl (cy 0, 8, .inl f2)), (n3, .inl (cy 0, 8, .inl f3)), (n4, .inl (cy 0, 8, .inl f4)), (n5, .inl (cy 1, 8, .inl f5)), (pa, .inr (4, [.int 0, .ref ed, .int 0])), (ro, .inl (cy 0, 20, .inl (fun _ => 0))), (b1, .inl (cy 0, 8, .inl (fun _ => 0))), (b2, .inl (cy 0, 8, .inl g2)), (b3, .inl (cy 0, 8, .inl g3)), (b4, .inl (cy 0, 8, .inl g4)), (b5, .inl (cy 1, 8, .inl g5)), (od, .inl (cy 4, 1, .inr (.inr (.inr (.inl (fun _ => 0)))))), (m0, .inr (20, [.int 1, .ref mp, .int 0, .ref b1, .ref b2, .ref b3, .ref b4, .ref b5, .ref mq]))] H := hP
    have hD : va_D A [(a1, .inl (cy 0, 20, .inl (fun _ => 0))), (a2, .inl (cy 0, 20, .inl (fun _ => 0))), (ne, .inr (6, [.ref n1, .ref n2, .ref n3, .ref n4, .ref n5])), (n1, .inl (cy 0, 8, .inl (fun _ => 0))), (n2, .inl (cy 0, 8, .inl f2)), (n3, .inl (cy 0, 8, .inl f3)), (n4, .inl (cy 0, 8, .inl f4)), (n5, .inl (cy 1, 8, .inl f5)), (pa, .inr (4, [.int 0, .ref ed, .int 0])), (ro, .inl (cy 0, 20, .inl (fun _ => 0))), (b1, .inl (cy 0, 8, .inl (fun _ => 0))), (b2, .inl (cy 0, 8, .inl g2)), (b3, .inl (cy 0, 8, .inl g3)), (b4, .inl (cy 0, 8, .inl g4)), (b5, .inl (cy 1, 8, .inl g5)), (od, .inl (cy 4, 1, .inr (.inr (.inr (.inl (fun _ => 0)))))), (m0, .inr (20, [.int 1, .ref mp, .int 0, .ref b1, .ref b2, .ref b3, .ref b4, .ref b5, .ref mq]))] := hD
    refine W.widen (k := 30) (n := 886) (Nat.le_of_ble_eq_true rfl) (Nat.le_of_ble_eq_true rfl) ?_
    refine lv_istore (lv' := [(7, .int r_767), (6, .int 1), (5, .int 0), (4, .ref od), (3, .ref oa), (2, .ref m0), (1, .ref h), (0, .ref b)]) hx hb dL_law_3416 hl (by decide) rfl (fun ls hl => ?_)
    refine lv_aload_n hx hb dL_law_3418 rfl (lv_at hl 5 rfl) ?_
    have hPc := hP.sub (ws' := [(m0, .inr (20, [.int 1, .ref mp, .int 0, .ref b1, .ref b2, .ref b3, .ref b4, .ref b5, .ref mq]))]) [16] rfl
    have hDc := hD.sub (ws' := [(m0, .inr (20, [.int 1, .ref mp, .int 0, .ref b1, .ref b2, .ref b3, .ref b4, .ref b5, .ref mq]))]) [16] (by decide) rfl
    have hFc := va_free (wc := [(m0, .inr (20, [.int 1, .ref mp, .int 0, .ref b1, .ref b2, .ref b3, .ref b4, .ref b5, .ref mq]))]) hD hS hA [16] rfl
    refine va_calli (va_runV (As := []) (rest := []) ⟨hx, hb, hml, hown, hts⟩ (c_X15_thrown l hst D cy ed H.size m0 mp mq b1 b2 b3 b4 b5 1 0) (cwV 0 hts (zx_GV mm_1599 mm_1600 mm_1601 mm_78 mm_1602) rfl rfl rfl (by decide +kernel) ⟨(Nat.le_of_ble_eq_true rfl), (Nat.le_of_ble_eq_true rfl)⟩) ⟨zx_blind, va_recv hK hPc (ci := 20) (q0 := 0) rfl rfl, zx_give hPc hK hDc hS hFc hZ hN⟩ rfl rfl hl.1 rfl (lv_room (Nat.le_of_ble_eq_true rfl)) dL_law_3419 ⟨(Nat.le_of_ble_eq_true rfl), (Nat.le_of_ble_eq_true rfl)⟩) hS (fun q _ h => hFc q h) hFc (fun r9 u t H1 locs ht hvm hw hB hz1 hk1 hS => ?_)
    obtain rfl : r9 = 1 := hw
    obtain ⟨hP, hD⟩ := zx_join (wr := [(a1, .inl (cy 0, 20, .inl (fun _ => 0))), (a2, .inl (cy 0, 20, .inl (fun _ => 0))), (ne, .inr (6, [.ref n1, .ref n2, .ref n3, .ref n4, .ref n5])), (n1, .inl (cy 0, 8, .inl (fun _ => 0))), (n2, .inl (cy 0, 8, .inl f2)), (n3, .inl (cy 0, 8, .inl f3)), (n4, .inl (cy 0, 8, .inl f4)), (n5, .inl (cy 1, 8, .inl f5)), (pa, .inr (4, [.int 0, .ref ed, .int 0])), (ro, .inl (cy 0, 20, .inl (fun _ => 0))), (b1, .inl (cy 0, 8, .inl (fun _ => 0))), (b2, .inl (cy 0, 8, .inl g2)), (b3, .inl (cy 0, 8, .inl g3)), (b4, .inl (cy 0, 8, .inl g4)), (b5, .inl (cy 1, 8, .inl g5)), (od, .inl (cy 4, 1, .inr (.inr (.inr (.inl (fun _ => 0))))))]) (w1 := [(m0, .inr (20, [.int 1, .ref mp, .int 0, .ref b1, .ref b2, .ref b3, .ref b4, .ref b5, .ref mq]))]) [16] [0, 1, 2, 3, 4, 5, 6, 7, 8, 9, 10, 11, 12, 13, 14, 15] rfl rfl (by decide) (by decide) hP hD hk1 hFc hB ht
    generalize H1 = H at hP hS ⊢
    have hP : va_P D vwCl [(a1, .inl (cy 0, 20, .inl (fun _ => 0))), (a2, .inl (cy 0, 20, .inl (fun _ => 0))), (ne, .inr (6, [.ref n1, .ref n2, .ref n3, .ref n4, .ref n5])), (n1, .inl (cy 0, 8, .inl (fun _ => 0))), (n2, .inl (cy 0, 8, .inl f2)), (n3, .inl (cy 0, 8, .inl f3)), (n4, .inl (cy 0, 8, .inl f4)), (n5, .inl (cy 1, 8, .inl f5)), (pa, .inr (4, [.int 0, .ref ed, .int 0])), (ro, .inl (cy 0, 20, .inl (fun _ => 0))), (b1, .inl (cy 0, 8, .inl (fun _ => 0))), (b2, .inl (cy 0, 8, .inl g2)), (b3, .inl (cy 0, 8, .inl g3)), (b4, .inl (cy 0, 8, .inl g4)), (b5, .inl (cy 1, 8, .inl g5)), (od, .inl (cy 4, 1, .inr (.inr (.inr (.inl (fun _ => 0)))))), (m0, .inr (20, [.int 1, .ref mp, .int 0, .ref b1, .ref b2, .ref b3, .ref b4, .ref b5, .ref mq]))] H := hP
    have hD : va_D A [(a1, .inl (cy 0, 20, .inl (fun _ => 0))), (a2, .inl (cy 0, 20, .inl (fun _ => 0))), (ne, .inr (6, [.ref n1, .ref n2, .ref n3, .ref n4, .ref n5])), (n1, .inl (cy 0, 8, .inl (fun _ => 0))), (n2, .inl (cy 0, 8, .inl f2)), (n3, .inl (cy 0, 8, .inl f3)), (n4, .inl (cy 0, 8, .inl f4)), (n5, .inl (cy 1, 8, .inl f5)), (pa, .inr (4, [.int 0, .ref ed, .int 0])), (ro, .inl (cy 0, 20, .inl (fun _ => 0))), (b1, .inl (cy 0, 8, .inl (fun _ => 0))), (b2, .inl (cy 0, 8, .inl g2)), (b3, .inl (cy 0, 8, .inl g3)), (b4, .inl (cy 0, 8, .inl g4)), (b5, .inl (cy 1, 8, .inl g5)), (od, .inl (cy 4, 1, .inr (.inr (.inr (.inl (fun _ => 0)))))), (m0, .inr (20, [.int 1, .ref mp, .int 0, .ref b1, .ref b2, .ref b3, .ref b4, .ref b5, .ref mq]))] := hD
    refine W.widen (k := 30) (n := 886) (Nat.le_of_ble_eq_true rfl) (Nat.le_of_ble_eq_true rfl) ?_
    refine lv_iload hx hb dL_law_3422 (lv_at hl 1 rfl) ?_
    refine lv_icmp_eq (tgt := 3429) hx hb dL_law_3424 (by decide) (fun _ => ?_) (fun c_769 => absurd (by decide) c_769)
    refine lv_iload hx hb dL_law_3429 (lv_at hl 1 rfl) ?_
    refine lv_if_ne (tgt := 3453) hx hb dL_law_3431 (by decide) (fun _ => ?_) (fun c_770 => absurd c_770 (by decide))
    refine lv_goto (tgt := 4257) hx hb dL_law_3453 (by decide) ?_
    refine W.widen (k := 60) (n := 1200) (Nat.le_of_ble_eq_true rfl) (Nat.le_of_ble_eq_true rfl) ?_
    exact hend _ _ _ hS (lv_sub hl [7, 2] rfl)
