section Dec
theorem dL_law__2444 : decode cL_law_ 2444 = .ok (.aload_n 0, 1) := by decide +kernel
theorem dL_law__2445 : decode cL_law_ 2445 = .ok (.iload 4, 2) := by decide +kernel
theorem dL_law__2447 : decode cL_law_ 2447 = .ok (.iconst 2, 1) := by decide +kernel
theorem dL_law__2448 : decode cL_law_ 2448 = .ok (.iadd, 1) := by decide +kernel
theorem dL_law__2449 : decode cL_law_ 2449 = .ok (.iaload, 1) := by decide +kernel
theorem dL_law__2450 : decode cL_law_ 2450 = .ok (.aload_n 0, 1) := by decide +kernel
theorem dL_law__2451 : decode cL_law_ 2451 = .ok (.iload 4, 2) := by decide +kernel
theorem dL_law__2453 : decode cL_law_ 2453 = .ok (.iconst 3, 1) := by decide +kernel
theorem dL_law__2454 : decode cL_law_ 2454 = .ok (.iadd, 1) := by decide +kernel
theorem dL_law__2455 : decode cL_law_ 2455 = .ok (.iaload, 1) := by decide +kernel
theorem dL_law__2456 : decode cL_law_ 2456 = .ok (.aload_n 0, 1) := by decide +kernel
theorem dL_law__2457 : decode cL_law_ 2457 = .ok (.iload 4, 2) := by decide +kernel
theorem dL_law__2459 : decode cL_law_ 2459 = .ok (.iconst 4, 1) := by decide +kernel
theorem dL_law__2460 : decode cL_law_ 2460 = .ok (.iadd, 1) := by decide +kernel
theorem dL_law__2461 : decode cL_law_ 2461 = .ok (.iaload, 1) := by decide +kernel
theorem dL_law__2462 : decode cL_law_ 2462 = .ok (.invokevirtual 242, 3) := by decide +kernel
theorem dL_law__2465 : decode cL_law_ 2465 = .ok (.istore 6, 2) := by decide +kernel
theorem dL_law__2467 : decode cL_law_ 2467 = .ok (.aload_n 2, 1) := by decide +kernel
theorem dL_law__2468 : decode cL_law_ 2468 = .ok (.invokevirtual 134, 3) := by decide +kernel
theorem dL_law__2471 : decode cL_law_ 2471 = .ok (.iload 5, 2) := by decide +kernel
theorem dL_law__2473 : decode cL_law_ 2473 = .ok (.if_icmp .eq 5, 3) := by decide +kernel
theorem dL_law__2476 : decode cL_law_ 2476 = .ok (.iconst 0, 1) := by decide +kernel
theorem dL_law__2477 : decode cL_law_ 2477 = .ok (.ireturn, 1) := by decide +kernel
theorem dL_law__2478 : decode cL_law_ 2478 = .ok (.iload 5, 2) := by decide +kernel
theorem dL_law__2480 : decode cL_law_ 2480 = .ok (.ifCond .ne 15, 3) := by decide +kernel
theorem dL_law__2483 : decode cL_law_ 2483 = .ok (.aload_n 3, 1) := by decide +kernel
theorem dL_law__2484 : decode cL_law_ 2484 = .ok (.iconst 0, 1) := by decide +kernel
theorem dL_law__2485 : decode cL_law_ 2485 = .ok (.laload, 1) := by decide +kernel
theorem dL_law__2486 : decode cL_law_ 2486 = .ok (.iload 6, 2) := by decide +kernel
theorem dL_law__2488 : decode cL_law_ 2488 = .ok (.i2l, 1) := by decide +kernel
theorem dL_law__2489 : decode cL_law_ 2489 = .ok (.lcmp, 1) := by decide +kernel
theorem dL_law__2490 : decode cL_law_ 2490 = .ok (.ifCond .eq 5, 3) := by decide +kernel
theorem dL_law__2493 : decode cL_law_ 2493 = .ok (.iconst 0, 1) := by decide +kernel
theorem dL_law__2494 : decode cL_law_ 2494 = .ok (.ireturn, 1) := by decide +kernel
theorem dL_law__2495 : decode cL_law_ 2495 = .ok (.goto 197, 3) := by decide +kernel
theorem dL_law__2498 : decode cL_law_ 2498 = .ok (.aload_n 1, 1) := by decide +kernel
theorem dL_law__2499 : decode cL_law_ 2499 = .ok (.aload_n 0, 1) := by decide +kernel
theorem dL_law__2500 : decode cL_law_ 2500 = .ok (.iload 4, 2) := by decide +kernel
theorem dL_law__2502 : decode cL_law_ 2502 = .ok (.iconst 1, 1) := by decide +kernel
theorem dL_law__2503 : decode cL_law_ 2503 = .ok (.iadd, 1) := by decide +kernel
theorem dL_law__2504 : decode cL_law_ 2504 = .ok (.iaload, 1) := by decide +kernel
theorem dL_law__2505 : decode cL_law_ 2505 = .ok (.aload_n 0, 1) := by decide +kernel
theorem dL_law__2506 : decode cL_law_ 2506 = .ok (.iload 4, 2) := by decide +kernel
theorem dL_law__2508 : decode cL_law_ 2508 = .ok (.iconst 2, 1) := by decide +kernel
theorem dL_law__2509 : decode cL_law_ 2509 = .ok (.iadd, 1) := by decide +kernel
theorem dL_law__2510 : decode cL_law_ 2510 = .ok (.iaload, 1) := by decide +kernel
theorem dL_law__2511 : decode cL_law_ 2511 = .ok (.aload_n 0, 1) := by decide +kernel
theorem dL_law__2512 : decode cL_law_ 2512 = .ok (.iload 4, 2) := by decide +kernel
theorem dL_law__2514 : decode cL_law_ 2514 = .ok (.iconst 3, 1) := by decide +kernel
theorem dL_law__2515 : decode cL_law_ 2515 = .ok (.iadd, 1) := by decide +kernel
theorem dL_law__2516 : decode cL_law_ 2516 = .ok (.iaload, 1) := by decide +kernel
theorem dL_law__2517 : decode cL_law_ 2517 = .ok (.aload_n 0, 1) := by decide +kernel
theorem dL_law__2518 : decode cL_law_ 2518 = .ok (.iload 4, 2) := by decide +kernel
theorem dL_law__2520 : decode cL_law_ 2520 = .ok (.iconst 4, 1) := by decide +kernel
theorem dL_law__2521 : decode cL_law_ 2521 = .ok (.iadd, 1) := by decide +kernel
theorem dL_law__2522 : decode cL_law_ 2522 = .ok (.iaload, 1) := by decide +kernel
theorem dL_law__2523 : decode cL_law_ 2523 = .ok (.aload_n 0, 1) := by decide +kernel
theorem dL_law__2524 : decode cL_law_ 2524 = .ok (.iload 4, 2) := by decide +kernel
theorem dL_law__2526 : decode cL_law_ 2526 = .ok (.iconst 5, 1) := by decide +kernel
theorem dL_law__2527 : decode cL_law_ 2527 = .ok (.iadd, 1) := by decide +kernel
theorem dL_law__2528 : decode cL_law_ 2528 = .ok (.iaload, 1) := by decide +kernel
theorem dL_law__2529 : decode cL_law_ 2529 = .ok (.aload_n 0, 1) := by decide +kernel
theorem dL_law__2530 : decode cL_law_ 2530 = .ok (.iload 4, 2) := by decide +kernel
theorem dL_law__2532 : decode cL_law_ 2532 = .ok (.bipush 6, 2) := by decide +kernel
theorem dL_law__2534 : decode cL_law_ 2534 = .ok (.iadd, 1) := by decide +kernel
theorem dL_law__2535 : decode cL_law_ 2535 = .ok (.iaload, 1) := by decide +kernel
theorem dL_law__2536 : decode cL_law_ 2536 = .ok (.aload_n 3, 1) := by decide +kernel
theorem dL_law__2537 : decode cL_law_ 2537 = .ok (.invokestatic 243, 3) := by decide +kernel
theorem dL_law__2540 : decode cL_law_ 2540 = .ok (.istore 5, 2) := by decide +kernel
theorem dL_law__2542 : decode cL_law_ 2542 = .ok (.aload_n 2, 1) := by decide +kernel
theorem dL_law__2543 : decode cL_law_ 2543 = .ok (.aload_n 0, 1) := by decide +kernel
theorem dL_law__2544 : decode cL_law_ 2544 = .ok (.iload 4, 2) := by decide +kernel
theorem dL_law__2546 : decode cL_law_ 2546 = .ok (.iconst 1, 1) := by decide +kernel
theorem dL_law__2547 : decode cL_law_ 2547 = .ok (.iadd, 1) := by decide +kernel
theorem dL_law__2548 : decode cL_law_ 2548 = .ok (.iaload, 1) := by decide +kernel
theorem dL_law__2549 : decode cL_law_ 2549 = .ok (.aload_n 0, 1) := by decide +kernel
theorem dL_law__2550 : decode cL_law_ 2550 = .ok (.iload 4, 2) := by decide +kernel
theorem dL_law__2552 : decode cL_law_ 2552 = .ok (.iconst 2, 1) := by decide +kernel
theorem dL_law__2553 : decode cL_law_ 2553 = .ok (.iadd, 1) := by decide +kernel
theorem dL_law__2554 : decode cL_law_ 2554 = .ok (.iaload, 1) := by decide +kernel
theorem dL_law__2555 : decode cL_law_ 2555 = .ok (.aload_n 0, 1) := by decide +kernel
theorem dL_law__2556 : decode cL_law_ 2556 = .ok (.iload 4, 2) := by decide +kernel
theorem dL_law__2558 : decode cL_law_ 2558 = .ok (.iconst 3, 1) := by decide +kernel
theorem dL_law__2559 : decode cL_law_ 2559 = .ok (.iadd, 1) := by decide +kernel
theorem dL_law__2560 : decode cL_law_ 2560 = .ok (.iaload, 1) := by decide +kernel
theorem dL_law__2561 : decode cL_law_ 2561 = .ok (.aload_n 0, 1) := by decide +kernel
theorem dL_law__2562 : decode cL_law_ 2562 = .ok (.iload 4, 2) := by decide +kernel
theorem dL_law__2564 : decode cL_law_ 2564 = .ok (.iconst 4, 1) := by decide +kernel
theorem dL_law__2565 : decode cL_law_ 2565 = .ok (.iadd, 1) := by decide +kernel
theorem dL_law__2566 : decode cL_law_ 2566 = .ok (.iaload, 1) := by decide +kernel
theorem dL_law__2567 : decode cL_law_ 2567 = .ok (.aload_n 0, 1) := by decide +kernel
theorem dL_law__2568 : decode cL_law_ 2568 = .ok (.iload 4, 2) := by decide +kernel
theorem dL_law__2570 : decode cL_law_ 2570 = .ok (.iconst 5, 1) := by decide +kernel
theorem dL_law__2571 : decode cL_law_ 2571 = .ok (.iadd, 1) := by decide +kernel
theorem dL_law__2572 : decode cL_law_ 2572 = .ok (.iaload, 1) := by decide +kernel
theorem dL_law__2573 : decode cL_law_ 2573 = .ok (.aload_n 0, 1) := by decide +kernel
theorem dL_law__2574 : decode cL_law_ 2574 = .ok (.iload 4, 2) := by decide +kernel
theorem dL_law__2576 : decode cL_law_ 2576 = .ok (.bipush 6, 2) := by decide +kernel
theorem dL_law__2578 : decode cL_law_ 2578 = .ok (.iadd, 1) := by decide +kernel
theorem dL_law__2579 : decode cL_law_ 2579 = .ok (.iaload, 1) := by decide +kernel
theorem dL_law__2580 : decode cL_law_ 2580 = .ok (.invokevirtual 246, 3) := by decide +kernel
theorem dL_law__2583 : decode cL_law_ 2583 = .ok (.istore 6, 2) := by decide +kernel
theorem dL_law__2585 : decode cL_law_ 2585 = .ok (.aload_n 2, 1) := by decide +kernel
theorem dL_law__2586 : decode cL_law_ 2586 = .ok (.invokevirtual 134, 3) := by decide +kernel
theorem dL_law__2589 : decode cL_law_ 2589 = .ok (.iload 5, 2) := by decide +kernel
theorem dL_law__2591 : decode cL_law_ 2591 = .ok (.if_icmp .eq 5, 3) := by decide +kernel
theorem dL_law__2594 : decode cL_law_ 2594 = .ok (.iconst 0, 1) := by decide +kernel
theorem dL_law__2595 : decode cL_law_ 2595 = .ok (.ireturn, 1) := by decide +kernel
theorem dL_law__2596 : decode cL_law_ 2596 = .ok (.iload 5, 2) := by decide +kernel
theorem dL_law__2598 : decode cL_law_ 2598 = .ok (.ifCond .ne 15, 3) := by decide +kernel
theorem dL_law__2601 : decode cL_law_ 2601 = .ok (.aload_n 3, 1) := by decide +kernel
theorem dL_law__2602 : decode cL_law_ 2602 = .ok (.iconst 0, 1) := by decide +kernel
theorem dL_law__2603 : decode cL_law_ 2603 = .ok (.laload, 1) := by decide +kernel
theorem dL_law__2604 : decode cL_law_ 2604 = .ok (.iload 6, 2) := by decide +kernel
theorem dL_law__2606 : decode cL_law_ 2606 = .ok (.i2l, 1) := by decide +kernel
theorem dL_law__2607 : decode cL_law_ 2607 = .ok (.lcmp, 1) := by decide +kernel
theorem dL_law__2608 : decode cL_law_ 2608 = .ok (.ifCond .eq 5, 3) := by decide +kernel
theorem dL_law__2611 : decode cL_law_ 2611 = .ok (.iconst 0, 1) := by decide +kernel
theorem dL_law__2612 : decode cL_law_ 2612 = .ok (.ireturn, 1) := by decide +kernel
theorem dL_law__2613 : decode cL_law_ 2613 = .ok (.goto 79, 3) := by decide +kernel
theorem dL_law__2616 : decode cL_law_ 2616 = .ok (.aload_n 1, 1) := by decide +kernel
theorem dL_law__2617 : decode cL_law_ 2617 = .ok (.invokevirtual 247, 3) := by decide +kernel
theorem dL_law__2620 : decode cL_law_ 2620 = .ok (.aload_n 2, 1) := by decide +kernel
theorem dL_law__2621 : decode cL_law_ 2621 = .ok (.invokevirtual 250, 3) := by decide +kernel
theorem dL_law__2624 : decode cL_law_ 2624 = .ok (.if_icmp .eq 68, 3) := by decide +kernel
theorem dL_law__2627 : decode cL_law_ 2627 = .ok (.iconst 0, 1) := by decide +kernel
theorem dL_law__2628 : decode cL_law_ 2628 = .ok (.ireturn, 1) := by decide +kernel
theorem dL_law__2629 : decode cL_law_ 2629 = .ok (.aload_n 1, 1) := by decide +kernel
theorem dL_law__2630 : decode cL_law_ 2630 = .ok (.invokevirtual 251, 3) := by decide +kernel
theorem dL_law__2633 : decode cL_law_ 2633 = .ok (.aload_n 2, 1) := by decide +kernel
theorem dL_law__2634 : decode cL_law_ 2634 = .ok (.invokevirtual 254, 3) := by decide +kernel
theorem dL_law__2637 : decode cL_law_ 2637 = .ok (.if_icmp .eq 55, 3) := by decide +kernel
theorem dL_law__2640 : decode cL_law_ 2640 = .ok (.iconst 0, 1) := by decide +kernel
theorem dL_law__2641 : decode cL_law_ 2641 = .ok (.ireturn, 1) := by decide +kernel
theorem dL_law__2642 : decode cL_law_ 2642 = .ok (.aload_n 1, 1) := by decide +kernel
theorem dL_law__2643 : decode cL_law_ 2643 = .ok (.aload_n 0, 1) := by decide +kernel
theorem dL_law__2644 : decode cL_law_ 2644 = .ok (.iload 4, 2) := by decide +kernel
theorem dL_law__2646 : decode cL_law_ 2646 = .ok (.iconst 1, 1) := by decide +kernel
theorem dL_law__2647 : decode cL_law_ 2647 = .ok (.iadd, 1) := by decide +kernel
theorem dL_law__2648 : decode cL_law_ 2648 = .ok (.iaload, 1) := by decide +kernel
theorem dL_law__2649 : decode cL_law_ 2649 = .ok (.invokevirtual 255, 3) := by decide +kernel
theorem dL_law__2652 : decode cL_law_ 2652 = .ok (.aload_n 2, 1) := by decide +kernel
theorem dL_law__2653 : decode cL_law_ 2653 = .ok (.aload_n 0, 1) := by decide +kernel
theorem dL_law__2654 : decode cL_law_ 2654 = .ok (.iload 4, 2) := by decide +kernel
theorem dL_law__2656 : decode cL_law_ 2656 = .ok (.iconst 1, 1) := by decide +kernel
theorem dL_law__2657 : decode cL_law_ 2657 = .ok (.iadd, 1) := by decide +kernel
theorem dL_law__2658 : decode cL_law_ 2658 = .ok (.iaload, 1) := by decide +kernel
theorem dL_law__2659 : decode cL_law_ 2659 = .ok (.invokevirtual 258, 3) := by decide +kernel
theorem dL_law__2662 : decode cL_law_ 2662 = .ok (.if_icmp .eq 30, 3) := by decide +kernel
theorem dL_law__2665 : decode cL_law_ 2665 = .ok (.iconst 0, 1) := by decide +kernel
theorem dL_law__2666 : decode cL_law_ 2666 = .ok (.ireturn, 1) := by decide +kernel
theorem dL_law__2667 : decode cL_law_ 2667 = .ok (.aload_n 1, 1) := by decide +kernel
theorem dL_law__2668 : decode cL_law_ 2668 = .ok (.aload_n 0, 1) := by decide +kernel
theorem dL_law__2669 : decode cL_law_ 2669 = .ok (.iload 4, 2) := by decide +kernel
theorem dL_law__2671 : decode cL_law_ 2671 = .ok (.iconst 1, 1) := by decide +kernel
theorem dL_law__2672 : decode cL_law_ 2672 = .ok (.iadd, 1) := by decide +kernel
theorem dL_law__2673 : decode cL_law_ 2673 = .ok (.iaload, 1) := by decide +kernel
theorem dL_law__2674 : decode cL_law_ 2674 = .ok (.invokevirtual 259, 3) := by decide +kernel
theorem dL_law__2677 : decode cL_law_ 2677 = .ok (.aload_n 2, 1) := by decide +kernel
theorem dL_law__2678 : decode cL_law_ 2678 = .ok (.aload_n 0, 1) := by decide +kernel
theorem dL_law__2679 : decode cL_law_ 2679 = .ok (.iload 4, 2) := by decide +kernel
theorem dL_law__2681 : decode cL_law_ 2681 = .ok (.iconst 1, 1) := by decide +kernel
theorem dL_law__2682 : decode cL_law_ 2682 = .ok (.iadd, 1) := by decide +kernel
theorem dL_law__2683 : decode cL_law_ 2683 = .ok (.iaload, 1) := by decide +kernel
theorem dL_law__2684 : decode cL_law_ 2684 = .ok (.invokevirtual 262, 3) := by decide +kernel
theorem dL_law__2687 : decode cL_law_ 2687 = .ok (.if_icmp .eq 5, 3) := by decide +kernel
theorem dL_law__2690 : decode cL_law_ 2690 = .ok (.iconst 0, 1) := by decide +kernel
theorem dL_law__2691 : decode cL_law_ 2691 = .ok (.ireturn, 1) := by decide +kernel
theorem dL_law__2692 : decode cL_law_ 2692 = .ok (.iinc 4 10, 3) := by decide +kernel
theorem dL_law__2695 : decode cL_law_ 2695 = .ok (.goto (-2672), 3) := by decide +kernel
theorem dL_law__2698 : decode cL_law_ 2698 = .ok (.iconst 1, 1) := by decide +kernel
theorem dL_law__2699 : decode cL_law_ 2699 = .ok (.ireturn, 1) := by decide +kernel
end Dec
