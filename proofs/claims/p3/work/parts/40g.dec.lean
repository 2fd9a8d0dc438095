theorem dL_law_2381 : decode cL_law 2381 = .ok (.iadd, 1) := by decide +kernel
theorem dL_law_2382 : decode cL_law 2382 = .ok (.iaload, 1) := by decide +kernel
theorem dL_law_2383 : decode cL_law 2383 = .ok (.invokevirtual 204, 3) := by decide +kernel
theorem dL_law_2386 : decode cL_law 2386 = .ok (.pop, 1) := by decide +kernel
theorem dL_law_2387 : decode cL_law 2387 = .ok (.aload_n 2, 1) := by decide +kernel
theorem dL_law_2388 : decode cL_law 2388 = .ok (.aload_n 0, 1) := by decide +kernel
theorem dL_law_2389 : decode cL_law 2389 = .ok (.iload 4, 2) := by decide +kernel
theorem dL_law_2391 : decode cL_law 2391 = .ok (.iconst 1, 1) := by decide +kernel
theorem dL_law_2392 : decode cL_law 2392 = .ok (.iadd, 1) := by decide +kernel
theorem dL_law_2393 : decode cL_law 2393 = .ok (.iaload, 1) := by decide +kernel
theorem dL_law_2394 : decode cL_law 2394 = .ok (.aload_n 0, 1) := by decide +kernel
theorem dL_law_2395 : decode cL_law 2395 = .ok (.iload 4, 2) := by decide +kernel
theorem dL_law_2397 : decode cL_law 2397 = .ok (.iconst 2, 1) := by decide +kernel
theorem dL_law_2398 : decode cL_law 2398 = .ok (.iadd, 1) := by decide +kernel
theorem dL_law_2399 : decode cL_law 2399 = .ok (.iaload, 1) := by decide +kernel
theorem dL_law_2400 : decode cL_law 2400 = .ok (.aload_n 0, 1) := by decide +kernel
theorem dL_law_2401 : decode cL_law 2401 = .ok (.iload 4, 2) := by decide +kernel
theorem dL_law_2403 : decode cL_law 2403 = .ok (.iconst 3, 1) := by decide +kernel
theorem dL_law_2404 : decode cL_law 2404 = .ok (.iadd, 1) := by decide +kernel
theorem dL_law_2405 : decode cL_law 2405 = .ok (.iaload, 1) := by decide +kernel
theorem dL_law_2406 : decode cL_law 2406 = .ok (.invokevirtual 207, 3) := by decide +kernel
theorem dL_law_2409 : decode cL_law 2409 = .ok (.pop, 1) := by decide +kernel
theorem dL_law_2410 : decode cL_law 2410 = .ok (.goto 154, 3) := by decide +kernel
theorem dL_law_2413 : decode cL_law 2413 = .ok (.aload_n 1, 1) := by decide +kernel
theorem dL_law_2414 : decode cL_law 2414 = .ok (.aload_n 0, 1) := by decide +kernel
theorem dL_law_2415 : decode cL_law 2415 = .ok (.iload 4, 2) := by decide +kernel
theorem dL_law_2417 : decode cL_law 2417 = .ok (.iconst 1, 1) := by decide +kernel
theorem dL_law_2418 : decode cL_law 2418 = .ok (.iadd, 1) := by decide +kernel
theorem dL_law_2419 : decode cL_law 2419 = .ok (.iaload, 1) := by decide +kernel
theorem dL_law_2420 : decode cL_law 2420 = .ok (.aload_n 0, 1) := by decide +kernel
theorem dL_law_2421 : decode cL_law 2421 = .ok (.iload 4, 2) := by decide +kernel
theorem dL_law_2423 : decode cL_law 2423 = .ok (.iconst 2, 1) := by decide +kernel
theorem dL_law_2424 : decode cL_law 2424 = .ok (.iadd, 1) := by decide +kernel
theorem dL_law_2425 : decode cL_law 2425 = .ok (.iaload, 1) := by decide +kernel
theorem dL_law_2426 : decode cL_law 2426 = .ok (.invokevirtual 208, 3) := by decide +kernel
theorem dL_law_2429 : decode cL_law 2429 = .ok (.pop, 1) := by decide +kernel
theorem dL_law_2430 : decode cL_law 2430 = .ok (.aload_n 2, 1) := by decide +kernel
theorem dL_law_2431 : decode cL_law 2431 = .ok (.aload_n 0, 1) := by decide +kernel
theorem dL_law_2432 : decode cL_law 2432 = .ok (.iload 4, 2) := by decide +kernel
theorem dL_law_2434 : decode cL_law 2434 = .ok (.iconst 1, 1) := by decide +kernel
theorem dL_law_2435 : decode cL_law 2435 = .ok (.iadd, 1) := by decide +kernel
theorem dL_law_2436 : decode cL_law 2436 = .ok (.iaload, 1) := by decide +kernel
theorem dL_law_2437 : decode cL_law 2437 = .ok (.aload_n 0, 1) := by decide +kernel
theorem dL_law_2438 : decode cL_law 2438 = .ok (.iload 4, 2) := by decide +kernel
theorem dL_law_2440 : decode cL_law 2440 = .ok (.iconst 2, 1) := by decide +kernel
theorem dL_law_2441 : decode cL_law 2441 = .ok (.iadd, 1) := by decide +kernel
theorem dL_law_2442 : decode cL_law 2442 = .ok (.iaload, 1) := by decide +kernel
theorem dL_law_2443 : decode cL_law 2443 = .ok (.invokevirtual 211, 3) := by decide +kernel
theorem dL_law_2446 : decode cL_law 2446 = .ok (.pop, 1) := by decide +kernel
theorem dL_law_2447 : decode cL_law 2447 = .ok (.goto 117, 3) := by decide +kernel
theorem dL_law_2450 : decode cL_law 2450 = .ok (.aload_n 1, 1) := by decide +kernel
theorem dL_law_2451 : decode cL_law 2451 = .ok (.invokevirtual 212, 3) := by decide +kernel
theorem dL_law_2454 : decode cL_law 2454 = .ok (.pop, 1) := by decide +kernel
theorem dL_law_2455 : decode cL_law 2455 = .ok (.aload_n 2, 1) := by decide +kernel
theorem dL_law_2456 : decode cL_law 2456 = .ok (.invokevirtual 215, 3) := by decide +kernel
theorem dL_law_2459 : decode cL_law 2459 = .ok (.pop, 1) := by decide +kernel
theorem dL_law_2460 : decode cL_law 2460 = .ok (.goto 104, 3) := by decide +kernel
theorem dL_law_2463 : decode cL_law 2463 = .ok (.aload_n 1, 1) := by decide +kernel
theorem dL_law_2464 : decode cL_law 2464 = .ok (.invokevirtual 216, 3) := by decide +kernel
theorem dL_law_2467 : decode cL_law 2467 = .ok (.pop, 1) := by decide +kernel
theorem dL_law_2468 : decode cL_law 2468 = .ok (.aload_n 2, 1) := by decide +kernel
theorem dL_law_2469 : decode cL_law 2469 = .ok (.invokevirtual 219, 3) := by decide +kernel
theorem dL_law_2472 : decode cL_law 2472 = .ok (.pop, 1) := by decide +kernel
theorem dL_law_2473 : decode cL_law 2473 = .ok (.goto 91, 3) := by decide +kernel
theorem dL_law_2476 : decode cL_law 2476 = .ok (.aload_n 1, 1) := by decide +kernel
theorem dL_law_2477 : decode cL_law 2477 = .ok (.invokevirtual 220, 3) := by decide +kernel
theorem dL_law_2480 : decode cL_law 2480 = .ok (.pop, 1) := by decide +kernel
theorem dL_law_2481 : decode cL_law 2481 = .ok (.aload_n 2, 1) := by decide +kernel
theorem dL_law_2482 : decode cL_law 2482 = .ok (.invokevirtual 223, 3) := by decide +kernel
theorem dL_law_2485 : decode cL_law 2485 = .ok (.pop, 1) := by decide +kernel
theorem dL_law_2486 : decode cL_law 2486 = .ok (.goto 78, 3) := by decide +kernel
theorem dL_law_2489 : decode cL_law 2489 = .ok (.aload_n 1, 1) := by decide +kernel
theorem dL_law_2490 : decode cL_law 2490 = .ok (.aload_n 0, 1) := by decide +kernel
theorem dL_law_2491 : decode cL_law 2491 = .ok (.iload 4, 2) := by decide +kernel
theorem dL_law_2493 : decode cL_law 2493 = .ok (.iconst 1, 1) := by decide +kernel
theorem dL_law_2494 : decode cL_law 2494 = .ok (.iadd, 1) := by decide +kernel
theorem dL_law_2495 : decode cL_law 2495 = .ok (.iaload, 1) := by decide +kernel
theorem dL_law_2496 : decode cL_law 2496 = .ok (.invokevirtual 224, 3) := by decide +kernel
theorem dL_law_2499 : decode cL_law 2499 = .ok (.pop, 1) := by decide +kernel
theorem dL_law_2500 : decode cL_law 2500 = .ok (.aload_n 2, 1) := by decide +kernel
theorem dL_law_2501 : decode cL_law 2501 = .ok (.aload_n 0, 1) := by decide +kernel
theorem dL_law_2502 : decode cL_law 2502 = .ok (.iload 4, 2) := by decide +kernel
theorem dL_law_2504 : decode cL_law 2504 = .ok (.iconst 1, 1) := by decide +kernel
theorem dL_law_2505 : decode cL_law 2505 = .ok (.iadd, 1) := by decide +kernel
theorem dL_law_2506 : decode cL_law 2506 = .ok (.iaload, 1) := by decide +kernel
theorem dL_law_2507 : decode cL_law 2507 = .ok (.invokevirtual 227, 3) := by decide +kernel
theorem dL_law_2510 : decode cL_law 2510 = .ok (.pop, 1) := by decide +kernel
theorem dL_law_2511 : decode cL_law 2511 = .ok (.goto 53, 3) := by decide +kernel
theorem dL_law_2514 : decode cL_law 2514 = .ok (.aload_n 1, 1) := by decide +kernel
theorem dL_law_2515 : decode cL_law 2515 = .ok (.aload_n 0, 1) := by decide +kernel
theorem dL_law_2516 : decode cL_law 2516 = .ok (.iload 4, 2) := by decide +kernel
theorem dL_law_2518 : decode cL_law 2518 = .ok (.iconst 1, 1) := by decide +kernel
theorem dL_law_2519 : decode cL_law 2519 = .ok (.iadd, 1) := by decide +kernel
theorem dL_law_2520 : decode cL_law 2520 = .ok (.iaload, 1) := by decide +kernel
theorem dL_law_2521 : decode cL_law 2521 = .ok (.invokevirtual 228, 3) := by decide +kernel
theorem dL_law_2524 : decode cL_law 2524 = .ok (.pop, 1) := by decide +kernel
theorem dL_law_2525 : decode cL_law 2525 = .ok (.aload_n 2, 1) := by decide +kernel
theorem dL_law_2526 : decode cL_law 2526 = .ok (.aload_n 0, 1) := by decide +kernel
theorem dL_law_2527 : decode cL_law 2527 = .ok (.iload 4, 2) := by decide +kernel
theorem dL_law_2529 : decode cL_law 2529 = .ok (.iconst 1, 1) := by decide +kernel
theorem dL_law_2530 : decode cL_law 2530 = .ok (.iadd, 1) := by decide +kernel
theorem dL_law_2531 : decode cL_law 2531 = .ok (.iaload, 1) := by decide +kernel
theorem dL_law_2532 : decode cL_law 2532 = .ok (.invokevirtual 231, 3) := by decide +kernel
theorem dL_law_2535 : decode cL_law 2535 = .ok (.pop, 1) := by decide +kernel
theorem dL_law_2536 : decode cL_law 2536 = .ok (.goto 28, 3) := by decide +kernel
theorem dL_law_2539 : decode cL_law 2539 = .ok (.aload_n 1, 1) := by decide +kernel
theorem dL_law_2540 : decode cL_law 2540 = .ok (.aload_n 0, 1) := by decide +kernel
theorem dL_law_2541 : decode cL_law 2541 = .ok (.iload 4, 2) := by decide +kernel
theorem dL_law_2543 : decode cL_law 2543 = .ok (.iconst 1, 1) := by decide +kernel
theorem dL_law_2544 : decode cL_law 2544 = .ok (.iadd, 1) := by decide +kernel
theorem dL_law_2545 : decode cL_law 2545 = .ok (.iaload, 1) := by decide +kernel
theorem dL_law_2546 : decode cL_law 2546 = .ok (.invokevirtual 232, 3) := by decide +kernel
theorem dL_law_2549 : decode cL_law 2549 = .ok (.pop, 1) := by decide +kernel
theorem dL_law_2550 : decode cL_law 2550 = .ok (.aload_n 2, 1) := by decide +kernel
theorem dL_law_2551 : decode cL_law 2551 = .ok (.aload_n 0, 1) := by decide +kernel
theorem dL_law_2552 : decode cL_law 2552 = .ok (.iload 4, 2) := by decide +kernel
theorem dL_law_2554 : decode cL_law 2554 = .ok (.iconst 1, 1) := by decide +kernel
theorem dL_law_2555 : decode cL_law 2555 = .ok (.iadd, 1) := by decide +kernel
theorem dL_law_2556 : decode cL_law 2556 = .ok (.iaload, 1) := by decide +kernel
theorem dL_law_2557 : decode cL_law 2557 = .ok (.invokevirtual 235, 3) := by decide +kernel
theorem dL_law_2560 : decode cL_law 2560 = .ok (.pop, 1) := by decide +kernel
theorem dL_law_2561 : decode cL_law 2561 = .ok (.goto 3, 3) := by decide +kernel
theorem dL_law_631 : decode cL_law 631 = .ok (.aload_n 1, 1) := by decide +kernel
theorem dL_law_632 : decode cL_law 632 = .ok (.aload_n 0, 1) := by decide +kernel
theorem dL_law_633 : decode cL_law 633 = .ok (.iload 4, 2) := by decide +kernel
theorem dL_law_635 : decode cL_law 635 = .ok (.iconst 1, 1) := by decide +kernel
theorem dL_law_636 : decode cL_law 636 = .ok (.iadd, 1) := by decide +kernel
theorem dL_law_637 : decode cL_law 637 = .ok (.iaload, 1) := by decide +kernel
theorem dL_law_638 : decode cL_law 638 = .ok (.aload_n 0, 1) := by decide +kernel
theorem dL_law_639 : decode cL_law 639 = .ok (.iload 4, 2) := by decide +kernel
theorem dL_law_641 : decode cL_law 641 = .ok (.iconst 2, 1) := by decide +kernel
theorem dL_law_642 : decode cL_law 642 = .ok (.iadd, 1) := by decide +kernel
theorem dL_law_643 : decode cL_law 643 = .ok (.iaload, 1) := by decide +kernel
theorem dL_law_644 : decode cL_law 644 = .ok (.aload_n 3, 1) := by decide +kernel
theorem dL_law_645 : decode cL_law 645 = .ok (.invokestatic 68, 3) := by decide +kernel
theorem dL_law_648 : decode cL_law 648 = .ok (.istore 5, 2) := by decide +kernel
theorem dL_law_650 : decode cL_law 650 = .ok (.aload_n 2, 1) := by decide +kernel
theorem dL_law_651 : decode cL_law 651 = .ok (.aload_n 0, 1) := by decide +kernel
theorem dL_law_652 : decode cL_law 652 = .ok (.iload 4, 2) := by decide +kernel
theorem dL_law_654 : decode cL_law 654 = .ok (.iconst 1, 1) := by decide +kernel
theorem dL_law_655 : decode cL_law 655 = .ok (.iadd, 1) := by decide +kernel
theorem dL_law_656 : decode cL_law 656 = .ok (.iaload, 1) := by decide +kernel
theorem dL_law_657 : decode cL_law 657 = .ok (.aload_n 0, 1) := by decide +kernel
theorem dL_law_658 : decode cL_law 658 = .ok (.iload 4, 2) := by decide +kernel
theorem dL_law_660 : decode cL_law 660 = .ok (.iconst 2, 1) := by decide +kernel
theorem dL_law_661 : decode cL_law 661 = .ok (.iadd, 1) := by decide +kernel
theorem dL_law_662 : decode cL_law 662 = .ok (.iaload, 1) := by decide +kernel
theorem dL_law_663 : decode cL_law 663 = .ok (.invokevirtual 73, 3) := by decide +kernel
theorem dL_law_666 : decode cL_law 666 = .ok (.istore 6, 2) := by decide +kernel
theorem dL_law_668 : decode cL_law 668 = .ok (.goto 1896, 3) := by decide +kernel
theorem dL_law_0 : decode cL_law 0 = .ok (.new 8, 3) := by decide +kernel
theorem dL_law_3 : decode cL_law 3 = .ok (.dup, 1) := by decide +kernel
theorem dL_law_4 : decode cL_law 4 = .ok (.invokespecial 15, 3) := by decide +kernel
theorem dL_law_7 : decode cL_law 7 = .ok (.astore_n 1, 1) := by decide +kernel
theorem dL_law_8 : decode cL_law 8 = .ok (.new 16, 3) := by decide +kernel
theorem dL_law_11 : decode cL_law 11 = .ok (.dup, 1) := by decide +kernel
theorem dL_law_12 : decode cL_law 12 = .ok (.invokespecial 18, 3) := by decide +kernel
theorem dL_law_15 : decode cL_law 15 = .ok (.astore_n 2, 1) := by decide +kernel
theorem dL_law_16 : decode cL_law 16 = .ok (.iconst 1, 1) := by decide +kernel
theorem dL_law_17 : decode cL_law 17 = .ok (.newarray .long, 2) := by decide +kernel
theorem dL_law_19 : decode cL_law 19 = .ok (.astore_n 3, 1) := by decide +kernel
theorem dL_law_20 : decode cL_law 20 = .ok (.iconst 0, 1) := by decide +kernel
theorem dL_law_21 : decode cL_law 21 = .ok (.istore 4, 2) := by decide +kernel
theorem dL_law_23 : decode cL_law 23 = .ok (.iload 4, 2) := by decide +kernel
theorem dL_law_25 : decode cL_law 25 = .ok (.aload_n 0, 1) := by decide +kernel
theorem dL_law_26 : decode cL_law 26 = .ok (.arraylength, 1) := by decide +kernel
theorem dL_law_27 : decode cL_law 27 = .ok (.bipush 8, 2) := by decide +kernel
theorem dL_law_29 : decode cL_law 29 = .ok (.isub, 1) := by decide +kernel
theorem dL_law_30 : decode cL_law 30 = .ok (.if_icmp .gt 2540, 3) := by decide +kernel
theorem dL_law_33 : decode cL_law 33 = .ok (.aload_n 0, 1) := by decide +kernel
theorem dL_law_34 : decode cL_law 34 = .ok (.iload 4, 2) := by decide +kernel
theorem dL_law_36 : decode cL_law 36 = .ok (.iaload, 1) := by decide +kernel
theorem dL_law_37 : decode cL_law 37 = .ok (.bipush 63, 2) := by decide +kernel
theorem dL_law_39 : decode cL_law 39 = .ok (.iand, 1) := by decide +kernel
theorem dL_law_40 : decode cL_law 40 = .ok (.tableswitch 2524 0 50 #[220, 293, 318, 331, 344, 369, 394, 419, 456, 493, 542, 591, 631, 704, 753, 814, 875, 936, 973, 1022, 1071, 1144, 1181, 1218, 1279, 1366, 1487, 1536, 1573, 1622, 1647, 1696, 1745, 1806, 1879, 1904, 1953, 1978, 2003, 2028, 2115, 2176, 2263, 2324, 2373, 2410, 2423, 2436, 2449, 2474, 2499], 220) := by decide +kernel
theorem dL_law_2564 : decode cL_law 2564 = .ok (.iinc 4 8, 3) := by decide +kernel
theorem dL_law_2567 : decode cL_law 2567 = .ok (.goto (-2544), 3) := by decide +kernel
theorem dL_law_2570 : decode cL_law 2570 = .ok (.iconst 1, 1) := by decide +kernel
theorem dL_law_2571 : decode cL_law 2571 = .ok (.ireturn, 1) := by decide +kernel
