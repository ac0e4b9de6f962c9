theorem dL_law_2538 : decode cL_law 2538 = .ok (.aload_n 3, 1) := by decide +kernel
theorem dL_law_2539 : decode cL_law 2539 = .ok (.invokestatic 266, 3) := by decide +kernel
theorem dL_law_2542 : decode cL_law 2542 = .ok (.istore 6, 2) := by decide +kernel
theorem dL_law_2544 : decode cL_law 2544 = .ok (.aload_n 2, 1) := by decide +kernel
theorem dL_law_2545 : decode cL_law 2545 = .ok (.aload_n 0, 1) := by decide +kernel
theorem dL_law_2546 : decode cL_law 2546 = .ok (.iload 5, 2) := by decide +kernel
theorem dL_law_2548 : decode cL_law 2548 = .ok (.iconst 1, 1) := by decide +kernel
theorem dL_law_2549 : decode cL_law 2549 = .ok (.iadd, 1) := by decide +kernel
theorem dL_law_2550 : decode cL_law 2550 = .ok (.iaload, 1) := by decide +kernel
theorem dL_law_2551 : decode cL_law 2551 = .ok (.aload_n 0, 1) := by decide +kernel
theorem dL_law_2552 : decode cL_law 2552 = .ok (.iload 5, 2) := by decide +kernel
theorem dL_law_2554 : decode cL_law 2554 = .ok (.iconst 2, 1) := by decide +kernel
theorem dL_law_2555 : decode cL_law 2555 = .ok (.iadd, 1) := by decide +kernel
theorem dL_law_2556 : decode cL_law 2556 = .ok (.iaload, 1) := by decide +kernel
theorem dL_law_2557 : decode cL_law 2557 = .ok (.aload_n 0, 1) := by decide +kernel
theorem dL_law_2558 : decode cL_law 2558 = .ok (.iload 5, 2) := by decide +kernel
theorem dL_law_2560 : decode cL_law 2560 = .ok (.iconst 3, 1) := by decide +kernel
theorem dL_law_2561 : decode cL_law 2561 = .ok (.iadd, 1) := by decide +kernel
theorem dL_law_2562 : decode cL_law 2562 = .ok (.iaload, 1) := by decide +kernel
theorem dL_law_2563 : decode cL_law 2563 = .ok (.invokevirtual 268, 3) := by decide +kernel
theorem dL_law_2566 : decode cL_law 2566 = .ok (.istore 7, 2) := by decide +kernel
theorem dL_law_2568 : decode cL_law 2568 = .ok (.aload_n 2, 1) := by decide +kernel
theorem dL_law_2569 : decode cL_law 2569 = .ok (.invokevirtual 163, 3) := by decide +kernel
theorem dL_law_2572 : decode cL_law 2572 = .ok (.iload 6, 2) := by decide +kernel
theorem dL_law_2574 : decode cL_law 2574 = .ok (.if_icmp .eq 5, 3) := by decide +kernel
theorem dL_law_2577 : decode cL_law 2577 = .ok (.iconst 0, 1) := by decide +kernel
theorem dL_law_2578 : decode cL_law 2578 = .ok (.ireturn, 1) := by decide +kernel
theorem dL_law_2579 : decode cL_law 2579 = .ok (.iload 6, 2) := by decide +kernel
theorem dL_law_2581 : decode cL_law 2581 = .ok (.ifCond .ne 15, 3) := by decide +kernel
theorem dL_law_2584 : decode cL_law 2584 = .ok (.aload_n 3, 1) := by decide +kernel
theorem dL_law_2585 : decode cL_law 2585 = .ok (.iconst 0, 1) := by decide +kernel
theorem dL_law_2586 : decode cL_law 2586 = .ok (.laload, 1) := by decide +kernel
theorem dL_law_2587 : decode cL_law 2587 = .ok (.iload 7, 2) := by decide +kernel
theorem dL_law_2589 : decode cL_law 2589 = .ok (.i2l, 1) := by decide +kernel
theorem dL_law_2590 : decode cL_law 2590 = .ok (.lcmp, 1) := by decide +kernel
theorem dL_law_2591 : decode cL_law 2591 = .ok (.ifCond .eq 5, 3) := by decide +kernel
theorem dL_law_2594 : decode cL_law 2594 = .ok (.iconst 0, 1) := by decide +kernel
theorem dL_law_2595 : decode cL_law 2595 = .ok (.ireturn, 1) := by decide +kernel
theorem dL_law_2596 : decode cL_law 2596 = .ok (.goto 534, 3) := by decide +kernel
theorem dL_law_2599 : decode cL_law 2599 = .ok (.aload_n 1, 1) := by decide +kernel
theorem dL_law_2600 : decode cL_law 2600 = .ok (.aload_n 0, 1) := by decide +kernel
theorem dL_law_2601 : decode cL_law 2601 = .ok (.iload 5, 2) := by decide +kernel
theorem dL_law_2603 : decode cL_law 2603 = .ok (.iconst 1, 1) := by decide +kernel
theorem dL_law_2604 : decode cL_law 2604 = .ok (.iadd, 1) := by decide +kernel
theorem dL_law_2605 : decode cL_law 2605 = .ok (.iaload, 1) := by decide +kernel
theorem dL_law_2606 : decode cL_law 2606 = .ok (.aload_n 0, 1) := by decide +kernel
theorem dL_law_2607 : decode cL_law 2607 = .ok (.iload 5, 2) := by decide +kernel
theorem dL_law_2609 : decode cL_law 2609 = .ok (.iconst 2, 1) := by decide +kernel
theorem dL_law_2610 : decode cL_law 2610 = .ok (.iadd, 1) := by decide +kernel
theorem dL_law_2611 : decode cL_law 2611 = .ok (.iaload, 1) := by decide +kernel
theorem dL_law_2612 : decode cL_law 2612 = .ok (.aload_n 0, 1) := by decide +kernel
theorem dL_law_2613 : decode cL_law 2613 = .ok (.iload 5, 2) := by decide +kernel
theorem dL_law_2615 : decode cL_law 2615 = .ok (.iconst 3, 1) := by decide +kernel
theorem dL_law_2616 : decode cL_law 2616 = .ok (.iadd, 1) := by decide +kernel
theorem dL_law_2617 : decode cL_law 2617 = .ok (.iaload, 1) := by decide +kernel
theorem dL_law_2618 : decode cL_law 2618 = .ok (.aload_n 3, 1) := by decide +kernel
theorem dL_law_2619 : decode cL_law 2619 = .ok (.invokestatic 269, 3) := by decide +kernel
theorem dL_law_2622 : decode cL_law 2622 = .ok (.istore 6, 2) := by decide +kernel
theorem dL_law_2624 : decode cL_law 2624 = .ok (.aload_n 2, 1) := by decide +kernel
theorem dL_law_2625 : decode cL_law 2625 = .ok (.aload_n 0, 1) := by decide +kernel
theorem dL_law_2626 : decode cL_law 2626 = .ok (.iload 5, 2) := by decide +kernel
theorem dL_law_2628 : decode cL_law 2628 = .ok (.iconst 1, 1) := by decide +kernel
theorem dL_law_2629 : decode cL_law 2629 = .ok (.iadd, 1) := by decide +kernel
theorem dL_law_2630 : decode cL_law 2630 = .ok (.iaload, 1) := by decide +kernel
theorem dL_law_2631 : decode cL_law 2631 = .ok (.aload_n 0, 1) := by decide +kernel
theorem dL_law_2632 : decode cL_law 2632 = .ok (.iload 5, 2) := by decide +kernel
theorem dL_law_2634 : decode cL_law 2634 = .ok (.iconst 2, 1) := by decide +kernel
theorem dL_law_2635 : decode cL_law 2635 = .ok (.iadd, 1) := by decide +kernel
theorem dL_law_2636 : decode cL_law 2636 = .ok (.iaload, 1) := by decide +kernel
theorem dL_law_2637 : decode cL_law 2637 = .ok (.aload_n 0, 1) := by decide +kernel
theorem dL_law_2638 : decode cL_law 2638 = .ok (.iload 5, 2) := by decide +kernel
theorem dL_law_2640 : decode cL_law 2640 = .ok (.iconst 3, 1) := by decide +kernel
theorem dL_law_2641 : decode cL_law 2641 = .ok (.iadd, 1) := by decide +kernel
theorem dL_law_2642 : decode cL_law 2642 = .ok (.iaload, 1) := by decide +kernel
theorem dL_law_2643 : decode cL_law 2643 = .ok (.invokevirtual 271, 3) := by decide +kernel
theorem dL_law_2646 : decode cL_law 2646 = .ok (.istore 7, 2) := by decide +kernel
theorem dL_law_2648 : decode cL_law 2648 = .ok (.aload_n 2, 1) := by decide +kernel
theorem dL_law_2649 : decode cL_law 2649 = .ok (.invokevirtual 163, 3) := by decide +kernel
theorem dL_law_2652 : decode cL_law 2652 = .ok (.iload 6, 2) := by decide +kernel
theorem dL_law_2654 : decode cL_law 2654 = .ok (.if_icmp .eq 5, 3) := by decide +kernel
theorem dL_law_2657 : decode cL_law 2657 = .ok (.iconst 0, 1) := by decide +kernel
theorem dL_law_2658 : decode cL_law 2658 = .ok (.ireturn, 1) := by decide +kernel
theorem dL_law_2659 : decode cL_law 2659 = .ok (.iload 6, 2) := by decide +kernel
theorem dL_law_2661 : decode cL_law 2661 = .ok (.ifCond .ne 15, 3) := by decide +kernel
theorem dL_law_2664 : decode cL_law 2664 = .ok (.aload_n 3, 1) := by decide +kernel
theorem dL_law_2665 : decode cL_law 2665 = .ok (.iconst 0, 1) := by decide +kernel
theorem dL_law_2666 : decode cL_law 2666 = .ok (.laload, 1) := by decide +kernel
theorem dL_law_2667 : decode cL_law 2667 = .ok (.iload 7, 2) := by decide +kernel
theorem dL_law_2669 : decode cL_law 2669 = .ok (.i2l, 1) := by decide +kernel
theorem dL_law_2670 : decode cL_law 2670 = .ok (.lcmp, 1) := by decide +kernel
theorem dL_law_2671 : decode cL_law 2671 = .ok (.ifCond .eq 5, 3) := by decide +kernel
theorem dL_law_2674 : decode cL_law 2674 = .ok (.iconst 0, 1) := by decide +kernel
theorem dL_law_2675 : decode cL_law 2675 = .ok (.ireturn, 1) := by decide +kernel
theorem dL_law_2676 : decode cL_law 2676 = .ok (.goto 454, 3) := by decide +kernel
theorem dL_law_2679 : decode cL_law 2679 = .ok (.aload_n 1, 1) := by decide +kernel
theorem dL_law_2680 : decode cL_law 2680 = .ok (.aload_n 0, 1) := by decide +kernel
theorem dL_law_2681 : decode cL_law 2681 = .ok (.iload 5, 2) := by decide +kernel
theorem dL_law_2683 : decode cL_law 2683 = .ok (.iconst 1, 1) := by decide +kernel
theorem dL_law_2684 : decode cL_law 2684 = .ok (.iadd, 1) := by decide +kernel
theorem dL_law_2685 : decode cL_law 2685 = .ok (.iaload, 1) := by decide +kernel
theorem dL_law_2686 : decode cL_law 2686 = .ok (.aload_n 0, 1) := by decide +kernel
theorem dL_law_2687 : decode cL_law 2687 = .ok (.iload 5, 2) := by decide +kernel
theorem dL_law_2689 : decode cL_law 2689 = .ok (.iconst 2, 1) := by decide +kernel
theorem dL_law_2690 : decode cL_law 2690 = .ok (.iadd, 1) := by decide +kernel
theorem dL_law_2691 : decode cL_law 2691 = .ok (.iaload, 1) := by decide +kernel
theorem dL_law_2692 : decode cL_law 2692 = .ok (.aload_n 3, 1) := by decide +kernel
theorem dL_law_2693 : decode cL_law 2693 = .ok (.invokestatic 272, 3) := by decide +kernel
theorem dL_law_2696 : decode cL_law 2696 = .ok (.istore 6, 2) := by decide +kernel
theorem dL_law_2698 : decode cL_law 2698 = .ok (.aload_n 2, 1) := by decide +kernel
theorem dL_law_2699 : decode cL_law 2699 = .ok (.aload_n 0, 1) := by decide +kernel
theorem dL_law_2700 : decode cL_law 2700 = .ok (.iload 5, 2) := by decide +kernel
theorem dL_law_2702 : decode cL_law 2702 = .ok (.iconst 1, 1) := by decide +kernel
theorem dL_law_2703 : decode cL_law 2703 = .ok (.iadd, 1) := by decide +kernel
theorem dL_law_2704 : decode cL_law 2704 = .ok (.iaload, 1) := by decide +kernel
theorem dL_law_2705 : decode cL_law 2705 = .ok (.aload_n 0, 1) := by decide +kernel
theorem dL_law_2706 : decode cL_law 2706 = .ok (.iload 5, 2) := by decide +kernel
theorem dL_law_2708 : decode cL_law 2708 = .ok (.iconst 2, 1) := by decide +kernel
theorem dL_law_2709 : decode cL_law 2709 = .ok (.iadd, 1) := by decide +kernel
theorem dL_law_2710 : decode cL_law 2710 = .ok (.iaload, 1) := by decide +kernel
theorem dL_law_2711 : decode cL_law 2711 = .ok (.invokevirtual 274, 3) := by decide +kernel
theorem dL_law_2714 : decode cL_law 2714 = .ok (.istore 7, 2) := by decide +kernel
theorem dL_law_2716 : decode cL_law 2716 = .ok (.aload_n 2, 1) := by decide +kernel
theorem dL_law_2717 : decode cL_law 2717 = .ok (.invokevirtual 163, 3) := by decide +kernel
theorem dL_law_2720 : decode cL_law 2720 = .ok (.iload 6, 2) := by decide +kernel
theorem dL_law_2722 : decode cL_law 2722 = .ok (.if_icmp .eq 5, 3) := by decide +kernel
theorem dL_law_2725 : decode cL_law 2725 = .ok (.iconst 0, 1) := by decide +kernel
theorem dL_law_2726 : decode cL_law 2726 = .ok (.ireturn, 1) := by decide +kernel
theorem dL_law_2727 : decode cL_law 2727 = .ok (.iload 6, 2) := by decide +kernel
theorem dL_law_2729 : decode cL_law 2729 = .ok (.ifCond .ne 15, 3) := by decide +kernel
theorem dL_law_2732 : decode cL_law 2732 = .ok (.aload_n 3, 1) := by decide +kernel
theorem dL_law_2733 : decode cL_law 2733 = .ok (.iconst 0, 1) := by decide +kernel
theorem dL_law_2734 : decode cL_law 2734 = .ok (.laload, 1) := by decide +kernel
theorem dL_law_2735 : decode cL_law 2735 = .ok (.iload 7, 2) := by decide +kernel
theorem dL_law_2737 : decode cL_law 2737 = .ok (.i2l, 1) := by decide +kernel
theorem dL_law_2738 : decode cL_law 2738 = .ok (.lcmp, 1) := by decide +kernel
theorem dL_law_2739 : decode cL_law 2739 = .ok (.ifCond .eq 5, 3) := by decide +kernel
theorem dL_law_2742 : decode cL_law 2742 = .ok (.iconst 0, 1) := by decide +kernel
theorem dL_law_2743 : decode cL_law 2743 = .ok (.ireturn, 1) := by decide +kernel
theorem dL_law_2744 : decode cL_law 2744 = .ok (.goto 386, 3) := by decide +kernel
theorem dL_law_2747 : decode cL_law 2747 = .ok (.aload_n 1, 1) := by decide +kernel
theorem dL_law_2748 : decode cL_law 2748 = .ok (.aload_n 0, 1) := by decide +kernel
theorem dL_law_2749 : decode cL_law 2749 = .ok (.iload 5, 2) := by decide +kernel
theorem dL_law_2751 : decode cL_law 2751 = .ok (.iconst 1, 1) := by decide +kernel
theorem dL_law_2752 : decode cL_law 2752 = .ok (.iadd, 1) := by decide +kernel
theorem dL_law_2753 : decode cL_law 2753 = .ok (.iaload, 1) := by decide +kernel
theorem dL_law_2754 : decode cL_law 2754 = .ok (.aload_n 0, 1) := by decide +kernel
theorem dL_law_2755 : decode cL_law 2755 = .ok (.iload 5, 2) := by decide +kernel
theorem dL_law_2757 : decode cL_law 2757 = .ok (.iconst 2, 1) := by decide +kernel
theorem dL_law_2758 : decode cL_law 2758 = .ok (.iadd, 1) := by decide +kernel
theorem dL_law_2759 : decode cL_law 2759 = .ok (.iaload, 1) := by decide +kernel
theorem dL_law_2760 : decode cL_law 2760 = .ok (.aload_n 0, 1) := by decide +kernel
theorem dL_law_2761 : decode cL_law 2761 = .ok (.iload 5, 2) := by decide +kernel
theorem dL_law_2763 : decode cL_law 2763 = .ok (.iconst 3, 1) := by decide +kernel
theorem dL_law_2764 : decode cL_law 2764 = .ok (.iadd, 1) := by decide +kernel
theorem dL_law_2765 : decode cL_law 2765 = .ok (.iaload, 1) := by decide +kernel
theorem dL_law_2766 : decode cL_law 2766 = .ok (.aload_n 3, 1) := by decide +kernel
theorem dL_law_2767 : decode cL_law 2767 = .ok (.invokestatic 275, 3) := by decide +kernel
theorem dL_law_2770 : decode cL_law 2770 = .ok (.istore 6, 2) := by decide +kernel
theorem dL_law_2772 : decode cL_law 2772 = .ok (.aload_n 2, 1) := by decide +kernel
theorem dL_law_2773 : decode cL_law 2773 = .ok (.aload_n 0, 1) := by decide +kernel
theorem dL_law_2774 : decode cL_law 2774 = .ok (.iload 5, 2) := by decide +kernel
theorem dL_law_2776 : decode cL_law 2776 = .ok (.iconst 1, 1) := by decide +kernel
theorem dL_law_2777 : decode cL_law 2777 = .ok (.iadd, 1) := by decide +kernel
theorem dL_law_2778 : decode cL_law 2778 = .ok (.iaload, 1) := by decide +kernel
theorem dL_law_2779 : decode cL_law 2779 = .ok (.aload_n 0, 1) := by decide +kernel
theorem dL_law_2780 : decode cL_law 2780 = .ok (.iload 5, 2) := by decide +kernel
theorem dL_law_2782 : decode cL_law 2782 = .ok (.iconst 2, 1) := by decide +kernel
theorem dL_law_2783 : decode cL_law 2783 = .ok (.iadd, 1) := by decide +kernel
theorem dL_law_2784 : decode cL_law 2784 = .ok (.iaload, 1) := by decide +kernel
theorem dL_law_2785 : decode cL_law 2785 = .ok (.aload_n 0, 1) := by decide +kernel
theorem dL_law_2786 : decode cL_law 2786 = .ok (.iload 5, 2) := by decide +kernel
theorem dL_law_2788 : decode cL_law 2788 = .ok (.iconst 3, 1) := by decide +kernel
theorem dL_law_2789 : decode cL_law 2789 = .ok (.iadd, 1) := by decide +kernel
theorem dL_law_2790 : decode cL_law 2790 = .ok (.iaload, 1) := by decide +kernel
theorem dL_law_2791 : decode cL_law 2791 = .ok (.invokevirtual 277, 3) := by decide +kernel
theorem dL_law_2794 : decode cL_law 2794 = .ok (.istore 7, 2) := by decide +kernel
theorem dL_law_2796 : decode cL_law 2796 = .ok (.aload_n 2, 1) := by decide +kernel
theorem dL_law_2797 : decode cL_law 2797 = .ok (.invokevirtual 163, 3) := by decide +kernel
theorem dL_law_2800 : decode cL_law 2800 = .ok (.iload 6, 2) := by decide +kernel
theorem dL_law_2802 : decode cL_law 2802 = .ok (.if_icmp .eq 5, 3) := by decide +kernel
theorem dL_law_2805 : decode cL_law 2805 = .ok (.iconst 0, 1) := by decide +kernel
theorem dL_law_2806 : decode cL_law 2806 = .ok (.ireturn, 1) := by decide +kernel
theorem dL_law_2807 : decode cL_law 2807 = .ok (.iload 6, 2) := by decide +kernel
theorem dL_law_2809 : decode cL_law 2809 = .ok (.ifCond .ne 15, 3) := by decide +kernel
theorem dL_law_2812 : decode cL_law 2812 = .ok (.aload_n 3, 1) := by decide +kernel
theorem dL_law_2813 : decode cL_law 2813 = .ok (.iconst 0, 1) := by decide +kernel
theorem dL_law_2814 : decode cL_law 2814 = .ok (.laload, 1) := by decide +kernel
theorem dL_law_2815 : decode cL_law 2815 = .ok (.iload 7, 2) := by decide +kernel
theorem dL_law_2817 : decode cL_law 2817 = .ok (.i2l, 1) := by decide +kernel
theorem dL_law_2818 : decode cL_law 2818 = .ok (.lcmp, 1) := by decide +kernel
theorem dL_law_2819 : decode cL_law 2819 = .ok (.ifCond .eq 5, 3) := by decide +kernel
theorem dL_law_2822 : decode cL_law 2822 = .ok (.iconst 0, 1) := by decide +kernel
theorem dL_law_2823 : decode cL_law 2823 = .ok (.ireturn, 1) := by decide +kernel
theorem dL_law_2824 : decode cL_law 2824 = .ok (.goto 306, 3) := by decide +kernel
theorem dL_law_2827 : decode cL_law 2827 = .ok (.aload_n 1, 1) := by decide +kernel
theorem dL_law_2828 : decode cL_law 2828 = .ok (.aload_n 0, 1) := by decide +kernel
theorem dL_law_2829 : decode cL_law 2829 = .ok (.iload 5, 2) := by decide +kernel
theorem dL_law_2831 : decode cL_law 2831 = .ok (.iconst 1, 1) := by decide +kernel
