/-! the law's instructions -/
theorem dL_law__2641 : decode cL_law_ 2641 = .ok (.aload_n 3, 1) := by decide +kernel
theorem dL_law__2642 : decode cL_law_ 2642 = .ok (.invokestatic 250, 3) := by decide +kernel
theorem dL_law__2645 : decode cL_law_ 2645 = .ok (.istore 5, 2) := by decide +kernel
theorem dL_law__2647 : decode cL_law_ 2647 = .ok (.aload_n 2, 1) := by decide +kernel
theorem dL_law__2648 : decode cL_law_ 2648 = .ok (.aload_n 0, 1) := by decide +kernel
theorem dL_law__2649 : decode cL_law_ 2649 = .ok (.iload 4, 2) := by decide +kernel
theorem dL_law__2651 : decode cL_law_ 2651 = .ok (.iconst 1, 1) := by decide +kernel
theorem dL_law__2652 : decode cL_law_ 2652 = .ok (.iadd, 1) := by decide +kernel
theorem dL_law__2653 : decode cL_law_ 2653 = .ok (.iaload, 1) := by decide +kernel
theorem dL_law__2654 : decode cL_law_ 2654 = .ok (.i2l, 1) := by decide +kernel
theorem dL_law__2655 : decode cL_law_ 2655 = .ok (.bipush 32, 2) := by decide +kernel
theorem dL_law__2657 : decode cL_law_ 2657 = .ok (.lshl, 1) := by decide +kernel
theorem dL_law__2658 : decode cL_law_ 2658 = .ok (.aload_n 0, 1) := by decide +kernel
theorem dL_law__2659 : decode cL_law_ 2659 = .ok (.iload 4, 2) := by decide +kernel
theorem dL_law__2661 : decode cL_law_ 2661 = .ok (.iconst 2, 1) := by decide +kernel
theorem dL_law__2662 : decode cL_law_ 2662 = .ok (.iadd, 1) := by decide +kernel
theorem dL_law__2663 : decode cL_law_ 2663 = .ok (.iaload, 1) := by decide +kernel
theorem dL_law__2664 : decode cL_law_ 2664 = .ok (.i2l, 1) := by decide +kernel
theorem dL_law__2665 : decode cL_law_ 2665 = .ok (.ldc2_w 178, 3) := by decide +kernel
theorem dL_law__2668 : decode cL_law_ 2668 = .ok (.land, 1) := by decide +kernel
theorem dL_law__2669 : decode cL_law_ 2669 = .ok (.lor, 1) := by decide +kernel
theorem dL_law__2670 : decode cL_law_ 2670 = .ok (.invokevirtual 253, 3) := by decide +kernel
theorem dL_law__2673 : decode cL_law_ 2673 = .ok (.istore 6, 2) := by decide +kernel
theorem dL_law__2675 : decode cL_law_ 2675 = .ok (.aload_n 2, 1) := by decide +kernel
theorem dL_law__2676 : decode cL_law_ 2676 = .ok (.invokevirtual 157, 3) := by decide +kernel
theorem dL_law__2679 : decode cL_law_ 2679 = .ok (.iload 5, 2) := by decide +kernel
theorem dL_law__2681 : decode cL_law_ 2681 = .ok (.if_icmp .eq 5, 3) := by decide +kernel
theorem dL_law__2684 : decode cL_law_ 2684 = .ok (.iconst 0, 1) := by decide +kernel
theorem dL_law__2685 : decode cL_law_ 2685 = .ok (.ireturn, 1) := by decide +kernel
theorem dL_law__2686 : decode cL_law_ 2686 = .ok (.iload 5, 2) := by decide +kernel
theorem dL_law__2688 : decode cL_law_ 2688 = .ok (.ifCond .ne 15, 3) := by decide +kernel
theorem dL_law__2691 : decode cL_law_ 2691 = .ok (.aload_n 3, 1) := by decide +kernel
theorem dL_law__2692 : decode cL_law_ 2692 = .ok (.iconst 0, 1) := by decide +kernel
theorem dL_law__2693 : decode cL_law_ 2693 = .ok (.laload, 1) := by decide +kernel
theorem dL_law__2694 : decode cL_law_ 2694 = .ok (.iload 6, 2) := by decide +kernel
theorem dL_law__2696 : decode cL_law_ 2696 = .ok (.i2l, 1) := by decide +kernel
theorem dL_law__2697 : decode cL_law_ 2697 = .ok (.lcmp, 1) := by decide +kernel
theorem dL_law__2698 : decode cL_law_ 2698 = .ok (.ifCond .eq 5, 3) := by decide +kernel
theorem dL_law__2701 : decode cL_law_ 2701 = .ok (.iconst 0, 1) := by decide +kernel
theorem dL_law__2702 : decode cL_law_ 2702 = .ok (.ireturn, 1) := by decide +kernel
theorem dL_law__2703 : decode cL_law_ 2703 = .ok (.goto 632, 3) := by decide +kernel
theorem dL_law__2706 : decode cL_law_ 2706 = .ok (.aload_n 1, 1) := by decide +kernel
theorem dL_law__2707 : decode cL_law_ 2707 = .ok (.aload_n 0, 1) := by decide +kernel
theorem dL_law__2708 : decode cL_law_ 2708 = .ok (.iload 4, 2) := by decide +kernel
theorem dL_law__2710 : decode cL_law_ 2710 = .ok (.iconst 1, 1) := by decide +kernel
theorem dL_law__2711 : decode cL_law_ 2711 = .ok (.iadd, 1) := by decide +kernel
theorem dL_law__2712 : decode cL_law_ 2712 = .ok (.iaload, 1) := by decide +kernel
theorem dL_law__2713 : decode cL_law_ 2713 = .ok (.aload_n 3, 1) := by decide +kernel
theorem dL_law__2714 : decode cL_law_ 2714 = .ok (.invokestatic 254, 3) := by decide +kernel
theorem dL_law__2717 : decode cL_law_ 2717 = .ok (.istore 5, 2) := by decide +kernel
theorem dL_law__2719 : decode cL_law_ 2719 = .ok (.aload_n 2, 1) := by decide +kernel
theorem dL_law__2720 : decode cL_law_ 2720 = .ok (.aload_n 0, 1) := by decide +kernel
theorem dL_law__2721 : decode cL_law_ 2721 = .ok (.iload 4, 2) := by decide +kernel
theorem dL_law__2723 : decode cL_law_ 2723 = .ok (.iconst 1, 1) := by decide +kernel
theorem dL_law__2724 : decode cL_law_ 2724 = .ok (.iadd, 1) := by decide +kernel
theorem dL_law__2725 : decode cL_law_ 2725 = .ok (.iaload, 1) := by decide +kernel
theorem dL_law__2726 : decode cL_law_ 2726 = .ok (.invokevirtual 256, 3) := by decide +kernel
theorem dL_law__2729 : decode cL_law_ 2729 = .ok (.istore 6, 2) := by decide +kernel
theorem dL_law__2731 : decode cL_law_ 2731 = .ok (.aload_n 2, 1) := by decide +kernel
theorem dL_law__2732 : decode cL_law_ 2732 = .ok (.invokevirtual 157, 3) := by decide +kernel
theorem dL_law__2735 : decode cL_law_ 2735 = .ok (.iload 5, 2) := by decide +kernel
theorem dL_law__2737 : decode cL_law_ 2737 = .ok (.if_icmp .eq 5, 3) := by decide +kernel
theorem dL_law__2740 : decode cL_law_ 2740 = .ok (.iconst 0, 1) := by decide +kernel
theorem dL_law__2741 : decode cL_law_ 2741 = .ok (.ireturn, 1) := by decide +kernel
theorem dL_law__2742 : decode cL_law_ 2742 = .ok (.iload 5, 2) := by decide +kernel
theorem dL_law__2744 : decode cL_law_ 2744 = .ok (.ifCond .ne 15, 3) := by decide +kernel
theorem dL_law__2747 : decode cL_law_ 2747 = .ok (.aload_n 3, 1) := by decide +kernel
theorem dL_law__2748 : decode cL_law_ 2748 = .ok (.iconst 0, 1) := by decide +kernel
theorem dL_law__2749 : decode cL_law_ 2749 = .ok (.laload, 1) := by decide +kernel
theorem dL_law__2750 : decode cL_law_ 2750 = .ok (.iload 6, 2) := by decide +kernel
theorem dL_law__2752 : decode cL_law_ 2752 = .ok (.i2l, 1) := by decide +kernel
theorem dL_law__2753 : decode cL_law_ 2753 = .ok (.lcmp, 1) := by decide +kernel
theorem dL_law__2754 : decode cL_law_ 2754 = .ok (.ifCond .eq 5, 3) := by decide +kernel
theorem dL_law__2757 : decode cL_law_ 2757 = .ok (.iconst 0, 1) := by decide +kernel
theorem dL_law__2758 : decode cL_law_ 2758 = .ok (.ireturn, 1) := by decide +kernel
theorem dL_law__2759 : decode cL_law_ 2759 = .ok (.goto 576, 3) := by decide +kernel
theorem dL_law__2762 : decode cL_law_ 2762 = .ok (.aload_n 1, 1) := by decide +kernel
theorem dL_law__2763 : decode cL_law_ 2763 = .ok (.invokevirtual 257, 3) := by decide +kernel
theorem dL_law__2766 : decode cL_law_ 2766 = .ok (.aload_n 2, 1) := by decide +kernel
theorem dL_law__2767 : decode cL_law_ 2767 = .ok (.invokevirtual 261, 3) := by decide +kernel
theorem dL_law__2770 : decode cL_law_ 2770 = .ok (.lcmp, 1) := by decide +kernel
theorem dL_law__2771 : decode cL_law_ 2771 = .ok (.ifCond .eq 564, 3) := by decide +kernel
theorem dL_law__2774 : decode cL_law_ 2774 = .ok (.iconst 0, 1) := by decide +kernel
theorem dL_law__2775 : decode cL_law_ 2775 = .ok (.ireturn, 1) := by decide +kernel
theorem dL_law__2776 : decode cL_law_ 2776 = .ok (.aload_n 1, 1) := by decide +kernel
theorem dL_law__2777 : decode cL_law_ 2777 = .ok (.aload_n 0, 1) := by decide +kernel
theorem dL_law__2778 : decode cL_law_ 2778 = .ok (.iload 4, 2) := by decide +kernel
theorem dL_law__2780 : decode cL_law_ 2780 = .ok (.iconst 1, 1) := by decide +kernel
theorem dL_law__2781 : decode cL_law_ 2781 = .ok (.iadd, 1) := by decide +kernel
theorem dL_law__2782 : decode cL_law_ 2782 = .ok (.iaload, 1) := by decide +kernel
theorem dL_law__2783 : decode cL_law_ 2783 = .ok (.aload_n 0, 1) := by decide +kernel
theorem dL_law__2784 : decode cL_law_ 2784 = .ok (.iload 4, 2) := by decide +kernel
theorem dL_law__2786 : decode cL_law_ 2786 = .ok (.iconst 2, 1) := by decide +kernel
theorem dL_law__2787 : decode cL_law_ 2787 = .ok (.iadd, 1) := by decide +kernel
theorem dL_law__2788 : decode cL_law_ 2788 = .ok (.iaload, 1) := by decide +kernel
theorem dL_law__2789 : decode cL_law_ 2789 = .ok (.aload_n 3, 1) := by decide +kernel
theorem dL_law__2790 : decode cL_law_ 2790 = .ok (.invokestatic 262, 3) := by decide +kernel
theorem dL_law__2793 : decode cL_law_ 2793 = .ok (.istore 5, 2) := by decide +kernel
theorem dL_law__2795 : decode cL_law_ 2795 = .ok (.aload_n 2, 1) := by decide +kernel
theorem dL_law__2796 : decode cL_law_ 2796 = .ok (.aload_n 0, 1) := by decide +kernel
theorem dL_law__2797 : decode cL_law_ 2797 = .ok (.iload 4, 2) := by decide +kernel
theorem dL_law__2799 : decode cL_law_ 2799 = .ok (.iconst 1, 1) := by decide +kernel
theorem dL_law__2800 : decode cL_law_ 2800 = .ok (.iadd, 1) := by decide +kernel
theorem dL_law__2801 : decode cL_law_ 2801 = .ok (.iaload, 1) := by decide +kernel
theorem dL_law__2802 : decode cL_law_ 2802 = .ok (.aload_n 0, 1) := by decide +kernel
theorem dL_law__2803 : decode cL_law_ 2803 = .ok (.iload 4, 2) := by decide +kernel
theorem dL_law__2805 : decode cL_law_ 2805 = .ok (.iconst 2, 1) := by decide +kernel
theorem dL_law__2806 : decode cL_law_ 2806 = .ok (.iadd, 1) := by decide +kernel
theorem dL_law__2807 : decode cL_law_ 2807 = .ok (.iaload, 1) := by decide +kernel
theorem dL_law__2808 : decode cL_law_ 2808 = .ok (.invokevirtual 264, 3) := by decide +kernel
theorem dL_law__2811 : decode cL_law_ 2811 = .ok (.lstore 6, 2) := by decide +kernel
theorem dL_law__2813 : decode cL_law_ 2813 = .ok (.aload_n 2, 1) := by decide +kernel
theorem dL_law__2814 : decode cL_law_ 2814 = .ok (.invokevirtual 157, 3) := by decide +kernel
theorem dL_law__2817 : decode cL_law_ 2817 = .ok (.iload 5, 2) := by decide +kernel
theorem dL_law__2819 : decode cL_law_ 2819 = .ok (.if_icmp .eq 5, 3) := by decide +kernel
theorem dL_law__2822 : decode cL_law_ 2822 = .ok (.iconst 0, 1) := by decide +kernel
theorem dL_law__2823 : decode cL_law_ 2823 = .ok (.ireturn, 1) := by decide +kernel
theorem dL_law__2824 : decode cL_law_ 2824 = .ok (.iload 5, 2) := by decide +kernel
theorem dL_law__2826 : decode cL_law_ 2826 = .ok (.ifCond .ne 14, 3) := by decide +kernel
theorem dL_law__2829 : decode cL_law_ 2829 = .ok (.aload_n 3, 1) := by decide +kernel
theorem dL_law__2830 : decode cL_law_ 2830 = .ok (.iconst 0, 1) := by decide +kernel
theorem dL_law__2831 : decode cL_law_ 2831 = .ok (.laload, 1) := by decide +kernel
theorem dL_law__2832 : decode cL_law_ 2832 = .ok (.lload 6, 2) := by decide +kernel
theorem dL_law__2834 : decode cL_law_ 2834 = .ok (.lcmp, 1) := by decide +kernel
theorem dL_law__2835 : decode cL_law_ 2835 = .ok (.ifCond .eq 5, 3) := by decide +kernel
theorem dL_law__2838 : decode cL_law_ 2838 = .ok (.iconst 0, 1) := by decide +kernel
theorem dL_law__2839 : decode cL_law_ 2839 = .ok (.ireturn, 1) := by decide +kernel
theorem dL_law__2840 : decode cL_law_ 2840 = .ok (.goto 495, 3) := by decide +kernel
theorem dL_law__2843 : decode cL_law_ 2843 = .ok (.aload_n 1, 1) := by decide +kernel
theorem dL_law__2844 : decode cL_law_ 2844 = .ok (.aload_n 0, 1) := by decide +kernel
theorem dL_law__2845 : decode cL_law_ 2845 = .ok (.iload 4, 2) := by decide +kernel
theorem dL_law__2847 : decode cL_law_ 2847 = .ok (.iconst 1, 1) := by decide +kernel
theorem dL_law__2848 : decode cL_law_ 2848 = .ok (.iadd, 1) := by decide +kernel
theorem dL_law__2849 : decode cL_law_ 2849 = .ok (.iaload, 1) := by decide +kernel
theorem dL_law__2850 : decode cL_law_ 2850 = .ok (.invokevirtual 265, 3) := by decide +kernel
theorem dL_law__2853 : decode cL_law_ 2853 = .ok (.aload_n 2, 1) := by decide +kernel
theorem dL_law__2854 : decode cL_law_ 2854 = .ok (.aload_n 0, 1) := by decide +kernel
theorem dL_law__2855 : decode cL_law_ 2855 = .ok (.iload 4, 2) := by decide +kernel
theorem dL_law__2857 : decode cL_law_ 2857 = .ok (.iconst 1, 1) := by decide +kernel
theorem dL_law__2858 : decode cL_law_ 2858 = .ok (.iadd, 1) := by decide +kernel
theorem dL_law__2859 : decode cL_law_ 2859 = .ok (.iaload, 1) := by decide +kernel
theorem dL_law__2860 : decode cL_law_ 2860 = .ok (.invokevirtual 268, 3) := by decide +kernel
theorem dL_law__2863 : decode cL_law_ 2863 = .ok (.if_icmp .eq 472, 3) := by decide +kernel
theorem dL_law__2866 : decode cL_law_ 2866 = .ok (.iconst 0, 1) := by decide +kernel
theorem dL_law__2867 : decode cL_law_ 2867 = .ok (.ireturn, 1) := by decide +kernel
theorem dL_law__2868 : decode cL_law_ 2868 = .ok (.aload_n 1, 1) := by decide +kernel
theorem dL_law__2869 : decode cL_law_ 2869 = .ok (.aload_n 0, 1) := by decide +kernel
theorem dL_law__2870 : decode cL_law_ 2870 = .ok (.iload 4, 2) := by decide +kernel
theorem dL_law__2872 : decode cL_law_ 2872 = .ok (.iconst 1, 1) := by decide +kernel
theorem dL_law__2873 : decode cL_law_ 2873 = .ok (.iadd, 1) := by decide +kernel
