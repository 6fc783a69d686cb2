theorem dL_law_2673 : decode cL_law 2673 = .ok (.ireturn, 1) := by decide +kernel
theorem dL_law_2674 : decode cL_law 2674 = .ok (.iload 6, 2) := by decide +kernel
theorem dL_law_2676 : decode cL_law 2676 = .ok (.ifCond .ne 15, 3) := by decide +kernel
theorem dL_law_2679 : decode cL_law 2679 = .ok (.aload_n 3, 1) := by decide +kernel
theorem dL_law_2680 : decode cL_law 2680 = .ok (.iconst 0, 1) := by decide +kernel
theorem dL_law_2681 : decode cL_law 2681 = .ok (.laload, 1) := by decide +kernel
theorem dL_law_2682 : decode cL_law 2682 = .ok (.iload 7, 2) := by decide +kernel
theorem dL_law_2684 : decode cL_law 2684 = .ok (.i2l, 1) := by decide +kernel
theorem dL_law_2685 : decode cL_law 2685 = .ok (.lcmp, 1) := by decide +kernel
theorem dL_law_2686 : decode cL_law 2686 = .ok (.ifCond .eq 5, 3) := by decide +kernel
theorem dL_law_2689 : decode cL_law 2689 = .ok (.iconst 0, 1) := by decide +kernel
theorem dL_law_2690 : decode cL_law 2690 = .ok (.ireturn, 1) := by decide +kernel
theorem dL_law_2691 : decode cL_law 2691 = .ok (.goto 904, 3) := by decide +kernel
theorem dL_law_2694 : decode cL_law 2694 = .ok (.aload_n 1, 1) := by decide +kernel
theorem dL_law_2695 : decode cL_law 2695 = .ok (.aload_n 0, 1) := by decide +kernel
theorem dL_law_2696 : decode cL_law 2696 = .ok (.iload 5, 2) := by decide +kernel
theorem dL_law_2698 : decode cL_law 2698 = .ok (.iconst 1, 1) := by decide +kernel
theorem dL_law_2699 : decode cL_law 2699 = .ok (.iadd, 1) := by decide +kernel
theorem dL_law_2700 : decode cL_law 2700 = .ok (.iaload, 1) := by decide +kernel
theorem dL_law_2701 : decode cL_law 2701 = .ok (.aload_n 0, 1) := by decide +kernel
theorem dL_law_2702 : decode cL_law 2702 = .ok (.iload 5, 2) := by decide +kernel
theorem dL_law_2704 : decode cL_law 2704 = .ok (.iconst 2, 1) := by decide +kernel
theorem dL_law_2705 : decode cL_law 2705 = .ok (.iadd, 1) := by decide +kernel
theorem dL_law_2706 : decode cL_law 2706 = .ok (.iaload, 1) := by decide +kernel
theorem dL_law_2707 : decode cL_law 2707 = .ok (.aload_n 3, 1) := by decide +kernel
theorem dL_law_2708 : decode cL_law 2708 = .ok (.invokestatic 292, 3) := by decide +kernel
theorem dL_law_2711 : decode cL_law 2711 = .ok (.istore 6, 2) := by decide +kernel
theorem dL_law_2713 : decode cL_law 2713 = .ok (.aload_n 2, 1) := by decide +kernel
theorem dL_law_2714 : decode cL_law 2714 = .ok (.aload_n 0, 1) := by decide +kernel
theorem dL_law_2715 : decode cL_law 2715 = .ok (.iload 5, 2) := by decide +kernel
theorem dL_law_2717 : decode cL_law 2717 = .ok (.iconst 1, 1) := by decide +kernel
theorem dL_law_2718 : decode cL_law 2718 = .ok (.iadd, 1) := by decide +kernel
theorem dL_law_2719 : decode cL_law 2719 = .ok (.iaload, 1) := by decide +kernel
theorem dL_law_2720 : decode cL_law 2720 = .ok (.aload_n 0, 1) := by decide +kernel
theorem dL_law_2721 : decode cL_law 2721 = .ok (.iload 5, 2) := by decide +kernel
theorem dL_law_2723 : decode cL_law 2723 = .ok (.iconst 2, 1) := by decide +kernel
theorem dL_law_2724 : decode cL_law 2724 = .ok (.iadd, 1) := by decide +kernel
theorem dL_law_2725 : decode cL_law 2725 = .ok (.iaload, 1) := by decide +kernel
theorem dL_law_2726 : decode cL_law 2726 = .ok (.invokevirtual 294, 3) := by decide +kernel
theorem dL_law_2729 : decode cL_law 2729 = .ok (.istore 7, 2) := by decide +kernel
theorem dL_law_2731 : decode cL_law 2731 = .ok (.aload_n 2, 1) := by decide +kernel
theorem dL_law_2732 : decode cL_law 2732 = .ok (.invokevirtual 170, 3) := by decide +kernel
theorem dL_law_2735 : decode cL_law 2735 = .ok (.iload 6, 2) := by decide +kernel
theorem dL_law_2737 : decode cL_law 2737 = .ok (.if_icmp .eq 5, 3) := by decide +kernel
theorem dL_law_2740 : decode cL_law 2740 = .ok (.iconst 0, 1) := by decide +kernel
theorem dL_law_2741 : decode cL_law 2741 = .ok (.ireturn, 1) := by decide +kernel
theorem dL_law_2742 : decode cL_law 2742 = .ok (.iload 6, 2) := by decide +kernel
theorem dL_law_2744 : decode cL_law 2744 = .ok (.ifCond .ne 15, 3) := by decide +kernel
theorem dL_law_2747 : decode cL_law 2747 = .ok (.aload_n 3, 1) := by decide +kernel
theorem dL_law_2748 : decode cL_law 2748 = .ok (.iconst 0, 1) := by decide +kernel
theorem dL_law_2749 : decode cL_law 2749 = .ok (.laload, 1) := by decide +kernel
theorem dL_law_2750 : decode cL_law 2750 = .ok (.iload 7, 2) := by decide +kernel
theorem dL_law_2752 : decode cL_law 2752 = .ok (.i2l, 1) := by decide +kernel
theorem dL_law_2753 : decode cL_law 2753 = .ok (.lcmp, 1) := by decide +kernel
theorem dL_law_2754 : decode cL_law 2754 = .ok (.ifCond .eq 5, 3) := by decide +kernel
theorem dL_law_2757 : decode cL_law 2757 = .ok (.iconst 0, 1) := by decide +kernel
theorem dL_law_2758 : decode cL_law 2758 = .ok (.ireturn, 1) := by decide +kernel
theorem dL_law_2759 : decode cL_law 2759 = .ok (.goto 836, 3) := by decide +kernel
theorem dL_law_2762 : decode cL_law 2762 = .ok (.aload_n 1, 1) := by decide +kernel
theorem dL_law_2763 : decode cL_law 2763 = .ok (.invokevirtual 295, 3) := by decide +kernel
theorem dL_law_2766 : decode cL_law 2766 = .ok (.aload_n 2, 1) := by decide +kernel
theorem dL_law_2767 : decode cL_law 2767 = .ok (.invokevirtual 298, 3) := by decide +kernel
theorem dL_law_2770 : decode cL_law 2770 = .ok (.if_icmp .eq 825, 3) := by decide +kernel
theorem dL_law_2773 : decode cL_law 2773 = .ok (.iconst 0, 1) := by decide +kernel
theorem dL_law_2774 : decode cL_law 2774 = .ok (.ireturn, 1) := by decide +kernel
theorem dL_law_2775 : decode cL_law 2775 = .ok (.aload_n 1, 1) := by decide +kernel
theorem dL_law_2776 : decode cL_law 2776 = .ok (.invokevirtual 299, 3) := by decide +kernel
theorem dL_law_2779 : decode cL_law 2779 = .ok (.aload_n 2, 1) := by decide +kernel
theorem dL_law_2780 : decode cL_law 2780 = .ok (.invokevirtual 302, 3) := by decide +kernel
theorem dL_law_2783 : decode cL_law 2783 = .ok (.if_icmp .eq 812, 3) := by decide +kernel
theorem dL_law_2786 : decode cL_law 2786 = .ok (.iconst 0, 1) := by decide +kernel
theorem dL_law_2787 : decode cL_law 2787 = .ok (.ireturn, 1) := by decide +kernel
theorem dL_law_2788 : decode cL_law 2788 = .ok (.aload_n 1, 1) := by decide +kernel
theorem dL_law_2789 : decode cL_law 2789 = .ok (.aload_n 0, 1) := by decide +kernel
theorem dL_law_2790 : decode cL_law 2790 = .ok (.iload 5, 2) := by decide +kernel
theorem dL_law_2792 : decode cL_law 2792 = .ok (.iconst 1, 1) := by decide +kernel
theorem dL_law_2793 : decode cL_law 2793 = .ok (.iadd, 1) := by decide +kernel
theorem dL_law_2794 : decode cL_law 2794 = .ok (.iaload, 1) := by decide +kernel
theorem dL_law_2795 : decode cL_law 2795 = .ok (.aload_n 3, 1) := by decide +kernel
theorem dL_law_2796 : decode cL_law 2796 = .ok (.invokestatic 303, 3) := by decide +kernel
theorem dL_law_2799 : decode cL_law 2799 = .ok (.istore 6, 2) := by decide +kernel
theorem dL_law_2801 : decode cL_law 2801 = .ok (.aload_n 2, 1) := by decide +kernel
theorem dL_law_2802 : decode cL_law 2802 = .ok (.aload_n 0, 1) := by decide +kernel
theorem dL_law_2803 : decode cL_law 2803 = .ok (.iload 5, 2) := by decide +kernel
theorem dL_law_2805 : decode cL_law 2805 = .ok (.iconst 1, 1) := by decide +kernel
theorem dL_law_2806 : decode cL_law 2806 = .ok (.iadd, 1) := by decide +kernel
theorem dL_law_2807 : decode cL_law 2807 = .ok (.iaload, 1) := by decide +kernel
theorem dL_law_2808 : decode cL_law 2808 = .ok (.invokevirtual 305, 3) := by decide +kernel
theorem dL_law_2811 : decode cL_law 2811 = .ok (.istore 7, 2) := by decide +kernel
theorem dL_law_2813 : decode cL_law 2813 = .ok (.aload_n 2, 1) := by decide +kernel
theorem dL_law_2814 : decode cL_law 2814 = .ok (.invokevirtual 170, 3) := by decide +kernel
theorem dL_law_2817 : decode cL_law 2817 = .ok (.iload 6, 2) := by decide +kernel
theorem dL_law_2819 : decode cL_law 2819 = .ok (.if_icmp .eq 5, 3) := by decide +kernel
theorem dL_law_2822 : decode cL_law 2822 = .ok (.iconst 0, 1) := by decide +kernel
theorem dL_law_2823 : decode cL_law 2823 = .ok (.ireturn, 1) := by decide +kernel
theorem dL_law_2824 : decode cL_law 2824 = .ok (.iload 6, 2) := by decide +kernel
theorem dL_law_2826 : decode cL_law 2826 = .ok (.ifCond .ne 15, 3) := by decide +kernel
theorem dL_law_2829 : decode cL_law 2829 = .ok (.aload_n 3, 1) := by decide +kernel
theorem dL_law_2830 : decode cL_law 2830 = .ok (.iconst 0, 1) := by decide +kernel
theorem dL_law_2831 : decode cL_law 2831 = .ok (.laload, 1) := by decide +kernel
theorem dL_law_2832 : decode cL_law 2832 = .ok (.iload 7, 2) := by decide +kernel
theorem dL_law_2834 : decode cL_law 2834 = .ok (.i2l, 1) := by decide +kernel
theorem dL_law_2835 : decode cL_law 2835 = .ok (.lcmp, 1) := by decide +kernel
theorem dL_law_2836 : decode cL_law 2836 = .ok (.ifCond .eq 5, 3) := by decide +kernel
theorem dL_law_2839 : decode cL_law 2839 = .ok (.iconst 0, 1) := by decide +kernel
theorem dL_law_2840 : decode cL_law 2840 = .ok (.ireturn, 1) := by decide +kernel
theorem dL_law_2841 : decode cL_law 2841 = .ok (.goto 754, 3) := by decide +kernel
theorem dL_law_2844 : decode cL_law 2844 = .ok (.aload_n 1, 1) := by decide +kernel
theorem dL_law_2845 : decode cL_law 2845 = .ok (.aload_n 0, 1) := by decide +kernel
theorem dL_law_2846 : decode cL_law 2846 = .ok (.iload 5, 2) := by decide +kernel
theorem dL_law_2848 : decode cL_law 2848 = .ok (.iconst 1, 1) := by decide +kernel
theorem dL_law_2849 : decode cL_law 2849 = .ok (.iadd, 1) := by decide +kernel
theorem dL_law_2850 : decode cL_law 2850 = .ok (.iaload, 1) := by decide +kernel
theorem dL_law_2851 : decode cL_law 2851 = .ok (.aload_n 0, 1) := by decide +kernel
theorem dL_law_2852 : decode cL_law 2852 = .ok (.iload 5, 2) := by decide +kernel
theorem dL_law_2854 : decode cL_law 2854 = .ok (.iconst 2, 1) := by decide +kernel
theorem dL_law_2855 : decode cL_law 2855 = .ok (.iadd, 1) := by decide +kernel
theorem dL_law_2856 : decode cL_law 2856 = .ok (.iaload, 1) := by decide +kernel
theorem dL_law_2857 : decode cL_law 2857 = .ok (.ifCond .eq 7, 3) := by decide +kernel
theorem dL_law_2860 : decode cL_law 2860 = .ok (.iconst 1, 1) := by decide +kernel
theorem dL_law_2861 : decode cL_law 2861 = .ok (.goto 4, 3) := by decide +kernel
theorem dL_law_2864 : decode cL_law 2864 = .ok (.iconst 0, 1) := by decide +kernel
theorem dL_law_2865 : decode cL_law 2865 = .ok (.aload_n 3, 1) := by decide +kernel
theorem dL_law_2866 : decode cL_law 2866 = .ok (.invokestatic 306, 3) := by decide +kernel
theorem dL_law_2869 : decode cL_law 2869 = .ok (.istore 6, 2) := by decide +kernel
theorem dL_law_2871 : decode cL_law 2871 = .ok (.aload_n 2, 1) := by decide +kernel
theorem dL_law_2872 : decode cL_law 2872 = .ok (.aload_n 0, 1) := by decide +kernel
theorem dL_law_2873 : decode cL_law 2873 = .ok (.iload 5, 2) := by decide +kernel
theorem dL_law_2875 : decode cL_law 2875 = .ok (.iconst 1, 1) := by decide +kernel
theorem dL_law_2876 : decode cL_law 2876 = .ok (.iadd, 1) := by decide +kernel
theorem dL_law_2877 : decode cL_law 2877 = .ok (.iaload, 1) := by decide +kernel
theorem dL_law_2878 : decode cL_law 2878 = .ok (.aload_n 0, 1) := by decide +kernel
theorem dL_law_2879 : decode cL_law 2879 = .ok (.iload 5, 2) := by decide +kernel
theorem dL_law_2881 : decode cL_law 2881 = .ok (.iconst 2, 1) := by decide +kernel
theorem dL_law_2882 : decode cL_law 2882 = .ok (.iadd, 1) := by decide +kernel
theorem dL_law_2883 : decode cL_law 2883 = .ok (.iaload, 1) := by decide +kernel
theorem dL_law_2884 : decode cL_law 2884 = .ok (.ifCond .eq 7, 3) := by decide +kernel
theorem dL_law_2887 : decode cL_law 2887 = .ok (.iconst 1, 1) := by decide +kernel
theorem dL_law_2888 : decode cL_law 2888 = .ok (.goto 4, 3) := by decide +kernel
theorem dL_law_2891 : decode cL_law 2891 = .ok (.iconst 0, 1) := by decide +kernel
theorem dL_law_2892 : decode cL_law 2892 = .ok (.invokevirtual 308, 3) := by decide +kernel
theorem dL_law_2895 : decode cL_law 2895 = .ok (.istore 7, 2) := by decide +kernel
theorem dL_law_2897 : decode cL_law 2897 = .ok (.aload_n 2, 1) := by decide +kernel
theorem dL_law_2898 : decode cL_law 2898 = .ok (.invokevirtual 170, 3) := by decide +kernel
theorem dL_law_2901 : decode cL_law 2901 = .ok (.iload 6, 2) := by decide +kernel
theorem dL_law_2903 : decode cL_law 2903 = .ok (.if_icmp .eq 5, 3) := by decide +kernel
theorem dL_law_2906 : decode cL_law 2906 = .ok (.iconst 0, 1) := by decide +kernel
theorem dL_law_2907 : decode cL_law 2907 = .ok (.ireturn, 1) := by decide +kernel
theorem dL_law_2908 : decode cL_law 2908 = .ok (.iload 6, 2) := by decide +kernel
theorem dL_law_2910 : decode cL_law 2910 = .ok (.ifCond .ne 15, 3) := by decide +kernel
theorem dL_law_2913 : decode cL_law 2913 = .ok (.aload_n 3, 1) := by decide +kernel
theorem dL_law_2914 : decode cL_law 2914 = .ok (.iconst 0, 1) := by decide +kernel
theorem dL_law_2915 : decode cL_law 2915 = .ok (.laload, 1) := by decide +kernel
theorem dL_law_2916 : decode cL_law 2916 = .ok (.iload 7, 2) := by decide +kernel
theorem dL_law_2918 : decode cL_law 2918 = .ok (.i2l, 1) := by decide +kernel
theorem dL_law_2919 : decode cL_law 2919 = .ok (.lcmp, 1) := by decide +kernel
theorem dL_law_2920 : decode cL_law 2920 = .ok (.ifCond .eq 5, 3) := by decide +kernel
theorem dL_law_2923 : decode cL_law 2923 = .ok (.iconst 0, 1) := by decide +kernel
theorem dL_law_2924 : decode cL_law 2924 = .ok (.ireturn, 1) := by decide +kernel
theorem dL_law_2925 : decode cL_law 2925 = .ok (.goto 670, 3) := by decide +kernel
theorem dL_law_2928 : decode cL_law 2928 = .ok (.aload_n 1, 1) := by decide +kernel
theorem dL_law_2929 : decode cL_law 2929 = .ok (.aload_n 0, 1) := by decide +kernel
theorem dL_law_2930 : decode cL_law 2930 = .ok (.iload 5, 2) := by decide +kernel
theorem dL_law_2932 : decode cL_law 2932 = .ok (.iconst 1, 1) := by decide +kernel
theorem dL_law_2933 : decode cL_law 2933 = .ok (.iadd, 1) := by decide +kernel
theorem dL_law_2934 : decode cL_law 2934 = .ok (.iaload, 1) := by decide +kernel
theorem dL_law_2935 : decode cL_law 2935 = .ok (.aload_n 3, 1) := by decide +kernel
theorem dL_law_2936 : decode cL_law 2936 = .ok (.invokestatic 309, 3) := by decide +kernel
theorem dL_law_2939 : decode cL_law 2939 = .ok (.istore 6, 2) := by decide +kernel
theorem dL_law_2941 : decode cL_law 2941 = .ok (.aload_n 2, 1) := by decide +kernel
theorem dL_law_2942 : decode cL_law 2942 = .ok (.aload_n 0, 1) := by decide +kernel
theorem dL_law_2943 : decode cL_law 2943 = .ok (.iload 5, 2) := by decide +kernel
theorem dL_law_2945 : decode cL_law 2945 = .ok (.iconst 1, 1) := by decide +kernel
theorem dL_law_2946 : decode cL_law 2946 = .ok (.iadd, 1) := by decide +kernel
theorem dL_law_2947 : decode cL_law 2947 = .ok (.iaload, 1) := by decide +kernel
theorem dL_law_2948 : decode cL_law 2948 = .ok (.invokevirtual 311, 3) := by decide +kernel
theorem dL_law_2951 : decode cL_law 2951 = .ok (.istore 7, 2) := by decide +kernel
theorem dL_law_2953 : decode cL_law 2953 = .ok (.aload_n 2, 1) := by decide +kernel
theorem dL_law_2954 : decode cL_law 2954 = .ok (.invokevirtual 170, 3) := by decide +kernel
theorem dL_law_2957 : decode cL_law 2957 = .ok (.iload 6, 2) := by decide +kernel
theorem dL_law_2959 : decode cL_law 2959 = .ok (.if_icmp .eq 5, 3) := by decide +kernel
theorem dL_law_2962 : decode cL_law 2962 = .ok (.iconst 0, 1) := by decide +kernel
theorem dL_law_2963 : decode cL_law 2963 = .ok (.ireturn, 1) := by decide +kernel
theorem dL_law_2964 : decode cL_law 2964 = .ok (.iload 6, 2) := by decide +kernel
theorem dL_law_2966 : decode cL_law 2966 = .ok (.ifCond .ne 15, 3) := by decide +kernel
theorem dL_law_2969 : decode cL_law 2969 = .ok (.aload_n 3, 1) := by decide +kernel
theorem dL_law_2970 : decode cL_law 2970 = .ok (.iconst 0, 1) := by decide +kernel
theorem dL_law_2971 : decode cL_law 2971 = .ok (.laload, 1) := by decide +kernel
theorem dL_law_2972 : decode cL_law 2972 = .ok (.iload 7, 2) := by decide +kernel
theorem dL_law_2974 : decode cL_law 2974 = .ok (.i2l, 1) := by decide +kernel
theorem dL_law_2975 : decode cL_law 2975 = .ok (.lcmp, 1) := by decide +kernel
theorem dL_law_2976 : decode cL_law 2976 = .ok (.ifCond .eq 5, 3) := by decide +kernel
theorem dL_law_2979 : decode cL_law 2979 = .ok (.iconst 0, 1) := by decide +kernel
theorem dL_law_2980 : decode cL_law 2980 = .ok (.ireturn, 1) := by decide +kernel
theorem dL_law_2981 : decode cL_law 2981 = .ok (.goto 614, 3) := by decide +kernel
theorem dL_law_2984 : decode cL_law 2984 = .ok (.aload_n 1, 1) := by decide +kernel
theorem dL_law_2985 : decode cL_law 2985 = .ok (.aload_n 0, 1) := by decide +kernel
theorem dL_law_2986 : decode cL_law 2986 = .ok (.iload 5, 2) := by decide +kernel
theorem dL_law_2988 : decode cL_law 2988 = .ok (.iconst 1, 1) := by decide +kernel
theorem dL_law_2989 : decode cL_law 2989 = .ok (.iadd, 1) := by decide +kernel
theorem dL_law_2990 : decode cL_law 2990 = .ok (.iaload, 1) := by decide +kernel
theorem dL_law_2991 : decode cL_law 2991 = .ok (.ifCond .eq 7, 3) := by decide +kernel
theorem dL_law_2994 : decode cL_law 2994 = .ok (.iconst 1, 1) := by decide +kernel
theorem dL_law_2995 : decode cL_law 2995 = .ok (.goto 4, 3) := by decide +kernel
theorem dL_law_2998 : decode cL_law 2998 = .ok (.iconst 0, 1) := by decide +kernel
theorem dL_law_2999 : decode cL_law 2999 = .ok (.invokevirtual 312, 3) := by decide +kernel
theorem dL_law_3002 : decode cL_law 3002 = .ok (.aload_n 2, 1) := by decide +kernel
theorem dL_law_3003 : decode cL_law 3003 = .ok (.aload_n 0, 1) := by decide +kernel
theorem dL_law_3004 : decode cL_law 3004 = .ok (.iload 5, 2) := by decide +kernel
theorem dL_law_3006 : decode cL_law 3006 = .ok (.iconst 1, 1) := by decide +kernel
theorem dL_law_3007 : decode cL_law 3007 = .ok (.iadd, 1) := by decide +kernel
theorem dL_law_3008 : decode cL_law 3008 = .ok (.iaload, 1) := by decide +kernel
theorem dL_law_3009 : decode cL_law 3009 = .ok (.ifCond .eq 7, 3) := by decide +kernel
theorem dL_law_3012 : decode cL_law 3012 = .ok (.iconst 1, 1) := by decide +kernel
theorem dL_law_3013 : decode cL_law 3013 = .ok (.goto 4, 3) := by decide +kernel
theorem dL_law_3016 : decode cL_law 3016 = .ok (.iconst 0, 1) := by decide +kernel
theorem dL_law_3017 : decode cL_law 3017 = .ok (.invokevirtual 315, 3) := by decide +kernel
theorem dL_law_3020 : decode cL_law 3020 = .ok (.if_icmp .eq 575, 3) := by decide +kernel
theorem dL_law_3023 : decode cL_law 3023 = .ok (.iconst 0, 1) := by decide +kernel
theorem dL_law_3024 : decode cL_law 3024 = .ok (.ireturn, 1) := by decide +kernel
theorem dL_law_3025 : decode cL_law 3025 = .ok (.aload_n 1, 1) := by decide +kernel
theorem dL_law_3026 : decode cL_law 3026 = .ok (.invokevirtual 316, 3) := by decide +kernel
theorem dL_law_3029 : decode cL_law 3029 = .ok (.aload_n 2, 1) := by decide +kernel
theorem dL_law_3030 : decode cL_law 3030 = .ok (.invokevirtual 319, 3) := by decide +kernel
theorem dL_law_3033 : decode cL_law 3033 = .ok (.if_icmp .eq 562, 3) := by decide +kernel
theorem dL_law_3036 : decode cL_law 3036 = .ok (.iconst 0, 1) := by decide +kernel
theorem dL_law_3037 : decode cL_law 3037 = .ok (.ireturn, 1) := by decide +kernel
theorem dL_law_3038 : decode cL_law 3038 = .ok (.aload_n 1, 1) := by decide +kernel
theorem dL_law_3039 : decode cL_law 3039 = .ok (.aload_n 0, 1) := by decide +kernel
theorem dL_law_3040 : decode cL_law 3040 = .ok (.iload 5, 2) := by decide +kernel
theorem dL_law_3042 : decode cL_law 3042 = .ok (.iconst 1, 1) := by decide +kernel
theorem dL_law_3043 : decode cL_law 3043 = .ok (.iadd, 1) := by decide +kernel
theorem dL_law_3044 : decode cL_law 3044 = .ok (.iaload, 1) := by decide +kernel
theorem dL_law_3045 : decode cL_law 3045 = .ok (.aload_n 3, 1) := by decide +kernel
theorem dL_law_3046 : decode cL_law 3046 = .ok (.invokestatic 320, 3) := by decide +kernel
theorem dL_law_3049 : decode cL_law 3049 = .ok (.istore 6, 2) := by decide +kernel
theorem dL_law_3051 : decode cL_law 3051 = .ok (.aload_n 2, 1) := by decide +kernel
theorem dL_law_3052 : decode cL_law 3052 = .ok (.aload_n 0, 1) := by decide +kernel
theorem dL_law_3053 : decode cL_law 3053 = .ok (.iload 5, 2) := by decide +kernel
theorem dL_law_3055 : decode cL_law 3055 = .ok (.iconst 1, 1) := by decide +kernel
theorem dL_law_3056 : decode cL_law 3056 = .ok (.iadd, 1) := by decide +kernel
theorem dL_law_3057 : decode cL_law 3057 = .ok (.iaload, 1) := by decide +kernel
theorem dL_law_3058 : decode cL_law 3058 = .ok (.invokevirtual 322, 3) := by decide +kernel
theorem dL_law_3061 : decode cL_law 3061 = .ok (.istore 7, 2) := by decide +kernel
theorem dL_law_3063 : decode cL_law 3063 = .ok (.aload_n 2, 1) := by decide +kernel
theorem dL_law_3064 : decode cL_law 3064 = .ok (.invokevirtual 170, 3) := by decide +kernel
theorem dL_law_3067 : decode cL_law 3067 = .ok (.iload 6, 2) := by decide +kernel
theorem dL_law_3069 : decode cL_law 3069 = .ok (.if_icmp .eq 5, 3) := by decide +kernel
theorem dL_law_3072 : decode cL_law 3072 = .ok (.iconst 0, 1) := by decide +kernel
theorem dL_law_3073 : decode cL_law 3073 = .ok (.ireturn, 1) := by decide +kernel
theorem dL_law_3074 : decode cL_law 3074 = .ok (.iload 6, 2) := by decide +kernel
theorem dL_law_3076 : decode cL_law 3076 = .ok (.ifCond .ne 15, 3) := by decide +kernel
theorem dL_law_3079 : decode cL_law 3079 = .ok (.aload_n 3, 1) := by decide +kernel
theorem dL_law_3080 : decode cL_law 3080 = .ok (.iconst 0, 1) := by decide +kernel
theorem dL_law_3081 : decode cL_law 3081 = .ok (.laload, 1) := by decide +kernel
theorem dL_law_3082 : decode cL_law 3082 = .ok (.iload 7, 2) := by decide +kernel
theorem dL_law_3084 : decode cL_law 3084 = .ok (.i2l, 1) := by decide +kernel
theorem dL_law_3085 : decode cL_law 3085 = .ok (.lcmp, 1) := by decide +kernel
theorem dL_law_3086 : decode cL_law 3086 = .ok (.ifCond .eq 5, 3) := by decide +kernel
theorem dL_law_3089 : decode cL_law 3089 = .ok (.iconst 0, 1) := by decide +kernel
theorem dL_law_3090 : decode cL_law 3090 = .ok (.ireturn, 1) := by decide +kernel
theorem dL_law_3091 : decode cL_law 3091 = .ok (.goto 504, 3) := by decide +kernel
theorem dL_law_3094 : decode cL_law 3094 = .ok (.aload_n 1, 1) := by decide +kernel
theorem dL_law_3095 : decode cL_law 3095 = .ok (.invokevirtual 323, 3) := by decide +kernel
theorem dL_law_3098 : decode cL_law 3098 = .ok (.aload_n 2, 1) := by decide +kernel
theorem dL_law_3099 : decode cL_law 3099 = .ok (.invokevirtual 326, 3) := by decide +kernel
theorem dL_law_3102 : decode cL_law 3102 = .ok (.if_icmp .eq 493, 3) := by decide +kernel
theorem dL_law_3105 : decode cL_law 3105 = .ok (.iconst 0, 1) := by decide +kernel
theorem dL_law_3106 : decode cL_law 3106 = .ok (.ireturn, 1) := by decide +kernel
theorem dL_law_3107 : decode cL_law 3107 = .ok (.aload_n 1, 1) := by decide +kernel
theorem dL_law_3108 : decode cL_law 3108 = .ok (.invokevirtual 327, 3) := by decide +kernel
theorem dL_law_3111 : decode cL_law 3111 = .ok (.aload_n 2, 1) := by decide +kernel
theorem dL_law_3112 : decode cL_law 3112 = .ok (.invokevirtual 330, 3) := by decide +kernel
theorem dL_law_3115 : decode cL_law 3115 = .ok (.if_icmp .eq 480, 3) := by decide +kernel
theorem dL_law_3118 : decode cL_law 3118 = .ok (.iconst 0, 1) := by decide +kernel
theorem dL_law_3119 : decode cL_law 3119 = .ok (.ireturn, 1) := by decide +kernel
theorem dL_law_3120 : decode cL_law 3120 = .ok (.aload_n 1, 1) := by decide +kernel
theorem dL_law_3121 : decode cL_law 3121 = .ok (.aload_n 0, 1) := by decide +kernel
theorem dL_law_3122 : decode cL_law 3122 = .ok (.iload 5, 2) := by decide +kernel
theorem dL_law_3124 : decode cL_law 3124 = .ok (.iconst 1, 1) := by decide +kernel
theorem dL_law_3125 : decode cL_law 3125 = .ok (.iadd, 1) := by decide +kernel
theorem dL_law_3126 : decode cL_law 3126 = .ok (.iaload, 1) := by decide +kernel
theorem dL_law_3127 : decode cL_law 3127 = .ok (.aload_n 3, 1) := by decide +kernel
theorem dL_law_3128 : decode cL_law 3128 = .ok (.invokestatic 331, 3) := by decide +kernel
theorem dL_law_3131 : decode cL_law 3131 = .ok (.istore 6, 2) := by decide +kernel
theorem dL_law_3133 : decode cL_law 3133 = .ok (.aload_n 2, 1) := by decide +kernel
theorem dL_law_3134 : decode cL_law 3134 = .ok (.aload_n 0, 1) := by decide +kernel
theorem dL_law_3135 : decode cL_law 3135 = .ok (.iload 5, 2) := by decide +kernel
theorem dL_law_3137 : decode cL_law 3137 = .ok (.iconst 1, 1) := by decide +kernel
theorem dL_law_3138 : decode cL_law 3138 = .ok (.iadd, 1) := by decide +kernel
theorem dL_law_3139 : decode cL_law 3139 = .ok (.iaload, 1) := by decide +kernel
theorem dL_law_3140 : decode cL_law 3140 = .ok (.invokevirtual 333, 3) := by decide +kernel
theorem dL_law_3143 : decode cL_law 3143 = .ok (.istore 7, 2) := by decide +kernel
theorem dL_law_3145 : decode cL_law 3145 = .ok (.aload_n 2, 1) := by decide +kernel
theorem dL_law_3146 : decode cL_law 3146 = .ok (.invokevirtual 170, 3) := by decide +kernel
theorem dL_law_3149 : decode cL_law 3149 = .ok (.iload 6, 2) := by decide +kernel
theorem dL_law_3151 : decode cL_law 3151 = .ok (.if_icmp .eq 5, 3) := by decide +kernel
theorem dL_law_3154 : decode cL_law 3154 = .ok (.iconst 0, 1) := by decide +kernel
theorem dL_law_3155 : decode cL_law 3155 = .ok (.ireturn, 1) := by decide +kernel
theorem dL_law_3156 : decode cL_law 3156 = .ok (.iload 6, 2) := by decide +kernel
theorem dL_law_3158 : decode cL_law 3158 = .ok (.ifCond .ne 15, 3) := by decide +kernel
theorem dL_law_3161 : decode cL_law 3161 = .ok (.aload_n 3, 1) := by decide +kernel
theorem dL_law_3162 : decode cL_law 3162 = .ok (.iconst 0, 1) := by decide +kernel
theorem dL_law_3163 : decode cL_law 3163 = .ok (.laload, 1) := by decide +kernel
theorem dL_law_3164 : decode cL_law 3164 = .ok (.iload 7, 2) := by decide +kernel
theorem dL_law_3166 : decode cL_law 3166 = .ok (.i2l, 1) := by decide +kernel
theorem dL_law_3167 : decode cL_law 3167 = .ok (.lcmp, 1) := by decide +kernel
theorem dL_law_3168 : decode cL_law 3168 = .ok (.ifCond .eq 5, 3) := by decide +kernel
theorem dL_law_3171 : decode cL_law 3171 = .ok (.iconst 0, 1) := by decide +kernel
theorem dL_law_3172 : decode cL_law 3172 = .ok (.ireturn, 1) := by decide +kernel
theorem dL_law_3173 : decode cL_law 3173 = .ok (.goto 422, 3) := by decide +kernel
theorem dL_law_3176 : decode cL_law 3176 = .ok (.aload_n 1, 1) := by decide +kernel
theorem dL_law_3177 : decode cL_law 3177 = .ok (.aload_n 0, 1) := by decide +kernel
theorem dL_law_3178 : decode cL_law 3178 = .ok (.iload 5, 2) := by decide +kernel
theorem dL_law_3180 : decode cL_law 3180 = .ok (.iconst 1, 1) := by decide +kernel
theorem dL_law_3181 : decode cL_law 3181 = .ok (.iadd, 1) := by decide +kernel
theorem dL_law_3182 : decode cL_law 3182 = .ok (.iaload, 1) := by decide +kernel
theorem dL_law_3183 : decode cL_law 3183 = .ok (.aload_n 0, 1) := by decide +kernel
theorem dL_law_3184 : decode cL_law 3184 = .ok (.iload 5, 2) := by decide +kernel
theorem dL_law_3186 : decode cL_law 3186 = .ok (.iconst 2, 1) := by decide +kernel
theorem dL_law_3187 : decode cL_law 3187 = .ok (.iadd, 1) := by decide +kernel
theorem dL_law_3188 : decode cL_law 3188 = .ok (.iaload, 1) := by decide +kernel
theorem dL_law_3189 : decode cL_law 3189 = .ok (.aload_n 3, 1) := by decide +kernel
theorem dL_law_3190 : decode cL_law 3190 = .ok (.invokestatic 334, 3) := by decide +kernel
theorem dL_law_3193 : decode cL_law 3193 = .ok (.istore 6, 2) := by decide +kernel
theorem dL_law_3195 : decode cL_law 3195 = .ok (.aload_n 2, 1) := by decide +kernel
theorem dL_law_3196 : decode cL_law 3196 = .ok (.aload_n 0, 1) := by decide +kernel
theorem dL_law_3197 : decode cL_law 3197 = .ok (.iload 5, 2) := by decide +kernel
theorem dL_law_3199 : decode cL_law 3199 = .ok (.iconst 1, 1) := by decide +kernel
theorem dL_law_3200 : decode cL_law 3200 = .ok (.iadd, 1) := by decide +kernel
theorem dL_law_3201 : decode cL_law 3201 = .ok (.iaload, 1) := by decide +kernel
theorem dL_law_3202 : decode cL_law 3202 = .ok (.aload_n 0, 1) := by decide +kernel
theorem dL_law_3203 : decode cL_law 3203 = .ok (.iload 5, 2) := by decide +kernel
theorem dL_law_3205 : decode cL_law 3205 = .ok (.iconst 2, 1) := by decide +kernel
theorem dL_law_3206 : decode cL_law 3206 = .ok (.iadd, 1) := by decide +kernel
theorem dL_law_3207 : decode cL_law 3207 = .ok (.iaload, 1) := by decide +kernel
theorem dL_law_3208 : decode cL_law 3208 = .ok (.invokevirtual 336, 3) := by decide +kernel
theorem dL_law_3211 : decode cL_law 3211 = .ok (.istore 7, 2) := by decide +kernel
theorem dL_law_3213 : decode cL_law 3213 = .ok (.aload_n 2, 1) := by decide +kernel
theorem dL_law_3214 : decode cL_law 3214 = .ok (.invokevirtual 170, 3) := by decide +kernel
theorem dL_law_3217 : decode cL_law 3217 = .ok (.iload 6, 2) := by decide +kernel
theorem dL_law_3219 : decode cL_law 3219 = .ok (.if_icmp .eq 5, 3) := by decide +kernel
theorem dL_law_3222 : decode cL_law 3222 = .ok (.iconst 0, 1) := by decide +kernel
theorem dL_law_3223 : decode cL_law 3223 = .ok (.ireturn, 1) := by decide +kernel
theorem dL_law_3224 : decode cL_law 3224 = .ok (.iload 6, 2) := by decide +kernel
theorem dL_law_3226 : decode cL_law 3226 = .ok (.ifCond .ne 15, 3) := by decide +kernel
theorem dL_law_3229 : decode cL_law 3229 = .ok (.aload_n 3, 1) := by decide +kernel
theorem dL_law_3230 : decode cL_law 3230 = .ok (.iconst 0, 1) := by decide +kernel
theorem dL_law_3231 : decode cL_law 3231 = .ok (.laload, 1) := by decide +kernel
theorem dL_law_3232 : decode cL_law 3232 = .ok (.iload 7, 2) := by decide +kernel
theorem dL_law_3234 : decode cL_law 3234 = .ok (.i2l, 1) := by decide +kernel
theorem dL_law_3235 : decode cL_law 3235 = .ok (.lcmp, 1) := by decide +kernel
theorem dL_law_3236 : decode cL_law 3236 = .ok (.ifCond .eq 5, 3) := by decide +kernel
theorem dL_law_3239 : decode cL_law 3239 = .ok (.iconst 0, 1) := by decide +kernel
theorem dL_law_3240 : decode cL_law 3240 = .ok (.ireturn, 1) := by decide +kernel
theorem dL_law_3241 : decode cL_law 3241 = .ok (.goto 354, 3) := by decide +kernel
theorem dL_law_3244 : decode cL_law 3244 = .ok (.aload_n 1, 1) := by decide +kernel
theorem dL_law_3245 : decode cL_law 3245 = .ok (.aload_n 0, 1) := by decide +kernel
theorem dL_law_3246 : decode cL_law 3246 = .ok (.iload 5, 2) := by decide +kernel
theorem dL_law_3248 : decode cL_law 3248 = .ok (.iconst 1, 1) := by decide +kernel
theorem dL_law_3249 : decode cL_law 3249 = .ok (.iadd, 1) := by decide +kernel
theorem dL_law_3250 : decode cL_law 3250 = .ok (.iaload, 1) := by decide +kernel
theorem dL_law_3251 : decode cL_law 3251 = .ok (.aload_n 3, 1) := by decide +kernel
theorem dL_law_3252 : decode cL_law 3252 = .ok (.invokestatic 337, 3) := by decide +kernel
theorem dL_law_3255 : decode cL_law 3255 = .ok (.istore 6, 2) := by decide +kernel
theorem dL_law_3257 : decode cL_law 3257 = .ok (.aload_n 2, 1) := by decide +kernel
theorem dL_law_3258 : decode cL_law 3258 = .ok (.aload_n 0, 1) := by decide +kernel
theorem dL_law_3259 : decode cL_law 3259 = .ok (.iload 5, 2) := by decide +kernel
theorem dL_law_3261 : decode cL_law 3261 = .ok (.iconst 1, 1) := by decide +kernel
theorem dL_law_3262 : decode cL_law 3262 = .ok (.iadd, 1) := by decide +kernel
theorem dL_law_3263 : decode cL_law 3263 = .ok (.iaload, 1) := by decide +kernel
theorem dL_law_3264 : decode cL_law 3264 = .ok (.invokevirtual 339, 3) := by decide +kernel
theorem dL_law_3267 : decode cL_law 3267 = .ok (.istore 7, 2) := by decide +kernel
theorem dL_law_3269 : decode cL_law 3269 = .ok (.aload_n 2, 1) := by decide +kernel
theorem dL_law_3270 : decode cL_law 3270 = .ok (.invokevirtual 170, 3) := by decide +kernel
theorem dL_law_3273 : decode cL_law 3273 = .ok (.iload 6, 2) := by decide +kernel
theorem dL_law_3275 : decode cL_law 3275 = .ok (.if_icmp .eq 5, 3) := by decide +kernel
theorem dL_law_3278 : decode cL_law 3278 = .ok (.iconst 0, 1) := by decide +kernel
theorem dL_law_3279 : decode cL_law 3279 = .ok (.ireturn, 1) := by decide +kernel
theorem dL_law_3280 : decode cL_law 3280 = .ok (.iload 6, 2) := by decide +kernel
theorem dL_law_3282 : decode cL_law 3282 = .ok (.ifCond .ne 15, 3) := by decide +kernel
theorem dL_law_3285 : decode cL_law 3285 = .ok (.aload_n 3, 1) := by decide +kernel
theorem dL_law_3286 : decode cL_law 3286 = .ok (.iconst 0, 1) := by decide +kernel
theorem dL_law_3287 : decode cL_law 3287 = .ok (.laload, 1) := by decide +kernel
theorem dL_law_3288 : decode cL_law 3288 = .ok (.iload 7, 2) := by decide +kernel
theorem dL_law_3290 : decode cL_law 3290 = .ok (.i2l, 1) := by decide +kernel
theorem dL_law_3291 : decode cL_law 3291 = .ok (.lcmp, 1) := by decide +kernel
theorem dL_law_3292 : decode cL_law 3292 = .ok (.ifCond .eq 5, 3) := by decide +kernel
theorem dL_law_3295 : decode cL_law 3295 = .ok (.iconst 0, 1) := by decide +kernel
theorem dL_law_3296 : decode cL_law 3296 = .ok (.ireturn, 1) := by decide +kernel
theorem dL_law_3297 : decode cL_law 3297 = .ok (.goto 298, 3) := by decide +kernel
theorem dL_law_3300 : decode cL_law 3300 = .ok (.aload_n 1, 1) := by decide +kernel
theorem dL_law_3301 : decode cL_law 3301 = .ok (.aload_n 0, 1) := by decide +kernel
theorem dL_law_3302 : decode cL_law 3302 = .ok (.iload 5, 2) := by decide +kernel
theorem dL_law_3304 : decode cL_law 3304 = .ok (.iconst 1, 1) := by decide +kernel
theorem dL_law_3305 : decode cL_law 3305 = .ok (.iadd, 1) := by decide +kernel
theorem dL_law_3306 : decode cL_law 3306 = .ok (.iaload, 1) := by decide +kernel
theorem dL_law_3307 : decode cL_law 3307 = .ok (.aload_n 0, 1) := by decide +kernel
theorem dL_law_3308 : decode cL_law 3308 = .ok (.iload 5, 2) := by decide +kernel
theorem dL_law_3310 : decode cL_law 3310 = .ok (.iconst 2, 1) := by decide +kernel
