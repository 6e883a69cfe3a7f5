theorem dL_law_2726 : decode cL_law 2726 = .ok (.iload 6, 2) := by decide +kernel
theorem dL_law_2728 : decode cL_law 2728 = .ok (.ifCond .ne 15, 3) := by decide +kernel
theorem dL_law_2731 : decode cL_law 2731 = .ok (.aload_n 3, 1) := by decide +kernel
theorem dL_law_2732 : decode cL_law 2732 = .ok (.iconst 0, 1) := by decide +kernel
theorem dL_law_2733 : decode cL_law 2733 = .ok (.laload, 1) := by decide +kernel
theorem dL_law_2734 : decode cL_law 2734 = .ok (.iload 7, 2) := by decide +kernel
theorem dL_law_2736 : decode cL_law 2736 = .ok (.i2l, 1) := by decide +kernel
theorem dL_law_2737 : decode cL_law 2737 = .ok (.lcmp, 1) := by decide +kernel
theorem dL_law_2738 : decode cL_law 2738 = .ok (.ifCond .eq 5, 3) := by decide +kernel
theorem dL_law_2741 : decode cL_law 2741 = .ok (.iconst 0, 1) := by decide +kernel
theorem dL_law_2742 : decode cL_law 2742 = .ok (.ireturn, 1) := by decide +kernel
theorem dL_law_2743 : decode cL_law 2743 = .ok (.goto 629, 3) := by decide +kernel
theorem dL_law_2746 : decode cL_law 2746 = .ok (.aload_n 1, 1) := by decide +kernel
theorem dL_law_2747 : decode cL_law 2747 = .ok (.aload_n 0, 1) := by decide +kernel
theorem dL_law_2748 : decode cL_law 2748 = .ok (.iload 5, 2) := by decide +kernel
theorem dL_law_2750 : decode cL_law 2750 = .ok (.iconst 1, 1) := by decide +kernel
theorem dL_law_2751 : decode cL_law 2751 = .ok (.iadd, 1) := by decide +kernel
theorem dL_law_2752 : decode cL_law 2752 = .ok (.iaload, 1) := by decide +kernel
theorem dL_law_2753 : decode cL_law 2753 = .ok (.aload_n 3, 1) := by decide +kernel
theorem dL_law_2754 : decode cL_law 2754 = .ok (.invokestatic 294, 3) := by decide +kernel
theorem dL_law_2757 : decode cL_law 2757 = .ok (.istore 6, 2) := by decide +kernel
theorem dL_law_2759 : decode cL_law 2759 = .ok (.aload_n 2, 1) := by decide +kernel
theorem dL_law_2760 : decode cL_law 2760 = .ok (.aload_n 0, 1) := by decide +kernel
theorem dL_law_2761 : decode cL_law 2761 = .ok (.iload 5, 2) := by decide +kernel
theorem dL_law_2763 : decode cL_law 2763 = .ok (.iconst 1, 1) := by decide +kernel
theorem dL_law_2764 : decode cL_law 2764 = .ok (.iadd, 1) := by decide +kernel
theorem dL_law_2765 : decode cL_law 2765 = .ok (.iaload, 1) := by decide +kernel
theorem dL_law_2766 : decode cL_law 2766 = .ok (.invokevirtual 296, 3) := by decide +kernel
theorem dL_law_2769 : decode cL_law 2769 = .ok (.istore 7, 2) := by decide +kernel
theorem dL_law_2771 : decode cL_law 2771 = .ok (.aload_n 2, 1) := by decide +kernel
theorem dL_law_2772 : decode cL_law 2772 = .ok (.invokevirtual 160, 3) := by decide +kernel
theorem dL_law_2775 : decode cL_law 2775 = .ok (.iload 6, 2) := by decide +kernel
theorem dL_law_2777 : decode cL_law 2777 = .ok (.if_icmp .eq 5, 3) := by decide +kernel
theorem dL_law_2780 : decode cL_law 2780 = .ok (.iconst 0, 1) := by decide +kernel
theorem dL_law_2781 : decode cL_law 2781 = .ok (.ireturn, 1) := by decide +kernel
theorem dL_law_2782 : decode cL_law 2782 = .ok (.iload 6, 2) := by decide +kernel
theorem dL_law_2784 : decode cL_law 2784 = .ok (.ifCond .ne 15, 3) := by decide +kernel
theorem dL_law_2787 : decode cL_law 2787 = .ok (.aload_n 3, 1) := by decide +kernel
theorem dL_law_2788 : decode cL_law 2788 = .ok (.iconst 0, 1) := by decide +kernel
theorem dL_law_2789 : decode cL_law 2789 = .ok (.laload, 1) := by decide +kernel
theorem dL_law_2790 : decode cL_law 2790 = .ok (.iload 7, 2) := by decide +kernel
theorem dL_law_2792 : decode cL_law 2792 = .ok (.i2l, 1) := by decide +kernel
theorem dL_law_2793 : decode cL_law 2793 = .ok (.lcmp, 1) := by decide +kernel
theorem dL_law_2794 : decode cL_law 2794 = .ok (.ifCond .eq 5, 3) := by decide +kernel
theorem dL_law_2797 : decode cL_law 2797 = .ok (.iconst 0, 1) := by decide +kernel
theorem dL_law_2798 : decode cL_law 2798 = .ok (.ireturn, 1) := by decide +kernel
theorem dL_law_2799 : decode cL_law 2799 = .ok (.goto 573, 3) := by decide +kernel
theorem dL_law_2802 : decode cL_law 2802 = .ok (.aload_n 1, 1) := by decide +kernel
theorem dL_law_2803 : decode cL_law 2803 = .ok (.aload_n 0, 1) := by decide +kernel
theorem dL_law_2804 : decode cL_law 2804 = .ok (.iload 5, 2) := by decide +kernel
theorem dL_law_2806 : decode cL_law 2806 = .ok (.iconst 1, 1) := by decide +kernel
theorem dL_law_2807 : decode cL_law 2807 = .ok (.iadd, 1) := by decide +kernel
theorem dL_law_2808 : decode cL_law 2808 = .ok (.iaload, 1) := by decide +kernel
theorem dL_law_2809 : decode cL_law 2809 = .ok (.aload_n 3, 1) := by decide +kernel
theorem dL_law_2810 : decode cL_law 2810 = .ok (.invokestatic 297, 3) := by decide +kernel
theorem dL_law_2813 : decode cL_law 2813 = .ok (.istore 6, 2) := by decide +kernel
theorem dL_law_2815 : decode cL_law 2815 = .ok (.aload_n 2, 1) := by decide +kernel
theorem dL_law_2816 : decode cL_law 2816 = .ok (.aload_n 0, 1) := by decide +kernel
theorem dL_law_2817 : decode cL_law 2817 = .ok (.iload 5, 2) := by decide +kernel
theorem dL_law_2819 : decode cL_law 2819 = .ok (.iconst 1, 1) := by decide +kernel
theorem dL_law_2820 : decode cL_law 2820 = .ok (.iadd, 1) := by decide +kernel
theorem dL_law_2821 : decode cL_law 2821 = .ok (.iaload, 1) := by decide +kernel
theorem dL_law_2822 : decode cL_law 2822 = .ok (.invokevirtual 299, 3) := by decide +kernel
theorem dL_law_2825 : decode cL_law 2825 = .ok (.istore 7, 2) := by decide +kernel
theorem dL_law_2827 : decode cL_law 2827 = .ok (.aload_n 2, 1) := by decide +kernel
theorem dL_law_2828 : decode cL_law 2828 = .ok (.invokevirtual 160, 3) := by decide +kernel
theorem dL_law_2831 : decode cL_law 2831 = .ok (.iload 6, 2) := by decide +kernel
theorem dL_law_2833 : decode cL_law 2833 = .ok (.if_icmp .eq 5, 3) := by decide +kernel
theorem dL_law_2836 : decode cL_law 2836 = .ok (.iconst 0, 1) := by decide +kernel
theorem dL_law_2837 : decode cL_law 2837 = .ok (.ireturn, 1) := by decide +kernel
theorem dL_law_2838 : decode cL_law 2838 = .ok (.iload 6, 2) := by decide +kernel
theorem dL_law_2840 : decode cL_law 2840 = .ok (.ifCond .ne 15, 3) := by decide +kernel
theorem dL_law_2843 : decode cL_law 2843 = .ok (.aload_n 3, 1) := by decide +kernel
theorem dL_law_2844 : decode cL_law 2844 = .ok (.iconst 0, 1) := by decide +kernel
theorem dL_law_2845 : decode cL_law 2845 = .ok (.laload, 1) := by decide +kernel
theorem dL_law_2846 : decode cL_law 2846 = .ok (.iload 7, 2) := by decide +kernel
theorem dL_law_2848 : decode cL_law 2848 = .ok (.i2l, 1) := by decide +kernel
theorem dL_law_2849 : decode cL_law 2849 = .ok (.lcmp, 1) := by decide +kernel
theorem dL_law_2850 : decode cL_law 2850 = .ok (.ifCond .eq 5, 3) := by decide +kernel
theorem dL_law_2853 : decode cL_law 2853 = .ok (.iconst 0, 1) := by decide +kernel
theorem dL_law_2854 : decode cL_law 2854 = .ok (.ireturn, 1) := by decide +kernel
theorem dL_law_2855 : decode cL_law 2855 = .ok (.goto 517, 3) := by decide +kernel
theorem dL_law_2858 : decode cL_law 2858 = .ok (.aload_n 1, 1) := by decide +kernel
theorem dL_law_2859 : decode cL_law 2859 = .ok (.aload_n 0, 1) := by decide +kernel
theorem dL_law_2860 : decode cL_law 2860 = .ok (.iload 5, 2) := by decide +kernel
theorem dL_law_2862 : decode cL_law 2862 = .ok (.iconst 1, 1) := by decide +kernel
theorem dL_law_2863 : decode cL_law 2863 = .ok (.iadd, 1) := by decide +kernel
theorem dL_law_2864 : decode cL_law 2864 = .ok (.iaload, 1) := by decide +kernel
theorem dL_law_2865 : decode cL_law 2865 = .ok (.aload_n 0, 1) := by decide +kernel
theorem dL_law_2866 : decode cL_law 2866 = .ok (.iload 5, 2) := by decide +kernel
theorem dL_law_2868 : decode cL_law 2868 = .ok (.iconst 2, 1) := by decide +kernel
theorem dL_law_2869 : decode cL_law 2869 = .ok (.iadd, 1) := by decide +kernel
theorem dL_law_2870 : decode cL_law 2870 = .ok (.iaload, 1) := by decide +kernel
theorem dL_law_2871 : decode cL_law 2871 = .ok (.ifCond .eq 7, 3) := by decide +kernel
theorem dL_law_2874 : decode cL_law 2874 = .ok (.iconst 1, 1) := by decide +kernel
theorem dL_law_2875 : decode cL_law 2875 = .ok (.goto 4, 3) := by decide +kernel
theorem dL_law_2878 : decode cL_law 2878 = .ok (.iconst 0, 1) := by decide +kernel
theorem dL_law_2879 : decode cL_law 2879 = .ok (.aload_n 0, 1) := by decide +kernel
theorem dL_law_2880 : decode cL_law 2880 = .ok (.iload 5, 2) := by decide +kernel
theorem dL_law_2882 : decode cL_law 2882 = .ok (.iconst 3, 1) := by decide +kernel
theorem dL_law_2883 : decode cL_law 2883 = .ok (.iadd, 1) := by decide +kernel
theorem dL_law_2884 : decode cL_law 2884 = .ok (.iaload, 1) := by decide +kernel
theorem dL_law_2885 : decode cL_law 2885 = .ok (.aload_n 3, 1) := by decide +kernel
theorem dL_law_2886 : decode cL_law 2886 = .ok (.invokestatic 300, 3) := by decide +kernel
theorem dL_law_2889 : decode cL_law 2889 = .ok (.istore 6, 2) := by decide +kernel
theorem dL_law_2891 : decode cL_law 2891 = .ok (.aload_n 2, 1) := by decide +kernel
theorem dL_law_2892 : decode cL_law 2892 = .ok (.aload_n 0, 1) := by decide +kernel
theorem dL_law_2893 : decode cL_law 2893 = .ok (.iload 5, 2) := by decide +kernel
theorem dL_law_2895 : decode cL_law 2895 = .ok (.iconst 1, 1) := by decide +kernel
theorem dL_law_2896 : decode cL_law 2896 = .ok (.iadd, 1) := by decide +kernel
theorem dL_law_2897 : decode cL_law 2897 = .ok (.iaload, 1) := by decide +kernel
theorem dL_law_2898 : decode cL_law 2898 = .ok (.aload_n 0, 1) := by decide +kernel
theorem dL_law_2899 : decode cL_law 2899 = .ok (.iload 5, 2) := by decide +kernel
theorem dL_law_2901 : decode cL_law 2901 = .ok (.iconst 2, 1) := by decide +kernel
theorem dL_law_2902 : decode cL_law 2902 = .ok (.iadd, 1) := by decide +kernel
theorem dL_law_2903 : decode cL_law 2903 = .ok (.iaload, 1) := by decide +kernel
theorem dL_law_2904 : decode cL_law 2904 = .ok (.ifCond .eq 7, 3) := by decide +kernel
theorem dL_law_2907 : decode cL_law 2907 = .ok (.iconst 1, 1) := by decide +kernel
theorem dL_law_2908 : decode cL_law 2908 = .ok (.goto 4, 3) := by decide +kernel
theorem dL_law_2911 : decode cL_law 2911 = .ok (.iconst 0, 1) := by decide +kernel
theorem dL_law_2912 : decode cL_law 2912 = .ok (.aload_n 0, 1) := by decide +kernel
theorem dL_law_2913 : decode cL_law 2913 = .ok (.iload 5, 2) := by decide +kernel
theorem dL_law_2915 : decode cL_law 2915 = .ok (.iconst 3, 1) := by decide +kernel
theorem dL_law_2916 : decode cL_law 2916 = .ok (.iadd, 1) := by decide +kernel
theorem dL_law_2917 : decode cL_law 2917 = .ok (.iaload, 1) := by decide +kernel
theorem dL_law_2918 : decode cL_law 2918 = .ok (.invokevirtual 302, 3) := by decide +kernel
theorem dL_law_2921 : decode cL_law 2921 = .ok (.istore 7, 2) := by decide +kernel
theorem dL_law_2923 : decode cL_law 2923 = .ok (.aload_n 2, 1) := by decide +kernel
theorem dL_law_2924 : decode cL_law 2924 = .ok (.invokevirtual 160, 3) := by decide +kernel
theorem dL_law_2927 : decode cL_law 2927 = .ok (.iload 6, 2) := by decide +kernel
theorem dL_law_2929 : decode cL_law 2929 = .ok (.if_icmp .eq 5, 3) := by decide +kernel
theorem dL_law_2932 : decode cL_law 2932 = .ok (.iconst 0, 1) := by decide +kernel
theorem dL_law_2933 : decode cL_law 2933 = .ok (.ireturn, 1) := by decide +kernel
theorem dL_law_2934 : decode cL_law 2934 = .ok (.iload 6, 2) := by decide +kernel
theorem dL_law_2936 : decode cL_law 2936 = .ok (.ifCond .ne 15, 3) := by decide +kernel
theorem dL_law_2939 : decode cL_law 2939 = .ok (.aload_n 3, 1) := by decide +kernel
theorem dL_law_2940 : decode cL_law 2940 = .ok (.iconst 0, 1) := by decide +kernel
theorem dL_law_2941 : decode cL_law 2941 = .ok (.laload, 1) := by decide +kernel
theorem dL_law_2942 : decode cL_law 2942 = .ok (.iload 7, 2) := by decide +kernel
theorem dL_law_2944 : decode cL_law 2944 = .ok (.i2l, 1) := by decide +kernel
theorem dL_law_2945 : decode cL_law 2945 = .ok (.lcmp, 1) := by decide +kernel
theorem dL_law_2946 : decode cL_law 2946 = .ok (.ifCond .eq 5, 3) := by decide +kernel
theorem dL_law_2949 : decode cL_law 2949 = .ok (.iconst 0, 1) := by decide +kernel
theorem dL_law_2950 : decode cL_law 2950 = .ok (.ireturn, 1) := by decide +kernel
theorem dL_law_2951 : decode cL_law 2951 = .ok (.goto 421, 3) := by decide +kernel
theorem dL_law_2954 : decode cL_law 2954 = .ok (.aload_n 1, 1) := by decide +kernel
theorem dL_law_2955 : decode cL_law 2955 = .ok (.aload_n 0, 1) := by decide +kernel
theorem dL_law_2956 : decode cL_law 2956 = .ok (.iload 5, 2) := by decide +kernel
theorem dL_law_2958 : decode cL_law 2958 = .ok (.iconst 1, 1) := by decide +kernel
theorem dL_law_2959 : decode cL_law 2959 = .ok (.iadd, 1) := by decide +kernel
theorem dL_law_2960 : decode cL_law 2960 = .ok (.iaload, 1) := by decide +kernel
theorem dL_law_2961 : decode cL_law 2961 = .ok (.aload_n 0, 1) := by decide +kernel
theorem dL_law_2962 : decode cL_law 2962 = .ok (.iload 5, 2) := by decide +kernel
theorem dL_law_2964 : decode cL_law 2964 = .ok (.iconst 2, 1) := by decide +kernel
theorem dL_law_2965 : decode cL_law 2965 = .ok (.iadd, 1) := by decide +kernel
theorem dL_law_2966 : decode cL_law 2966 = .ok (.iaload, 1) := by decide +kernel
theorem dL_law_2967 : decode cL_law 2967 = .ok (.aload_n 3, 1) := by decide +kernel
theorem dL_law_2968 : decode cL_law 2968 = .ok (.invokestatic 303, 3) := by decide +kernel
theorem dL_law_2971 : decode cL_law 2971 = .ok (.istore 6, 2) := by decide +kernel
theorem dL_law_2973 : decode cL_law 2973 = .ok (.aload_n 2, 1) := by decide +kernel
theorem dL_law_2974 : decode cL_law 2974 = .ok (.aload_n 0, 1) := by decide +kernel
theorem dL_law_2975 : decode cL_law 2975 = .ok (.iload 5, 2) := by decide +kernel
theorem dL_law_2977 : decode cL_law 2977 = .ok (.iconst 1, 1) := by decide +kernel
theorem dL_law_2978 : decode cL_law 2978 = .ok (.iadd, 1) := by decide +kernel
theorem dL_law_2979 : decode cL_law 2979 = .ok (.iaload, 1) := by decide +kernel
theorem dL_law_2980 : decode cL_law 2980 = .ok (.aload_n 0, 1) := by decide +kernel
theorem dL_law_2981 : decode cL_law 2981 = .ok (.iload 5, 2) := by decide +kernel
theorem dL_law_2983 : decode cL_law 2983 = .ok (.iconst 2, 1) := by decide +kernel
theorem dL_law_2984 : decode cL_law 2984 = .ok (.iadd, 1) := by decide +kernel
theorem dL_law_2985 : decode cL_law 2985 = .ok (.iaload, 1) := by decide +kernel
theorem dL_law_2986 : decode cL_law 2986 = .ok (.invokevirtual 305, 3) := by decide +kernel
theorem dL_law_2989 : decode cL_law 2989 = .ok (.istore 7, 2) := by decide +kernel
theorem dL_law_2991 : decode cL_law 2991 = .ok (.aload_n 2, 1) := by decide +kernel
theorem dL_law_2992 : decode cL_law 2992 = .ok (.invokevirtual 160, 3) := by decide +kernel
theorem dL_law_2995 : decode cL_law 2995 = .ok (.iload 6, 2) := by decide +kernel
theorem dL_law_2997 : decode cL_law 2997 = .ok (.if_icmp .eq 5, 3) := by decide +kernel
theorem dL_law_3000 : decode cL_law 3000 = .ok (.iconst 0, 1) := by decide +kernel
theorem dL_law_3001 : decode cL_law 3001 = .ok (.ireturn, 1) := by decide +kernel
theorem dL_law_3002 : decode cL_law 3002 = .ok (.iload 6, 2) := by decide +kernel
theorem dL_law_3004 : decode cL_law 3004 = .ok (.ifCond .ne 15, 3) := by decide +kernel
theorem dL_law_3007 : decode cL_law 3007 = .ok (.aload_n 3, 1) := by decide +kernel
theorem dL_law_3008 : decode cL_law 3008 = .ok (.iconst 0, 1) := by decide +kernel
theorem dL_law_3009 : decode cL_law 3009 = .ok (.laload, 1) := by decide +kernel
theorem dL_law_3010 : decode cL_law 3010 = .ok (.iload 7, 2) := by decide +kernel
theorem dL_law_3012 : decode cL_law 3012 = .ok (.i2l, 1) := by decide +kernel
theorem dL_law_3013 : decode cL_law 3013 = .ok (.lcmp, 1) := by decide +kernel
theorem dL_law_3014 : decode cL_law 3014 = .ok (.ifCond .eq 5, 3) := by decide +kernel
theorem dL_law_3017 : decode cL_law 3017 = .ok (.iconst 0, 1) := by decide +kernel
theorem dL_law_3018 : decode cL_law 3018 = .ok (.ireturn, 1) := by decide +kernel
theorem dL_law_3019 : decode cL_law 3019 = .ok (.goto 353, 3) := by decide +kernel
theorem dL_law_3022 : decode cL_law 3022 = .ok (.aload_n 1, 1) := by decide +kernel
theorem dL_law_3023 : decode cL_law 3023 = .ok (.aload_n 0, 1) := by decide +kernel
theorem dL_law_3024 : decode cL_law 3024 = .ok (.iload 5, 2) := by decide +kernel
theorem dL_law_3026 : decode cL_law 3026 = .ok (.iconst 1, 1) := by decide +kernel
theorem dL_law_3027 : decode cL_law 3027 = .ok (.iadd, 1) := by decide +kernel
theorem dL_law_3028 : decode cL_law 3028 = .ok (.iaload, 1) := by decide +kernel
theorem dL_law_3029 : decode cL_law 3029 = .ok (.aload_n 3, 1) := by decide +kernel
theorem dL_law_3030 : decode cL_law 3030 = .ok (.invokestatic 306, 3) := by decide +kernel
theorem dL_law_3033 : decode cL_law 3033 = .ok (.istore 6, 2) := by decide +kernel
theorem dL_law_3035 : decode cL_law 3035 = .ok (.aload_n 2, 1) := by decide +kernel
theorem dL_law_3036 : decode cL_law 3036 = .ok (.aload_n 0, 1) := by decide +kernel
theorem dL_law_3037 : decode cL_law 3037 = .ok (.iload 5, 2) := by decide +kernel
theorem dL_law_3039 : decode cL_law 3039 = .ok (.iconst 1, 1) := by decide +kernel
theorem dL_law_3040 : decode cL_law 3040 = .ok (.iadd, 1) := by decide +kernel
theorem dL_law_3041 : decode cL_law 3041 = .ok (.iaload, 1) := by decide +kernel
theorem dL_law_3042 : decode cL_law 3042 = .ok (.invokevirtual 308, 3) := by decide +kernel
theorem dL_law_3045 : decode cL_law 3045 = .ok (.istore 7, 2) := by decide +kernel
theorem dL_law_3047 : decode cL_law 3047 = .ok (.aload_n 2, 1) := by decide +kernel
theorem dL_law_3048 : decode cL_law 3048 = .ok (.invokevirtual 160, 3) := by decide +kernel
theorem dL_law_3051 : decode cL_law 3051 = .ok (.iload 6, 2) := by decide +kernel
theorem dL_law_3053 : decode cL_law 3053 = .ok (.if_icmp .eq 5, 3) := by decide +kernel
theorem dL_law_3056 : decode cL_law 3056 = .ok (.iconst 0, 1) := by decide +kernel
theorem dL_law_3057 : decode cL_law 3057 = .ok (.ireturn, 1) := by decide +kernel
theorem dL_law_3058 : decode cL_law 3058 = .ok (.iload 6, 2) := by decide +kernel
theorem dL_law_3060 : decode cL_law 3060 = .ok (.ifCond .ne 15, 3) := by decide +kernel
theorem dL_law_3063 : decode cL_law 3063 = .ok (.aload_n 3, 1) := by decide +kernel
theorem dL_law_3064 : decode cL_law 3064 = .ok (.iconst 0, 1) := by decide +kernel
theorem dL_law_3065 : decode cL_law 3065 = .ok (.laload, 1) := by decide +kernel
theorem dL_law_3066 : decode cL_law 3066 = .ok (.iload 7, 2) := by decide +kernel
theorem dL_law_3068 : decode cL_law 3068 = .ok (.i2l, 1) := by decide +kernel
theorem dL_law_3069 : decode cL_law 3069 = .ok (.lcmp, 1) := by decide +kernel
theorem dL_law_3070 : decode cL_law 3070 = .ok (.ifCond .eq 5, 3) := by decide +kernel
theorem dL_law_3073 : decode cL_law 3073 = .ok (.iconst 0, 1) := by decide +kernel
theorem dL_law_3074 : decode cL_law 3074 = .ok (.ireturn, 1) := by decide +kernel
theorem dL_law_3075 : decode cL_law 3075 = .ok (.goto 297, 3) := by decide +kernel
theorem dL_law_3078 : decode cL_law 3078 = .ok (.aload_n 1, 1) := by decide +kernel
theorem dL_law_3079 : decode cL_law 3079 = .ok (.aload_n 0, 1) := by decide +kernel
theorem dL_law_3080 : decode cL_law 3080 = .ok (.iload 5, 2) := by decide +kernel
theorem dL_law_3082 : decode cL_law 3082 = .ok (.iconst 1, 1) := by decide +kernel
theorem dL_law_3083 : decode cL_law 3083 = .ok (.iadd, 1) := by decide +kernel
theorem dL_law_3084 : decode cL_law 3084 = .ok (.iaload, 1) := by decide +kernel
theorem dL_law_3085 : decode cL_law 3085 = .ok (.aload_n 3, 1) := by decide +kernel
theorem dL_law_3086 : decode cL_law 3086 = .ok (.invokestatic 309, 3) := by decide +kernel
theorem dL_law_3089 : decode cL_law 3089 = .ok (.istore 6, 2) := by decide +kernel
theorem dL_law_3091 : decode cL_law 3091 = .ok (.aload_n 2, 1) := by decide +kernel
theorem dL_law_3092 : decode cL_law 3092 = .ok (.aload_n 0, 1) := by decide +kernel
theorem dL_law_3093 : decode cL_law 3093 = .ok (.iload 5, 2) := by decide +kernel
theorem dL_law_3095 : decode cL_law 3095 = .ok (.iconst 1, 1) := by decide +kernel
theorem dL_law_3096 : decode cL_law 3096 = .ok (.iadd, 1) := by decide +kernel
theorem dL_law_3097 : decode cL_law 3097 = .ok (.iaload, 1) := by decide +kernel
theorem dL_law_3098 : decode cL_law 3098 = .ok (.invokevirtual 311, 3) := by decide +kernel
theorem dL_law_3101 : decode cL_law 3101 = .ok (.istore 7, 2) := by decide +kernel
theorem dL_law_3103 : decode cL_law 3103 = .ok (.aload_n 2, 1) := by decide +kernel
theorem dL_law_3104 : decode cL_law 3104 = .ok (.invokevirtual 160, 3) := by decide +kernel
theorem dL_law_3107 : decode cL_law 3107 = .ok (.iload 6, 2) := by decide +kernel
theorem dL_law_3109 : decode cL_law 3109 = .ok (.if_icmp .eq 5, 3) := by decide +kernel
theorem dL_law_3112 : decode cL_law 3112 = .ok (.iconst 0, 1) := by decide +kernel
theorem dL_law_3113 : decode cL_law 3113 = .ok (.ireturn, 1) := by decide +kernel
theorem dL_law_3114 : decode cL_law 3114 = .ok (.iload 6, 2) := by decide +kernel
theorem dL_law_3116 : decode cL_law 3116 = .ok (.ifCond .ne 15, 3) := by decide +kernel
theorem dL_law_3119 : decode cL_law 3119 = .ok (.aload_n 3, 1) := by decide +kernel
theorem dL_law_3120 : decode cL_law 3120 = .ok (.iconst 0, 1) := by decide +kernel
theorem dL_law_3121 : decode cL_law 3121 = .ok (.laload, 1) := by decide +kernel
theorem dL_law_3122 : decode cL_law 3122 = .ok (.iload 7, 2) := by decide +kernel
theorem dL_law_3124 : decode cL_law 3124 = .ok (.i2l, 1) := by decide +kernel
theorem dL_law_3125 : decode cL_law 3125 = .ok (.lcmp, 1) := by decide +kernel
theorem dL_law_3126 : decode cL_law 3126 = .ok (.ifCond .eq 5, 3) := by decide +kernel
theorem dL_law_3129 : decode cL_law 3129 = .ok (.iconst 0, 1) := by decide +kernel
theorem dL_law_3130 : decode cL_law 3130 = .ok (.ireturn, 1) := by decide +kernel
theorem dL_law_3131 : decode cL_law 3131 = .ok (.goto 241, 3) := by decide +kernel
theorem dL_law_3134 : decode cL_law 3134 = .ok (.aload_n 1, 1) := by decide +kernel
theorem dL_law_3135 : decode cL_law 3135 = .ok (.aload_n 0, 1) := by decide +kernel
theorem dL_law_3136 : decode cL_law 3136 = .ok (.iload 5, 2) := by decide +kernel
theorem dL_law_3138 : decode cL_law 3138 = .ok (.iconst 1, 1) := by decide +kernel
theorem dL_law_3139 : decode cL_law 3139 = .ok (.iadd, 1) := by decide +kernel
theorem dL_law_3140 : decode cL_law 3140 = .ok (.iaload, 1) := by decide +kernel
theorem dL_law_3141 : decode cL_law 3141 = .ok (.aload_n 3, 1) := by decide +kernel
theorem dL_law_3142 : decode cL_law 3142 = .ok (.invokestatic 312, 3) := by decide +kernel
theorem dL_law_3145 : decode cL_law 3145 = .ok (.istore 6, 2) := by decide +kernel
theorem dL_law_3147 : decode cL_law 3147 = .ok (.aload_n 2, 1) := by decide +kernel
theorem dL_law_3148 : decode cL_law 3148 = .ok (.aload_n 0, 1) := by decide +kernel
theorem dL_law_3149 : decode cL_law 3149 = .ok (.iload 5, 2) := by decide +kernel
theorem dL_law_3151 : decode cL_law 3151 = .ok (.iconst 1, 1) := by decide +kernel
theorem dL_law_3152 : decode cL_law 3152 = .ok (.iadd, 1) := by decide +kernel
theorem dL_law_3153 : decode cL_law 3153 = .ok (.iaload, 1) := by decide +kernel
theorem dL_law_3154 : decode cL_law 3154 = .ok (.invokevirtual 314, 3) := by decide +kernel
theorem dL_law_3157 : decode cL_law 3157 = .ok (.istore 7, 2) := by decide +kernel
theorem dL_law_3159 : decode cL_law 3159 = .ok (.aload_n 2, 1) := by decide +kernel
theorem dL_law_3160 : decode cL_law 3160 = .ok (.invokevirtual 160, 3) := by decide +kernel
theorem dL_law_3163 : decode cL_law 3163 = .ok (.iload 6, 2) := by decide +kernel
theorem dL_law_3165 : decode cL_law 3165 = .ok (.if_icmp .eq 5, 3) := by decide +kernel
theorem dL_law_3168 : decode cL_law 3168 = .ok (.iconst 0, 1) := by decide +kernel
theorem dL_law_3169 : decode cL_law 3169 = .ok (.ireturn, 1) := by decide +kernel
theorem dL_law_3170 : decode cL_law 3170 = .ok (.iload 6, 2) := by decide +kernel
theorem dL_law_3172 : decode cL_law 3172 = .ok (.ifCond .ne 15, 3) := by decide +kernel
theorem dL_law_3175 : decode cL_law 3175 = .ok (.aload_n 3, 1) := by decide +kernel
theorem dL_law_3176 : decode cL_law 3176 = .ok (.iconst 0, 1) := by decide +kernel
theorem dL_law_3177 : decode cL_law 3177 = .ok (.laload, 1) := by decide +kernel
theorem dL_law_3178 : decode cL_law 3178 = .ok (.iload 7, 2) := by decide +kernel
theorem dL_law_3180 : decode cL_law 3180 = .ok (.i2l, 1) := by decide +kernel
theorem dL_law_3181 : decode cL_law 3181 = .ok (.lcmp, 1) := by decide +kernel
theorem dL_law_3182 : decode cL_law 3182 = .ok (.ifCond .eq 5, 3) := by decide +kernel
theorem dL_law_3185 : decode cL_law 3185 = .ok (.iconst 0, 1) := by decide +kernel
theorem dL_law_3186 : decode cL_law 3186 = .ok (.ireturn, 1) := by decide +kernel
theorem dL_law_3187 : decode cL_law 3187 = .ok (.goto 185, 3) := by decide +kernel
theorem dL_law_3190 : decode cL_law 3190 = .ok (.aload_n 1, 1) := by decide +kernel
theorem dL_law_3191 : decode cL_law 3191 = .ok (.aload_n 3, 1) := by decide +kernel
theorem dL_law_3192 : decode cL_law 3192 = .ok (.invokestatic 315, 3) := by decide +kernel
theorem dL_law_3195 : decode cL_law 3195 = .ok (.istore 6, 2) := by decide +kernel
theorem dL_law_3197 : decode cL_law 3197 = .ok (.aload_n 2, 1) := by decide +kernel
theorem dL_law_3198 : decode cL_law 3198 = .ok (.invokevirtual 318, 3) := by decide +kernel
theorem dL_law_3201 : decode cL_law 3201 = .ok (.istore 7, 2) := by decide +kernel
theorem dL_law_3203 : decode cL_law 3203 = .ok (.aload_n 2, 1) := by decide +kernel
theorem dL_law_3204 : decode cL_law 3204 = .ok (.invokevirtual 160, 3) := by decide +kernel
theorem dL_law_3207 : decode cL_law 3207 = .ok (.iload 6, 2) := by decide +kernel
theorem dL_law_3209 : decode cL_law 3209 = .ok (.if_icmp .eq 5, 3) := by decide +kernel
theorem dL_law_3212 : decode cL_law 3212 = .ok (.iconst 0, 1) := by decide +kernel
theorem dL_law_3213 : decode cL_law 3213 = .ok (.ireturn, 1) := by decide +kernel
theorem dL_law_3214 : decode cL_law 3214 = .ok (.iload 6, 2) := by decide +kernel
theorem dL_law_3216 : decode cL_law 3216 = .ok (.ifCond .ne 15, 3) := by decide +kernel
theorem dL_law_3219 : decode cL_law 3219 = .ok (.aload_n 3, 1) := by decide +kernel
theorem dL_law_3220 : decode cL_law 3220 = .ok (.iconst 0, 1) := by decide +kernel
theorem dL_law_3221 : decode cL_law 3221 = .ok (.laload, 1) := by decide +kernel
theorem dL_law_3222 : decode cL_law 3222 = .ok (.iload 7, 2) := by decide +kernel
theorem dL_law_3224 : decode cL_law 3224 = .ok (.i2l, 1) := by decide +kernel
theorem dL_law_3225 : decode cL_law 3225 = .ok (.lcmp, 1) := by decide +kernel
theorem dL_law_3226 : decode cL_law 3226 = .ok (.ifCond .eq 5, 3) := by decide +kernel
theorem dL_law_3229 : decode cL_law 3229 = .ok (.iconst 0, 1) := by decide +kernel
theorem dL_law_3230 : decode cL_law 3230 = .ok (.ireturn, 1) := by decide +kernel
theorem dL_law_3231 : decode cL_law 3231 = .ok (.goto 141, 3) := by decide +kernel
theorem dL_law_3234 : decode cL_law 3234 = .ok (.aload_n 1, 1) := by decide +kernel
theorem dL_law_3235 : decode cL_law 3235 = .ok (.invokevirtual 319, 3) := by decide +kernel
theorem dL_law_3238 : decode cL_law 3238 = .ok (.aload_n 2, 1) := by decide +kernel
theorem dL_law_3239 : decode cL_law 3239 = .ok (.invokevirtual 322, 3) := by decide +kernel
theorem dL_law_3242 : decode cL_law 3242 = .ok (.if_icmp .eq 130, 3) := by decide +kernel
theorem dL_law_3245 : decode cL_law 3245 = .ok (.iconst 0, 1) := by decide +kernel
theorem dL_law_3246 : decode cL_law 3246 = .ok (.ireturn, 1) := by decide +kernel
theorem dL_law_3247 : decode cL_law 3247 = .ok (.aload_n 1, 1) := by decide +kernel
theorem dL_law_3248 : decode cL_law 3248 = .ok (.invokevirtual 323, 3) := by decide +kernel
theorem dL_law_3251 : decode cL_law 3251 = .ok (.aload_n 2, 1) := by decide +kernel
theorem dL_law_3252 : decode cL_law 3252 = .ok (.invokevirtual 326, 3) := by decide +kernel
theorem dL_law_3255 : decode cL_law 3255 = .ok (.if_icmp .eq 117, 3) := by decide +kernel
theorem dL_law_3258 : decode cL_law 3258 = .ok (.iconst 0, 1) := by decide +kernel
theorem dL_law_3259 : decode cL_law 3259 = .ok (.ireturn, 1) := by decide +kernel
theorem dL_law_3260 : decode cL_law 3260 = .ok (.aload_n 1, 1) := by decide +kernel
theorem dL_law_3261 : decode cL_law 3261 = .ok (.aload_n 0, 1) := by decide +kernel
theorem dL_law_3262 : decode cL_law 3262 = .ok (.iload 5, 2) := by decide +kernel
theorem dL_law_3264 : decode cL_law 3264 = .ok (.iconst 1, 1) := by decide +kernel
theorem dL_law_3265 : decode cL_law 3265 = .ok (.iadd, 1) := by decide +kernel
theorem dL_law_3266 : decode cL_law 3266 = .ok (.iaload, 1) := by decide +kernel
theorem dL_law_3267 : decode cL_law 3267 = .ok (.aload_n 3, 1) := by decide +kernel
theorem dL_law_3268 : decode cL_law 3268 = .ok (.invokestatic 327, 3) := by decide +kernel
theorem dL_law_3271 : decode cL_law 3271 = .ok (.istore 6, 2) := by decide +kernel
theorem dL_law_3273 : decode cL_law 3273 = .ok (.aload_n 2, 1) := by decide +kernel
theorem dL_law_3274 : decode cL_law 3274 = .ok (.aload_n 0, 1) := by decide +kernel
theorem dL_law_3275 : decode cL_law 3275 = .ok (.iload 5, 2) := by decide +kernel
theorem dL_law_3277 : decode cL_law 3277 = .ok (.iconst 1, 1) := by decide +kernel
theorem dL_law_3278 : decode cL_law 3278 = .ok (.iadd, 1) := by decide +kernel
theorem dL_law_3279 : decode cL_law 3279 = .ok (.iaload, 1) := by decide +kernel
theorem dL_law_3280 : decode cL_law 3280 = .ok (.invokevirtual 329, 3) := by decide +kernel
theorem dL_law_3283 : decode cL_law 3283 = .ok (.istore 7, 2) := by decide +kernel
theorem dL_law_3285 : decode cL_law 3285 = .ok (.aload_n 2, 1) := by decide +kernel
theorem dL_law_3286 : decode cL_law 3286 = .ok (.invokevirtual 160, 3) := by decide +kernel
theorem dL_law_3289 : decode cL_law 3289 = .ok (.iload 6, 2) := by decide +kernel
theorem dL_law_3291 : decode cL_law 3291 = .ok (.if_icmp .eq 5, 3) := by decide +kernel
theorem dL_law_3294 : decode cL_law 3294 = .ok (.iconst 0, 1) := by decide +kernel
theorem dL_law_3295 : decode cL_law 3295 = .ok (.ireturn, 1) := by decide +kernel
theorem dL_law_3296 : decode cL_law 3296 = .ok (.iload 6, 2) := by decide +kernel
theorem dL_law_3298 : decode cL_law 3298 = .ok (.ifCond .ne 15, 3) := by decide +kernel
theorem dL_law_3301 : decode cL_law 3301 = .ok (.aload_n 3, 1) := by decide +kernel
theorem dL_law_3302 : decode cL_law 3302 = .ok (.iconst 0, 1) := by decide +kernel
theorem dL_law_3303 : decode cL_law 3303 = .ok (.laload, 1) := by decide +kernel
theorem dL_law_3304 : decode cL_law 3304 = .ok (.iload 7, 2) := by decide +kernel
theorem dL_law_3306 : decode cL_law 3306 = .ok (.i2l, 1) := by decide +kernel
theorem dL_law_3307 : decode cL_law 3307 = .ok (.lcmp, 1) := by decide +kernel
theorem dL_law_3308 : decode cL_law 3308 = .ok (.ifCond .eq 5, 3) := by decide +kernel
theorem dL_law_3311 : decode cL_law 3311 = .ok (.iconst 0, 1) := by decide +kernel
theorem dL_law_3312 : decode cL_law 3312 = .ok (.ireturn, 1) := by decide +kernel
theorem dL_law_3313 : decode cL_law 3313 = .ok (.goto 59, 3) := by decide +kernel
theorem dL_law_3316 : decode cL_law 3316 = .ok (.aload_n 1, 1) := by decide +kernel
theorem dL_law_3317 : decode cL_law 3317 = .ok (.aload_n 0, 1) := by decide +kernel
theorem dL_law_3318 : decode cL_law 3318 = .ok (.iload 5, 2) := by decide +kernel
theorem dL_law_3320 : decode cL_law 3320 = .ok (.iconst 1, 1) := by decide +kernel
theorem dL_law_3321 : decode cL_law 3321 = .ok (.iadd, 1) := by decide +kernel
theorem dL_law_3322 : decode cL_law 3322 = .ok (.iaload, 1) := by decide +kernel
theorem dL_law_3323 : decode cL_law 3323 = .ok (.aload_n 3, 1) := by decide +kernel
theorem dL_law_3324 : decode cL_law 3324 = .ok (.invokestatic 330, 3) := by decide +kernel
theorem dL_law_3327 : decode cL_law 3327 = .ok (.istore 6, 2) := by decide +kernel
theorem dL_law_3329 : decode cL_law 3329 = .ok (.aload_n 2, 1) := by decide +kernel
theorem dL_law_3330 : decode cL_law 3330 = .ok (.aload_n 0, 1) := by decide +kernel
theorem dL_law_3331 : decode cL_law 3331 = .ok (.iload 5, 2) := by decide +kernel
theorem dL_law_3333 : decode cL_law 3333 = .ok (.iconst 1, 1) := by decide +kernel
theorem dL_law_3334 : decode cL_law 3334 = .ok (.iadd, 1) := by decide +kernel
theorem dL_law_3335 : decode cL_law 3335 = .ok (.iaload, 1) := by decide +kernel
theorem dL_law_3336 : decode cL_law 3336 = .ok (.invokevirtual 332, 3) := by decide +kernel
theorem dL_law_3339 : decode cL_law 3339 = .ok (.istore 7, 2) := by decide +kernel
theorem dL_law_3341 : decode cL_law 3341 = .ok (.aload_n 2, 1) := by decide +kernel
theorem dL_law_3342 : decode cL_law 3342 = .ok (.invokevirtual 160, 3) := by decide +kernel
theorem dL_law_3345 : decode cL_law 3345 = .ok (.iload 6, 2) := by decide +kernel
theorem dL_law_3347 : decode cL_law 3347 = .ok (.if_icmp .eq 5, 3) := by decide +kernel
theorem dL_law_3350 : decode cL_law 3350 = .ok (.iconst 0, 1) := by decide +kernel
theorem dL_law_3351 : decode cL_law 3351 = .ok (.ireturn, 1) := by decide +kernel
theorem dL_law_3352 : decode cL_law 3352 = .ok (.iload 6, 2) := by decide +kernel
theorem dL_law_3354 : decode cL_law 3354 = .ok (.ifCond .ne 15, 3) := by decide +kernel
theorem dL_law_3357 : decode cL_law 3357 = .ok (.aload_n 3, 1) := by decide +kernel
theorem dL_law_3358 : decode cL_law 3358 = .ok (.iconst 0, 1) := by decide +kernel
theorem dL_law_3359 : decode cL_law 3359 = .ok (.laload, 1) := by decide +kernel
theorem dL_law_3360 : decode cL_law 3360 = .ok (.iload 7, 2) := by decide +kernel
theorem dL_law_3362 : decode cL_law 3362 = .ok (.i2l, 1) := by decide +kernel
theorem dL_law_3363 : decode cL_law 3363 = .ok (.lcmp, 1) := by decide +kernel
theorem dL_law_3364 : decode cL_law 3364 = .ok (.ifCond .eq 5, 3) := by decide +kernel
theorem dL_law_3367 : decode cL_law 3367 = .ok (.iconst 0, 1) := by decide +kernel
theorem dL_law_3368 : decode cL_law 3368 = .ok (.ireturn, 1) := by decide +kernel
theorem dL_law_3369 : decode cL_law 3369 = .ok (.goto 3, 3) := by decide +kernel
theorem dL_law_3372 : decode cL_law 3372 = .ok (.iinc 5 6, 3) := by decide +kernel
theorem dL_law_3375 : decode cL_law 3375 = .ok (.goto (-3347), 3) := by decide +kernel
theorem dL_law_3378 : decode cL_law 3378 = .ok (.iconst 1, 1) := by decide +kernel
theorem dL_law_3379 : decode cL_law 3379 = .ok (.ireturn, 1) := by decide +kernel
