theorem dL_law_2832 : decode cL_law 2832 = .ok (.iadd, 1) := by decide +kernel
theorem dL_law_2833 : decode cL_law 2833 = .ok (.iaload, 1) := by decide +kernel
theorem dL_law_2834 : decode cL_law 2834 = .ok (.aload_n 0, 1) := by decide +kernel
theorem dL_law_2835 : decode cL_law 2835 = .ok (.iload 5, 2) := by decide +kernel
theorem dL_law_2837 : decode cL_law 2837 = .ok (.iconst 2, 1) := by decide +kernel
theorem dL_law_2838 : decode cL_law 2838 = .ok (.iadd, 1) := by decide +kernel
theorem dL_law_2839 : decode cL_law 2839 = .ok (.iaload, 1) := by decide +kernel
theorem dL_law_2840 : decode cL_law 2840 = .ok (.aload_n 3, 1) := by decide +kernel
theorem dL_law_2841 : decode cL_law 2841 = .ok (.invokestatic 278, 3) := by decide +kernel
theorem dL_law_2844 : decode cL_law 2844 = .ok (.istore 6, 2) := by decide +kernel
theorem dL_law_2846 : decode cL_law 2846 = .ok (.aload_n 2, 1) := by decide +kernel
theorem dL_law_2847 : decode cL_law 2847 = .ok (.aload_n 0, 1) := by decide +kernel
theorem dL_law_2848 : decode cL_law 2848 = .ok (.iload 5, 2) := by decide +kernel
theorem dL_law_2850 : decode cL_law 2850 = .ok (.iconst 1, 1) := by decide +kernel
theorem dL_law_2851 : decode cL_law 2851 = .ok (.iadd, 1) := by decide +kernel
theorem dL_law_2852 : decode cL_law 2852 = .ok (.iaload, 1) := by decide +kernel
theorem dL_law_2853 : decode cL_law 2853 = .ok (.aload_n 0, 1) := by decide +kernel
theorem dL_law_2854 : decode cL_law 2854 = .ok (.iload 5, 2) := by decide +kernel
theorem dL_law_2856 : decode cL_law 2856 = .ok (.iconst 2, 1) := by decide +kernel
theorem dL_law_2857 : decode cL_law 2857 = .ok (.iadd, 1) := by decide +kernel
theorem dL_law_2858 : decode cL_law 2858 = .ok (.iaload, 1) := by decide +kernel
theorem dL_law_2859 : decode cL_law 2859 = .ok (.invokevirtual 280, 3) := by decide +kernel
theorem dL_law_2862 : decode cL_law 2862 = .ok (.istore 7, 2) := by decide +kernel
theorem dL_law_2864 : decode cL_law 2864 = .ok (.aload_n 2, 1) := by decide +kernel
theorem dL_law_2865 : decode cL_law 2865 = .ok (.invokevirtual 163, 3) := by decide +kernel
theorem dL_law_2868 : decode cL_law 2868 = .ok (.iload 6, 2) := by decide +kernel
theorem dL_law_2870 : decode cL_law 2870 = .ok (.if_icmp .eq 5, 3) := by decide +kernel
theorem dL_law_2873 : decode cL_law 2873 = .ok (.iconst 0, 1) := by decide +kernel
theorem dL_law_2874 : decode cL_law 2874 = .ok (.ireturn, 1) := by decide +kernel
theorem dL_law_2875 : decode cL_law 2875 = .ok (.iload 6, 2) := by decide +kernel
theorem dL_law_2877 : decode cL_law 2877 = .ok (.ifCond .ne 15, 3) := by decide +kernel
theorem dL_law_2880 : decode cL_law 2880 = .ok (.aload_n 3, 1) := by decide +kernel
theorem dL_law_2881 : decode cL_law 2881 = .ok (.iconst 0, 1) := by decide +kernel
theorem dL_law_2882 : decode cL_law 2882 = .ok (.laload, 1) := by decide +kernel
theorem dL_law_2883 : decode cL_law 2883 = .ok (.iload 7, 2) := by decide +kernel
theorem dL_law_2885 : decode cL_law 2885 = .ok (.i2l, 1) := by decide +kernel
theorem dL_law_2886 : decode cL_law 2886 = .ok (.lcmp, 1) := by decide +kernel
theorem dL_law_2887 : decode cL_law 2887 = .ok (.ifCond .eq 5, 3) := by decide +kernel
theorem dL_law_2890 : decode cL_law 2890 = .ok (.iconst 0, 1) := by decide +kernel
theorem dL_law_2891 : decode cL_law 2891 = .ok (.ireturn, 1) := by decide +kernel
theorem dL_law_2892 : decode cL_law 2892 = .ok (.goto 238, 3) := by decide +kernel
theorem dL_law_2895 : decode cL_law 2895 = .ok (.aload_n 1, 1) := by decide +kernel
theorem dL_law_2896 : decode cL_law 2896 = .ok (.aload_n 0, 1) := by decide +kernel
theorem dL_law_2897 : decode cL_law 2897 = .ok (.iload 5, 2) := by decide +kernel
theorem dL_law_2899 : decode cL_law 2899 = .ok (.iconst 1, 1) := by decide +kernel
theorem dL_law_2900 : decode cL_law 2900 = .ok (.iadd, 1) := by decide +kernel
theorem dL_law_2901 : decode cL_law 2901 = .ok (.iaload, 1) := by decide +kernel
theorem dL_law_2902 : decode cL_law 2902 = .ok (.aload_n 3, 1) := by decide +kernel
theorem dL_law_2903 : decode cL_law 2903 = .ok (.invokestatic 281, 3) := by decide +kernel
theorem dL_law_2906 : decode cL_law 2906 = .ok (.istore 6, 2) := by decide +kernel
theorem dL_law_2908 : decode cL_law 2908 = .ok (.aload_n 2, 1) := by decide +kernel
theorem dL_law_2909 : decode cL_law 2909 = .ok (.aload_n 0, 1) := by decide +kernel
theorem dL_law_2910 : decode cL_law 2910 = .ok (.iload 5, 2) := by decide +kernel
theorem dL_law_2912 : decode cL_law 2912 = .ok (.iconst 1, 1) := by decide +kernel
theorem dL_law_2913 : decode cL_law 2913 = .ok (.iadd, 1) := by decide +kernel
theorem dL_law_2914 : decode cL_law 2914 = .ok (.iaload, 1) := by decide +kernel
theorem dL_law_2915 : decode cL_law 2915 = .ok (.invokevirtual 283, 3) := by decide +kernel
theorem dL_law_2918 : decode cL_law 2918 = .ok (.lstore 7, 2) := by decide +kernel
theorem dL_law_2920 : decode cL_law 2920 = .ok (.aload_n 2, 1) := by decide +kernel
theorem dL_law_2921 : decode cL_law 2921 = .ok (.invokevirtual 163, 3) := by decide +kernel
theorem dL_law_2924 : decode cL_law 2924 = .ok (.iload 6, 2) := by decide +kernel
theorem dL_law_2926 : decode cL_law 2926 = .ok (.if_icmp .eq 5, 3) := by decide +kernel
theorem dL_law_2929 : decode cL_law 2929 = .ok (.iconst 0, 1) := by decide +kernel
theorem dL_law_2930 : decode cL_law 2930 = .ok (.ireturn, 1) := by decide +kernel
theorem dL_law_2931 : decode cL_law 2931 = .ok (.iload 6, 2) := by decide +kernel
theorem dL_law_2933 : decode cL_law 2933 = .ok (.ifCond .ne 14, 3) := by decide +kernel
theorem dL_law_2936 : decode cL_law 2936 = .ok (.aload_n 3, 1) := by decide +kernel
theorem dL_law_2937 : decode cL_law 2937 = .ok (.iconst 0, 1) := by decide +kernel
theorem dL_law_2938 : decode cL_law 2938 = .ok (.laload, 1) := by decide +kernel
theorem dL_law_2939 : decode cL_law 2939 = .ok (.lload 7, 2) := by decide +kernel
theorem dL_law_2941 : decode cL_law 2941 = .ok (.lcmp, 1) := by decide +kernel
theorem dL_law_2942 : decode cL_law 2942 = .ok (.ifCond .eq 5, 3) := by decide +kernel
theorem dL_law_2945 : decode cL_law 2945 = .ok (.iconst 0, 1) := by decide +kernel
theorem dL_law_2946 : decode cL_law 2946 = .ok (.ireturn, 1) := by decide +kernel
theorem dL_law_2947 : decode cL_law 2947 = .ok (.goto 183, 3) := by decide +kernel
theorem dL_law_2950 : decode cL_law 2950 = .ok (.aload_n 1, 1) := by decide +kernel
theorem dL_law_2951 : decode cL_law 2951 = .ok (.aload_n 0, 1) := by decide +kernel
theorem dL_law_2952 : decode cL_law 2952 = .ok (.iload 5, 2) := by decide +kernel
theorem dL_law_2954 : decode cL_law 2954 = .ok (.iconst 1, 1) := by decide +kernel
theorem dL_law_2955 : decode cL_law 2955 = .ok (.iadd, 1) := by decide +kernel
theorem dL_law_2956 : decode cL_law 2956 = .ok (.iaload, 1) := by decide +kernel
theorem dL_law_2957 : decode cL_law 2957 = .ok (.aload 4, 2) := by decide +kernel
theorem dL_law_2959 : decode cL_law 2959 = .ok (.invokestatic 284, 3) := by decide +kernel
theorem dL_law_2962 : decode cL_law 2962 = .ok (.istore 6, 2) := by decide +kernel
theorem dL_law_2964 : decode cL_law 2964 = .ok (.aload_n 2, 1) := by decide +kernel
theorem dL_law_2965 : decode cL_law 2965 = .ok (.aload_n 0, 1) := by decide +kernel
theorem dL_law_2966 : decode cL_law 2966 = .ok (.iload 5, 2) := by decide +kernel
theorem dL_law_2968 : decode cL_law 2968 = .ok (.iconst 1, 1) := by decide +kernel
theorem dL_law_2969 : decode cL_law 2969 = .ok (.iadd, 1) := by decide +kernel
theorem dL_law_2970 : decode cL_law 2970 = .ok (.iaload, 1) := by decide +kernel
theorem dL_law_2971 : decode cL_law 2971 = .ok (.invokevirtual 287, 3) := by decide +kernel
theorem dL_law_2974 : decode cL_law 2974 = .ok (.fstore 7, 2) := by decide +kernel
theorem dL_law_2976 : decode cL_law 2976 = .ok (.aload_n 2, 1) := by decide +kernel
theorem dL_law_2977 : decode cL_law 2977 = .ok (.invokevirtual 163, 3) := by decide +kernel
theorem dL_law_2980 : decode cL_law 2980 = .ok (.iload 6, 2) := by decide +kernel
theorem dL_law_2982 : decode cL_law 2982 = .ok (.if_icmp .eq 5, 3) := by decide +kernel
theorem dL_law_2985 : decode cL_law 2985 = .ok (.iconst 0, 1) := by decide +kernel
theorem dL_law_2986 : decode cL_law 2986 = .ok (.ireturn, 1) := by decide +kernel
theorem dL_law_2987 : decode cL_law 2987 = .ok (.iload 6, 2) := by decide +kernel
theorem dL_law_2989 : decode cL_law 2989 = .ok (.ifCond .ne 36, 3) := by decide +kernel
theorem dL_law_2992 : decode cL_law 2992 = .ok (.aload 4, 2) := by decide +kernel
theorem dL_law_2994 : decode cL_law 2994 = .ok (.iconst 0, 1) := by decide +kernel
theorem dL_law_2995 : decode cL_law 2995 = .ok (.daload, 1) := by decide +kernel
theorem dL_law_2996 : decode cL_law 2996 = .ok (.fload 7, 2) := by decide +kernel
theorem dL_law_2998 : decode cL_law 2998 = .ok (.f2d, 1) := by decide +kernel
theorem dL_law_2999 : decode cL_law 2999 = .ok (.dcmp .l, 1) := by decide +kernel
theorem dL_law_3000 : decode cL_law 3000 = .ok (.ifCond .eq 25, 3) := by decide +kernel
theorem dL_law_3003 : decode cL_law 3003 = .ok (.aload 4, 2) := by decide +kernel
theorem dL_law_3005 : decode cL_law 3005 = .ok (.iconst 0, 1) := by decide +kernel
theorem dL_law_3006 : decode cL_law 3006 = .ok (.daload, 1) := by decide +kernel
theorem dL_law_3007 : decode cL_law 3007 = .ok (.aload 4, 2) := by decide +kernel
theorem dL_law_3009 : decode cL_law 3009 = .ok (.iconst 0, 1) := by decide +kernel
theorem dL_law_3010 : decode cL_law 3010 = .ok (.daload, 1) := by decide +kernel
theorem dL_law_3011 : decode cL_law 3011 = .ok (.dcmp .l, 1) := by decide +kernel
theorem dL_law_3012 : decode cL_law 3012 = .ok (.ifCond .eq 11, 3) := by decide +kernel
theorem dL_law_3015 : decode cL_law 3015 = .ok (.fload 7, 2) := by decide +kernel
theorem dL_law_3017 : decode cL_law 3017 = .ok (.fload 7, 2) := by decide +kernel
theorem dL_law_3019 : decode cL_law 3019 = .ok (.fcmp .l, 1) := by decide +kernel
theorem dL_law_3020 : decode cL_law 3020 = .ok (.ifCond .ne 5, 3) := by decide +kernel
theorem dL_law_3023 : decode cL_law 3023 = .ok (.iconst 0, 1) := by decide +kernel
theorem dL_law_3024 : decode cL_law 3024 = .ok (.ireturn, 1) := by decide +kernel
theorem dL_law_3025 : decode cL_law 3025 = .ok (.goto 105, 3) := by decide +kernel
theorem dL_law_3028 : decode cL_law 3028 = .ok (.aload_n 1, 1) := by decide +kernel
theorem dL_law_3029 : decode cL_law 3029 = .ok (.aload_n 0, 1) := by decide +kernel
theorem dL_law_3030 : decode cL_law 3030 = .ok (.iload 5, 2) := by decide +kernel
theorem dL_law_3032 : decode cL_law 3032 = .ok (.iconst 1, 1) := by decide +kernel
theorem dL_law_3033 : decode cL_law 3033 = .ok (.iadd, 1) := by decide +kernel
theorem dL_law_3034 : decode cL_law 3034 = .ok (.iaload, 1) := by decide +kernel
theorem dL_law_3035 : decode cL_law 3035 = .ok (.aload_n 0, 1) := by decide +kernel
theorem dL_law_3036 : decode cL_law 3036 = .ok (.iload 5, 2) := by decide +kernel
theorem dL_law_3038 : decode cL_law 3038 = .ok (.iconst 2, 1) := by decide +kernel
theorem dL_law_3039 : decode cL_law 3039 = .ok (.iadd, 1) := by decide +kernel
theorem dL_law_3040 : decode cL_law 3040 = .ok (.iaload, 1) := by decide +kernel
theorem dL_law_3041 : decode cL_law 3041 = .ok (.aload 4, 2) := by decide +kernel
theorem dL_law_3043 : decode cL_law 3043 = .ok (.invokestatic 288, 3) := by decide +kernel
theorem dL_law_3046 : decode cL_law 3046 = .ok (.istore 6, 2) := by decide +kernel
theorem dL_law_3048 : decode cL_law 3048 = .ok (.aload_n 2, 1) := by decide +kernel
theorem dL_law_3049 : decode cL_law 3049 = .ok (.aload_n 0, 1) := by decide +kernel
theorem dL_law_3050 : decode cL_law 3050 = .ok (.iload 5, 2) := by decide +kernel
theorem dL_law_3052 : decode cL_law 3052 = .ok (.iconst 1, 1) := by decide +kernel
theorem dL_law_3053 : decode cL_law 3053 = .ok (.iadd, 1) := by decide +kernel
theorem dL_law_3054 : decode cL_law 3054 = .ok (.iaload, 1) := by decide +kernel
theorem dL_law_3055 : decode cL_law 3055 = .ok (.aload_n 0, 1) := by decide +kernel
theorem dL_law_3056 : decode cL_law 3056 = .ok (.iload 5, 2) := by decide +kernel
theorem dL_law_3058 : decode cL_law 3058 = .ok (.iconst 2, 1) := by decide +kernel
theorem dL_law_3059 : decode cL_law 3059 = .ok (.iadd, 1) := by decide +kernel
theorem dL_law_3060 : decode cL_law 3060 = .ok (.iaload, 1) := by decide +kernel
theorem dL_law_3061 : decode cL_law 3061 = .ok (.invokevirtual 291, 3) := by decide +kernel
theorem dL_law_3064 : decode cL_law 3064 = .ok (.dstore 7, 2) := by decide +kernel
theorem dL_law_3066 : decode cL_law 3066 = .ok (.aload_n 2, 1) := by decide +kernel
theorem dL_law_3067 : decode cL_law 3067 = .ok (.invokevirtual 163, 3) := by decide +kernel
theorem dL_law_3070 : decode cL_law 3070 = .ok (.iload 6, 2) := by decide +kernel
theorem dL_law_3072 : decode cL_law 3072 = .ok (.if_icmp .eq 5, 3) := by decide +kernel
theorem dL_law_3075 : decode cL_law 3075 = .ok (.iconst 0, 1) := by decide +kernel
theorem dL_law_3076 : decode cL_law 3076 = .ok (.ireturn, 1) := by decide +kernel
theorem dL_law_3077 : decode cL_law 3077 = .ok (.iload 6, 2) := by decide +kernel
theorem dL_law_3079 : decode cL_law 3079 = .ok (.ifCond .ne 35, 3) := by decide +kernel
theorem dL_law_3082 : decode cL_law 3082 = .ok (.aload 4, 2) := by decide +kernel
theorem dL_law_3084 : decode cL_law 3084 = .ok (.iconst 0, 1) := by decide +kernel
theorem dL_law_3085 : decode cL_law 3085 = .ok (.daload, 1) := by decide +kernel
theorem dL_law_3086 : decode cL_law 3086 = .ok (.dload 7, 2) := by decide +kernel
theorem dL_law_3088 : decode cL_law 3088 = .ok (.dcmp .l, 1) := by decide +kernel
theorem dL_law_3089 : decode cL_law 3089 = .ok (.ifCond .eq 25, 3) := by decide +kernel
theorem dL_law_3092 : decode cL_law 3092 = .ok (.aload 4, 2) := by decide +kernel
theorem dL_law_3094 : decode cL_law 3094 = .ok (.iconst 0, 1) := by decide +kernel
theorem dL_law_3095 : decode cL_law 3095 = .ok (.daload, 1) := by decide +kernel
theorem dL_law_3096 : decode cL_law 3096 = .ok (.aload 4, 2) := by decide +kernel
theorem dL_law_3098 : decode cL_law 3098 = .ok (.iconst 0, 1) := by decide +kernel
theorem dL_law_3099 : decode cL_law 3099 = .ok (.daload, 1) := by decide +kernel
theorem dL_law_3100 : decode cL_law 3100 = .ok (.dcmp .l, 1) := by decide +kernel
theorem dL_law_3101 : decode cL_law 3101 = .ok (.ifCond .eq 11, 3) := by decide +kernel
theorem dL_law_3104 : decode cL_law 3104 = .ok (.dload 7, 2) := by decide +kernel
theorem dL_law_3106 : decode cL_law 3106 = .ok (.dload 7, 2) := by decide +kernel
theorem dL_law_3108 : decode cL_law 3108 = .ok (.dcmp .l, 1) := by decide +kernel
theorem dL_law_3109 : decode cL_law 3109 = .ok (.ifCond .ne 5, 3) := by decide +kernel
theorem dL_law_3112 : decode cL_law 3112 = .ok (.iconst 0, 1) := by decide +kernel
theorem dL_law_3113 : decode cL_law 3113 = .ok (.ireturn, 1) := by decide +kernel
theorem dL_law_3114 : decode cL_law 3114 = .ok (.goto 16, 3) := by decide +kernel
theorem dL_law_3117 : decode cL_law 3117 = .ok (.aload_n 1, 1) := by decide +kernel
theorem dL_law_3118 : decode cL_law 3118 = .ok (.invokevirtual 292, 3) := by decide +kernel
theorem dL_law_3121 : decode cL_law 3121 = .ok (.aload_n 2, 1) := by decide +kernel
theorem dL_law_3122 : decode cL_law 3122 = .ok (.invokevirtual 296, 3) := by decide +kernel
theorem dL_law_3125 : decode cL_law 3125 = .ok (.if_icmp .eq 5, 3) := by decide +kernel
theorem dL_law_3128 : decode cL_law 3128 = .ok (.iconst 0, 1) := by decide +kernel
theorem dL_law_3129 : decode cL_law 3129 = .ok (.ireturn, 1) := by decide +kernel
theorem dL_law_3130 : decode cL_law 3130 = .ok (.iinc 5 7, 3) := by decide +kernel
theorem dL_law_3133 : decode cL_law 3133 = .ok (.goto (-3105), 3) := by decide +kernel
theorem dL_law_3136 : decode cL_law 3136 = .ok (.iconst 1, 1) := by decide +kernel
theorem dL_law_3137 : decode cL_law 3137 = .ok (.ireturn, 1) := by decide +kernel
