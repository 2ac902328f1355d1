theorem dL_law_2917 : decode cL_law 2917 = .ok (.iconst 0, 1) := by decide +kernel
theorem dL_law_2918 : decode cL_law 2918 = .ok (.ireturn, 1) := by decide +kernel
theorem dL_law_2919 : decode cL_law 2919 = .ok (.aload_n 1, 1) := by decide +kernel
theorem dL_law_2920 : decode cL_law 2920 = .ok (.invokevirtual 333, 3) := by decide +kernel
theorem dL_law_2923 : decode cL_law 2923 = .ok (.aload_n 2, 1) := by decide +kernel
theorem dL_law_2924 : decode cL_law 2924 = .ok (.invokevirtual 336, 3) := by decide +kernel
theorem dL_law_2927 : decode cL_law 2927 = .ok (.if_icmp .eq 390, 3) := by decide +kernel
theorem dL_law_2930 : decode cL_law 2930 = .ok (.iconst 0, 1) := by decide +kernel
theorem dL_law_2931 : decode cL_law 2931 = .ok (.ireturn, 1) := by decide +kernel
theorem dL_law_2932 : decode cL_law 2932 = .ok (.aload_n 1, 1) := by decide +kernel
theorem dL_law_2933 : decode cL_law 2933 = .ok (.invokevirtual 337, 3) := by decide +kernel
theorem dL_law_2936 : decode cL_law 2936 = .ok (.aload_n 2, 1) := by decide +kernel
theorem dL_law_2937 : decode cL_law 2937 = .ok (.invokevirtual 340, 3) := by decide +kernel
theorem dL_law_2940 : decode cL_law 2940 = .ok (.if_icmp .eq 377, 3) := by decide +kernel
theorem dL_law_2943 : decode cL_law 2943 = .ok (.iconst 0, 1) := by decide +kernel
theorem dL_law_2944 : decode cL_law 2944 = .ok (.ireturn, 1) := by decide +kernel
theorem dL_law_2945 : decode cL_law 2945 = .ok (.aload_n 1, 1) := by decide +kernel
theorem dL_law_2946 : decode cL_law 2946 = .ok (.invokevirtual 341, 3) := by decide +kernel
theorem dL_law_2949 : decode cL_law 2949 = .ok (.aload_n 2, 1) := by decide +kernel
theorem dL_law_2950 : decode cL_law 2950 = .ok (.invokevirtual 344, 3) := by decide +kernel
theorem dL_law_2953 : decode cL_law 2953 = .ok (.if_icmp .eq 364, 3) := by decide +kernel
theorem dL_law_2956 : decode cL_law 2956 = .ok (.iconst 0, 1) := by decide +kernel
theorem dL_law_2957 : decode cL_law 2957 = .ok (.ireturn, 1) := by decide +kernel
theorem dL_law_2958 : decode cL_law 2958 = .ok (.aload_n 1, 1) := by decide +kernel
theorem dL_law_2959 : decode cL_law 2959 = .ok (.invokevirtual 345, 3) := by decide +kernel
theorem dL_law_2962 : decode cL_law 2962 = .ok (.aload_n 2, 1) := by decide +kernel
theorem dL_law_2963 : decode cL_law 2963 = .ok (.invokevirtual 348, 3) := by decide +kernel
theorem dL_law_2966 : decode cL_law 2966 = .ok (.if_icmp .eq 351, 3) := by decide +kernel
theorem dL_law_2969 : decode cL_law 2969 = .ok (.iconst 0, 1) := by decide +kernel
theorem dL_law_2970 : decode cL_law 2970 = .ok (.ireturn, 1) := by decide +kernel
theorem dL_law_2971 : decode cL_law 2971 = .ok (.aload_n 1, 1) := by decide +kernel
theorem dL_law_2972 : decode cL_law 2972 = .ok (.aload_n 0, 1) := by decide +kernel
theorem dL_law_2973 : decode cL_law 2973 = .ok (.iload 4, 2) := by decide +kernel
theorem dL_law_2975 : decode cL_law 2975 = .ok (.iconst 1, 1) := by decide +kernel
theorem dL_law_2976 : decode cL_law 2976 = .ok (.iadd, 1) := by decide +kernel
theorem dL_law_2977 : decode cL_law 2977 = .ok (.iaload, 1) := by decide +kernel
theorem dL_law_2978 : decode cL_law 2978 = .ok (.aload_n 0, 1) := by decide +kernel
theorem dL_law_2979 : decode cL_law 2979 = .ok (.iload 4, 2) := by decide +kernel
theorem dL_law_2981 : decode cL_law 2981 = .ok (.iconst 2, 1) := by decide +kernel
theorem dL_law_2982 : decode cL_law 2982 = .ok (.iadd, 1) := by decide +kernel
theorem dL_law_2983 : decode cL_law 2983 = .ok (.iaload, 1) := by decide +kernel
theorem dL_law_2984 : decode cL_law 2984 = .ok (.ifCond .eq 7, 3) := by decide +kernel
theorem dL_law_2987 : decode cL_law 2987 = .ok (.iconst 1, 1) := by decide +kernel
theorem dL_law_2988 : decode cL_law 2988 = .ok (.goto 4, 3) := by decide +kernel
theorem dL_law_2991 : decode cL_law 2991 = .ok (.iconst 0, 1) := by decide +kernel
theorem dL_law_2992 : decode cL_law 2992 = .ok (.aload_n 3, 1) := by decide +kernel
theorem dL_law_2993 : decode cL_law 2993 = .ok (.invokestatic 349, 3) := by decide +kernel
theorem dL_law_2996 : decode cL_law 2996 = .ok (.istore 5, 2) := by decide +kernel
theorem dL_law_2998 : decode cL_law 2998 = .ok (.aload_n 2, 1) := by decide +kernel
theorem dL_law_2999 : decode cL_law 2999 = .ok (.aload_n 0, 1) := by decide +kernel
theorem dL_law_3000 : decode cL_law 3000 = .ok (.iload 4, 2) := by decide +kernel
theorem dL_law_3002 : decode cL_law 3002 = .ok (.iconst 1, 1) := by decide +kernel
theorem dL_law_3003 : decode cL_law 3003 = .ok (.iadd, 1) := by decide +kernel
theorem dL_law_3004 : decode cL_law 3004 = .ok (.iaload, 1) := by decide +kernel
theorem dL_law_3005 : decode cL_law 3005 = .ok (.aload_n 0, 1) := by decide +kernel
theorem dL_law_3006 : decode cL_law 3006 = .ok (.iload 4, 2) := by decide +kernel
theorem dL_law_3008 : decode cL_law 3008 = .ok (.iconst 2, 1) := by decide +kernel
theorem dL_law_3009 : decode cL_law 3009 = .ok (.iadd, 1) := by decide +kernel
theorem dL_law_3010 : decode cL_law 3010 = .ok (.iaload, 1) := by decide +kernel
theorem dL_law_3011 : decode cL_law 3011 = .ok (.ifCond .eq 7, 3) := by decide +kernel
theorem dL_law_3014 : decode cL_law 3014 = .ok (.iconst 1, 1) := by decide +kernel
theorem dL_law_3015 : decode cL_law 3015 = .ok (.goto 4, 3) := by decide +kernel
theorem dL_law_3018 : decode cL_law 3018 = .ok (.iconst 0, 1) := by decide +kernel
theorem dL_law_3019 : decode cL_law 3019 = .ok (.invokevirtual 352, 3) := by decide +kernel
theorem dL_law_3022 : decode cL_law 3022 = .ok (.istore 6, 2) := by decide +kernel
theorem dL_law_3024 : decode cL_law 3024 = .ok (.aload_n 2, 1) := by decide +kernel
theorem dL_law_3025 : decode cL_law 3025 = .ok (.invokevirtual 157, 3) := by decide +kernel
theorem dL_law_3028 : decode cL_law 3028 = .ok (.iload 5, 2) := by decide +kernel
theorem dL_law_3030 : decode cL_law 3030 = .ok (.if_icmp .eq 5, 3) := by decide +kernel
theorem dL_law_3033 : decode cL_law 3033 = .ok (.iconst 0, 1) := by decide +kernel
theorem dL_law_3034 : decode cL_law 3034 = .ok (.ireturn, 1) := by decide +kernel
theorem dL_law_3035 : decode cL_law 3035 = .ok (.iload 5, 2) := by decide +kernel
theorem dL_law_3037 : decode cL_law 3037 = .ok (.ifCond .ne 15, 3) := by decide +kernel
theorem dL_law_3040 : decode cL_law 3040 = .ok (.aload_n 3, 1) := by decide +kernel
theorem dL_law_3041 : decode cL_law 3041 = .ok (.iconst 0, 1) := by decide +kernel
theorem dL_law_3042 : decode cL_law 3042 = .ok (.laload, 1) := by decide +kernel
theorem dL_law_3043 : decode cL_law 3043 = .ok (.iload 6, 2) := by decide +kernel
theorem dL_law_3045 : decode cL_law 3045 = .ok (.i2l, 1) := by decide +kernel
theorem dL_law_3046 : decode cL_law 3046 = .ok (.lcmp, 1) := by decide +kernel
theorem dL_law_3047 : decode cL_law 3047 = .ok (.ifCond .eq 5, 3) := by decide +kernel
theorem dL_law_3050 : decode cL_law 3050 = .ok (.iconst 0, 1) := by decide +kernel
theorem dL_law_3051 : decode cL_law 3051 = .ok (.ireturn, 1) := by decide +kernel
theorem dL_law_3052 : decode cL_law 3052 = .ok (.goto 265, 3) := by decide +kernel
theorem dL_law_3055 : decode cL_law 3055 = .ok (.aload_n 1, 1) := by decide +kernel
theorem dL_law_3056 : decode cL_law 3056 = .ok (.aload_n 0, 1) := by decide +kernel
theorem dL_law_3057 : decode cL_law 3057 = .ok (.iload 4, 2) := by decide +kernel
theorem dL_law_3059 : decode cL_law 3059 = .ok (.iconst 1, 1) := by decide +kernel
theorem dL_law_3060 : decode cL_law 3060 = .ok (.iadd, 1) := by decide +kernel
theorem dL_law_3061 : decode cL_law 3061 = .ok (.iaload, 1) := by decide +kernel
theorem dL_law_3062 : decode cL_law 3062 = .ok (.aload_n 0, 1) := by decide +kernel
theorem dL_law_3063 : decode cL_law 3063 = .ok (.iload 4, 2) := by decide +kernel
theorem dL_law_3065 : decode cL_law 3065 = .ok (.iconst 2, 1) := by decide +kernel
theorem dL_law_3066 : decode cL_law 3066 = .ok (.iadd, 1) := by decide +kernel
theorem dL_law_3067 : decode cL_law 3067 = .ok (.iaload, 1) := by decide +kernel
theorem dL_law_3068 : decode cL_law 3068 = .ok (.ifCond .eq 7, 3) := by decide +kernel
theorem dL_law_3071 : decode cL_law 3071 = .ok (.iconst 1, 1) := by decide +kernel
theorem dL_law_3072 : decode cL_law 3072 = .ok (.goto 4, 3) := by decide +kernel
theorem dL_law_3075 : decode cL_law 3075 = .ok (.iconst 0, 1) := by decide +kernel
theorem dL_law_3076 : decode cL_law 3076 = .ok (.aload_n 3, 1) := by decide +kernel
theorem dL_law_3077 : decode cL_law 3077 = .ok (.invokestatic 353, 3) := by decide +kernel
theorem dL_law_3080 : decode cL_law 3080 = .ok (.istore 5, 2) := by decide +kernel
theorem dL_law_3082 : decode cL_law 3082 = .ok (.aload_n 2, 1) := by decide +kernel
theorem dL_law_3083 : decode cL_law 3083 = .ok (.aload_n 0, 1) := by decide +kernel
theorem dL_law_3084 : decode cL_law 3084 = .ok (.iload 4, 2) := by decide +kernel
theorem dL_law_3086 : decode cL_law 3086 = .ok (.iconst 1, 1) := by decide +kernel
theorem dL_law_3087 : decode cL_law 3087 = .ok (.iadd, 1) := by decide +kernel
theorem dL_law_3088 : decode cL_law 3088 = .ok (.iaload, 1) := by decide +kernel
theorem dL_law_3089 : decode cL_law 3089 = .ok (.aload_n 0, 1) := by decide +kernel
theorem dL_law_3090 : decode cL_law 3090 = .ok (.iload 4, 2) := by decide +kernel
theorem dL_law_3092 : decode cL_law 3092 = .ok (.iconst 2, 1) := by decide +kernel
theorem dL_law_3093 : decode cL_law 3093 = .ok (.iadd, 1) := by decide +kernel
theorem dL_law_3094 : decode cL_law 3094 = .ok (.iaload, 1) := by decide +kernel
theorem dL_law_3095 : decode cL_law 3095 = .ok (.ifCond .eq 7, 3) := by decide +kernel
theorem dL_law_3098 : decode cL_law 3098 = .ok (.iconst 1, 1) := by decide +kernel
theorem dL_law_3099 : decode cL_law 3099 = .ok (.goto 4, 3) := by decide +kernel
theorem dL_law_3102 : decode cL_law 3102 = .ok (.iconst 0, 1) := by decide +kernel
theorem dL_law_3103 : decode cL_law 3103 = .ok (.invokevirtual 355, 3) := by decide +kernel
theorem dL_law_3106 : decode cL_law 3106 = .ok (.istore 6, 2) := by decide +kernel
theorem dL_law_3108 : decode cL_law 3108 = .ok (.aload_n 2, 1) := by decide +kernel
theorem dL_law_3109 : decode cL_law 3109 = .ok (.invokevirtual 157, 3) := by decide +kernel
theorem dL_law_3112 : decode cL_law 3112 = .ok (.iload 5, 2) := by decide +kernel
