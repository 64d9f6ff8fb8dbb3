theorem dL_law_2960 : decode cL_law 2960 = .ok (.aload_n 2, 1) := by decide +kernel
theorem dL_law_2961 : decode cL_law 2961 = .ok (.aload_n 0, 1) := by decide +kernel
theorem dL_law_2962 : decode cL_law 2962 = .ok (.iload_n 3, 1) := by decide +kernel
theorem dL_law_2963 : decode cL_law 2963 = .ok (.iconst 1, 1) := by decide +kernel
theorem dL_law_2964 : decode cL_law 2964 = .ok (.iadd, 1) := by decide +kernel
theorem dL_law_2965 : decode cL_law 2965 = .ok (.iaload, 1) := by decide +kernel
theorem dL_law_2966 : decode cL_law 2966 = .ok (.invokevirtual 295, 3) := by decide +kernel
theorem dL_law_2969 : decode cL_law 2969 = .ok (.if_icmp .eq 184, 3) := by decide +kernel
theorem dL_law_2974 : decode cL_law 2974 = .ok (.aload_n 1, 1) := by decide +kernel
theorem dL_law_2975 : decode cL_law 2975 = .ok (.aload_n 0, 1) := by decide +kernel
theorem dL_law_2976 : decode cL_law 2976 = .ok (.iload_n 3, 1) := by decide +kernel
theorem dL_law_2977 : decode cL_law 2977 = .ok (.iconst 1, 1) := by decide +kernel
theorem dL_law_2978 : decode cL_law 2978 = .ok (.iadd, 1) := by decide +kernel
theorem dL_law_2979 : decode cL_law 2979 = .ok (.iaload, 1) := by decide +kernel
theorem dL_law_2980 : decode cL_law 2980 = .ok (.aload_n 0, 1) := by decide +kernel
theorem dL_law_2981 : decode cL_law 2981 = .ok (.iload_n 3, 1) := by decide +kernel
theorem dL_law_2982 : decode cL_law 2982 = .ok (.iconst 2, 1) := by decide +kernel
theorem dL_law_2983 : decode cL_law 2983 = .ok (.iadd, 1) := by decide +kernel
theorem dL_law_2984 : decode cL_law 2984 = .ok (.iaload, 1) := by decide +kernel
theorem dL_law_2985 : decode cL_law 2985 = .ok (.aload_n 0, 1) := by decide +kernel
theorem dL_law_2986 : decode cL_law 2986 = .ok (.iload_n 3, 1) := by decide +kernel
theorem dL_law_2987 : decode cL_law 2987 = .ok (.iconst 3, 1) := by decide +kernel
theorem dL_law_2988 : decode cL_law 2988 = .ok (.iadd, 1) := by decide +kernel
theorem dL_law_2989 : decode cL_law 2989 = .ok (.iaload, 1) := by decide +kernel
theorem dL_law_2990 : decode cL_law 2990 = .ok (.invokevirtual 296, 3) := by decide +kernel
theorem dL_law_2993 : decode cL_law 2993 = .ok (.aload_n 2, 1) := by decide +kernel
theorem dL_law_2994 : decode cL_law 2994 = .ok (.aload_n 0, 1) := by decide +kernel
theorem dL_law_2995 : decode cL_law 2995 = .ok (.iload_n 3, 1) := by decide +kernel
theorem dL_law_2996 : decode cL_law 2996 = .ok (.iconst 1, 1) := by decide +kernel
theorem dL_law_2997 : decode cL_law 2997 = .ok (.iadd, 1) := by decide +kernel
theorem dL_law_2998 : decode cL_law 2998 = .ok (.iaload, 1) := by decide +kernel
theorem dL_law_2999 : decode cL_law 2999 = .ok (.aload_n 0, 1) := by decide +kernel
theorem dL_law_3000 : decode cL_law 3000 = .ok (.iload_n 3, 1) := by decide +kernel
theorem dL_law_3001 : decode cL_law 3001 = .ok (.iconst 2, 1) := by decide +kernel
theorem dL_law_3002 : decode cL_law 3002 = .ok (.iadd, 1) := by decide +kernel
theorem dL_law_3003 : decode cL_law 3003 = .ok (.iaload, 1) := by decide +kernel
theorem dL_law_3004 : decode cL_law 3004 = .ok (.aload_n 0, 1) := by decide +kernel
theorem dL_law_3005 : decode cL_law 3005 = .ok (.iload_n 3, 1) := by decide +kernel
theorem dL_law_3006 : decode cL_law 3006 = .ok (.iconst 3, 1) := by decide +kernel
theorem dL_law_3007 : decode cL_law 3007 = .ok (.iadd, 1) := by decide +kernel
theorem dL_law_3008 : decode cL_law 3008 = .ok (.iaload, 1) := by decide +kernel
theorem dL_law_3009 : decode cL_law 3009 = .ok (.invokevirtual 299, 3) := by decide +kernel
theorem dL_law_3012 : decode cL_law 3012 = .ok (.if_icmp .eq 141, 3) := by decide +kernel
theorem dL_law_3017 : decode cL_law 3017 = .ok (.aload_n 1, 1) := by decide +kernel
theorem dL_law_3018 : decode cL_law 3018 = .ok (.aload_n 0, 1) := by decide +kernel
theorem dL_law_3019 : decode cL_law 3019 = .ok (.iload_n 3, 1) := by decide +kernel
theorem dL_law_3020 : decode cL_law 3020 = .ok (.iconst 1, 1) := by decide +kernel
theorem dL_law_3021 : decode cL_law 3021 = .ok (.iadd, 1) := by decide +kernel
theorem dL_law_3022 : decode cL_law 3022 = .ok (.iaload, 1) := by decide +kernel
theorem dL_law_3023 : decode cL_law 3023 = .ok (.aload_n 0, 1) := by decide +kernel
theorem dL_law_3024 : decode cL_law 3024 = .ok (.iload_n 3, 1) := by decide +kernel
theorem dL_law_3025 : decode cL_law 3025 = .ok (.iconst 2, 1) := by decide +kernel
theorem dL_law_3026 : decode cL_law 3026 = .ok (.iadd, 1) := by decide +kernel
theorem dL_law_3027 : decode cL_law 3027 = .ok (.iaload, 1) := by decide +kernel
theorem dL_law_3028 : decode cL_law 3028 = .ok (.aload_n 0, 1) := by decide +kernel
theorem dL_law_3029 : decode cL_law 3029 = .ok (.iload_n 3, 1) := by decide +kernel
theorem dL_law_3030 : decode cL_law 3030 = .ok (.iconst 3, 1) := by decide +kernel
theorem dL_law_3031 : decode cL_law 3031 = .ok (.iadd, 1) := by decide +kernel
theorem dL_law_3032 : decode cL_law 3032 = .ok (.iaload, 1) := by decide +kernel
theorem dL_law_3033 : decode cL_law 3033 = .ok (.i2l, 1) := by decide +kernel
theorem dL_law_3034 : decode cL_law 3034 = .ok (.bipush 32, 2) := by decide +kernel
theorem dL_law_3036 : decode cL_law 3036 = .ok (.lshl, 1) := by decide +kernel
theorem dL_law_3037 : decode cL_law 3037 = .ok (.aload_n 0, 1) := by decide +kernel
theorem dL_law_3038 : decode cL_law 3038 = .ok (.iload_n 3, 1) := by decide +kernel
theorem dL_law_3039 : decode cL_law 3039 = .ok (.iconst 4, 1) := by decide +kernel
theorem dL_law_3040 : decode cL_law 3040 = .ok (.iadd, 1) := by decide +kernel
theorem dL_law_3041 : decode cL_law 3041 = .ok (.iaload, 1) := by decide +kernel
theorem dL_law_3042 : decode cL_law 3042 = .ok (.i2l, 1) := by decide +kernel
theorem dL_law_3043 : decode cL_law 3043 = .ok (.ldc2_w 300, 3) := by decide +kernel
theorem dL_law_3046 : decode cL_law 3046 = .ok (.land, 1) := by decide +kernel
theorem dL_law_3047 : decode cL_law 3047 = .ok (.lor, 1) := by decide +kernel
theorem dL_law_3048 : decode cL_law 3048 = .ok (.invokevirtual 302, 3) := by decide +kernel
theorem dL_law_3051 : decode cL_law 3051 = .ok (.aload_n 2, 1) := by decide +kernel
theorem dL_law_3052 : decode cL_law 3052 = .ok (.aload_n 0, 1) := by decide +kernel
theorem dL_law_3053 : decode cL_law 3053 = .ok (.iload_n 3, 1) := by decide +kernel
theorem dL_law_3054 : decode cL_law 3054 = .ok (.iconst 1, 1) := by decide +kernel
theorem dL_law_3055 : decode cL_law 3055 = .ok (.iadd, 1) := by decide +kernel
theorem dL_law_3056 : decode cL_law 3056 = .ok (.iaload, 1) := by decide +kernel
theorem dL_law_3057 : decode cL_law 3057 = .ok (.aload_n 0, 1) := by decide +kernel
theorem dL_law_3058 : decode cL_law 3058 = .ok (.iload_n 3, 1) := by decide +kernel
theorem dL_law_3059 : decode cL_law 3059 = .ok (.iconst 2, 1) := by decide +kernel
theorem dL_law_3060 : decode cL_law 3060 = .ok (.iadd, 1) := by decide +kernel
theorem dL_law_3061 : decode cL_law 3061 = .ok (.iaload, 1) := by decide +kernel
theorem dL_law_3062 : decode cL_law 3062 = .ok (.aload_n 0, 1) := by decide +kernel
theorem dL_law_3063 : decode cL_law 3063 = .ok (.iload_n 3, 1) := by decide +kernel
theorem dL_law_3064 : decode cL_law 3064 = .ok (.iconst 3, 1) := by decide +kernel
theorem dL_law_3065 : decode cL_law 3065 = .ok (.iadd, 1) := by decide +kernel
theorem dL_law_3066 : decode cL_law 3066 = .ok (.iaload, 1) := by decide +kernel
theorem dL_law_3067 : decode cL_law 3067 = .ok (.i2l, 1) := by decide +kernel
theorem dL_law_3068 : decode cL_law 3068 = .ok (.bipush 32, 2) := by decide +kernel
theorem dL_law_3070 : decode cL_law 3070 = .ok (.lshl, 1) := by decide +kernel
theorem dL_law_3071 : decode cL_law 3071 = .ok (.aload_n 0, 1) := by decide +kernel
theorem dL_law_3072 : decode cL_law 3072 = .ok (.iload_n 3, 1) := by decide +kernel
theorem dL_law_3073 : decode cL_law 3073 = .ok (.iconst 4, 1) := by decide +kernel
theorem dL_law_3074 : decode cL_law 3074 = .ok (.iadd, 1) := by decide +kernel
theorem dL_law_3075 : decode cL_law 3075 = .ok (.iaload, 1) := by decide +kernel
theorem dL_law_3076 : decode cL_law 3076 = .ok (.i2l, 1) := by decide +kernel
theorem dL_law_3077 : decode cL_law 3077 = .ok (.ldc2_w 300, 3) := by decide +kernel
theorem dL_law_3080 : decode cL_law 3080 = .ok (.land, 1) := by decide +kernel
theorem dL_law_3081 : decode cL_law 3081 = .ok (.lor, 1) := by decide +kernel
theorem dL_law_3082 : decode cL_law 3082 = .ok (.invokevirtual 306, 3) := by decide +kernel
theorem dL_law_3085 : decode cL_law 3085 = .ok (.if_icmp .eq 68, 3) := by decide +kernel
theorem dL_law_3090 : decode cL_law 3090 = .ok (.aload_n 1, 1) := by decide +kernel
theorem dL_law_3091 : decode cL_law 3091 = .ok (.aload_n 0, 1) := by decide +kernel
theorem dL_law_3092 : decode cL_law 3092 = .ok (.iload_n 3, 1) := by decide +kernel
theorem dL_law_3093 : decode cL_law 3093 = .ok (.iconst 1, 1) := by decide +kernel
theorem dL_law_3094 : decode cL_law 3094 = .ok (.iadd, 1) := by decide +kernel
theorem dL_law_3095 : decode cL_law 3095 = .ok (.iaload, 1) := by decide +kernel
theorem dL_law_3096 : decode cL_law 3096 = .ok (.aload_n 0, 1) := by decide +kernel
theorem dL_law_3097 : decode cL_law 3097 = .ok (.iload_n 3, 1) := by decide +kernel
theorem dL_law_3098 : decode cL_law 3098 = .ok (.iconst 2, 1) := by decide +kernel
theorem dL_law_3099 : decode cL_law 3099 = .ok (.iadd, 1) := by decide +kernel
theorem dL_law_3100 : decode cL_law 3100 = .ok (.iaload, 1) := by decide +kernel
theorem dL_law_3101 : decode cL_law 3101 = .ok (.aload_n 0, 1) := by decide +kernel
theorem dL_law_3102 : decode cL_law 3102 = .ok (.iload_n 3, 1) := by decide +kernel
theorem dL_law_3103 : decode cL_law 3103 = .ok (.iconst 3, 1) := by decide +kernel
theorem dL_law_3104 : decode cL_law 3104 = .ok (.iadd, 1) := by decide +kernel
theorem dL_law_3105 : decode cL_law 3105 = .ok (.iaload, 1) := by decide +kernel
theorem dL_law_3106 : decode cL_law 3106 = .ok (.aload_n 0, 1) := by decide +kernel
theorem dL_law_3107 : decode cL_law 3107 = .ok (.iload_n 3, 1) := by decide +kernel
theorem dL_law_3108 : decode cL_law 3108 = .ok (.iconst 4, 1) := by decide +kernel
theorem dL_law_3109 : decode cL_law 3109 = .ok (.iadd, 1) := by decide +kernel
theorem dL_law_3110 : decode cL_law 3110 = .ok (.iaload, 1) := by decide +kernel
theorem dL_law_3111 : decode cL_law 3111 = .ok (.aload_n 0, 1) := by decide +kernel
theorem dL_law_3112 : decode cL_law 3112 = .ok (.iload_n 3, 1) := by decide +kernel
theorem dL_law_3113 : decode cL_law 3113 = .ok (.iconst 5, 1) := by decide +kernel
theorem dL_law_3114 : decode cL_law 3114 = .ok (.iadd, 1) := by decide +kernel
theorem dL_law_3115 : decode cL_law 3115 = .ok (.iaload, 1) := by decide +kernel
theorem dL_law_3116 : decode cL_law 3116 = .ok (.invokevirtual 307, 3) := by decide +kernel
theorem dL_law_3119 : decode cL_law 3119 = .ok (.aload_n 2, 1) := by decide +kernel
theorem dL_law_3120 : decode cL_law 3120 = .ok (.aload_n 0, 1) := by decide +kernel
theorem dL_law_3121 : decode cL_law 3121 = .ok (.iload_n 3, 1) := by decide +kernel
theorem dL_law_3122 : decode cL_law 3122 = .ok (.iconst 1, 1) := by decide +kernel
theorem dL_law_3123 : decode cL_law 3123 = .ok (.iadd, 1) := by decide +kernel
theorem dL_law_3124 : decode cL_law 3124 = .ok (.iaload, 1) := by decide +kernel
theorem dL_law_3125 : decode cL_law 3125 = .ok (.aload_n 0, 1) := by decide +kernel
theorem dL_law_3126 : decode cL_law 3126 = .ok (.iload_n 3, 1) := by decide +kernel
theorem dL_law_3127 : decode cL_law 3127 = .ok (.iconst 2, 1) := by decide +kernel
theorem dL_law_3128 : decode cL_law 3128 = .ok (.iadd, 1) := by decide +kernel
theorem dL_law_3129 : decode cL_law 3129 = .ok (.iaload, 1) := by decide +kernel
theorem dL_law_3130 : decode cL_law 3130 = .ok (.aload_n 0, 1) := by decide +kernel
theorem dL_law_3131 : decode cL_law 3131 = .ok (.iload_n 3, 1) := by decide +kernel
theorem dL_law_3132 : decode cL_law 3132 = .ok (.iconst 3, 1) := by decide +kernel
theorem dL_law_3133 : decode cL_law 3133 = .ok (.iadd, 1) := by decide +kernel
theorem dL_law_3134 : decode cL_law 3134 = .ok (.iaload, 1) := by decide +kernel
theorem dL_law_3135 : decode cL_law 3135 = .ok (.aload_n 0, 1) := by decide +kernel
theorem dL_law_3136 : decode cL_law 3136 = .ok (.iload_n 3, 1) := by decide +kernel
theorem dL_law_3137 : decode cL_law 3137 = .ok (.iconst 4, 1) := by decide +kernel
theorem dL_law_3138 : decode cL_law 3138 = .ok (.iadd, 1) := by decide +kernel
theorem dL_law_3139 : decode cL_law 3139 = .ok (.iaload, 1) := by decide +kernel
theorem dL_law_3140 : decode cL_law 3140 = .ok (.aload_n 0, 1) := by decide +kernel
theorem dL_law_3141 : decode cL_law 3141 = .ok (.iload_n 3, 1) := by decide +kernel
theorem dL_law_3142 : decode cL_law 3142 = .ok (.iconst 5, 1) := by decide +kernel
theorem dL_law_3143 : decode cL_law 3143 = .ok (.iadd, 1) := by decide +kernel
theorem dL_law_3144 : decode cL_law 3144 = .ok (.iaload, 1) := by decide +kernel
theorem dL_law_3145 : decode cL_law 3145 = .ok (.invokevirtual 310, 3) := by decide +kernel
theorem dL_law_3148 : decode cL_law 3148 = .ok (.if_icmp .eq 5, 3) := by decide +kernel
theorem dL_law_3153 : decode cL_law 3153 = .ok (.iinc 3 6, 3) := by decide +kernel
theorem dL_law_3156 : decode cL_law 3156 = .ok (.goto (-3138), 3) := by decide +kernel
theorem dL_law_3159 : decode cL_law 3159 = .ok (.iconst 1, 1) := by decide +kernel
theorem dL_law_3160 : decode cL_law 3160 = .ok (.ireturn, 1) := by decide +kernel
