/-! decode rows of the law, printed -/
theorem dL_law_2919 : decode cL_law 2919 = .ok (.aload_n 2, 1) := by decide +kernel
theorem dL_law_2920 : decode cL_law 2920 = .ok (.invokevirtual 172, 3) := by decide +kernel
theorem dL_law_2923 : decode cL_law 2923 = .ok (.iload 6, 2) := by decide +kernel
theorem dL_law_2925 : decode cL_law 2925 = .ok (.if_icmp .eq 5, 3) := by decide +kernel
theorem dL_law_2928 : decode cL_law 2928 = .ok (.iconst 0, 1) := by decide +kernel
theorem dL_law_2929 : decode cL_law 2929 = .ok (.ireturn, 1) := by decide +kernel
theorem dL_law_2930 : decode cL_law 2930 = .ok (.iload 6, 2) := by decide +kernel
theorem dL_law_2932 : decode cL_law 2932 = .ok (.ifCond .ne 15, 3) := by decide +kernel
theorem dL_law_2935 : decode cL_law 2935 = .ok (.aload_n 3, 1) := by decide +kernel
theorem dL_law_2936 : decode cL_law 2936 = .ok (.iconst 0, 1) := by decide +kernel
theorem dL_law_2937 : decode cL_law 2937 = .ok (.laload, 1) := by decide +kernel
theorem dL_law_2938 : decode cL_law 2938 = .ok (.iload 7, 2) := by decide +kernel
theorem dL_law_2940 : decode cL_law 2940 = .ok (.i2l, 1) := by decide +kernel
theorem dL_law_2941 : decode cL_law 2941 = .ok (.lcmp, 1) := by decide +kernel
theorem dL_law_2942 : decode cL_law 2942 = .ok (.ifCond .eq 5, 3) := by decide +kernel
theorem dL_law_2945 : decode cL_law 2945 = .ok (.iconst 0, 1) := by decide +kernel
theorem dL_law_2946 : decode cL_law 2946 = .ok (.ireturn, 1) := by decide +kernel
theorem dL_law_2947 : decode cL_law 2947 = .ok (.goto 491, 3) := by decide +kernel
theorem dL_law_2950 : decode cL_law 2950 = .ok (.aload_n 1, 1) := by decide +kernel
theorem dL_law_2951 : decode cL_law 2951 = .ok (.aload_n 0, 1) := by decide +kernel
theorem dL_law_2952 : decode cL_law 2952 = .ok (.iload 5, 2) := by decide +kernel
theorem dL_law_2954 : decode cL_law 2954 = .ok (.iconst 1, 1) := by decide +kernel
theorem dL_law_2955 : decode cL_law 2955 = .ok (.iadd, 1) := by decide +kernel
theorem dL_law_2956 : decode cL_law 2956 = .ok (.iaload, 1) := by decide +kernel
theorem dL_law_2957 : decode cL_law 2957 = .ok (.aload_n 3, 1) := by decide +kernel
theorem dL_law_2958 : decode cL_law 2958 = .ok (.invokestatic 340, 3) := by decide +kernel
theorem dL_law_2961 : decode cL_law 2961 = .ok (.istore 6, 2) := by decide +kernel
theorem dL_law_2963 : decode cL_law 2963 = .ok (.aload_n 2, 1) := by decide +kernel
theorem dL_law_2964 : decode cL_law 2964 = .ok (.aload_n 0, 1) := by decide +kernel
theorem dL_law_2965 : decode cL_law 2965 = .ok (.iload 5, 2) := by decide +kernel
theorem dL_law_2967 : decode cL_law 2967 = .ok (.iconst 1, 1) := by decide +kernel
theorem dL_law_2968 : decode cL_law 2968 = .ok (.iadd, 1) := by decide +kernel
theorem dL_law_2969 : decode cL_law 2969 = .ok (.iaload, 1) := by decide +kernel
theorem dL_law_2970 : decode cL_law 2970 = .ok (.invokevirtual 342, 3) := by decide +kernel
theorem dL_law_2973 : decode cL_law 2973 = .ok (.istore 7, 2) := by decide +kernel
theorem dL_law_2975 : decode cL_law 2975 = .ok (.aload_n 2, 1) := by decide +kernel
theorem dL_law_2976 : decode cL_law 2976 = .ok (.invokevirtual 172, 3) := by decide +kernel
theorem dL_law_2979 : decode cL_law 2979 = .ok (.iload 6, 2) := by decide +kernel
theorem dL_law_2981 : decode cL_law 2981 = .ok (.if_icmp .eq 5, 3) := by decide +kernel
theorem dL_law_2984 : decode cL_law 2984 = .ok (.iconst 0, 1) := by decide +kernel
theorem dL_law_2985 : decode cL_law 2985 = .ok (.ireturn, 1) := by decide +kernel
theorem dL_law_2986 : decode cL_law 2986 = .ok (.iload 6, 2) := by decide +kernel
theorem dL_law_2988 : decode cL_law 2988 = .ok (.ifCond .ne 15, 3) := by decide +kernel
theorem dL_law_2991 : decode cL_law 2991 = .ok (.aload_n 3, 1) := by decide +kernel
theorem dL_law_2992 : decode cL_law 2992 = .ok (.iconst 0, 1) := by decide +kernel
theorem dL_law_2993 : decode cL_law 2993 = .ok (.laload, 1) := by decide +kernel
theorem dL_law_2994 : decode cL_law 2994 = .ok (.iload 7, 2) := by decide +kernel
theorem dL_law_2996 : decode cL_law 2996 = .ok (.i2l, 1) := by decide +kernel
theorem dL_law_2997 : decode cL_law 2997 = .ok (.lcmp, 1) := by decide +kernel
theorem dL_law_2998 : decode cL_law 2998 = .ok (.ifCond .eq 5, 3) := by decide +kernel
theorem dL_law_3001 : decode cL_law 3001 = .ok (.iconst 0, 1) := by decide +kernel
theorem dL_law_3002 : decode cL_law 3002 = .ok (.ireturn, 1) := by decide +kernel
theorem dL_law_3003 : decode cL_law 3003 = .ok (.goto 435, 3) := by decide +kernel
theorem dL_law_3006 : decode cL_law 3006 = .ok (.aload_n 1, 1) := by decide +kernel
theorem dL_law_3007 : decode cL_law 3007 = .ok (.aload_n 0, 1) := by decide +kernel
theorem dL_law_3008 : decode cL_law 3008 = .ok (.iload 5, 2) := by decide +kernel
theorem dL_law_3010 : decode cL_law 3010 = .ok (.iconst 1, 1) := by decide +kernel
theorem dL_law_3011 : decode cL_law 3011 = .ok (.iadd, 1) := by decide +kernel
theorem dL_law_3012 : decode cL_law 3012 = .ok (.iaload, 1) := by decide +kernel
theorem dL_law_3013 : decode cL_law 3013 = .ok (.aload_n 0, 1) := by decide +kernel
theorem dL_law_3014 : decode cL_law 3014 = .ok (.iload 5, 2) := by decide +kernel
theorem dL_law_3016 : decode cL_law 3016 = .ok (.iconst 2, 1) := by decide +kernel
theorem dL_law_3017 : decode cL_law 3017 = .ok (.iadd, 1) := by decide +kernel
theorem dL_law_3018 : decode cL_law 3018 = .ok (.iaload, 1) := by decide +kernel
theorem dL_law_3019 : decode cL_law 3019 = .ok (.aload_n 3, 1) := by decide +kernel
theorem dL_law_3020 : decode cL_law 3020 = .ok (.invokestatic 343, 3) := by decide +kernel
theorem dL_law_3023 : decode cL_law 3023 = .ok (.istore 6, 2) := by decide +kernel
theorem dL_law_3025 : decode cL_law 3025 = .ok (.aload_n 2, 1) := by decide +kernel
theorem dL_law_3026 : decode cL_law 3026 = .ok (.aload_n 0, 1) := by decide +kernel
theorem dL_law_3027 : decode cL_law 3027 = .ok (.iload 5, 2) := by decide +kernel
theorem dL_law_3029 : decode cL_law 3029 = .ok (.iconst 1, 1) := by decide +kernel
theorem dL_law_3030 : decode cL_law 3030 = .ok (.iadd, 1) := by decide +kernel
theorem dL_law_3031 : decode cL_law 3031 = .ok (.iaload, 1) := by decide +kernel
theorem dL_law_3032 : decode cL_law 3032 = .ok (.aload_n 0, 1) := by decide +kernel
theorem dL_law_3033 : decode cL_law 3033 = .ok (.iload 5, 2) := by decide +kernel
theorem dL_law_3035 : decode cL_law 3035 = .ok (.iconst 2, 1) := by decide +kernel
theorem dL_law_3036 : decode cL_law 3036 = .ok (.iadd, 1) := by decide +kernel
theorem dL_law_3037 : decode cL_law 3037 = .ok (.iaload, 1) := by decide +kernel
theorem dL_law_3038 : decode cL_law 3038 = .ok (.invokevirtual 345, 3) := by decide +kernel
theorem dL_law_3041 : decode cL_law 3041 = .ok (.istore 7, 2) := by decide +kernel
theorem dL_law_3043 : decode cL_law 3043 = .ok (.aload_n 2, 1) := by decide +kernel
theorem dL_law_3044 : decode cL_law 3044 = .ok (.invokevirtual 172, 3) := by decide +kernel
theorem dL_law_3047 : decode cL_law 3047 = .ok (.iload 6, 2) := by decide +kernel
theorem dL_law_3049 : decode cL_law 3049 = .ok (.if_icmp .eq 5, 3) := by decide +kernel
theorem dL_law_3052 : decode cL_law 3052 = .ok (.iconst 0, 1) := by decide +kernel
theorem dL_law_3053 : decode cL_law 3053 = .ok (.ireturn, 1) := by decide +kernel
theorem dL_law_3054 : decode cL_law 3054 = .ok (.iload 6, 2) := by decide +kernel
theorem dL_law_3056 : decode cL_law 3056 = .ok (.ifCond .ne 15, 3) := by decide +kernel
theorem dL_law_3059 : decode cL_law 3059 = .ok (.aload_n 3, 1) := by decide +kernel
theorem dL_law_3060 : decode cL_law 3060 = .ok (.iconst 0, 1) := by decide +kernel
theorem dL_law_3061 : decode cL_law 3061 = .ok (.laload, 1) := by decide +kernel
theorem dL_law_3062 : decode cL_law 3062 = .ok (.iload 7, 2) := by decide +kernel
theorem dL_law_3064 : decode cL_law 3064 = .ok (.i2l, 1) := by decide +kernel
theorem dL_law_3065 : decode cL_law 3065 = .ok (.lcmp, 1) := by decide +kernel
theorem dL_law_3066 : decode cL_law 3066 = .ok (.ifCond .eq 5, 3) := by decide +kernel
theorem dL_law_3069 : decode cL_law 3069 = .ok (.iconst 0, 1) := by decide +kernel
theorem dL_law_3070 : decode cL_law 3070 = .ok (.ireturn, 1) := by decide +kernel
theorem dL_law_3071 : decode cL_law 3071 = .ok (.goto 367, 3) := by decide +kernel
theorem dL_law_3074 : decode cL_law 3074 = .ok (.aload_n 1, 1) := by decide +kernel
theorem dL_law_3075 : decode cL_law 3075 = .ok (.aload_n 0, 1) := by decide +kernel
theorem dL_law_3076 : decode cL_law 3076 = .ok (.iload 5, 2) := by decide +kernel
theorem dL_law_3078 : decode cL_law 3078 = .ok (.iconst 1, 1) := by decide +kernel
theorem dL_law_3079 : decode cL_law 3079 = .ok (.iadd, 1) := by decide +kernel
theorem dL_law_3080 : decode cL_law 3080 = .ok (.iaload, 1) := by decide +kernel
theorem dL_law_3081 : decode cL_law 3081 = .ok (.aload_n 0, 1) := by decide +kernel
theorem dL_law_3082 : decode cL_law 3082 = .ok (.iload 5, 2) := by decide +kernel
theorem dL_law_3084 : decode cL_law 3084 = .ok (.iconst 2, 1) := by decide +kernel
theorem dL_law_3085 : decode cL_law 3085 = .ok (.iadd, 1) := by decide +kernel
theorem dL_law_3086 : decode cL_law 3086 = .ok (.iaload, 1) := by decide +kernel
theorem dL_law_3087 : decode cL_law 3087 = .ok (.aload_n 3, 1) := by decide +kernel
theorem dL_law_3088 : decode cL_law 3088 = .ok (.invokestatic 346, 3) := by decide +kernel
theorem dL_law_3091 : decode cL_law 3091 = .ok (.istore 6, 2) := by decide +kernel
theorem dL_law_3093 : decode cL_law 3093 = .ok (.aload_n 2, 1) := by decide +kernel
theorem dL_law_3094 : decode cL_law 3094 = .ok (.aload_n 0, 1) := by decide +kernel
theorem dL_law_3095 : decode cL_law 3095 = .ok (.iload 5, 2) := by decide +kernel
theorem dL_law_3097 : decode cL_law 3097 = .ok (.iconst 1, 1) := by decide +kernel
theorem dL_law_3098 : decode cL_law 3098 = .ok (.iadd, 1) := by decide +kernel
theorem dL_law_3099 : decode cL_law 3099 = .ok (.iaload, 1) := by decide +kernel
theorem dL_law_3100 : decode cL_law 3100 = .ok (.aload_n 0, 1) := by decide +kernel
theorem dL_law_3101 : decode cL_law 3101 = .ok (.iload 5, 2) := by decide +kernel
theorem dL_law_3103 : decode cL_law 3103 = .ok (.iconst 2, 1) := by decide +kernel
theorem dL_law_3104 : decode cL_law 3104 = .ok (.iadd, 1) := by decide +kernel
theorem dL_law_3105 : decode cL_law 3105 = .ok (.iaload, 1) := by decide +kernel
theorem dL_law_3106 : decode cL_law 3106 = .ok (.invokevirtual 348, 3) := by decide +kernel
theorem dL_law_3109 : decode cL_law 3109 = .ok (.istore 7, 2) := by decide +kernel
theorem dL_law_3111 : decode cL_law 3111 = .ok (.aload_n 2, 1) := by decide +kernel
theorem dL_law_3112 : decode cL_law 3112 = .ok (.invokevirtual 172, 3) := by decide +kernel
theorem dL_law_3115 : decode cL_law 3115 = .ok (.iload 6, 2) := by decide +kernel
theorem dL_law_3117 : decode cL_law 3117 = .ok (.if_icmp .eq 5, 3) := by decide +kernel
theorem dL_law_3120 : decode cL_law 3120 = .ok (.iconst 0, 1) := by decide +kernel
theorem dL_law_3121 : decode cL_law 3121 = .ok (.ireturn, 1) := by decide +kernel
theorem dL_law_3122 : decode cL_law 3122 = .ok (.iload 6, 2) := by decide +kernel
theorem dL_law_3124 : decode cL_law 3124 = .ok (.ifCond .ne 15, 3) := by decide +kernel
theorem dL_law_3127 : decode cL_law 3127 = .ok (.aload_n 3, 1) := by decide +kernel
theorem dL_law_3128 : decode cL_law 3128 = .ok (.iconst 0, 1) := by decide +kernel
theorem dL_law_3129 : decode cL_law 3129 = .ok (.laload, 1) := by decide +kernel
theorem dL_law_3130 : decode cL_law 3130 = .ok (.iload 7, 2) := by decide +kernel
theorem dL_law_3132 : decode cL_law 3132 = .ok (.i2l, 1) := by decide +kernel
theorem dL_law_3133 : decode cL_law 3133 = .ok (.lcmp, 1) := by decide +kernel
theorem dL_law_3134 : decode cL_law 3134 = .ok (.ifCond .eq 5, 3) := by decide +kernel
theorem dL_law_3137 : decode cL_law 3137 = .ok (.iconst 0, 1) := by decide +kernel
theorem dL_law_3138 : decode cL_law 3138 = .ok (.ireturn, 1) := by decide +kernel
theorem dL_law_3139 : decode cL_law 3139 = .ok (.goto 299, 3) := by decide +kernel
theorem dL_law_3142 : decode cL_law 3142 = .ok (.aload_n 1, 1) := by decide +kernel
theorem dL_law_3143 : decode cL_law 3143 = .ok (.invokevirtual 349, 3) := by decide +kernel
theorem dL_law_3146 : decode cL_law 3146 = .ok (.aload_n 2, 1) := by decide +kernel
theorem dL_law_3147 : decode cL_law 3147 = .ok (.invokevirtual 352, 3) := by decide +kernel
theorem dL_law_3150 : decode cL_law 3150 = .ok (.if_icmp .eq 288, 3) := by decide +kernel
theorem dL_law_3153 : decode cL_law 3153 = .ok (.iconst 0, 1) := by decide +kernel
theorem dL_law_3154 : decode cL_law 3154 = .ok (.ireturn, 1) := by decide +kernel
theorem dL_law_3155 : decode cL_law 3155 = .ok (.aload_n 1, 1) := by decide +kernel
theorem dL_law_3156 : decode cL_law 3156 = .ok (.invokevirtual 353, 3) := by decide +kernel
theorem dL_law_3159 : decode cL_law 3159 = .ok (.f2d, 1) := by decide +kernel
theorem dL_law_3160 : decode cL_law 3160 = .ok (.dstore 6, 2) := by decide +kernel
theorem dL_law_3162 : decode cL_law 3162 = .ok (.aload_n 2, 1) := by decide +kernel
theorem dL_law_3163 : decode cL_law 3163 = .ok (.invokevirtual 357, 3) := by decide +kernel
theorem dL_law_3166 : decode cL_law 3166 = .ok (.f2d, 1) := by decide +kernel
theorem dL_law_3167 : decode cL_law 3167 = .ok (.dstore 8, 2) := by decide +kernel
theorem dL_law_3169 : decode cL_law 3169 = .ok (.dload 6, 2) := by decide +kernel
theorem dL_law_3171 : decode cL_law 3171 = .ok (.dload 8, 2) := by decide +kernel
theorem dL_law_3173 : decode cL_law 3173 = .ok (.dcmp .l, 1) := by decide +kernel
theorem dL_law_3174 : decode cL_law 3174 = .ok (.ifCond .eq 21, 3) := by decide +kernel
theorem dL_law_3177 : decode cL_law 3177 = .ok (.dload 6, 2) := by decide +kernel
theorem dL_law_3179 : decode cL_law 3179 = .ok (.dload 6, 2) := by decide +kernel
theorem dL_law_3181 : decode cL_law 3181 = .ok (.dcmp .l, 1) := by decide +kernel
theorem dL_law_3182 : decode cL_law 3182 = .ok (.ifCond .eq 11, 3) := by decide +kernel
theorem dL_law_3185 : decode cL_law 3185 = .ok (.dload 8, 2) := by decide +kernel
theorem dL_law_3187 : decode cL_law 3187 = .ok (.dload 8, 2) := by decide +kernel
theorem dL_law_3189 : decode cL_law 3189 = .ok (.dcmp .l, 1) := by decide +kernel
theorem dL_law_3190 : decode cL_law 3190 = .ok (.ifCond .ne 5, 3) := by decide +kernel
theorem dL_law_3193 : decode cL_law 3193 = .ok (.iconst 0, 1) := by decide +kernel
theorem dL_law_3194 : decode cL_law 3194 = .ok (.ireturn, 1) := by decide +kernel
theorem dL_law_3195 : decode cL_law 3195 = .ok (.goto 243, 3) := by decide +kernel
theorem dL_law_3198 : decode cL_law 3198 = .ok (.aload_n 1, 1) := by decide +kernel
theorem dL_law_3199 : decode cL_law 3199 = .ok (.aload_n 0, 1) := by decide +kernel
theorem dL_law_3200 : decode cL_law 3200 = .ok (.iload 5, 2) := by decide +kernel
theorem dL_law_3202 : decode cL_law 3202 = .ok (.iconst 1, 1) := by decide +kernel
theorem dL_law_3203 : decode cL_law 3203 = .ok (.iadd, 1) := by decide +kernel
theorem dL_law_3204 : decode cL_law 3204 = .ok (.iaload, 1) := by decide +kernel
theorem dL_law_3205 : decode cL_law 3205 = .ok (.aload 4, 2) := by decide +kernel
theorem dL_law_3207 : decode cL_law 3207 = .ok (.invokestatic 358, 3) := by decide +kernel
theorem dL_law_3210 : decode cL_law 3210 = .ok (.istore 6, 2) := by decide +kernel
theorem dL_law_3212 : decode cL_law 3212 = .ok (.aload_n 2, 1) := by decide +kernel
theorem dL_law_3213 : decode cL_law 3213 = .ok (.aload_n 0, 1) := by decide +kernel
theorem dL_law_3214 : decode cL_law 3214 = .ok (.iload 5, 2) := by decide +kernel
theorem dL_law_3216 : decode cL_law 3216 = .ok (.iconst 1, 1) := by decide +kernel
theorem dL_law_3217 : decode cL_law 3217 = .ok (.iadd, 1) := by decide +kernel
theorem dL_law_3218 : decode cL_law 3218 = .ok (.iaload, 1) := by decide +kernel
theorem dL_law_3219 : decode cL_law 3219 = .ok (.invokevirtual 361, 3) := by decide +kernel
theorem dL_law_3222 : decode cL_law 3222 = .ok (.dstore 7, 2) := by decide +kernel
theorem dL_law_3224 : decode cL_law 3224 = .ok (.aload_n 2, 1) := by decide +kernel
theorem dL_law_3225 : decode cL_law 3225 = .ok (.invokevirtual 172, 3) := by decide +kernel
theorem dL_law_3228 : decode cL_law 3228 = .ok (.iload 6, 2) := by decide +kernel
theorem dL_law_3230 : decode cL_law 3230 = .ok (.if_icmp .eq 5, 3) := by decide +kernel
theorem dL_law_3233 : decode cL_law 3233 = .ok (.iconst 0, 1) := by decide +kernel
theorem dL_law_3234 : decode cL_law 3234 = .ok (.ireturn, 1) := by decide +kernel
theorem dL_law_3235 : decode cL_law 3235 = .ok (.iload 6, 2) := by decide +kernel
theorem dL_law_3237 : decode cL_law 3237 = .ok (.ifCond .ne 35, 3) := by decide +kernel
theorem dL_law_3240 : decode cL_law 3240 = .ok (.aload 4, 2) := by decide +kernel
theorem dL_law_3242 : decode cL_law 3242 = .ok (.iconst 0, 1) := by decide +kernel
theorem dL_law_3243 : decode cL_law 3243 = .ok (.daload, 1) := by decide +kernel
theorem dL_law_3244 : decode cL_law 3244 = .ok (.dload 7, 2) := by decide +kernel
theorem dL_law_3246 : decode cL_law 3246 = .ok (.dcmp .l, 1) := by decide +kernel
theorem dL_law_3247 : decode cL_law 3247 = .ok (.ifCond .eq 25, 3) := by decide +kernel
theorem dL_law_3250 : decode cL_law 3250 = .ok (.aload 4, 2) := by decide +kernel
theorem dL_law_3252 : decode cL_law 3252 = .ok (.iconst 0, 1) := by decide +kernel
theorem dL_law_3253 : decode cL_law 3253 = .ok (.daload, 1) := by decide +kernel
theorem dL_law_3254 : decode cL_law 3254 = .ok (.aload 4, 2) := by decide +kernel
theorem dL_law_3256 : decode cL_law 3256 = .ok (.iconst 0, 1) := by decide +kernel
theorem dL_law_3257 : decode cL_law 3257 = .ok (.daload, 1) := by decide +kernel
theorem dL_law_3258 : decode cL_law 3258 = .ok (.dcmp .l, 1) := by decide +kernel
theorem dL_law_3259 : decode cL_law 3259 = .ok (.ifCond .eq 11, 3) := by decide +kernel
theorem dL_law_3262 : decode cL_law 3262 = .ok (.dload 7, 2) := by decide +kernel
theorem dL_law_3264 : decode cL_law 3264 = .ok (.dload 7, 2) := by decide +kernel
theorem dL_law_3266 : decode cL_law 3266 = .ok (.dcmp .l, 1) := by decide +kernel
theorem dL_law_3267 : decode cL_law 3267 = .ok (.ifCond .ne 5, 3) := by decide +kernel
theorem dL_law_3270 : decode cL_law 3270 = .ok (.iconst 0, 1) := by decide +kernel
theorem dL_law_3271 : decode cL_law 3271 = .ok (.ireturn, 1) := by decide +kernel
theorem dL_law_3272 : decode cL_law 3272 = .ok (.goto 166, 3) := by decide +kernel
theorem dL_law_3275 : decode cL_law 3275 = .ok (.aload_n 1, 1) := by decide +kernel
theorem dL_law_3276 : decode cL_law 3276 = .ok (.aload_n 0, 1) := by decide +kernel
theorem dL_law_3277 : decode cL_law 3277 = .ok (.iload 5, 2) := by decide +kernel
theorem dL_law_3279 : decode cL_law 3279 = .ok (.iconst 1, 1) := by decide +kernel
theorem dL_law_3280 : decode cL_law 3280 = .ok (.iadd, 1) := by decide +kernel
theorem dL_law_3281 : decode cL_law 3281 = .ok (.iaload, 1) := by decide +kernel
theorem dL_law_3282 : decode cL_law 3282 = .ok (.aload_n 0, 1) := by decide +kernel
theorem dL_law_3283 : decode cL_law 3283 = .ok (.iload 5, 2) := by decide +kernel
theorem dL_law_3285 : decode cL_law 3285 = .ok (.iconst 2, 1) := by decide +kernel
theorem dL_law_3286 : decode cL_law 3286 = .ok (.iadd, 1) := by decide +kernel
theorem dL_law_3287 : decode cL_law 3287 = .ok (.iaload, 1) := by decide +kernel
theorem dL_law_3288 : decode cL_law 3288 = .ok (.aload_n 0, 1) := by decide +kernel
theorem dL_law_3289 : decode cL_law 3289 = .ok (.iload 5, 2) := by decide +kernel
theorem dL_law_3291 : decode cL_law 3291 = .ok (.iconst 3, 1) := by decide +kernel
theorem dL_law_3292 : decode cL_law 3292 = .ok (.iadd, 1) := by decide +kernel
theorem dL_law_3293 : decode cL_law 3293 = .ok (.iaload, 1) := by decide +kernel
theorem dL_law_3294 : decode cL_law 3294 = .ok (.i2l, 1) := by decide +kernel
theorem dL_law_3295 : decode cL_law 3295 = .ok (.bipush 32, 2) := by decide +kernel
theorem dL_law_3297 : decode cL_law 3297 = .ok (.lshl, 1) := by decide +kernel
theorem dL_law_3298 : decode cL_law 3298 = .ok (.aload_n 0, 1) := by decide +kernel
theorem dL_law_3299 : decode cL_law 3299 = .ok (.iload 5, 2) := by decide +kernel
theorem dL_law_3301 : decode cL_law 3301 = .ok (.iconst 4, 1) := by decide +kernel
theorem dL_law_3302 : decode cL_law 3302 = .ok (.iadd, 1) := by decide +kernel
theorem dL_law_3303 : decode cL_law 3303 = .ok (.iaload, 1) := by decide +kernel
theorem dL_law_3304 : decode cL_law 3304 = .ok (.i2l, 1) := by decide +kernel
theorem dL_law_3305 : decode cL_law 3305 = .ok (.ldc2_w 362, 3) := by decide +kernel
theorem dL_law_3308 : decode cL_law 3308 = .ok (.land, 1) := by decide +kernel
theorem dL_law_3309 : decode cL_law 3309 = .ok (.lor, 1) := by decide +kernel
theorem dL_law_3310 : decode cL_law 3310 = .ok (.aload_n 3, 1) := by decide +kernel
theorem dL_law_3311 : decode cL_law 3311 = .ok (.invokestatic 364, 3) := by decide +kernel
theorem dL_law_3314 : decode cL_law 3314 = .ok (.istore 6, 2) := by decide +kernel
theorem dL_law_3316 : decode cL_law 3316 = .ok (.aload_n 2, 1) := by decide +kernel
theorem dL_law_3317 : decode cL_law 3317 = .ok (.aload_n 0, 1) := by decide +kernel
theorem dL_law_3318 : decode cL_law 3318 = .ok (.iload 5, 2) := by decide +kernel
theorem dL_law_3320 : decode cL_law 3320 = .ok (.iconst 1, 1) := by decide +kernel
theorem dL_law_3321 : decode cL_law 3321 = .ok (.iadd, 1) := by decide +kernel
theorem dL_law_3322 : decode cL_law 3322 = .ok (.iaload, 1) := by decide +kernel
theorem dL_law_3323 : decode cL_law 3323 = .ok (.aload_n 0, 1) := by decide +kernel
theorem dL_law_3324 : decode cL_law 3324 = .ok (.iload 5, 2) := by decide +kernel
theorem dL_law_3326 : decode cL_law 3326 = .ok (.iconst 2, 1) := by decide +kernel
theorem dL_law_3327 : decode cL_law 3327 = .ok (.iadd, 1) := by decide +kernel
theorem dL_law_3328 : decode cL_law 3328 = .ok (.iaload, 1) := by decide +kernel
theorem dL_law_3329 : decode cL_law 3329 = .ok (.aload_n 0, 1) := by decide +kernel
theorem dL_law_3330 : decode cL_law 3330 = .ok (.iload 5, 2) := by decide +kernel
theorem dL_law_3332 : decode cL_law 3332 = .ok (.iconst 3, 1) := by decide +kernel
theorem dL_law_3333 : decode cL_law 3333 = .ok (.iadd, 1) := by decide +kernel
theorem dL_law_3334 : decode cL_law 3334 = .ok (.iaload, 1) := by decide +kernel
theorem dL_law_3335 : decode cL_law 3335 = .ok (.i2l, 1) := by decide +kernel
theorem dL_law_3336 : decode cL_law 3336 = .ok (.bipush 32, 2) := by decide +kernel
theorem dL_law_3338 : decode cL_law 3338 = .ok (.lshl, 1) := by decide +kernel
theorem dL_law_3339 : decode cL_law 3339 = .ok (.aload_n 0, 1) := by decide +kernel
theorem dL_law_3340 : decode cL_law 3340 = .ok (.iload 5, 2) := by decide +kernel
theorem dL_law_3342 : decode cL_law 3342 = .ok (.iconst 4, 1) := by decide +kernel
theorem dL_law_3343 : decode cL_law 3343 = .ok (.iadd, 1) := by decide +kernel
theorem dL_law_3344 : decode cL_law 3344 = .ok (.iaload, 1) := by decide +kernel
theorem dL_law_3345 : decode cL_law 3345 = .ok (.i2l, 1) := by decide +kernel
theorem dL_law_3346 : decode cL_law 3346 = .ok (.ldc2_w 362, 3) := by decide +kernel
theorem dL_law_3349 : decode cL_law 3349 = .ok (.land, 1) := by decide +kernel
theorem dL_law_3350 : decode cL_law 3350 = .ok (.lor, 1) := by decide +kernel
theorem dL_law_3351 : decode cL_law 3351 = .ok (.invokevirtual 367, 3) := by decide +kernel
theorem dL_law_3354 : decode cL_law 3354 = .ok (.istore 7, 2) := by decide +kernel
theorem dL_law_3356 : decode cL_law 3356 = .ok (.aload_n 2, 1) := by decide +kernel
theorem dL_law_3357 : decode cL_law 3357 = .ok (.invokevirtual 172, 3) := by decide +kernel
theorem dL_law_3360 : decode cL_law 3360 = .ok (.iload 6, 2) := by decide +kernel
theorem dL_law_3362 : decode cL_law 3362 = .ok (.if_icmp .eq 5, 3) := by decide +kernel
theorem dL_law_3365 : decode cL_law 3365 = .ok (.iconst 0, 1) := by decide +kernel
theorem dL_law_3366 : decode cL_law 3366 = .ok (.ireturn, 1) := by decide +kernel
theorem dL_law_3367 : decode cL_law 3367 = .ok (.iload 6, 2) := by decide +kernel
theorem dL_law_3369 : decode cL_law 3369 = .ok (.ifCond .ne 15, 3) := by decide +kernel
theorem dL_law_3372 : decode cL_law 3372 = .ok (.aload_n 3, 1) := by decide +kernel
theorem dL_law_3373 : decode cL_law 3373 = .ok (.iconst 0, 1) := by decide +kernel
theorem dL_law_3374 : decode cL_law 3374 = .ok (.laload, 1) := by decide +kernel
theorem dL_law_3375 : decode cL_law 3375 = .ok (.iload 7, 2) := by decide +kernel
theorem dL_law_3377 : decode cL_law 3377 = .ok (.i2l, 1) := by decide +kernel
theorem dL_law_3378 : decode cL_law 3378 = .ok (.lcmp, 1) := by decide +kernel
theorem dL_law_3379 : decode cL_law 3379 = .ok (.ifCond .eq 5, 3) := by decide +kernel
theorem dL_law_3382 : decode cL_law 3382 = .ok (.iconst 0, 1) := by decide +kernel
theorem dL_law_3383 : decode cL_law 3383 = .ok (.ireturn, 1) := by decide +kernel
theorem dL_law_3384 : decode cL_law 3384 = .ok (.goto 54, 3) := by decide +kernel
theorem dL_law_3387 : decode cL_law 3387 = .ok (.aload_n 1, 1) := by decide +kernel
theorem dL_law_3388 : decode cL_law 3388 = .ok (.invokevirtual 368, 3) := by decide +kernel
theorem dL_law_3391 : decode cL_law 3391 = .ok (.aload_n 2, 1) := by decide +kernel
theorem dL_law_3392 : decode cL_law 3392 = .ok (.invokevirtual 371, 3) := by decide +kernel
theorem dL_law_3395 : decode cL_law 3395 = .ok (.if_icmp .eq 43, 3) := by decide +kernel
theorem dL_law_3398 : decode cL_law 3398 = .ok (.iconst 0, 1) := by decide +kernel
theorem dL_law_3399 : decode cL_law 3399 = .ok (.ireturn, 1) := by decide +kernel
theorem dL_law_3400 : decode cL_law 3400 = .ok (.aload_n 1, 1) := by decide +kernel
theorem dL_law_3401 : decode cL_law 3401 = .ok (.invokevirtual 372, 3) := by decide +kernel
theorem dL_law_3404 : decode cL_law 3404 = .ok (.aload_n 2, 1) := by decide +kernel
theorem dL_law_3405 : decode cL_law 3405 = .ok (.invokevirtual 375, 3) := by decide +kernel
theorem dL_law_3408 : decode cL_law 3408 = .ok (.if_icmp .eq 30, 3) := by decide +kernel
theorem dL_law_3411 : decode cL_law 3411 = .ok (.iconst 0, 1) := by decide +kernel
theorem dL_law_3412 : decode cL_law 3412 = .ok (.ireturn, 1) := by decide +kernel
theorem dL_law_3413 : decode cL_law 3413 = .ok (.aload_n 1, 1) := by decide +kernel
theorem dL_law_3414 : decode cL_law 3414 = .ok (.aload_n 0, 1) := by decide +kernel
theorem dL_law_3415 : decode cL_law 3415 = .ok (.iload 5, 2) := by decide +kernel
theorem dL_law_3417 : decode cL_law 3417 = .ok (.iconst 1, 1) := by decide +kernel
theorem dL_law_3418 : decode cL_law 3418 = .ok (.iadd, 1) := by decide +kernel
theorem dL_law_3419 : decode cL_law 3419 = .ok (.iaload, 1) := by decide +kernel
theorem dL_law_3420 : decode cL_law 3420 = .ok (.invokevirtual 376, 3) := by decide +kernel
theorem dL_law_3423 : decode cL_law 3423 = .ok (.aload_n 2, 1) := by decide +kernel
theorem dL_law_3424 : decode cL_law 3424 = .ok (.aload_n 0, 1) := by decide +kernel
theorem dL_law_3425 : decode cL_law 3425 = .ok (.iload 5, 2) := by decide +kernel
theorem dL_law_3427 : decode cL_law 3427 = .ok (.iconst 1, 1) := by decide +kernel
theorem dL_law_3428 : decode cL_law 3428 = .ok (.iadd, 1) := by decide +kernel
theorem dL_law_3429 : decode cL_law 3429 = .ok (.iaload, 1) := by decide +kernel
theorem dL_law_3430 : decode cL_law 3430 = .ok (.invokevirtual 379, 3) := by decide +kernel
theorem dL_law_3433 : decode cL_law 3433 = .ok (.if_icmp .eq 5, 3) := by decide +kernel
theorem dL_law_3436 : decode cL_law 3436 = .ok (.iconst 0, 1) := by decide +kernel
theorem dL_law_3437 : decode cL_law 3437 = .ok (.ireturn, 1) := by decide +kernel
theorem dL_law_3438 : decode cL_law 3438 = .ok (.iinc 5 6, 3) := by decide +kernel
theorem dL_law_3441 : decode cL_law 3441 = .ok (.goto (-3413), 3) := by decide +kernel
theorem dL_law_3444 : decode cL_law 3444 = .ok (.iconst 1, 1) := by decide +kernel
theorem dL_law_3445 : decode cL_law 3445 = .ok (.ireturn, 1) := by decide +kernel
