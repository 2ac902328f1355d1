theorem dL_law_3114 : decode cL_law 3114 = .ok (.if_icmp .eq 5, 3) := by decide +kernel
theorem dL_law_3117 : decode cL_law 3117 = .ok (.iconst 0, 1) := by decide +kernel
theorem dL_law_3118 : decode cL_law 3118 = .ok (.ireturn, 1) := by decide +kernel
theorem dL_law_3119 : decode cL_law 3119 = .ok (.iload 5, 2) := by decide +kernel
theorem dL_law_3121 : decode cL_law 3121 = .ok (.ifCond .ne 15, 3) := by decide +kernel
theorem dL_law_3124 : decode cL_law 3124 = .ok (.aload_n 3, 1) := by decide +kernel
theorem dL_law_3125 : decode cL_law 3125 = .ok (.iconst 0, 1) := by decide +kernel
theorem dL_law_3126 : decode cL_law 3126 = .ok (.laload, 1) := by decide +kernel
theorem dL_law_3127 : decode cL_law 3127 = .ok (.iload 6, 2) := by decide +kernel
theorem dL_law_3129 : decode cL_law 3129 = .ok (.i2l, 1) := by decide +kernel
theorem dL_law_3130 : decode cL_law 3130 = .ok (.lcmp, 1) := by decide +kernel
theorem dL_law_3131 : decode cL_law 3131 = .ok (.ifCond .eq 5, 3) := by decide +kernel
theorem dL_law_3134 : decode cL_law 3134 = .ok (.iconst 0, 1) := by decide +kernel
theorem dL_law_3135 : decode cL_law 3135 = .ok (.ireturn, 1) := by decide +kernel
theorem dL_law_3136 : decode cL_law 3136 = .ok (.goto 181, 3) := by decide +kernel
theorem dL_law_3139 : decode cL_law 3139 = .ok (.aload_n 1, 1) := by decide +kernel
theorem dL_law_3140 : decode cL_law 3140 = .ok (.invokevirtual 356, 3) := by decide +kernel
theorem dL_law_3143 : decode cL_law 3143 = .ok (.dstore 5, 2) := by decide +kernel
theorem dL_law_3145 : decode cL_law 3145 = .ok (.aload_n 2, 1) := by decide +kernel
theorem dL_law_3146 : decode cL_law 3146 = .ok (.invokevirtual 360, 3) := by decide +kernel
theorem dL_law_3149 : decode cL_law 3149 = .ok (.dstore 7, 2) := by decide +kernel
theorem dL_law_3151 : decode cL_law 3151 = .ok (.dload 5, 2) := by decide +kernel
theorem dL_law_3153 : decode cL_law 3153 = .ok (.dload 7, 2) := by decide +kernel
theorem dL_law_3155 : decode cL_law 3155 = .ok (.dcmp .l, 1) := by decide +kernel
theorem dL_law_3156 : decode cL_law 3156 = .ok (.ifCond .eq 21, 3) := by decide +kernel
theorem dL_law_3159 : decode cL_law 3159 = .ok (.dload 5, 2) := by decide +kernel
theorem dL_law_3161 : decode cL_law 3161 = .ok (.dload 5, 2) := by decide +kernel
theorem dL_law_3163 : decode cL_law 3163 = .ok (.dcmp .l, 1) := by decide +kernel
theorem dL_law_3164 : decode cL_law 3164 = .ok (.ifCond .eq 11, 3) := by decide +kernel
theorem dL_law_3167 : decode cL_law 3167 = .ok (.dload 7, 2) := by decide +kernel
theorem dL_law_3169 : decode cL_law 3169 = .ok (.dload 7, 2) := by decide +kernel
theorem dL_law_3171 : decode cL_law 3171 = .ok (.dcmp .l, 1) := by decide +kernel
theorem dL_law_3172 : decode cL_law 3172 = .ok (.ifCond .ne 5, 3) := by decide +kernel
theorem dL_law_3175 : decode cL_law 3175 = .ok (.iconst 0, 1) := by decide +kernel
theorem dL_law_3176 : decode cL_law 3176 = .ok (.ireturn, 1) := by decide +kernel
theorem dL_law_3177 : decode cL_law 3177 = .ok (.goto 140, 3) := by decide +kernel
theorem dL_law_3180 : decode cL_law 3180 = .ok (.aload_n 1, 1) := by decide +kernel
theorem dL_law_3181 : decode cL_law 3181 = .ok (.invokevirtual 361, 3) := by decide +kernel
theorem dL_law_3184 : decode cL_law 3184 = .ok (.f2d, 1) := by decide +kernel
theorem dL_law_3185 : decode cL_law 3185 = .ok (.dstore 5, 2) := by decide +kernel
theorem dL_law_3187 : decode cL_law 3187 = .ok (.aload_n 2, 1) := by decide +kernel
theorem dL_law_3188 : decode cL_law 3188 = .ok (.invokevirtual 365, 3) := by decide +kernel
theorem dL_law_3191 : decode cL_law 3191 = .ok (.f2d, 1) := by decide +kernel
theorem dL_law_3192 : decode cL_law 3192 = .ok (.dstore 7, 2) := by decide +kernel
theorem dL_law_3194 : decode cL_law 3194 = .ok (.dload 5, 2) := by decide +kernel
theorem dL_law_3196 : decode cL_law 3196 = .ok (.dload 7, 2) := by decide +kernel
theorem dL_law_3198 : decode cL_law 3198 = .ok (.dcmp .l, 1) := by decide +kernel
theorem dL_law_3199 : decode cL_law 3199 = .ok (.ifCond .eq 21, 3) := by decide +kernel
theorem dL_law_3202 : decode cL_law 3202 = .ok (.dload 5, 2) := by decide +kernel
theorem dL_law_3204 : decode cL_law 3204 = .ok (.dload 5, 2) := by decide +kernel
theorem dL_law_3206 : decode cL_law 3206 = .ok (.dcmp .l, 1) := by decide +kernel
theorem dL_law_3207 : decode cL_law 3207 = .ok (.ifCond .eq 11, 3) := by decide +kernel
theorem dL_law_3210 : decode cL_law 3210 = .ok (.dload 7, 2) := by decide +kernel
theorem dL_law_3212 : decode cL_law 3212 = .ok (.dload 7, 2) := by decide +kernel
theorem dL_law_3214 : decode cL_law 3214 = .ok (.dcmp .l, 1) := by decide +kernel
theorem dL_law_3215 : decode cL_law 3215 = .ok (.ifCond .ne 5, 3) := by decide +kernel
theorem dL_law_3218 : decode cL_law 3218 = .ok (.iconst 0, 1) := by decide +kernel
theorem dL_law_3219 : decode cL_law 3219 = .ok (.ireturn, 1) := by decide +kernel
theorem dL_law_3220 : decode cL_law 3220 = .ok (.goto 97, 3) := by decide +kernel
theorem dL_law_3223 : decode cL_law 3223 = .ok (.aload_n 1, 1) := by decide +kernel
theorem dL_law_3224 : decode cL_law 3224 = .ok (.invokevirtual 366, 3) := by decide +kernel
theorem dL_law_3227 : decode cL_law 3227 = .ok (.aload_n 2, 1) := by decide +kernel
theorem dL_law_3228 : decode cL_law 3228 = .ok (.invokevirtual 369, 3) := by decide +kernel
theorem dL_law_3231 : decode cL_law 3231 = .ok (.if_icmp .eq 86, 3) := by decide +kernel
theorem dL_law_3234 : decode cL_law 3234 = .ok (.iconst 0, 1) := by decide +kernel
theorem dL_law_3235 : decode cL_law 3235 = .ok (.ireturn, 1) := by decide +kernel
theorem dL_law_3236 : decode cL_law 3236 = .ok (.aload_n 1, 1) := by decide +kernel
theorem dL_law_3237 : decode cL_law 3237 = .ok (.aload_n 0, 1) := by decide +kernel
theorem dL_law_3238 : decode cL_law 3238 = .ok (.iload 4, 2) := by decide +kernel
theorem dL_law_3240 : decode cL_law 3240 = .ok (.iconst 1, 1) := by decide +kernel
theorem dL_law_3241 : decode cL_law 3241 = .ok (.iadd, 1) := by decide +kernel
theorem dL_law_3242 : decode cL_law 3242 = .ok (.iaload, 1) := by decide +kernel
theorem dL_law_3243 : decode cL_law 3243 = .ok (.aload_n 3, 1) := by decide +kernel
theorem dL_law_3244 : decode cL_law 3244 = .ok (.invokestatic 370, 3) := by decide +kernel
theorem dL_law_3247 : decode cL_law 3247 = .ok (.istore 5, 2) := by decide +kernel
theorem dL_law_3249 : decode cL_law 3249 = .ok (.aload_n 2, 1) := by decide +kernel
theorem dL_law_3250 : decode cL_law 3250 = .ok (.aload_n 0, 1) := by decide +kernel
theorem dL_law_3251 : decode cL_law 3251 = .ok (.iload 4, 2) := by decide +kernel
theorem dL_law_3253 : decode cL_law 3253 = .ok (.iconst 1, 1) := by decide +kernel
theorem dL_law_3254 : decode cL_law 3254 = .ok (.iadd, 1) := by decide +kernel
theorem dL_law_3255 : decode cL_law 3255 = .ok (.iaload, 1) := by decide +kernel
theorem dL_law_3256 : decode cL_law 3256 = .ok (.invokevirtual 372, 3) := by decide +kernel
theorem dL_law_3259 : decode cL_law 3259 = .ok (.istore 6, 2) := by decide +kernel
theorem dL_law_3261 : decode cL_law 3261 = .ok (.aload_n 2, 1) := by decide +kernel
theorem dL_law_3262 : decode cL_law 3262 = .ok (.invokevirtual 157, 3) := by decide +kernel
theorem dL_law_3265 : decode cL_law 3265 = .ok (.iload 5, 2) := by decide +kernel
theorem dL_law_3267 : decode cL_law 3267 = .ok (.if_icmp .eq 5, 3) := by decide +kernel
theorem dL_law_3270 : decode cL_law 3270 = .ok (.iconst 0, 1) := by decide +kernel
theorem dL_law_3271 : decode cL_law 3271 = .ok (.ireturn, 1) := by decide +kernel
theorem dL_law_3272 : decode cL_law 3272 = .ok (.iload 5, 2) := by decide +kernel
theorem dL_law_3274 : decode cL_law 3274 = .ok (.ifCond .ne 15, 3) := by decide +kernel
theorem dL_law_3277 : decode cL_law 3277 = .ok (.aload_n 3, 1) := by decide +kernel
theorem dL_law_3278 : decode cL_law 3278 = .ok (.iconst 0, 1) := by decide +kernel
theorem dL_law_3279 : decode cL_law 3279 = .ok (.laload, 1) := by decide +kernel
theorem dL_law_3280 : decode cL_law 3280 = .ok (.iload 6, 2) := by decide +kernel
theorem dL_law_3282 : decode cL_law 3282 = .ok (.i2l, 1) := by decide +kernel
theorem dL_law_3283 : decode cL_law 3283 = .ok (.lcmp, 1) := by decide +kernel
theorem dL_law_3284 : decode cL_law 3284 = .ok (.ifCond .eq 5, 3) := by decide +kernel
theorem dL_law_3287 : decode cL_law 3287 = .ok (.iconst 0, 1) := by decide +kernel
theorem dL_law_3288 : decode cL_law 3288 = .ok (.ireturn, 1) := by decide +kernel
theorem dL_law_3289 : decode cL_law 3289 = .ok (.goto 28, 3) := by decide +kernel
theorem dL_law_3292 : decode cL_law 3292 = .ok (.aload_n 1, 1) := by decide +kernel
theorem dL_law_3293 : decode cL_law 3293 = .ok (.aload_n 0, 1) := by decide +kernel
theorem dL_law_3294 : decode cL_law 3294 = .ok (.iload 4, 2) := by decide +kernel
theorem dL_law_3296 : decode cL_law 3296 = .ok (.iconst 1, 1) := by decide +kernel
theorem dL_law_3297 : decode cL_law 3297 = .ok (.iadd, 1) := by decide +kernel
theorem dL_law_3298 : decode cL_law 3298 = .ok (.iaload, 1) := by decide +kernel
theorem dL_law_3299 : decode cL_law 3299 = .ok (.invokevirtual 373, 3) := by decide +kernel
theorem dL_law_3302 : decode cL_law 3302 = .ok (.aload_n 2, 1) := by decide +kernel
theorem dL_law_3303 : decode cL_law 3303 = .ok (.aload_n 0, 1) := by decide +kernel
theorem dL_law_3304 : decode cL_law 3304 = .ok (.iload 4, 2) := by decide +kernel
theorem dL_law_3306 : decode cL_law 3306 = .ok (.iconst 1, 1) := by decide +kernel
theorem dL_law_3307 : decode cL_law 3307 = .ok (.iadd, 1) := by decide +kernel
theorem dL_law_3308 : decode cL_law 3308 = .ok (.iaload, 1) := by decide +kernel
theorem dL_law_3309 : decode cL_law 3309 = .ok (.invokevirtual 376, 3) := by decide +kernel
theorem dL_law_3312 : decode cL_law 3312 = .ok (.if_icmp .eq 5, 3) := by decide +kernel
theorem dL_law_3315 : decode cL_law 3315 = .ok (.iconst 0, 1) := by decide +kernel
theorem dL_law_3316 : decode cL_law 3316 = .ok (.ireturn, 1) := by decide +kernel
theorem dL_law_3317 : decode cL_law 3317 = .ok (.iinc 4 6, 3) := by decide +kernel
theorem dL_law_3320 : decode cL_law 3320 = .ok (.goto (-3297), 3) := by decide +kernel
theorem dL_law_3323 : decode cL_law 3323 = .ok (.iconst 1, 1) := by decide +kernel
theorem dL_law_3324 : decode cL_law 3324 = .ok (.ireturn, 1) := by decide +kernel
