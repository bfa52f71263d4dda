/-! the law's instructions -/
theorem dL_law__3104 : decode cL_law_ 3104 = .ok (.iload 4, 2) := by decide +kernel
theorem dL_law__3106 : decode cL_law_ 3106 = .ok (.iconst 2, 1) := by decide +kernel
theorem dL_law__3107 : decode cL_law_ 3107 = .ok (.iadd, 1) := by decide +kernel
theorem dL_law__3108 : decode cL_law_ 3108 = .ok (.iaload, 1) := by decide +kernel
theorem dL_law__3109 : decode cL_law_ 3109 = .ok (.i2l, 1) := by decide +kernel
theorem dL_law__3110 : decode cL_law_ 3110 = .ok (.ldc2_w 178, 3) := by decide +kernel
theorem dL_law__3113 : decode cL_law_ 3113 = .ok (.land, 1) := by decide +kernel
theorem dL_law__3114 : decode cL_law_ 3114 = .ok (.lor, 1) := by decide +kernel
theorem dL_law__3115 : decode cL_law_ 3115 = .ok (.aload_n 0, 1) := by decide +kernel
theorem dL_law__3116 : decode cL_law_ 3116 = .ok (.iload 4, 2) := by decide +kernel
theorem dL_law__3118 : decode cL_law_ 3118 = .ok (.iconst 3, 1) := by decide +kernel
theorem dL_law__3119 : decode cL_law_ 3119 = .ok (.iadd, 1) := by decide +kernel
theorem dL_law__3120 : decode cL_law_ 3120 = .ok (.iaload, 1) := by decide +kernel
theorem dL_law__3121 : decode cL_law_ 3121 = .ok (.aload_n 3, 1) := by decide +kernel
theorem dL_law__3122 : decode cL_law_ 3122 = .ok (.invokestatic 282, 3) := by decide +kernel
theorem dL_law__3125 : decode cL_law_ 3125 = .ok (.istore 5, 2) := by decide +kernel
theorem dL_law__3127 : decode cL_law_ 3127 = .ok (.aload_n 2, 1) := by decide +kernel
theorem dL_law__3128 : decode cL_law_ 3128 = .ok (.aload_n 0, 1) := by decide +kernel
theorem dL_law__3129 : decode cL_law_ 3129 = .ok (.iload 4, 2) := by decide +kernel
theorem dL_law__3131 : decode cL_law_ 3131 = .ok (.iconst 1, 1) := by decide +kernel
theorem dL_law__3132 : decode cL_law_ 3132 = .ok (.iadd, 1) := by decide +kernel
theorem dL_law__3133 : decode cL_law_ 3133 = .ok (.iaload, 1) := by decide +kernel
theorem dL_law__3134 : decode cL_law_ 3134 = .ok (.i2l, 1) := by decide +kernel
theorem dL_law__3135 : decode cL_law_ 3135 = .ok (.bipush 32, 2) := by decide +kernel
theorem dL_law__3137 : decode cL_law_ 3137 = .ok (.lshl, 1) := by decide +kernel
theorem dL_law__3138 : decode cL_law_ 3138 = .ok (.aload_n 0, 1) := by decide +kernel
theorem dL_law__3139 : decode cL_law_ 3139 = .ok (.iload 4, 2) := by decide +kernel
theorem dL_law__3141 : decode cL_law_ 3141 = .ok (.iconst 2, 1) := by decide +kernel
theorem dL_law__3142 : decode cL_law_ 3142 = .ok (.iadd, 1) := by decide +kernel
theorem dL_law__3143 : decode cL_law_ 3143 = .ok (.iaload, 1) := by decide +kernel
theorem dL_law__3144 : decode cL_law_ 3144 = .ok (.i2l, 1) := by decide +kernel
theorem dL_law__3145 : decode cL_law_ 3145 = .ok (.ldc2_w 178, 3) := by decide +kernel
theorem dL_law__3148 : decode cL_law_ 3148 = .ok (.land, 1) := by decide +kernel
theorem dL_law__3149 : decode cL_law_ 3149 = .ok (.lor, 1) := by decide +kernel
theorem dL_law__3150 : decode cL_law_ 3150 = .ok (.aload_n 0, 1) := by decide +kernel
theorem dL_law__3151 : decode cL_law_ 3151 = .ok (.iload 4, 2) := by decide +kernel
theorem dL_law__3153 : decode cL_law_ 3153 = .ok (.iconst 3, 1) := by decide +kernel
theorem dL_law__3154 : decode cL_law_ 3154 = .ok (.iadd, 1) := by decide +kernel
theorem dL_law__3155 : decode cL_law_ 3155 = .ok (.iaload, 1) := by decide +kernel
theorem dL_law__3156 : decode cL_law_ 3156 = .ok (.invokevirtual 284, 3) := by decide +kernel
theorem dL_law__3159 : decode cL_law_ 3159 = .ok (.istore 6, 2) := by decide +kernel
theorem dL_law__3161 : decode cL_law_ 3161 = .ok (.aload_n 2, 1) := by decide +kernel
theorem dL_law__3162 : decode cL_law_ 3162 = .ok (.invokevirtual 157, 3) := by decide +kernel
theorem dL_law__3165 : decode cL_law_ 3165 = .ok (.iload 5, 2) := by decide +kernel
theorem dL_law__3167 : decode cL_law_ 3167 = .ok (.if_icmp .eq 5, 3) := by decide +kernel
theorem dL_law__3170 : decode cL_law_ 3170 = .ok (.iconst 0, 1) := by decide +kernel
theorem dL_law__3171 : decode cL_law_ 3171 = .ok (.ireturn, 1) := by decide +kernel
theorem dL_law__3172 : decode cL_law_ 3172 = .ok (.iload 5, 2) := by decide +kernel
theorem dL_law__3174 : decode cL_law_ 3174 = .ok (.ifCond .ne 15, 3) := by decide +kernel
theorem dL_law__3177 : decode cL_law_ 3177 = .ok (.aload_n 3, 1) := by decide +kernel
theorem dL_law__3178 : decode cL_law_ 3178 = .ok (.iconst 0, 1) := by decide +kernel
theorem dL_law__3179 : decode cL_law_ 3179 = .ok (.laload, 1) := by decide +kernel
theorem dL_law__3180 : decode cL_law_ 3180 = .ok (.iload 6, 2) := by decide +kernel
theorem dL_law__3182 : decode cL_law_ 3182 = .ok (.i2l, 1) := by decide +kernel
theorem dL_law__3183 : decode cL_law_ 3183 = .ok (.lcmp, 1) := by decide +kernel
theorem dL_law__3184 : decode cL_law_ 3184 = .ok (.ifCond .eq 5, 3) := by decide +kernel
theorem dL_law__3187 : decode cL_law_ 3187 = .ok (.iconst 0, 1) := by decide +kernel
theorem dL_law__3188 : decode cL_law_ 3188 = .ok (.ireturn, 1) := by decide +kernel
theorem dL_law__3189 : decode cL_law_ 3189 = .ok (.goto 146, 3) := by decide +kernel
theorem dL_law__3192 : decode cL_law_ 3192 = .ok (.aload_n 1, 1) := by decide +kernel
theorem dL_law__3193 : decode cL_law_ 3193 = .ok (.aload_n 0, 1) := by decide +kernel
theorem dL_law__3194 : decode cL_law_ 3194 = .ok (.iload 4, 2) := by decide +kernel
theorem dL_law__3196 : decode cL_law_ 3196 = .ok (.iconst 1, 1) := by decide +kernel
theorem dL_law__3197 : decode cL_law_ 3197 = .ok (.iadd, 1) := by decide +kernel
theorem dL_law__3198 : decode cL_law_ 3198 = .ok (.iaload, 1) := by decide +kernel
theorem dL_law__3199 : decode cL_law_ 3199 = .ok (.aload_n 3, 1) := by decide +kernel
theorem dL_law__3200 : decode cL_law_ 3200 = .ok (.invokestatic 285, 3) := by decide +kernel
theorem dL_law__3203 : decode cL_law_ 3203 = .ok (.istore 5, 2) := by decide +kernel
theorem dL_law__3205 : decode cL_law_ 3205 = .ok (.aload_n 2, 1) := by decide +kernel
theorem dL_law__3206 : decode cL_law_ 3206 = .ok (.aload_n 0, 1) := by decide +kernel
theorem dL_law__3207 : decode cL_law_ 3207 = .ok (.iload 4, 2) := by decide +kernel
theorem dL_law__3209 : decode cL_law_ 3209 = .ok (.iconst 1, 1) := by decide +kernel
theorem dL_law__3210 : decode cL_law_ 3210 = .ok (.iadd, 1) := by decide +kernel
theorem dL_law__3211 : decode cL_law_ 3211 = .ok (.iaload, 1) := by decide +kernel
theorem dL_law__3212 : decode cL_law_ 3212 = .ok (.invokevirtual 287, 3) := by decide +kernel
theorem dL_law__3215 : decode cL_law_ 3215 = .ok (.istore 6, 2) := by decide +kernel
theorem dL_law__3217 : decode cL_law_ 3217 = .ok (.aload_n 2, 1) := by decide +kernel
theorem dL_law__3218 : decode cL_law_ 3218 = .ok (.invokevirtual 157, 3) := by decide +kernel
theorem dL_law__3221 : decode cL_law_ 3221 = .ok (.iload 5, 2) := by decide +kernel
theorem dL_law__3223 : decode cL_law_ 3223 = .ok (.if_icmp .eq 5, 3) := by decide +kernel
theorem dL_law__3226 : decode cL_law_ 3226 = .ok (.iconst 0, 1) := by decide +kernel
theorem dL_law__3227 : decode cL_law_ 3227 = .ok (.ireturn, 1) := by decide +kernel
theorem dL_law__3228 : decode cL_law_ 3228 = .ok (.iload 5, 2) := by decide +kernel
theorem dL_law__3230 : decode cL_law_ 3230 = .ok (.ifCond .ne 15, 3) := by decide +kernel
theorem dL_law__3233 : decode cL_law_ 3233 = .ok (.aload_n 3, 1) := by decide +kernel
theorem dL_law__3234 : decode cL_law_ 3234 = .ok (.iconst 0, 1) := by decide +kernel
theorem dL_law__3235 : decode cL_law_ 3235 = .ok (.laload, 1) := by decide +kernel
theorem dL_law__3236 : decode cL_law_ 3236 = .ok (.iload 6, 2) := by decide +kernel
theorem dL_law__3238 : decode cL_law_ 3238 = .ok (.i2l, 1) := by decide +kernel
theorem dL_law__3239 : decode cL_law_ 3239 = .ok (.lcmp, 1) := by decide +kernel
theorem dL_law__3240 : decode cL_law_ 3240 = .ok (.ifCond .eq 5, 3) := by decide +kernel
theorem dL_law__3243 : decode cL_law_ 3243 = .ok (.iconst 0, 1) := by decide +kernel
theorem dL_law__3244 : decode cL_law_ 3244 = .ok (.ireturn, 1) := by decide +kernel
theorem dL_law__3245 : decode cL_law_ 3245 = .ok (.goto 90, 3) := by decide +kernel
theorem dL_law__3248 : decode cL_law_ 3248 = .ok (.aload_n 1, 1) := by decide +kernel
theorem dL_law__3249 : decode cL_law_ 3249 = .ok (.aload_n 0, 1) := by decide +kernel
theorem dL_law__3250 : decode cL_law_ 3250 = .ok (.iload 4, 2) := by decide +kernel
theorem dL_law__3252 : decode cL_law_ 3252 = .ok (.iconst 1, 1) := by decide +kernel
theorem dL_law__3253 : decode cL_law_ 3253 = .ok (.iadd, 1) := by decide +kernel
theorem dL_law__3254 : decode cL_law_ 3254 = .ok (.iaload, 1) := by decide +kernel
theorem dL_law__3255 : decode cL_law_ 3255 = .ok (.invokevirtual 288, 3) := by decide +kernel
theorem dL_law__3258 : decode cL_law_ 3258 = .ok (.aload_n 2, 1) := by decide +kernel
theorem dL_law__3259 : decode cL_law_ 3259 = .ok (.aload_n 0, 1) := by decide +kernel
theorem dL_law__3260 : decode cL_law_ 3260 = .ok (.iload 4, 2) := by decide +kernel
theorem dL_law__3262 : decode cL_law_ 3262 = .ok (.iconst 1, 1) := by decide +kernel
theorem dL_law__3263 : decode cL_law_ 3263 = .ok (.iadd, 1) := by decide +kernel
theorem dL_law__3264 : decode cL_law_ 3264 = .ok (.iaload, 1) := by decide +kernel
theorem dL_law__3265 : decode cL_law_ 3265 = .ok (.invokevirtual 291, 3) := by decide +kernel
theorem dL_law__3268 : decode cL_law_ 3268 = .ok (.if_icmp .eq 67, 3) := by decide +kernel
theorem dL_law__3271 : decode cL_law_ 3271 = .ok (.iconst 0, 1) := by decide +kernel
theorem dL_law__3272 : decode cL_law_ 3272 = .ok (.ireturn, 1) := by decide +kernel
theorem dL_law__3273 : decode cL_law_ 3273 = .ok (.aload_n 1, 1) := by decide +kernel
theorem dL_law__3274 : decode cL_law_ 3274 = .ok (.invokevirtual 292, 3) := by decide +kernel
theorem dL_law__3277 : decode cL_law_ 3277 = .ok (.aload_n 2, 1) := by decide +kernel
theorem dL_law__3278 : decode cL_law_ 3278 = .ok (.invokevirtual 296, 3) := by decide +kernel
theorem dL_law__3281 : decode cL_law_ 3281 = .ok (.if_icmp .eq 54, 3) := by decide +kernel
theorem dL_law__3284 : decode cL_law_ 3284 = .ok (.iconst 0, 1) := by decide +kernel
theorem dL_law__3285 : decode cL_law_ 3285 = .ok (.ireturn, 1) := by decide +kernel
theorem dL_law__3286 : decode cL_law_ 3286 = .ok (.aload_n 1, 1) := by decide +kernel
theorem dL_law__3287 : decode cL_law_ 3287 = .ok (.invokevirtual 297, 3) := by decide +kernel
theorem dL_law__3290 : decode cL_law_ 3290 = .ok (.aload_n 2, 1) := by decide +kernel
theorem dL_law__3291 : decode cL_law_ 3291 = .ok (.invokevirtual 300, 3) := by decide +kernel
theorem dL_law__3294 : decode cL_law_ 3294 = .ok (.goto 41, 3) := by decide +kernel
theorem dL_law__3297 : decode cL_law_ 3297 = .ok (.aload_n 1, 1) := by decide +kernel
theorem dL_law__3298 : decode cL_law_ 3298 = .ok (.invokevirtual 301, 3) := by decide +kernel
theorem dL_law__3301 : decode cL_law_ 3301 = .ok (.aload_n 2, 1) := by decide +kernel
theorem dL_law__3302 : decode cL_law_ 3302 = .ok (.invokevirtual 304, 3) := by decide +kernel
theorem dL_law__3305 : decode cL_law_ 3305 = .ok (.if_icmp .eq 30, 3) := by decide +kernel
theorem dL_law__3308 : decode cL_law_ 3308 = .ok (.iconst 0, 1) := by decide +kernel
theorem dL_law__3309 : decode cL_law_ 3309 = .ok (.ireturn, 1) := by decide +kernel
theorem dL_law__3310 : decode cL_law_ 3310 = .ok (.aload_n 1, 1) := by decide +kernel
theorem dL_law__3311 : decode cL_law_ 3311 = .ok (.aload_n 0, 1) := by decide +kernel
theorem dL_law__3312 : decode cL_law_ 3312 = .ok (.iload 4, 2) := by decide +kernel
theorem dL_law__3314 : decode cL_law_ 3314 = .ok (.iconst 1, 1) := by decide +kernel
theorem dL_law__3315 : decode cL_law_ 3315 = .ok (.iadd, 1) := by decide +kernel
theorem dL_law__3316 : decode cL_law_ 3316 = .ok (.iaload, 1) := by decide +kernel
theorem dL_law__3317 : decode cL_law_ 3317 = .ok (.invokevirtual 305, 3) := by decide +kernel
theorem dL_law__3320 : decode cL_law_ 3320 = .ok (.aload_n 2, 1) := by decide +kernel
theorem dL_law__3321 : decode cL_law_ 3321 = .ok (.aload_n 0, 1) := by decide +kernel
theorem dL_law__3322 : decode cL_law_ 3322 = .ok (.iload 4, 2) := by decide +kernel
theorem dL_law__3324 : decode cL_law_ 3324 = .ok (.iconst 1, 1) := by decide +kernel
theorem dL_law__3325 : decode cL_law_ 3325 = .ok (.iadd, 1) := by decide +kernel
theorem dL_law__3326 : decode cL_law_ 3326 = .ok (.iaload, 1) := by decide +kernel
theorem dL_law__3327 : decode cL_law_ 3327 = .ok (.invokevirtual 308, 3) := by decide +kernel
theorem dL_law__3330 : decode cL_law_ 3330 = .ok (.if_icmp .eq 5, 3) := by decide +kernel
theorem dL_law__3333 : decode cL_law_ 3333 = .ok (.iconst 0, 1) := by decide +kernel
theorem dL_law__3334 : decode cL_law_ 3334 = .ok (.ireturn, 1) := by decide +kernel
theorem dL_law__3335 : decode cL_law_ 3335 = .ok (.iinc 4 7, 3) := by decide +kernel
theorem dL_law__3338 : decode cL_law_ 3338 = .ok (.goto (-3315), 3) := by decide +kernel
theorem dL_law__3341 : decode cL_law_ 3341 = .ok (.iconst 1, 1) := by decide +kernel
