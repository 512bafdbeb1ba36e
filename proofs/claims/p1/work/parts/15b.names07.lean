theorem dL_law_3223 : decode cL_law 3223 = .ok (.iload 6, 2) := by decide +kernel
theorem dL_law_3225 : decode cL_law 3225 = .ok (.ifCond .ne 22, 3) := by decide +kernel
theorem dL_law_3247 : decode cL_law 3247 = .ok (.goto 305, 3) := by decide +kernel
theorem dL_law_3250 : decode cL_law 3250 = .ok (.aload_n 1, 1) := by decide +kernel
theorem dL_law_3251 : decode cL_law 3251 = .ok (.aload_n 0, 1) := by decide +kernel
theorem dL_law_3252 : decode cL_law 3252 = .ok (.iload 5, 2) := by decide +kernel
theorem dL_law_3254 : decode cL_law 3254 = .ok (.iconst 1, 1) := by decide +kernel
theorem dL_law_3255 : decode cL_law 3255 = .ok (.iadd, 1) := by decide +kernel
theorem dL_law_3256 : decode cL_law 3256 = .ok (.iaload, 1) := by decide +kernel
theorem dL_law_3257 : decode cL_law 3257 = .ok (.aload_n 3, 1) := by decide +kernel
theorem dL_law_3258 : decode cL_law 3258 = .ok (.invokestatic 340, 3) := by decide +kernel
theorem dL_law_3261 : decode cL_law 3261 = .ok (.istore 6, 2) := by decide +kernel
theorem dL_law_3263 : decode cL_law 3263 = .ok (.aload_n 2, 1) := by decide +kernel
theorem dL_law_3264 : decode cL_law 3264 = .ok (.aload_n 0, 1) := by decide +kernel
theorem dL_law_3265 : decode cL_law 3265 = .ok (.iload 5, 2) := by decide +kernel
theorem dL_law_3267 : decode cL_law 3267 = .ok (.iconst 1, 1) := by decide +kernel
theorem dL_law_3268 : decode cL_law 3268 = .ok (.iadd, 1) := by decide +kernel
theorem dL_law_3269 : decode cL_law 3269 = .ok (.iaload, 1) := by decide +kernel
theorem dL_law_3270 : decode cL_law 3270 = .ok (.invokevirtual 342, 3) := by decide +kernel
theorem dL_law_3273 : decode cL_law 3273 = .ok (.istore 7, 2) := by decide +kernel
theorem dL_law_3275 : decode cL_law 3275 = .ok (.aload_n 2, 1) := by decide +kernel
theorem dL_law_3276 : decode cL_law 3276 = .ok (.invokevirtual 188, 3) := by decide +kernel
theorem dL_law_3279 : decode cL_law 3279 = .ok (.iload 6, 2) := by decide +kernel
theorem dL_law_3281 : decode cL_law 3281 = .ok (.if_icmp .eq 5, 3) := by decide +kernel
theorem dL_law_3286 : decode cL_law 3286 = .ok (.iload 6, 2) := by decide +kernel
theorem dL_law_3288 : decode cL_law 3288 = .ok (.ifCond .ne 15, 3) := by decide +kernel
theorem dL_law_3303 : decode cL_law 3303 = .ok (.goto 249, 3) := by decide +kernel
theorem dL_law_3306 : decode cL_law 3306 = .ok (.aload_n 1, 1) := by decide +kernel
theorem dL_law_3307 : decode cL_law 3307 = .ok (.aload_n 0, 1) := by decide +kernel
theorem dL_law_3308 : decode cL_law 3308 = .ok (.iload 5, 2) := by decide +kernel
theorem dL_law_3310 : decode cL_law 3310 = .ok (.iconst 1, 1) := by decide +kernel
theorem dL_law_3311 : decode cL_law 3311 = .ok (.iadd, 1) := by decide +kernel
theorem dL_law_3312 : decode cL_law 3312 = .ok (.iaload, 1) := by decide +kernel
theorem dL_law_3313 : decode cL_law 3313 = .ok (.aload_n 0, 1) := by decide +kernel
theorem dL_law_3314 : decode cL_law 3314 = .ok (.iload 5, 2) := by decide +kernel
theorem dL_law_3316 : decode cL_law 3316 = .ok (.iconst 2, 1) := by decide +kernel
theorem dL_law_3317 : decode cL_law 3317 = .ok (.iadd, 1) := by decide +kernel
theorem dL_law_3318 : decode cL_law 3318 = .ok (.iaload, 1) := by decide +kernel
theorem dL_law_3319 : decode cL_law 3319 = .ok (.aload_n 3, 1) := by decide +kernel
theorem dL_law_3320 : decode cL_law 3320 = .ok (.invokestatic 343, 3) := by decide +kernel
theorem dL_law_3323 : decode cL_law 3323 = .ok (.istore 6, 2) := by decide +kernel
theorem dL_law_3325 : decode cL_law 3325 = .ok (.aload_n 2, 1) := by decide +kernel
theorem dL_law_3326 : decode cL_law 3326 = .ok (.aload_n 0, 1) := by decide +kernel
theorem dL_law_3327 : decode cL_law 3327 = .ok (.iload 5, 2) := by decide +kernel
theorem dL_law_3329 : decode cL_law 3329 = .ok (.iconst 1, 1) := by decide +kernel
theorem dL_law_3330 : decode cL_law 3330 = .ok (.iadd, 1) := by decide +kernel
theorem dL_law_3331 : decode cL_law 3331 = .ok (.iaload, 1) := by decide +kernel
theorem dL_law_3332 : decode cL_law 3332 = .ok (.aload_n 0, 1) := by decide +kernel
theorem dL_law_3333 : decode cL_law 3333 = .ok (.iload 5, 2) := by decide +kernel
theorem dL_law_3335 : decode cL_law 3335 = .ok (.iconst 2, 1) := by decide +kernel
theorem dL_law_3336 : decode cL_law 3336 = .ok (.iadd, 1) := by decide +kernel
theorem dL_law_3337 : decode cL_law 3337 = .ok (.iaload, 1) := by decide +kernel
theorem dL_law_3338 : decode cL_law 3338 = .ok (.invokevirtual 345, 3) := by decide +kernel
theorem dL_law_3341 : decode cL_law 3341 = .ok (.istore 7, 2) := by decide +kernel
theorem dL_law_3343 : decode cL_law 3343 = .ok (.aload_n 2, 1) := by decide +kernel
theorem dL_law_3344 : decode cL_law 3344 = .ok (.invokevirtual 188, 3) := by decide +kernel
theorem dL_law_3347 : decode cL_law 3347 = .ok (.iload 6, 2) := by decide +kernel
theorem dL_law_3349 : decode cL_law 3349 = .ok (.if_icmp .eq 5, 3) := by decide +kernel
theorem dL_law_3354 : decode cL_law 3354 = .ok (.iload 6, 2) := by decide +kernel
theorem dL_law_3356 : decode cL_law 3356 = .ok (.ifCond .ne 22, 3) := by decide +kernel
theorem dL_law_3378 : decode cL_law 3378 = .ok (.goto 174, 3) := by decide +kernel
theorem dL_law_3381 : decode cL_law 3381 = .ok (.aload_n 1, 1) := by decide +kernel
theorem dL_law_3382 : decode cL_law 3382 = .ok (.invokevirtual 346, 3) := by decide +kernel
theorem dL_law_3385 : decode cL_law 3385 = .ok (.aload_n 2, 1) := by decide +kernel
theorem dL_law_3386 : decode cL_law 3386 = .ok (.invokevirtual 349, 3) := by decide +kernel
theorem dL_law_3389 : decode cL_law 3389 = .ok (.if_icmp .eq 163, 3) := by decide +kernel
theorem dL_law_3394 : decode cL_law 3394 = .ok (.aload_n 1, 1) := by decide +kernel
theorem dL_law_3395 : decode cL_law 3395 = .ok (.aload 4, 2) := by decide +kernel
theorem dL_law_3397 : decode cL_law 3397 = .ok (.invokestatic 350, 3) := by decide +kernel
theorem dL_law_3400 : decode cL_law 3400 = .ok (.istore 6, 2) := by decide +kernel
theorem dL_law_3402 : decode cL_law 3402 = .ok (.aload_n 2, 1) := by decide +kernel
theorem dL_law_3403 : decode cL_law 3403 = .ok (.invokevirtual 353, 3) := by decide +kernel
theorem dL_law_3406 : decode cL_law 3406 = .ok (.fstore 7, 2) := by decide +kernel
theorem dL_law_3408 : decode cL_law 3408 = .ok (.aload_n 2, 1) := by decide +kernel
theorem dL_law_3409 : decode cL_law 3409 = .ok (.invokevirtual 188, 3) := by decide +kernel
theorem dL_law_3412 : decode cL_law 3412 = .ok (.iload 6, 2) := by decide +kernel
theorem dL_law_3414 : decode cL_law 3414 = .ok (.if_icmp .eq 5, 3) := by decide +kernel
theorem dL_law_3419 : decode cL_law 3419 = .ok (.iload 6, 2) := by decide +kernel
theorem dL_law_3421 : decode cL_law 3421 = .ok (.ifCond .ne 36, 3) := by decide +kernel
theorem dL_law_3457 : decode cL_law 3457 = .ok (.goto 95, 3) := by decide +kernel
theorem dL_law_3460 : decode cL_law 3460 = .ok (.aload_n 1, 1) := by decide +kernel
theorem dL_law_3461 : decode cL_law 3461 = .ok (.aload 4, 2) := by decide +kernel
theorem dL_law_3463 : decode cL_law 3463 = .ok (.invokestatic 354, 3) := by decide +kernel
theorem dL_law_3466 : decode cL_law 3466 = .ok (.istore 6, 2) := by decide +kernel
theorem dL_law_3468 : decode cL_law 3468 = .ok (.aload_n 2, 1) := by decide +kernel
theorem dL_law_3469 : decode cL_law 3469 = .ok (.invokevirtual 356, 3) := by decide +kernel
theorem dL_law_3472 : decode cL_law 3472 = .ok (.dstore 7, 2) := by decide +kernel
theorem dL_law_3474 : decode cL_law 3474 = .ok (.aload_n 2, 1) := by decide +kernel
theorem dL_law_3475 : decode cL_law 3475 = .ok (.invokevirtual 188, 3) := by decide +kernel
theorem dL_law_3478 : decode cL_law 3478 = .ok (.iload 6, 2) := by decide +kernel
theorem dL_law_3480 : decode cL_law 3480 = .ok (.if_icmp .eq 5, 3) := by decide +kernel
theorem dL_law_3485 : decode cL_law 3485 = .ok (.iload 6, 2) := by decide +kernel
theorem dL_law_3487 : decode cL_law 3487 = .ok (.ifCond .ne 35, 3) := by decide +kernel
theorem dL_law_3522 : decode cL_law 3522 = .ok (.goto 30, 3) := by decide +kernel
theorem dL_law_3525 : decode cL_law 3525 = .ok (.aload_n 1, 1) := by decide +kernel
theorem dL_law_3526 : decode cL_law 3526 = .ok (.invokevirtual 357, 3) := by decide +kernel
theorem dL_law_3529 : decode cL_law 3529 = .ok (.aload_n 2, 1) := by decide +kernel
theorem dL_law_3530 : decode cL_law 3530 = .ok (.invokevirtual 361, 3) := by decide +kernel
theorem dL_law_3533 : decode cL_law 3533 = .ok (.lcmp, 1) := by decide +kernel
theorem dL_law_3534 : decode cL_law 3534 = .ok (.ifCond .eq 18, 3) := by decide +kernel
theorem dL_law_3539 : decode cL_law 3539 = .ok (.aload_n 1, 1) := by decide +kernel
theorem dL_law_3540 : decode cL_law 3540 = .ok (.invokevirtual 362, 3) := by decide +kernel
theorem dL_law_3543 : decode cL_law 3543 = .ok (.aload_n 2, 1) := by decide +kernel
theorem dL_law_3544 : decode cL_law 3544 = .ok (.invokevirtual 366, 3) := by decide +kernel
theorem dL_law_3547 : decode cL_law 3547 = .ok (.if_icmp .eq 5, 3) := by decide +kernel
theorem dL_law_3552 : decode cL_law 3552 = .ok (.iinc 5 4, 3) := by decide +kernel
theorem dL_law_3555 : decode cL_law 3555 = .ok (.goto (-3527), 3) := by decide +kernel
theorem dL_law_3558 : decode cL_law 3558 = .ok (.iconst 1, 1) := by decide +kernel
theorem dL_law_3559 : decode cL_law 3559 = .ok (.ireturn, 1) := by decide +kernel
