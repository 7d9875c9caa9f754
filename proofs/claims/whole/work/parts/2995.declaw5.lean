/-! 2995: what stands in the law, 5 -/
theorem dL_law_3234 : decode cL_law 3234 = .ok (.invokevirtual 201, 3) := by decide +kernel
theorem dL_law_3237 : decode cL_law 3237 = .ok (.iload 6, 2) := by decide +kernel
theorem dL_law_3239 : decode cL_law 3239 = .ok (.if_icmp .eq 5, 3) := by decide +kernel
theorem dL_law_3244 : decode cL_law 3244 = .ok (.iload 6, 2) := by decide +kernel
theorem dL_law_3246 : decode cL_law 3246 = .ok (.ifCond .ne 15, 3) := by decide +kernel
theorem dL_law_3249 : decode cL_law 3249 = .ok (.aload_n 3, 1) := by decide +kernel
theorem dL_law_3250 : decode cL_law 3250 = .ok (.iconst 0, 1) := by decide +kernel
theorem dL_law_3251 : decode cL_law 3251 = .ok (.laload, 1) := by decide +kernel
theorem dL_law_3252 : decode cL_law 3252 = .ok (.iload 7, 2) := by decide +kernel
theorem dL_law_3254 : decode cL_law 3254 = .ok (.i2l, 1) := by decide +kernel
theorem dL_law_3255 : decode cL_law 3255 = .ok (.lcmp, 1) := by decide +kernel
theorem dL_law_3256 : decode cL_law 3256 = .ok (.ifCond .eq 5, 3) := by decide +kernel
theorem dL_law_3261 : decode cL_law 3261 = .ok (.goto 760, 3) := by decide +kernel
theorem dL_law_3264 : decode cL_law 3264 = .ok (.aload_n 1, 1) := by decide +kernel
theorem dL_law_3265 : decode cL_law 3265 = .ok (.aload_n 0, 1) := by decide +kernel
theorem dL_law_3266 : decode cL_law 3266 = .ok (.iload 5, 2) := by decide +kernel
theorem dL_law_3268 : decode cL_law 3268 = .ok (.iconst 1, 1) := by decide +kernel
theorem dL_law_3269 : decode cL_law 3269 = .ok (.iadd, 1) := by decide +kernel
theorem dL_law_3270 : decode cL_law 3270 = .ok (.iaload, 1) := by decide +kernel
theorem dL_law_3271 : decode cL_law 3271 = .ok (.aload_n 3, 1) := by decide +kernel
theorem dL_law_3272 : decode cL_law 3272 = .ok (.invokestatic 353, 3) := by decide +kernel
theorem dL_law_3275 : decode cL_law 3275 = .ok (.istore 6, 2) := by decide +kernel
theorem dL_law_3277 : decode cL_law 3277 = .ok (.aload_n 2, 1) := by decide +kernel
theorem dL_law_3278 : decode cL_law 3278 = .ok (.aload_n 0, 1) := by decide +kernel
theorem dL_law_3279 : decode cL_law 3279 = .ok (.iload 5, 2) := by decide +kernel
theorem dL_law_3281 : decode cL_law 3281 = .ok (.iconst 1, 1) := by decide +kernel
theorem dL_law_3282 : decode cL_law 3282 = .ok (.iadd, 1) := by decide +kernel
theorem dL_law_3283 : decode cL_law 3283 = .ok (.iaload, 1) := by decide +kernel
theorem dL_law_3284 : decode cL_law 3284 = .ok (.invokevirtual 355, 3) := by decide +kernel
theorem dL_law_3287 : decode cL_law 3287 = .ok (.istore 7, 2) := by decide +kernel
theorem dL_law_3289 : decode cL_law 3289 = .ok (.aload_n 2, 1) := by decide +kernel
theorem dL_law_3290 : decode cL_law 3290 = .ok (.invokevirtual 201, 3) := by decide +kernel
theorem dL_law_3293 : decode cL_law 3293 = .ok (.iload 6, 2) := by decide +kernel
theorem dL_law_3295 : decode cL_law 3295 = .ok (.if_icmp .eq 5, 3) := by decide +kernel
theorem dL_law_3300 : decode cL_law 3300 = .ok (.iload 6, 2) := by decide +kernel
theorem dL_law_3302 : decode cL_law 3302 = .ok (.ifCond .ne 15, 3) := by decide +kernel
theorem dL_law_3305 : decode cL_law 3305 = .ok (.aload_n 3, 1) := by decide +kernel
theorem dL_law_3306 : decode cL_law 3306 = .ok (.iconst 0, 1) := by decide +kernel
theorem dL_law_3307 : decode cL_law 3307 = .ok (.laload, 1) := by decide +kernel
theorem dL_law_3308 : decode cL_law 3308 = .ok (.iload 7, 2) := by decide +kernel
theorem dL_law_3310 : decode cL_law 3310 = .ok (.i2l, 1) := by decide +kernel
theorem dL_law_3311 : decode cL_law 3311 = .ok (.lcmp, 1) := by decide +kernel
theorem dL_law_3312 : decode cL_law 3312 = .ok (.ifCond .eq 5, 3) := by decide +kernel
theorem dL_law_3317 : decode cL_law 3317 = .ok (.goto 704, 3) := by decide +kernel
theorem dL_law_3320 : decode cL_law 3320 = .ok (.aload_n 1, 1) := by decide +kernel
theorem dL_law_3321 : decode cL_law 3321 = .ok (.aload_n 0, 1) := by decide +kernel
theorem dL_law_3322 : decode cL_law 3322 = .ok (.iload 5, 2) := by decide +kernel
theorem dL_law_3324 : decode cL_law 3324 = .ok (.iconst 1, 1) := by decide +kernel
theorem dL_law_3325 : decode cL_law 3325 = .ok (.iadd, 1) := by decide +kernel
theorem dL_law_3326 : decode cL_law 3326 = .ok (.iaload, 1) := by decide +kernel
theorem dL_law_3327 : decode cL_law 3327 = .ok (.aload_n 3, 1) := by decide +kernel
theorem dL_law_3328 : decode cL_law 3328 = .ok (.invokestatic 356, 3) := by decide +kernel
theorem dL_law_3331 : decode cL_law 3331 = .ok (.istore 6, 2) := by decide +kernel
theorem dL_law_3333 : decode cL_law 3333 = .ok (.aload_n 2, 1) := by decide +kernel
theorem dL_law_3334 : decode cL_law 3334 = .ok (.aload_n 0, 1) := by decide +kernel
theorem dL_law_3335 : decode cL_law 3335 = .ok (.iload 5, 2) := by decide +kernel
theorem dL_law_3337 : decode cL_law 3337 = .ok (.iconst 1, 1) := by decide +kernel
theorem dL_law_3338 : decode cL_law 3338 = .ok (.iadd, 1) := by decide +kernel
theorem dL_law_3339 : decode cL_law 3339 = .ok (.iaload, 1) := by decide +kernel
theorem dL_law_3340 : decode cL_law 3340 = .ok (.invokevirtual 358, 3) := by decide +kernel
theorem dL_law_3343 : decode cL_law 3343 = .ok (.istore 7, 2) := by decide +kernel
theorem dL_law_3345 : decode cL_law 3345 = .ok (.aload_n 2, 1) := by decide +kernel
theorem dL_law_3346 : decode cL_law 3346 = .ok (.invokevirtual 201, 3) := by decide +kernel
theorem dL_law_3349 : decode cL_law 3349 = .ok (.iload 6, 2) := by decide +kernel
theorem dL_law_3351 : decode cL_law 3351 = .ok (.if_icmp .eq 5, 3) := by decide +kernel
theorem dL_law_3356 : decode cL_law 3356 = .ok (.iload 6, 2) := by decide +kernel
theorem dL_law_3358 : decode cL_law 3358 = .ok (.ifCond .ne 15, 3) := by decide +kernel
theorem dL_law_3361 : decode cL_law 3361 = .ok (.aload_n 3, 1) := by decide +kernel
theorem dL_law_3362 : decode cL_law 3362 = .ok (.iconst 0, 1) := by decide +kernel
theorem dL_law_3363 : decode cL_law 3363 = .ok (.laload, 1) := by decide +kernel
theorem dL_law_3364 : decode cL_law 3364 = .ok (.iload 7, 2) := by decide +kernel
theorem dL_law_3366 : decode cL_law 3366 = .ok (.i2l, 1) := by decide +kernel
theorem dL_law_3367 : decode cL_law 3367 = .ok (.lcmp, 1) := by decide +kernel
theorem dL_law_3368 : decode cL_law 3368 = .ok (.ifCond .eq 5, 3) := by decide +kernel
theorem dL_law_3373 : decode cL_law 3373 = .ok (.goto 648, 3) := by decide +kernel
theorem dL_law_3376 : decode cL_law 3376 = .ok (.aload_n 1, 1) := by decide +kernel
theorem dL_law_3377 : decode cL_law 3377 = .ok (.aload_n 0, 1) := by decide +kernel
theorem dL_law_3378 : decode cL_law 3378 = .ok (.iload 5, 2) := by decide +kernel
theorem dL_law_3380 : decode cL_law 3380 = .ok (.iconst 1, 1) := by decide +kernel
theorem dL_law_3381 : decode cL_law 3381 = .ok (.iadd, 1) := by decide +kernel
theorem dL_law_3382 : decode cL_law 3382 = .ok (.iaload, 1) := by decide +kernel
theorem dL_law_3383 : decode cL_law 3383 = .ok (.aload_n 0, 1) := by decide +kernel
theorem dL_law_3384 : decode cL_law 3384 = .ok (.iload 5, 2) := by decide +kernel
theorem dL_law_3386 : decode cL_law 3386 = .ok (.iconst 2, 1) := by decide +kernel
theorem dL_law_3387 : decode cL_law 3387 = .ok (.iadd, 1) := by decide +kernel
theorem dL_law_3388 : decode cL_law 3388 = .ok (.iaload, 1) := by decide +kernel
theorem dL_law_3389 : decode cL_law 3389 = .ok (.i2c, 1) := by decide +kernel
theorem dL_law_3390 : decode cL_law 3390 = .ok (.aload_n 0, 1) := by decide +kernel
theorem dL_law_3391 : decode cL_law 3391 = .ok (.iload 5, 2) := by decide +kernel
theorem dL_law_3393 : decode cL_law 3393 = .ok (.iconst 3, 1) := by decide +kernel
theorem dL_law_3394 : decode cL_law 3394 = .ok (.iadd, 1) := by decide +kernel
theorem dL_law_3395 : decode cL_law 3395 = .ok (.iaload, 1) := by decide +kernel
theorem dL_law_3396 : decode cL_law 3396 = .ok (.aload_n 0, 1) := by decide +kernel
theorem dL_law_3397 : decode cL_law 3397 = .ok (.iload 5, 2) := by decide +kernel
theorem dL_law_3399 : decode cL_law 3399 = .ok (.iconst 4, 1) := by decide +kernel
theorem dL_law_3400 : decode cL_law 3400 = .ok (.iadd, 1) := by decide +kernel
theorem dL_law_3401 : decode cL_law 3401 = .ok (.iaload, 1) := by decide +kernel
theorem dL_law_3402 : decode cL_law 3402 = .ok (.aload_n 3, 1) := by decide +kernel
theorem dL_law_3403 : decode cL_law 3403 = .ok (.invokestatic 359, 3) := by decide +kernel
theorem dL_law_3406 : decode cL_law 3406 = .ok (.istore 6, 2) := by decide +kernel
theorem dL_law_3408 : decode cL_law 3408 = .ok (.aload_n 2, 1) := by decide +kernel
theorem dL_law_3409 : decode cL_law 3409 = .ok (.aload_n 0, 1) := by decide +kernel
theorem dL_law_3410 : decode cL_law 3410 = .ok (.iload 5, 2) := by decide +kernel
theorem dL_law_3412 : decode cL_law 3412 = .ok (.iconst 1, 1) := by decide +kernel
theorem dL_law_3413 : decode cL_law 3413 = .ok (.iadd, 1) := by decide +kernel
theorem dL_law_3414 : decode cL_law 3414 = .ok (.iaload, 1) := by decide +kernel
theorem dL_law_3415 : decode cL_law 3415 = .ok (.aload_n 0, 1) := by decide +kernel
theorem dL_law_3416 : decode cL_law 3416 = .ok (.iload 5, 2) := by decide +kernel
theorem dL_law_3418 : decode cL_law 3418 = .ok (.iconst 2, 1) := by decide +kernel
theorem dL_law_3419 : decode cL_law 3419 = .ok (.iadd, 1) := by decide +kernel
theorem dL_law_3420 : decode cL_law 3420 = .ok (.iaload, 1) := by decide +kernel
theorem dL_law_3421 : decode cL_law 3421 = .ok (.i2c, 1) := by decide +kernel
theorem dL_law_3422 : decode cL_law 3422 = .ok (.aload_n 0, 1) := by decide +kernel
theorem dL_law_3423 : decode cL_law 3423 = .ok (.iload 5, 2) := by decide +kernel
theorem dL_law_3425 : decode cL_law 3425 = .ok (.iconst 3, 1) := by decide +kernel
theorem dL_law_3426 : decode cL_law 3426 = .ok (.iadd, 1) := by decide +kernel
theorem dL_law_3427 : decode cL_law 3427 = .ok (.iaload, 1) := by decide +kernel
theorem dL_law_3428 : decode cL_law 3428 = .ok (.aload_n 0, 1) := by decide +kernel
theorem dL_law_3429 : decode cL_law 3429 = .ok (.iload 5, 2) := by decide +kernel
theorem dL_law_3431 : decode cL_law 3431 = .ok (.iconst 4, 1) := by decide +kernel
theorem dL_law_3432 : decode cL_law 3432 = .ok (.iadd, 1) := by decide +kernel
theorem dL_law_3433 : decode cL_law 3433 = .ok (.iaload, 1) := by decide +kernel
theorem dL_law_3434 : decode cL_law 3434 = .ok (.invokevirtual 362, 3) := by decide +kernel
theorem dL_law_3437 : decode cL_law 3437 = .ok (.istore 7, 2) := by decide +kernel
theorem dL_law_3439 : decode cL_law 3439 = .ok (.aload_n 2, 1) := by decide +kernel
theorem dL_law_3440 : decode cL_law 3440 = .ok (.invokevirtual 201, 3) := by decide +kernel
theorem dL_law_3443 : decode cL_law 3443 = .ok (.iload 6, 2) := by decide +kernel
theorem dL_law_3445 : decode cL_law 3445 = .ok (.if_icmp .eq 5, 3) := by decide +kernel
theorem dL_law_3450 : decode cL_law 3450 = .ok (.iload 6, 2) := by decide +kernel
theorem dL_law_3452 : decode cL_law 3452 = .ok (.ifCond .ne 22, 3) := by decide +kernel
theorem dL_law_3455 : decode cL_law 3455 = .ok (.aload_n 3, 1) := by decide +kernel
theorem dL_law_3456 : decode cL_law 3456 = .ok (.iconst 0, 1) := by decide +kernel
theorem dL_law_3457 : decode cL_law 3457 = .ok (.laload, 1) := by decide +kernel
theorem dL_law_3458 : decode cL_law 3458 = .ok (.iload 7, 2) := by decide +kernel
theorem dL_law_3460 : decode cL_law 3460 = .ok (.ifCond .eq 7, 3) := by decide +kernel
theorem dL_law_3463 : decode cL_law 3463 = .ok (.lconst 1, 1) := by decide +kernel
theorem dL_law_3464 : decode cL_law 3464 = .ok (.goto 4, 3) := by decide +kernel
theorem dL_law_3467 : decode cL_law 3467 = .ok (.lconst 0, 1) := by decide +kernel
theorem dL_law_3468 : decode cL_law 3468 = .ok (.lcmp, 1) := by decide +kernel
theorem dL_law_3469 : decode cL_law 3469 = .ok (.ifCond .eq 5, 3) := by decide +kernel
theorem dL_law_3474 : decode cL_law 3474 = .ok (.goto 547, 3) := by decide +kernel
theorem dL_law_3477 : decode cL_law 3477 = .ok (.aload_n 1, 1) := by decide +kernel
theorem dL_law_3478 : decode cL_law 3478 = .ok (.aload_n 0, 1) := by decide +kernel
theorem dL_law_3479 : decode cL_law 3479 = .ok (.iload 5, 2) := by decide +kernel
theorem dL_law_3481 : decode cL_law 3481 = .ok (.iconst 1, 1) := by decide +kernel
theorem dL_law_3482 : decode cL_law 3482 = .ok (.iadd, 1) := by decide +kernel
theorem dL_law_3483 : decode cL_law 3483 = .ok (.iaload, 1) := by decide +kernel
theorem dL_law_3484 : decode cL_law 3484 = .ok (.aload_n 3, 1) := by decide +kernel
theorem dL_law_3485 : decode cL_law 3485 = .ok (.invokestatic 363, 3) := by decide +kernel
theorem dL_law_3488 : decode cL_law 3488 = .ok (.istore 6, 2) := by decide +kernel
theorem dL_law_3490 : decode cL_law 3490 = .ok (.aload_n 2, 1) := by decide +kernel
theorem dL_law_3491 : decode cL_law 3491 = .ok (.aload_n 0, 1) := by decide +kernel
theorem dL_law_3492 : decode cL_law 3492 = .ok (.iload 5, 2) := by decide +kernel
theorem dL_law_3494 : decode cL_law 3494 = .ok (.iconst 1, 1) := by decide +kernel
theorem dL_law_3495 : decode cL_law 3495 = .ok (.iadd, 1) := by decide +kernel
theorem dL_law_3496 : decode cL_law 3496 = .ok (.iaload, 1) := by decide +kernel
theorem dL_law_3497 : decode cL_law 3497 = .ok (.invokevirtual 365, 3) := by decide +kernel
theorem dL_law_3500 : decode cL_law 3500 = .ok (.istore 7, 2) := by decide +kernel
theorem dL_law_3502 : decode cL_law 3502 = .ok (.aload_n 2, 1) := by decide +kernel
theorem dL_law_3503 : decode cL_law 3503 = .ok (.invokevirtual 201, 3) := by decide +kernel
theorem dL_law_3506 : decode cL_law 3506 = .ok (.iload 6, 2) := by decide +kernel
theorem dL_law_3508 : decode cL_law 3508 = .ok (.if_icmp .eq 5, 3) := by decide +kernel
theorem dL_law_3513 : decode cL_law 3513 = .ok (.iload 6, 2) := by decide +kernel
theorem dL_law_3515 : decode cL_law 3515 = .ok (.ifCond .ne 22, 3) := by decide +kernel
theorem dL_law_3518 : decode cL_law 3518 = .ok (.aload_n 3, 1) := by decide +kernel
theorem dL_law_3519 : decode cL_law 3519 = .ok (.iconst 0, 1) := by decide +kernel
theorem dL_law_3520 : decode cL_law 3520 = .ok (.laload, 1) := by decide +kernel
theorem dL_law_3521 : decode cL_law 3521 = .ok (.iload 7, 2) := by decide +kernel
theorem dL_law_3523 : decode cL_law 3523 = .ok (.ifCond .eq 7, 3) := by decide +kernel
theorem dL_law_3526 : decode cL_law 3526 = .ok (.lconst 1, 1) := by decide +kernel
theorem dL_law_3527 : decode cL_law 3527 = .ok (.goto 4, 3) := by decide +kernel
theorem dL_law_3530 : decode cL_law 3530 = .ok (.lconst 0, 1) := by decide +kernel
theorem dL_law_3531 : decode cL_law 3531 = .ok (.lcmp, 1) := by decide +kernel
theorem dL_law_3532 : decode cL_law 3532 = .ok (.ifCond .eq 5, 3) := by decide +kernel
theorem dL_law_3537 : decode cL_law 3537 = .ok (.goto 484, 3) := by decide +kernel
theorem dL_law_3540 : decode cL_law 3540 = .ok (.aload_n 1, 1) := by decide +kernel
theorem dL_law_3541 : decode cL_law 3541 = .ok (.aload_n 0, 1) := by decide +kernel
theorem dL_law_3542 : decode cL_law 3542 = .ok (.iload 5, 2) := by decide +kernel
theorem dL_law_3544 : decode cL_law 3544 = .ok (.iconst 1, 1) := by decide +kernel
theorem dL_law_3545 : decode cL_law 3545 = .ok (.iadd, 1) := by decide +kernel
theorem dL_law_3546 : decode cL_law 3546 = .ok (.iaload, 1) := by decide +kernel
theorem dL_law_3547 : decode cL_law 3547 = .ok (.aload_n 0, 1) := by decide +kernel
theorem dL_law_3548 : decode cL_law 3548 = .ok (.iload 5, 2) := by decide +kernel
theorem dL_law_3550 : decode cL_law 3550 = .ok (.iconst 2, 1) := by decide +kernel
theorem dL_law_3551 : decode cL_law 3551 = .ok (.iadd, 1) := by decide +kernel
theorem dL_law_3552 : decode cL_law 3552 = .ok (.iaload, 1) := by decide +kernel
theorem dL_law_3553 : decode cL_law 3553 = .ok (.aload_n 3, 1) := by decide +kernel
theorem dL_law_3554 : decode cL_law 3554 = .ok (.invokestatic 366, 3) := by decide +kernel
theorem dL_law_3557 : decode cL_law 3557 = .ok (.istore 6, 2) := by decide +kernel
theorem dL_law_3559 : decode cL_law 3559 = .ok (.aload_n 2, 1) := by decide +kernel
theorem dL_law_3560 : decode cL_law 3560 = .ok (.aload_n 0, 1) := by decide +kernel
theorem dL_law_3561 : decode cL_law 3561 = .ok (.iload 5, 2) := by decide +kernel
theorem dL_law_3563 : decode cL_law 3563 = .ok (.iconst 1, 1) := by decide +kernel
theorem dL_law_3564 : decode cL_law 3564 = .ok (.iadd, 1) := by decide +kernel
theorem dL_law_3565 : decode cL_law 3565 = .ok (.iaload, 1) := by decide +kernel
theorem dL_law_3566 : decode cL_law 3566 = .ok (.aload_n 0, 1) := by decide +kernel
theorem dL_law_3567 : decode cL_law 3567 = .ok (.iload 5, 2) := by decide +kernel
theorem dL_law_3569 : decode cL_law 3569 = .ok (.iconst 2, 1) := by decide +kernel
theorem dL_law_3570 : decode cL_law 3570 = .ok (.iadd, 1) := by decide +kernel
theorem dL_law_3571 : decode cL_law 3571 = .ok (.iaload, 1) := by decide +kernel
theorem dL_law_3572 : decode cL_law 3572 = .ok (.invokevirtual 368, 3) := by decide +kernel
theorem dL_law_3575 : decode cL_law 3575 = .ok (.istore 7, 2) := by decide +kernel
theorem dL_law_3577 : decode cL_law 3577 = .ok (.aload_n 2, 1) := by decide +kernel
theorem dL_law_3578 : decode cL_law 3578 = .ok (.invokevirtual 201, 3) := by decide +kernel
theorem dL_law_3581 : decode cL_law 3581 = .ok (.iload 6, 2) := by decide +kernel
theorem dL_law_3583 : decode cL_law 3583 = .ok (.if_icmp .eq 5, 3) := by decide +kernel
theorem dL_law_3588 : decode cL_law 3588 = .ok (.iload 6, 2) := by decide +kernel
theorem dL_law_3590 : decode cL_law 3590 = .ok (.ifCond .ne 15, 3) := by decide +kernel
theorem dL_law_3593 : decode cL_law 3593 = .ok (.aload_n 3, 1) := by decide +kernel
theorem dL_law_3594 : decode cL_law 3594 = .ok (.iconst 0, 1) := by decide +kernel
theorem dL_law_3595 : decode cL_law 3595 = .ok (.laload, 1) := by decide +kernel
theorem dL_law_3596 : decode cL_law 3596 = .ok (.iload 7, 2) := by decide +kernel
theorem dL_law_3598 : decode cL_law 3598 = .ok (.i2l, 1) := by decide +kernel
theorem dL_law_3599 : decode cL_law 3599 = .ok (.lcmp, 1) := by decide +kernel
theorem dL_law_3600 : decode cL_law 3600 = .ok (.ifCond .eq 5, 3) := by decide +kernel
theorem dL_law_3605 : decode cL_law 3605 = .ok (.goto 416, 3) := by decide +kernel
theorem dL_law_3608 : decode cL_law 3608 = .ok (.aload_n 1, 1) := by decide +kernel
theorem dL_law_3609 : decode cL_law 3609 = .ok (.aload_n 0, 1) := by decide +kernel
theorem dL_law_3610 : decode cL_law 3610 = .ok (.iload 5, 2) := by decide +kernel
theorem dL_law_3612 : decode cL_law 3612 = .ok (.iconst 1, 1) := by decide +kernel
theorem dL_law_3613 : decode cL_law 3613 = .ok (.iadd, 1) := by decide +kernel
theorem dL_law_3614 : decode cL_law 3614 = .ok (.iaload, 1) := by decide +kernel
theorem dL_law_3615 : decode cL_law 3615 = .ok (.i2c, 1) := by decide +kernel
theorem dL_law_3616 : decode cL_law 3616 = .ok (.aload_n 3, 1) := by decide +kernel
theorem dL_law_3617 : decode cL_law 3617 = .ok (.invokestatic 369, 3) := by decide +kernel
theorem dL_law_3620 : decode cL_law 3620 = .ok (.istore 6, 2) := by decide +kernel
theorem dL_law_3622 : decode cL_law 3622 = .ok (.aload_n 2, 1) := by decide +kernel
theorem dL_law_3623 : decode cL_law 3623 = .ok (.aload_n 0, 1) := by decide +kernel
theorem dL_law_3624 : decode cL_law 3624 = .ok (.iload 5, 2) := by decide +kernel
theorem dL_law_3626 : decode cL_law 3626 = .ok (.iconst 1, 1) := by decide +kernel
theorem dL_law_3627 : decode cL_law 3627 = .ok (.iadd, 1) := by decide +kernel
theorem dL_law_3628 : decode cL_law 3628 = .ok (.iaload, 1) := by decide +kernel
theorem dL_law_3629 : decode cL_law 3629 = .ok (.i2c, 1) := by decide +kernel
theorem dL_law_3630 : decode cL_law 3630 = .ok (.invokevirtual 372, 3) := by decide +kernel
theorem dL_law_3633 : decode cL_law 3633 = .ok (.istore 7, 2) := by decide +kernel
theorem dL_law_3635 : decode cL_law 3635 = .ok (.aload_n 2, 1) := by decide +kernel
theorem dL_law_3636 : decode cL_law 3636 = .ok (.invokevirtual 201, 3) := by decide +kernel
theorem dL_law_3639 : decode cL_law 3639 = .ok (.iload 6, 2) := by decide +kernel
theorem dL_law_3641 : decode cL_law 3641 = .ok (.if_icmp .eq 5, 3) := by decide +kernel
theorem dL_law_3646 : decode cL_law 3646 = .ok (.iload 6, 2) := by decide +kernel
theorem dL_law_3648 : decode cL_law 3648 = .ok (.ifCond .ne 15, 3) := by decide +kernel
theorem dL_law_3651 : decode cL_law 3651 = .ok (.aload_n 3, 1) := by decide +kernel
theorem dL_law_3652 : decode cL_law 3652 = .ok (.iconst 0, 1) := by decide +kernel
theorem dL_law_3653 : decode cL_law 3653 = .ok (.laload, 1) := by decide +kernel
theorem dL_law_3654 : decode cL_law 3654 = .ok (.iload 7, 2) := by decide +kernel
theorem dL_law_3656 : decode cL_law 3656 = .ok (.i2l, 1) := by decide +kernel
theorem dL_law_3657 : decode cL_law 3657 = .ok (.lcmp, 1) := by decide +kernel
theorem dL_law_3658 : decode cL_law 3658 = .ok (.ifCond .eq 5, 3) := by decide +kernel
theorem dL_law_3663 : decode cL_law 3663 = .ok (.goto 358, 3) := by decide +kernel
theorem dL_law_3666 : decode cL_law 3666 = .ok (.aload_n 1, 1) := by decide +kernel
theorem dL_law_3667 : decode cL_law 3667 = .ok (.invokevirtual 373, 3) := by decide +kernel
theorem dL_law_3670 : decode cL_law 3670 = .ok (.aload_n 2, 1) := by decide +kernel
theorem dL_law_3671 : decode cL_law 3671 = .ok (.invokevirtual 376, 3) := by decide +kernel
theorem dL_law_3674 : decode cL_law 3674 = .ok (.if_icmp .eq 347, 3) := by decide +kernel
theorem dL_law_3679 : decode cL_law 3679 = .ok (.aload_n 1, 1) := by decide +kernel
theorem dL_law_3680 : decode cL_law 3680 = .ok (.aload_n 3, 1) := by decide +kernel
theorem dL_law_3681 : decode cL_law 3681 = .ok (.invokestatic 377, 3) := by decide +kernel
theorem dL_law_3684 : decode cL_law 3684 = .ok (.istore 6, 2) := by decide +kernel
theorem dL_law_3686 : decode cL_law 3686 = .ok (.aload_n 2, 1) := by decide +kernel
theorem dL_law_3687 : decode cL_law 3687 = .ok (.invokevirtual 380, 3) := by decide +kernel
theorem dL_law_3690 : decode cL_law 3690 = .ok (.istore 7, 2) := by decide +kernel
theorem dL_law_3692 : decode cL_law 3692 = .ok (.aload_n 2, 1) := by decide +kernel
theorem dL_law_3693 : decode cL_law 3693 = .ok (.invokevirtual 201, 3) := by decide +kernel
theorem dL_law_3696 : decode cL_law 3696 = .ok (.iload 6, 2) := by decide +kernel
theorem dL_law_3698 : decode cL_law 3698 = .ok (.if_icmp .eq 5, 3) := by decide +kernel
theorem dL_law_3703 : decode cL_law 3703 = .ok (.iload 6, 2) := by decide +kernel
theorem dL_law_3705 : decode cL_law 3705 = .ok (.ifCond .ne 15, 3) := by decide +kernel
theorem dL_law_3708 : decode cL_law 3708 = .ok (.aload_n 3, 1) := by decide +kernel
theorem dL_law_3709 : decode cL_law 3709 = .ok (.iconst 0, 1) := by decide +kernel
theorem dL_law_3710 : decode cL_law 3710 = .ok (.laload, 1) := by decide +kernel
theorem dL_law_3711 : decode cL_law 3711 = .ok (.iload 7, 2) := by decide +kernel
theorem dL_law_3713 : decode cL_law 3713 = .ok (.i2l, 1) := by decide +kernel
theorem dL_law_3714 : decode cL_law 3714 = .ok (.lcmp, 1) := by decide +kernel
theorem dL_law_3715 : decode cL_law 3715 = .ok (.ifCond .eq 5, 3) := by decide +kernel
theorem dL_law_3720 : decode cL_law 3720 = .ok (.goto 301, 3) := by decide +kernel
theorem dL_law_3723 : decode cL_law 3723 = .ok (.aload_n 1, 1) := by decide +kernel
theorem dL_law_3724 : decode cL_law 3724 = .ok (.aload_n 0, 1) := by decide +kernel
theorem dL_law_3725 : decode cL_law 3725 = .ok (.iload 5, 2) := by decide +kernel
theorem dL_law_3727 : decode cL_law 3727 = .ok (.iconst 1, 1) := by decide +kernel
theorem dL_law_3728 : decode cL_law 3728 = .ok (.iadd, 1) := by decide +kernel
theorem dL_law_3729 : decode cL_law 3729 = .ok (.iaload, 1) := by decide +kernel
theorem dL_law_3730 : decode cL_law 3730 = .ok (.aload_n 0, 1) := by decide +kernel
theorem dL_law_3731 : decode cL_law 3731 = .ok (.iload 5, 2) := by decide +kernel
theorem dL_law_3733 : decode cL_law 3733 = .ok (.iconst 2, 1) := by decide +kernel
theorem dL_law_3734 : decode cL_law 3734 = .ok (.iadd, 1) := by decide +kernel
theorem dL_law_3735 : decode cL_law 3735 = .ok (.iaload, 1) := by decide +kernel
theorem dL_law_3736 : decode cL_law 3736 = .ok (.ifCond .eq 7, 3) := by decide +kernel
theorem dL_law_3739 : decode cL_law 3739 = .ok (.iconst 1, 1) := by decide +kernel
theorem dL_law_3740 : decode cL_law 3740 = .ok (.goto 4, 3) := by decide +kernel
theorem dL_law_3743 : decode cL_law 3743 = .ok (.iconst 0, 1) := by decide +kernel
theorem dL_law_3744 : decode cL_law 3744 = .ok (.aload_n 3, 1) := by decide +kernel
theorem dL_law_3745 : decode cL_law 3745 = .ok (.invokestatic 381, 3) := by decide +kernel
theorem dL_law_3748 : decode cL_law 3748 = .ok (.istore 6, 2) := by decide +kernel
theorem dL_law_3750 : decode cL_law 3750 = .ok (.aload_n 2, 1) := by decide +kernel
theorem dL_law_3751 : decode cL_law 3751 = .ok (.aload_n 0, 1) := by decide +kernel
theorem dL_law_3752 : decode cL_law 3752 = .ok (.iload 5, 2) := by decide +kernel
theorem dL_law_3754 : decode cL_law 3754 = .ok (.iconst 1, 1) := by decide +kernel
theorem dL_law_3755 : decode cL_law 3755 = .ok (.iadd, 1) := by decide +kernel
theorem dL_law_3756 : decode cL_law 3756 = .ok (.iaload, 1) := by decide +kernel
theorem dL_law_3757 : decode cL_law 3757 = .ok (.aload_n 0, 1) := by decide +kernel
theorem dL_law_3758 : decode cL_law 3758 = .ok (.iload 5, 2) := by decide +kernel
theorem dL_law_3760 : decode cL_law 3760 = .ok (.iconst 2, 1) := by decide +kernel
theorem dL_law_3761 : decode cL_law 3761 = .ok (.iadd, 1) := by decide +kernel
theorem dL_law_3762 : decode cL_law 3762 = .ok (.iaload, 1) := by decide +kernel
theorem dL_law_3763 : decode cL_law 3763 = .ok (.ifCond .eq 7, 3) := by decide +kernel
theorem dL_law_3766 : decode cL_law 3766 = .ok (.iconst 1, 1) := by decide +kernel
theorem dL_law_3767 : decode cL_law 3767 = .ok (.goto 4, 3) := by decide +kernel
theorem dL_law_3770 : decode cL_law 3770 = .ok (.iconst 0, 1) := by decide +kernel
theorem dL_law_3771 : decode cL_law 3771 = .ok (.invokevirtual 383, 3) := by decide +kernel
theorem dL_law_3774 : decode cL_law 3774 = .ok (.istore 7, 2) := by decide +kernel
theorem dL_law_3776 : decode cL_law 3776 = .ok (.aload_n 2, 1) := by decide +kernel
theorem dL_law_3777 : decode cL_law 3777 = .ok (.invokevirtual 201, 3) := by decide +kernel
theorem dL_law_3780 : decode cL_law 3780 = .ok (.iload 6, 2) := by decide +kernel
theorem dL_law_3782 : decode cL_law 3782 = .ok (.if_icmp .eq 5, 3) := by decide +kernel
theorem dL_law_3787 : decode cL_law 3787 = .ok (.iload 6, 2) := by decide +kernel
theorem dL_law_3789 : decode cL_law 3789 = .ok (.ifCond .ne 15, 3) := by decide +kernel
theorem dL_law_3792 : decode cL_law 3792 = .ok (.aload_n 3, 1) := by decide +kernel
theorem dL_law_3793 : decode cL_law 3793 = .ok (.iconst 0, 1) := by decide +kernel
theorem dL_law_3794 : decode cL_law 3794 = .ok (.laload, 1) := by decide +kernel
theorem dL_law_3795 : decode cL_law 3795 = .ok (.iload 7, 2) := by decide +kernel
theorem dL_law_3797 : decode cL_law 3797 = .ok (.i2l, 1) := by decide +kernel
theorem dL_law_3798 : decode cL_law 3798 = .ok (.lcmp, 1) := by decide +kernel
theorem dL_law_3799 : decode cL_law 3799 = .ok (.ifCond .eq 5, 3) := by decide +kernel
theorem dL_law_3804 : decode cL_law 3804 = .ok (.goto 217, 3) := by decide +kernel
theorem dL_law_3807 : decode cL_law 3807 = .ok (.aload_n 1, 1) := by decide +kernel
theorem dL_law_3808 : decode cL_law 3808 = .ok (.aload_n 0, 1) := by decide +kernel
theorem dL_law_3809 : decode cL_law 3809 = .ok (.iload 5, 2) := by decide +kernel
theorem dL_law_3811 : decode cL_law 3811 = .ok (.iconst 1, 1) := by decide +kernel
theorem dL_law_3812 : decode cL_law 3812 = .ok (.iadd, 1) := by decide +kernel
theorem dL_law_3813 : decode cL_law 3813 = .ok (.iaload, 1) := by decide +kernel
theorem dL_law_3814 : decode cL_law 3814 = .ok (.aload_n 0, 1) := by decide +kernel
theorem dL_law_3815 : decode cL_law 3815 = .ok (.iload 5, 2) := by decide +kernel
theorem dL_law_3817 : decode cL_law 3817 = .ok (.iconst 2, 1) := by decide +kernel
theorem dL_law_3818 : decode cL_law 3818 = .ok (.iadd, 1) := by decide +kernel
theorem dL_law_3819 : decode cL_law 3819 = .ok (.iaload, 1) := by decide +kernel
theorem dL_law_3820 : decode cL_law 3820 = .ok (.i2c, 1) := by decide +kernel
theorem dL_law_3821 : decode cL_law 3821 = .ok (.aload_n 3, 1) := by decide +kernel
theorem dL_law_3822 : decode cL_law 3822 = .ok (.invokestatic 384, 3) := by decide +kernel
theorem dL_law_3825 : decode cL_law 3825 = .ok (.istore 6, 2) := by decide +kernel
theorem dL_law_3827 : decode cL_law 3827 = .ok (.aload_n 2, 1) := by decide +kernel
theorem dL_law_3828 : decode cL_law 3828 = .ok (.aload_n 0, 1) := by decide +kernel
theorem dL_law_3829 : decode cL_law 3829 = .ok (.iload 5, 2) := by decide +kernel
theorem dL_law_3831 : decode cL_law 3831 = .ok (.iconst 1, 1) := by decide +kernel
theorem dL_law_3832 : decode cL_law 3832 = .ok (.iadd, 1) := by decide +kernel
theorem dL_law_3833 : decode cL_law 3833 = .ok (.iaload, 1) := by decide +kernel
theorem dL_law_3834 : decode cL_law 3834 = .ok (.aload_n 0, 1) := by decide +kernel
theorem dL_law_3835 : decode cL_law 3835 = .ok (.iload 5, 2) := by decide +kernel
theorem dL_law_3837 : decode cL_law 3837 = .ok (.iconst 2, 1) := by decide +kernel
theorem dL_law_3838 : decode cL_law 3838 = .ok (.iadd, 1) := by decide +kernel
theorem dL_law_3839 : decode cL_law 3839 = .ok (.iaload, 1) := by decide +kernel
theorem dL_law_3840 : decode cL_law 3840 = .ok (.i2c, 1) := by decide +kernel
theorem dL_law_3841 : decode cL_law 3841 = .ok (.invokevirtual 387, 3) := by decide +kernel
theorem dL_law_3844 : decode cL_law 3844 = .ok (.istore 7, 2) := by decide +kernel
theorem dL_law_3846 : decode cL_law 3846 = .ok (.aload_n 2, 1) := by decide +kernel
theorem dL_law_3847 : decode cL_law 3847 = .ok (.invokevirtual 201, 3) := by decide +kernel
theorem dL_law_3850 : decode cL_law 3850 = .ok (.iload 6, 2) := by decide +kernel
theorem dL_law_3852 : decode cL_law 3852 = .ok (.if_icmp .eq 5, 3) := by decide +kernel
theorem dL_law_3857 : decode cL_law 3857 = .ok (.iload 6, 2) := by decide +kernel
theorem dL_law_3859 : decode cL_law 3859 = .ok (.ifCond .ne 15, 3) := by decide +kernel
theorem dL_law_3862 : decode cL_law 3862 = .ok (.aload_n 3, 1) := by decide +kernel
theorem dL_law_3863 : decode cL_law 3863 = .ok (.iconst 0, 1) := by decide +kernel
theorem dL_law_3864 : decode cL_law 3864 = .ok (.laload, 1) := by decide +kernel
theorem dL_law_3865 : decode cL_law 3865 = .ok (.iload 7, 2) := by decide +kernel
theorem dL_law_3867 : decode cL_law 3867 = .ok (.i2l, 1) := by decide +kernel
theorem dL_law_3868 : decode cL_law 3868 = .ok (.lcmp, 1) := by decide +kernel
theorem dL_law_3869 : decode cL_law 3869 = .ok (.ifCond .eq 5, 3) := by decide +kernel
theorem dL_law_3874 : decode cL_law 3874 = .ok (.goto 147, 3) := by decide +kernel
theorem dL_law_3877 : decode cL_law 3877 = .ok (.aload_n 1, 1) := by decide +kernel
theorem dL_law_3878 : decode cL_law 3878 = .ok (.aload 4, 2) := by decide +kernel
theorem dL_law_3880 : decode cL_law 3880 = .ok (.invokestatic 388, 3) := by decide +kernel
theorem dL_law_3883 : decode cL_law 3883 = .ok (.istore 6, 2) := by decide +kernel
theorem dL_law_3885 : decode cL_law 3885 = .ok (.aload_n 2, 1) := by decide +kernel
theorem dL_law_3886 : decode cL_law 3886 = .ok (.invokevirtual 391, 3) := by decide +kernel
theorem dL_law_3889 : decode cL_law 3889 = .ok (.fstore 7, 2) := by decide +kernel
theorem dL_law_3891 : decode cL_law 3891 = .ok (.aload_n 2, 1) := by decide +kernel
theorem dL_law_3892 : decode cL_law 3892 = .ok (.invokevirtual 201, 3) := by decide +kernel
theorem dL_law_3895 : decode cL_law 3895 = .ok (.iload 6, 2) := by decide +kernel
theorem dL_law_3897 : decode cL_law 3897 = .ok (.if_icmp .eq 5, 3) := by decide +kernel
theorem dL_law_3902 : decode cL_law 3902 = .ok (.iload 6, 2) := by decide +kernel
theorem dL_law_3904 : decode cL_law 3904 = .ok (.ifCond .ne 36, 3) := by decide +kernel
theorem dL_law_3907 : decode cL_law 3907 = .ok (.aload 4, 2) := by decide +kernel
theorem dL_law_3909 : decode cL_law 3909 = .ok (.iconst 0, 1) := by decide +kernel
theorem dL_law_3910 : decode cL_law 3910 = .ok (.daload, 1) := by decide +kernel
theorem dL_law_3911 : decode cL_law 3911 = .ok (.fload 7, 2) := by decide +kernel
theorem dL_law_3913 : decode cL_law 3913 = .ok (.f2d, 1) := by decide +kernel
theorem dL_law_3914 : decode cL_law 3914 = .ok (.dcmp .l, 1) := by decide +kernel
theorem dL_law_3915 : decode cL_law 3915 = .ok (.ifCond .eq 25, 3) := by decide +kernel
theorem dL_law_3918 : decode cL_law 3918 = .ok (.aload 4, 2) := by decide +kernel
theorem dL_law_3920 : decode cL_law 3920 = .ok (.iconst 0, 1) := by decide +kernel
theorem dL_law_3921 : decode cL_law 3921 = .ok (.daload, 1) := by decide +kernel
theorem dL_law_3922 : decode cL_law 3922 = .ok (.aload 4, 2) := by decide +kernel
theorem dL_law_3924 : decode cL_law 3924 = .ok (.iconst 0, 1) := by decide +kernel
theorem dL_law_3925 : decode cL_law 3925 = .ok (.daload, 1) := by decide +kernel
theorem dL_law_3926 : decode cL_law 3926 = .ok (.dcmp .l, 1) := by decide +kernel
theorem dL_law_3927 : decode cL_law 3927 = .ok (.ifCond .eq 11, 3) := by decide +kernel
theorem dL_law_3930 : decode cL_law 3930 = .ok (.fload 7, 2) := by decide +kernel
theorem dL_law_3932 : decode cL_law 3932 = .ok (.fload 7, 2) := by decide +kernel
theorem dL_law_3934 : decode cL_law 3934 = .ok (.fcmp .l, 1) := by decide +kernel
theorem dL_law_3935 : decode cL_law 3935 = .ok (.ifCond .ne 5, 3) := by decide +kernel
theorem dL_law_3940 : decode cL_law 3940 = .ok (.goto 81, 3) := by decide +kernel
theorem dL_law_3943 : decode cL_law 3943 = .ok (.aload_n 1, 1) := by decide +kernel
theorem dL_law_3944 : decode cL_law 3944 = .ok (.aload 4, 2) := by decide +kernel
theorem dL_law_3946 : decode cL_law 3946 = .ok (.invokestatic 392, 3) := by decide +kernel
theorem dL_law_3949 : decode cL_law 3949 = .ok (.istore 6, 2) := by decide +kernel
theorem dL_law_3951 : decode cL_law 3951 = .ok (.aload_n 2, 1) := by decide +kernel
theorem dL_law_3952 : decode cL_law 3952 = .ok (.invokevirtual 394, 3) := by decide +kernel
theorem dL_law_3955 : decode cL_law 3955 = .ok (.dstore 7, 2) := by decide +kernel
theorem dL_law_3957 : decode cL_law 3957 = .ok (.aload_n 2, 1) := by decide +kernel
theorem dL_law_3958 : decode cL_law 3958 = .ok (.invokevirtual 201, 3) := by decide +kernel
theorem dL_law_3961 : decode cL_law 3961 = .ok (.iload 6, 2) := by decide +kernel
theorem dL_law_3963 : decode cL_law 3963 = .ok (.if_icmp .eq 5, 3) := by decide +kernel
theorem dL_law_3968 : decode cL_law 3968 = .ok (.iload 6, 2) := by decide +kernel
theorem dL_law_3970 : decode cL_law 3970 = .ok (.ifCond .ne 35, 3) := by decide +kernel
theorem dL_law_3973 : decode cL_law 3973 = .ok (.aload 4, 2) := by decide +kernel
theorem dL_law_3975 : decode cL_law 3975 = .ok (.iconst 0, 1) := by decide +kernel
theorem dL_law_3976 : decode cL_law 3976 = .ok (.daload, 1) := by decide +kernel
theorem dL_law_3977 : decode cL_law 3977 = .ok (.dload 7, 2) := by decide +kernel
theorem dL_law_3979 : decode cL_law 3979 = .ok (.dcmp .l, 1) := by decide +kernel
theorem dL_law_3980 : decode cL_law 3980 = .ok (.ifCond .eq 25, 3) := by decide +kernel
theorem dL_law_3983 : decode cL_law 3983 = .ok (.aload 4, 2) := by decide +kernel
theorem dL_law_3985 : decode cL_law 3985 = .ok (.iconst 0, 1) := by decide +kernel
theorem dL_law_3986 : decode cL_law 3986 = .ok (.daload, 1) := by decide +kernel
theorem dL_law_3987 : decode cL_law 3987 = .ok (.aload 4, 2) := by decide +kernel
theorem dL_law_3989 : decode cL_law 3989 = .ok (.iconst 0, 1) := by decide +kernel
theorem dL_law_3990 : decode cL_law 3990 = .ok (.daload, 1) := by decide +kernel
theorem dL_law_3991 : decode cL_law 3991 = .ok (.dcmp .l, 1) := by decide +kernel
theorem dL_law_3992 : decode cL_law 3992 = .ok (.ifCond .eq 11, 3) := by decide +kernel
theorem dL_law_3995 : decode cL_law 3995 = .ok (.dload 7, 2) := by decide +kernel
theorem dL_law_3997 : decode cL_law 3997 = .ok (.dload 7, 2) := by decide +kernel
theorem dL_law_3999 : decode cL_law 3999 = .ok (.dcmp .l, 1) := by decide +kernel
theorem dL_law_4000 : decode cL_law 4000 = .ok (.ifCond .ne 5, 3) := by decide +kernel
theorem dL_law_4005 : decode cL_law 4005 = .ok (.goto 16, 3) := by decide +kernel
theorem dL_law_4008 : decode cL_law 4008 = .ok (.aload_n 1, 1) := by decide +kernel
theorem dL_law_4009 : decode cL_law 4009 = .ok (.invokevirtual 395, 3) := by decide +kernel
theorem dL_law_4012 : decode cL_law 4012 = .ok (.aload_n 2, 1) := by decide +kernel
theorem dL_law_4013 : decode cL_law 4013 = .ok (.invokevirtual 399, 3) := by decide +kernel
theorem dL_law_4016 : decode cL_law 4016 = .ok (.if_icmp .eq 5, 3) := by decide +kernel
theorem dL_law_4021 : decode cL_law 4021 = .ok (.iinc 5 8, 3) := by decide +kernel
theorem dL_law_4024 : decode cL_law 4024 = .ok (.goto (-3996), 3) := by decide +kernel
theorem dL_law_4027 : decode cL_law 4027 = .ok (.iconst 1, 1) := by decide +kernel
theorem dL_law_4028 : decode cL_law 4028 = .ok (.ireturn, 1) := by decide +kernel
