theorem dL_law_3311 : decode cL_law 3311 = .ok (.iadd, 1) := by decide +kernel
theorem dL_law_3312 : decode cL_law 3312 = .ok (.iaload, 1) := by decide +kernel
theorem dL_law_3313 : decode cL_law 3313 = .ok (.aload_n 3, 1) := by decide +kernel
theorem dL_law_3314 : decode cL_law 3314 = .ok (.invokestatic 340, 3) := by decide +kernel
theorem dL_law_3317 : decode cL_law 3317 = .ok (.istore 6, 2) := by decide +kernel
theorem dL_law_3319 : decode cL_law 3319 = .ok (.aload_n 2, 1) := by decide +kernel
theorem dL_law_3320 : decode cL_law 3320 = .ok (.aload_n 0, 1) := by decide +kernel
theorem dL_law_3321 : decode cL_law 3321 = .ok (.iload 5, 2) := by decide +kernel
theorem dL_law_3323 : decode cL_law 3323 = .ok (.iconst 1, 1) := by decide +kernel
theorem dL_law_3324 : decode cL_law 3324 = .ok (.iadd, 1) := by decide +kernel
theorem dL_law_3325 : decode cL_law 3325 = .ok (.iaload, 1) := by decide +kernel
theorem dL_law_3326 : decode cL_law 3326 = .ok (.aload_n 0, 1) := by decide +kernel
theorem dL_law_3327 : decode cL_law 3327 = .ok (.iload 5, 2) := by decide +kernel
theorem dL_law_3329 : decode cL_law 3329 = .ok (.iconst 2, 1) := by decide +kernel
theorem dL_law_3330 : decode cL_law 3330 = .ok (.iadd, 1) := by decide +kernel
theorem dL_law_3331 : decode cL_law 3331 = .ok (.iaload, 1) := by decide +kernel
theorem dL_law_3332 : decode cL_law 3332 = .ok (.invokevirtual 342, 3) := by decide +kernel
theorem dL_law_3335 : decode cL_law 3335 = .ok (.istore 7, 2) := by decide +kernel
theorem dL_law_3337 : decode cL_law 3337 = .ok (.aload_n 2, 1) := by decide +kernel
theorem dL_law_3338 : decode cL_law 3338 = .ok (.invokevirtual 170, 3) := by decide +kernel
theorem dL_law_3341 : decode cL_law 3341 = .ok (.iload 6, 2) := by decide +kernel
theorem dL_law_3343 : decode cL_law 3343 = .ok (.if_icmp .eq 5, 3) := by decide +kernel
theorem dL_law_3346 : decode cL_law 3346 = .ok (.iconst 0, 1) := by decide +kernel
theorem dL_law_3347 : decode cL_law 3347 = .ok (.ireturn, 1) := by decide +kernel
theorem dL_law_3348 : decode cL_law 3348 = .ok (.iload 6, 2) := by decide +kernel
theorem dL_law_3350 : decode cL_law 3350 = .ok (.ifCond .ne 15, 3) := by decide +kernel
theorem dL_law_3353 : decode cL_law 3353 = .ok (.aload_n 3, 1) := by decide +kernel
theorem dL_law_3354 : decode cL_law 3354 = .ok (.iconst 0, 1) := by decide +kernel
theorem dL_law_3355 : decode cL_law 3355 = .ok (.laload, 1) := by decide +kernel
theorem dL_law_3356 : decode cL_law 3356 = .ok (.iload 7, 2) := by decide +kernel
theorem dL_law_3358 : decode cL_law 3358 = .ok (.i2l, 1) := by decide +kernel
theorem dL_law_3359 : decode cL_law 3359 = .ok (.lcmp, 1) := by decide +kernel
theorem dL_law_3360 : decode cL_law 3360 = .ok (.ifCond .eq 5, 3) := by decide +kernel
theorem dL_law_3363 : decode cL_law 3363 = .ok (.iconst 0, 1) := by decide +kernel
theorem dL_law_3364 : decode cL_law 3364 = .ok (.ireturn, 1) := by decide +kernel
theorem dL_law_3365 : decode cL_law 3365 = .ok (.goto 230, 3) := by decide +kernel
theorem dL_law_3368 : decode cL_law 3368 = .ok (.aload_n 1, 1) := by decide +kernel
theorem dL_law_3369 : decode cL_law 3369 = .ok (.aload_n 0, 1) := by decide +kernel
theorem dL_law_3370 : decode cL_law 3370 = .ok (.iload 5, 2) := by decide +kernel
theorem dL_law_3372 : decode cL_law 3372 = .ok (.iconst 1, 1) := by decide +kernel
theorem dL_law_3373 : decode cL_law 3373 = .ok (.iadd, 1) := by decide +kernel
theorem dL_law_3374 : decode cL_law 3374 = .ok (.iaload, 1) := by decide +kernel
theorem dL_law_3375 : decode cL_law 3375 = .ok (.aload_n 0, 1) := by decide +kernel
theorem dL_law_3376 : decode cL_law 3376 = .ok (.iload 5, 2) := by decide +kernel
theorem dL_law_3378 : decode cL_law 3378 = .ok (.iconst 2, 1) := by decide +kernel
theorem dL_law_3379 : decode cL_law 3379 = .ok (.iadd, 1) := by decide +kernel
theorem dL_law_3380 : decode cL_law 3380 = .ok (.iaload, 1) := by decide +kernel
theorem dL_law_3381 : decode cL_law 3381 = .ok (.aload_n 3, 1) := by decide +kernel
theorem dL_law_3382 : decode cL_law 3382 = .ok (.invokestatic 343, 3) := by decide +kernel
theorem dL_law_3385 : decode cL_law 3385 = .ok (.istore 6, 2) := by decide +kernel
theorem dL_law_3387 : decode cL_law 3387 = .ok (.aload_n 2, 1) := by decide +kernel
theorem dL_law_3388 : decode cL_law 3388 = .ok (.aload_n 0, 1) := by decide +kernel
theorem dL_law_3389 : decode cL_law 3389 = .ok (.iload 5, 2) := by decide +kernel
theorem dL_law_3391 : decode cL_law 3391 = .ok (.iconst 1, 1) := by decide +kernel
theorem dL_law_3392 : decode cL_law 3392 = .ok (.iadd, 1) := by decide +kernel
theorem dL_law_3393 : decode cL_law 3393 = .ok (.iaload, 1) := by decide +kernel
theorem dL_law_3394 : decode cL_law 3394 = .ok (.aload_n 0, 1) := by decide +kernel
theorem dL_law_3395 : decode cL_law 3395 = .ok (.iload 5, 2) := by decide +kernel
theorem dL_law_3397 : decode cL_law 3397 = .ok (.iconst 2, 1) := by decide +kernel
theorem dL_law_3398 : decode cL_law 3398 = .ok (.iadd, 1) := by decide +kernel
theorem dL_law_3399 : decode cL_law 3399 = .ok (.iaload, 1) := by decide +kernel
theorem dL_law_3400 : decode cL_law 3400 = .ok (.invokevirtual 345, 3) := by decide +kernel
theorem dL_law_3403 : decode cL_law 3403 = .ok (.lstore 7, 2) := by decide +kernel
theorem dL_law_3405 : decode cL_law 3405 = .ok (.aload_n 2, 1) := by decide +kernel
theorem dL_law_3406 : decode cL_law 3406 = .ok (.invokevirtual 170, 3) := by decide +kernel
theorem dL_law_3409 : decode cL_law 3409 = .ok (.iload 6, 2) := by decide +kernel
theorem dL_law_3411 : decode cL_law 3411 = .ok (.if_icmp .eq 5, 3) := by decide +kernel
theorem dL_law_3414 : decode cL_law 3414 = .ok (.iconst 0, 1) := by decide +kernel
theorem dL_law_3415 : decode cL_law 3415 = .ok (.ireturn, 1) := by decide +kernel
theorem dL_law_3416 : decode cL_law 3416 = .ok (.iload 6, 2) := by decide +kernel
theorem dL_law_3418 : decode cL_law 3418 = .ok (.ifCond .ne 14, 3) := by decide +kernel
theorem dL_law_3421 : decode cL_law 3421 = .ok (.aload_n 3, 1) := by decide +kernel
theorem dL_law_3422 : decode cL_law 3422 = .ok (.iconst 0, 1) := by decide +kernel
theorem dL_law_3423 : decode cL_law 3423 = .ok (.laload, 1) := by decide +kernel
theorem dL_law_3424 : decode cL_law 3424 = .ok (.lload 7, 2) := by decide +kernel
theorem dL_law_3426 : decode cL_law 3426 = .ok (.lcmp, 1) := by decide +kernel
theorem dL_law_3427 : decode cL_law 3427 = .ok (.ifCond .eq 5, 3) := by decide +kernel
theorem dL_law_3430 : decode cL_law 3430 = .ok (.iconst 0, 1) := by decide +kernel
theorem dL_law_3431 : decode cL_law 3431 = .ok (.ireturn, 1) := by decide +kernel
theorem dL_law_3432 : decode cL_law 3432 = .ok (.goto 163, 3) := by decide +kernel
theorem dL_law_3435 : decode cL_law 3435 = .ok (.aload_n 1, 1) := by decide +kernel
theorem dL_law_3436 : decode cL_law 3436 = .ok (.invokevirtual 346, 3) := by decide +kernel
theorem dL_law_3439 : decode cL_law 3439 = .ok (.aload_n 2, 1) := by decide +kernel
theorem dL_law_3440 : decode cL_law 3440 = .ok (.invokevirtual 349, 3) := by decide +kernel
theorem dL_law_3443 : decode cL_law 3443 = .ok (.if_icmp .eq 152, 3) := by decide +kernel
theorem dL_law_3446 : decode cL_law 3446 = .ok (.iconst 0, 1) := by decide +kernel
theorem dL_law_3447 : decode cL_law 3447 = .ok (.ireturn, 1) := by decide +kernel
theorem dL_law_3448 : decode cL_law 3448 = .ok (.aload_n 1, 1) := by decide +kernel
theorem dL_law_3449 : decode cL_law 3449 = .ok (.aload_n 0, 1) := by decide +kernel
theorem dL_law_3450 : decode cL_law 3450 = .ok (.iload 5, 2) := by decide +kernel
theorem dL_law_3452 : decode cL_law 3452 = .ok (.iconst 1, 1) := by decide +kernel
theorem dL_law_3453 : decode cL_law 3453 = .ok (.iadd, 1) := by decide +kernel
theorem dL_law_3454 : decode cL_law 3454 = .ok (.iaload, 1) := by decide +kernel
theorem dL_law_3455 : decode cL_law 3455 = .ok (.aload 4, 2) := by decide +kernel
theorem dL_law_3457 : decode cL_law 3457 = .ok (.invokestatic 350, 3) := by decide +kernel
theorem dL_law_3460 : decode cL_law 3460 = .ok (.istore 6, 2) := by decide +kernel
theorem dL_law_3462 : decode cL_law 3462 = .ok (.aload_n 2, 1) := by decide +kernel
theorem dL_law_3463 : decode cL_law 3463 = .ok (.aload_n 0, 1) := by decide +kernel
theorem dL_law_3464 : decode cL_law 3464 = .ok (.iload 5, 2) := by decide +kernel
theorem dL_law_3466 : decode cL_law 3466 = .ok (.iconst 1, 1) := by decide +kernel
theorem dL_law_3467 : decode cL_law 3467 = .ok (.iadd, 1) := by decide +kernel
theorem dL_law_3468 : decode cL_law 3468 = .ok (.iaload, 1) := by decide +kernel
theorem dL_law_3469 : decode cL_law 3469 = .ok (.invokevirtual 353, 3) := by decide +kernel
theorem dL_law_3472 : decode cL_law 3472 = .ok (.dstore 7, 2) := by decide +kernel
theorem dL_law_3474 : decode cL_law 3474 = .ok (.aload_n 2, 1) := by decide +kernel
theorem dL_law_3475 : decode cL_law 3475 = .ok (.invokevirtual 170, 3) := by decide +kernel
theorem dL_law_3478 : decode cL_law 3478 = .ok (.iload 6, 2) := by decide +kernel
theorem dL_law_3480 : decode cL_law 3480 = .ok (.if_icmp .eq 5, 3) := by decide +kernel
theorem dL_law_3483 : decode cL_law 3483 = .ok (.iconst 0, 1) := by decide +kernel
theorem dL_law_3484 : decode cL_law 3484 = .ok (.ireturn, 1) := by decide +kernel
theorem dL_law_3485 : decode cL_law 3485 = .ok (.iload 6, 2) := by decide +kernel
theorem dL_law_3487 : decode cL_law 3487 = .ok (.ifCond .ne 35, 3) := by decide +kernel
theorem dL_law_3490 : decode cL_law 3490 = .ok (.aload 4, 2) := by decide +kernel
theorem dL_law_3492 : decode cL_law 3492 = .ok (.iconst 0, 1) := by decide +kernel
theorem dL_law_3493 : decode cL_law 3493 = .ok (.daload, 1) := by decide +kernel
theorem dL_law_3494 : decode cL_law 3494 = .ok (.dload 7, 2) := by decide +kernel
theorem dL_law_3496 : decode cL_law 3496 = .ok (.dcmp .l, 1) := by decide +kernel
theorem dL_law_3497 : decode cL_law 3497 = .ok (.ifCond .eq 25, 3) := by decide +kernel
theorem dL_law_3500 : decode cL_law 3500 = .ok (.aload 4, 2) := by decide +kernel
theorem dL_law_3502 : decode cL_law 3502 = .ok (.iconst 0, 1) := by decide +kernel
theorem dL_law_3503 : decode cL_law 3503 = .ok (.daload, 1) := by decide +kernel
theorem dL_law_3504 : decode cL_law 3504 = .ok (.aload 4, 2) := by decide +kernel
theorem dL_law_3506 : decode cL_law 3506 = .ok (.iconst 0, 1) := by decide +kernel
theorem dL_law_3507 : decode cL_law 3507 = .ok (.daload, 1) := by decide +kernel
theorem dL_law_3508 : decode cL_law 3508 = .ok (.dcmp .l, 1) := by decide +kernel
theorem dL_law_3509 : decode cL_law 3509 = .ok (.ifCond .eq 11, 3) := by decide +kernel
theorem dL_law_3512 : decode cL_law 3512 = .ok (.dload 7, 2) := by decide +kernel
theorem dL_law_3514 : decode cL_law 3514 = .ok (.dload 7, 2) := by decide +kernel
theorem dL_law_3516 : decode cL_law 3516 = .ok (.dcmp .l, 1) := by decide +kernel
theorem dL_law_3517 : decode cL_law 3517 = .ok (.ifCond .ne 5, 3) := by decide +kernel
theorem dL_law_3520 : decode cL_law 3520 = .ok (.iconst 0, 1) := by decide +kernel
theorem dL_law_3521 : decode cL_law 3521 = .ok (.ireturn, 1) := by decide +kernel
theorem dL_law_3522 : decode cL_law 3522 = .ok (.goto 73, 3) := by decide +kernel
theorem dL_law_3525 : decode cL_law 3525 = .ok (.aload_n 1, 1) := by decide +kernel
theorem dL_law_3526 : decode cL_law 3526 = .ok (.invokevirtual 354, 3) := by decide +kernel
theorem dL_law_3529 : decode cL_law 3529 = .ok (.f2d, 1) := by decide +kernel
theorem dL_law_3530 : decode cL_law 3530 = .ok (.dstore 6, 2) := by decide +kernel
theorem dL_law_3532 : decode cL_law 3532 = .ok (.aload_n 2, 1) := by decide +kernel
theorem dL_law_3533 : decode cL_law 3533 = .ok (.invokevirtual 358, 3) := by decide +kernel
theorem dL_law_3536 : decode cL_law 3536 = .ok (.f2d, 1) := by decide +kernel
theorem dL_law_3537 : decode cL_law 3537 = .ok (.dstore 8, 2) := by decide +kernel
theorem dL_law_3539 : decode cL_law 3539 = .ok (.dload 6, 2) := by decide +kernel
theorem dL_law_3541 : decode cL_law 3541 = .ok (.dload 8, 2) := by decide +kernel
theorem dL_law_3543 : decode cL_law 3543 = .ok (.dcmp .l, 1) := by decide +kernel
theorem dL_law_3544 : decode cL_law 3544 = .ok (.ifCond .eq 21, 3) := by decide +kernel
theorem dL_law_3547 : decode cL_law 3547 = .ok (.dload 6, 2) := by decide +kernel
theorem dL_law_3549 : decode cL_law 3549 = .ok (.dload 6, 2) := by decide +kernel
theorem dL_law_3551 : decode cL_law 3551 = .ok (.dcmp .l, 1) := by decide +kernel
theorem dL_law_3552 : decode cL_law 3552 = .ok (.ifCond .eq 11, 3) := by decide +kernel
theorem dL_law_3555 : decode cL_law 3555 = .ok (.dload 8, 2) := by decide +kernel
theorem dL_law_3557 : decode cL_law 3557 = .ok (.dload 8, 2) := by decide +kernel
theorem dL_law_3559 : decode cL_law 3559 = .ok (.dcmp .l, 1) := by decide +kernel
theorem dL_law_3560 : decode cL_law 3560 = .ok (.ifCond .ne 5, 3) := by decide +kernel
theorem dL_law_3563 : decode cL_law 3563 = .ok (.iconst 0, 1) := by decide +kernel
theorem dL_law_3564 : decode cL_law 3564 = .ok (.ireturn, 1) := by decide +kernel
theorem dL_law_3565 : decode cL_law 3565 = .ok (.goto 30, 3) := by decide +kernel
theorem dL_law_3568 : decode cL_law 3568 = .ok (.aload_n 1, 1) := by decide +kernel
theorem dL_law_3569 : decode cL_law 3569 = .ok (.invokevirtual 359, 3) := by decide +kernel
theorem dL_law_3572 : decode cL_law 3572 = .ok (.aload_n 2, 1) := by decide +kernel
theorem dL_law_3573 : decode cL_law 3573 = .ok (.invokevirtual 363, 3) := by decide +kernel
theorem dL_law_3576 : decode cL_law 3576 = .ok (.lcmp, 1) := by decide +kernel
theorem dL_law_3577 : decode cL_law 3577 = .ok (.ifCond .eq 18, 3) := by decide +kernel
theorem dL_law_3580 : decode cL_law 3580 = .ok (.iconst 0, 1) := by decide +kernel
theorem dL_law_3581 : decode cL_law 3581 = .ok (.ireturn, 1) := by decide +kernel
theorem dL_law_3582 : decode cL_law 3582 = .ok (.aload_n 1, 1) := by decide +kernel
theorem dL_law_3583 : decode cL_law 3583 = .ok (.invokevirtual 364, 3) := by decide +kernel
theorem dL_law_3586 : decode cL_law 3586 = .ok (.aload_n 2, 1) := by decide +kernel
theorem dL_law_3587 : decode cL_law 3587 = .ok (.invokevirtual 367, 3) := by decide +kernel
theorem dL_law_3590 : decode cL_law 3590 = .ok (.if_icmp .eq 5, 3) := by decide +kernel
theorem dL_law_3593 : decode cL_law 3593 = .ok (.iconst 0, 1) := by decide +kernel
theorem dL_law_3594 : decode cL_law 3594 = .ok (.ireturn, 1) := by decide +kernel
theorem dL_law_3595 : decode cL_law 3595 = .ok (.iinc 5 6, 3) := by decide +kernel
theorem dL_law_3598 : decode cL_law 3598 = .ok (.goto (-3570), 3) := by decide +kernel
theorem dL_law_3601 : decode cL_law 3601 = .ok (.iconst 1, 1) := by decide +kernel
theorem dL_law_3602 : decode cL_law 3602 = .ok (.ireturn, 1) := by decide +kernel
