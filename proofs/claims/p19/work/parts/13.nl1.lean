theorem dL_build_427 : decode cL_build 427 = .ok (.aconst_null, 1) := by decide +kernel
theorem dL_build_428 : decode cL_build 428 = .ok (.areturn, 1) := by decide +kernel
theorem dL_build_429 : decode cL_build 429 = .ok (.aload_n 2, 1) := by decide +kernel
theorem dL_build_430 : decode cL_build 430 = .ok (.dup, 1) := by decide +kernel
theorem dL_build_431 : decode cL_build 431 = .ok (.getfield 70, 3) := by decide +kernel
theorem dL_build_434 : decode cL_build 434 = .ok (.iload 7, 2) := by decide +kernel
theorem dL_build_436 : decode cL_build 436 = .ok (.aload 6, 2) := by decide +kernel
theorem dL_build_438 : decode cL_build 438 = .ok (.iconst 3, 1) := by decide +kernel
theorem dL_build_439 : decode cL_build 439 = .ok (.iaload, 1) := by decide +kernel
theorem dL_build_440 : decode cL_build 440 = .ok (.isub, 1) := by decide +kernel
theorem dL_build_441 : decode cL_build 441 = .ok (.invokestatic 73, 3) := by decide +kernel
theorem dL_build_444 : decode cL_build 444 = .ok (.iadd, 1) := by decide +kernel
theorem dL_build_445 : decode cL_build 445 = .ok (.putfield 70, 3) := by decide +kernel
theorem dL_build_448 : decode cL_build 448 = .ok (.aload 6, 2) := by decide +kernel
theorem dL_build_450 : decode cL_build 450 = .ok (.iconst 3, 1) := by decide +kernel
theorem dL_build_451 : decode cL_build 451 = .ok (.iload 7, 2) := by decide +kernel
theorem dL_build_453 : decode cL_build 453 = .ok (.iastore, 1) := by decide +kernel
theorem dL_build_454 : decode cL_build 454 = .ok (.iload 5, 2) := by decide +kernel
theorem dL_build_456 : decode cL_build 456 = .ok (.bipush 6, 2) := by decide +kernel
theorem dL_build_458 : decode cL_build 458 = .ok (.ishr, 1) := by decide +kernel
theorem dL_build_459 : decode cL_build 459 = .ok (.iconst 3, 1) := by decide +kernel
theorem dL_build_460 : decode cL_build 460 = .ok (.invokestatic 17, 3) := by decide +kernel
theorem dL_build_463 : decode cL_build 463 = .ok (.ifCond .ne 6, 3) := by decide +kernel
theorem dL_build_466 : decode cL_build 466 = .ok (.goto 45, 3) := by decide +kernel
theorem dL_build_469 : decode cL_build 469 = .ok (.aload 6, 2) := by decide +kernel
theorem dL_build_471 : decode cL_build 471 = .ok (.iconst 5, 1) := by decide +kernel
theorem dL_build_472 : decode cL_build 472 = .ok (.iconst 1, 1) := by decide +kernel
theorem dL_build_473 : decode cL_build 473 = .ok (.iastore, 1) := by decide +kernel
theorem dL_build_474 : decode cL_build 474 = .ok (.aload 6, 2) := by decide +kernel
theorem dL_build_476 : decode cL_build 476 = .ok (.bipush 6, 2) := by decide +kernel
theorem dL_build_478 : decode cL_build 478 = .ok (.iload 5, 2) := by decide +kernel
theorem dL_build_480 : decode cL_build 480 = .ok (.bipush 8, 2) := by decide +kernel
theorem dL_build_482 : decode cL_build 482 = .ok (.ishr, 1) := by decide +kernel
theorem dL_build_483 : decode cL_build 483 = .ok (.bipush 21, 2) := by decide +kernel
theorem dL_build_485 : decode cL_build 485 = .ok (.invokestatic 17, 3) := by decide +kernel
theorem dL_build_488 : decode cL_build 488 = .ok (.iastore, 1) := by decide +kernel
theorem dL_build_489 : decode cL_build 489 = .ok (.aload_n 0, 1) := by decide +kernel
theorem dL_build_490 : decode cL_build 490 = .ok (.iload_n 3, 1) := by decide +kernel
theorem dL_build_491 : decode cL_build 491 = .ok (.iload 4, 2) := by decide +kernel
theorem dL_build_493 : decode cL_build 493 = .ok (.aload 6, 2) := by decide +kernel
theorem dL_build_495 : decode cL_build 495 = .ok (.bipush 6, 2) := by decide +kernel
theorem dL_build_497 : decode cL_build 497 = .ok (.iaload, 1) := by decide +kernel
theorem dL_build_498 : decode cL_build 498 = .ok (.invokevirtual 77, 3) := by decide +kernel
theorem dL_build_501 : decode cL_build 501 = .ok (.aload_n 2, 1) := by decide +kernel
theorem dL_build_502 : decode cL_build 502 = .ok (.iconst 5, 1) := by decide +kernel
theorem dL_build_503 : decode cL_build 503 = .ok (.invokevirtual 80, 3) := by decide +kernel
theorem dL_build_506 : decode cL_build 506 = .ok (.if_icmp .eq 5, 3) := by decide +kernel
theorem dL_build_509 : decode cL_build 509 = .ok (.aconst_null, 1) := by decide +kernel
theorem dL_build_510 : decode cL_build 510 = .ok (.areturn, 1) := by decide +kernel
theorem dL_build_511 : decode cL_build 511 = .ok (.iinc 4 1, 3) := by decide +kernel
theorem dL_build_514 : decode cL_build 514 = .ok (.goto (-270), 3) := by decide +kernel
theorem dL_build_517 : decode cL_build 517 = .ok (.iinc 3 1, 3) := by decide +kernel
theorem dL_build_520 : decode cL_build 520 = .ok (.goto (-287), 3) := by decide +kernel
theorem dL_build_523 : decode cL_build 523 = .ok (.aload_n 2, 1) := by decide +kernel
theorem dL_build_524 : decode cL_build 524 = .ok (.areturn, 1) := by decide +kernel
