theorem dL_law_338 : decode cL_law 338 = .ok (.iload 20, 2) := by decide +kernel
theorem dL_law_340 : decode cL_law 340 = .ok (.iconst 0, 1) := by decide +kernel
theorem dL_law_341 : decode cL_law 341 = .ok (.invokevirtual 91, 3) := by decide +kernel
theorem dL_law_344 : decode cL_law 344 = .ok (.istore 21, 2) := by decide +kernel
theorem dL_law_346 : decode cL_law 346 = .ok (.iload 20, 2) := by decide +kernel
theorem dL_law_348 : decode cL_law 348 = .ok (.ifCond .le 18, 3) := by decide +kernel
theorem dL_law_351 : decode cL_law 351 = .ok (.aload_n 1, 1) := by decide +kernel
theorem dL_law_352 : decode cL_law 352 = .ok (.iload 19, 2) := by decide +kernel
theorem dL_law_354 : decode cL_law 354 = .ok (.iload 20, 2) := by decide +kernel
theorem dL_law_356 : decode cL_law 356 = .ok (.iconst 1, 1) := by decide +kernel
theorem dL_law_357 : decode cL_law 357 = .ok (.isub, 1) := by decide +kernel
theorem dL_law_358 : decode cL_law 358 = .ok (.bipush 11, 2) := by decide +kernel
theorem dL_law_360 : decode cL_law 360 = .ok (.invokevirtual 91, 3) := by decide +kernel
theorem dL_law_363 : decode cL_law 363 = .ok (.goto 4, 3) := by decide +kernel
theorem dL_law_366 : decode cL_law 366 = .ok (.iconst 0, 1) := by decide +kernel
theorem dL_law_367 : decode cL_law 367 = .ok (.iload 20, 2) := by decide +kernel
theorem dL_law_369 : decode cL_law 369 = .ok (.iload 4, 2) := by decide +kernel
theorem dL_law_371 : decode cL_law 371 = .ok (.iconst 1, 1) := by decide +kernel
theorem dL_law_372 : decode cL_law 372 = .ok (.isub, 1) := by decide +kernel
theorem dL_law_373 : decode cL_law 373 = .ok (.if_icmp .ge 18, 3) := by decide +kernel
theorem dL_law_376 : decode cL_law 376 = .ok (.aload_n 1, 1) := by decide +kernel
theorem dL_law_377 : decode cL_law 377 = .ok (.iload 19, 2) := by decide +kernel
theorem dL_law_379 : decode cL_law 379 = .ok (.iload 20, 2) := by decide +kernel
theorem dL_law_381 : decode cL_law 381 = .ok (.iconst 1, 1) := by decide +kernel
theorem dL_law_382 : decode cL_law 382 = .ok (.iadd, 1) := by decide +kernel
theorem dL_law_383 : decode cL_law 383 = .ok (.bipush 11, 2) := by decide +kernel
theorem dL_law_385 : decode cL_law 385 = .ok (.invokevirtual 91, 3) := by decide +kernel
theorem dL_law_388 : decode cL_law 388 = .ok (.goto 4, 3) := by decide +kernel
theorem dL_law_391 : decode cL_law 391 = .ok (.iconst 0, 1) := by decide +kernel
theorem dL_law_392 : decode cL_law 392 = .ok (.iadd, 1) := by decide +kernel
theorem dL_law_393 : decode cL_law 393 = .ok (.istore 22, 2) := by decide +kernel
theorem dL_law_395 : decode cL_law 395 = .ok (.iload 21, 2) := by decide +kernel
theorem dL_law_397 : decode cL_law 397 = .ok (.ifCond .lt 69, 3) := by decide +kernel
theorem dL_law_400 : decode cL_law 400 = .ok (.iload 21, 2) := by decide +kernel
theorem dL_law_402 : decode cL_law 402 = .ok (.sipush 200, 3) := by decide +kernel
theorem dL_law_405 : decode cL_law 405 = .ok (.if_icmp .gt 61, 3) := by decide +kernel
theorem dL_law_408 : decode cL_law 408 = .ok (.iload 21, 2) := by decide +kernel
theorem dL_law_410 : decode cL_law 410 = .ok (.aload_n 1, 1) := by decide +kernel
theorem dL_law_411 : decode cL_law 411 = .ok (.iload 19, 2) := by decide +kernel
theorem dL_law_413 : decode cL_law 413 = .ok (.iload 20, 2) := by decide +kernel
theorem dL_law_415 : decode cL_law 415 = .ok (.iconst 1, 1) := by decide +kernel
theorem dL_law_416 : decode cL_law 416 = .ok (.invokevirtual 91, 3) := by decide +kernel
theorem dL_law_419 : decode cL_law 419 = .ok (.iload 22, 2) := by decide +kernel
theorem dL_law_421 : decode cL_law 421 = .ok (.iadd, 1) := by decide +kernel
theorem dL_law_422 : decode cL_law 422 = .ok (.if_icmp .gt 44, 3) := by decide +kernel
theorem dL_law_425 : decode cL_law 425 = .ok (.aload_n 1, 1) := by decide +kernel
theorem dL_law_426 : decode cL_law 426 = .ok (.iload 19, 2) := by decide +kernel
theorem dL_law_428 : decode cL_law 428 = .ok (.iload 20, 2) := by decide +kernel
theorem dL_law_430 : decode cL_law 430 = .ok (.bipush 10, 2) := by decide +kernel
theorem dL_law_432 : decode cL_law 432 = .ok (.invokevirtual 91, 3) := by decide +kernel
theorem dL_law_435 : decode cL_law 435 = .ok (.ifCond .lt 31, 3) := by decide +kernel
theorem dL_law_438 : decode cL_law 438 = .ok (.aload_n 1, 1) := by decide +kernel
theorem dL_law_439 : decode cL_law 439 = .ok (.iload 19, 2) := by decide +kernel
theorem dL_law_441 : decode cL_law 441 = .ok (.iload 20, 2) := by decide +kernel
theorem dL_law_443 : decode cL_law 443 = .ok (.bipush 10, 2) := by decide +kernel
theorem dL_law_445 : decode cL_law 445 = .ok (.invokevirtual 91, 3) := by decide +kernel
theorem dL_law_448 : decode cL_law 448 = .ok (.bipush 40, 2) := by decide +kernel
theorem dL_law_450 : decode cL_law 450 = .ok (.if_icmp .gt 16, 3) := by decide +kernel
theorem dL_law_453 : decode cL_law 453 = .ok (.aload_n 1, 1) := by decide +kernel
theorem dL_law_454 : decode cL_law 454 = .ok (.iload 19, 2) := by decide +kernel
theorem dL_law_456 : decode cL_law 456 = .ok (.iload 20, 2) := by decide +kernel
theorem dL_law_458 : decode cL_law 458 = .ok (.bipush 11, 2) := by decide +kernel
theorem dL_law_460 : decode cL_law 460 = .ok (.invokevirtual 91, 3) := by decide +kernel
theorem dL_law_463 : decode cL_law 463 = .ok (.ifCond .ge 5, 3) := by decide +kernel
theorem dL_law_466 : decode cL_law 466 = .ok (.iconst 0, 1) := by decide +kernel
theorem dL_law_467 : decode cL_law 467 = .ok (.ireturn, 1) := by decide +kernel
theorem dL_law_468 : decode cL_law 468 = .ok (.iload 18, 2) := by decide +kernel
theorem dL_law_470 : decode cL_law 470 = .ok (.iload 21, 2) := by decide +kernel
theorem dL_law_472 : decode cL_law 472 = .ok (.iadd, 1) := by decide +kernel
theorem dL_law_473 : decode cL_law 473 = .ok (.istore 18, 2) := by decide +kernel
theorem dL_law_475 : decode cL_law 475 = .ok (.aload_n 1, 1) := by decide +kernel
theorem dL_law_476 : decode cL_law 476 = .ok (.iload 19, 2) := by decide +kernel
theorem dL_law_478 : decode cL_law 478 = .ok (.iload 20, 2) := by decide +kernel
theorem dL_law_480 : decode cL_law 480 = .ok (.iconst 5, 1) := by decide +kernel
theorem dL_law_481 : decode cL_law 481 = .ok (.invokevirtual 91, 3) := by decide +kernel
theorem dL_law_484 : decode cL_law 484 = .ok (.istore 23, 2) := by decide +kernel
theorem dL_law_486 : decode cL_law 486 = .ok (.iload 23, 2) := by decide +kernel
theorem dL_law_488 : decode cL_law 488 = .ok (.ifCond .ne 38, 3) := by decide +kernel
theorem dL_law_491 : decode cL_law 491 = .ok (.bipush 6, 2) := by decide +kernel
theorem dL_law_493 : decode cL_law 493 = .ok (.istore 24, 2) := by decide +kernel
theorem dL_law_495 : decode cL_law 495 = .ok (.iload 24, 2) := by decide +kernel
theorem dL_law_497 : decode cL_law 497 = .ok (.bipush 10, 2) := by decide +kernel
theorem dL_law_499 : decode cL_law 499 = .ok (.if_icmp .ge 24, 3) := by decide +kernel
theorem dL_law_502 : decode cL_law 502 = .ok (.aload_n 1, 1) := by decide +kernel
theorem dL_law_503 : decode cL_law 503 = .ok (.iload 19, 2) := by decide +kernel
theorem dL_law_505 : decode cL_law 505 = .ok (.iload 20, 2) := by decide +kernel
theorem dL_law_507 : decode cL_law 507 = .ok (.iload 24, 2) := by decide +kernel
theorem dL_law_509 : decode cL_law 509 = .ok (.invokevirtual 91, 3) := by decide +kernel
theorem dL_law_512 : decode cL_law 512 = .ok (.ifCond .eq 5, 3) := by decide +kernel
theorem dL_law_515 : decode cL_law 515 = .ok (.iconst 0, 1) := by decide +kernel
theorem dL_law_516 : decode cL_law 516 = .ok (.ireturn, 1) := by decide +kernel
theorem dL_law_517 : decode cL_law 517 = .ok (.iinc 24 1, 3) := by decide +kernel
theorem dL_law_520 : decode cL_law 520 = .ok (.goto (-25), 3) := by decide +kernel
theorem dL_law_523 : decode cL_law 523 = .ok (.goto 213, 3) := by decide +kernel
theorem dL_law_526 : decode cL_law 526 = .ok (.aload_n 1, 1) := by decide +kernel
theorem dL_law_527 : decode cL_law 527 = .ok (.iload 19, 2) := by decide +kernel
theorem dL_law_529 : decode cL_law 529 = .ok (.iload 20, 2) := by decide +kernel
theorem dL_law_531 : decode cL_law 531 = .ok (.bipush 7, 2) := by decide +kernel
theorem dL_law_533 : decode cL_law 533 = .ok (.invokevirtual 91, 3) := by decide +kernel
theorem dL_law_536 : decode cL_law 536 = .ok (.istore 24, 2) := by decide +kernel
theorem dL_law_538 : decode cL_law 538 = .ok (.iload 23, 2) := by decide +kernel
theorem dL_law_540 : decode cL_law 540 = .ok (.iconst 1, 1) := by decide +kernel
theorem dL_law_541 : decode cL_law 541 = .ok (.if_icmp .ne 125, 3) := by decide +kernel
theorem dL_law_544 : decode cL_law 544 = .ok (.iload 24, 2) := by decide +kernel
theorem dL_law_546 : decode cL_law 546 = .ok (.ifCond .lt 120, 3) := by decide +kernel
theorem dL_law_549 : decode cL_law 549 = .ok (.iload 24, 2) := by decide +kernel
theorem dL_law_551 : decode cL_law 551 = .ok (.bipush 100, 2) := by decide +kernel
theorem dL_law_553 : decode cL_law 553 = .ok (.if_icmp .gt 113, 3) := by decide +kernel
theorem dL_law_556 : decode cL_law 556 = .ok (.aload_n 1, 1) := by decide +kernel
theorem dL_law_557 : decode cL_law 557 = .ok (.iload 19, 2) := by decide +kernel
theorem dL_law_559 : decode cL_law 559 = .ok (.iload 20, 2) := by decide +kernel
theorem dL_law_561 : decode cL_law 561 = .ok (.bipush 8, 2) := by decide +kernel
theorem dL_law_563 : decode cL_law 563 = .ok (.invokevirtual 91, 3) := by decide +kernel
theorem dL_law_566 : decode cL_law 566 = .ok (.iconst 3, 1) := by decide +kernel
theorem dL_law_567 : decode cL_law 567 = .ok (.if_icmp .gt 99, 3) := by decide +kernel
theorem dL_law_570 : decode cL_law 570 = .ok (.aload_n 1, 1) := by decide +kernel
theorem dL_law_571 : decode cL_law 571 = .ok (.iload 19, 2) := by decide +kernel
theorem dL_law_573 : decode cL_law 573 = .ok (.iload 20, 2) := by decide +kernel
theorem dL_law_575 : decode cL_law 575 = .ok (.bipush 9, 2) := by decide +kernel
theorem dL_law_577 : decode cL_law 577 = .ok (.invokevirtual 91, 3) := by decide +kernel
theorem dL_law_580 : decode cL_law 580 = .ok (.iconst 4, 1) := by decide +kernel
theorem dL_law_581 : decode cL_law 581 = .ok (.if_icmp .gt 85, 3) := by decide +kernel
theorem dL_law_584 : decode cL_law 584 = .ok (.aload_n 1, 1) := by decide +kernel
theorem dL_law_585 : decode cL_law 585 = .ok (.iload 19, 2) := by decide +kernel
theorem dL_law_587 : decode cL_law 587 = .ok (.iload 20, 2) := by decide +kernel
theorem dL_law_589 : decode cL_law 589 = .ok (.bipush 8, 2) := by decide +kernel
theorem dL_law_591 : decode cL_law 591 = .ok (.invokevirtual 91, 3) := by decide +kernel
theorem dL_law_594 : decode cL_law 594 = .ok (.ifCond .le 16, 3) := by decide +kernel
theorem dL_law_597 : decode cL_law 597 = .ok (.aload_n 1, 1) := by decide +kernel
theorem dL_law_598 : decode cL_law 598 = .ok (.iload 19, 2) := by decide +kernel
theorem dL_law_600 : decode cL_law 600 = .ok (.iload 20, 2) := by decide +kernel
theorem dL_law_602 : decode cL_law 602 = .ok (.bipush 9, 2) := by decide +kernel
theorem dL_law_604 : decode cL_law 604 = .ok (.invokevirtual 91, 3) := by decide +kernel
theorem dL_law_607 : decode cL_law 607 = .ok (.ifCond .gt 59, 3) := by decide +kernel
theorem dL_law_610 : decode cL_law 610 = .ok (.aload_n 1, 1) := by decide +kernel
theorem dL_law_611 : decode cL_law 611 = .ok (.iload 19, 2) := by decide +kernel
theorem dL_law_613 : decode cL_law 613 = .ok (.iload 20, 2) := by decide +kernel
theorem dL_law_615 : decode cL_law 615 = .ok (.bipush 9, 2) := by decide +kernel
theorem dL_law_617 : decode cL_law 617 = .ok (.invokevirtual 91, 3) := by decide +kernel
theorem dL_law_620 : decode cL_law 620 = .ok (.ifCond .le 7, 3) := by decide +kernel
theorem dL_law_623 : decode cL_law 623 = .ok (.iconst 1, 1) := by decide +kernel
theorem dL_law_624 : decode cL_law 624 = .ok (.goto 4, 3) := by decide +kernel
theorem dL_law_627 : decode cL_law 627 = .ok (.iconst 0, 1) := by decide +kernel
theorem dL_law_628 : decode cL_law 628 = .ok (.iload 21, 2) := by decide +kernel
theorem dL_law_630 : decode cL_law 630 = .ok (.ifCond .ne 7, 3) := by decide +kernel
theorem dL_law_633 : decode cL_law 633 = .ok (.iconst 1, 1) := by decide +kernel
theorem dL_law_634 : decode cL_law 634 = .ok (.goto 4, 3) := by decide +kernel
theorem dL_law_637 : decode cL_law 637 = .ok (.iconst 0, 1) := by decide +kernel
theorem dL_law_638 : decode cL_law 638 = .ok (.if_icmp .ne 28, 3) := by decide +kernel
theorem dL_law_641 : decode cL_law 641 = .ok (.aload_n 1, 1) := by decide +kernel
theorem dL_law_642 : decode cL_law 642 = .ok (.iload 19, 2) := by decide +kernel
theorem dL_law_644 : decode cL_law 644 = .ok (.iload 20, 2) := by decide +kernel
theorem dL_law_646 : decode cL_law 646 = .ok (.bipush 6, 2) := by decide +kernel
theorem dL_law_648 : decode cL_law 648 = .ok (.invokevirtual 91, 3) := by decide +kernel
theorem dL_law_651 : decode cL_law 651 = .ok (.iconst 1, 1) := by decide +kernel
theorem dL_law_652 : decode cL_law 652 = .ok (.if_icmp .lt 14, 3) := by decide +kernel
theorem dL_law_655 : decode cL_law 655 = .ok (.iload 24, 2) := by decide +kernel
theorem dL_law_657 : decode cL_law 657 = .ok (.iconst 2, 1) := by decide +kernel
theorem dL_law_658 : decode cL_law 658 = .ok (.iload 8, 2) := by decide +kernel
theorem dL_law_660 : decode cL_law 660 = .ok (.iconst 1, 1) := by decide +kernel
theorem dL_law_661 : decode cL_law 661 = .ok (.iadd, 1) := by decide +kernel
theorem dL_law_662 : decode cL_law 662 = .ok (.imul, 1) := by decide +kernel
theorem dL_law_663 : decode cL_law 663 = .ok (.if_icmp .le 5, 3) := by decide +kernel
theorem dL_law_666 : decode cL_law 666 = .ok (.iconst 0, 1) := by decide +kernel
theorem dL_law_667 : decode cL_law 667 = .ok (.ireturn, 1) := by decide +kernel
theorem dL_law_668 : decode cL_law 668 = .ok (.aload_n 1, 1) := by decide +kernel
theorem dL_law_669 : decode cL_law 669 = .ok (.iload 19, 2) := by decide +kernel
theorem dL_law_671 : decode cL_law 671 = .ok (.iload 20, 2) := by decide +kernel
theorem dL_law_673 : decode cL_law 673 = .ok (.bipush 6, 2) := by decide +kernel
theorem dL_law_675 : decode cL_law 675 = .ok (.invokevirtual 91, 3) := by decide +kernel
theorem dL_law_678 : decode cL_law 678 = .ok (.bipush 40, 2) := by decide +kernel
theorem dL_law_680 : decode cL_law 680 = .ok (.if_icmp .ge 6, 3) := by decide +kernel
theorem dL_law_683 : decode cL_law 683 = .ok (.goto 53, 3) := by decide +kernel
theorem dL_law_686 : decode cL_law 686 = .ok (.aload_n 1, 1) := by decide +kernel
theorem dL_law_687 : decode cL_law 687 = .ok (.iload 19, 2) := by decide +kernel
theorem dL_law_689 : decode cL_law 689 = .ok (.iload 20, 2) := by decide +kernel
theorem dL_law_691 : decode cL_law 691 = .ok (.invokevirtual 100, 3) := by decide +kernel
theorem dL_law_694 : decode cL_law 694 = .ok (.istore 25, 2) := by decide +kernel
theorem dL_law_696 : decode cL_law 696 = .ok (.iload 7, 2) := by decide +kernel
theorem dL_law_698 : decode cL_law 698 = .ok (.iload 25, 2) := by decide +kernel
theorem dL_law_700 : decode cL_law 700 = .ok (.iadd, 1) := by decide +kernel
theorem dL_law_701 : decode cL_law 701 = .ok (.istore 7, 2) := by decide +kernel
theorem dL_law_703 : decode cL_law 703 = .ok (.iinc 6 1, 3) := by decide +kernel
theorem dL_law_706 : decode cL_law 706 = .ok (.iload 25, 2) := by decide +kernel
theorem dL_law_708 : decode cL_law 708 = .ok (.ifCond .lt 26, 3) := by decide +kernel
theorem dL_law_711 : decode cL_law 711 = .ok (.iload 25, 2) := by decide +kernel
theorem dL_law_713 : decode cL_law 713 = .ok (.aload_n 1, 1) := by decide +kernel
theorem dL_law_714 : decode cL_law 714 = .ok (.bipush 6, 2) := by decide +kernel
theorem dL_law_716 : decode cL_law 716 = .ok (.invokevirtual 88, 3) := by decide +kernel
theorem dL_law_719 : decode cL_law 719 = .ok (.if_icmp .gt 15, 3) := by decide +kernel
