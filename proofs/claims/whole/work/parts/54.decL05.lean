theorem d_law_460 : decode code 460 = .ok (.iload_n 3, 1) := by decide +kernel
theorem d_law_461 : decode code 461 = .ok (.iconst 2, 1) := by decide +kernel
theorem d_law_462 : decode code 462 = .ok (.iadd, 1) := by decide +kernel
theorem d_law_463 : decode code 463 = .ok (.iaload, 1) := by decide +kernel
theorem d_law_464 : decode code 464 = .ok (.aload_n 0, 1) := by decide +kernel
theorem d_law_465 : decode code 465 = .ok (.iload_n 3, 1) := by decide +kernel
theorem d_law_466 : decode code 466 = .ok (.iconst 3, 1) := by decide +kernel
theorem d_law_467 : decode code 467 = .ok (.iadd, 1) := by decide +kernel
theorem d_law_468 : decode code 468 = .ok (.iaload, 1) := by decide +kernel
theorem d_law_469 : decode code 469 = .ok (.invokevirtual 46, 3) := by decide +kernel
theorem d_law_472 : decode code 472 = .ok (.if_icmp .eq 378, 3) := by decide +kernel
theorem d_law_475 : decode code 475 = .ok (.iconst 0, 1) := by decide +kernel
theorem d_law_476 : decode code 476 = .ok (.ireturn, 1) := by decide +kernel
theorem d_law_477 : decode code 477 = .ok (.aload_n 1, 1) := by decide +kernel
theorem d_law_478 : decode code 478 = .ok (.aload_n 0, 1) := by decide +kernel
theorem d_law_479 : decode code 479 = .ok (.iload_n 3, 1) := by decide +kernel
theorem d_law_480 : decode code 480 = .ok (.iconst 1, 1) := by decide +kernel
theorem d_law_481 : decode code 481 = .ok (.iadd, 1) := by decide +kernel
theorem d_law_482 : decode code 482 = .ok (.iaload, 1) := by decide +kernel
theorem d_law_483 : decode code 483 = .ok (.aload_n 0, 1) := by decide +kernel
theorem d_law_484 : decode code 484 = .ok (.iload_n 3, 1) := by decide +kernel
theorem d_law_485 : decode code 485 = .ok (.iconst 2, 1) := by decide +kernel
theorem d_law_486 : decode code 486 = .ok (.iadd, 1) := by decide +kernel
theorem d_law_487 : decode code 487 = .ok (.iaload, 1) := by decide +kernel
theorem d_law_488 : decode code 488 = .ok (.aload_n 0, 1) := by decide +kernel
theorem d_law_489 : decode code 489 = .ok (.iload_n 3, 1) := by decide +kernel
theorem d_law_490 : decode code 490 = .ok (.iconst 3, 1) := by decide +kernel
theorem d_law_491 : decode code 491 = .ok (.iadd, 1) := by decide +kernel
theorem d_law_492 : decode code 492 = .ok (.iaload, 1) := by decide +kernel
theorem d_law_493 : decode code 493 = .ok (.aload_n 0, 1) := by decide +kernel
theorem d_law_494 : decode code 494 = .ok (.iload_n 3, 1) := by decide +kernel
theorem d_law_495 : decode code 495 = .ok (.iconst 4, 1) := by decide +kernel
theorem d_law_496 : decode code 496 = .ok (.iadd, 1) := by decide +kernel
theorem d_law_497 : decode code 497 = .ok (.iaload, 1) := by decide +kernel
theorem d_law_498 : decode code 498 = .ok (.invokevirtual 47, 3) := by decide +kernel
theorem d_law_501 : decode code 501 = .ok (.aload_n 2, 1) := by decide +kernel
theorem d_law_502 : decode code 502 = .ok (.aload_n 0, 1) := by decide +kernel
theorem d_law_503 : decode code 503 = .ok (.iload_n 3, 1) := by decide +kernel
theorem d_law_504 : decode code 504 = .ok (.iconst 1, 1) := by decide +kernel
theorem d_law_505 : decode code 505 = .ok (.iadd, 1) := by decide +kernel
theorem d_law_506 : decode code 506 = .ok (.iaload, 1) := by decide +kernel
theorem d_law_507 : decode code 507 = .ok (.aload_n 0, 1) := by decide +kernel
theorem d_law_508 : decode code 508 = .ok (.iload_n 3, 1) := by decide +kernel
theorem d_law_509 : decode code 509 = .ok (.iconst 2, 1) := by decide +kernel
theorem d_law_510 : decode code 510 = .ok (.iadd, 1) := by decide +kernel
theorem d_law_511 : decode code 511 = .ok (.iaload, 1) := by decide +kernel
theorem d_law_512 : decode code 512 = .ok (.aload_n 0, 1) := by decide +kernel
theorem d_law_513 : decode code 513 = .ok (.iload_n 3, 1) := by decide +kernel
theorem d_law_514 : decode code 514 = .ok (.iconst 3, 1) := by decide +kernel
theorem d_law_515 : decode code 515 = .ok (.iadd, 1) := by decide +kernel
theorem d_law_516 : decode code 516 = .ok (.iaload, 1) := by decide +kernel
theorem d_law_517 : decode code 517 = .ok (.aload_n 0, 1) := by decide +kernel
theorem d_law_518 : decode code 518 = .ok (.iload_n 3, 1) := by decide +kernel
theorem d_law_519 : decode code 519 = .ok (.iconst 4, 1) := by decide +kernel
theorem d_law_520 : decode code 520 = .ok (.iadd, 1) := by decide +kernel
theorem d_law_521 : decode code 521 = .ok (.iaload, 1) := by decide +kernel
theorem d_law_522 : decode code 522 = .ok (.invokevirtual 50, 3) := by decide +kernel
theorem d_law_525 : decode code 525 = .ok (.if_icmp .eq 325, 3) := by decide +kernel
theorem d_law_528 : decode code 528 = .ok (.iconst 0, 1) := by decide +kernel
theorem d_law_529 : decode code 529 = .ok (.ireturn, 1) := by decide +kernel
