/-! decode rows of the law -/
theorem d_law_490 : decode code 490 = .ok (.ireturn, 1) := by decide +kernel
theorem d_law_491 : decode code 491 = .ok (.aload_n 1, 1) := by decide +kernel
theorem d_law_492 : decode code 492 = .ok (.aload_n 0, 1) := by decide +kernel
theorem d_law_493 : decode code 493 = .ok (.iload_n 3, 1) := by decide +kernel
theorem d_law_494 : decode code 494 = .ok (.iconst 1, 1) := by decide +kernel
theorem d_law_495 : decode code 495 = .ok (.iadd, 1) := by decide +kernel
theorem d_law_496 : decode code 496 = .ok (.iaload, 1) := by decide +kernel
theorem d_law_497 : decode code 497 = .ok (.invokevirtual 72, 3) := by decide +kernel
theorem d_law_500 : decode code 500 = .ok (.aload_n 2, 1) := by decide +kernel
theorem d_law_501 : decode code 501 = .ok (.aload_n 0, 1) := by decide +kernel
theorem d_law_502 : decode code 502 = .ok (.iload_n 3, 1) := by decide +kernel
theorem d_law_503 : decode code 503 = .ok (.iconst 1, 1) := by decide +kernel
theorem d_law_504 : decode code 504 = .ok (.iadd, 1) := by decide +kernel
theorem d_law_505 : decode code 505 = .ok (.iaload, 1) := by decide +kernel
theorem d_law_506 : decode code 506 = .ok (.invokevirtual 75, 3) := by decide +kernel
theorem d_law_509 : decode code 509 = .ok (.if_icmp .eq 150, 3) := by decide +kernel
theorem d_law_512 : decode code 512 = .ok (.iconst 0, 1) := by decide +kernel
theorem d_law_513 : decode code 513 = .ok (.ireturn, 1) := by decide +kernel
theorem d_law_514 : decode code 514 = .ok (.aload_n 1, 1) := by decide +kernel
theorem d_law_515 : decode code 515 = .ok (.invokevirtual 76, 3) := by decide +kernel
theorem d_law_518 : decode code 518 = .ok (.aload_n 2, 1) := by decide +kernel
theorem d_law_519 : decode code 519 = .ok (.invokevirtual 79, 3) := by decide +kernel
theorem d_law_522 : decode code 522 = .ok (.if_icmp .eq 137, 3) := by decide +kernel
theorem d_law_525 : decode code 525 = .ok (.iconst 0, 1) := by decide +kernel
theorem d_law_526 : decode code 526 = .ok (.ireturn, 1) := by decide +kernel
theorem d_law_527 : decode code 527 = .ok (.aload_n 1, 1) := by decide +kernel
theorem d_law_528 : decode code 528 = .ok (.aload_n 0, 1) := by decide +kernel
theorem d_law_529 : decode code 529 = .ok (.iload_n 3, 1) := by decide +kernel
theorem d_law_530 : decode code 530 = .ok (.iconst 1, 1) := by decide +kernel
theorem d_law_531 : decode code 531 = .ok (.iadd, 1) := by decide +kernel
theorem d_law_532 : decode code 532 = .ok (.iaload, 1) := by decide +kernel
theorem d_law_533 : decode code 533 = .ok (.invokevirtual 80, 3) := by decide +kernel
theorem d_law_536 : decode code 536 = .ok (.aload_n 2, 1) := by decide +kernel
theorem d_law_537 : decode code 537 = .ok (.aload_n 0, 1) := by decide +kernel
theorem d_law_538 : decode code 538 = .ok (.iload_n 3, 1) := by decide +kernel
theorem d_law_539 : decode code 539 = .ok (.iconst 1, 1) := by decide +kernel
theorem d_law_540 : decode code 540 = .ok (.iadd, 1) := by decide +kernel
theorem d_law_541 : decode code 541 = .ok (.iaload, 1) := by decide +kernel
theorem d_law_542 : decode code 542 = .ok (.invokevirtual 83, 3) := by decide +kernel
theorem d_law_545 : decode code 545 = .ok (.if_icmp .eq 114, 3) := by decide +kernel
theorem d_law_548 : decode code 548 = .ok (.iconst 0, 1) := by decide +kernel
theorem d_law_549 : decode code 549 = .ok (.ireturn, 1) := by decide +kernel
theorem d_law_550 : decode code 550 = .ok (.aload_n 1, 1) := by decide +kernel
theorem d_law_551 : decode code 551 = .ok (.invokevirtual 84, 3) := by decide +kernel
theorem d_law_554 : decode code 554 = .ok (.aload_n 2, 1) := by decide +kernel
theorem d_law_555 : decode code 555 = .ok (.invokevirtual 88, 3) := by decide +kernel
theorem d_law_558 : decode code 558 = .ok (.if_icmp .eq 101, 3) := by decide +kernel
theorem d_law_561 : decode code 561 = .ok (.iconst 0, 1) := by decide +kernel
theorem d_law_562 : decode code 562 = .ok (.ireturn, 1) := by decide +kernel
theorem d_law_563 : decode code 563 = .ok (.aload_n 1, 1) := by decide +kernel
