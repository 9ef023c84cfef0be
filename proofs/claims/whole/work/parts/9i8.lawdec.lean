/-! decode rows of the law -/
theorem d_law_564 : decode code 564 = .ok (.invokevirtual 89, 3) := by decide +kernel
theorem d_law_567 : decode code 567 = .ok (.aload_n 2, 1) := by decide +kernel
theorem d_law_568 : decode code 568 = .ok (.invokevirtual 92, 3) := by decide +kernel
theorem d_law_571 : decode code 571 = .ok (.if_icmp .eq 88, 3) := by decide +kernel
theorem d_law_574 : decode code 574 = .ok (.iconst 0, 1) := by decide +kernel
theorem d_law_575 : decode code 575 = .ok (.ireturn, 1) := by decide +kernel
theorem d_law_576 : decode code 576 = .ok (.aload_n 1, 1) := by decide +kernel
theorem d_law_577 : decode code 577 = .ok (.aload_n 0, 1) := by decide +kernel
theorem d_law_578 : decode code 578 = .ok (.iload_n 3, 1) := by decide +kernel
theorem d_law_579 : decode code 579 = .ok (.iconst 1, 1) := by decide +kernel
theorem d_law_580 : decode code 580 = .ok (.iadd, 1) := by decide +kernel
theorem d_law_581 : decode code 581 = .ok (.iaload, 1) := by decide +kernel
theorem d_law_582 : decode code 582 = .ok (.aload_n 0, 1) := by decide +kernel
theorem d_law_583 : decode code 583 = .ok (.iload_n 3, 1) := by decide +kernel
theorem d_law_584 : decode code 584 = .ok (.iconst 2, 1) := by decide +kernel
theorem d_law_585 : decode code 585 = .ok (.iadd, 1) := by decide +kernel
theorem d_law_586 : decode code 586 = .ok (.iaload, 1) := by decide +kernel
theorem d_law_587 : decode code 587 = .ok (.invokevirtual 93, 3) := by decide +kernel
theorem d_law_590 : decode code 590 = .ok (.aload_n 2, 1) := by decide +kernel
theorem d_law_591 : decode code 591 = .ok (.aload_n 0, 1) := by decide +kernel
theorem d_law_592 : decode code 592 = .ok (.iload_n 3, 1) := by decide +kernel
theorem d_law_593 : decode code 593 = .ok (.iconst 1, 1) := by decide +kernel
theorem d_law_594 : decode code 594 = .ok (.iadd, 1) := by decide +kernel
theorem d_law_595 : decode code 595 = .ok (.iaload, 1) := by decide +kernel
theorem d_law_596 : decode code 596 = .ok (.aload_n 0, 1) := by decide +kernel
theorem d_law_597 : decode code 597 = .ok (.iload_n 3, 1) := by decide +kernel
theorem d_law_598 : decode code 598 = .ok (.iconst 2, 1) := by decide +kernel
theorem d_law_599 : decode code 599 = .ok (.iadd, 1) := by decide +kernel
theorem d_law_600 : decode code 600 = .ok (.iaload, 1) := by decide +kernel
theorem d_law_601 : decode code 601 = .ok (.invokevirtual 97, 3) := by decide +kernel
theorem d_law_604 : decode code 604 = .ok (.if_icmp .eq 55, 3) := by decide +kernel
theorem d_law_607 : decode code 607 = .ok (.iconst 0, 1) := by decide +kernel
theorem d_law_608 : decode code 608 = .ok (.ireturn, 1) := by decide +kernel
theorem d_law_609 : decode code 609 = .ok (.aload_n 1, 1) := by decide +kernel
theorem d_law_610 : decode code 610 = .ok (.invokevirtual 98, 3) := by decide +kernel
theorem d_law_613 : decode code 613 = .ok (.aload_n 2, 1) := by decide +kernel
theorem d_law_614 : decode code 614 = .ok (.invokevirtual 102, 3) := by decide +kernel
theorem d_law_617 : decode code 617 = .ok (.lcmp, 1) := by decide +kernel
theorem d_law_618 : decode code 618 = .ok (.ifCond .eq 41, 3) := by decide +kernel
theorem d_law_621 : decode code 621 = .ok (.iconst 0, 1) := by decide +kernel
theorem d_law_622 : decode code 622 = .ok (.ireturn, 1) := by decide +kernel
theorem d_law_623 : decode code 623 = .ok (.aload_n 1, 1) := by decide +kernel
theorem d_law_624 : decode code 624 = .ok (.aload_n 0, 1) := by decide +kernel
theorem d_law_625 : decode code 625 = .ok (.iload_n 3, 1) := by decide +kernel
theorem d_law_626 : decode code 626 = .ok (.iconst 1, 1) := by decide +kernel
theorem d_law_627 : decode code 627 = .ok (.iadd, 1) := by decide +kernel
theorem d_law_628 : decode code 628 = .ok (.iaload, 1) := by decide +kernel
theorem d_law_629 : decode code 629 = .ok (.invokevirtual 103, 3) := by decide +kernel
theorem d_law_632 : decode code 632 = .ok (.aload_n 2, 1) := by decide +kernel
theorem d_law_633 : decode code 633 = .ok (.aload_n 0, 1) := by decide +kernel
