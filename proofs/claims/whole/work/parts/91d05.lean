/-! the law, decoded: by program (gen_law.py) -/
theorem dl_550 : decode code 550 = .ok (.iaload, 1) := by decide +kernel
theorem dl_551 : decode code 551 = .ok (.invokevirtual 73, 3) := by decide +kernel
theorem dl_554 : decode code 554 = .ok (.aload_n 2, 1) := by decide +kernel
theorem dl_555 : decode code 555 = .ok (.aload_n 0, 1) := by decide +kernel
theorem dl_556 : decode code 556 = .ok (.iload_n 3, 1) := by decide +kernel
theorem dl_557 : decode code 557 = .ok (.iconst 1, 1) := by decide +kernel
theorem dl_558 : decode code 558 = .ok (.iadd, 1) := by decide +kernel
theorem dl_559 : decode code 559 = .ok (.iaload, 1) := by decide +kernel
theorem dl_560 : decode code 560 = .ok (.aload_n 0, 1) := by decide +kernel
theorem dl_561 : decode code 561 = .ok (.iload_n 3, 1) := by decide +kernel
theorem dl_562 : decode code 562 = .ok (.iconst 2, 1) := by decide +kernel
theorem dl_563 : decode code 563 = .ok (.iadd, 1) := by decide +kernel
theorem dl_564 : decode code 564 = .ok (.iaload, 1) := by decide +kernel
theorem dl_565 : decode code 565 = .ok (.invokevirtual 76, 3) := by decide +kernel
theorem dl_568 : decode code 568 = .ok (.if_icmp .eq 527, 3) := by decide +kernel
theorem dl_571 : decode code 571 = .ok (.iconst 0, 1) := by decide +kernel
theorem dl_572 : decode code 572 = .ok (.ireturn, 1) := by decide +kernel
theorem dl_573 : decode code 573 = .ok (.aload_n 1, 1) := by decide +kernel
theorem dl_574 : decode code 574 = .ok (.invokevirtual 77, 3) := by decide +kernel
theorem dl_577 : decode code 577 = .ok (.aload_n 2, 1) := by decide +kernel
theorem dl_578 : decode code 578 = .ok (.invokevirtual 80, 3) := by decide +kernel
theorem dl_581 : decode code 581 = .ok (.if_icmp .eq 514, 3) := by decide +kernel
theorem dl_584 : decode code 584 = .ok (.iconst 0, 1) := by decide +kernel
theorem dl_585 : decode code 585 = .ok (.ireturn, 1) := by decide +kernel
theorem dl_586 : decode code 586 = .ok (.aload_n 1, 1) := by decide +kernel
theorem dl_587 : decode code 587 = .ok (.aload_n 0, 1) := by decide +kernel
theorem dl_588 : decode code 588 = .ok (.iload_n 3, 1) := by decide +kernel
theorem dl_589 : decode code 589 = .ok (.iconst 1, 1) := by decide +kernel
theorem dl_590 : decode code 590 = .ok (.iadd, 1) := by decide +kernel
theorem dl_591 : decode code 591 = .ok (.iaload, 1) := by decide +kernel
theorem dl_592 : decode code 592 = .ok (.invokevirtual 81, 3) := by decide +kernel
theorem dl_595 : decode code 595 = .ok (.aload_n 2, 1) := by decide +kernel
theorem dl_596 : decode code 596 = .ok (.aload_n 0, 1) := by decide +kernel
theorem dl_597 : decode code 597 = .ok (.iload_n 3, 1) := by decide +kernel
theorem dl_598 : decode code 598 = .ok (.iconst 1, 1) := by decide +kernel
theorem dl_599 : decode code 599 = .ok (.iadd, 1) := by decide +kernel
theorem dl_600 : decode code 600 = .ok (.iaload, 1) := by decide +kernel
theorem dl_601 : decode code 601 = .ok (.invokevirtual 84, 3) := by decide +kernel
theorem dl_604 : decode code 604 = .ok (.if_icmp .eq 491, 3) := by decide +kernel
theorem dl_607 : decode code 607 = .ok (.iconst 0, 1) := by decide +kernel
theorem dl_608 : decode code 608 = .ok (.ireturn, 1) := by decide +kernel
theorem dl_609 : decode code 609 = .ok (.aload_n 1, 1) := by decide +kernel
theorem dl_610 : decode code 610 = .ok (.aload_n 0, 1) := by decide +kernel
theorem dl_611 : decode code 611 = .ok (.iload_n 3, 1) := by decide +kernel
theorem dl_612 : decode code 612 = .ok (.iconst 1, 1) := by decide +kernel
theorem dl_613 : decode code 613 = .ok (.iadd, 1) := by decide +kernel
theorem dl_614 : decode code 614 = .ok (.iaload, 1) := by decide +kernel
theorem dl_615 : decode code 615 = .ok (.invokevirtual 85, 3) := by decide +kernel
theorem dl_618 : decode code 618 = .ok (.aload_n 2, 1) := by decide +kernel
theorem dl_619 : decode code 619 = .ok (.aload_n 0, 1) := by decide +kernel
theorem dl_620 : decode code 620 = .ok (.iload_n 3, 1) := by decide +kernel
theorem dl_621 : decode code 621 = .ok (.iconst 1, 1) := by decide +kernel
theorem dl_622 : decode code 622 = .ok (.iadd, 1) := by decide +kernel
theorem dl_623 : decode code 623 = .ok (.iaload, 1) := by decide +kernel
theorem dl_624 : decode code 624 = .ok (.invokevirtual 88, 3) := by decide +kernel
theorem dl_627 : decode code 627 = .ok (.if_icmp .eq 468, 3) := by decide +kernel
theorem dl_630 : decode code 630 = .ok (.iconst 0, 1) := by decide +kernel
theorem dl_631 : decode code 631 = .ok (.ireturn, 1) := by decide +kernel
theorem dl_632 : decode code 632 = .ok (.aload_n 1, 1) := by decide +kernel
theorem dl_633 : decode code 633 = .ok (.aload_n 0, 1) := by decide +kernel
