theorem dL_wires_550 : decode cL_wires 550 = .ok (.bipush (-5), 2) := by decide +kernel
theorem dL_wires_552 : decode cL_wires 552 = .ok (.if_icmp .ne 112, 3) := by decide +kernel
theorem dL_wires_555 : decode cL_wires 555 = .ok (.aload_n 0, 1) := by decide +kernel
theorem dL_wires_556 : decode cL_wires 556 = .ok (.iconst 3, 1) := by decide +kernel
theorem dL_wires_557 : decode cL_wires 557 = .ok (.bipush 120, 2) := by decide +kernel
theorem dL_wires_559 : decode cL_wires 559 = .ok (.invokevirtual 41, 3) := by decide +kernel
theorem dL_wires_562 : decode cL_wires 562 = .ok (.bipush (-4), 2) := by decide +kernel
theorem dL_wires_564 : decode cL_wires 564 = .ok (.if_icmp .ne 100, 3) := by decide +kernel
theorem dL_wires_567 : decode cL_wires 567 = .ok (.aload_n 0, 1) := by decide +kernel
theorem dL_wires_568 : decode cL_wires 568 = .ok (.iconst 0, 1) := by decide +kernel
theorem dL_wires_569 : decode cL_wires 569 = .ok (.sipush 600, 3) := by decide +kernel
theorem dL_wires_572 : decode cL_wires 572 = .ok (.invokevirtual 41, 3) := by decide +kernel
theorem dL_wires_575 : decode cL_wires 575 = .ok (.ifCond .ne 89, 3) := by decide +kernel
theorem dL_wires_578 : decode cL_wires 578 = .ok (.aload_n 0, 1) := by decide +kernel
theorem dL_wires_579 : decode cL_wires 579 = .ok (.iconst 0, 1) := by decide +kernel
theorem dL_wires_580 : decode cL_wires 580 = .ok (.sipush 600, 3) := by decide +kernel
theorem dL_wires_583 : decode cL_wires 583 = .ok (.invokevirtual 41, 3) := by decide +kernel
theorem dL_wires_586 : decode cL_wires 586 = .ok (.bipush (-5), 2) := by decide +kernel
theorem dL_wires_588 : decode cL_wires 588 = .ok (.if_icmp .ne 76, 3) := by decide +kernel
theorem dL_wires_591 : decode cL_wires 591 = .ok (.aload_n 0, 1) := by decide +kernel
theorem dL_wires_592 : decode cL_wires 592 = .ok (.bipush 9, 2) := by decide +kernel
theorem dL_wires_594 : decode cL_wires 594 = .ok (.invokevirtual 13, 3) := by decide +kernel
theorem dL_wires_597 : decode cL_wires 597 = .ok (.iconst 1, 1) := by decide +kernel
theorem dL_wires_598 : decode cL_wires 598 = .ok (.if_icmp .ne 66, 3) := by decide +kernel
theorem dL_wires_601 : decode cL_wires 601 = .ok (.aload_n 0, 1) := by decide +kernel
theorem dL_wires_602 : decode cL_wires 602 = .ok (.iconst 2, 1) := by decide +kernel
theorem dL_wires_603 : decode cL_wires 603 = .ok (.bipush 97, 2) := by decide +kernel
theorem dL_wires_605 : decode cL_wires 605 = .ok (.invokevirtual 50, 3) := by decide +kernel
theorem dL_wires_608 : decode cL_wires 608 = .ok (.iconst 1, 1) := by decide +kernel
theorem dL_wires_609 : decode cL_wires 609 = .ok (.if_icmp .ne 55, 3) := by decide +kernel
theorem dL_wires_612 : decode cL_wires 612 = .ok (.aload_n 0, 1) := by decide +kernel
theorem dL_wires_613 : decode cL_wires 613 = .ok (.iconst 1, 1) := by decide +kernel
theorem dL_wires_614 : decode cL_wires 614 = .ok (.iconst 0, 1) := by decide +kernel
theorem dL_wires_615 : decode cL_wires 615 = .ok (.invokevirtual 19, 3) := by decide +kernel
theorem dL_wires_618 : decode cL_wires 618 = .ok (.iconst (-1), 1) := by decide +kernel
theorem dL_wires_619 : decode cL_wires 619 = .ok (.if_icmp .ne 45, 3) := by decide +kernel
theorem dL_wires_622 : decode cL_wires 622 = .ok (.aload_n 0, 1) := by decide +kernel
theorem dL_wires_623 : decode cL_wires 623 = .ok (.iconst 2, 1) := by decide +kernel
theorem dL_wires_624 : decode cL_wires 624 = .ok (.iconst 2, 1) := by decide +kernel
theorem dL_wires_625 : decode cL_wires 625 = .ok (.invokevirtual 19, 3) := by decide +kernel
theorem dL_wires_628 : decode cL_wires 628 = .ok (.bipush 98, 2) := by decide +kernel
theorem dL_wires_630 : decode cL_wires 630 = .ok (.if_icmp .ne 34, 3) := by decide +kernel
theorem dL_wires_633 : decode cL_wires 633 = .ok (.aload_n 0, 1) := by decide +kernel
theorem dL_wires_634 : decode cL_wires 634 = .ok (.iconst 5, 1) := by decide +kernel
theorem dL_wires_635 : decode cL_wires 635 = .ok (.bipush 40, 2) := by decide +kernel
theorem dL_wires_637 : decode cL_wires 637 = .ok (.invokevirtual 50, 3) := by decide +kernel
theorem dL_wires_640 : decode cL_wires 640 = .ok (.ifCond .ne 24, 3) := by decide +kernel
theorem dL_wires_643 : decode cL_wires 643 = .ok (.aload_n 0, 1) := by decide +kernel
theorem dL_wires_644 : decode cL_wires 644 = .ok (.iconst 2, 1) := by decide +kernel
theorem dL_wires_645 : decode cL_wires 645 = .ok (.iconst 2, 1) := by decide +kernel
theorem dL_wires_646 : decode cL_wires 646 = .ok (.invokevirtual 19, 3) := by decide +kernel
theorem dL_wires_649 : decode cL_wires 649 = .ok (.bipush 94, 2) := by decide +kernel
theorem dL_wires_651 : decode cL_wires 651 = .ok (.if_icmp .ne 13, 3) := by decide +kernel
theorem dL_wires_654 : decode cL_wires 654 = .ok (.aload_n 0, 1) := by decide +kernel
theorem dL_wires_655 : decode cL_wires 655 = .ok (.bipush 10, 2) := by decide +kernel
theorem dL_wires_657 : decode cL_wires 657 = .ok (.invokevirtual 26, 3) := by decide +kernel
theorem dL_wires_660 : decode cL_wires 660 = .ok (.iconst 4, 1) := by decide +kernel
theorem dL_wires_661 : decode cL_wires 661 = .ok (.if_icmp .eq 5, 3) := by decide +kernel
theorem dL_wires_664 : decode cL_wires 664 = .ok (.iconst 0, 1) := by decide +kernel
theorem dL_wires_665 : decode cL_wires 665 = .ok (.ireturn, 1) := by decide +kernel
theorem dL_wires_666 : decode cL_wires 666 = .ok (.iconst 3, 1) := by decide +kernel
theorem dL_wires_667 : decode cL_wires 667 = .ok (.istore_n 1, 1) := by decide +kernel
theorem dL_wires_668 : decode cL_wires 668 = .ok (.iload_n 1, 1) := by decide +kernel
theorem dL_wires_669 : decode cL_wires 669 = .ok (.bipush 7, 2) := by decide +kernel
theorem dL_wires_671 : decode cL_wires 671 = .ok (.if_icmp .ge 24, 3) := by decide +kernel
theorem dL_wires_674 : decode cL_wires 674 = .ok (.aload_n 0, 1) := by decide +kernel
theorem dL_wires_675 : decode cL_wires 675 = .ok (.iload_n 1, 1) := by decide +kernel
theorem dL_wires_676 : decode cL_wires 676 = .ok (.iload_n 1, 1) := by decide +kernel
theorem dL_wires_677 : decode cL_wires 677 = .ok (.iconst 3, 1) := by decide +kernel
theorem dL_wires_678 : decode cL_wires 678 = .ok (.iadd, 1) := by decide +kernel
