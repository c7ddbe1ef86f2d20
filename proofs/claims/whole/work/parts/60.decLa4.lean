theorem d_La_law_548 : decode code 548 = .ok (.if_icmp .eq 383, 3) := by decide +kernel
theorem d_La_law_551 : decode code 551 = .ok (.iconst 0, 1) := by decide +kernel
theorem d_La_law_552 : decode code 552 = .ok (.ireturn, 1) := by decide +kernel
theorem d_La_law_553 : decode code 553 = .ok (.aload_n 1, 1) := by decide +kernel
theorem d_La_law_554 : decode code 554 = .ok (.aload_n 0, 1) := by decide +kernel
theorem d_La_law_555 : decode code 555 = .ok (.iload_n 3, 1) := by decide +kernel
theorem d_La_law_556 : decode code 556 = .ok (.iconst 1, 1) := by decide +kernel
theorem d_La_law_557 : decode code 557 = .ok (.iadd, 1) := by decide +kernel
theorem d_La_law_558 : decode code 558 = .ok (.iaload, 1) := by decide +kernel
theorem d_La_law_559 : decode code 559 = .ok (.aload_n 0, 1) := by decide +kernel
theorem d_La_law_560 : decode code 560 = .ok (.iload_n 3, 1) := by decide +kernel
theorem d_La_law_561 : decode code 561 = .ok (.iconst 2, 1) := by decide +kernel
theorem d_La_law_562 : decode code 562 = .ok (.iadd, 1) := by decide +kernel
theorem d_La_law_563 : decode code 563 = .ok (.iaload, 1) := by decide +kernel
theorem d_La_law_564 : decode code 564 = .ok (.invokevirtual 69, 3) := by decide +kernel
theorem d_La_law_567 : decode code 567 = .ok (.aload_n 2, 1) := by decide +kernel
theorem d_La_law_568 : decode code 568 = .ok (.aload_n 0, 1) := by decide +kernel
theorem d_La_law_569 : decode code 569 = .ok (.iload_n 3, 1) := by decide +kernel
theorem d_La_law_570 : decode code 570 = .ok (.iconst 1, 1) := by decide +kernel
theorem d_La_law_571 : decode code 571 = .ok (.iadd, 1) := by decide +kernel
theorem d_La_law_572 : decode code 572 = .ok (.iaload, 1) := by decide +kernel
theorem d_La_law_573 : decode code 573 = .ok (.aload_n 0, 1) := by decide +kernel
theorem d_La_law_574 : decode code 574 = .ok (.iload_n 3, 1) := by decide +kernel
theorem d_La_law_575 : decode code 575 = .ok (.iconst 2, 1) := by decide +kernel
theorem d_La_law_576 : decode code 576 = .ok (.iadd, 1) := by decide +kernel
theorem d_La_law_577 : decode code 577 = .ok (.iaload, 1) := by decide +kernel
theorem d_La_law_578 : decode code 578 = .ok (.invokevirtual 72, 3) := by decide +kernel
theorem d_La_law_581 : decode code 581 = .ok (.if_icmp .eq 350, 3) := by decide +kernel
theorem d_La_law_584 : decode code 584 = .ok (.iconst 0, 1) := by decide +kernel
theorem d_La_law_585 : decode code 585 = .ok (.ireturn, 1) := by decide +kernel
theorem d_La_law_586 : decode code 586 = .ok (.aload_n 1, 1) := by decide +kernel
theorem d_La_law_587 : decode code 587 = .ok (.aload_n 0, 1) := by decide +kernel
theorem d_La_law_588 : decode code 588 = .ok (.iload_n 3, 1) := by decide +kernel
theorem d_La_law_589 : decode code 589 = .ok (.iconst 1, 1) := by decide +kernel
theorem d_La_law_590 : decode code 590 = .ok (.iadd, 1) := by decide +kernel
theorem d_La_law_591 : decode code 591 = .ok (.iaload, 1) := by decide +kernel
theorem d_La_law_592 : decode code 592 = .ok (.invokevirtual 73, 3) := by decide +kernel
theorem d_La_law_595 : decode code 595 = .ok (.aload_n 2, 1) := by decide +kernel
theorem d_La_law_596 : decode code 596 = .ok (.aload_n 0, 1) := by decide +kernel
theorem d_La_law_597 : decode code 597 = .ok (.iload_n 3, 1) := by decide +kernel
theorem d_La_law_598 : decode code 598 = .ok (.iconst 1, 1) := by decide +kernel
theorem d_La_law_599 : decode code 599 = .ok (.iadd, 1) := by decide +kernel
theorem d_La_law_600 : decode code 600 = .ok (.iaload, 1) := by decide +kernel
theorem d_La_law_601 : decode code 601 = .ok (.invokevirtual 76, 3) := by decide +kernel
theorem d_La_law_604 : decode code 604 = .ok (.if_icmp .eq 327, 3) := by decide +kernel
theorem d_La_law_607 : decode code 607 = .ok (.iconst 0, 1) := by decide +kernel
theorem d_La_law_608 : decode code 608 = .ok (.ireturn, 1) := by decide +kernel
theorem d_La_law_609 : decode code 609 = .ok (.aload_n 1, 1) := by decide +kernel
theorem d_La_law_610 : decode code 610 = .ok (.aload_n 0, 1) := by decide +kernel
theorem d_La_law_611 : decode code 611 = .ok (.iload_n 3, 1) := by decide +kernel
theorem d_La_law_612 : decode code 612 = .ok (.iconst 1, 1) := by decide +kernel
theorem d_La_law_613 : decode code 613 = .ok (.iadd, 1) := by decide +kernel
theorem d_La_law_614 : decode code 614 = .ok (.iaload, 1) := by decide +kernel
theorem d_La_law_615 : decode code 615 = .ok (.invokevirtual 77, 3) := by decide +kernel
theorem d_La_law_618 : decode code 618 = .ok (.aload_n 2, 1) := by decide +kernel
theorem d_La_law_619 : decode code 619 = .ok (.aload_n 0, 1) := by decide +kernel
theorem d_La_law_620 : decode code 620 = .ok (.iload_n 3, 1) := by decide +kernel
theorem d_La_law_621 : decode code 621 = .ok (.iconst 1, 1) := by decide +kernel
theorem d_La_law_622 : decode code 622 = .ok (.iadd, 1) := by decide +kernel
theorem d_La_law_623 : decode code 623 = .ok (.iaload, 1) := by decide +kernel
theorem d_La_law_624 : decode code 624 = .ok (.invokevirtual 80, 3) := by decide +kernel
theorem d_La_law_627 : decode code 627 = .ok (.if_icmp .eq 304, 3) := by decide +kernel
theorem d_La_law_630 : decode code 630 = .ok (.iconst 0, 1) := by decide +kernel
theorem d_La_law_631 : decode code 631 = .ok (.ireturn, 1) := by decide +kernel
theorem d_La_law_632 : decode code 632 = .ok (.aload_n 1, 1) := by decide +kernel
theorem d_La_law_633 : decode code 633 = .ok (.aload_n 0, 1) := by decide +kernel
theorem d_La_law_634 : decode code 634 = .ok (.iload_n 3, 1) := by decide +kernel
theorem d_La_law_635 : decode code 635 = .ok (.iconst 1, 1) := by decide +kernel
theorem d_La_law_636 : decode code 636 = .ok (.iadd, 1) := by decide +kernel
theorem d_La_law_637 : decode code 637 = .ok (.iaload, 1) := by decide +kernel
theorem d_La_law_638 : decode code 638 = .ok (.invokevirtual 81, 3) := by decide +kernel
theorem d_La_law_641 : decode code 641 = .ok (.aload_n 2, 1) := by decide +kernel
theorem d_La_law_642 : decode code 642 = .ok (.aload_n 0, 1) := by decide +kernel
theorem d_La_law_643 : decode code 643 = .ok (.iload_n 3, 1) := by decide +kernel
theorem d_La_law_644 : decode code 644 = .ok (.iconst 1, 1) := by decide +kernel
theorem d_La_law_645 : decode code 645 = .ok (.iadd, 1) := by decide +kernel
theorem d_La_law_646 : decode code 646 = .ok (.iaload, 1) := by decide +kernel
theorem d_La_law_647 : decode code 647 = .ok (.invokevirtual 84, 3) := by decide +kernel
theorem d_La_law_650 : decode code 650 = .ok (.if_icmp .eq 281, 3) := by decide +kernel
theorem d_La_law_653 : decode code 653 = .ok (.iconst 0, 1) := by decide +kernel
theorem d_La_law_654 : decode code 654 = .ok (.ireturn, 1) := by decide +kernel
theorem d_La_law_655 : decode code 655 = .ok (.aload_n 1, 1) := by decide +kernel
theorem d_La_law_656 : decode code 656 = .ok (.invokevirtual 85, 3) := by decide +kernel
theorem d_La_law_659 : decode code 659 = .ok (.aload_n 2, 1) := by decide +kernel
theorem d_La_law_660 : decode code 660 = .ok (.invokevirtual 88, 3) := by decide +kernel
theorem d_La_law_663 : decode code 663 = .ok (.if_icmp .eq 268, 3) := by decide +kernel
theorem d_La_law_666 : decode code 666 = .ok (.iconst 0, 1) := by decide +kernel
theorem d_La_law_667 : decode code 667 = .ok (.ireturn, 1) := by decide +kernel
theorem d_La_law_668 : decode code 668 = .ok (.aload_n 1, 1) := by decide +kernel
theorem d_La_law_669 : decode code 669 = .ok (.invokevirtual 89, 3) := by decide +kernel
theorem d_La_law_672 : decode code 672 = .ok (.aload_n 2, 1) := by decide +kernel
theorem d_La_law_673 : decode code 673 = .ok (.invokevirtual 92, 3) := by decide +kernel
theorem d_La_law_676 : decode code 676 = .ok (.if_icmp .eq 255, 3) := by decide +kernel
theorem d_La_law_679 : decode code 679 = .ok (.iconst 0, 1) := by decide +kernel
theorem d_La_law_680 : decode code 680 = .ok (.ireturn, 1) := by decide +kernel
theorem d_La_law_681 : decode code 681 = .ok (.aload_n 1, 1) := by decide +kernel
theorem d_La_law_682 : decode code 682 = .ok (.aload_n 0, 1) := by decide +kernel
theorem d_La_law_683 : decode code 683 = .ok (.iload_n 3, 1) := by decide +kernel
theorem d_La_law_684 : decode code 684 = .ok (.iconst 1, 1) := by decide +kernel
theorem d_La_law_685 : decode code 685 = .ok (.iadd, 1) := by decide +kernel
theorem d_La_law_686 : decode code 686 = .ok (.iaload, 1) := by decide +kernel
theorem d_La_law_687 : decode code 687 = .ok (.invokevirtual 93, 3) := by decide +kernel
theorem d_La_law_690 : decode code 690 = .ok (.aload_n 2, 1) := by decide +kernel
theorem d_La_law_691 : decode code 691 = .ok (.aload_n 0, 1) := by decide +kernel
theorem d_La_law_692 : decode code 692 = .ok (.iload_n 3, 1) := by decide +kernel
theorem d_La_law_693 : decode code 693 = .ok (.iconst 1, 1) := by decide +kernel
theorem d_La_law_694 : decode code 694 = .ok (.iadd, 1) := by decide +kernel
theorem d_La_law_695 : decode code 695 = .ok (.iaload, 1) := by decide +kernel
theorem d_La_law_696 : decode code 696 = .ok (.invokevirtual 96, 3) := by decide +kernel
theorem d_La_law_699 : decode code 699 = .ok (.if_icmp .eq 232, 3) := by decide +kernel
