theorem d_lw_545 : decode code 545 = .ok (.if_icmp .eq 5, 3) := by decide +kernel
theorem d_lw_548 : decode code 548 = .ok (.iconst 0, 1) := by decide +kernel
theorem d_lw_549 : decode code 549 = .ok (.ireturn, 1) := by decide +kernel
theorem d_lw_550 : decode code 550 = .ok (.iload 5, 2) := by decide +kernel
theorem d_lw_552 : decode code 552 = .ok (.ifCond .ne 15, 3) := by decide +kernel
theorem d_lw_555 : decode code 555 = .ok (.aload_n 3, 1) := by decide +kernel
theorem d_lw_556 : decode code 556 = .ok (.iconst 0, 1) := by decide +kernel
theorem d_lw_557 : decode code 557 = .ok (.laload, 1) := by decide +kernel
theorem d_lw_558 : decode code 558 = .ok (.iload 6, 2) := by decide +kernel
theorem d_lw_560 : decode code 560 = .ok (.i2l, 1) := by decide +kernel
theorem d_lw_561 : decode code 561 = .ok (.lcmp, 1) := by decide +kernel
theorem d_lw_562 : decode code 562 = .ok (.ifCond .eq 5, 3) := by decide +kernel
theorem d_lw_565 : decode code 565 = .ok (.iconst 0, 1) := by decide +kernel
theorem d_lw_566 : decode code 566 = .ok (.ireturn, 1) := by decide +kernel
theorem d_lw_567 : decode code 567 = .ok (.goto 629, 3) := by decide +kernel
theorem d_lw_570 : decode code 570 = .ok (.aload_n 1, 1) := by decide +kernel
theorem d_lw_571 : decode code 571 = .ok (.aload_n 0, 1) := by decide +kernel
theorem d_lw_572 : decode code 572 = .ok (.iload 4, 2) := by decide +kernel
theorem d_lw_574 : decode code 574 = .ok (.iconst 1, 1) := by decide +kernel
theorem d_lw_575 : decode code 575 = .ok (.iadd, 1) := by decide +kernel
theorem d_lw_576 : decode code 576 = .ok (.iaload, 1) := by decide +kernel
theorem d_lw_577 : decode code 577 = .ok (.aload_n 0, 1) := by decide +kernel
theorem d_lw_578 : decode code 578 = .ok (.iload 4, 2) := by decide +kernel
theorem d_lw_580 : decode code 580 = .ok (.iconst 2, 1) := by decide +kernel
theorem d_lw_581 : decode code 581 = .ok (.iadd, 1) := by decide +kernel
theorem d_lw_582 : decode code 582 = .ok (.iaload, 1) := by decide +kernel
theorem d_lw_583 : decode code 583 = .ok (.aload_n 3, 1) := by decide +kernel
theorem d_lw_584 : decode code 584 = .ok (.invokestatic 83, 3) := by decide +kernel
theorem d_lw_587 : decode code 587 = .ok (.istore 5, 2) := by decide +kernel
theorem d_lw_589 : decode code 589 = .ok (.aload_n 2, 1) := by decide +kernel
theorem d_lw_590 : decode code 590 = .ok (.aload_n 0, 1) := by decide +kernel
theorem d_lw_591 : decode code 591 = .ok (.iload 4, 2) := by decide +kernel
theorem d_lw_593 : decode code 593 = .ok (.iconst 1, 1) := by decide +kernel
theorem d_lw_594 : decode code 594 = .ok (.iadd, 1) := by decide +kernel
theorem d_lw_595 : decode code 595 = .ok (.iaload, 1) := by decide +kernel
theorem d_lw_596 : decode code 596 = .ok (.aload_n 0, 1) := by decide +kernel
theorem d_lw_597 : decode code 597 = .ok (.iload 4, 2) := by decide +kernel
theorem d_lw_599 : decode code 599 = .ok (.iconst 2, 1) := by decide +kernel
theorem d_lw_600 : decode code 600 = .ok (.iadd, 1) := by decide +kernel
theorem d_lw_601 : decode code 601 = .ok (.iaload, 1) := by decide +kernel
theorem d_lw_602 : decode code 602 = .ok (.invokevirtual 86, 3) := by decide +kernel
theorem d_lw_605 : decode code 605 = .ok (.istore 6, 2) := by decide +kernel
theorem d_lw_607 : decode code 607 = .ok (.aload_n 2, 1) := by decide +kernel
theorem d_lw_608 : decode code 608 = .ok (.invokevirtual 67, 3) := by decide +kernel
theorem d_lw_611 : decode code 611 = .ok (.iload 5, 2) := by decide +kernel
theorem d_lw_613 : decode code 613 = .ok (.if_icmp .eq 5, 3) := by decide +kernel
theorem d_lw_616 : decode code 616 = .ok (.iconst 0, 1) := by decide +kernel
theorem d_lw_617 : decode code 617 = .ok (.ireturn, 1) := by decide +kernel
theorem d_lw_618 : decode code 618 = .ok (.iload 5, 2) := by decide +kernel
theorem d_lw_620 : decode code 620 = .ok (.ifCond .ne 15, 3) := by decide +kernel
theorem d_lw_623 : decode code 623 = .ok (.aload_n 3, 1) := by decide +kernel
theorem d_lw_624 : decode code 624 = .ok (.iconst 0, 1) := by decide +kernel
theorem d_lw_625 : decode code 625 = .ok (.laload, 1) := by decide +kernel
theorem d_lw_626 : decode code 626 = .ok (.iload 6, 2) := by decide +kernel
theorem d_lw_628 : decode code 628 = .ok (.i2l, 1) := by decide +kernel
theorem d_lw_629 : decode code 629 = .ok (.lcmp, 1) := by decide +kernel
theorem d_lw_630 : decode code 630 = .ok (.ifCond .eq 5, 3) := by decide +kernel
theorem d_lw_633 : decode code 633 = .ok (.iconst 0, 1) := by decide +kernel
theorem d_lw_634 : decode code 634 = .ok (.ireturn, 1) := by decide +kernel
theorem d_lw_635 : decode code 635 = .ok (.goto 561, 3) := by decide +kernel
theorem d_lw_638 : decode code 638 = .ok (.aload_n 1, 1) := by decide +kernel
theorem d_lw_639 : decode code 639 = .ok (.aload_n 0, 1) := by decide +kernel
theorem d_lw_640 : decode code 640 = .ok (.iload 4, 2) := by decide +kernel
theorem d_lw_642 : decode code 642 = .ok (.iconst 1, 1) := by decide +kernel
theorem d_lw_643 : decode code 643 = .ok (.iadd, 1) := by decide +kernel
theorem d_lw_644 : decode code 644 = .ok (.iaload, 1) := by decide +kernel
theorem d_lw_645 : decode code 645 = .ok (.aload_n 0, 1) := by decide +kernel
theorem d_lw_646 : decode code 646 = .ok (.iload 4, 2) := by decide +kernel
theorem d_lw_648 : decode code 648 = .ok (.iconst 2, 1) := by decide +kernel
theorem d_lw_649 : decode code 649 = .ok (.iadd, 1) := by decide +kernel
theorem d_lw_650 : decode code 650 = .ok (.iaload, 1) := by decide +kernel
theorem d_lw_651 : decode code 651 = .ok (.aload_n 3, 1) := by decide +kernel
theorem d_lw_652 : decode code 652 = .ok (.invokestatic 87, 3) := by decide +kernel
theorem d_lw_655 : decode code 655 = .ok (.istore 5, 2) := by decide +kernel
theorem d_lw_657 : decode code 657 = .ok (.aload_n 2, 1) := by decide +kernel
theorem d_lw_658 : decode code 658 = .ok (.aload_n 0, 1) := by decide +kernel
theorem d_lw_659 : decode code 659 = .ok (.iload 4, 2) := by decide +kernel
theorem d_lw_661 : decode code 661 = .ok (.iconst 1, 1) := by decide +kernel
theorem d_lw_662 : decode code 662 = .ok (.iadd, 1) := by decide +kernel
theorem d_lw_663 : decode code 663 = .ok (.iaload, 1) := by decide +kernel
theorem d_lw_664 : decode code 664 = .ok (.aload_n 0, 1) := by decide +kernel
theorem d_lw_665 : decode code 665 = .ok (.iload 4, 2) := by decide +kernel
theorem d_lw_667 : decode code 667 = .ok (.iconst 2, 1) := by decide +kernel
theorem d_lw_668 : decode code 668 = .ok (.iadd, 1) := by decide +kernel
theorem d_lw_669 : decode code 669 = .ok (.iaload, 1) := by decide +kernel
theorem d_lw_670 : decode code 670 = .ok (.invokevirtual 89, 3) := by decide +kernel
theorem d_lw_673 : decode code 673 = .ok (.istore 6, 2) := by decide +kernel
theorem d_lw_675 : decode code 675 = .ok (.aload_n 2, 1) := by decide +kernel
theorem d_lw_676 : decode code 676 = .ok (.invokevirtual 67, 3) := by decide +kernel
theorem d_lw_679 : decode code 679 = .ok (.iload 5, 2) := by decide +kernel
theorem d_lw_681 : decode code 681 = .ok (.if_icmp .eq 5, 3) := by decide +kernel
theorem d_lw_684 : decode code 684 = .ok (.iconst 0, 1) := by decide +kernel
theorem d_lw_685 : decode code 685 = .ok (.ireturn, 1) := by decide +kernel
theorem d_lw_686 : decode code 686 = .ok (.iload 5, 2) := by decide +kernel
theorem d_lw_688 : decode code 688 = .ok (.ifCond .ne 15, 3) := by decide +kernel
theorem d_lw_691 : decode code 691 = .ok (.aload_n 3, 1) := by decide +kernel
theorem d_lw_692 : decode code 692 = .ok (.iconst 0, 1) := by decide +kernel
theorem d_lw_693 : decode code 693 = .ok (.laload, 1) := by decide +kernel
theorem d_lw_694 : decode code 694 = .ok (.iload 6, 2) := by decide +kernel
theorem d_lw_696 : decode code 696 = .ok (.i2l, 1) := by decide +kernel
