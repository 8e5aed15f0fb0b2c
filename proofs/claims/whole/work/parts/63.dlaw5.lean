/-! decode rows of the law (written by wip/whole/mk_law2.py) -/
theorem d_Law_law_575 : decode code 575 = .ok (.invokevirtual 69, 3) := by decide +kernel
theorem d_Law_law_578 : decode code 578 = .ok (.iload 5, 2) := by decide +kernel
theorem d_Law_law_580 : decode code 580 = .ok (.if_icmp .eq 5, 3) := by decide +kernel
theorem d_Law_law_583 : decode code 583 = .ok (.iconst 0, 1) := by decide +kernel
theorem d_Law_law_584 : decode code 584 = .ok (.ireturn, 1) := by decide +kernel
theorem d_Law_law_585 : decode code 585 = .ok (.iload 5, 2) := by decide +kernel
theorem d_Law_law_587 : decode code 587 = .ok (.ifCond .ne 15, 3) := by decide +kernel
theorem d_Law_law_590 : decode code 590 = .ok (.aload_n 3, 1) := by decide +kernel
theorem d_Law_law_591 : decode code 591 = .ok (.iconst 0, 1) := by decide +kernel
theorem d_Law_law_592 : decode code 592 = .ok (.laload, 1) := by decide +kernel
theorem d_Law_law_593 : decode code 593 = .ok (.iload 6, 2) := by decide +kernel
theorem d_Law_law_595 : decode code 595 = .ok (.i2l, 1) := by decide +kernel
theorem d_Law_law_596 : decode code 596 = .ok (.lcmp, 1) := by decide +kernel
theorem d_Law_law_597 : decode code 597 = .ok (.ifCond .eq 5, 3) := by decide +kernel
theorem d_Law_law_600 : decode code 600 = .ok (.iconst 0, 1) := by decide +kernel
theorem d_Law_law_601 : decode code 601 = .ok (.ireturn, 1) := by decide +kernel
theorem d_Law_law_602 : decode code 602 = .ok (.goto 239, 3) := by decide +kernel
theorem d_Law_law_605 : decode code 605 = .ok (.aload_n 1, 1) := by decide +kernel
theorem d_Law_law_606 : decode code 606 = .ok (.aload_n 3, 1) := by decide +kernel
theorem d_Law_law_607 : decode code 607 = .ok (.invokestatic 100, 3) := by decide +kernel
theorem d_Law_law_610 : decode code 610 = .ok (.istore 5, 2) := by decide +kernel
theorem d_Law_law_612 : decode code 612 = .ok (.aload_n 2, 1) := by decide +kernel
theorem d_Law_law_613 : decode code 613 = .ok (.invokevirtual 103, 3) := by decide +kernel
theorem d_Law_law_616 : decode code 616 = .ok (.istore 6, 2) := by decide +kernel
theorem d_Law_law_618 : decode code 618 = .ok (.aload_n 2, 1) := by decide +kernel
theorem d_Law_law_619 : decode code 619 = .ok (.invokevirtual 69, 3) := by decide +kernel
theorem d_Law_law_622 : decode code 622 = .ok (.iload 5, 2) := by decide +kernel
theorem d_Law_law_624 : decode code 624 = .ok (.if_icmp .eq 5, 3) := by decide +kernel
theorem d_Law_law_627 : decode code 627 = .ok (.iconst 0, 1) := by decide +kernel
theorem d_Law_law_628 : decode code 628 = .ok (.ireturn, 1) := by decide +kernel
theorem d_Law_law_629 : decode code 629 = .ok (.iload 5, 2) := by decide +kernel
theorem d_Law_law_631 : decode code 631 = .ok (.ifCond .ne 15, 3) := by decide +kernel
theorem d_Law_law_634 : decode code 634 = .ok (.aload_n 3, 1) := by decide +kernel
theorem d_Law_law_635 : decode code 635 = .ok (.iconst 0, 1) := by decide +kernel
theorem d_Law_law_636 : decode code 636 = .ok (.laload, 1) := by decide +kernel
theorem d_Law_law_637 : decode code 637 = .ok (.iload 6, 2) := by decide +kernel
theorem d_Law_law_639 : decode code 639 = .ok (.i2l, 1) := by decide +kernel
theorem d_Law_law_640 : decode code 640 = .ok (.lcmp, 1) := by decide +kernel
theorem d_Law_law_641 : decode code 641 = .ok (.ifCond .eq 5, 3) := by decide +kernel
theorem d_Law_law_644 : decode code 644 = .ok (.iconst 0, 1) := by decide +kernel
theorem d_Law_law_645 : decode code 645 = .ok (.ireturn, 1) := by decide +kernel
theorem d_Law_law_646 : decode code 646 = .ok (.goto 195, 3) := by decide +kernel
theorem d_Law_law_649 : decode code 649 = .ok (.aload_n 1, 1) := by decide +kernel
theorem d_Law_law_650 : decode code 650 = .ok (.aload_n 0, 1) := by decide +kernel
theorem d_Law_law_651 : decode code 651 = .ok (.iload 4, 2) := by decide +kernel
theorem d_Law_law_653 : decode code 653 = .ok (.iconst 1, 1) := by decide +kernel
theorem d_Law_law_654 : decode code 654 = .ok (.iadd, 1) := by decide +kernel
theorem d_Law_law_655 : decode code 655 = .ok (.iaload, 1) := by decide +kernel
theorem d_Law_law_656 : decode code 656 = .ok (.aload_n 0, 1) := by decide +kernel
theorem d_Law_law_657 : decode code 657 = .ok (.iload 4, 2) := by decide +kernel
theorem d_Law_law_659 : decode code 659 = .ok (.iconst 2, 1) := by decide +kernel
theorem d_Law_law_660 : decode code 660 = .ok (.iadd, 1) := by decide +kernel
theorem d_Law_law_661 : decode code 661 = .ok (.iaload, 1) := by decide +kernel
theorem d_Law_law_662 : decode code 662 = .ok (.aload_n 3, 1) := by decide +kernel
theorem d_Law_law_663 : decode code 663 = .ok (.invokestatic 104, 3) := by decide +kernel
theorem d_Law_law_666 : decode code 666 = .ok (.istore 5, 2) := by decide +kernel
theorem d_Law_law_668 : decode code 668 = .ok (.aload_n 2, 1) := by decide +kernel
theorem d_Law_law_669 : decode code 669 = .ok (.aload_n 0, 1) := by decide +kernel
theorem d_Law_law_670 : decode code 670 = .ok (.iload 4, 2) := by decide +kernel
theorem d_Law_law_672 : decode code 672 = .ok (.iconst 1, 1) := by decide +kernel
theorem d_Law_law_673 : decode code 673 = .ok (.iadd, 1) := by decide +kernel
theorem d_Law_law_674 : decode code 674 = .ok (.iaload, 1) := by decide +kernel
theorem d_Law_law_675 : decode code 675 = .ok (.aload_n 0, 1) := by decide +kernel
theorem d_Law_law_676 : decode code 676 = .ok (.iload 4, 2) := by decide +kernel
theorem d_Law_law_678 : decode code 678 = .ok (.iconst 2, 1) := by decide +kernel
theorem d_Law_law_679 : decode code 679 = .ok (.iadd, 1) := by decide +kernel
theorem d_Law_law_680 : decode code 680 = .ok (.iaload, 1) := by decide +kernel
theorem d_Law_law_681 : decode code 681 = .ok (.invokevirtual 106, 3) := by decide +kernel
theorem d_Law_law_684 : decode code 684 = .ok (.istore 6, 2) := by decide +kernel
theorem d_Law_law_686 : decode code 686 = .ok (.aload_n 2, 1) := by decide +kernel
theorem d_Law_law_687 : decode code 687 = .ok (.invokevirtual 69, 3) := by decide +kernel
theorem d_Law_law_690 : decode code 690 = .ok (.iload 5, 2) := by decide +kernel
theorem d_Law_law_692 : decode code 692 = .ok (.if_icmp .eq 5, 3) := by decide +kernel
theorem d_Law_law_695 : decode code 695 = .ok (.iconst 0, 1) := by decide +kernel
theorem d_Law_law_696 : decode code 696 = .ok (.ireturn, 1) := by decide +kernel
theorem d_Law_law_697 : decode code 697 = .ok (.iload 5, 2) := by decide +kernel
theorem d_Law_law_699 : decode code 699 = .ok (.ifCond .ne 15, 3) := by decide +kernel
theorem d_Law_law_702 : decode code 702 = .ok (.aload_n 3, 1) := by decide +kernel
theorem d_Law_law_703 : decode code 703 = .ok (.iconst 0, 1) := by decide +kernel
theorem d_Law_law_704 : decode code 704 = .ok (.laload, 1) := by decide +kernel
theorem d_Law_law_705 : decode code 705 = .ok (.iload 6, 2) := by decide +kernel
theorem d_Law_law_707 : decode code 707 = .ok (.i2l, 1) := by decide +kernel
theorem d_Law_law_708 : decode code 708 = .ok (.lcmp, 1) := by decide +kernel
theorem d_Law_law_709 : decode code 709 = .ok (.ifCond .eq 5, 3) := by decide +kernel
