/-! decode rows of the law (written by wip/whole/mk_law2.py) -/
theorem d_Law_law_712 : decode code 712 = .ok (.iconst 0, 1) := by decide +kernel
theorem d_Law_law_713 : decode code 713 = .ok (.ireturn, 1) := by decide +kernel
theorem d_Law_law_714 : decode code 714 = .ok (.goto 127, 3) := by decide +kernel
theorem d_Law_law_717 : decode code 717 = .ok (.aload_n 1, 1) := by decide +kernel
theorem d_Law_law_718 : decode code 718 = .ok (.aload_n 0, 1) := by decide +kernel
theorem d_Law_law_719 : decode code 719 = .ok (.iload 4, 2) := by decide +kernel
theorem d_Law_law_721 : decode code 721 = .ok (.iconst 1, 1) := by decide +kernel
theorem d_Law_law_722 : decode code 722 = .ok (.iadd, 1) := by decide +kernel
theorem d_Law_law_723 : decode code 723 = .ok (.iaload, 1) := by decide +kernel
theorem d_Law_law_724 : decode code 724 = .ok (.aload_n 3, 1) := by decide +kernel
theorem d_Law_law_725 : decode code 725 = .ok (.invokestatic 107, 3) := by decide +kernel
theorem d_Law_law_728 : decode code 728 = .ok (.istore 5, 2) := by decide +kernel
theorem d_Law_law_730 : decode code 730 = .ok (.aload_n 2, 1) := by decide +kernel
theorem d_Law_law_731 : decode code 731 = .ok (.aload_n 0, 1) := by decide +kernel
theorem d_Law_law_732 : decode code 732 = .ok (.iload 4, 2) := by decide +kernel
theorem d_Law_law_734 : decode code 734 = .ok (.iconst 1, 1) := by decide +kernel
theorem d_Law_law_735 : decode code 735 = .ok (.iadd, 1) := by decide +kernel
theorem d_Law_law_736 : decode code 736 = .ok (.iaload, 1) := by decide +kernel
theorem d_Law_law_737 : decode code 737 = .ok (.invokevirtual 109, 3) := by decide +kernel
theorem d_Law_law_740 : decode code 740 = .ok (.lstore 6, 2) := by decide +kernel
theorem d_Law_law_742 : decode code 742 = .ok (.aload_n 2, 1) := by decide +kernel
theorem d_Law_law_743 : decode code 743 = .ok (.invokevirtual 69, 3) := by decide +kernel
theorem d_Law_law_746 : decode code 746 = .ok (.iload 5, 2) := by decide +kernel
theorem d_Law_law_748 : decode code 748 = .ok (.if_icmp .eq 5, 3) := by decide +kernel
theorem d_Law_law_751 : decode code 751 = .ok (.iconst 0, 1) := by decide +kernel
theorem d_Law_law_752 : decode code 752 = .ok (.ireturn, 1) := by decide +kernel
theorem d_Law_law_753 : decode code 753 = .ok (.iload 5, 2) := by decide +kernel
theorem d_Law_law_755 : decode code 755 = .ok (.ifCond .ne 14, 3) := by decide +kernel
theorem d_Law_law_758 : decode code 758 = .ok (.aload_n 3, 1) := by decide +kernel
theorem d_Law_law_759 : decode code 759 = .ok (.iconst 0, 1) := by decide +kernel
theorem d_Law_law_760 : decode code 760 = .ok (.laload, 1) := by decide +kernel
theorem d_Law_law_761 : decode code 761 = .ok (.lload 6, 2) := by decide +kernel
theorem d_Law_law_763 : decode code 763 = .ok (.lcmp, 1) := by decide +kernel
theorem d_Law_law_764 : decode code 764 = .ok (.ifCond .eq 5, 3) := by decide +kernel
theorem d_Law_law_767 : decode code 767 = .ok (.iconst 0, 1) := by decide +kernel
theorem d_Law_law_768 : decode code 768 = .ok (.ireturn, 1) := by decide +kernel
theorem d_Law_law_769 : decode code 769 = .ok (.goto 72, 3) := by decide +kernel
theorem d_Law_law_772 : decode code 772 = .ok (.aload_n 1, 1) := by decide +kernel
theorem d_Law_law_773 : decode code 773 = .ok (.aload_n 0, 1) := by decide +kernel
theorem d_Law_law_774 : decode code 774 = .ok (.iload 4, 2) := by decide +kernel
theorem d_Law_law_776 : decode code 776 = .ok (.iconst 1, 1) := by decide +kernel
theorem d_Law_law_777 : decode code 777 = .ok (.iadd, 1) := by decide +kernel
theorem d_Law_law_778 : decode code 778 = .ok (.iaload, 1) := by decide +kernel
theorem d_Law_law_779 : decode code 779 = .ok (.aload_n 3, 1) := by decide +kernel
theorem d_Law_law_780 : decode code 780 = .ok (.invokestatic 110, 3) := by decide +kernel
theorem d_Law_law_783 : decode code 783 = .ok (.istore 5, 2) := by decide +kernel
theorem d_Law_law_785 : decode code 785 = .ok (.aload_n 2, 1) := by decide +kernel
theorem d_Law_law_786 : decode code 786 = .ok (.aload_n 0, 1) := by decide +kernel
theorem d_Law_law_787 : decode code 787 = .ok (.iload 4, 2) := by decide +kernel
theorem d_Law_law_789 : decode code 789 = .ok (.iconst 1, 1) := by decide +kernel
theorem d_Law_law_790 : decode code 790 = .ok (.iadd, 1) := by decide +kernel
theorem d_Law_law_791 : decode code 791 = .ok (.iaload, 1) := by decide +kernel
theorem d_Law_law_792 : decode code 792 = .ok (.invokevirtual 112, 3) := by decide +kernel
theorem d_Law_law_795 : decode code 795 = .ok (.istore 6, 2) := by decide +kernel
theorem d_Law_law_797 : decode code 797 = .ok (.aload_n 2, 1) := by decide +kernel
theorem d_Law_law_798 : decode code 798 = .ok (.invokevirtual 69, 3) := by decide +kernel
theorem d_Law_law_801 : decode code 801 = .ok (.iload 5, 2) := by decide +kernel
theorem d_Law_law_803 : decode code 803 = .ok (.if_icmp .eq 5, 3) := by decide +kernel
theorem d_Law_law_806 : decode code 806 = .ok (.iconst 0, 1) := by decide +kernel
theorem d_Law_law_807 : decode code 807 = .ok (.ireturn, 1) := by decide +kernel
theorem d_Law_law_808 : decode code 808 = .ok (.iload 5, 2) := by decide +kernel
theorem d_Law_law_810 : decode code 810 = .ok (.ifCond .ne 15, 3) := by decide +kernel
theorem d_Law_law_813 : decode code 813 = .ok (.aload_n 3, 1) := by decide +kernel
theorem d_Law_law_814 : decode code 814 = .ok (.iconst 0, 1) := by decide +kernel
theorem d_Law_law_815 : decode code 815 = .ok (.laload, 1) := by decide +kernel
theorem d_Law_law_816 : decode code 816 = .ok (.iload 6, 2) := by decide +kernel
theorem d_Law_law_818 : decode code 818 = .ok (.i2l, 1) := by decide +kernel
theorem d_Law_law_819 : decode code 819 = .ok (.lcmp, 1) := by decide +kernel
theorem d_Law_law_820 : decode code 820 = .ok (.ifCond .eq 5, 3) := by decide +kernel
theorem d_Law_law_823 : decode code 823 = .ok (.iconst 0, 1) := by decide +kernel
theorem d_Law_law_824 : decode code 824 = .ok (.ireturn, 1) := by decide +kernel
theorem d_Law_law_825 : decode code 825 = .ok (.goto 16, 3) := by decide +kernel
theorem d_Law_law_828 : decode code 828 = .ok (.aload_n 1, 1) := by decide +kernel
theorem d_Law_law_829 : decode code 829 = .ok (.invokevirtual 113, 3) := by decide +kernel
theorem d_Law_law_832 : decode code 832 = .ok (.aload_n 2, 1) := by decide +kernel
theorem d_Law_law_833 : decode code 833 = .ok (.invokevirtual 116, 3) := by decide +kernel
theorem d_Law_law_836 : decode code 836 = .ok (.if_icmp .eq 5, 3) := by decide +kernel
theorem d_Law_law_839 : decode code 839 = .ok (.iconst 0, 1) := by decide +kernel
theorem d_Law_law_840 : decode code 840 = .ok (.ireturn, 1) := by decide +kernel
theorem d_Law_law_841 : decode code 841 = .ok (.iinc 4 4, 3) := by decide +kernel
theorem d_Law_law_844 : decode code 844 = .ok (.goto (-821), 3) := by decide +kernel
theorem d_Law_law_847 : decode code 847 = .ok (.iconst 1, 1) := by decide +kernel
theorem d_Law_law_848 : decode code 848 = .ok (.ireturn, 1) := by decide +kernel
