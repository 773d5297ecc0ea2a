theorem d_lw_697 : decode code 697 = .ok (.lcmp, 1) := by decide +kernel
theorem d_lw_698 : decode code 698 = .ok (.ifCond .eq 5, 3) := by decide +kernel
theorem d_lw_701 : decode code 701 = .ok (.iconst 0, 1) := by decide +kernel
theorem d_lw_702 : decode code 702 = .ok (.ireturn, 1) := by decide +kernel
theorem d_lw_703 : decode code 703 = .ok (.goto 493, 3) := by decide +kernel
theorem d_lw_706 : decode code 706 = .ok (.aload_n 1, 1) := by decide +kernel
theorem d_lw_707 : decode code 707 = .ok (.aload_n 0, 1) := by decide +kernel
theorem d_lw_708 : decode code 708 = .ok (.iload 4, 2) := by decide +kernel
theorem d_lw_710 : decode code 710 = .ok (.iconst 1, 1) := by decide +kernel
theorem d_lw_711 : decode code 711 = .ok (.iadd, 1) := by decide +kernel
theorem d_lw_712 : decode code 712 = .ok (.iaload, 1) := by decide +kernel
theorem d_lw_713 : decode code 713 = .ok (.aload_n 0, 1) := by decide +kernel
theorem d_lw_714 : decode code 714 = .ok (.iload 4, 2) := by decide +kernel
theorem d_lw_716 : decode code 716 = .ok (.iconst 2, 1) := by decide +kernel
theorem d_lw_717 : decode code 717 = .ok (.iadd, 1) := by decide +kernel
theorem d_lw_718 : decode code 718 = .ok (.iaload, 1) := by decide +kernel
theorem d_lw_719 : decode code 719 = .ok (.invokevirtual 90, 3) := by decide +kernel
theorem d_lw_722 : decode code 722 = .ok (.aload_n 2, 1) := by decide +kernel
theorem d_lw_723 : decode code 723 = .ok (.aload_n 0, 1) := by decide +kernel
theorem d_lw_724 : decode code 724 = .ok (.iload 4, 2) := by decide +kernel
theorem d_lw_726 : decode code 726 = .ok (.iconst 1, 1) := by decide +kernel
theorem d_lw_727 : decode code 727 = .ok (.iadd, 1) := by decide +kernel
theorem d_lw_728 : decode code 728 = .ok (.iaload, 1) := by decide +kernel
theorem d_lw_729 : decode code 729 = .ok (.aload_n 0, 1) := by decide +kernel
theorem d_lw_730 : decode code 730 = .ok (.iload 4, 2) := by decide +kernel
theorem d_lw_732 : decode code 732 = .ok (.iconst 2, 1) := by decide +kernel
theorem d_lw_733 : decode code 733 = .ok (.iadd, 1) := by decide +kernel
theorem d_lw_734 : decode code 734 = .ok (.iaload, 1) := by decide +kernel
theorem d_lw_735 : decode code 735 = .ok (.invokevirtual 93, 3) := by decide +kernel
theorem d_lw_738 : decode code 738 = .ok (.if_icmp .eq 458, 3) := by decide +kernel
theorem d_lw_741 : decode code 741 = .ok (.iconst 0, 1) := by decide +kernel
theorem d_lw_742 : decode code 742 = .ok (.ireturn, 1) := by decide +kernel
theorem d_lw_743 : decode code 743 = .ok (.aload_n 1, 1) := by decide +kernel
theorem d_lw_744 : decode code 744 = .ok (.aload_n 0, 1) := by decide +kernel
theorem d_lw_745 : decode code 745 = .ok (.iload 4, 2) := by decide +kernel
theorem d_lw_747 : decode code 747 = .ok (.iconst 1, 1) := by decide +kernel
theorem d_lw_748 : decode code 748 = .ok (.iadd, 1) := by decide +kernel
theorem d_lw_749 : decode code 749 = .ok (.iaload, 1) := by decide +kernel
theorem d_lw_750 : decode code 750 = .ok (.invokevirtual 94, 3) := by decide +kernel
theorem d_lw_753 : decode code 753 = .ok (.aload_n 2, 1) := by decide +kernel
theorem d_lw_754 : decode code 754 = .ok (.aload_n 0, 1) := by decide +kernel
theorem d_lw_755 : decode code 755 = .ok (.iload 4, 2) := by decide +kernel
theorem d_lw_757 : decode code 757 = .ok (.iconst 1, 1) := by decide +kernel
theorem d_lw_758 : decode code 758 = .ok (.iadd, 1) := by decide +kernel
theorem d_lw_759 : decode code 759 = .ok (.iaload, 1) := by decide +kernel
theorem d_lw_760 : decode code 760 = .ok (.invokevirtual 98, 3) := by decide +kernel
theorem d_lw_763 : decode code 763 = .ok (.if_icmp .eq 433, 3) := by decide +kernel
theorem d_lw_766 : decode code 766 = .ok (.iconst 0, 1) := by decide +kernel
theorem d_lw_767 : decode code 767 = .ok (.ireturn, 1) := by decide +kernel
theorem d_lw_768 : decode code 768 = .ok (.aload_n 1, 1) := by decide +kernel
theorem d_lw_769 : decode code 769 = .ok (.aload_n 0, 1) := by decide +kernel
theorem d_lw_770 : decode code 770 = .ok (.iload 4, 2) := by decide +kernel
theorem d_lw_772 : decode code 772 = .ok (.iconst 1, 1) := by decide +kernel
theorem d_lw_773 : decode code 773 = .ok (.iadd, 1) := by decide +kernel
theorem d_lw_774 : decode code 774 = .ok (.iaload, 1) := by decide +kernel
theorem d_lw_775 : decode code 775 = .ok (.invokevirtual 99, 3) := by decide +kernel
theorem d_lw_778 : decode code 778 = .ok (.aload_n 2, 1) := by decide +kernel
theorem d_lw_779 : decode code 779 = .ok (.aload_n 0, 1) := by decide +kernel
theorem d_lw_780 : decode code 780 = .ok (.iload 4, 2) := by decide +kernel
theorem d_lw_782 : decode code 782 = .ok (.iconst 1, 1) := by decide +kernel
theorem d_lw_783 : decode code 783 = .ok (.iadd, 1) := by decide +kernel
theorem d_lw_784 : decode code 784 = .ok (.iaload, 1) := by decide +kernel
theorem d_lw_785 : decode code 785 = .ok (.invokevirtual 102, 3) := by decide +kernel
theorem d_lw_788 : decode code 788 = .ok (.if_icmp .eq 408, 3) := by decide +kernel
theorem d_lw_791 : decode code 791 = .ok (.iconst 0, 1) := by decide +kernel
theorem d_lw_792 : decode code 792 = .ok (.ireturn, 1) := by decide +kernel
theorem d_lw_793 : decode code 793 = .ok (.aload_n 1, 1) := by decide +kernel
theorem d_lw_794 : decode code 794 = .ok (.aload_n 0, 1) := by decide +kernel
theorem d_lw_795 : decode code 795 = .ok (.iload 4, 2) := by decide +kernel
theorem d_lw_797 : decode code 797 = .ok (.iconst 1, 1) := by decide +kernel
theorem d_lw_798 : decode code 798 = .ok (.iadd, 1) := by decide +kernel
theorem d_lw_799 : decode code 799 = .ok (.iaload, 1) := by decide +kernel
theorem d_lw_800 : decode code 800 = .ok (.invokevirtual 103, 3) := by decide +kernel
theorem d_lw_803 : decode code 803 = .ok (.aload_n 2, 1) := by decide +kernel
theorem d_lw_804 : decode code 804 = .ok (.aload_n 0, 1) := by decide +kernel
theorem d_lw_805 : decode code 805 = .ok (.iload 4, 2) := by decide +kernel
theorem d_lw_807 : decode code 807 = .ok (.iconst 1, 1) := by decide +kernel
theorem d_lw_808 : decode code 808 = .ok (.iadd, 1) := by decide +kernel
theorem d_lw_809 : decode code 809 = .ok (.iaload, 1) := by decide +kernel
theorem d_lw_810 : decode code 810 = .ok (.invokevirtual 106, 3) := by decide +kernel
theorem d_lw_813 : decode code 813 = .ok (.if_icmp .eq 383, 3) := by decide +kernel
theorem d_lw_816 : decode code 816 = .ok (.iconst 0, 1) := by decide +kernel
theorem d_lw_817 : decode code 817 = .ok (.ireturn, 1) := by decide +kernel
theorem d_lw_818 : decode code 818 = .ok (.aload_n 1, 1) := by decide +kernel
theorem d_lw_819 : decode code 819 = .ok (.aload_n 0, 1) := by decide +kernel
theorem d_lw_820 : decode code 820 = .ok (.iload 4, 2) := by decide +kernel
theorem d_lw_822 : decode code 822 = .ok (.iconst 1, 1) := by decide +kernel
theorem d_lw_823 : decode code 823 = .ok (.iadd, 1) := by decide +kernel
theorem d_lw_824 : decode code 824 = .ok (.iaload, 1) := by decide +kernel
theorem d_lw_825 : decode code 825 = .ok (.aload_n 0, 1) := by decide +kernel
theorem d_lw_826 : decode code 826 = .ok (.iload 4, 2) := by decide +kernel
theorem d_lw_828 : decode code 828 = .ok (.iconst 2, 1) := by decide +kernel
theorem d_lw_829 : decode code 829 = .ok (.iadd, 1) := by decide +kernel
theorem d_lw_830 : decode code 830 = .ok (.iaload, 1) := by decide +kernel
theorem d_lw_831 : decode code 831 = .ok (.aload_n 0, 1) := by decide +kernel
theorem d_lw_832 : decode code 832 = .ok (.iload 4, 2) := by decide +kernel
theorem d_lw_834 : decode code 834 = .ok (.iconst 3, 1) := by decide +kernel
theorem d_lw_835 : decode code 835 = .ok (.iadd, 1) := by decide +kernel
theorem d_lw_836 : decode code 836 = .ok (.iaload, 1) := by decide +kernel
theorem d_lw_837 : decode code 837 = .ok (.i2l, 1) := by decide +kernel
