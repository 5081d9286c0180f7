/-! the law's instructions -/
theorem d_law_673 : decode code 673 = .ok (.aload_n 1, 1) := by decide +kernel
theorem d_law_674 : decode code 674 = .ok (.aload_n 0, 1) := by decide +kernel
theorem d_law_675 : decode code 675 = .ok (.iload 4, 2) := by decide +kernel
theorem d_law_677 : decode code 677 = .ok (.iconst 1, 1) := by decide +kernel
theorem d_law_678 : decode code 678 = .ok (.iadd, 1) := by decide +kernel
theorem d_law_679 : decode code 679 = .ok (.iaload, 1) := by decide +kernel
theorem d_law_680 : decode code 680 = .ok (.aload_n 0, 1) := by decide +kernel
theorem d_law_681 : decode code 681 = .ok (.iload 4, 2) := by decide +kernel
theorem d_law_683 : decode code 683 = .ok (.iconst 2, 1) := by decide +kernel
theorem d_law_684 : decode code 684 = .ok (.iadd, 1) := by decide +kernel
theorem d_law_685 : decode code 685 = .ok (.iaload, 1) := by decide +kernel
theorem d_law_686 : decode code 686 = .ok (.aload_n 0, 1) := by decide +kernel
theorem d_law_687 : decode code 687 = .ok (.iload 4, 2) := by decide +kernel
theorem d_law_689 : decode code 689 = .ok (.iconst 3, 1) := by decide +kernel
theorem d_law_690 : decode code 690 = .ok (.iadd, 1) := by decide +kernel
theorem d_law_691 : decode code 691 = .ok (.iaload, 1) := by decide +kernel
theorem d_law_692 : decode code 692 = .ok (.aload_n 3, 1) := by decide +kernel
theorem d_law_693 : decode code 693 = .ok (.invokestatic 117, 3) := by decide +kernel
theorem d_law_696 : decode code 696 = .ok (.istore 5, 2) := by decide +kernel
theorem d_law_698 : decode code 698 = .ok (.aload_n 2, 1) := by decide +kernel
theorem d_law_699 : decode code 699 = .ok (.aload_n 0, 1) := by decide +kernel
theorem d_law_700 : decode code 700 = .ok (.iload 4, 2) := by decide +kernel
theorem d_law_702 : decode code 702 = .ok (.iconst 1, 1) := by decide +kernel
theorem d_law_703 : decode code 703 = .ok (.iadd, 1) := by decide +kernel
theorem d_law_704 : decode code 704 = .ok (.iaload, 1) := by decide +kernel
theorem d_law_705 : decode code 705 = .ok (.aload_n 0, 1) := by decide +kernel
theorem d_law_706 : decode code 706 = .ok (.iload 4, 2) := by decide +kernel
theorem d_law_708 : decode code 708 = .ok (.iconst 2, 1) := by decide +kernel
theorem d_law_709 : decode code 709 = .ok (.iadd, 1) := by decide +kernel
theorem d_law_710 : decode code 710 = .ok (.iaload, 1) := by decide +kernel
theorem d_law_711 : decode code 711 = .ok (.aload_n 0, 1) := by decide +kernel
theorem d_law_712 : decode code 712 = .ok (.iload 4, 2) := by decide +kernel
theorem d_law_714 : decode code 714 = .ok (.iconst 3, 1) := by decide +kernel
theorem d_law_715 : decode code 715 = .ok (.iadd, 1) := by decide +kernel
theorem d_law_716 : decode code 716 = .ok (.iaload, 1) := by decide +kernel
theorem d_law_717 : decode code 717 = .ok (.invokevirtual 120, 3) := by decide +kernel
theorem d_law_720 : decode code 720 = .ok (.istore 6, 2) := by decide +kernel
theorem d_law_722 : decode code 722 = .ok (.aload_n 2, 1) := by decide +kernel
theorem d_law_723 : decode code 723 = .ok (.invokevirtual 85, 3) := by decide +kernel
theorem d_law_726 : decode code 726 = .ok (.iload 5, 2) := by decide +kernel
theorem d_law_728 : decode code 728 = .ok (.if_icmp .eq 5, 3) := by decide +kernel
theorem d_law_731 : decode code 731 = .ok (.iconst 0, 1) := by decide +kernel
theorem d_law_732 : decode code 732 = .ok (.ireturn, 1) := by decide +kernel
theorem d_law_733 : decode code 733 = .ok (.iload 5, 2) := by decide +kernel
theorem d_law_735 : decode code 735 = .ok (.ifCond .ne 22, 3) := by decide +kernel
theorem d_law_738 : decode code 738 = .ok (.aload_n 3, 1) := by decide +kernel
theorem d_law_739 : decode code 739 = .ok (.iconst 0, 1) := by decide +kernel
theorem d_law_740 : decode code 740 = .ok (.laload, 1) := by decide +kernel
theorem d_law_741 : decode code 741 = .ok (.iload 6, 2) := by decide +kernel
theorem d_law_743 : decode code 743 = .ok (.ifCond .eq 7, 3) := by decide +kernel
theorem d_law_746 : decode code 746 = .ok (.lconst 1, 1) := by decide +kernel
theorem d_law_747 : decode code 747 = .ok (.goto 4, 3) := by decide +kernel
theorem d_law_750 : decode code 750 = .ok (.lconst 0, 1) := by decide +kernel
theorem d_law_751 : decode code 751 = .ok (.lcmp, 1) := by decide +kernel
theorem d_law_752 : decode code 752 = .ok (.ifCond .eq 5, 3) := by decide +kernel
theorem d_law_755 : decode code 755 = .ok (.iconst 0, 1) := by decide +kernel
theorem d_law_756 : decode code 756 = .ok (.ireturn, 1) := by decide +kernel
theorem d_law_757 : decode code 757 = .ok (.goto 314, 3) := by decide +kernel
theorem d_law_760 : decode code 760 = .ok (.aload_n 1, 1) := by decide +kernel
theorem d_law_761 : decode code 761 = .ok (.aload_n 3, 1) := by decide +kernel
theorem d_law_762 : decode code 762 = .ok (.invokestatic 121, 3) := by decide +kernel
theorem d_law_765 : decode code 765 = .ok (.istore 5, 2) := by decide +kernel
theorem d_law_767 : decode code 767 = .ok (.aload_n 2, 1) := by decide +kernel
theorem d_law_768 : decode code 768 = .ok (.invokevirtual 123, 3) := by decide +kernel
theorem d_law_771 : decode code 771 = .ok (.istore 6, 2) := by decide +kernel
theorem d_law_773 : decode code 773 = .ok (.aload_n 2, 1) := by decide +kernel
theorem d_law_774 : decode code 774 = .ok (.invokevirtual 85, 3) := by decide +kernel
theorem d_law_777 : decode code 777 = .ok (.iload 5, 2) := by decide +kernel
theorem d_law_779 : decode code 779 = .ok (.if_icmp .eq 5, 3) := by decide +kernel
theorem d_law_782 : decode code 782 = .ok (.iconst 0, 1) := by decide +kernel
theorem d_law_783 : decode code 783 = .ok (.ireturn, 1) := by decide +kernel
theorem d_law_784 : decode code 784 = .ok (.iload 5, 2) := by decide +kernel
theorem d_law_786 : decode code 786 = .ok (.ifCond .ne 15, 3) := by decide +kernel
theorem d_law_789 : decode code 789 = .ok (.aload_n 3, 1) := by decide +kernel
theorem d_law_790 : decode code 790 = .ok (.iconst 0, 1) := by decide +kernel
theorem d_law_791 : decode code 791 = .ok (.laload, 1) := by decide +kernel
theorem d_law_792 : decode code 792 = .ok (.iload 6, 2) := by decide +kernel
theorem d_law_794 : decode code 794 = .ok (.i2l, 1) := by decide +kernel
theorem d_law_795 : decode code 795 = .ok (.lcmp, 1) := by decide +kernel
theorem d_law_796 : decode code 796 = .ok (.ifCond .eq 5, 3) := by decide +kernel
theorem d_law_799 : decode code 799 = .ok (.iconst 0, 1) := by decide +kernel
theorem d_law_800 : decode code 800 = .ok (.ireturn, 1) := by decide +kernel
theorem d_law_801 : decode code 801 = .ok (.goto 270, 3) := by decide +kernel
theorem d_law_804 : decode code 804 = .ok (.aload_n 1, 1) := by decide +kernel
theorem d_law_805 : decode code 805 = .ok (.aload_n 0, 1) := by decide +kernel
theorem d_law_806 : decode code 806 = .ok (.iload 4, 2) := by decide +kernel
theorem d_law_808 : decode code 808 = .ok (.iconst 1, 1) := by decide +kernel
theorem d_law_809 : decode code 809 = .ok (.iadd, 1) := by decide +kernel
theorem d_law_810 : decode code 810 = .ok (.iaload, 1) := by decide +kernel
theorem d_law_811 : decode code 811 = .ok (.aload_n 0, 1) := by decide +kernel
theorem d_law_812 : decode code 812 = .ok (.iload 4, 2) := by decide +kernel
theorem d_law_814 : decode code 814 = .ok (.iconst 2, 1) := by decide +kernel
theorem d_law_815 : decode code 815 = .ok (.iadd, 1) := by decide +kernel
theorem d_law_816 : decode code 816 = .ok (.iaload, 1) := by decide +kernel
theorem d_law_817 : decode code 817 = .ok (.aload_n 3, 1) := by decide +kernel
theorem d_law_818 : decode code 818 = .ok (.invokestatic 124, 3) := by decide +kernel
theorem d_law_821 : decode code 821 = .ok (.istore 5, 2) := by decide +kernel
theorem d_law_823 : decode code 823 = .ok (.aload_n 2, 1) := by decide +kernel
theorem d_law_824 : decode code 824 = .ok (.aload_n 0, 1) := by decide +kernel
theorem d_law_825 : decode code 825 = .ok (.iload 4, 2) := by decide +kernel
theorem d_law_827 : decode code 827 = .ok (.iconst 1, 1) := by decide +kernel
theorem d_law_828 : decode code 828 = .ok (.iadd, 1) := by decide +kernel
theorem d_law_829 : decode code 829 = .ok (.iaload, 1) := by decide +kernel
theorem d_law_830 : decode code 830 = .ok (.aload_n 0, 1) := by decide +kernel
theorem d_law_831 : decode code 831 = .ok (.iload 4, 2) := by decide +kernel
theorem d_law_833 : decode code 833 = .ok (.iconst 2, 1) := by decide +kernel
theorem d_law_834 : decode code 834 = .ok (.iadd, 1) := by decide +kernel
theorem d_law_835 : decode code 835 = .ok (.iaload, 1) := by decide +kernel
theorem d_law_836 : decode code 836 = .ok (.invokevirtual 126, 3) := by decide +kernel
theorem d_law_839 : decode code 839 = .ok (.istore 6, 2) := by decide +kernel
theorem d_law_841 : decode code 841 = .ok (.aload_n 2, 1) := by decide +kernel
theorem d_law_842 : decode code 842 = .ok (.invokevirtual 85, 3) := by decide +kernel
theorem d_law_845 : decode code 845 = .ok (.iload 5, 2) := by decide +kernel
theorem d_law_847 : decode code 847 = .ok (.if_icmp .eq 5, 3) := by decide +kernel
theorem d_law_850 : decode code 850 = .ok (.iconst 0, 1) := by decide +kernel
theorem d_law_851 : decode code 851 = .ok (.ireturn, 1) := by decide +kernel
theorem d_law_852 : decode code 852 = .ok (.iload 5, 2) := by decide +kernel
theorem d_law_854 : decode code 854 = .ok (.ifCond .ne 15, 3) := by decide +kernel
theorem d_law_857 : decode code 857 = .ok (.aload_n 3, 1) := by decide +kernel
theorem d_law_858 : decode code 858 = .ok (.iconst 0, 1) := by decide +kernel
