theorem d_L_law_663 : decode b_L_law 663 = .ok (.ireturn, 1) := by decide +kernel
theorem d_L_law_664 : decode b_L_law 664 = .ok (.goto 554, 3) := by decide +kernel
theorem d_L_law_667 : decode b_L_law 667 = .ok (.aload_n 1, 1) := by decide +kernel
theorem d_L_law_668 : decode b_L_law 668 = .ok (.aload_n 0, 1) := by decide +kernel
theorem d_L_law_669 : decode b_L_law 669 = .ok (.iload 4, 2) := by decide +kernel
theorem d_L_law_671 : decode b_L_law 671 = .ok (.iconst 1, 1) := by decide +kernel
theorem d_L_law_672 : decode b_L_law 672 = .ok (.iadd, 1) := by decide +kernel
theorem d_L_law_673 : decode b_L_law 673 = .ok (.iaload, 1) := by decide +kernel
theorem d_L_law_674 : decode b_L_law 674 = .ok (.aload_n 0, 1) := by decide +kernel
theorem d_L_law_675 : decode b_L_law 675 = .ok (.iload 4, 2) := by decide +kernel
theorem d_L_law_677 : decode b_L_law 677 = .ok (.iconst 2, 1) := by decide +kernel
theorem d_L_law_678 : decode b_L_law 678 = .ok (.iadd, 1) := by decide +kernel
theorem d_L_law_679 : decode b_L_law 679 = .ok (.iaload, 1) := by decide +kernel
theorem d_L_law_680 : decode b_L_law 680 = .ok (.aload_n 3, 1) := by decide +kernel
theorem d_L_law_681 : decode b_L_law 681 = .ok (.invokestatic 103, 3) := by decide +kernel
theorem d_L_law_684 : decode b_L_law 684 = .ok (.istore 5, 2) := by decide +kernel
theorem d_L_law_686 : decode b_L_law 686 = .ok (.aload_n 2, 1) := by decide +kernel
theorem d_L_law_687 : decode b_L_law 687 = .ok (.aload_n 0, 1) := by decide +kernel
theorem d_L_law_688 : decode b_L_law 688 = .ok (.iload 4, 2) := by decide +kernel
theorem d_L_law_690 : decode b_L_law 690 = .ok (.iconst 1, 1) := by decide +kernel
theorem d_L_law_691 : decode b_L_law 691 = .ok (.iadd, 1) := by decide +kernel
theorem d_L_law_692 : decode b_L_law 692 = .ok (.iaload, 1) := by decide +kernel
theorem d_L_law_693 : decode b_L_law 693 = .ok (.aload_n 0, 1) := by decide +kernel
theorem d_L_law_694 : decode b_L_law 694 = .ok (.iload 4, 2) := by decide +kernel
theorem d_L_law_696 : decode b_L_law 696 = .ok (.iconst 2, 1) := by decide +kernel
theorem d_L_law_697 : decode b_L_law 697 = .ok (.iadd, 1) := by decide +kernel
theorem d_L_law_698 : decode b_L_law 698 = .ok (.iaload, 1) := by decide +kernel
theorem d_L_law_699 : decode b_L_law 699 = .ok (.invokevirtual 105, 3) := by decide +kernel
theorem d_L_law_702 : decode b_L_law 702 = .ok (.istore 6, 2) := by decide +kernel
theorem d_L_law_704 : decode b_L_law 704 = .ok (.aload_n 2, 1) := by decide +kernel
theorem d_L_law_705 : decode b_L_law 705 = .ok (.invokevirtual 77, 3) := by decide +kernel
theorem d_L_law_708 : decode b_L_law 708 = .ok (.iload 5, 2) := by decide +kernel
theorem d_L_law_710 : decode b_L_law 710 = .ok (.if_icmp .eq 5, 3) := by decide +kernel
theorem d_L_law_713 : decode b_L_law 713 = .ok (.iconst 0, 1) := by decide +kernel
theorem d_L_law_714 : decode b_L_law 714 = .ok (.ireturn, 1) := by decide +kernel
theorem d_L_law_715 : decode b_L_law 715 = .ok (.iload 5, 2) := by decide +kernel
theorem d_L_law_717 : decode b_L_law 717 = .ok (.ifCond .ne 15, 3) := by decide +kernel
theorem d_L_law_720 : decode b_L_law 720 = .ok (.aload_n 3, 1) := by decide +kernel
theorem d_L_law_721 : decode b_L_law 721 = .ok (.iconst 0, 1) := by decide +kernel
theorem d_L_law_722 : decode b_L_law 722 = .ok (.laload, 1) := by decide +kernel
theorem d_L_law_723 : decode b_L_law 723 = .ok (.iload 6, 2) := by decide +kernel
theorem d_L_law_725 : decode b_L_law 725 = .ok (.i2l, 1) := by decide +kernel
theorem d_L_law_726 : decode b_L_law 726 = .ok (.lcmp, 1) := by decide +kernel
theorem d_L_law_727 : decode b_L_law 727 = .ok (.ifCond .eq 5, 3) := by decide +kernel
theorem d_L_law_730 : decode b_L_law 730 = .ok (.iconst 0, 1) := by decide +kernel
theorem d_L_law_731 : decode b_L_law 731 = .ok (.ireturn, 1) := by decide +kernel
theorem d_L_law_732 : decode b_L_law 732 = .ok (.goto 486, 3) := by decide +kernel
theorem d_L_law_735 : decode b_L_law 735 = .ok (.aload_n 1, 1) := by decide +kernel
theorem d_L_law_736 : decode b_L_law 736 = .ok (.aload_n 0, 1) := by decide +kernel
theorem d_L_law_737 : decode b_L_law 737 = .ok (.iload 4, 2) := by decide +kernel
theorem d_L_law_739 : decode b_L_law 739 = .ok (.iconst 1, 1) := by decide +kernel
theorem d_L_law_740 : decode b_L_law 740 = .ok (.iadd, 1) := by decide +kernel
theorem d_L_law_741 : decode b_L_law 741 = .ok (.iaload, 1) := by decide +kernel
theorem d_L_law_742 : decode b_L_law 742 = .ok (.aload_n 3, 1) := by decide +kernel
theorem d_L_law_743 : decode b_L_law 743 = .ok (.invokestatic 106, 3) := by decide +kernel
theorem d_L_law_746 : decode b_L_law 746 = .ok (.istore 5, 2) := by decide +kernel
theorem d_L_law_748 : decode b_L_law 748 = .ok (.aload_n 2, 1) := by decide +kernel
theorem d_L_law_749 : decode b_L_law 749 = .ok (.aload_n 0, 1) := by decide +kernel
theorem d_L_law_750 : decode b_L_law 750 = .ok (.iload 4, 2) := by decide +kernel
theorem d_L_law_752 : decode b_L_law 752 = .ok (.iconst 1, 1) := by decide +kernel
theorem d_L_law_753 : decode b_L_law 753 = .ok (.iadd, 1) := by decide +kernel
theorem d_L_law_754 : decode b_L_law 754 = .ok (.iaload, 1) := by decide +kernel
theorem d_L_law_755 : decode b_L_law 755 = .ok (.invokevirtual 108, 3) := by decide +kernel
theorem d_L_law_758 : decode b_L_law 758 = .ok (.istore 6, 2) := by decide +kernel
theorem d_L_law_760 : decode b_L_law 760 = .ok (.aload_n 2, 1) := by decide +kernel
theorem d_L_law_761 : decode b_L_law 761 = .ok (.invokevirtual 77, 3) := by decide +kernel
theorem d_L_law_764 : decode b_L_law 764 = .ok (.iload 5, 2) := by decide +kernel
theorem d_L_law_766 : decode b_L_law 766 = .ok (.if_icmp .eq 5, 3) := by decide +kernel
theorem d_L_law_769 : decode b_L_law 769 = .ok (.iconst 0, 1) := by decide +kernel
theorem d_L_law_770 : decode b_L_law 770 = .ok (.ireturn, 1) := by decide +kernel
theorem d_L_law_771 : decode b_L_law 771 = .ok (.iload 5, 2) := by decide +kernel
theorem d_L_law_773 : decode b_L_law 773 = .ok (.ifCond .ne 15, 3) := by decide +kernel
theorem d_L_law_776 : decode b_L_law 776 = .ok (.aload_n 3, 1) := by decide +kernel
theorem d_L_law_777 : decode b_L_law 777 = .ok (.iconst 0, 1) := by decide +kernel
theorem d_L_law_778 : decode b_L_law 778 = .ok (.laload, 1) := by decide +kernel
theorem d_L_law_779 : decode b_L_law 779 = .ok (.iload 6, 2) := by decide +kernel
theorem d_L_law_781 : decode b_L_law 781 = .ok (.i2l, 1) := by decide +kernel
theorem d_L_law_782 : decode b_L_law 782 = .ok (.lcmp, 1) := by decide +kernel
theorem d_L_law_783 : decode b_L_law 783 = .ok (.ifCond .eq 5, 3) := by decide +kernel
theorem d_L_law_786 : decode b_L_law 786 = .ok (.iconst 0, 1) := by decide +kernel
theorem d_L_law_787 : decode b_L_law 787 = .ok (.ireturn, 1) := by decide +kernel
theorem d_L_law_788 : decode b_L_law 788 = .ok (.goto 430, 3) := by decide +kernel
theorem d_L_law_791 : decode b_L_law 791 = .ok (.aload_n 1, 1) := by decide +kernel
theorem d_L_law_792 : decode b_L_law 792 = .ok (.aload_n 0, 1) := by decide +kernel
theorem d_L_law_793 : decode b_L_law 793 = .ok (.iload 4, 2) := by decide +kernel
theorem d_L_law_795 : decode b_L_law 795 = .ok (.iconst 1, 1) := by decide +kernel
theorem d_L_law_796 : decode b_L_law 796 = .ok (.iadd, 1) := by decide +kernel
theorem d_L_law_797 : decode b_L_law 797 = .ok (.iaload, 1) := by decide +kernel
theorem d_L_law_798 : decode b_L_law 798 = .ok (.aload_n 3, 1) := by decide +kernel
theorem d_L_law_799 : decode b_L_law 799 = .ok (.invokestatic 109, 3) := by decide +kernel
theorem d_L_law_802 : decode b_L_law 802 = .ok (.istore 5, 2) := by decide +kernel
theorem d_L_law_804 : decode b_L_law 804 = .ok (.aload_n 2, 1) := by decide +kernel
theorem d_L_law_805 : decode b_L_law 805 = .ok (.aload_n 0, 1) := by decide +kernel
theorem d_L_law_806 : decode b_L_law 806 = .ok (.iload 4, 2) := by decide +kernel
theorem d_L_law_808 : decode b_L_law 808 = .ok (.iconst 1, 1) := by decide +kernel
theorem d_L_law_809 : decode b_L_law 809 = .ok (.iadd, 1) := by decide +kernel
theorem d_L_law_810 : decode b_L_law 810 = .ok (.iaload, 1) := by decide +kernel
theorem d_L_law_811 : decode b_L_law 811 = .ok (.invokevirtual 111, 3) := by decide +kernel
theorem d_L_law_814 : decode b_L_law 814 = .ok (.istore 6, 2) := by decide +kernel
theorem d_L_law_816 : decode b_L_law 816 = .ok (.aload_n 2, 1) := by decide +kernel
theorem d_L_law_817 : decode b_L_law 817 = .ok (.invokevirtual 77, 3) := by decide +kernel
theorem d_L_law_820 : decode b_L_law 820 = .ok (.iload 5, 2) := by decide +kernel
theorem d_L_law_822 : decode b_L_law 822 = .ok (.if_icmp .eq 5, 3) := by decide +kernel
theorem d_L_law_825 : decode b_L_law 825 = .ok (.iconst 0, 1) := by decide +kernel
theorem d_L_law_826 : decode b_L_law 826 = .ok (.ireturn, 1) := by decide +kernel
theorem d_L_law_827 : decode b_L_law 827 = .ok (.iload 5, 2) := by decide +kernel
theorem d_L_law_829 : decode b_L_law 829 = .ok (.ifCond .ne 15, 3) := by decide +kernel
theorem d_L_law_832 : decode b_L_law 832 = .ok (.aload_n 3, 1) := by decide +kernel
theorem d_L_law_833 : decode b_L_law 833 = .ok (.iconst 0, 1) := by decide +kernel
theorem d_L_law_834 : decode b_L_law 834 = .ok (.laload, 1) := by decide +kernel
theorem d_L_law_835 : decode b_L_law 835 = .ok (.iload 6, 2) := by decide +kernel
theorem d_L_law_837 : decode b_L_law 837 = .ok (.i2l, 1) := by decide +kernel
theorem d_L_law_838 : decode b_L_law 838 = .ok (.lcmp, 1) := by decide +kernel
theorem d_L_law_839 : decode b_L_law 839 = .ok (.ifCond .eq 5, 3) := by decide +kernel
theorem d_L_law_842 : decode b_L_law 842 = .ok (.iconst 0, 1) := by decide +kernel
theorem d_L_law_843 : decode b_L_law 843 = .ok (.ireturn, 1) := by decide +kernel
theorem d_L_law_844 : decode b_L_law 844 = .ok (.goto 374, 3) := by decide +kernel
theorem d_L_law_847 : decode b_L_law 847 = .ok (.aload_n 1, 1) := by decide +kernel
theorem d_L_law_848 : decode b_L_law 848 = .ok (.aload_n 0, 1) := by decide +kernel
theorem d_L_law_849 : decode b_L_law 849 = .ok (.iload 4, 2) := by decide +kernel
theorem d_L_law_851 : decode b_L_law 851 = .ok (.iconst 1, 1) := by decide +kernel
theorem d_L_law_852 : decode b_L_law 852 = .ok (.iadd, 1) := by decide +kernel
theorem d_L_law_853 : decode b_L_law 853 = .ok (.iaload, 1) := by decide +kernel
theorem d_L_law_854 : decode b_L_law 854 = .ok (.aload_n 3, 1) := by decide +kernel
theorem d_L_law_855 : decode b_L_law 855 = .ok (.invokestatic 112, 3) := by decide +kernel
theorem d_L_law_858 : decode b_L_law 858 = .ok (.istore 5, 2) := by decide +kernel
theorem d_L_law_860 : decode b_L_law 860 = .ok (.aload_n 2, 1) := by decide +kernel
theorem d_L_law_861 : decode b_L_law 861 = .ok (.aload_n 0, 1) := by decide +kernel
theorem d_L_law_862 : decode b_L_law 862 = .ok (.iload 4, 2) := by decide +kernel
theorem d_L_law_864 : decode b_L_law 864 = .ok (.iconst 1, 1) := by decide +kernel
