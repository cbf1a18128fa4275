theorem dL_law_617 : decode cL_law 617 = .ok (.iload 8, 2) := by decide +kernel
theorem dL_law_619 : decode cL_law 619 = .ok (.bipush 7, 2) := by decide +kernel
theorem dL_law_621 : decode cL_law 621 = .ok (.if_icmp .ne 76, 3) := by decide +kernel
theorem dL_law_624 : decode cL_law 624 = .ok (.iload 10, 2) := by decide +kernel
theorem dL_law_626 : decode cL_law 626 = .ok (.iconst 1, 1) := by decide +kernel
theorem dL_law_627 : decode cL_law 627 = .ok (.iadd, 1) := by decide +kernel
theorem dL_law_628 : decode cL_law 628 = .ok (.iload 7, 2) := by decide +kernel
theorem dL_law_630 : decode cL_law 630 = .ok (.bipush 11, 2) := by decide +kernel
theorem dL_law_632 : decode cL_law 632 = .ok (.ishr, 1) := by decide +kernel
theorem dL_law_633 : decode cL_law 633 = .ok (.iconst 5, 1) := by decide +kernel
theorem dL_law_634 : decode cL_law 634 = .ok (.invokestatic 8, 3) := by decide +kernel
theorem dL_law_637 : decode cL_law 637 = .ok (.iadd, 1) := by decide +kernel
theorem dL_law_638 : decode cL_law 638 = .ok (.bipush 6, 2) := by decide +kernel
theorem dL_law_640 : decode cL_law 640 = .ok (.irem, 1) := by decide +kernel
theorem dL_law_641 : decode cL_law 641 = .ok (.istore 11, 2) := by decide +kernel
theorem dL_law_643 : decode cL_law 643 = .ok (.iload 7, 2) := by decide +kernel
theorem dL_law_645 : decode cL_law 645 = .ok (.bipush 14, 2) := by decide +kernel
theorem dL_law_647 : decode cL_law 647 = .ok (.ishr, 1) := by decide +kernel
theorem dL_law_648 : decode cL_law 648 = .ok (.bipush 100, 2) := by decide +kernel
theorem dL_law_650 : decode cL_law 650 = .ok (.invokestatic 8, 3) := by decide +kernel
theorem dL_law_653 : decode cL_law 653 = .ok (.istore 12, 2) := by decide +kernel
theorem dL_law_655 : decode cL_law 655 = .ok (.aload_n 1, 1) := by decide +kernel
theorem dL_law_656 : decode cL_law 656 = .ok (.iload 10, 2) := by decide +kernel
theorem dL_law_658 : decode cL_law 658 = .ok (.iload 11, 2) := by decide +kernel
theorem dL_law_660 : decode cL_law 660 = .ok (.iload 12, 2) := by decide +kernel
theorem dL_law_662 : decode cL_law 662 = .ok (.invokevirtual 99, 3) := by decide +kernel
theorem dL_law_665 : decode cL_law 665 = .ok (.aload 4, 2) := by decide +kernel
theorem dL_law_667 : decode cL_law 667 = .ok (.bipush 6, 2) := by decide +kernel
theorem dL_law_669 : decode cL_law 669 = .ok (.iload 10, 2) := by decide +kernel
theorem dL_law_671 : decode cL_law 671 = .ok (.imul, 1) := by decide +kernel
theorem dL_law_672 : decode cL_law 672 = .ok (.iload 11, 2) := by decide +kernel
theorem dL_law_674 : decode cL_law 674 = .ok (.iadd, 1) := by decide +kernel
theorem dL_law_675 : decode cL_law 675 = .ok (.iaload, 1) := by decide +kernel
theorem dL_law_676 : decode cL_law 676 = .ok (.if_icmp .eq 5, 3) := by decide +kernel
theorem dL_law_679 : decode cL_law 679 = .ok (.iconst 0, 1) := by decide +kernel
theorem dL_law_680 : decode cL_law 680 = .ok (.ireturn, 1) := by decide +kernel
theorem dL_law_681 : decode cL_law 681 = .ok (.aload 4, 2) := by decide +kernel
theorem dL_law_683 : decode cL_law 683 = .ok (.bipush 6, 2) := by decide +kernel
theorem dL_law_685 : decode cL_law 685 = .ok (.iload 10, 2) := by decide +kernel
theorem dL_law_687 : decode cL_law 687 = .ok (.imul, 1) := by decide +kernel
theorem dL_law_688 : decode cL_law 688 = .ok (.iload 11, 2) := by decide +kernel
theorem dL_law_690 : decode cL_law 690 = .ok (.iadd, 1) := by decide +kernel
theorem dL_law_691 : decode cL_law 691 = .ok (.iload 12, 2) := by decide +kernel
theorem dL_law_693 : decode cL_law 693 = .ok (.iastore, 1) := by decide +kernel
theorem dL_law_694 : decode cL_law 694 = .ok (.goto 125, 3) := by decide +kernel
theorem dL_law_697 : decode cL_law 697 = .ok (.iload 8, 2) := by decide +kernel
theorem dL_law_699 : decode cL_law 699 = .ok (.bipush 8, 2) := by decide +kernel
theorem dL_law_701 : decode cL_law 701 = .ok (.if_icmp .ne 74, 3) := by decide +kernel
theorem dL_law_704 : decode cL_law 704 = .ok (.aload_n 1, 1) := by decide +kernel
theorem dL_law_705 : decode cL_law 705 = .ok (.aload_n 2, 1) := by decide +kernel
theorem dL_law_706 : decode cL_law 706 = .ok (.iload 10, 2) := by decide +kernel
theorem dL_law_708 : decode cL_law 708 = .ok (.iconst 1, 1) := by decide +kernel
theorem dL_law_709 : decode cL_law 709 = .ok (.iload 7, 2) := by decide +kernel
theorem dL_law_711 : decode cL_law 711 = .ok (.bipush 11, 2) := by decide +kernel
theorem dL_law_713 : decode cL_law 713 = .ok (.ishr, 1) := by decide +kernel
theorem dL_law_714 : decode cL_law 714 = .ok (.iload 7, 2) := by decide +kernel
theorem dL_law_716 : decode cL_law 716 = .ok (.bipush 18, 2) := by decide +kernel
theorem dL_law_718 : decode cL_law 718 = .ok (.ishr, 1) := by decide +kernel
theorem dL_law_719 : decode cL_law 719 = .ok (.iconst 2, 1) := by decide +kernel
theorem dL_law_720 : decode cL_law 720 = .ok (.invokestatic 8, 3) := by decide +kernel
theorem dL_law_723 : decode cL_law 723 = .ok (.ifCond .ne 8, 3) := by decide +kernel
theorem dL_law_726 : decode cL_law 726 = .ok (.bipush 99, 2) := by decide +kernel
theorem dL_law_728 : decode cL_law 728 = .ok (.goto 5, 3) := by decide +kernel
theorem dL_law_731 : decode cL_law 731 = .ok (.bipush 12, 2) := by decide +kernel
theorem dL_law_733 : decode cL_law 733 = .ok (.invokestatic 8, 3) := by decide +kernel
theorem dL_law_736 : decode cL_law 736 = .ok (.iadd, 1) := by decide +kernel
theorem dL_law_737 : decode cL_law 737 = .ok (.invokestatic 103, 3) := by decide +kernel
theorem dL_law_740 : decode cL_law 740 = .ok (.ifCond .eq 33, 3) := by decide +kernel
theorem dL_law_743 : decode cL_law 743 = .ok (.aload_n 1, 1) := by decide +kernel
theorem dL_law_744 : decode cL_law 744 = .ok (.aload_n 2, 1) := by decide +kernel
theorem dL_law_745 : decode cL_law 745 = .ok (.iload 9, 2) := by decide +kernel
theorem dL_law_747 : decode cL_law 747 = .ok (.iload 7, 2) := by decide +kernel
theorem dL_law_749 : decode cL_law 749 = .ok (.bipush 14, 2) := by decide +kernel
theorem dL_law_751 : decode cL_law 751 = .ok (.ishr, 1) := by decide +kernel
theorem dL_law_752 : decode cL_law 752 = .ok (.bipush 8, 2) := by decide +kernel
theorem dL_law_754 : decode cL_law 754 = .ok (.invokestatic 8, 3) := by decide +kernel
theorem dL_law_757 : decode cL_law 757 = .ok (.iload 7, 2) := by decide +kernel
theorem dL_law_759 : decode cL_law 759 = .ok (.bipush 18, 2) := by decide +kernel
theorem dL_law_761 : decode cL_law 761 = .ok (.ishr, 1) := by decide +kernel
theorem dL_law_762 : decode cL_law 762 = .ok (.bipush 11, 2) := by decide +kernel
theorem dL_law_764 : decode cL_law 764 = .ok (.invokestatic 8, 3) := by decide +kernel
theorem dL_law_767 : decode cL_law 767 = .ok (.invokestatic 107, 3) := by decide +kernel
theorem dL_law_770 : decode cL_law 770 = .ok (.ifCond .ne 49, 3) := by decide +kernel
theorem dL_law_773 : decode cL_law 773 = .ok (.iconst 0, 1) := by decide +kernel
theorem dL_law_774 : decode cL_law 774 = .ok (.ireturn, 1) := by decide +kernel
theorem dL_law_775 : decode cL_law 775 = .ok (.aload_n 1, 1) := by decide +kernel
theorem dL_law_776 : decode cL_law 776 = .ok (.aload_n 2, 1) := by decide +kernel
theorem dL_law_777 : decode cL_law 777 = .ok (.iconst 1, 1) := by decide +kernel
theorem dL_law_778 : decode cL_law 778 = .ok (.iload 7, 2) := by decide +kernel
theorem dL_law_780 : decode cL_law 780 = .ok (.bipush 11, 2) := by decide +kernel
theorem dL_law_782 : decode cL_law 782 = .ok (.ishr, 1) := by decide +kernel
theorem dL_law_783 : decode cL_law 783 = .ok (.bipush 60, 2) := by decide +kernel
theorem dL_law_785 : decode cL_law 785 = .ok (.invokestatic 8, 3) := by decide +kernel
theorem dL_law_788 : decode cL_law 788 = .ok (.iadd, 1) := by decide +kernel
theorem dL_law_789 : decode cL_law 789 = .ok (.iload 7, 2) := by decide +kernel
theorem dL_law_791 : decode cL_law 791 = .ok (.bipush 17, 2) := by decide +kernel
theorem dL_law_793 : decode cL_law 793 = .ok (.ishr, 1) := by decide +kernel
theorem dL_law_794 : decode cL_law 794 = .ok (.bipush 11, 2) := by decide +kernel
theorem dL_law_796 : decode cL_law 796 = .ok (.invokestatic 8, 3) := by decide +kernel
theorem dL_law_799 : decode cL_law 799 = .ok (.aload_n 0, 1) := by decide +kernel
theorem dL_law_800 : decode cL_law 800 = .ok (.bipush 20, 2) := by decide +kernel
theorem dL_law_802 : decode cL_law 802 = .ok (.iload 6, 2) := by decide +kernel
theorem dL_law_804 : decode cL_law 804 = .ok (.iadd, 1) := by decide +kernel
theorem dL_law_805 : decode cL_law 805 = .ok (.invokestatic 59, 3) := by decide +kernel
theorem dL_law_808 : decode cL_law 808 = .ok (.ldc 111, 2) := by decide +kernel
theorem dL_law_810 : decode cL_law 810 = .ok (.iand, 1) := by decide +kernel
theorem dL_law_811 : decode cL_law 811 = .ok (.invokestatic 112, 3) := by decide +kernel
theorem dL_law_814 : decode cL_law 814 = .ok (.ifCond .ne 5, 3) := by decide +kernel
theorem dL_law_817 : decode cL_law 817 = .ok (.iconst 0, 1) := by decide +kernel
theorem dL_law_818 : decode cL_law 818 = .ok (.ireturn, 1) := by decide +kernel
theorem dL_law_819 : decode cL_law 819 = .ok (.aload_n 1, 1) := by decide +kernel
theorem dL_law_820 : decode cL_law 820 = .ok (.aload_n 2, 1) := by decide +kernel
theorem dL_law_821 : decode cL_law 821 = .ok (.aload_n 3, 1) := by decide +kernel
theorem dL_law_822 : decode cL_law 822 = .ok (.aload 4, 2) := by decide +kernel
theorem dL_law_824 : decode cL_law 824 = .ok (.invokestatic 66, 3) := by decide +kernel
theorem dL_law_827 : decode cL_law 827 = .ok (.ifCond .ne 5, 3) := by decide +kernel
theorem dL_law_830 : decode cL_law 830 = .ok (.iconst 0, 1) := by decide +kernel
theorem dL_law_831 : decode cL_law 831 = .ok (.ireturn, 1) := by decide +kernel
theorem dL_law_832 : decode cL_law 832 = .ok (.iinc 6 1, 3) := by decide +kernel
theorem dL_law_835 : decode cL_law 835 = .ok (.goto (-743), 3) := by decide +kernel
theorem dL_law_838 : decode cL_law 838 = .ok (.iconst 0, 1) := by decide +kernel
theorem dL_law_839 : decode cL_law 839 = .ok (.istore 6, 2) := by decide +kernel
theorem dL_law_841 : decode cL_law 841 = .ok (.iconst 0, 1) := by decide +kernel
theorem dL_law_842 : decode cL_law 842 = .ok (.istore 7, 2) := by decide +kernel
theorem dL_law_844 : decode cL_law 844 = .ok (.iload 7, 2) := by decide +kernel
theorem dL_law_846 : decode cL_law 846 = .ok (.aload_n 2, 1) := by decide +kernel
theorem dL_law_847 : decode cL_law 847 = .ok (.iconst 0, 1) := by decide +kernel
theorem dL_law_848 : decode cL_law 848 = .ok (.iaload, 1) := by decide +kernel
theorem dL_law_849 : decode cL_law 849 = .ok (.if_icmp .ge 21, 3) := by decide +kernel
theorem dL_law_852 : decode cL_law 852 = .ok (.iload 6, 2) := by decide +kernel
theorem dL_law_854 : decode cL_law 854 = .ok (.aload_n 2, 1) := by decide +kernel
theorem dL_law_855 : decode cL_law 855 = .ok (.bipush 11, 2) := by decide +kernel
theorem dL_law_857 : decode cL_law 857 = .ok (.iload 7, 2) := by decide +kernel
theorem dL_law_859 : decode cL_law 859 = .ok (.iadd, 1) := by decide +kernel
theorem dL_law_860 : decode cL_law 860 = .ok (.iaload, 1) := by decide +kernel
theorem dL_law_861 : decode cL_law 861 = .ok (.iadd, 1) := by decide +kernel
theorem dL_law_862 : decode cL_law 862 = .ok (.istore 6, 2) := by decide +kernel
theorem dL_law_864 : decode cL_law 864 = .ok (.iinc 7 1, 3) := by decide +kernel
theorem dL_law_867 : decode cL_law 867 = .ok (.goto (-23), 3) := by decide +kernel
theorem dL_law_870 : decode cL_law 870 = .ok (.iload 6, 2) := by decide +kernel
theorem dL_law_872 : decode cL_law 872 = .ok (.aload_n 2, 1) := by decide +kernel
theorem dL_law_873 : decode cL_law 873 = .ok (.bipush 31, 2) := by decide +kernel
theorem dL_law_875 : decode cL_law 875 = .ok (.iaload, 1) := by decide +kernel
theorem dL_law_876 : decode cL_law 876 = .ok (.iadd, 1) := by decide +kernel
theorem dL_law_877 : decode cL_law 877 = .ok (.aload_n 2, 1) := by decide +kernel
theorem dL_law_878 : decode cL_law 878 = .ok (.bipush 32, 2) := by decide +kernel
theorem dL_law_880 : decode cL_law 880 = .ok (.iaload, 1) := by decide +kernel
theorem dL_law_881 : decode cL_law 881 = .ok (.iadd, 1) := by decide +kernel
theorem dL_law_882 : decode cL_law 882 = .ok (.iload 5, 2) := by decide +kernel
theorem dL_law_884 : decode cL_law 884 = .ok (.if_icmp .eq 5, 3) := by decide +kernel
theorem dL_law_887 : decode cL_law 887 = .ok (.iconst 0, 1) := by decide +kernel
theorem dL_law_888 : decode cL_law 888 = .ok (.ireturn, 1) := by decide +kernel
theorem dL_law_889 : decode cL_law 889 = .ok (.iconst 0, 1) := by decide +kernel
theorem dL_law_890 : decode cL_law 890 = .ok (.istore 7, 2) := by decide +kernel
theorem dL_law_892 : decode cL_law 892 = .ok (.iload 7, 2) := by decide +kernel
theorem dL_law_894 : decode cL_law 894 = .ok (.aload_n 2, 1) := by decide +kernel
theorem dL_law_895 : decode cL_law 895 = .ok (.iconst 0, 1) := by decide +kernel
theorem dL_law_896 : decode cL_law 896 = .ok (.iaload, 1) := by decide +kernel
theorem dL_law_897 : decode cL_law 897 = .ok (.if_icmp .ge 75, 3) := by decide +kernel
theorem dL_law_900 : decode cL_law 900 = .ok (.iconst 0, 1) := by decide +kernel
