theorem dL_same_670 : decode cL_same 670 = .ok (.aload_n 0, 1) := by decide +kernel
theorem dL_same_671 : decode cL_same 671 = .ok (.iconst 3, 1) := by decide +kernel
theorem dL_same_672 : decode cL_same 672 = .ok (.invokevirtual 56, 3) := by decide +kernel
theorem dL_same_675 : decode cL_same 675 = .ok (.aload 8, 2) := by decide +kernel
theorem dL_same_677 : decode cL_same 677 = .ok (.iconst 0, 1) := by decide +kernel
theorem dL_same_678 : decode cL_same 678 = .ok (.iaload, 1) := by decide +kernel
theorem dL_same_679 : decode cL_same 679 = .ok (.if_icmp .ne 71, 3) := by decide +kernel
theorem dL_same_682 : decode cL_same 682 = .ok (.aload_n 0, 1) := by decide +kernel
theorem dL_same_683 : decode cL_same 683 = .ok (.iconst 4, 1) := by decide +kernel
theorem dL_same_684 : decode cL_same 684 = .ok (.invokevirtual 56, 3) := by decide +kernel
theorem dL_same_687 : decode cL_same 687 = .ok (.aload_n 2, 1) := by decide +kernel
theorem dL_same_688 : decode cL_same 688 = .ok (.aload 6, 2) := by decide +kernel
theorem dL_same_690 : decode cL_same 690 = .ok (.aload_n 3, 1) := by decide +kernel
theorem dL_same_691 : decode cL_same 691 = .ok (.iconst (-1), 1) := by decide +kernel
theorem dL_same_692 : decode cL_same 692 = .ok (.invokestatic 24, 3) := by decide +kernel
theorem dL_same_695 : decode cL_same 695 = .ok (.ifCond .eq 7, 3) := by decide +kernel
theorem dL_same_698 : decode cL_same 698 = .ok (.iconst 1, 1) := by decide +kernel
theorem dL_same_699 : decode cL_same 699 = .ok (.goto 4, 3) := by decide +kernel
theorem dL_same_702 : decode cL_same 702 = .ok (.iconst 0, 1) := by decide +kernel
theorem dL_same_703 : decode cL_same 703 = .ok (.if_icmp .ne 47, 3) := by decide +kernel
theorem dL_same_706 : decode cL_same 706 = .ok (.aload_n 0, 1) := by decide +kernel
theorem dL_same_707 : decode cL_same 707 = .ok (.iconst 5, 1) := by decide +kernel
theorem dL_same_708 : decode cL_same 708 = .ok (.invokevirtual 56, 3) := by decide +kernel
theorem dL_same_711 : decode cL_same 711 = .ok (.aload_n 2, 1) := by decide +kernel
theorem dL_same_712 : decode cL_same 712 = .ok (.iconst 2, 1) := by decide +kernel
theorem dL_same_713 : decode cL_same 713 = .ok (.iaload, 1) := by decide +kernel
theorem dL_same_714 : decode cL_same 714 = .ok (.if_icmp .ne 36, 3) := by decide +kernel
theorem dL_same_717 : decode cL_same 717 = .ok (.aload_n 0, 1) := by decide +kernel
theorem dL_same_718 : decode cL_same 718 = .ok (.bipush 6, 2) := by decide +kernel
theorem dL_same_720 : decode cL_same 720 = .ok (.invokevirtual 56, 3) := by decide +kernel
theorem dL_same_723 : decode cL_same 723 = .ok (.iload 12, 2) := by decide +kernel
theorem dL_same_725 : decode cL_same 725 = .ok (.if_icmp .ne 25, 3) := by decide +kernel
theorem dL_same_728 : decode cL_same 728 = .ok (.aload_n 0, 1) := by decide +kernel
theorem dL_same_729 : decode cL_same 729 = .ok (.bipush 7, 2) := by decide +kernel
theorem dL_same_731 : decode cL_same 731 = .ok (.invokevirtual 56, 3) := by decide +kernel
theorem dL_same_734 : decode cL_same 734 = .ok (.iload 10, 2) := by decide +kernel
theorem dL_same_736 : decode cL_same 736 = .ok (.if_icmp .ne 14, 3) := by decide +kernel
theorem dL_same_739 : decode cL_same 739 = .ok (.aload_n 0, 1) := by decide +kernel
theorem dL_same_740 : decode cL_same 740 = .ok (.bipush 8, 2) := by decide +kernel
theorem dL_same_742 : decode cL_same 742 = .ok (.invokevirtual 56, 3) := by decide +kernel
theorem dL_same_745 : decode cL_same 745 = .ok (.iload 11, 2) := by decide +kernel
theorem dL_same_747 : decode cL_same 747 = .ok (.if_icmp .eq 5, 3) := by decide +kernel
theorem dL_same_750 : decode cL_same 750 = .ok (.iconst 0, 1) := by decide +kernel
theorem dL_same_751 : decode cL_same 751 = .ok (.ireturn, 1) := by decide +kernel
theorem dL_same_752 : decode cL_same 752 = .ok (.aload_n 0, 1) := by decide +kernel
theorem dL_same_753 : decode cL_same 753 = .ok (.iconst 0, 1) := by decide +kernel
theorem dL_same_754 : decode cL_same 754 = .ok (.invokevirtual 59, 3) := by decide +kernel
theorem dL_same_757 : decode cL_same 757 = .ok (.iload 13, 2) := by decide +kernel
theorem dL_same_759 : decode cL_same 759 = .ok (.if_icmp .ne 103, 3) := by decide +kernel
theorem dL_same_762 : decode cL_same 762 = .ok (.aload_n 0, 1) := by decide +kernel
theorem dL_same_763 : decode cL_same 763 = .ok (.iconst 1, 1) := by decide +kernel
theorem dL_same_764 : decode cL_same 764 = .ok (.invokevirtual 59, 3) := by decide +kernel
theorem dL_same_767 : decode cL_same 767 = .ok (.iload 13, 2) := by decide +kernel
theorem dL_same_769 : decode cL_same 769 = .ok (.ifCond .ge 8, 3) := by decide +kernel
theorem dL_same_772 : decode cL_same 772 = .ok (.bipush (-6), 2) := by decide +kernel
theorem dL_same_774 : decode cL_same 774 = .ok (.goto 5, 3) := by decide +kernel
theorem dL_same_777 : decode cL_same 777 = .ok (.iload 14, 2) := by decide +kernel
theorem dL_same_779 : decode cL_same 779 = .ok (.if_icmp .ne 83, 3) := by decide +kernel
theorem dL_same_782 : decode cL_same 782 = .ok (.aload_n 0, 1) := by decide +kernel
theorem dL_same_783 : decode cL_same 783 = .ok (.iconst 0, 1) := by decide +kernel
theorem dL_same_784 : decode cL_same 784 = .ok (.invokevirtual 62, 3) := by decide +kernel
theorem dL_same_787 : decode cL_same 787 = .ok (.iload 15, 2) := by decide +kernel
theorem dL_same_789 : decode cL_same 789 = .ok (.if_icmp .ne 73, 3) := by decide +kernel
theorem dL_same_792 : decode cL_same 792 = .ok (.aload_n 0, 1) := by decide +kernel
theorem dL_same_793 : decode cL_same 793 = .ok (.iconst 1, 1) := by decide +kernel
theorem dL_same_794 : decode cL_same 794 = .ok (.invokevirtual 62, 3) := by decide +kernel
theorem dL_same_797 : decode cL_same 797 = .ok (.iload 15, 2) := by decide +kernel
theorem dL_same_799 : decode cL_same 799 = .ok (.ifCond .ge 8, 3) := by decide +kernel
theorem dL_same_802 : decode cL_same 802 = .ok (.bipush (-6), 2) := by decide +kernel
theorem dL_same_804 : decode cL_same 804 = .ok (.goto 5, 3) := by decide +kernel
theorem dL_same_807 : decode cL_same 807 = .ok (.iload 16, 2) := by decide +kernel
theorem dL_same_809 : decode cL_same 809 = .ok (.if_icmp .ne 53, 3) := by decide +kernel
theorem dL_same_812 : decode cL_same 812 = .ok (.aload_n 0, 1) := by decide +kernel
theorem dL_same_813 : decode cL_same 813 = .ok (.iconst 0, 1) := by decide +kernel
theorem dL_same_814 : decode cL_same 814 = .ok (.invokevirtual 65, 3) := by decide +kernel
theorem dL_same_817 : decode cL_same 817 = .ok (.aload 8, 2) := by decide +kernel
theorem dL_same_819 : decode cL_same 819 = .ok (.iconst 0, 1) := by decide +kernel
theorem dL_same_820 : decode cL_same 820 = .ok (.iaload, 1) := by decide +kernel
theorem dL_same_821 : decode cL_same 821 = .ok (.ifCond .ne 8, 3) := by decide +kernel
theorem dL_same_824 : decode cL_same 824 = .ok (.bipush (-6), 2) := by decide +kernel
theorem dL_same_826 : decode cL_same 826 = .ok (.goto 8, 3) := by decide +kernel
theorem dL_same_829 : decode cL_same 829 = .ok (.aload 8, 2) := by decide +kernel
theorem dL_same_831 : decode cL_same 831 = .ok (.bipush 50, 2) := by decide +kernel
theorem dL_same_833 : decode cL_same 833 = .ok (.iaload, 1) := by decide +kernel
theorem dL_same_834 : decode cL_same 834 = .ok (.if_icmp .ne 28, 3) := by decide +kernel
theorem dL_same_837 : decode cL_same 837 = .ok (.aload_n 0, 1) := by decide +kernel
theorem dL_same_838 : decode cL_same 838 = .ok (.iconst 1, 1) := by decide +kernel
theorem dL_same_839 : decode cL_same 839 = .ok (.invokevirtual 65, 3) := by decide +kernel
theorem dL_same_842 : decode cL_same 842 = .ok (.aload 8, 2) := by decide +kernel
theorem dL_same_844 : decode cL_same 844 = .ok (.iconst 0, 1) := by decide +kernel
theorem dL_same_845 : decode cL_same 845 = .ok (.iaload, 1) := by decide +kernel
theorem dL_same_846 : decode cL_same 846 = .ok (.ifCond .ne 8, 3) := by decide +kernel
theorem dL_same_849 : decode cL_same 849 = .ok (.bipush (-6), 2) := by decide +kernel
theorem dL_same_851 : decode cL_same 851 = .ok (.goto 8, 3) := by decide +kernel
theorem dL_same_854 : decode cL_same 854 = .ok (.aload 8, 2) := by decide +kernel
theorem dL_same_856 : decode cL_same 856 = .ok (.bipush 49, 2) := by decide +kernel
theorem dL_same_858 : decode cL_same 858 = .ok (.iaload, 1) := by decide +kernel
theorem dL_same_859 : decode cL_same 859 = .ok (.if_icmp .eq 5, 3) := by decide +kernel
theorem dL_same_862 : decode cL_same 862 = .ok (.iconst 0, 1) := by decide +kernel
theorem dL_same_863 : decode cL_same 863 = .ok (.ireturn, 1) := by decide +kernel
theorem dL_same_864 : decode cL_same 864 = .ok (.iload_n 1, 1) := by decide +kernel
theorem dL_same_865 : decode cL_same 865 = .ok (.aload 8, 2) := by decide +kernel
theorem dL_same_867 : decode cL_same 867 = .ok (.iconst 0, 1) := by decide +kernel
theorem dL_same_868 : decode cL_same 868 = .ok (.iaload, 1) := by decide +kernel
theorem dL_same_869 : decode cL_same 869 = .ok (.iconst 1, 1) := by decide +kernel
theorem dL_same_870 : decode cL_same 870 = .ok (.iadd, 1) := by decide +kernel
theorem dL_same_871 : decode cL_same 871 = .ok (.invokestatic 68, 3) := by decide +kernel
theorem dL_same_874 : decode cL_same 874 = .ok (.istore 17, 2) := by decide +kernel
theorem dL_same_876 : decode cL_same 876 = .ok (.iload_n 1, 1) := by decide +kernel
theorem dL_same_877 : decode cL_same 877 = .ok (.iconst 3, 1) := by decide +kernel
theorem dL_same_878 : decode cL_same 878 = .ok (.ishr, 1) := by decide +kernel
theorem dL_same_879 : decode cL_same 879 = .ok (.bipush 6, 2) := by decide +kernel
theorem dL_same_881 : decode cL_same 881 = .ok (.invokestatic 68, 3) := by decide +kernel
theorem dL_same_884 : decode cL_same 884 = .ok (.istore 18, 2) := by decide +kernel
theorem dL_same_886 : decode cL_same 886 = .ok (.iload_n 1, 1) := by decide +kernel
theorem dL_same_887 : decode cL_same 887 = .ok (.iconst 5, 1) := by decide +kernel
theorem dL_same_888 : decode cL_same 888 = .ok (.ishr, 1) := by decide +kernel
theorem dL_same_889 : decode cL_same 889 = .ok (.aload_n 2, 1) := by decide +kernel
theorem dL_same_890 : decode cL_same 890 = .ok (.iconst 0, 1) := by decide +kernel
theorem dL_same_891 : decode cL_same 891 = .ok (.iaload, 1) := by decide +kernel
theorem dL_same_892 : decode cL_same 892 = .ok (.invokestatic 68, 3) := by decide +kernel
theorem dL_same_895 : decode cL_same 895 = .ok (.istore 19, 2) := by decide +kernel
theorem dL_same_897 : decode cL_same 897 = .ok (.iload 18, 2) := by decide +kernel
theorem dL_same_899 : decode cL_same 899 = .ok (.iconst 4, 1) := by decide +kernel
theorem dL_same_900 : decode cL_same 900 = .ok (.if_icmp .ne 15, 3) := by decide +kernel
theorem dL_same_903 : decode cL_same 903 = .ok (.iload_n 1, 1) := by decide +kernel
theorem dL_same_904 : decode cL_same 904 = .ok (.bipush 7, 2) := by decide +kernel
theorem dL_same_906 : decode cL_same 906 = .ok (.ishr, 1) := by decide +kernel
theorem dL_same_907 : decode cL_same 907 = .ok (.bipush 7, 2) := by decide +kernel
theorem dL_same_909 : decode cL_same 909 = .ok (.invokestatic 68, 3) := by decide +kernel
theorem dL_same_912 : decode cL_same 912 = .ok (.goto 13, 3) := by decide +kernel
theorem dL_same_915 : decode cL_same 915 = .ok (.iload_n 1, 1) := by decide +kernel
theorem dL_same_916 : decode cL_same 916 = .ok (.bipush 7, 2) := by decide +kernel
theorem dL_same_918 : decode cL_same 918 = .ok (.ishr, 1) := by decide +kernel
theorem dL_same_919 : decode cL_same 919 = .ok (.aload_n 2, 1) := by decide +kernel
theorem dL_same_920 : decode cL_same 920 = .ok (.iconst 0, 1) := by decide +kernel
theorem dL_same_921 : decode cL_same 921 = .ok (.iaload, 1) := by decide +kernel
theorem dL_same_922 : decode cL_same 922 = .ok (.invokestatic 68, 3) := by decide +kernel
theorem dL_same_925 : decode cL_same 925 = .ok (.istore 20, 2) := by decide +kernel
theorem dL_same_927 : decode cL_same 927 = .ok (.iload 18, 2) := by decide +kernel
theorem dL_same_929 : decode cL_same 929 = .ok (.iconst 3, 1) := by decide +kernel
theorem dL_same_930 : decode cL_same 930 = .ok (.if_icmp .gt 10, 3) := by decide +kernel
theorem dL_same_933 : decode cL_same 933 = .ok (.iload 19, 2) := by decide +kernel
theorem dL_same_935 : decode cL_same 935 = .ok (.iload 20, 2) := by decide +kernel
theorem dL_same_937 : decode cL_same 937 = .ok (.if_icmp .eq 7, 3) := by decide +kernel
theorem dL_same_940 : decode cL_same 940 = .ok (.iconst 1, 1) := by decide +kernel
theorem dL_same_941 : decode cL_same 941 = .ok (.goto 4, 3) := by decide +kernel
theorem dL_same_944 : decode cL_same 944 = .ok (.iconst 0, 1) := by decide +kernel
theorem dL_same_945 : decode cL_same 945 = .ok (.istore 21, 2) := by decide +kernel
theorem dL_same_947 : decode cL_same 947 = .ok (.iconst 0, 1) := by decide +kernel
theorem dL_same_948 : decode cL_same 948 = .ok (.istore 22, 2) := by decide +kernel
theorem dL_same_950 : decode cL_same 950 = .ok (.iconst 0, 1) := by decide +kernel
theorem dL_same_951 : decode cL_same 951 = .ok (.istore 23, 2) := by decide +kernel
theorem dL_same_953 : decode cL_same 953 = .ok (.aload_n 2, 1) := by decide +kernel
theorem dL_same_954 : decode cL_same 954 = .ok (.aload 7, 2) := by decide +kernel
theorem dL_same_956 : decode cL_same 956 = .ok (.invokestatic 20, 3) := by decide +kernel
theorem dL_same_959 : decode cL_same 959 = .ok (.aload_n 2, 1) := by decide +kernel
theorem dL_same_960 : decode cL_same 960 = .ok (.aload 6, 2) := by decide +kernel
theorem dL_same_962 : decode cL_same 962 = .ok (.aload 7, 2) := by decide +kernel
theorem dL_same_964 : decode cL_same 964 = .ok (.iconst (-1), 1) := by decide +kernel
theorem dL_same_965 : decode cL_same 965 = .ok (.invokestatic 24, 3) := by decide +kernel
theorem dL_same_968 : decode cL_same 968 = .ok (.ifCond .ne 6, 3) := by decide +kernel
theorem dL_same_971 : decode cL_same 971 = .ok (.goto 80, 3) := by decide +kernel
theorem dL_same_974 : decode cL_same 974 = .ok (.iconst 0, 1) := by decide +kernel
theorem dL_same_975 : decode cL_same 975 = .ok (.istore 24, 2) := by decide +kernel
theorem dL_same_977 : decode cL_same 977 = .ok (.iload 24, 2) := by decide +kernel
theorem dL_same_979 : decode cL_same 979 = .ok (.aload_n 2, 1) := by decide +kernel
theorem dL_same_980 : decode cL_same 980 = .ok (.iconst 0, 1) := by decide +kernel
theorem dL_same_981 : decode cL_same 981 = .ok (.iaload, 1) := by decide +kernel
theorem dL_same_982 : decode cL_same 982 = .ok (.if_icmp .ge 34, 3) := by decide +kernel
theorem dL_same_985 : decode cL_same 985 = .ok (.iload 22, 2) := by decide +kernel
theorem dL_same_987 : decode cL_same 987 = .ok (.iload 17, 2) := by decide +kernel
theorem dL_same_989 : decode cL_same 989 = .ok (.if_icmp .ne 27, 3) := by decide +kernel
theorem dL_same_992 : decode cL_same 992 = .ok (.aload_n 0, 1) := by decide +kernel
theorem dL_same_993 : decode cL_same 993 = .ok (.iload 17, 2) := by decide +kernel
theorem dL_same_995 : decode cL_same 995 = .ok (.iload 24, 2) := by decide +kernel
theorem dL_same_997 : decode cL_same 997 = .ok (.invokevirtual 71, 3) := by decide +kernel
theorem dL_same_1000 : decode cL_same 1000 = .ok (.aload 7, 2) := by decide +kernel
theorem dL_same_1002 : decode cL_same 1002 = .ok (.iload 24, 2) := by decide +kernel
theorem dL_same_1004 : decode cL_same 1004 = .ok (.iaload, 1) := by decide +kernel
theorem dL_same_1005 : decode cL_same 1005 = .ok (.if_icmp .eq 5, 3) := by decide +kernel
theorem dL_same_1008 : decode cL_same 1008 = .ok (.iconst 0, 1) := by decide +kernel
theorem dL_same_1009 : decode cL_same 1009 = .ok (.ireturn, 1) := by decide +kernel
theorem dL_same_1010 : decode cL_same 1010 = .ok (.iinc 24 1, 3) := by decide +kernel
theorem dL_same_1013 : decode cL_same 1013 = .ok (.goto (-36), 3) := by decide +kernel
theorem dL_same_1016 : decode cL_same 1016 = .ok (.iload 23, 2) := by decide +kernel
theorem dL_same_1018 : decode cL_same 1018 = .ok (.iload 21, 2) := by decide +kernel
theorem dL_same_1020 : decode cL_same 1020 = .ok (.ifCond .eq 24, 3) := by decide +kernel
theorem dL_same_1023 : decode cL_same 1023 = .ok (.iload 18, 2) := by decide +kernel
theorem dL_same_1025 : decode cL_same 1025 = .ok (.iload 19, 2) := by decide +kernel
theorem dL_same_1027 : decode cL_same 1027 = .ok (.iload 20, 2) := by decide +kernel
theorem dL_same_1029 : decode cL_same 1029 = .ok (.aload 7, 2) := by decide +kernel
theorem dL_same_1031 : decode cL_same 1031 = .ok (.aload_n 2, 1) := by decide +kernel
theorem dL_same_1032 : decode cL_same 1032 = .ok (.iconst 0, 1) := by decide +kernel
theorem dL_same_1033 : decode cL_same 1033 = .ok (.iaload, 1) := by decide +kernel
theorem dL_same_1034 : decode cL_same 1034 = .ok (.invokestatic 10, 3) := by decide +kernel
theorem dL_same_1037 : decode cL_same 1037 = .ok (.ifCond .eq 7, 3) := by decide +kernel
theorem dL_same_1040 : decode cL_same 1040 = .ok (.iconst 1, 1) := by decide +kernel
theorem dL_same_1041 : decode cL_same 1041 = .ok (.goto 4, 3) := by decide +kernel
theorem dL_same_1044 : decode cL_same 1044 = .ok (.iconst 0, 1) := by decide +kernel
theorem dL_same_1045 : decode cL_same 1045 = .ok (.iadd, 1) := by decide +kernel
theorem dL_same_1046 : decode cL_same 1046 = .ok (.istore 23, 2) := by decide +kernel
theorem dL_same_1048 : decode cL_same 1048 = .ok (.iinc 22 1, 3) := by decide +kernel
theorem dL_same_1051 : decode cL_same 1051 = .ok (.aload_n 2, 1) := by decide +kernel
theorem dL_same_1052 : decode cL_same 1052 = .ok (.aload 7, 2) := by decide +kernel
theorem dL_same_1054 : decode cL_same 1054 = .ok (.invokestatic 28, 3) := by decide +kernel
theorem dL_same_1057 : decode cL_same 1057 = .ok (.ifCond .ne (-98), 3) := by decide +kernel
theorem dL_same_1060 : decode cL_same 1060 = .ok (.aload_n 0, 1) := by decide +kernel
theorem dL_same_1061 : decode cL_same 1061 = .ok (.aload 8, 2) := by decide +kernel
theorem dL_same_1063 : decode cL_same 1063 = .ok (.iconst 0, 1) := by decide +kernel
theorem dL_same_1064 : decode cL_same 1064 = .ok (.iaload, 1) := by decide +kernel
theorem dL_same_1065 : decode cL_same 1065 = .ok (.iconst 0, 1) := by decide +kernel
theorem dL_same_1066 : decode cL_same 1066 = .ok (.invokevirtual 71, 3) := by decide +kernel
theorem dL_same_1069 : decode cL_same 1069 = .ok (.iconst (-1), 1) := by decide +kernel
theorem dL_same_1070 : decode cL_same 1070 = .ok (.if_icmp .ne 32, 3) := by decide +kernel
theorem dL_same_1073 : decode cL_same 1073 = .ok (.aload_n 0, 1) := by decide +kernel
theorem dL_same_1074 : decode cL_same 1074 = .ok (.iload 18, 2) := by decide +kernel
theorem dL_same_1076 : decode cL_same 1076 = .ok (.iload 19, 2) := by decide +kernel
theorem dL_same_1078 : decode cL_same 1078 = .ok (.iload 20, 2) := by decide +kernel
theorem dL_same_1080 : decode cL_same 1080 = .ok (.invokevirtual 74, 3) := by decide +kernel
theorem dL_same_1083 : decode cL_same 1083 = .ok (.iload 21, 2) := by decide +kernel
theorem dL_same_1085 : decode cL_same 1085 = .ok (.ifCond .eq 8, 3) := by decide +kernel
theorem dL_same_1088 : decode cL_same 1088 = .ok (.iload 23, 2) := by decide +kernel
theorem dL_same_1090 : decode cL_same 1090 = .ok (.goto 5, 3) := by decide +kernel
theorem dL_same_1093 : decode cL_same 1093 = .ok (.bipush (-2), 2) := by decide +kernel
theorem dL_same_1095 : decode cL_same 1095 = .ok (.if_icmp .ne 7, 3) := by decide +kernel
theorem dL_same_1098 : decode cL_same 1098 = .ok (.iconst 1, 1) := by decide +kernel
theorem dL_same_1099 : decode cL_same 1099 = .ok (.goto 4, 3) := by decide +kernel
theorem dL_same_1102 : decode cL_same 1102 = .ok (.iconst 0, 1) := by decide +kernel
theorem dL_same_1103 : decode cL_same 1103 = .ok (.ireturn, 1) := by decide +kernel
theorem dL_law_0 : decode cL_law 0 = .ok (.new 37, 3) := by decide +kernel
theorem dL_law_3 : decode cL_law 3 = .ok (.dup, 1) := by decide +kernel
theorem dL_law_4 : decode cL_law 4 = .ok (.invokespecial 78, 3) := by decide +kernel
theorem dL_law_7 : decode cL_law 7 = .ok (.astore_n 1, 1) := by decide +kernel
theorem dL_law_8 : decode cL_law 8 = .ok (.bipush 6, 2) := by decide +kernel
theorem dL_law_10 : decode cL_law 10 = .ok (.newarray .int, 2) := by decide +kernel
theorem dL_law_12 : decode cL_law 12 = .ok (.astore_n 2, 1) := by decide +kernel
theorem dL_law_13 : decode cL_law 13 = .ok (.bipush 6, 2) := by decide +kernel
theorem dL_law_15 : decode cL_law 15 = .ok (.newarray .int, 2) := by decide +kernel
theorem dL_law_17 : decode cL_law 17 = .ok (.astore_n 3, 1) := by decide +kernel
theorem dL_law_18 : decode cL_law 18 = .ok (.bipush 6, 2) := by decide +kernel
theorem dL_law_20 : decode cL_law 20 = .ok (.newarray .int, 2) := by decide +kernel
theorem dL_law_22 : decode cL_law 22 = .ok (.astore 4, 2) := by decide +kernel
theorem dL_law_24 : decode cL_law 24 = .ok (.bipush 60, 2) := by decide +kernel
theorem dL_law_26 : decode cL_law 26 = .ok (.newarray .int, 2) := by decide +kernel
theorem dL_law_28 : decode cL_law 28 = .ok (.astore 5, 2) := by decide +kernel
theorem dL_law_30 : decode cL_law 30 = .ok (.iconst 3, 1) := by decide +kernel
theorem dL_law_31 : decode cL_law 31 = .ok (.newarray .int, 2) := by decide +kernel
theorem dL_law_33 : decode cL_law 33 = .ok (.astore 6, 2) := by decide +kernel
theorem dL_law_35 : decode cL_law 35 = .ok (.bipush 6, 2) := by decide +kernel
theorem dL_law_37 : decode cL_law 37 = .ok (.newarray .int, 2) := by decide +kernel
theorem dL_law_39 : decode cL_law 39 = .ok (.astore 7, 2) := by decide +kernel
theorem dL_law_41 : decode cL_law 41 = .ok (.bipush 51, 2) := by decide +kernel
theorem dL_law_43 : decode cL_law 43 = .ok (.newarray .int, 2) := by decide +kernel
theorem dL_law_45 : decode cL_law 45 = .ok (.astore 8, 2) := by decide +kernel
theorem dL_law_47 : decode cL_law 47 = .ok (.aload 6, 2) := by decide +kernel
theorem dL_law_49 : decode cL_law 49 = .ok (.iconst 0, 1) := by decide +kernel
theorem dL_law_50 : decode cL_law 50 = .ok (.iconst 3, 1) := by decide +kernel
theorem dL_law_51 : decode cL_law 51 = .ok (.aload_n 0, 1) := by decide +kernel
theorem dL_law_52 : decode cL_law 52 = .ok (.iconst 0, 1) := by decide +kernel
theorem dL_law_53 : decode cL_law 53 = .ok (.invokestatic 79, 3) := by decide +kernel
theorem dL_law_56 : decode cL_law 56 = .ok (.iconst 3, 1) := by decide +kernel
theorem dL_law_57 : decode cL_law 57 = .ok (.invokestatic 68, 3) := by decide +kernel
theorem dL_law_60 : decode cL_law 60 = .ok (.iadd, 1) := by decide +kernel
theorem dL_law_61 : decode cL_law 61 = .ok (.iastore, 1) := by decide +kernel
theorem dL_law_62 : decode cL_law 62 = .ok (.aload_n 1, 1) := by decide +kernel
theorem dL_law_63 : decode cL_law 63 = .ok (.aload 6, 2) := by decide +kernel
theorem dL_law_65 : decode cL_law 65 = .ok (.iconst 0, 1) := by decide +kernel
theorem dL_law_66 : decode cL_law 66 = .ok (.iaload, 1) := by decide +kernel
theorem dL_law_67 : decode cL_law 67 = .ok (.invokevirtual 83, 3) := by decide +kernel
theorem dL_law_70 : decode cL_law 70 = .ok (.iconst 4, 1) := by decide +kernel
theorem dL_law_71 : decode cL_law 71 = .ok (.if_icmp .eq 5, 3) := by decide +kernel
theorem dL_law_74 : decode cL_law 74 = .ok (.iconst 0, 1) := by decide +kernel
theorem dL_law_75 : decode cL_law 75 = .ok (.ireturn, 1) := by decide +kernel
theorem dL_law_76 : decode cL_law 76 = .ok (.iconst 0, 1) := by decide +kernel
theorem dL_law_77 : decode cL_law 77 = .ok (.istore 9, 2) := by decide +kernel
theorem dL_law_79 : decode cL_law 79 = .ok (.iload 9, 2) := by decide +kernel
theorem dL_law_81 : decode cL_law 81 = .ok (.aload 6, 2) := by decide +kernel
theorem dL_law_83 : decode cL_law 83 = .ok (.iconst 0, 1) := by decide +kernel
theorem dL_law_84 : decode cL_law 84 = .ok (.iaload, 1) := by decide +kernel
theorem dL_law_85 : decode cL_law 85 = .ok (.if_icmp .ge 32, 3) := by decide +kernel
theorem dL_law_88 : decode cL_law 88 = .ok (.aload_n 2, 1) := by decide +kernel
theorem dL_law_89 : decode cL_law 89 = .ok (.iload 9, 2) := by decide +kernel
theorem dL_law_91 : decode cL_law 91 = .ok (.iload 9, 2) := by decide +kernel
theorem dL_law_93 : decode cL_law 93 = .ok (.iconst 1, 1) := by decide +kernel
theorem dL_law_94 : decode cL_law 94 = .ok (.iadd, 1) := by decide +kernel
theorem dL_law_95 : decode cL_law 95 = .ok (.aload 6, 2) := by decide +kernel
theorem dL_law_97 : decode cL_law 97 = .ok (.iconst 0, 1) := by decide +kernel
theorem dL_law_98 : decode cL_law 98 = .ok (.iaload, 1) := by decide +kernel
theorem dL_law_99 : decode cL_law 99 = .ok (.if_icmp .ne 7, 3) := by decide +kernel
theorem dL_law_102 : decode cL_law 102 = .ok (.iconst 0, 1) := by decide +kernel
theorem dL_law_103 : decode cL_law 103 = .ok (.goto 7, 3) := by decide +kernel
theorem dL_law_106 : decode cL_law 106 = .ok (.iload 9, 2) := by decide +kernel
theorem dL_law_108 : decode cL_law 108 = .ok (.iconst 1, 1) := by decide +kernel
theorem dL_law_109 : decode cL_law 109 = .ok (.iadd, 1) := by decide +kernel
theorem dL_law_110 : decode cL_law 110 = .ok (.iastore, 1) := by decide +kernel
theorem dL_law_111 : decode cL_law 111 = .ok (.iinc 9 1, 3) := by decide +kernel
theorem dL_law_114 : decode cL_law 114 = .ok (.goto (-35), 3) := by decide +kernel
theorem dL_law_117 : decode cL_law 117 = .ok (.iconst 0, 1) := by decide +kernel
theorem dL_law_118 : decode cL_law 118 = .ok (.istore 9, 2) := by decide +kernel
theorem dL_law_120 : decode cL_law 120 = .ok (.iload 9, 2) := by decide +kernel
theorem dL_law_122 : decode cL_law 122 = .ok (.bipush 20, 2) := by decide +kernel
theorem dL_law_124 : decode cL_law 124 = .ok (.if_icmp .ge 1029, 3) := by decide +kernel
theorem dL_law_127 : decode cL_law 127 = .ok (.aload_n 0, 1) := by decide +kernel
theorem dL_law_128 : decode cL_law 128 = .ok (.iconst 1, 1) := by decide +kernel
theorem dL_law_129 : decode cL_law 129 = .ok (.iconst 2, 1) := by decide +kernel
theorem dL_law_130 : decode cL_law 130 = .ok (.iload 9, 2) := by decide +kernel
theorem dL_law_132 : decode cL_law 132 = .ok (.imul, 1) := by decide +kernel
theorem dL_law_133 : decode cL_law 133 = .ok (.iadd, 1) := by decide +kernel
theorem dL_law_134 : decode cL_law 134 = .ok (.invokestatic 79, 3) := by decide +kernel
theorem dL_law_137 : decode cL_law 137 = .ok (.istore 10, 2) := by decide +kernel
theorem dL_law_139 : decode cL_law 139 = .ok (.aload_n 0, 1) := by decide +kernel
theorem dL_law_140 : decode cL_law 140 = .ok (.iconst 2, 1) := by decide +kernel
theorem dL_law_141 : decode cL_law 141 = .ok (.iconst 2, 1) := by decide +kernel
theorem dL_law_142 : decode cL_law 142 = .ok (.iload 9, 2) := by decide +kernel
theorem dL_law_144 : decode cL_law 144 = .ok (.imul, 1) := by decide +kernel
theorem dL_law_145 : decode cL_law 145 = .ok (.iadd, 1) := by decide +kernel
theorem dL_law_146 : decode cL_law 146 = .ok (.invokestatic 79, 3) := by decide +kernel
theorem dL_law_149 : decode cL_law 149 = .ok (.istore 11, 2) := by decide +kernel
theorem dL_law_151 : decode cL_law 151 = .ok (.iload 9, 2) := by decide +kernel
theorem dL_law_153 : decode cL_law 153 = .ok (.iconst 3, 1) := by decide +kernel
theorem dL_law_154 : decode cL_law 154 = .ok (.if_icmp .ge 7, 3) := by decide +kernel
theorem dL_law_157 : decode cL_law 157 = .ok (.iconst 0, 1) := by decide +kernel
theorem dL_law_158 : decode cL_law 158 = .ok (.goto 10, 3) := by decide +kernel
theorem dL_law_161 : decode cL_law 161 = .ok (.iload 10, 2) := by decide +kernel
theorem dL_law_163 : decode cL_law 163 = .ok (.bipush 10, 2) := by decide +kernel
theorem dL_law_165 : decode cL_law 165 = .ok (.invokestatic 68, 3) := by decide +kernel
theorem dL_law_168 : decode cL_law 168 = .ok (.istore 12, 2) := by decide +kernel
theorem dL_law_170 : decode cL_law 170 = .ok (.aload 6, 2) := by decide +kernel
theorem dL_law_172 : decode cL_law 172 = .ok (.iconst 1, 1) := by decide +kernel
theorem dL_law_173 : decode cL_law 173 = .ok (.iaload, 1) := by decide +kernel
theorem dL_law_174 : decode cL_law 174 = .ok (.ifCond .ne 7, 3) := by decide +kernel
theorem dL_law_177 : decode cL_law 177 = .ok (.iconst 0, 1) := by decide +kernel
theorem dL_law_178 : decode cL_law 178 = .ok (.goto 14, 3) := by decide +kernel
theorem dL_law_181 : decode cL_law 181 = .ok (.iload 10, 2) := by decide +kernel
theorem dL_law_183 : decode cL_law 183 = .ok (.iconst 4, 1) := by decide +kernel
theorem dL_law_184 : decode cL_law 184 = .ok (.ishr, 1) := by decide +kernel
theorem dL_law_185 : decode cL_law 185 = .ok (.aload 6, 2) := by decide +kernel
theorem dL_law_187 : decode cL_law 187 = .ok (.iconst 1, 1) := by decide +kernel
theorem dL_law_188 : decode cL_law 188 = .ok (.iaload, 1) := by decide +kernel
theorem dL_law_189 : decode cL_law 189 = .ok (.invokestatic 68, 3) := by decide +kernel
theorem dL_law_192 : decode cL_law 192 = .ok (.istore 13, 2) := by decide +kernel
theorem dL_law_194 : decode cL_law 194 = .ok (.iload 12, 2) := by decide +kernel
theorem dL_law_196 : decode cL_law 196 = .ok (.iconst 3, 1) := by decide +kernel
theorem dL_law_197 : decode cL_law 197 = .ok (.if_icmp .ge 200, 3) := by decide +kernel
theorem dL_law_200 : decode cL_law 200 = .ok (.aload 6, 2) := by decide +kernel
theorem dL_law_202 : decode cL_law 202 = .ok (.iconst 1, 1) := by decide +kernel
theorem dL_law_203 : decode cL_law 203 = .ok (.iaload, 1) := by decide +kernel
theorem dL_law_204 : decode cL_law 204 = .ok (.bipush 12, 2) := by decide +kernel
theorem dL_law_206 : decode cL_law 206 = .ok (.if_icmp .ne 6, 3) := by decide +kernel
theorem dL_law_209 : decode cL_law 209 = .ok (.goto 938, 3) := by decide +kernel
theorem dL_law_212 : decode cL_law 212 = .ok (.iconst 5, 1) := by decide +kernel
theorem dL_law_213 : decode cL_law 213 = .ok (.aload 6, 2) := by decide +kernel
theorem dL_law_215 : decode cL_law 215 = .ok (.iconst 1, 1) := by decide +kernel
theorem dL_law_216 : decode cL_law 216 = .ok (.iaload, 1) := by decide +kernel
theorem dL_law_217 : decode cL_law 217 = .ok (.imul, 1) := by decide +kernel
theorem dL_law_218 : decode cL_law 218 = .ok (.istore 14, 2) := by decide +kernel
theorem dL_law_220 : decode cL_law 220 = .ok (.iload 11, 2) := by decide +kernel
theorem dL_law_222 : decode cL_law 222 = .ok (.bipush 6, 2) := by decide +kernel
theorem dL_law_224 : decode cL_law 224 = .ok (.invokestatic 68, 3) := by decide +kernel
theorem dL_law_227 : decode cL_law 227 = .ok (.istore 15, 2) := by decide +kernel
theorem dL_law_229 : decode cL_law 229 = .ok (.iload 11, 2) := by decide +kernel
theorem dL_law_231 : decode cL_law 231 = .ok (.iconst 3, 1) := by decide +kernel
theorem dL_law_232 : decode cL_law 232 = .ok (.ishr, 1) := by decide +kernel
theorem dL_law_233 : decode cL_law 233 = .ok (.aload 6, 2) := by decide +kernel
theorem dL_law_235 : decode cL_law 235 = .ok (.iconst 0, 1) := by decide +kernel
theorem dL_law_236 : decode cL_law 236 = .ok (.iaload, 1) := by decide +kernel
theorem dL_law_237 : decode cL_law 237 = .ok (.invokestatic 68, 3) := by decide +kernel
theorem dL_law_240 : decode cL_law 240 = .ok (.istore 16, 2) := by decide +kernel
theorem dL_law_242 : decode cL_law 242 = .ok (.iload 15, 2) := by decide +kernel
theorem dL_law_244 : decode cL_law 244 = .ok (.iconst 4, 1) := by decide +kernel
theorem dL_law_245 : decode cL_law 245 = .ok (.if_icmp .ne 15, 3) := by decide +kernel
theorem dL_law_248 : decode cL_law 248 = .ok (.iload 11, 2) := by decide +kernel
theorem dL_law_250 : decode cL_law 250 = .ok (.bipush 6, 2) := by decide +kernel
theorem dL_law_252 : decode cL_law 252 = .ok (.ishr, 1) := by decide +kernel
theorem dL_law_253 : decode cL_law 253 = .ok (.iconst 4, 1) := by decide +kernel
theorem dL_law_254 : decode cL_law 254 = .ok (.invokestatic 68, 3) := by decide +kernel
theorem dL_law_257 : decode cL_law 257 = .ok (.goto 15, 3) := by decide +kernel
theorem dL_law_260 : decode cL_law 260 = .ok (.iload 11, 2) := by decide +kernel
theorem dL_law_262 : decode cL_law 262 = .ok (.bipush 6, 2) := by decide +kernel
theorem dL_law_264 : decode cL_law 264 = .ok (.ishr, 1) := by decide +kernel
theorem dL_law_265 : decode cL_law 265 = .ok (.aload 6, 2) := by decide +kernel
theorem dL_law_267 : decode cL_law 267 = .ok (.iconst 0, 1) := by decide +kernel
theorem dL_law_268 : decode cL_law 268 = .ok (.iaload, 1) := by decide +kernel
theorem dL_law_269 : decode cL_law 269 = .ok (.invokestatic 68, 3) := by decide +kernel
theorem dL_law_272 : decode cL_law 272 = .ok (.istore 17, 2) := by decide +kernel
theorem dL_law_274 : decode cL_law 274 = .ok (.iload 15, 2) := by decide +kernel
theorem dL_law_276 : decode cL_law 276 = .ok (.iconst 3, 1) := by decide +kernel
theorem dL_law_277 : decode cL_law 277 = .ok (.if_icmp .gt 10, 3) := by decide +kernel
theorem dL_law_280 : decode cL_law 280 = .ok (.iload 16, 2) := by decide +kernel
theorem dL_law_282 : decode cL_law 282 = .ok (.iload 17, 2) := by decide +kernel
theorem dL_law_284 : decode cL_law 284 = .ok (.if_icmp .eq 7, 3) := by decide +kernel
theorem dL_law_287 : decode cL_law 287 = .ok (.iconst 1, 1) := by decide +kernel
theorem dL_law_288 : decode cL_law 288 = .ok (.goto 4, 3) := by decide +kernel
theorem dL_law_291 : decode cL_law 291 = .ok (.iconst 0, 1) := by decide +kernel
theorem dL_law_292 : decode cL_law 292 = .ok (.istore 18, 2) := by decide +kernel
theorem dL_law_294 : decode cL_law 294 = .ok (.iload 11, 2) := by decide +kernel
theorem dL_law_296 : decode cL_law 296 = .ok (.bipush 9, 2) := by decide +kernel
theorem dL_law_298 : decode cL_law 298 = .ok (.ishr, 1) := by decide +kernel
theorem dL_law_299 : decode cL_law 299 = .ok (.aload 6, 2) := by decide +kernel
theorem dL_law_301 : decode cL_law 301 = .ok (.iconst 0, 1) := by decide +kernel
theorem dL_law_302 : decode cL_law 302 = .ok (.iaload, 1) := by decide +kernel
theorem dL_law_303 : decode cL_law 303 = .ok (.invokestatic 68, 3) := by decide +kernel
theorem dL_law_306 : decode cL_law 306 = .ok (.istore 19, 2) := by decide +kernel
theorem dL_law_308 : decode cL_law 308 = .ok (.aload_n 1, 1) := by decide +kernel
theorem dL_law_309 : decode cL_law 309 = .ok (.iload 19, 2) := by decide +kernel
theorem dL_law_311 : decode cL_law 311 = .ok (.iload 15, 2) := by decide +kernel
theorem dL_law_313 : decode cL_law 313 = .ok (.iload 16, 2) := by decide +kernel
theorem dL_law_315 : decode cL_law 315 = .ok (.iload 17, 2) := by decide +kernel
theorem dL_law_317 : decode cL_law 317 = .ok (.invokevirtual 86, 3) := by decide +kernel
theorem dL_law_320 : decode cL_law 320 = .ok (.iload 18, 2) := by decide +kernel
theorem dL_law_322 : decode cL_law 322 = .ok (.ifCond .eq 10, 3) := by decide +kernel
theorem dL_law_325 : decode cL_law 325 = .ok (.aload 6, 2) := by decide +kernel
theorem dL_law_327 : decode cL_law 327 = .ok (.iconst 1, 1) := by decide +kernel
theorem dL_law_328 : decode cL_law 328 = .ok (.iaload, 1) := by decide +kernel
theorem dL_law_329 : decode cL_law 329 = .ok (.goto 5, 3) := by decide +kernel
theorem dL_law_332 : decode cL_law 332 = .ok (.bipush (-2), 2) := by decide +kernel
theorem dL_law_334 : decode cL_law 334 = .ok (.if_icmp .eq 5, 3) := by decide +kernel
theorem dL_law_337 : decode cL_law 337 = .ok (.iconst 0, 1) := by decide +kernel
theorem dL_law_338 : decode cL_law 338 = .ok (.ireturn, 1) := by decide +kernel
theorem dL_law_339 : decode cL_law 339 = .ok (.iload 18, 2) := by decide +kernel
theorem dL_law_341 : decode cL_law 341 = .ok (.ifCond .eq 53, 3) := by decide +kernel
theorem dL_law_344 : decode cL_law 344 = .ok (.aload 5, 2) := by decide +kernel
theorem dL_law_346 : decode cL_law 346 = .ok (.iload 14, 2) := by decide +kernel
theorem dL_law_348 : decode cL_law 348 = .ok (.iload 19, 2) := by decide +kernel
theorem dL_law_350 : decode cL_law 350 = .ok (.iastore, 1) := by decide +kernel
theorem dL_law_351 : decode cL_law 351 = .ok (.aload 5, 2) := by decide +kernel
theorem dL_law_353 : decode cL_law 353 = .ok (.iload 14, 2) := by decide +kernel
theorem dL_law_355 : decode cL_law 355 = .ok (.iconst 1, 1) := by decide +kernel
theorem dL_law_356 : decode cL_law 356 = .ok (.iadd, 1) := by decide +kernel
theorem dL_law_357 : decode cL_law 357 = .ok (.iload 15, 2) := by decide +kernel
theorem dL_law_359 : decode cL_law 359 = .ok (.iastore, 1) := by decide +kernel
theorem dL_law_360 : decode cL_law 360 = .ok (.aload 5, 2) := by decide +kernel
theorem dL_law_362 : decode cL_law 362 = .ok (.iload 14, 2) := by decide +kernel
theorem dL_law_364 : decode cL_law 364 = .ok (.iconst 2, 1) := by decide +kernel
theorem dL_law_365 : decode cL_law 365 = .ok (.iadd, 1) := by decide +kernel
theorem dL_law_366 : decode cL_law 366 = .ok (.iload 16, 2) := by decide +kernel
theorem dL_law_368 : decode cL_law 368 = .ok (.iastore, 1) := by decide +kernel
theorem dL_law_369 : decode cL_law 369 = .ok (.aload 5, 2) := by decide +kernel
theorem dL_law_371 : decode cL_law 371 = .ok (.iload 14, 2) := by decide +kernel
theorem dL_law_373 : decode cL_law 373 = .ok (.iconst 3, 1) := by decide +kernel
theorem dL_law_374 : decode cL_law 374 = .ok (.iadd, 1) := by decide +kernel
theorem dL_law_375 : decode cL_law 375 = .ok (.iload 17, 2) := by decide +kernel
theorem dL_law_377 : decode cL_law 377 = .ok (.iastore, 1) := by decide +kernel
theorem dL_law_378 : decode cL_law 378 = .ok (.aload 5, 2) := by decide +kernel
theorem dL_law_380 : decode cL_law 380 = .ok (.iload 14, 2) := by decide +kernel
theorem dL_law_382 : decode cL_law 382 = .ok (.iconst 4, 1) := by decide +kernel
theorem dL_law_383 : decode cL_law 383 = .ok (.iadd, 1) := by decide +kernel
theorem dL_law_384 : decode cL_law 384 = .ok (.iconst 0, 1) := by decide +kernel
theorem dL_law_385 : decode cL_law 385 = .ok (.iastore, 1) := by decide +kernel
theorem dL_law_386 : decode cL_law 386 = .ok (.aload 6, 2) := by decide +kernel
theorem dL_law_388 : decode cL_law 388 = .ok (.iconst 1, 1) := by decide +kernel
theorem dL_law_389 : decode cL_law 389 = .ok (.dup2, 1) := by decide +kernel
theorem dL_law_390 : decode cL_law 390 = .ok (.iaload, 1) := by decide +kernel
theorem dL_law_391 : decode cL_law 391 = .ok (.iconst 1, 1) := by decide +kernel
theorem dL_law_392 : decode cL_law 392 = .ok (.iadd, 1) := by decide +kernel
theorem dL_law_393 : decode cL_law 393 = .ok (.iastore, 1) := by decide +kernel
theorem dL_law_394 : decode cL_law 394 = .ok (.goto 728, 3) := by decide +kernel
theorem dL_law_397 : decode cL_law 397 = .ok (.iload 12, 2) := by decide +kernel
theorem dL_law_399 : decode cL_law 399 = .ok (.bipush 6, 2) := by decide +kernel
theorem dL_law_401 : decode cL_law 401 = .ok (.if_icmp .ge 148, 3) := by decide +kernel
theorem dL_law_404 : decode cL_law 404 = .ok (.aload 6, 2) := by decide +kernel
theorem dL_law_406 : decode cL_law 406 = .ok (.iconst 1, 1) := by decide +kernel
theorem dL_law_407 : decode cL_law 407 = .ok (.iaload, 1) := by decide +kernel
theorem dL_law_408 : decode cL_law 408 = .ok (.ifCond .le 36, 3) := by decide +kernel
theorem dL_law_411 : decode cL_law 411 = .ok (.iload 11, 2) := by decide +kernel
theorem dL_law_413 : decode cL_law 413 = .ok (.iconst 3, 1) := by decide +kernel
theorem dL_law_414 : decode cL_law 414 = .ok (.invokestatic 68, 3) := by decide +kernel
theorem dL_law_417 : decode cL_law 417 = .ok (.ifCond .le 7, 3) := by decide +kernel
theorem dL_law_420 : decode cL_law 420 = .ok (.iconst 1, 1) := by decide +kernel
theorem dL_law_421 : decode cL_law 421 = .ok (.goto 4, 3) := by decide +kernel
theorem dL_law_424 : decode cL_law 424 = .ok (.iconst 0, 1) := by decide +kernel
theorem dL_law_425 : decode cL_law 425 = .ok (.iload 13, 2) := by decide +kernel
theorem dL_law_427 : decode cL_law 427 = .ok (.aload 5, 2) := by decide +kernel
theorem dL_law_429 : decode cL_law 429 = .ok (.aload_n 2, 1) := by decide +kernel
theorem dL_law_430 : decode cL_law 430 = .ok (.aload 6, 2) := by decide +kernel
theorem dL_law_432 : decode cL_law 432 = .ok (.iconst 0, 1) := by decide +kernel
theorem dL_law_433 : decode cL_law 433 = .ok (.iaload, 1) := by decide +kernel
theorem dL_law_434 : decode cL_law 434 = .ok (.invokestatic 16, 3) := by decide +kernel
theorem dL_law_437 : decode cL_law 437 = .ok (.if_icmp .ne 7, 3) := by decide +kernel
theorem dL_law_440 : decode cL_law 440 = .ok (.iconst 1, 1) := by decide +kernel
theorem dL_law_441 : decode cL_law 441 = .ok (.goto 4, 3) := by decide +kernel
theorem dL_law_444 : decode cL_law 444 = .ok (.iconst 0, 1) := by decide +kernel
theorem dL_law_445 : decode cL_law 445 = .ok (.istore 14, 2) := by decide +kernel
theorem dL_law_447 : decode cL_law 447 = .ok (.aload 6, 2) := by decide +kernel
theorem dL_law_449 : decode cL_law 449 = .ok (.iconst 1, 1) := by decide +kernel
theorem dL_law_450 : decode cL_law 450 = .ok (.iaload, 1) := by decide +kernel
theorem dL_law_451 : decode cL_law 451 = .ok (.ifCond .le 19, 3) := by decide +kernel
theorem dL_law_454 : decode cL_law 454 = .ok (.aload 5, 2) := by decide +kernel
theorem dL_law_456 : decode cL_law 456 = .ok (.iconst 5, 1) := by decide +kernel
theorem dL_law_457 : decode cL_law 457 = .ok (.iload 13, 2) := by decide +kernel
theorem dL_law_459 : decode cL_law 459 = .ok (.imul, 1) := by decide +kernel
theorem dL_law_460 : decode cL_law 460 = .ok (.iconst 4, 1) := by decide +kernel
theorem dL_law_461 : decode cL_law 461 = .ok (.iadd, 1) := by decide +kernel
theorem dL_law_462 : decode cL_law 462 = .ok (.iaload, 1) := by decide +kernel
theorem dL_law_463 : decode cL_law 463 = .ok (.ifCond .ne 7, 3) := by decide +kernel
theorem dL_law_466 : decode cL_law 466 = .ok (.iconst 1, 1) := by decide +kernel
theorem dL_law_467 : decode cL_law 467 = .ok (.goto 4, 3) := by decide +kernel
theorem dL_law_470 : decode cL_law 470 = .ok (.iconst 0, 1) := by decide +kernel
theorem dL_law_471 : decode cL_law 471 = .ok (.istore 15, 2) := by decide +kernel
theorem dL_law_473 : decode cL_law 473 = .ok (.iload 15, 2) := by decide +kernel
theorem dL_law_475 : decode cL_law 475 = .ok (.ifCond .eq 22, 3) := by decide +kernel
theorem dL_law_478 : decode cL_law 478 = .ok (.aload 5, 2) := by decide +kernel
theorem dL_law_480 : decode cL_law 480 = .ok (.iconst 5, 1) := by decide +kernel
theorem dL_law_481 : decode cL_law 481 = .ok (.iload 13, 2) := by decide +kernel
theorem dL_law_483 : decode cL_law 483 = .ok (.imul, 1) := by decide +kernel
theorem dL_law_484 : decode cL_law 484 = .ok (.iconst 4, 1) := by decide +kernel
theorem dL_law_485 : decode cL_law 485 = .ok (.iadd, 1) := by decide +kernel
theorem dL_law_486 : decode cL_law 486 = .ok (.iload 14, 2) := by decide +kernel
theorem dL_law_488 : decode cL_law 488 = .ok (.ifCond .eq 7, 3) := by decide +kernel
theorem dL_law_491 : decode cL_law 491 = .ok (.iconst 1, 1) := by decide +kernel
theorem dL_law_492 : decode cL_law 492 = .ok (.goto 4, 3) := by decide +kernel
theorem dL_law_495 : decode cL_law 495 = .ok (.iconst 2, 1) := by decide +kernel
theorem dL_law_496 : decode cL_law 496 = .ok (.iastore, 1) := by decide +kernel
theorem dL_law_497 : decode cL_law 497 = .ok (.aload 6, 2) := by decide +kernel
theorem dL_law_499 : decode cL_law 499 = .ok (.aload 5, 2) := by decide +kernel
theorem dL_law_501 : decode cL_law 501 = .ok (.aload 7, 2) := by decide +kernel
theorem dL_law_503 : decode cL_law 503 = .ok (.aload 8, 2) := by decide +kernel
theorem dL_law_505 : decode cL_law 505 = .ok (.invokestatic 32, 3) := by decide +kernel
theorem dL_law_508 : decode cL_law 508 = .ok (.aload_n 1, 1) := by decide +kernel
theorem dL_law_509 : decode cL_law 509 = .ok (.iload 13, 2) := by decide +kernel
theorem dL_law_511 : decode cL_law 511 = .ok (.iload 14, 2) := by decide +kernel
theorem dL_law_513 : decode cL_law 513 = .ok (.invokevirtual 90, 3) := by decide +kernel
theorem dL_law_516 : decode cL_law 516 = .ok (.aload 6, 2) := by decide +kernel
theorem dL_law_518 : decode cL_law 518 = .ok (.iconst 1, 1) := by decide +kernel
theorem dL_law_519 : decode cL_law 519 = .ok (.iaload, 1) := by decide +kernel
theorem dL_law_520 : decode cL_law 520 = .ok (.ifCond .ne 7, 3) := by decide +kernel
theorem dL_law_523 : decode cL_law 523 = .ok (.iconst (-1), 1) := by decide +kernel
theorem dL_law_524 : decode cL_law 524 = .ok (.goto 17, 3) := by decide +kernel
theorem dL_law_527 : decode cL_law 527 = .ok (.iload 15, 2) := by decide +kernel
theorem dL_law_529 : decode cL_law 529 = .ok (.ifCond .eq 10, 3) := by decide +kernel
theorem dL_law_532 : decode cL_law 532 = .ok (.aload 8, 2) := by decide +kernel
theorem dL_law_534 : decode cL_law 534 = .ok (.iconst 0, 1) := by decide +kernel
theorem dL_law_535 : decode cL_law 535 = .ok (.iaload, 1) := by decide +kernel
theorem dL_law_536 : decode cL_law 536 = .ok (.goto 5, 3) := by decide +kernel
theorem dL_law_539 : decode cL_law 539 = .ok (.bipush (-5), 2) := by decide +kernel
theorem dL_law_541 : decode cL_law 541 = .ok (.if_icmp .eq 5, 3) := by decide +kernel
theorem dL_law_544 : decode cL_law 544 = .ok (.iconst 0, 1) := by decide +kernel
theorem dL_law_545 : decode cL_law 545 = .ok (.ireturn, 1) := by decide +kernel
theorem dL_law_546 : decode cL_law 546 = .ok (.goto 576, 3) := by decide +kernel
theorem dL_law_549 : decode cL_law 549 = .ok (.iload 12, 2) := by decide +kernel
theorem dL_law_551 : decode cL_law 551 = .ok (.bipush 6, 2) := by decide +kernel
theorem dL_law_553 : decode cL_law 553 = .ok (.if_icmp .ne 94, 3) := by decide +kernel
theorem dL_law_556 : decode cL_law 556 = .ok (.aload 6, 2) := by decide +kernel
theorem dL_law_558 : decode cL_law 558 = .ok (.iconst 1, 1) := by decide +kernel
theorem dL_law_559 : decode cL_law 559 = .ok (.iaload, 1) := by decide +kernel
theorem dL_law_560 : decode cL_law 560 = .ok (.ifCond .le 19, 3) := by decide +kernel
theorem dL_law_563 : decode cL_law 563 = .ok (.aload 5, 2) := by decide +kernel
theorem dL_law_565 : decode cL_law 565 = .ok (.iconst 5, 1) := by decide +kernel
theorem dL_law_566 : decode cL_law 566 = .ok (.iload 13, 2) := by decide +kernel
theorem dL_law_568 : decode cL_law 568 = .ok (.imul, 1) := by decide +kernel
theorem dL_law_569 : decode cL_law 569 = .ok (.iconst 4, 1) := by decide +kernel
theorem dL_law_570 : decode cL_law 570 = .ok (.iadd, 1) := by decide +kernel
theorem dL_law_571 : decode cL_law 571 = .ok (.iaload, 1) := by decide +kernel
theorem dL_law_572 : decode cL_law 572 = .ok (.ifCond .eq 7, 3) := by decide +kernel
theorem dL_law_575 : decode cL_law 575 = .ok (.iconst 1, 1) := by decide +kernel
theorem dL_law_576 : decode cL_law 576 = .ok (.goto 4, 3) := by decide +kernel
theorem dL_law_579 : decode cL_law 579 = .ok (.iconst 0, 1) := by decide +kernel
theorem dL_law_580 : decode cL_law 580 = .ok (.istore 14, 2) := by decide +kernel
theorem dL_law_582 : decode cL_law 582 = .ok (.iload 14, 2) := by decide +kernel
theorem dL_law_584 : decode cL_law 584 = .ok (.ifCond .eq 13, 3) := by decide +kernel
theorem dL_law_587 : decode cL_law 587 = .ok (.aload 5, 2) := by decide +kernel
theorem dL_law_589 : decode cL_law 589 = .ok (.iconst 5, 1) := by decide +kernel
theorem dL_law_590 : decode cL_law 590 = .ok (.iload 13, 2) := by decide +kernel
theorem dL_law_592 : decode cL_law 592 = .ok (.imul, 1) := by decide +kernel
theorem dL_law_593 : decode cL_law 593 = .ok (.iconst 4, 1) := by decide +kernel
theorem dL_law_594 : decode cL_law 594 = .ok (.iadd, 1) := by decide +kernel
theorem dL_law_595 : decode cL_law 595 = .ok (.iconst 0, 1) := by decide +kernel
theorem dL_law_596 : decode cL_law 596 = .ok (.iastore, 1) := by decide +kernel
theorem dL_law_597 : decode cL_law 597 = .ok (.aload 6, 2) := by decide +kernel
theorem dL_law_599 : decode cL_law 599 = .ok (.aload 5, 2) := by decide +kernel
theorem dL_law_601 : decode cL_law 601 = .ok (.aload 7, 2) := by decide +kernel
theorem dL_law_603 : decode cL_law 603 = .ok (.aload 8, 2) := by decide +kernel
theorem dL_law_605 : decode cL_law 605 = .ok (.invokestatic 32, 3) := by decide +kernel
theorem dL_law_608 : decode cL_law 608 = .ok (.aload_n 1, 1) := by decide +kernel
theorem dL_law_609 : decode cL_law 609 = .ok (.iload 13, 2) := by decide +kernel
theorem dL_law_611 : decode cL_law 611 = .ok (.invokevirtual 94, 3) := by decide +kernel
theorem dL_law_614 : decode cL_law 614 = .ok (.aload 6, 2) := by decide +kernel
theorem dL_law_616 : decode cL_law 616 = .ok (.iconst 1, 1) := by decide +kernel
theorem dL_law_617 : decode cL_law 617 = .ok (.iaload, 1) := by decide +kernel
theorem dL_law_618 : decode cL_law 618 = .ok (.ifCond .ne 7, 3) := by decide +kernel
theorem dL_law_621 : decode cL_law 621 = .ok (.iconst (-1), 1) := by decide +kernel
theorem dL_law_622 : decode cL_law 622 = .ok (.goto 17, 3) := by decide +kernel
theorem dL_law_625 : decode cL_law 625 = .ok (.iload 14, 2) := by decide +kernel
theorem dL_law_627 : decode cL_law 627 = .ok (.ifCond .eq 10, 3) := by decide +kernel
theorem dL_law_630 : decode cL_law 630 = .ok (.aload 8, 2) := by decide +kernel
theorem dL_law_632 : decode cL_law 632 = .ok (.iconst 0, 1) := by decide +kernel
theorem dL_law_633 : decode cL_law 633 = .ok (.iaload, 1) := by decide +kernel
theorem dL_law_634 : decode cL_law 634 = .ok (.goto 5, 3) := by decide +kernel
theorem dL_law_637 : decode cL_law 637 = .ok (.bipush (-5), 2) := by decide +kernel
theorem dL_law_639 : decode cL_law 639 = .ok (.if_icmp .eq 5, 3) := by decide +kernel
theorem dL_law_642 : decode cL_law 642 = .ok (.iconst 0, 1) := by decide +kernel
theorem dL_law_643 : decode cL_law 643 = .ok (.ireturn, 1) := by decide +kernel
theorem dL_law_644 : decode cL_law 644 = .ok (.goto 478, 3) := by decide +kernel
theorem dL_law_647 : decode cL_law 647 = .ok (.iload 12, 2) := by decide +kernel
theorem dL_law_649 : decode cL_law 649 = .ok (.bipush 7, 2) := by decide +kernel
theorem dL_law_651 : decode cL_law 651 = .ok (.if_icmp .ne 216, 3) := by decide +kernel
theorem dL_law_654 : decode cL_law 654 = .ok (.iload 11, 2) := by decide +kernel
theorem dL_law_656 : decode cL_law 656 = .ok (.aload 6, 2) := by decide +kernel
theorem dL_law_658 : decode cL_law 658 = .ok (.iconst 0, 1) := by decide +kernel
theorem dL_law_659 : decode cL_law 659 = .ok (.iaload, 1) := by decide +kernel
theorem dL_law_660 : decode cL_law 660 = .ok (.invokestatic 68, 3) := by decide +kernel
theorem dL_law_663 : decode cL_law 663 = .ok (.istore 14, 2) := by decide +kernel
theorem dL_law_665 : decode cL_law 665 = .ok (.iload 14, 2) := by decide +kernel
theorem dL_law_667 : decode cL_law 667 = .ok (.iconst 1, 1) := by decide +kernel
theorem dL_law_668 : decode cL_law 668 = .ok (.iadd, 1) := by decide +kernel
theorem dL_law_669 : decode cL_law 669 = .ok (.iload 11, 2) := by decide +kernel
theorem dL_law_671 : decode cL_law 671 = .ok (.iconst 3, 1) := by decide +kernel
theorem dL_law_672 : decode cL_law 672 = .ok (.ishr, 1) := by decide +kernel
theorem dL_law_673 : decode cL_law 673 = .ok (.aload 6, 2) := by decide +kernel
theorem dL_law_675 : decode cL_law 675 = .ok (.iconst 0, 1) := by decide +kernel
theorem dL_law_676 : decode cL_law 676 = .ok (.iaload, 1) := by decide +kernel
theorem dL_law_677 : decode cL_law 677 = .ok (.iconst 1, 1) := by decide +kernel
theorem dL_law_678 : decode cL_law 678 = .ok (.isub, 1) := by decide +kernel
theorem dL_law_679 : decode cL_law 679 = .ok (.invokestatic 68, 3) := by decide +kernel
theorem dL_law_682 : decode cL_law 682 = .ok (.iadd, 1) := by decide +kernel
theorem dL_law_683 : decode cL_law 683 = .ok (.aload 6, 2) := by decide +kernel
theorem dL_law_685 : decode cL_law 685 = .ok (.iconst 0, 1) := by decide +kernel
theorem dL_law_686 : decode cL_law 686 = .ok (.iaload, 1) := by decide +kernel
theorem dL_law_687 : decode cL_law 687 = .ok (.irem, 1) := by decide +kernel
theorem dL_law_688 : decode cL_law 688 = .ok (.istore 15, 2) := by decide +kernel
theorem dL_law_690 : decode cL_law 690 = .ok (.iload 15, 2) := by decide +kernel
theorem dL_law_692 : decode cL_law 692 = .ok (.iconst 1, 1) := by decide +kernel
theorem dL_law_693 : decode cL_law 693 = .ok (.iadd, 1) := by decide +kernel
theorem dL_law_694 : decode cL_law 694 = .ok (.iload 11, 2) := by decide +kernel
theorem dL_law_696 : decode cL_law 696 = .ok (.bipush 6, 2) := by decide +kernel
theorem dL_law_698 : decode cL_law 698 = .ok (.ishr, 1) := by decide +kernel
theorem dL_law_699 : decode cL_law 699 = .ok (.aload 6, 2) := by decide +kernel
theorem dL_law_701 : decode cL_law 701 = .ok (.iconst 0, 1) := by decide +kernel
theorem dL_law_702 : decode cL_law 702 = .ok (.iaload, 1) := by decide +kernel
theorem dL_law_703 : decode cL_law 703 = .ok (.iconst 1, 1) := by decide +kernel
theorem dL_law_704 : decode cL_law 704 = .ok (.isub, 1) := by decide +kernel
theorem dL_law_705 : decode cL_law 705 = .ok (.invokestatic 68, 3) := by decide +kernel
theorem dL_law_708 : decode cL_law 708 = .ok (.iadd, 1) := by decide +kernel
theorem dL_law_709 : decode cL_law 709 = .ok (.aload 6, 2) := by decide +kernel
theorem dL_law_711 : decode cL_law 711 = .ok (.iconst 0, 1) := by decide +kernel
theorem dL_law_712 : decode cL_law 712 = .ok (.iaload, 1) := by decide +kernel
theorem dL_law_713 : decode cL_law 713 = .ok (.irem, 1) := by decide +kernel
theorem dL_law_714 : decode cL_law 714 = .ok (.istore 16, 2) := by decide +kernel
theorem dL_law_716 : decode cL_law 716 = .ok (.aload 6, 2) := by decide +kernel
theorem dL_law_718 : decode cL_law 718 = .ok (.aload 5, 2) := by decide +kernel
theorem dL_law_720 : decode cL_law 720 = .ok (.aload 7, 2) := by decide +kernel
theorem dL_law_722 : decode cL_law 722 = .ok (.aload 8, 2) := by decide +kernel
theorem dL_law_724 : decode cL_law 724 = .ok (.invokestatic 32, 3) := by decide +kernel
theorem dL_law_727 : decode cL_law 727 = .ok (.aload 8, 2) := by decide +kernel
theorem dL_law_729 : decode cL_law 729 = .ok (.iconst 1, 1) := by decide +kernel
theorem dL_law_730 : decode cL_law 730 = .ok (.bipush 6, 2) := by decide +kernel
theorem dL_law_732 : decode cL_law 732 = .ok (.iload 15, 2) := by decide +kernel
theorem dL_law_734 : decode cL_law 734 = .ok (.imul, 1) := by decide +kernel
theorem dL_law_735 : decode cL_law 735 = .ok (.iadd, 1) := by decide +kernel
theorem dL_law_736 : decode cL_law 736 = .ok (.iload 16, 2) := by decide +kernel
theorem dL_law_738 : decode cL_law 738 = .ok (.iadd, 1) := by decide +kernel
theorem dL_law_739 : decode cL_law 739 = .ok (.iaload, 1) := by decide +kernel
theorem dL_law_740 : decode cL_law 740 = .ok (.istore 17, 2) := by decide +kernel
theorem dL_law_742 : decode cL_law 742 = .ok (.aload_n 2, 1) := by decide +kernel
theorem dL_law_743 : decode cL_law 743 = .ok (.iload 15, 2) := by decide +kernel
theorem dL_law_745 : decode cL_law 745 = .ok (.iaload, 1) := by decide +kernel
theorem dL_law_746 : decode cL_law 746 = .ok (.iload 16, 2) := by decide +kernel
theorem dL_law_748 : decode cL_law 748 = .ok (.if_icmp .ne 27, 3) := by decide +kernel
theorem dL_law_751 : decode cL_law 751 = .ok (.aload 8, 2) := by decide +kernel
theorem dL_law_753 : decode cL_law 753 = .ok (.iconst 0, 1) := by decide +kernel
theorem dL_law_754 : decode cL_law 754 = .ok (.iaload, 1) := by decide +kernel
theorem dL_law_755 : decode cL_law 755 = .ok (.ifCond .le 16, 3) := by decide +kernel
theorem dL_law_758 : decode cL_law 758 = .ok (.iload 17, 2) := by decide +kernel
theorem dL_law_760 : decode cL_law 760 = .ok (.aload 8, 2) := by decide +kernel
theorem dL_law_762 : decode cL_law 762 = .ok (.iconst 0, 1) := by decide +kernel
theorem dL_law_763 : decode cL_law 763 = .ok (.iaload, 1) := by decide +kernel
theorem dL_law_764 : decode cL_law 764 = .ok (.if_icmp .ne 7, 3) := by decide +kernel
theorem dL_law_767 : decode cL_law 767 = .ok (.iconst 3, 1) := by decide +kernel
theorem dL_law_768 : decode cL_law 768 = .ok (.goto 26, 3) := by decide +kernel
theorem dL_law_771 : decode cL_law 771 = .ok (.iconst 5, 1) := by decide +kernel
theorem dL_law_772 : decode cL_law 772 = .ok (.goto 22, 3) := by decide +kernel
theorem dL_law_775 : decode cL_law 775 = .ok (.aload 8, 2) := by decide +kernel
theorem dL_law_777 : decode cL_law 777 = .ok (.iconst 0, 1) := by decide +kernel
theorem dL_law_778 : decode cL_law 778 = .ok (.iaload, 1) := by decide +kernel
theorem dL_law_779 : decode cL_law 779 = .ok (.ifCond .le 13, 3) := by decide +kernel
theorem dL_law_782 : decode cL_law 782 = .ok (.iload 17, 2) := by decide +kernel
theorem dL_law_784 : decode cL_law 784 = .ok (.ifCond .ne 8, 3) := by decide +kernel
theorem dL_law_787 : decode cL_law 787 = .ok (.bipush (-4), 2) := by decide +kernel
theorem dL_law_789 : decode cL_law 789 = .ok (.goto 5, 3) := by decide +kernel
theorem dL_law_792 : decode cL_law 792 = .ok (.bipush (-2), 2) := by decide +kernel
theorem dL_law_794 : decode cL_law 794 = .ok (.istore 18, 2) := by decide +kernel
theorem dL_law_796 : decode cL_law 796 = .ok (.aload 4, 2) := by decide +kernel
theorem dL_law_798 : decode cL_law 798 = .ok (.iload 14, 2) := by decide +kernel
theorem dL_law_800 : decode cL_law 800 = .ok (.iaload, 1) := by decide +kernel
theorem dL_law_801 : decode cL_law 801 = .ok (.ifCond .ne 7, 3) := by decide +kernel
theorem dL_law_804 : decode cL_law 804 = .ok (.iconst 1, 1) := by decide +kernel
theorem dL_law_805 : decode cL_law 805 = .ok (.goto 4, 3) := by decide +kernel
theorem dL_law_808 : decode cL_law 808 = .ok (.iconst 0, 1) := by decide +kernel
theorem dL_law_809 : decode cL_law 809 = .ok (.istore 19, 2) := by decide +kernel
theorem dL_law_811 : decode cL_law 811 = .ok (.iload 19, 2) := by decide +kernel
theorem dL_law_813 : decode cL_law 813 = .ok (.ifCond .eq 12, 3) := by decide +kernel
theorem dL_law_816 : decode cL_law 816 = .ok (.aload_n 3, 1) := by decide +kernel
theorem dL_law_817 : decode cL_law 817 = .ok (.iload 14, 2) := by decide +kernel
theorem dL_law_819 : decode cL_law 819 = .ok (.dup2, 1) := by decide +kernel
theorem dL_law_820 : decode cL_law 820 = .ok (.iaload, 1) := by decide +kernel
theorem dL_law_821 : decode cL_law 821 = .ok (.iload 18, 2) := by decide +kernel
theorem dL_law_823 : decode cL_law 823 = .ok (.iadd, 1) := by decide +kernel
theorem dL_law_824 : decode cL_law 824 = .ok (.iastore, 1) := by decide +kernel
theorem dL_law_825 : decode cL_law 825 = .ok (.aload 4, 2) := by decide +kernel
theorem dL_law_827 : decode cL_law 827 = .ok (.iload 14, 2) := by decide +kernel
theorem dL_law_829 : decode cL_law 829 = .ok (.iconst 1, 1) := by decide +kernel
theorem dL_law_830 : decode cL_law 830 = .ok (.iastore, 1) := by decide +kernel
theorem dL_law_831 : decode cL_law 831 = .ok (.aload_n 1, 1) := by decide +kernel
theorem dL_law_832 : decode cL_law 832 = .ok (.iload 14, 2) := by decide +kernel
theorem dL_law_834 : decode cL_law 834 = .ok (.iload 15, 2) := by decide +kernel
theorem dL_law_836 : decode cL_law 836 = .ok (.iload 16, 2) := by decide +kernel
theorem dL_law_838 : decode cL_law 838 = .ok (.invokevirtual 97, 3) := by decide +kernel
theorem dL_law_841 : decode cL_law 841 = .ok (.iload 19, 2) := by decide +kernel
theorem dL_law_843 : decode cL_law 843 = .ok (.ifCond .eq 14, 3) := by decide +kernel
theorem dL_law_846 : decode cL_law 846 = .ok (.aload_n 3, 1) := by decide +kernel
theorem dL_law_847 : decode cL_law 847 = .ok (.iload 14, 2) := by decide +kernel
theorem dL_law_849 : decode cL_law 849 = .ok (.iaload, 1) := by decide +kernel
theorem dL_law_850 : decode cL_law 850 = .ok (.sipush 1000, 3) := by decide +kernel
theorem dL_law_853 : decode cL_law 853 = .ok (.iadd, 1) := by decide +kernel
theorem dL_law_854 : decode cL_law 854 = .ok (.goto 5, 3) := by decide +kernel
theorem dL_law_857 : decode cL_law 857 = .ok (.bipush (-5), 2) := by decide +kernel
theorem dL_law_859 : decode cL_law 859 = .ok (.if_icmp .eq 5, 3) := by decide +kernel
theorem dL_law_862 : decode cL_law 862 = .ok (.iconst 0, 1) := by decide +kernel
theorem dL_law_863 : decode cL_law 863 = .ok (.ireturn, 1) := by decide +kernel
theorem dL_law_864 : decode cL_law 864 = .ok (.goto 258, 3) := by decide +kernel
theorem dL_law_867 : decode cL_law 867 = .ok (.iload 12, 2) := by decide +kernel
theorem dL_law_869 : decode cL_law 869 = .ok (.bipush 8, 2) := by decide +kernel
theorem dL_law_871 : decode cL_law 871 = .ok (.if_icmp .ne 65, 3) := by decide +kernel
theorem dL_law_874 : decode cL_law 874 = .ok (.iload 11, 2) := by decide +kernel
theorem dL_law_876 : decode cL_law 876 = .ok (.aload 6, 2) := by decide +kernel
theorem dL_law_878 : decode cL_law 878 = .ok (.iconst 0, 1) := by decide +kernel
theorem dL_law_879 : decode cL_law 879 = .ok (.iaload, 1) := by decide +kernel
theorem dL_law_880 : decode cL_law 880 = .ok (.invokestatic 68, 3) := by decide +kernel
theorem dL_law_883 : decode cL_law 883 = .ok (.istore 14, 2) := by decide +kernel
theorem dL_law_885 : decode cL_law 885 = .ok (.iload 14, 2) := by decide +kernel
theorem dL_law_887 : decode cL_law 887 = .ok (.iconst 1, 1) := by decide +kernel
theorem dL_law_888 : decode cL_law 888 = .ok (.iadd, 1) := by decide +kernel
theorem dL_law_889 : decode cL_law 889 = .ok (.iload 11, 2) := by decide +kernel
theorem dL_law_891 : decode cL_law 891 = .ok (.iconst 3, 1) := by decide +kernel
theorem dL_law_892 : decode cL_law 892 = .ok (.ishr, 1) := by decide +kernel
theorem dL_law_893 : decode cL_law 893 = .ok (.aload 6, 2) := by decide +kernel
theorem dL_law_895 : decode cL_law 895 = .ok (.iconst 0, 1) := by decide +kernel
theorem dL_law_896 : decode cL_law 896 = .ok (.iaload, 1) := by decide +kernel
theorem dL_law_897 : decode cL_law 897 = .ok (.iconst 1, 1) := by decide +kernel
theorem dL_law_898 : decode cL_law 898 = .ok (.isub, 1) := by decide +kernel
theorem dL_law_899 : decode cL_law 899 = .ok (.invokestatic 68, 3) := by decide +kernel
theorem dL_law_902 : decode cL_law 902 = .ok (.iadd, 1) := by decide +kernel
theorem dL_law_903 : decode cL_law 903 = .ok (.aload 6, 2) := by decide +kernel
theorem dL_law_905 : decode cL_law 905 = .ok (.iconst 0, 1) := by decide +kernel
theorem dL_law_906 : decode cL_law 906 = .ok (.iaload, 1) := by decide +kernel
theorem dL_law_907 : decode cL_law 907 = .ok (.irem, 1) := by decide +kernel
theorem dL_law_908 : decode cL_law 908 = .ok (.istore 15, 2) := by decide +kernel
theorem dL_law_910 : decode cL_law 910 = .ok (.aload_n 1, 1) := by decide +kernel
theorem dL_law_911 : decode cL_law 911 = .ok (.iload 14, 2) := by decide +kernel
theorem dL_law_913 : decode cL_law 913 = .ok (.iload 15, 2) := by decide +kernel
theorem dL_law_915 : decode cL_law 915 = .ok (.invokevirtual 100, 3) := by decide +kernel
theorem dL_law_918 : decode cL_law 918 = .ok (.aload_n 2, 1) := by decide +kernel
theorem dL_law_919 : decode cL_law 919 = .ok (.iload 14, 2) := by decide +kernel
theorem dL_law_921 : decode cL_law 921 = .ok (.iaload, 1) := by decide +kernel
theorem dL_law_922 : decode cL_law 922 = .ok (.if_icmp .eq 5, 3) := by decide +kernel
theorem dL_law_925 : decode cL_law 925 = .ok (.iconst 0, 1) := by decide +kernel
theorem dL_law_926 : decode cL_law 926 = .ok (.ireturn, 1) := by decide +kernel
theorem dL_law_927 : decode cL_law 927 = .ok (.aload_n 2, 1) := by decide +kernel
theorem dL_law_928 : decode cL_law 928 = .ok (.iload 14, 2) := by decide +kernel
theorem dL_law_930 : decode cL_law 930 = .ok (.iload 15, 2) := by decide +kernel
theorem dL_law_932 : decode cL_law 932 = .ok (.iastore, 1) := by decide +kernel
theorem dL_law_933 : decode cL_law 933 = .ok (.goto 189, 3) := by decide +kernel
theorem dL_law_936 : decode cL_law 936 = .ok (.iload 11, 2) := by decide +kernel
theorem dL_law_938 : decode cL_law 938 = .ok (.iconst 2, 1) := by decide +kernel
theorem dL_law_939 : decode cL_law 939 = .ok (.invokestatic 68, 3) := by decide +kernel
theorem dL_law_942 : decode cL_law 942 = .ok (.ifCond .ne 85, 3) := by decide +kernel
theorem dL_law_945 : decode cL_law 945 = .ok (.iconst 0, 1) := by decide +kernel
theorem dL_law_946 : decode cL_law 946 = .ok (.istore 14, 2) := by decide +kernel
theorem dL_law_948 : decode cL_law 948 = .ok (.iconst 0, 1) := by decide +kernel
theorem dL_law_949 : decode cL_law 949 = .ok (.istore 15, 2) := by decide +kernel
theorem dL_law_951 : decode cL_law 951 = .ok (.iload 15, 2) := by decide +kernel
theorem dL_law_953 : decode cL_law 953 = .ok (.aload 6, 2) := by decide +kernel
theorem dL_law_955 : decode cL_law 955 = .ok (.iconst 1, 1) := by decide +kernel
theorem dL_law_956 : decode cL_law 956 = .ok (.iaload, 1) := by decide +kernel
theorem dL_law_957 : decode cL_law 957 = .ok (.if_icmp .ge 56, 3) := by decide +kernel
theorem dL_law_960 : decode cL_law 960 = .ok (.aload 5, 2) := by decide +kernel
theorem dL_law_962 : decode cL_law 962 = .ok (.iconst 5, 1) := by decide +kernel
theorem dL_law_963 : decode cL_law 963 = .ok (.iload 15, 2) := by decide +kernel
theorem dL_law_965 : decode cL_law 965 = .ok (.imul, 1) := by decide +kernel
theorem dL_law_966 : decode cL_law 966 = .ok (.iconst 4, 1) := by decide +kernel
theorem dL_law_967 : decode cL_law 967 = .ok (.iadd, 1) := by decide +kernel
theorem dL_law_968 : decode cL_law 968 = .ok (.iaload, 1) := by decide +kernel
theorem dL_law_969 : decode cL_law 969 = .ok (.ifCond .eq 6, 3) := by decide +kernel
theorem dL_law_972 : decode cL_law 972 = .ok (.goto 35, 3) := by decide +kernel
theorem dL_law_975 : decode cL_law 975 = .ok (.aload 5, 2) := by decide +kernel
theorem dL_law_977 : decode cL_law 977 = .ok (.iconst 5, 1) := by decide +kernel
theorem dL_law_978 : decode cL_law 978 = .ok (.iload 15, 2) := by decide +kernel
theorem dL_law_980 : decode cL_law 980 = .ok (.imul, 1) := by decide +kernel
theorem dL_law_981 : decode cL_law 981 = .ok (.iconst 4, 1) := by decide +kernel
theorem dL_law_982 : decode cL_law 982 = .ok (.iadd, 1) := by decide +kernel
theorem dL_law_983 : decode cL_law 983 = .ok (.iload 15, 2) := by decide +kernel
theorem dL_law_985 : decode cL_law 985 = .ok (.aload 5, 2) := by decide +kernel
theorem dL_law_987 : decode cL_law 987 = .ok (.aload_n 2, 1) := by decide +kernel
theorem dL_law_988 : decode cL_law 988 = .ok (.aload 6, 2) := by decide +kernel
theorem dL_law_990 : decode cL_law 990 = .ok (.iconst 0, 1) := by decide +kernel
theorem dL_law_991 : decode cL_law 991 = .ok (.iaload, 1) := by decide +kernel
theorem dL_law_992 : decode cL_law 992 = .ok (.invokestatic 16, 3) := by decide +kernel
theorem dL_law_995 : decode cL_law 995 = .ok (.ifCond .eq 7, 3) := by decide +kernel
theorem dL_law_998 : decode cL_law 998 = .ok (.iconst 1, 1) := by decide +kernel
theorem dL_law_999 : decode cL_law 999 = .ok (.goto 4, 3) := by decide +kernel
theorem dL_law_1002 : decode cL_law 1002 = .ok (.iconst 2, 1) := by decide +kernel
theorem dL_law_1003 : decode cL_law 1003 = .ok (.iastore, 1) := by decide +kernel
theorem dL_law_1004 : decode cL_law 1004 = .ok (.iinc 14 1, 3) := by decide +kernel
theorem dL_law_1007 : decode cL_law 1007 = .ok (.iinc 15 1, 3) := by decide +kernel
theorem dL_law_1010 : decode cL_law 1010 = .ok (.goto (-59), 3) := by decide +kernel
theorem dL_law_1013 : decode cL_law 1013 = .ok (.aload_n 1, 1) := by decide +kernel
theorem dL_law_1014 : decode cL_law 1014 = .ok (.invokevirtual 103, 3) := by decide +kernel
theorem dL_law_1017 : decode cL_law 1017 = .ok (.iload 14, 2) := by decide +kernel
theorem dL_law_1019 : decode cL_law 1019 = .ok (.if_icmp .eq 5, 3) := by decide +kernel
theorem dL_law_1022 : decode cL_law 1022 = .ok (.iconst 0, 1) := by decide +kernel
theorem dL_law_1023 : decode cL_law 1023 = .ok (.ireturn, 1) := by decide +kernel
theorem dL_law_1024 : decode cL_law 1024 = .ok (.goto 98, 3) := by decide +kernel
theorem dL_law_1027 : decode cL_law 1027 = .ok (.iconst 0, 1) := by decide +kernel
theorem dL_law_1028 : decode cL_law 1028 = .ok (.istore 14, 2) := by decide +kernel
theorem dL_law_1030 : decode cL_law 1030 = .ok (.iload 14, 2) := by decide +kernel
theorem dL_law_1032 : decode cL_law 1032 = .ok (.aload 6, 2) := by decide +kernel
theorem dL_law_1034 : decode cL_law 1034 = .ok (.iconst 1, 1) := by decide +kernel
theorem dL_law_1035 : decode cL_law 1035 = .ok (.iaload, 1) := by decide +kernel
theorem dL_law_1036 : decode cL_law 1036 = .ok (.if_icmp .ge 41, 3) := by decide +kernel
theorem dL_law_1039 : decode cL_law 1039 = .ok (.aload_n 3, 1) := by decide +kernel
theorem dL_law_1040 : decode cL_law 1040 = .ok (.aload 5, 2) := by decide +kernel
theorem dL_law_1042 : decode cL_law 1042 = .ok (.iconst 5, 1) := by decide +kernel
theorem dL_law_1043 : decode cL_law 1043 = .ok (.iload 14, 2) := by decide +kernel
theorem dL_law_1045 : decode cL_law 1045 = .ok (.imul, 1) := by decide +kernel
theorem dL_law_1046 : decode cL_law 1046 = .ok (.iaload, 1) := by decide +kernel
theorem dL_law_1047 : decode cL_law 1047 = .ok (.dup2, 1) := by decide +kernel
theorem dL_law_1048 : decode cL_law 1048 = .ok (.iaload, 1) := by decide +kernel
theorem dL_law_1049 : decode cL_law 1049 = .ok (.iload 14, 2) := by decide +kernel
theorem dL_law_1051 : decode cL_law 1051 = .ok (.aload 5, 2) := by decide +kernel
theorem dL_law_1053 : decode cL_law 1053 = .ok (.aload_n 2, 1) := by decide +kernel
theorem dL_law_1054 : decode cL_law 1054 = .ok (.aload 6, 2) := by decide +kernel
theorem dL_law_1056 : decode cL_law 1056 = .ok (.iconst 0, 1) := by decide +kernel
theorem dL_law_1057 : decode cL_law 1057 = .ok (.iaload, 1) := by decide +kernel
theorem dL_law_1058 : decode cL_law 1058 = .ok (.invokestatic 16, 3) := by decide +kernel
theorem dL_law_1061 : decode cL_law 1061 = .ok (.ifCond .eq 7, 3) := by decide +kernel
theorem dL_law_1064 : decode cL_law 1064 = .ok (.iconst 1, 1) := by decide +kernel
theorem dL_law_1065 : decode cL_law 1065 = .ok (.goto 4, 3) := by decide +kernel
theorem dL_law_1068 : decode cL_law 1068 = .ok (.iconst (-1), 1) := by decide +kernel
theorem dL_law_1069 : decode cL_law 1069 = .ok (.iadd, 1) := by decide +kernel
theorem dL_law_1070 : decode cL_law 1070 = .ok (.iastore, 1) := by decide +kernel
theorem dL_law_1071 : decode cL_law 1071 = .ok (.iinc 14 1, 3) := by decide +kernel
theorem dL_law_1074 : decode cL_law 1074 = .ok (.goto (-44), 3) := by decide +kernel
theorem dL_law_1077 : decode cL_law 1077 = .ok (.iconst 0, 1) := by decide +kernel
theorem dL_law_1078 : decode cL_law 1078 = .ok (.istore 14, 2) := by decide +kernel
theorem dL_law_1080 : decode cL_law 1080 = .ok (.iload 14, 2) := by decide +kernel
theorem dL_law_1082 : decode cL_law 1082 = .ok (.bipush 6, 2) := by decide +kernel
theorem dL_law_1084 : decode cL_law 1084 = .ok (.if_icmp .ge 15, 3) := by decide +kernel
theorem dL_law_1087 : decode cL_law 1087 = .ok (.aload 4, 2) := by decide +kernel
theorem dL_law_1089 : decode cL_law 1089 = .ok (.iload 14, 2) := by decide +kernel
theorem dL_law_1091 : decode cL_law 1091 = .ok (.iconst 0, 1) := by decide +kernel
theorem dL_law_1092 : decode cL_law 1092 = .ok (.iastore, 1) := by decide +kernel
theorem dL_law_1093 : decode cL_law 1093 = .ok (.iinc 14 1, 3) := by decide +kernel
theorem dL_law_1096 : decode cL_law 1096 = .ok (.goto (-16), 3) := by decide +kernel
theorem dL_law_1099 : decode cL_law 1099 = .ok (.aload 6, 2) := by decide +kernel
theorem dL_law_1101 : decode cL_law 1101 = .ok (.iconst 1, 1) := by decide +kernel
theorem dL_law_1102 : decode cL_law 1102 = .ok (.iconst 0, 1) := by decide +kernel
theorem dL_law_1103 : decode cL_law 1103 = .ok (.iastore, 1) := by decide +kernel
theorem dL_law_1104 : decode cL_law 1104 = .ok (.aload_n 1, 1) := by decide +kernel
theorem dL_law_1105 : decode cL_law 1105 = .ok (.invokevirtual 107, 3) := by decide +kernel
theorem dL_law_1108 : decode cL_law 1108 = .ok (.aload 6, 2) := by decide +kernel
theorem dL_law_1110 : decode cL_law 1110 = .ok (.iconst 2, 1) := by decide +kernel
theorem dL_law_1111 : decode cL_law 1111 = .ok (.dup2, 1) := by decide +kernel
theorem dL_law_1112 : decode cL_law 1112 = .ok (.iaload, 1) := by decide +kernel
theorem dL_law_1113 : decode cL_law 1113 = .ok (.iconst 1, 1) := by decide +kernel
theorem dL_law_1114 : decode cL_law 1114 = .ok (.iadd, 1) := by decide +kernel
theorem dL_law_1115 : decode cL_law 1115 = .ok (.dup_x2, 1) := by decide +kernel
theorem dL_law_1116 : decode cL_law 1116 = .ok (.iastore, 1) := by decide +kernel
theorem dL_law_1117 : decode cL_law 1117 = .ok (.if_icmp .eq 5, 3) := by decide +kernel
theorem dL_law_1120 : decode cL_law 1120 = .ok (.iconst 0, 1) := by decide +kernel
theorem dL_law_1121 : decode cL_law 1121 = .ok (.ireturn, 1) := by decide +kernel
theorem dL_law_1122 : decode cL_law 1122 = .ok (.aload_n 1, 1) := by decide +kernel
theorem dL_law_1123 : decode cL_law 1123 = .ok (.iload 11, 2) := by decide +kernel
theorem dL_law_1125 : decode cL_law 1125 = .ok (.iconst 2, 1) := by decide +kernel
theorem dL_law_1126 : decode cL_law 1126 = .ok (.ishr, 1) := by decide +kernel
theorem dL_law_1127 : decode cL_law 1127 = .ok (.aload 6, 2) := by decide +kernel
theorem dL_law_1129 : decode cL_law 1129 = .ok (.aload_n 2, 1) := by decide +kernel
theorem dL_law_1130 : decode cL_law 1130 = .ok (.aload_n 3, 1) := by decide +kernel
theorem dL_law_1131 : decode cL_law 1131 = .ok (.aload 4, 2) := by decide +kernel
theorem dL_law_1133 : decode cL_law 1133 = .ok (.aload 5, 2) := by decide +kernel
theorem dL_law_1135 : decode cL_law 1135 = .ok (.aload 7, 2) := by decide +kernel
theorem dL_law_1137 : decode cL_law 1137 = .ok (.aload 8, 2) := by decide +kernel
theorem dL_law_1139 : decode cL_law 1139 = .ok (.invokestatic 110, 3) := by decide +kernel
theorem dL_law_1142 : decode cL_law 1142 = .ok (.ifCond .ne 5, 3) := by decide +kernel
theorem dL_law_1145 : decode cL_law 1145 = .ok (.iconst 0, 1) := by decide +kernel
theorem dL_law_1146 : decode cL_law 1146 = .ok (.ireturn, 1) := by decide +kernel
theorem dL_law_1147 : decode cL_law 1147 = .ok (.iinc 9 1, 3) := by decide +kernel
theorem dL_law_1150 : decode cL_law 1150 = .ok (.goto (-1030), 3) := by decide +kernel
theorem dL_law_1153 : decode cL_law 1153 = .ok (.iconst 1, 1) := by decide +kernel
theorem dL_law_1154 : decode cL_law 1154 = .ok (.ireturn, 1) := by decide +kernel
