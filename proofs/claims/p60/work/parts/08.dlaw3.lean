theorem dL_law_653 : decode cL_law 653 = .ok (.iload 6, 2) := by decide +kernel
theorem dL_law_655 : decode cL_law 655 = .ok (.imul, 1) := by decide +kernel
theorem dL_law_656 : decode cL_law 656 = .ok (.if_icmp .ne 126, 3) := by decide +kernel
theorem dL_law_659 : decode cL_law 659 = .ok (.aload 8, 2) := by decide +kernel
theorem dL_law_661 : decode cL_law 661 = .ok (.iconst 0, 1) := by decide +kernel
theorem dL_law_662 : decode cL_law 662 = .ok (.iload 6, 2) := by decide +kernel
theorem dL_law_664 : decode cL_law 664 = .ok (.invokevirtual 56, 3) := by decide +kernel
theorem dL_law_667 : decode cL_law 667 = .ok (.iconst 1, 1) := by decide +kernel
theorem dL_law_668 : decode cL_law 668 = .ok (.if_icmp .ne 114, 3) := by decide +kernel
theorem dL_law_671 : decode cL_law 671 = .ok (.aload 8, 2) := by decide +kernel
theorem dL_law_673 : decode cL_law 673 = .ok (.iconst 0, 1) := by decide +kernel
theorem dL_law_674 : decode cL_law 674 = .ok (.invokevirtual 240, 3) := by decide +kernel
theorem dL_law_677 : decode cL_law 677 = .ok (.iconst 3, 1) := by decide +kernel
theorem dL_law_678 : decode cL_law 678 = .ok (.if_icmp .ne 104, 3) := by decide +kernel
theorem dL_law_681 : decode cL_law 681 = .ok (.aload 8, 2) := by decide +kernel
theorem dL_law_683 : decode cL_law 683 = .ok (.iconst 0, 1) := by decide +kernel
theorem dL_law_684 : decode cL_law 684 = .ok (.invokevirtual 243, 3) := by decide +kernel
theorem dL_law_687 : decode cL_law 687 = .ok (.iconst 3, 1) := by decide +kernel
theorem dL_law_688 : decode cL_law 688 = .ok (.if_icmp .ne 94, 3) := by decide +kernel
theorem dL_law_691 : decode cL_law 691 = .ok (.aload 8, 2) := by decide +kernel
theorem dL_law_693 : decode cL_law 693 = .ok (.iconst 1, 1) := by decide +kernel
theorem dL_law_694 : decode cL_law 694 = .ok (.invokevirtual 240, 3) := by decide +kernel
theorem dL_law_697 : decode cL_law 697 = .ok (.iconst 1, 1) := by decide +kernel
theorem dL_law_698 : decode cL_law 698 = .ok (.if_icmp .ne 84, 3) := by decide +kernel
theorem dL_law_701 : decode cL_law 701 = .ok (.aload 8, 2) := by decide +kernel
theorem dL_law_703 : decode cL_law 703 = .ok (.iconst 0, 1) := by decide +kernel
theorem dL_law_704 : decode cL_law 704 = .ok (.invokevirtual 246, 3) := by decide +kernel
theorem dL_law_707 : decode cL_law 707 = .ok (.ifCond .ne 75, 3) := by decide +kernel
theorem dL_law_710 : decode cL_law 710 = .ok (.aload 8, 2) := by decide +kernel
theorem dL_law_712 : decode cL_law 712 = .ok (.iconst 2, 1) := by decide +kernel
theorem dL_law_713 : decode cL_law 713 = .ok (.invokevirtual 249, 3) := by decide +kernel
theorem dL_law_716 : decode cL_law 716 = .ok (.iload 6, 2) := by decide +kernel
theorem dL_law_718 : decode cL_law 718 = .ok (.if_icmp .ne 64, 3) := by decide +kernel
theorem dL_law_721 : decode cL_law 721 = .ok (.aload 8, 2) := by decide +kernel
theorem dL_law_723 : decode cL_law 723 = .ok (.iconst 1, 1) := by decide +kernel
theorem dL_law_724 : decode cL_law 724 = .ok (.invokevirtual 249, 3) := by decide +kernel
theorem dL_law_727 : decode cL_law 727 = .ok (.iconst 1, 1) := by decide +kernel
theorem dL_law_728 : decode cL_law 728 = .ok (.if_icmp .ne 54, 3) := by decide +kernel
theorem dL_law_731 : decode cL_law 731 = .ok (.aload 8, 2) := by decide +kernel
theorem dL_law_733 : decode cL_law 733 = .ok (.invokevirtual 223, 3) := by decide +kernel
theorem dL_law_736 : decode cL_law 736 = .ok (.iload 6, 2) := by decide +kernel
theorem dL_law_738 : decode cL_law 738 = .ok (.iconst 1, 1) := by decide +kernel
theorem dL_law_739 : decode cL_law 739 = .ok (.if_icmp .le 7, 3) := by decide +kernel
theorem dL_law_742 : decode cL_law 742 = .ok (.iconst 2, 1) := by decide +kernel
theorem dL_law_743 : decode cL_law 743 = .ok (.goto 4, 3) := by decide +kernel
theorem dL_law_746 : decode cL_law 746 = .ok (.iconst 1, 1) := by decide +kernel
theorem dL_law_747 : decode cL_law 747 = .ok (.if_icmp .ne 35, 3) := by decide +kernel
theorem dL_law_750 : decode cL_law 750 = .ok (.aload 8, 2) := by decide +kernel
theorem dL_law_752 : decode cL_law 752 = .ok (.iload 6, 2) := by decide +kernel
theorem dL_law_754 : decode cL_law 754 = .ok (.invokevirtual 252, 3) := by decide +kernel
theorem dL_law_757 : decode cL_law 757 = .ok (.bipush 6, 2) := by decide +kernel
theorem dL_law_759 : decode cL_law 759 = .ok (.if_icmp .ne 23, 3) := by decide +kernel
theorem dL_law_762 : decode cL_law 762 = .ok (.aload 8, 2) := by decide +kernel
theorem dL_law_764 : decode cL_law 764 = .ok (.invokevirtual 255, 3) := by decide +kernel
theorem dL_law_767 : decode cL_law 767 = .ok (.iload 6, 2) := by decide +kernel
theorem dL_law_769 : decode cL_law 769 = .ok (.iconst 1, 1) := by decide +kernel
theorem dL_law_770 : decode cL_law 770 = .ok (.if_icmp .le 8, 3) := by decide +kernel
theorem dL_law_773 : decode cL_law 773 = .ok (.iload 6, 2) := by decide +kernel
theorem dL_law_775 : decode cL_law 775 = .ok (.goto 4, 3) := by decide +kernel
theorem dL_law_778 : decode cL_law 778 = .ok (.iconst 1, 1) := by decide +kernel
theorem dL_law_779 : decode cL_law 779 = .ok (.if_icmp .eq 5, 3) := by decide +kernel
theorem dL_law_782 : decode cL_law 782 = .ok (.iconst 0, 1) := by decide +kernel
theorem dL_law_783 : decode cL_law 783 = .ok (.ireturn, 1) := by decide +kernel
theorem dL_law_784 : decode cL_law 784 = .ok (.aload 8, 2) := by decide +kernel
theorem dL_law_786 : decode cL_law 786 = .ok (.iconst 0, 1) := by decide +kernel
theorem dL_law_787 : decode cL_law 787 = .ok (.invokevirtual 78, 3) := by decide +kernel
theorem dL_law_790 : decode cL_law 790 = .ok (.ifCond .ne 163, 3) := by decide +kernel
theorem dL_law_793 : decode cL_law 793 = .ok (.aload 8, 2) := by decide +kernel
theorem dL_law_795 : decode cL_law 795 = .ok (.iconst 1, 1) := by decide +kernel
theorem dL_law_796 : decode cL_law 796 = .ok (.invokevirtual 78, 3) := by decide +kernel
theorem dL_law_799 : decode cL_law 799 = .ok (.iconst 1, 1) := by decide +kernel
theorem dL_law_800 : decode cL_law 800 = .ok (.if_icmp .ne 153, 3) := by decide +kernel
theorem dL_law_803 : decode cL_law 803 = .ok (.aload 8, 2) := by decide +kernel
theorem dL_law_805 : decode cL_law 805 = .ok (.iconst 2, 1) := by decide +kernel
theorem dL_law_806 : decode cL_law 806 = .ok (.invokevirtual 78, 3) := by decide +kernel
theorem dL_law_809 : decode cL_law 809 = .ok (.iconst 2, 1) := by decide +kernel
theorem dL_law_810 : decode cL_law 810 = .ok (.if_icmp .ne 143, 3) := by decide +kernel
theorem dL_law_813 : decode cL_law 813 = .ok (.aload 8, 2) := by decide +kernel
theorem dL_law_815 : decode cL_law 815 = .ok (.invokevirtual 87, 3) := by decide +kernel
theorem dL_law_818 : decode cL_law 818 = .ok (.iconst 2, 1) := by decide +kernel
theorem dL_law_819 : decode cL_law 819 = .ok (.if_icmp .ne 134, 3) := by decide +kernel
theorem dL_law_822 : decode cL_law 822 = .ok (.aload 8, 2) := by decide +kernel
theorem dL_law_824 : decode cL_law 824 = .ok (.invokevirtual 143, 3) := by decide +kernel
theorem dL_law_827 : decode cL_law 827 = .ok (.bipush 6, 2) := by decide +kernel
theorem dL_law_829 : decode cL_law 829 = .ok (.if_icmp .ne 124, 3) := by decide +kernel
theorem dL_law_832 : decode cL_law 832 = .ok (.aload 8, 2) := by decide +kernel
theorem dL_law_834 : decode cL_law 834 = .ok (.iconst 0, 1) := by decide +kernel
theorem dL_law_835 : decode cL_law 835 = .ok (.invokevirtual 116, 3) := by decide +kernel
theorem dL_law_838 : decode cL_law 838 = .ok (.iconst 2, 1) := by decide +kernel
theorem dL_law_839 : decode cL_law 839 = .ok (.iload 6, 2) := by decide +kernel
theorem dL_law_841 : decode cL_law 841 = .ok (.imul, 1) := by decide +kernel
theorem dL_law_842 : decode cL_law 842 = .ok (.if_icmp .ne 111, 3) := by decide +kernel
theorem dL_law_845 : decode cL_law 845 = .ok (.aload 8, 2) := by decide +kernel
theorem dL_law_847 : decode cL_law 847 = .ok (.iconst 1, 1) := by decide +kernel
theorem dL_law_848 : decode cL_law 848 = .ok (.invokevirtual 119, 3) := by decide +kernel
theorem dL_law_851 : decode cL_law 851 = .ok (.ifCond .ne 102, 3) := by decide +kernel
theorem dL_law_854 : decode cL_law 854 = .ok (.aload 8, 2) := by decide +kernel
theorem dL_law_856 : decode cL_law 856 = .ok (.iconst 0, 1) := by decide +kernel
theorem dL_law_857 : decode cL_law 857 = .ok (.invokevirtual 128, 3) := by decide +kernel
theorem dL_law_860 : decode cL_law 860 = .ok (.iconst 1, 1) := by decide +kernel
theorem dL_law_861 : decode cL_law 861 = .ok (.if_icmp .ne 92, 3) := by decide +kernel
theorem dL_law_864 : decode cL_law 864 = .ok (.aload 8, 2) := by decide +kernel
theorem dL_law_866 : decode cL_law 866 = .ok (.iconst 0, 1) := by decide +kernel
theorem dL_law_867 : decode cL_law 867 = .ok (.invokevirtual 131, 3) := by decide +kernel
theorem dL_law_870 : decode cL_law 870 = .ok (.iconst 3, 1) := by decide +kernel
theorem dL_law_871 : decode cL_law 871 = .ok (.if_icmp .ne 82, 3) := by decide +kernel
theorem dL_law_874 : decode cL_law 874 = .ok (.aload 8, 2) := by decide +kernel
theorem dL_law_876 : decode cL_law 876 = .ok (.iconst 2, 1) := by decide +kernel
theorem dL_law_877 : decode cL_law 877 = .ok (.invokevirtual 131, 3) := by decide +kernel
theorem dL_law_880 : decode cL_law 880 = .ok (.iconst 2, 1) := by decide +kernel
theorem dL_law_881 : decode cL_law 881 = .ok (.if_icmp .ne 72, 3) := by decide +kernel
theorem dL_law_884 : decode cL_law 884 = .ok (.aload 8, 2) := by decide +kernel
theorem dL_law_886 : decode cL_law 886 = .ok (.iconst 1, 1) := by decide +kernel
theorem dL_law_887 : decode cL_law 887 = .ok (.iconst (-1), 1) := by decide +kernel
theorem dL_law_888 : decode cL_law 888 = .ok (.invokevirtual 81, 3) := by decide +kernel
theorem dL_law_891 : decode cL_law 891 = .ok (.iconst 1, 1) := by decide +kernel
theorem dL_law_892 : decode cL_law 892 = .ok (.if_icmp .ne 61, 3) := by decide +kernel
theorem dL_law_895 : decode cL_law 895 = .ok (.aload 8, 2) := by decide +kernel
theorem dL_law_897 : decode cL_law 897 = .ok (.invokevirtual 87, 3) := by decide +kernel
theorem dL_law_900 : decode cL_law 900 = .ok (.iconst 1, 1) := by decide +kernel
theorem dL_law_901 : decode cL_law 901 = .ok (.if_icmp .ne 52, 3) := by decide +kernel
theorem dL_law_904 : decode cL_law 904 = .ok (.aload 8, 2) := by decide +kernel
theorem dL_law_906 : decode cL_law 906 = .ok (.invokevirtual 143, 3) := by decide +kernel
theorem dL_law_909 : decode cL_law 909 = .ok (.bipush 15, 2) := by decide +kernel
theorem dL_law_911 : decode cL_law 911 = .ok (.if_icmp .ne 42, 3) := by decide +kernel
theorem dL_law_914 : decode cL_law 914 = .ok (.aload 8, 2) := by decide +kernel
theorem dL_law_916 : decode cL_law 916 = .ok (.invokevirtual 43, 3) := by decide +kernel
theorem dL_law_919 : decode cL_law 919 = .ok (.iconst 2, 1) := by decide +kernel
theorem dL_law_920 : decode cL_law 920 = .ok (.if_icmp .ne 33, 3) := by decide +kernel
theorem dL_law_923 : decode cL_law 923 = .ok (.aload 8, 2) := by decide +kernel
theorem dL_law_925 : decode cL_law 925 = .ok (.iconst 0, 1) := by decide +kernel
theorem dL_law_926 : decode cL_law 926 = .ok (.invokevirtual 128, 3) := by decide +kernel
theorem dL_law_929 : decode cL_law 929 = .ok (.iconst 1, 1) := by decide +kernel
theorem dL_law_930 : decode cL_law 930 = .ok (.if_icmp .ne 23, 3) := by decide +kernel
theorem dL_law_933 : decode cL_law 933 = .ok (.aload 8, 2) := by decide +kernel
theorem dL_law_935 : decode cL_law 935 = .ok (.iconst 0, 1) := by decide +kernel
theorem dL_law_936 : decode cL_law 936 = .ok (.invokevirtual 131, 3) := by decide +kernel
theorem dL_law_939 : decode cL_law 939 = .ok (.iconst 2, 1) := by decide +kernel
theorem dL_law_940 : decode cL_law 940 = .ok (.if_icmp .ne 13, 3) := by decide +kernel
theorem dL_law_943 : decode cL_law 943 = .ok (.aload 8, 2) := by decide +kernel
theorem dL_law_945 : decode cL_law 945 = .ok (.iconst 1, 1) := by decide +kernel
theorem dL_law_946 : decode cL_law 946 = .ok (.invokevirtual 131, 3) := by decide +kernel
theorem dL_law_949 : decode cL_law 949 = .ok (.iconst 1, 1) := by decide +kernel
theorem dL_law_950 : decode cL_law 950 = .ok (.if_icmp .eq 5, 3) := by decide +kernel
theorem dL_law_953 : decode cL_law 953 = .ok (.iconst 0, 1) := by decide +kernel
theorem dL_law_954 : decode cL_law 954 = .ok (.ireturn, 1) := by decide +kernel
theorem dL_law_955 : decode cL_law 955 = .ok (.aload 8, 2) := by decide +kernel
theorem dL_law_957 : decode cL_law 957 = .ok (.invokevirtual 87, 3) := by decide +kernel
theorem dL_law_960 : decode cL_law 960 = .ok (.iconst 1, 1) := by decide +kernel
theorem dL_law_961 : decode cL_law 961 = .ok (.if_icmp .ne 125, 3) := by decide +kernel
theorem dL_law_964 : decode cL_law 964 = .ok (.aload 8, 2) := by decide +kernel
theorem dL_law_966 : decode cL_law 966 = .ok (.iconst 1, 1) := by decide +kernel
theorem dL_law_967 : decode cL_law 967 = .ok (.invokevirtual 258, 3) := by decide +kernel
theorem dL_law_970 : decode cL_law 970 = .ok (.ifCond .eq 116, 3) := by decide +kernel
theorem dL_law_973 : decode cL_law 973 = .ok (.aload 8, 2) := by decide +kernel
theorem dL_law_975 : decode cL_law 975 = .ok (.iconst 0, 1) := by decide +kernel
theorem dL_law_976 : decode cL_law 976 = .ok (.invokevirtual 258, 3) := by decide +kernel
theorem dL_law_979 : decode cL_law 979 = .ok (.ifCond .ne 107, 3) := by decide +kernel
theorem dL_law_982 : decode cL_law 982 = .ok (.aload 8, 2) := by decide +kernel
theorem dL_law_984 : decode cL_law 984 = .ok (.iconst 0, 1) := by decide +kernel
theorem dL_law_985 : decode cL_law 985 = .ok (.invokevirtual 116, 3) := by decide +kernel
theorem dL_law_988 : decode cL_law 988 = .ok (.ifCond .ne 98, 3) := by decide +kernel
theorem dL_law_991 : decode cL_law 991 = .ok (.aload 8, 2) := by decide +kernel
theorem dL_law_993 : decode cL_law 993 = .ok (.iconst 0, 1) := by decide +kernel
theorem dL_law_994 : decode cL_law 994 = .ok (.invokevirtual 261, 3) := by decide +kernel
theorem dL_law_997 : decode cL_law 997 = .ok (.ifCond .ne 89, 3) := by decide +kernel
theorem dL_law_1000 : decode cL_law 1000 = .ok (.aload 8, 2) := by decide +kernel
theorem dL_law_1002 : decode cL_law 1002 = .ok (.iconst 1, 1) := by decide +kernel
theorem dL_law_1003 : decode cL_law 1003 = .ok (.iconst 0, 1) := by decide +kernel
theorem dL_law_1004 : decode cL_law 1004 = .ok (.invokevirtual 81, 3) := by decide +kernel
theorem dL_law_1007 : decode cL_law 1007 = .ok (.iconst 2, 1) := by decide +kernel
theorem dL_law_1008 : decode cL_law 1008 = .ok (.if_icmp .ne 78, 3) := by decide +kernel
theorem dL_law_1011 : decode cL_law 1011 = .ok (.aload 8, 2) := by decide +kernel
theorem dL_law_1013 : decode cL_law 1013 = .ok (.iconst 0, 1) := by decide +kernel
theorem dL_law_1014 : decode cL_law 1014 = .ok (.iconst 0, 1) := by decide +kernel
theorem dL_law_1015 : decode cL_law 1015 = .ok (.invokevirtual 81, 3) := by decide +kernel
theorem dL_law_1018 : decode cL_law 1018 = .ok (.iconst (-1), 1) := by decide +kernel
theorem dL_law_1019 : decode cL_law 1019 = .ok (.if_icmp .ne 67, 3) := by decide +kernel
theorem dL_law_1022 : decode cL_law 1022 = .ok (.aload 8, 2) := by decide +kernel
theorem dL_law_1024 : decode cL_law 1024 = .ok (.invokevirtual 143, 3) := by decide +kernel
theorem dL_law_1027 : decode cL_law 1027 = .ok (.bipush 24, 2) := by decide +kernel
theorem dL_law_1029 : decode cL_law 1029 = .ok (.if_icmp .ne 57, 3) := by decide +kernel
theorem dL_law_1032 : decode cL_law 1032 = .ok (.aload 8, 2) := by decide +kernel
theorem dL_law_1034 : decode cL_law 1034 = .ok (.bipush 14, 2) := by decide +kernel
theorem dL_law_1036 : decode cL_law 1036 = .ok (.iconst 0, 1) := by decide +kernel
theorem dL_law_1037 : decode cL_law 1037 = .ok (.bipush 6, 2) := by decide +kernel
theorem dL_law_1039 : decode cL_law 1039 = .ok (.invokestatic 30, 3) := by decide +kernel
theorem dL_law_1042 : decode cL_law 1042 = .ok (.bipush (-2), 2) := by decide +kernel
theorem dL_law_1044 : decode cL_law 1044 = .ok (.if_icmp .ne 42, 3) := by decide +kernel
theorem dL_law_1047 : decode cL_law 1047 = .ok (.aload 8, 2) := by decide +kernel
theorem dL_law_1049 : decode cL_law 1049 = .ok (.iconst 2, 1) := by decide +kernel
theorem dL_law_1050 : decode cL_law 1050 = .ok (.invokevirtual 49, 3) := by decide +kernel
theorem dL_law_1053 : decode cL_law 1053 = .ok (.iconst 2, 1) := by decide +kernel
theorem dL_law_1054 : decode cL_law 1054 = .ok (.if_icmp .ne 32, 3) := by decide +kernel
theorem dL_law_1057 : decode cL_law 1057 = .ok (.aload 8, 2) := by decide +kernel
theorem dL_law_1059 : decode cL_law 1059 = .ok (.invokevirtual 137, 3) := by decide +kernel
theorem dL_law_1062 : decode cL_law 1062 = .ok (.iload 6, 2) := by decide +kernel
theorem dL_law_1064 : decode cL_law 1064 = .ok (.if_icmp .ne 22, 3) := by decide +kernel
theorem dL_law_1067 : decode cL_law 1067 = .ok (.aload 8, 2) := by decide +kernel
theorem dL_law_1069 : decode cL_law 1069 = .ok (.invokevirtual 143, 3) := by decide +kernel
theorem dL_law_1072 : decode cL_law 1072 = .ok (.bipush 26, 2) := by decide +kernel
theorem dL_law_1074 : decode cL_law 1074 = .ok (.if_icmp .ne 12, 3) := by decide +kernel
theorem dL_law_1077 : decode cL_law 1077 = .ok (.aload 8, 2) := by decide +kernel
theorem dL_law_1079 : decode cL_law 1079 = .ok (.iconst 1, 1) := by decide +kernel
theorem dL_law_1080 : decode cL_law 1080 = .ok (.invokevirtual 125, 3) := by decide +kernel
theorem dL_law_1083 : decode cL_law 1083 = .ok (.ifCond .eq 5, 3) := by decide +kernel
theorem dL_law_1086 : decode cL_law 1086 = .ok (.iconst 0, 1) := by decide +kernel
theorem dL_law_1087 : decode cL_law 1087 = .ok (.ireturn, 1) := by decide +kernel
theorem dL_law_1088 : decode cL_law 1088 = .ok (.aload 8, 2) := by decide +kernel
theorem dL_law_1090 : decode cL_law 1090 = .ok (.iconst 0, 1) := by decide +kernel
theorem dL_law_1091 : decode cL_law 1091 = .ok (.iload 6, 2) := by decide +kernel
theorem dL_law_1093 : decode cL_law 1093 = .ok (.invokevirtual 93, 3) := by decide +kernel
theorem dL_law_1096 : decode cL_law 1096 = .ok (.iload 6, 2) := by decide +kernel
theorem dL_law_1098 : decode cL_law 1098 = .ok (.if_icmp .ne 91, 3) := by decide +kernel
theorem dL_law_1101 : decode cL_law 1101 = .ok (.aload 8, 2) := by decide +kernel
theorem dL_law_1103 : decode cL_law 1103 = .ok (.iconst 0, 1) := by decide +kernel
theorem dL_law_1104 : decode cL_law 1104 = .ok (.invokevirtual 122, 3) := by decide +kernel
theorem dL_law_1107 : decode cL_law 1107 = .ok (.bipush 6, 2) := by decide +kernel
theorem dL_law_1109 : decode cL_law 1109 = .ok (.iload 6, 2) := by decide +kernel
theorem dL_law_1111 : decode cL_law 1111 = .ok (.isub, 1) := by decide +kernel
theorem dL_law_1112 : decode cL_law 1112 = .ok (.if_icmp .ne 77, 3) := by decide +kernel
theorem dL_law_1115 : decode cL_law 1115 = .ok (.aload 8, 2) := by decide +kernel
theorem dL_law_1117 : decode cL_law 1117 = .ok (.invokevirtual 137, 3) := by decide +kernel
theorem dL_law_1120 : decode cL_law 1120 = .ok (.ifCond .ne 69, 3) := by decide +kernel
theorem dL_law_1123 : decode cL_law 1123 = .ok (.aload 8, 2) := by decide +kernel
theorem dL_law_1125 : decode cL_law 1125 = .ok (.invokevirtual 143, 3) := by decide +kernel
theorem dL_law_1128 : decode cL_law 1128 = .ok (.bipush 26, 2) := by decide +kernel
theorem dL_law_1130 : decode cL_law 1130 = .ok (.iload 6, 2) := by decide +kernel
theorem dL_law_1132 : decode cL_law 1132 = .ok (.iadd, 1) := by decide +kernel
theorem dL_law_1133 : decode cL_law 1133 = .ok (.if_icmp .ne 56, 3) := by decide +kernel
theorem dL_law_1136 : decode cL_law 1136 = .ok (.aload 8, 2) := by decide +kernel
theorem dL_law_1138 : decode cL_law 1138 = .ok (.invokevirtual 87, 3) := by decide +kernel
theorem dL_law_1141 : decode cL_law 1141 = .ok (.iconst 1, 1) := by decide +kernel
theorem dL_law_1142 : decode cL_law 1142 = .ok (.if_icmp .ne 47, 3) := by decide +kernel
theorem dL_law_1145 : decode cL_law 1145 = .ok (.aload 8, 2) := by decide +kernel
theorem dL_law_1147 : decode cL_law 1147 = .ok (.iconst 0, 1) := by decide +kernel
theorem dL_law_1148 : decode cL_law 1148 = .ok (.invokevirtual 116, 3) := by decide +kernel
theorem dL_law_1151 : decode cL_law 1151 = .ok (.ifCond .ne 38, 3) := by decide +kernel
theorem dL_law_1154 : decode cL_law 1154 = .ok (.aload 8, 2) := by decide +kernel
theorem dL_law_1156 : decode cL_law 1156 = .ok (.invokevirtual 43, 3) := by decide +kernel
theorem dL_law_1159 : decode cL_law 1159 = .ok (.iconst 1, 1) := by decide +kernel
theorem dL_law_1160 : decode cL_law 1160 = .ok (.if_icmp .ne 29, 3) := by decide +kernel
theorem dL_law_1163 : decode cL_law 1163 = .ok (.aload 8, 2) := by decide +kernel
theorem dL_law_1165 : decode cL_law 1165 = .ok (.iconst 0, 1) := by decide +kernel
theorem dL_law_1166 : decode cL_law 1166 = .ok (.invokevirtual 128, 3) := by decide +kernel
theorem dL_law_1169 : decode cL_law 1169 = .ok (.ifCond .ne 20, 3) := by decide +kernel
theorem dL_law_1172 : decode cL_law 1172 = .ok (.aload 8, 2) := by decide +kernel
theorem dL_law_1174 : decode cL_law 1174 = .ok (.iconst 0, 1) := by decide +kernel
theorem dL_law_1175 : decode cL_law 1175 = .ok (.invokevirtual 258, 3) := by decide +kernel
theorem dL_law_1178 : decode cL_law 1178 = .ok (.ifCond .eq 11, 3) := by decide +kernel
theorem dL_law_1181 : decode cL_law 1181 = .ok (.aload 8, 2) := by decide +kernel
theorem dL_law_1183 : decode cL_law 1183 = .ok (.invokevirtual 216, 3) := by decide +kernel
theorem dL_law_1186 : decode cL_law 1186 = .ok (.ifCond .ne 5, 3) := by decide +kernel
theorem dL_law_1189 : decode cL_law 1189 = .ok (.iconst 0, 1) := by decide +kernel
theorem dL_law_1190 : decode cL_law 1190 = .ok (.ireturn, 1) := by decide +kernel
theorem dL_law_1191 : decode cL_law 1191 = .ok (.aload_n 1, 1) := by decide +kernel
theorem dL_law_1192 : decode cL_law 1192 = .ok (.invokevirtual 264, 3) := by decide +kernel
theorem dL_law_1195 : decode cL_law 1195 = .ok (.iload_n 3, 1) := by decide +kernel
theorem dL_law_1196 : decode cL_law 1196 = .ok (.if_icmp .ne 16, 3) := by decide +kernel
theorem dL_law_1199 : decode cL_law 1199 = .ok (.aload_n 1, 1) := by decide +kernel
theorem dL_law_1200 : decode cL_law 1200 = .ok (.invokestatic 164, 3) := by decide +kernel
theorem dL_law_1203 : decode cL_law 1203 = .ok (.iload 4, 2) := by decide +kernel
theorem dL_law_1205 : decode cL_law 1205 = .ok (.if_icmp .ne 7, 3) := by decide +kernel
theorem dL_law_1208 : decode cL_law 1208 = .ok (.iconst 1, 1) := by decide +kernel
theorem dL_law_1209 : decode cL_law 1209 = .ok (.goto 4, 3) := by decide +kernel
theorem dL_law_1212 : decode cL_law 1212 = .ok (.iconst 0, 1) := by decide +kernel
theorem dL_law_1213 : decode cL_law 1213 = .ok (.ireturn, 1) := by decide +kernel
theorem dL_runs_0 : decode cL_runs 0 = .ok (.aload_n 0, 1) := by decide +kernel
theorem dL_runs_1 : decode cL_runs 1 = .ok (.invokevirtual 174, 3) := by decide +kernel
theorem dL_runs_4 : decode cL_runs 4 = .ok (.ireturn, 1) := by decide +kernel
theorem dL_runs_5 : decode cL_runs 5 = .ok (.astore_n 1, 1) := by decide +kernel
theorem dL_runs_6 : decode cL_runs 6 = .ok (.iconst (-1), 1) := by decide +kernel
theorem dL_runs_7 : decode cL_runs 7 = .ok (.ireturn, 1) := by decide +kernel
theorem dL_runs_8 : decode cL_runs 8 = .ok (.astore_n 1, 1) := by decide +kernel
theorem dL_runs_9 : decode cL_runs 9 = .ok (.bipush (-2), 2) := by decide +kernel
theorem dL_runs_11 : decode cL_runs 11 = .ok (.ireturn, 1) := by decide +kernel
theorem dL_fails_0 : decode cL_fails 0 = .ok (.aload_n 0, 1) := by decide +kernel
theorem dL_fails_1 : decode cL_fails 1 = .ok (.aload_n 1, 1) := by decide +kernel
theorem dL_fails_2 : decode cL_fails 2 = .ok (.invokestatic 170, 3) := by decide +kernel
theorem dL_fails_5 : decode cL_fails 5 = .ok (.aload_n 0, 1) := by decide +kernel
theorem dL_fails_6 : decode cL_fails 6 = .ok (.invokestatic 180, 3) := by decide +kernel
theorem dL_fails_9 : decode cL_fails 9 = .ok (.iconst (-1), 1) := by decide +kernel
theorem dL_fails_10 : decode cL_fails 10 = .ok (.if_icmp .ne 15, 3) := by decide +kernel
theorem dL_fails_13 : decode cL_fails 13 = .ok (.aload_n 0, 1) := by decide +kernel
theorem dL_fails_14 : decode cL_fails 14 = .ok (.invokevirtual 267, 3) := by decide +kernel
theorem dL_fails_17 : decode cL_fails 17 = .ok (.iload_n 2, 1) := by decide +kernel
theorem dL_fails_18 : decode cL_fails 18 = .ok (.if_icmp .ne 7, 3) := by decide +kernel
theorem dL_fails_21 : decode cL_fails 21 = .ok (.iconst 1, 1) := by decide +kernel
theorem dL_fails_22 : decode cL_fails 22 = .ok (.goto 4, 3) := by decide +kernel
theorem dL_fails_25 : decode cL_fails 25 = .ok (.iconst 0, 1) := by decide +kernel
theorem dL_fails_26 : decode cL_fails 26 = .ok (.ireturn, 1) := by decide +kernel
