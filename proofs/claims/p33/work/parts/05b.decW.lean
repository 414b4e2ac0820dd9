theorem dL_law_674 : decode cL_law 674 = .ok (.if_icmp .eq 5, 3) := by decide +kernel
theorem dL_law_677 : decode cL_law 677 = .ok (.iconst 0, 1) := by decide +kernel
theorem dL_law_678 : decode cL_law 678 = .ok (.ireturn, 1) := by decide +kernel
theorem dL_law_679 : decode cL_law 679 = .ok (.iload 24, 2) := by decide +kernel
theorem dL_law_681 : decode cL_law 681 = .ok (.bipush 45, 2) := by decide +kernel
theorem dL_law_683 : decode cL_law 683 = .ok (.if_icmp .eq 6, 3) := by decide +kernel
theorem dL_law_686 : decode cL_law 686 = .ok (.goto 499, 3) := by decide +kernel
theorem dL_law_689 : decode cL_law 689 = .ok (.iconst 0, 1) := by decide +kernel
theorem dL_law_690 : decode cL_law 690 = .ok (.istore 27, 2) := by decide +kernel
theorem dL_law_692 : decode cL_law 692 = .ok (.iload 27, 2) := by decide +kernel
theorem dL_law_694 : decode cL_law 694 = .ok (.bipush 6, 2) := by decide +kernel
theorem dL_law_696 : decode cL_law 696 = .ok (.if_icmp .ge 18, 3) := by decide +kernel
theorem dL_law_699 : decode cL_law 699 = .ok (.aload_n 1, 1) := by decide +kernel
theorem dL_law_700 : decode cL_law 700 = .ok (.iload 21, 2) := by decide +kernel
theorem dL_law_702 : decode cL_law 702 = .ok (.iconst 0, 1) := by decide +kernel
theorem dL_law_703 : decode cL_law 703 = .ok (.invokestatic 170, 3) := by decide +kernel
theorem dL_law_706 : decode cL_law 706 = .ok (.lstore 25, 2) := by decide +kernel
theorem dL_law_708 : decode cL_law 708 = .ok (.iinc 27 1, 3) := by decide +kernel
theorem dL_law_711 : decode cL_law 711 = .ok (.goto (-19), 3) := by decide +kernel
theorem dL_law_714 : decode cL_law 714 = .ok (.iconst 0, 1) := by decide +kernel
theorem dL_law_715 : decode cL_law 715 = .ok (.istore 27, 2) := by decide +kernel
theorem dL_law_717 : decode cL_law 717 = .ok (.iload 27, 2) := by decide +kernel
theorem dL_law_719 : decode cL_law 719 = .ok (.bipush 6, 2) := by decide +kernel
theorem dL_law_721 : decode cL_law 721 = .ok (.if_icmp .ge 39, 3) := by decide +kernel
theorem dL_law_724 : decode cL_law 724 = .ok (.aload_n 1, 1) := by decide +kernel
theorem dL_law_725 : decode cL_law 725 = .ok (.iload 21, 2) := by decide +kernel
theorem dL_law_727 : decode cL_law 727 = .ok (.iload 27, 2) := by decide +kernel
theorem dL_law_729 : decode cL_law 729 = .ok (.ifCond .ne 7, 3) := by decide +kernel
theorem dL_law_732 : decode cL_law 732 = .ok (.iconst 1, 1) := by decide +kernel
theorem dL_law_733 : decode cL_law 733 = .ok (.goto 4, 3) := by decide +kernel
theorem dL_law_736 : decode cL_law 736 = .ok (.iconst 0, 1) := by decide +kernel
theorem dL_law_737 : decode cL_law 737 = .ok (.invokestatic 170, 3) := by decide +kernel
theorem dL_law_740 : decode cL_law 740 = .ok (.aload_n 1, 1) := by decide +kernel
theorem dL_law_741 : decode cL_law 741 = .ok (.iload 21, 2) := by decide +kernel
theorem dL_law_743 : decode cL_law 743 = .ok (.iload 27, 2) := by decide +kernel
theorem dL_law_745 : decode cL_law 745 = .ok (.invokevirtual 60, 3) := by decide +kernel
theorem dL_law_748 : decode cL_law 748 = .ok (.lcmp, 1) := by decide +kernel
theorem dL_law_749 : decode cL_law 749 = .ok (.ifCond .eq 5, 3) := by decide +kernel
theorem dL_law_752 : decode cL_law 752 = .ok (.iconst 0, 1) := by decide +kernel
theorem dL_law_753 : decode cL_law 753 = .ok (.ireturn, 1) := by decide +kernel
theorem dL_law_754 : decode cL_law 754 = .ok (.iinc 27 1, 3) := by decide +kernel
theorem dL_law_757 : decode cL_law 757 = .ok (.goto (-40), 3) := by decide +kernel
theorem dL_law_760 : decode cL_law 760 = .ok (.goto 425, 3) := by decide +kernel
theorem dL_law_763 : decode cL_law 763 = .ok (.aload_n 1, 1) := by decide +kernel
theorem dL_law_764 : decode cL_law 764 = .ok (.iload 15, 2) := by decide +kernel
theorem dL_law_766 : decode cL_law 766 = .ok (.bipush 60, 2) := by decide +kernel
theorem dL_law_768 : decode cL_law 768 = .ok (.irem, 1) := by decide +kernel
theorem dL_law_769 : decode cL_law 769 = .ok (.invokestatic 173, 3) := by decide +kernel
theorem dL_law_772 : decode cL_law 772 = .ok (.iload 4, 2) := by decide +kernel
theorem dL_law_774 : decode cL_law 774 = .ok (.if_icmp .eq 5, 3) := by decide +kernel
theorem dL_law_777 : decode cL_law 777 = .ok (.iconst 0, 1) := by decide +kernel
theorem dL_law_778 : decode cL_law 778 = .ok (.ireturn, 1) := by decide +kernel
theorem dL_law_779 : decode cL_law 779 = .ok (.iload 15, 2) := by decide +kernel
theorem dL_law_781 : decode cL_law 781 = .ok (.bipush 60, 2) := by decide +kernel
theorem dL_law_783 : decode cL_law 783 = .ok (.irem, 1) := by decide +kernel
theorem dL_law_784 : decode cL_law 784 = .ok (.istore 4, 2) := by decide +kernel
theorem dL_law_786 : decode cL_law 786 = .ok (.goto 399, 3) := by decide +kernel
theorem dL_law_789 : decode cL_law 789 = .ok (.aload_n 1, 1) := by decide +kernel
theorem dL_law_790 : decode cL_law 790 = .ok (.invokevirtual 175, 3) := by decide +kernel
theorem dL_law_793 : decode cL_law 793 = .ok (.iconst 1, 1) := by decide +kernel
theorem dL_law_794 : decode cL_law 794 = .ok (.iadd, 1) := by decide +kernel
theorem dL_law_795 : decode cL_law 795 = .ok (.iload 15, 2) := by decide +kernel
theorem dL_law_797 : decode cL_law 797 = .ok (.bipush 9, 2) := by decide +kernel
theorem dL_law_799 : decode cL_law 799 = .ok (.irem, 1) := by decide +kernel
theorem dL_law_800 : decode cL_law 800 = .ok (.iadd, 1) := by decide +kernel
theorem dL_law_801 : decode cL_law 801 = .ok (.istore 21, 2) := by decide +kernel
theorem dL_law_803 : decode cL_law 803 = .ok (.iload 21, 2) := by decide +kernel
theorem dL_law_805 : decode cL_law 805 = .ok (.iload 15, 2) := by decide +kernel
theorem dL_law_807 : decode cL_law 807 = .ok (.bipush 9, 2) := by decide +kernel
theorem dL_law_809 : decode cL_law 809 = .ok (.idiv, 1) := by decide +kernel
theorem dL_law_810 : decode cL_law 810 = .ok (.iconst 4, 1) := by decide +kernel
theorem dL_law_811 : decode cL_law 811 = .ok (.irem, 1) := by decide +kernel
theorem dL_law_812 : decode cL_law 812 = .ok (.iadd, 1) := by decide +kernel
theorem dL_law_813 : decode cL_law 813 = .ok (.istore 22, 2) := by decide +kernel
theorem dL_law_815 : decode cL_law 815 = .ok (.aload_n 1, 1) := by decide +kernel
theorem dL_law_816 : decode cL_law 816 = .ok (.iload 16, 2) := by decide +kernel
theorem dL_law_818 : decode cL_law 818 = .ok (.iload 17, 2) := by decide +kernel
theorem dL_law_820 : decode cL_law 820 = .ok (.iload 18, 2) := by decide +kernel
theorem dL_law_822 : decode cL_law 822 = .ok (.iload 20, 2) := by decide +kernel
theorem dL_law_824 : decode cL_law 824 = .ok (.iload 21, 2) := by decide +kernel
theorem dL_law_826 : decode cL_law 826 = .ok (.iload 22, 2) := by decide +kernel
theorem dL_law_828 : decode cL_law 828 = .ok (.invokestatic 178, 3) := by decide +kernel
theorem dL_law_831 : decode cL_law 831 = .ok (.istore 23, 2) := by decide +kernel
theorem dL_law_833 : decode cL_law 833 = .ok (.aload_n 1, 1) := by decide +kernel
theorem dL_law_834 : decode cL_law 834 = .ok (.iload 16, 2) := by decide +kernel
theorem dL_law_836 : decode cL_law 836 = .ok (.iload 17, 2) := by decide +kernel
theorem dL_law_838 : decode cL_law 838 = .ok (.iload 18, 2) := by decide +kernel
theorem dL_law_840 : decode cL_law 840 = .ok (.iload 20, 2) := by decide +kernel
theorem dL_law_842 : decode cL_law 842 = .ok (.iload 21, 2) := by decide +kernel
theorem dL_law_844 : decode cL_law 844 = .ok (.iload 22, 2) := by decide +kernel
theorem dL_law_846 : decode cL_law 846 = .ok (.invokestatic 181, 3) := by decide +kernel
theorem dL_law_849 : decode cL_law 849 = .ok (.istore 24, 2) := by decide +kernel
theorem dL_law_851 : decode cL_law 851 = .ok (.iload 24, 2) := by decide +kernel
theorem dL_law_853 : decode cL_law 853 = .ok (.iload 23, 2) := by decide +kernel
theorem dL_law_855 : decode cL_law 855 = .ok (.ldc 46, 2) := by decide +kernel
theorem dL_law_857 : decode cL_law 857 = .ok (.if_icmp .eq 8, 3) := by decide +kernel
theorem dL_law_860 : decode cL_law 860 = .ok (.ldc 98, 2) := by decide +kernel
theorem dL_law_862 : decode cL_law 862 = .ok (.goto 17, 3) := by decide +kernel
theorem dL_law_865 : decode cL_law 865 = .ok (.iload 5, 2) := by decide +kernel
theorem dL_law_867 : decode cL_law 867 = .ok (.bipush 16, 2) := by decide +kernel
theorem dL_law_869 : decode cL_law 869 = .ok (.if_icmp .ne 8, 3) := by decide +kernel
theorem dL_law_872 : decode cL_law 872 = .ok (.ldc 21, 2) := by decide +kernel
theorem dL_law_874 : decode cL_law 874 = .ok (.goto 5, 3) := by decide +kernel
theorem dL_law_877 : decode cL_law 877 = .ok (.iload 5, 2) := by decide +kernel
theorem dL_law_879 : decode cL_law 879 = .ok (.if_icmp .eq 5, 3) := by decide +kernel
theorem dL_law_882 : decode cL_law 882 = .ok (.iconst 0, 1) := by decide +kernel
theorem dL_law_883 : decode cL_law 883 = .ok (.ireturn, 1) := by decide +kernel
theorem dL_law_884 : decode cL_law 884 = .ok (.iload 24, 2) := by decide +kernel
theorem dL_law_886 : decode cL_law 886 = .ok (.ifCond .ge 6, 3) := by decide +kernel
theorem dL_law_889 : decode cL_law 889 = .ok (.goto 296, 3) := by decide +kernel
theorem dL_law_892 : decode cL_law 892 = .ok (.aload 8, 2) := by decide +kernel
theorem dL_law_894 : decode cL_law 894 = .ok (.iload 24, 2) := by decide +kernel
theorem dL_law_896 : decode cL_law 896 = .ok (.iload 16, 2) := by decide +kernel
theorem dL_law_898 : decode cL_law 898 = .ok (.iastore, 1) := by decide +kernel
theorem dL_law_899 : decode cL_law 899 = .ok (.aload 6, 2) := by decide +kernel
theorem dL_law_901 : decode cL_law 901 = .ok (.iload 24, 2) := by decide +kernel
theorem dL_law_903 : decode cL_law 903 = .ok (.iload 21, 2) := by decide +kernel
theorem dL_law_905 : decode cL_law 905 = .ok (.iastore, 1) := by decide +kernel
theorem dL_law_906 : decode cL_law 906 = .ok (.aload 7, 2) := by decide +kernel
theorem dL_law_908 : decode cL_law 908 = .ok (.iload 24, 2) := by decide +kernel
theorem dL_law_910 : decode cL_law 910 = .ok (.iload 22, 2) := by decide +kernel
theorem dL_law_912 : decode cL_law 912 = .ok (.iastore, 1) := by decide +kernel
theorem dL_law_913 : decode cL_law 913 = .ok (.aload 9, 2) := by decide +kernel
theorem dL_law_915 : decode cL_law 915 = .ok (.iload 24, 2) := by decide +kernel
theorem dL_law_917 : decode cL_law 917 = .ok (.iload 17, 2) := by decide +kernel
theorem dL_law_919 : decode cL_law 919 = .ok (.iastore, 1) := by decide +kernel
theorem dL_law_920 : decode cL_law 920 = .ok (.aload 10, 2) := by decide +kernel
theorem dL_law_922 : decode cL_law 922 = .ok (.iload 24, 2) := by decide +kernel
theorem dL_law_924 : decode cL_law 924 = .ok (.iload 18, 2) := by decide +kernel
theorem dL_law_926 : decode cL_law 926 = .ok (.iastore, 1) := by decide +kernel
theorem dL_law_927 : decode cL_law 927 = .ok (.aload 11, 2) := by decide +kernel
theorem dL_law_929 : decode cL_law 929 = .ok (.iload 24, 2) := by decide +kernel
theorem dL_law_931 : decode cL_law 931 = .ok (.iload 20, 2) := by decide +kernel
theorem dL_law_933 : decode cL_law 933 = .ok (.bastore, 1) := by decide +kernel
theorem dL_law_934 : decode cL_law 934 = .ok (.iinc 5 1, 3) := by decide +kernel
theorem dL_law_937 : decode cL_law 937 = .ok (.goto 248, 3) := by decide +kernel
theorem dL_law_940 : decode cL_law 940 = .ok (.iload 5, 2) := by decide +kernel
theorem dL_law_942 : decode cL_law 942 = .ok (.ifCond .ne 6, 3) := by decide +kernel
theorem dL_law_945 : decode cL_law 945 = .ok (.goto 240, 3) := by decide +kernel
theorem dL_law_948 : decode cL_law 948 = .ok (.iload 15, 2) := by decide +kernel
theorem dL_law_950 : decode cL_law 950 = .ok (.iload 5, 2) := by decide +kernel
theorem dL_law_952 : decode cL_law 952 = .ok (.irem, 1) := by decide +kernel
theorem dL_law_953 : decode cL_law 953 = .ok (.istore 21, 2) := by decide +kernel
theorem dL_law_955 : decode cL_law 955 = .ok (.iload 15, 2) := by decide +kernel
theorem dL_law_957 : decode cL_law 957 = .ok (.iconst 5, 1) := by decide +kernel
theorem dL_law_958 : decode cL_law 958 = .ok (.irem, 1) := by decide +kernel
theorem dL_law_959 : decode cL_law 959 = .ok (.ifCond .ne 12, 3) := by decide +kernel
theorem dL_law_962 : decode cL_law 962 = .ok (.aload_n 1, 1) := by decide +kernel
theorem dL_law_963 : decode cL_law 963 = .ok (.iload 21, 2) := by decide +kernel
theorem dL_law_965 : decode cL_law 965 = .ok (.invokestatic 183, 3) := by decide +kernel
theorem dL_law_968 : decode cL_law 968 = .ok (.goto 5, 3) := by decide +kernel
theorem dL_law_971 : decode cL_law 971 = .ok (.ldc 21, 2) := by decide +kernel
theorem dL_law_973 : decode cL_law 973 = .ok (.istore 22, 2) := by decide +kernel
theorem dL_law_975 : decode cL_law 975 = .ok (.iload 15, 2) := by decide +kernel
theorem dL_law_977 : decode cL_law 977 = .ok (.iconst 5, 1) := by decide +kernel
theorem dL_law_978 : decode cL_law 978 = .ok (.irem, 1) := by decide +kernel
theorem dL_law_979 : decode cL_law 979 = .ok (.ifCond .ne 45, 3) := by decide +kernel
theorem dL_law_982 : decode cL_law 982 = .ok (.iload 22, 2) := by decide +kernel
theorem dL_law_984 : decode cL_law 984 = .ok (.ldc 21, 2) := by decide +kernel
theorem dL_law_986 : decode cL_law 986 = .ok (.if_icmp .ne 7, 3) := by decide +kernel
theorem dL_law_989 : decode cL_law 989 = .ok (.iconst 1, 1) := by decide +kernel
theorem dL_law_990 : decode cL_law 990 = .ok (.goto 4, 3) := by decide +kernel
theorem dL_law_993 : decode cL_law 993 = .ok (.iconst 0, 1) := by decide +kernel
theorem dL_law_994 : decode cL_law 994 = .ok (.aload 12, 2) := by decide +kernel
theorem dL_law_996 : decode cL_law 996 = .ok (.iload 21, 2) := by decide +kernel
theorem dL_law_998 : decode cL_law 998 = .ok (.baload, 1) := by decide +kernel
theorem dL_law_999 : decode cL_law 999 = .ok (.ifCond .ne 15, 3) := by decide +kernel
theorem dL_law_1002 : decode cL_law 1002 = .ok (.aload 6, 2) := by decide +kernel
theorem dL_law_1004 : decode cL_law 1004 = .ok (.iload 21, 2) := by decide +kernel
theorem dL_law_1006 : decode cL_law 1006 = .ok (.iaload, 1) := by decide +kernel
theorem dL_law_1007 : decode cL_law 1007 = .ok (.aload_n 1, 1) := by decide +kernel
theorem dL_law_1008 : decode cL_law 1008 = .ok (.invokevirtual 175, 3) := by decide +kernel
theorem dL_law_1011 : decode cL_law 1011 = .ok (.if_icmp .gt 7, 3) := by decide +kernel
theorem dL_law_1014 : decode cL_law 1014 = .ok (.iconst 1, 1) := by decide +kernel
theorem dL_law_1015 : decode cL_law 1015 = .ok (.goto 4, 3) := by decide +kernel
theorem dL_law_1018 : decode cL_law 1018 = .ok (.iconst 0, 1) := by decide +kernel
theorem dL_law_1019 : decode cL_law 1019 = .ok (.if_icmp .eq 5, 3) := by decide +kernel
theorem dL_law_1022 : decode cL_law 1022 = .ok (.iconst 0, 1) := by decide +kernel
theorem dL_law_1023 : decode cL_law 1023 = .ok (.ireturn, 1) := by decide +kernel
theorem dL_law_1024 : decode cL_law 1024 = .ok (.aload 12, 2) := by decide +kernel
theorem dL_law_1026 : decode cL_law 1026 = .ok (.iload 21, 2) := by decide +kernel
theorem dL_law_1028 : decode cL_law 1028 = .ok (.dup2, 1) := by decide +kernel
theorem dL_law_1029 : decode cL_law 1029 = .ok (.baload, 1) := by decide +kernel
theorem dL_law_1030 : decode cL_law 1030 = .ok (.iload 22, 2) := by decide +kernel
theorem dL_law_1032 : decode cL_law 1032 = .ok (.ldc 21, 2) := by decide +kernel
theorem dL_law_1034 : decode cL_law 1034 = .ok (.if_icmp .eq 7, 3) := by decide +kernel
theorem dL_law_1037 : decode cL_law 1037 = .ok (.iconst 1, 1) := by decide +kernel
theorem dL_law_1038 : decode cL_law 1038 = .ok (.goto 4, 3) := by decide +kernel
theorem dL_law_1041 : decode cL_law 1041 = .ok (.iconst 0, 1) := by decide +kernel
theorem dL_law_1042 : decode cL_law 1042 = .ok (.ior, 1) := by decide +kernel
theorem dL_law_1043 : decode cL_law 1043 = .ok (.bastore, 1) := by decide +kernel
theorem dL_law_1044 : decode cL_law 1044 = .ok (.goto 141, 3) := by decide +kernel
theorem dL_law_1047 : decode cL_law 1047 = .ok (.iconst 1, 1) := by decide +kernel
theorem dL_law_1048 : decode cL_law 1048 = .ok (.iload 15, 2) := by decide +kernel
theorem dL_law_1050 : decode cL_law 1050 = .ok (.iconst 5, 1) := by decide +kernel
theorem dL_law_1051 : decode cL_law 1051 = .ok (.irem, 1) := by decide +kernel
theorem dL_law_1052 : decode cL_law 1052 = .ok (.iadd, 1) := by decide +kernel
theorem dL_law_1053 : decode cL_law 1053 = .ok (.istore 21, 2) := by decide +kernel
theorem dL_law_1055 : decode cL_law 1055 = .ok (.iconst 0, 1) := by decide +kernel
theorem dL_law_1056 : decode cL_law 1056 = .ok (.istore 22, 2) := by decide +kernel
theorem dL_law_1058 : decode cL_law 1058 = .ok (.iload 22, 2) := by decide +kernel
theorem dL_law_1060 : decode cL_law 1060 = .ok (.iload 21, 2) := by decide +kernel
theorem dL_law_1062 : decode cL_law 1062 = .ok (.if_icmp .ge 123, 3) := by decide +kernel
theorem dL_law_1065 : decode cL_law 1065 = .ok (.iconst 0, 1) := by decide +kernel
theorem dL_law_1066 : decode cL_law 1066 = .ok (.istore 23, 2) := by decide +kernel
theorem dL_law_1068 : decode cL_law 1068 = .ok (.aload_n 1, 1) := by decide +kernel
theorem dL_law_1069 : decode cL_law 1069 = .ok (.iconst 1, 1) := by decide +kernel
theorem dL_law_1070 : decode cL_law 1070 = .ok (.invokestatic 185, 3) := by decide +kernel
theorem dL_law_1073 : decode cL_law 1073 = .ok (.istore 24, 2) := by decide +kernel
theorem dL_law_1075 : decode cL_law 1075 = .ok (.iconst 0, 1) := by decide +kernel
theorem dL_law_1076 : decode cL_law 1076 = .ok (.istore 25, 2) := by decide +kernel
theorem dL_law_1078 : decode cL_law 1078 = .ok (.iload 25, 2) := by decide +kernel
theorem dL_law_1080 : decode cL_law 1080 = .ok (.iload 5, 2) := by decide +kernel
theorem dL_law_1082 : decode cL_law 1082 = .ok (.if_icmp .ge 88, 3) := by decide +kernel
theorem dL_law_1085 : decode cL_law 1085 = .ok (.aload 12, 2) := by decide +kernel
theorem dL_law_1087 : decode cL_law 1087 = .ok (.iload 25, 2) := by decide +kernel
theorem dL_law_1089 : decode cL_law 1089 = .ok (.baload, 1) := by decide +kernel
theorem dL_law_1090 : decode cL_law 1090 = .ok (.ifCond .ne 74, 3) := by decide +kernel
theorem dL_law_1093 : decode cL_law 1093 = .ok (.aload 6, 2) := by decide +kernel
theorem dL_law_1095 : decode cL_law 1095 = .ok (.iload 25, 2) := by decide +kernel
theorem dL_law_1097 : decode cL_law 1097 = .ok (.iaload, 1) := by decide +kernel
theorem dL_law_1098 : decode cL_law 1098 = .ok (.aload_n 1, 1) := by decide +kernel
theorem dL_law_1099 : decode cL_law 1099 = .ok (.invokevirtual 175, 3) := by decide +kernel
theorem dL_law_1102 : decode cL_law 1102 = .ok (.if_icmp .eq 6, 3) := by decide +kernel
theorem dL_law_1105 : decode cL_law 1105 = .ok (.goto 59, 3) := by decide +kernel
theorem dL_law_1108 : decode cL_law 1108 = .ok (.iinc 23 1, 3) := by decide +kernel
theorem dL_law_1111 : decode cL_law 1111 = .ok (.aload_n 1, 1) := by decide +kernel
theorem dL_law_1112 : decode cL_law 1112 = .ok (.aload 8, 2) := by decide +kernel
theorem dL_law_1114 : decode cL_law 1114 = .ok (.iload 25, 2) := by decide +kernel
theorem dL_law_1116 : decode cL_law 1116 = .ok (.iaload, 1) := by decide +kernel
theorem dL_law_1117 : decode cL_law 1117 = .ok (.invokevirtual 132, 3) := by decide +kernel
theorem dL_law_1120 : decode cL_law 1120 = .ok (.aload 9, 2) := by decide +kernel
theorem dL_law_1122 : decode cL_law 1122 = .ok (.iload 25, 2) := by decide +kernel
theorem dL_law_1124 : decode cL_law 1124 = .ok (.iaload, 1) := by decide +kernel
theorem dL_law_1125 : decode cL_law 1125 = .ok (.if_icmp .ne 37, 3) := by decide +kernel
theorem dL_law_1128 : decode cL_law 1128 = .ok (.aload_n 1, 1) := by decide +kernel
theorem dL_law_1129 : decode cL_law 1129 = .ok (.aload 8, 2) := by decide +kernel
theorem dL_law_1131 : decode cL_law 1131 = .ok (.iload 25, 2) := by decide +kernel
theorem dL_law_1133 : decode cL_law 1133 = .ok (.iaload, 1) := by decide +kernel
theorem dL_law_1134 : decode cL_law 1134 = .ok (.invokevirtual 135, 3) := by decide +kernel
theorem dL_law_1137 : decode cL_law 1137 = .ok (.aload 10, 2) := by decide +kernel
theorem dL_law_1139 : decode cL_law 1139 = .ok (.iload 25, 2) := by decide +kernel
theorem dL_law_1141 : decode cL_law 1141 = .ok (.iaload, 1) := by decide +kernel
theorem dL_law_1142 : decode cL_law 1142 = .ok (.if_icmp .ne 20, 3) := by decide +kernel
theorem dL_law_1145 : decode cL_law 1145 = .ok (.aload_n 1, 1) := by decide +kernel
theorem dL_law_1146 : decode cL_law 1146 = .ok (.aload 8, 2) := by decide +kernel
theorem dL_law_1148 : decode cL_law 1148 = .ok (.iload 25, 2) := by decide +kernel
theorem dL_law_1150 : decode cL_law 1150 = .ok (.iaload, 1) := by decide +kernel
theorem dL_law_1151 : decode cL_law 1151 = .ok (.invokevirtual 156, 3) := by decide +kernel
theorem dL_law_1154 : decode cL_law 1154 = .ok (.aload 11, 2) := by decide +kernel
theorem dL_law_1156 : decode cL_law 1156 = .ok (.iload 25, 2) := by decide +kernel
theorem dL_law_1158 : decode cL_law 1158 = .ok (.baload, 1) := by decide +kernel
theorem dL_law_1159 : decode cL_law 1159 = .ok (.if_icmp .eq 5, 3) := by decide +kernel
theorem dL_law_1162 : decode cL_law 1162 = .ok (.iconst 0, 1) := by decide +kernel
theorem dL_law_1163 : decode cL_law 1163 = .ok (.ireturn, 1) := by decide +kernel
theorem dL_law_1164 : decode cL_law 1164 = .ok (.iinc 25 1, 3) := by decide +kernel
theorem dL_law_1167 : decode cL_law 1167 = .ok (.goto (-89), 3) := by decide +kernel
theorem dL_law_1170 : decode cL_law 1170 = .ok (.iload 24, 2) := by decide +kernel
theorem dL_law_1172 : decode cL_law 1172 = .ok (.iload 23, 2) := by decide +kernel
theorem dL_law_1174 : decode cL_law 1174 = .ok (.if_icmp .eq 5, 3) := by decide +kernel
theorem dL_law_1177 : decode cL_law 1177 = .ok (.iconst 0, 1) := by decide +kernel
theorem dL_law_1178 : decode cL_law 1178 = .ok (.ireturn, 1) := by decide +kernel
theorem dL_law_1179 : decode cL_law 1179 = .ok (.iinc 22 1, 3) := by decide +kernel
theorem dL_law_1182 : decode cL_law 1182 = .ok (.goto (-124), 3) := by decide +kernel
theorem dL_law_1185 : decode cL_law 1185 = .ok (.iconst 0, 1) := by decide +kernel
theorem dL_law_1186 : decode cL_law 1186 = .ok (.istore 21, 2) := by decide +kernel
theorem dL_law_1188 : decode cL_law 1188 = .ok (.iload 21, 2) := by decide +kernel
theorem dL_law_1190 : decode cL_law 1190 = .ok (.iload 5, 2) := by decide +kernel
theorem dL_law_1192 : decode cL_law 1192 = .ok (.if_icmp .ge 149, 3) := by decide +kernel
theorem dL_law_1195 : decode cL_law 1195 = .ok (.iconst 0, 1) := by decide +kernel
theorem dL_law_1196 : decode cL_law 1196 = .ok (.istore 22, 2) := by decide +kernel
theorem dL_law_1198 : decode cL_law 1198 = .ok (.iload 22, 2) := by decide +kernel
theorem dL_law_1200 : decode cL_law 1200 = .ok (.iload 21, 2) := by decide +kernel
theorem dL_law_1202 : decode cL_law 1202 = .ok (.if_icmp .ge 133, 3) := by decide +kernel
theorem dL_law_1205 : decode cL_law 1205 = .ok (.aload 12, 2) := by decide +kernel
theorem dL_law_1207 : decode cL_law 1207 = .ok (.iload 21, 2) := by decide +kernel
theorem dL_law_1209 : decode cL_law 1209 = .ok (.baload, 1) := by decide +kernel
theorem dL_law_1210 : decode cL_law 1210 = .ok (.ifCond .ne 119, 3) := by decide +kernel
theorem dL_law_1213 : decode cL_law 1213 = .ok (.aload 12, 2) := by decide +kernel
theorem dL_law_1215 : decode cL_law 1215 = .ok (.iload 22, 2) := by decide +kernel
theorem dL_law_1217 : decode cL_law 1217 = .ok (.baload, 1) := by decide +kernel
theorem dL_law_1218 : decode cL_law 1218 = .ok (.ifCond .ne 111, 3) := by decide +kernel
theorem dL_law_1221 : decode cL_law 1221 = .ok (.aload 8, 2) := by decide +kernel
theorem dL_law_1223 : decode cL_law 1223 = .ok (.iload 21, 2) := by decide +kernel
theorem dL_law_1225 : decode cL_law 1225 = .ok (.iaload, 1) := by decide +kernel
theorem dL_law_1226 : decode cL_law 1226 = .ok (.aload 8, 2) := by decide +kernel
theorem dL_law_1228 : decode cL_law 1228 = .ok (.iload 22, 2) := by decide +kernel
theorem dL_law_1230 : decode cL_law 1230 = .ok (.iaload, 1) := by decide +kernel
theorem dL_law_1231 : decode cL_law 1231 = .ok (.if_icmp .eq 6, 3) := by decide +kernel
theorem dL_law_1234 : decode cL_law 1234 = .ok (.goto 95, 3) := by decide +kernel
theorem dL_law_1237 : decode cL_law 1237 = .ok (.aload 9, 2) := by decide +kernel
theorem dL_law_1239 : decode cL_law 1239 = .ok (.iload 21, 2) := by decide +kernel
theorem dL_law_1241 : decode cL_law 1241 = .ok (.iaload, 1) := by decide +kernel
theorem dL_law_1242 : decode cL_law 1242 = .ok (.aload 9, 2) := by decide +kernel
theorem dL_law_1244 : decode cL_law 1244 = .ok (.iload 22, 2) := by decide +kernel
theorem dL_law_1246 : decode cL_law 1246 = .ok (.iaload, 1) := by decide +kernel
theorem dL_law_1247 : decode cL_law 1247 = .ok (.if_icmp .ne 7, 3) := by decide +kernel
theorem dL_law_1250 : decode cL_law 1250 = .ok (.iconst 0, 1) := by decide +kernel
theorem dL_law_1251 : decode cL_law 1251 = .ok (.goto 4, 3) := by decide +kernel
theorem dL_law_1254 : decode cL_law 1254 = .ok (.iconst 1, 1) := by decide +kernel
theorem dL_law_1255 : decode cL_law 1255 = .ok (.aload 10, 2) := by decide +kernel
theorem dL_law_1257 : decode cL_law 1257 = .ok (.iload 21, 2) := by decide +kernel
theorem dL_law_1259 : decode cL_law 1259 = .ok (.iaload, 1) := by decide +kernel
theorem dL_law_1260 : decode cL_law 1260 = .ok (.aload 10, 2) := by decide +kernel
theorem dL_law_1262 : decode cL_law 1262 = .ok (.iload 22, 2) := by decide +kernel
theorem dL_law_1264 : decode cL_law 1264 = .ok (.iaload, 1) := by decide +kernel
theorem dL_law_1265 : decode cL_law 1265 = .ok (.if_icmp .ne 7, 3) := by decide +kernel
theorem dL_law_1268 : decode cL_law 1268 = .ok (.iconst 0, 1) := by decide +kernel
theorem dL_law_1269 : decode cL_law 1269 = .ok (.goto 4, 3) := by decide +kernel
theorem dL_law_1272 : decode cL_law 1272 = .ok (.iconst 1, 1) := by decide +kernel
theorem dL_law_1273 : decode cL_law 1273 = .ok (.iadd, 1) := by decide +kernel
theorem dL_law_1274 : decode cL_law 1274 = .ok (.aload 11, 2) := by decide +kernel
theorem dL_law_1276 : decode cL_law 1276 = .ok (.iload 21, 2) := by decide +kernel
theorem dL_law_1278 : decode cL_law 1278 = .ok (.baload, 1) := by decide +kernel
theorem dL_law_1279 : decode cL_law 1279 = .ok (.aload 11, 2) := by decide +kernel
theorem dL_law_1281 : decode cL_law 1281 = .ok (.iload 22, 2) := by decide +kernel
theorem dL_law_1283 : decode cL_law 1283 = .ok (.baload, 1) := by decide +kernel
theorem dL_law_1284 : decode cL_law 1284 = .ok (.if_icmp .ne 7, 3) := by decide +kernel
theorem dL_law_1287 : decode cL_law 1287 = .ok (.iconst 0, 1) := by decide +kernel
theorem dL_law_1288 : decode cL_law 1288 = .ok (.goto 4, 3) := by decide +kernel
theorem dL_law_1291 : decode cL_law 1291 = .ok (.iconst 1, 1) := by decide +kernel
theorem dL_law_1292 : decode cL_law 1292 = .ok (.iadd, 1) := by decide +kernel
theorem dL_law_1293 : decode cL_law 1293 = .ok (.istore 23, 2) := by decide +kernel
theorem dL_law_1295 : decode cL_law 1295 = .ok (.aload 6, 2) := by decide +kernel
theorem dL_law_1297 : decode cL_law 1297 = .ok (.iload 21, 2) := by decide +kernel
theorem dL_law_1299 : decode cL_law 1299 = .ok (.iaload, 1) := by decide +kernel
theorem dL_law_1300 : decode cL_law 1300 = .ok (.aload 7, 2) := by decide +kernel
theorem dL_law_1302 : decode cL_law 1302 = .ok (.iload 22, 2) := by decide +kernel
theorem dL_law_1304 : decode cL_law 1304 = .ok (.iaload, 1) := by decide +kernel
theorem dL_law_1305 : decode cL_law 1305 = .ok (.isub, 1) := by decide +kernel
