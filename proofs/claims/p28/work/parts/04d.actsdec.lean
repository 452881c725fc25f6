theorem dL_acts_696 : decode cL_acts 696 = .ok (.iaload, 1) := by decide +kernel
theorem dL_acts_697 : decode cL_acts 697 = .ok (.iconst 1, 1) := by decide +kernel
theorem dL_acts_698 : decode cL_acts 698 = .ok (.iadd, 1) := by decide +kernel
theorem dL_acts_699 : decode cL_acts 699 = .ok (.if_icmp .ne 7, 3) := by decide +kernel
theorem dL_acts_702 : decode cL_acts 702 = .ok (.iconst 0, 1) := by decide +kernel
theorem dL_acts_703 : decode cL_acts 703 = .ok (.goto 5, 3) := by decide +kernel
theorem dL_acts_706 : decode cL_acts 706 = .ok (.iload 13, 2) := by decide +kernel
theorem dL_acts_708 : decode cL_acts 708 = .ok (.invokestatic 156, 3) := by decide +kernel
theorem dL_acts_711 : decode cL_acts 711 = .ok (.aload 6, 2) := by decide +kernel
theorem dL_acts_713 : decode cL_acts 713 = .ok (.iconst 4, 1) := by decide +kernel
theorem dL_acts_714 : decode cL_acts 714 = .ok (.iaload, 1) := by decide +kernel
theorem dL_acts_715 : decode cL_acts 715 = .ok (.if_icmp .ne 20, 3) := by decide +kernel
theorem dL_acts_718 : decode cL_acts 718 = .ok (.aload_n 0, 1) := by decide +kernel
theorem dL_acts_719 : decode cL_acts 719 = .ok (.aload 6, 2) := by decide +kernel
theorem dL_acts_721 : decode cL_acts 721 = .ok (.iconst 4, 1) := by decide +kernel
theorem dL_acts_722 : decode cL_acts 722 = .ok (.iaload, 1) := by decide +kernel
theorem dL_acts_723 : decode cL_acts 723 = .ok (.invokestatic 156, 3) := by decide +kernel
theorem dL_acts_726 : decode cL_acts 726 = .ok (.ldc 28, 2) := by decide +kernel
theorem dL_acts_728 : decode cL_acts 728 = .ok (.if_icmp .ne 7, 3) := by decide +kernel
theorem dL_acts_731 : decode cL_acts 731 = .ok (.iconst 1, 1) := by decide +kernel
theorem dL_acts_732 : decode cL_acts 732 = .ok (.goto 4, 3) := by decide +kernel
theorem dL_acts_735 : decode cL_acts 735 = .ok (.iconst 0, 1) := by decide +kernel
theorem dL_acts_736 : decode cL_acts 736 = .ok (.ireturn, 1) := by decide +kernel
theorem dL_acts_737 : decode cL_acts 737 = .ok (.aload 6, 2) := by decide +kernel
theorem dL_acts_739 : decode cL_acts 739 = .ok (.iconst 4, 1) := by decide +kernel
theorem dL_acts_740 : decode cL_acts 740 = .ok (.dup2, 1) := by decide +kernel
theorem dL_acts_741 : decode cL_acts 741 = .ok (.iaload, 1) := by decide +kernel
theorem dL_acts_742 : decode cL_acts 742 = .ok (.iload 16, 2) := by decide +kernel
theorem dL_acts_744 : decode cL_acts 744 = .ok (.ifCond .le 7, 3) := by decide +kernel
theorem dL_acts_747 : decode cL_acts 747 = .ok (.iconst 1, 1) := by decide +kernel
theorem dL_acts_748 : decode cL_acts 748 = .ok (.goto 4, 3) := by decide +kernel
theorem dL_acts_751 : decode cL_acts 751 = .ok (.iconst 0, 1) := by decide +kernel
theorem dL_acts_752 : decode cL_acts 752 = .ok (.iadd, 1) := by decide +kernel
theorem dL_acts_753 : decode cL_acts 753 = .ok (.iastore, 1) := by decide +kernel
theorem dL_acts_754 : decode cL_acts 754 = .ok (.aload_n 0, 1) := by decide +kernel
theorem dL_acts_755 : decode cL_acts 755 = .ok (.iload 13, 2) := by decide +kernel
theorem dL_acts_757 : decode cL_acts 757 = .ok (.iload 14, 2) := by decide +kernel
theorem dL_acts_759 : decode cL_acts 759 = .ok (.iload 15, 2) := by decide +kernel
theorem dL_acts_761 : decode cL_acts 761 = .ok (.iload 8, 2) := by decide +kernel
theorem dL_acts_763 : decode cL_acts 763 = .ok (.bipush 20, 2) := by decide +kernel
theorem dL_acts_765 : decode cL_acts 765 = .ok (.ishr, 1) := by decide +kernel
theorem dL_acts_766 : decode cL_acts 766 = .ok (.iconst 5, 1) := by decide +kernel
theorem dL_acts_767 : decode cL_acts 767 = .ok (.invokestatic 147, 3) := by decide +kernel
theorem dL_acts_770 : decode cL_acts 770 = .ok (.iload 8, 2) := by decide +kernel
theorem dL_acts_772 : decode cL_acts 772 = .ok (.bipush 23, 2) := by decide +kernel
theorem dL_acts_774 : decode cL_acts 774 = .ok (.ishr, 1) := by decide +kernel
theorem dL_acts_775 : decode cL_acts 775 = .ok (.iconst 4, 1) := by decide +kernel
theorem dL_acts_776 : decode cL_acts 776 = .ok (.invokestatic 147, 3) := by decide +kernel
theorem dL_acts_779 : decode cL_acts 779 = .ok (.invokestatic 158, 3) := by decide +kernel
theorem dL_acts_782 : decode cL_acts 782 = .ok (.iload 16, 2) := by decide +kernel
theorem dL_acts_784 : decode cL_acts 784 = .ok (.if_icmp .ne 87, 3) := by decide +kernel
theorem dL_acts_787 : decode cL_acts 787 = .ok (.aload_n 1, 1) := by decide +kernel
theorem dL_acts_788 : decode cL_acts 788 = .ok (.iload 13, 2) := by decide +kernel
theorem dL_acts_790 : decode cL_acts 790 = .ok (.iload 14, 2) := by decide +kernel
theorem dL_acts_792 : decode cL_acts 792 = .ok (.iload 15, 2) := by decide +kernel
theorem dL_acts_794 : decode cL_acts 794 = .ok (.iload 8, 2) := by decide +kernel
theorem dL_acts_796 : decode cL_acts 796 = .ok (.bipush 20, 2) := by decide +kernel
theorem dL_acts_798 : decode cL_acts 798 = .ok (.ishr, 1) := by decide +kernel
theorem dL_acts_799 : decode cL_acts 799 = .ok (.iconst 5, 1) := by decide +kernel
theorem dL_acts_800 : decode cL_acts 800 = .ok (.invokestatic 147, 3) := by decide +kernel
theorem dL_acts_803 : decode cL_acts 803 = .ok (.iload 8, 2) := by decide +kernel
theorem dL_acts_805 : decode cL_acts 805 = .ok (.bipush 23, 2) := by decide +kernel
theorem dL_acts_807 : decode cL_acts 807 = .ok (.ishr, 1) := by decide +kernel
theorem dL_acts_808 : decode cL_acts 808 = .ok (.iconst 4, 1) := by decide +kernel
theorem dL_acts_809 : decode cL_acts 809 = .ok (.invokestatic 147, 3) := by decide +kernel
theorem dL_acts_812 : decode cL_acts 812 = .ok (.invokestatic 158, 3) := by decide +kernel
theorem dL_acts_815 : decode cL_acts 815 = .ok (.iload 16, 2) := by decide +kernel
theorem dL_acts_817 : decode cL_acts 817 = .ok (.if_icmp .ne 54, 3) := by decide +kernel
theorem dL_acts_820 : decode cL_acts 820 = .ok (.aload_n 0, 1) := by decide +kernel
theorem dL_acts_821 : decode cL_acts 821 = .ok (.aload 6, 2) := by decide +kernel
theorem dL_acts_823 : decode cL_acts 823 = .ok (.iconst 4, 1) := by decide +kernel
theorem dL_acts_824 : decode cL_acts 824 = .ok (.iaload, 1) := by decide +kernel
theorem dL_acts_825 : decode cL_acts 825 = .ok (.iconst 1, 1) := by decide +kernel
theorem dL_acts_826 : decode cL_acts 826 = .ok (.iadd, 1) := by decide +kernel
theorem dL_acts_827 : decode cL_acts 827 = .ok (.iconst 5, 1) := by decide +kernel
theorem dL_acts_828 : decode cL_acts 828 = .ok (.iconst 4, 1) := by decide +kernel
theorem dL_acts_829 : decode cL_acts 829 = .ok (.iconst 0, 1) := by decide +kernel
theorem dL_acts_830 : decode cL_acts 830 = .ok (.iconst 0, 1) := by decide +kernel
theorem dL_acts_831 : decode cL_acts 831 = .ok (.invokestatic 158, 3) := by decide +kernel
theorem dL_acts_834 : decode cL_acts 834 = .ok (.ldc 28, 2) := by decide +kernel
theorem dL_acts_836 : decode cL_acts 836 = .ok (.if_icmp .ne 35, 3) := by decide +kernel
theorem dL_acts_839 : decode cL_acts 839 = .ok (.aload_n 0, 1) := by decide +kernel
theorem dL_acts_840 : decode cL_acts 840 = .ok (.iconst 0, 1) := by decide +kernel
theorem dL_acts_841 : decode cL_acts 841 = .ok (.iconst 5, 1) := by decide +kernel
theorem dL_acts_842 : decode cL_acts 842 = .ok (.iconst 4, 1) := by decide +kernel
theorem dL_acts_843 : decode cL_acts 843 = .ok (.iconst 0, 1) := by decide +kernel
theorem dL_acts_844 : decode cL_acts 844 = .ok (.iconst 0, 1) := by decide +kernel
theorem dL_acts_845 : decode cL_acts 845 = .ok (.invokestatic 158, 3) := by decide +kernel
theorem dL_acts_848 : decode cL_acts 848 = .ok (.ldc 18, 2) := by decide +kernel
theorem dL_acts_850 : decode cL_acts 850 = .ok (.if_icmp .ne 21, 3) := by decide +kernel
theorem dL_acts_853 : decode cL_acts 853 = .ok (.aload_n 0, 1) := by decide +kernel
theorem dL_acts_854 : decode cL_acts 854 = .ok (.iconst 0, 1) := by decide +kernel
theorem dL_acts_855 : decode cL_acts 855 = .ok (.iconst 0, 1) := by decide +kernel
theorem dL_acts_856 : decode cL_acts 856 = .ok (.iconst 0, 1) := by decide +kernel
theorem dL_acts_857 : decode cL_acts 857 = .ok (.iconst 0, 1) := by decide +kernel
theorem dL_acts_858 : decode cL_acts 858 = .ok (.iconst 4, 1) := by decide +kernel
theorem dL_acts_859 : decode cL_acts 859 = .ok (.invokestatic 158, 3) := by decide +kernel
theorem dL_acts_862 : decode cL_acts 862 = .ok (.ldc 18, 2) := by decide +kernel
theorem dL_acts_864 : decode cL_acts 864 = .ok (.if_icmp .ne 7, 3) := by decide +kernel
theorem dL_acts_867 : decode cL_acts 867 = .ok (.iconst 1, 1) := by decide +kernel
theorem dL_acts_868 : decode cL_acts 868 = .ok (.goto 4, 3) := by decide +kernel
theorem dL_acts_871 : decode cL_acts 871 = .ok (.iconst 0, 1) := by decide +kernel
theorem dL_acts_872 : decode cL_acts 872 = .ok (.ireturn, 1) := by decide +kernel
theorem dL_acts_873 : decode cL_acts 873 = .ok (.iload 9, 2) := by decide +kernel
theorem dL_acts_875 : decode cL_acts 875 = .ok (.bipush 7, 2) := by decide +kernel
theorem dL_acts_877 : decode cL_acts 877 = .ok (.if_icmp .ne 112, 3) := by decide +kernel
theorem dL_acts_880 : decode cL_acts 880 = .ok (.iload 8, 2) := by decide +kernel
theorem dL_acts_882 : decode cL_acts 882 = .ok (.bipush 8, 2) := by decide +kernel
theorem dL_acts_884 : decode cL_acts 884 = .ok (.ishr, 1) := by decide +kernel
theorem dL_acts_885 : decode cL_acts 885 = .ok (.iconst 5, 1) := by decide +kernel
theorem dL_acts_886 : decode cL_acts 886 = .ok (.invokestatic 147, 3) := by decide +kernel
theorem dL_acts_889 : decode cL_acts 889 = .ok (.iconst 1, 1) := by decide +kernel
theorem dL_acts_890 : decode cL_acts 890 = .ok (.isub, 1) := by decide +kernel
theorem dL_acts_891 : decode cL_acts 891 = .ok (.istore 13, 2) := by decide +kernel
theorem dL_acts_893 : decode cL_acts 893 = .ok (.aload_n 0, 1) := by decide +kernel
theorem dL_acts_894 : decode cL_acts 894 = .ok (.iload 10, 2) := by decide +kernel
theorem dL_acts_896 : decode cL_acts 896 = .ok (.iload 13, 2) := by decide +kernel
theorem dL_acts_898 : decode cL_acts 898 = .ok (.invokestatic 139, 3) := by decide +kernel
theorem dL_acts_901 : decode cL_acts 901 = .ok (.istore 14, 2) := by decide +kernel
theorem dL_acts_903 : decode cL_acts 903 = .ok (.aload_n 1, 1) := by decide +kernel
theorem dL_acts_904 : decode cL_acts 904 = .ok (.iload 10, 2) := by decide +kernel
theorem dL_acts_906 : decode cL_acts 906 = .ok (.iload 13, 2) := by decide +kernel
theorem dL_acts_908 : decode cL_acts 908 = .ok (.invokestatic 139, 3) := by decide +kernel
theorem dL_acts_911 : decode cL_acts 911 = .ok (.iload 14, 2) := by decide +kernel
theorem dL_acts_913 : decode cL_acts 913 = .ok (.if_icmp .ne 74, 3) := by decide +kernel
theorem dL_acts_916 : decode cL_acts 916 = .ok (.iload 14, 2) := by decide +kernel
theorem dL_acts_918 : decode cL_acts 918 = .ok (.iconst (-1), 1) := by decide +kernel
theorem dL_acts_919 : decode cL_acts 919 = .ok (.if_icmp .lt 68, 3) := by decide +kernel
theorem dL_acts_922 : decode cL_acts 922 = .ok (.iload 14, 2) := by decide +kernel
theorem dL_acts_924 : decode cL_acts 924 = .ok (.iconst 4, 1) := by decide +kernel
theorem dL_acts_925 : decode cL_acts 925 = .ok (.if_icmp .ge 62, 3) := by decide +kernel
theorem dL_acts_928 : decode cL_acts 928 = .ok (.iload 13, 2) := by decide +kernel
theorem dL_acts_930 : decode cL_acts 930 = .ok (.ifCond .lt 14, 3) := by decide +kernel
theorem dL_acts_933 : decode cL_acts 933 = .ok (.aload_n 0, 1) := by decide +kernel
theorem dL_acts_934 : decode cL_acts 934 = .ok (.iload 10, 2) := by decide +kernel
theorem dL_acts_936 : decode cL_acts 936 = .ok (.invokestatic 137, 3) := by decide +kernel
theorem dL_acts_939 : decode cL_acts 939 = .ok (.iload 13, 2) := by decide +kernel
theorem dL_acts_941 : decode cL_acts 941 = .ok (.if_icmp .ne 46, 3) := by decide +kernel
theorem dL_acts_944 : decode cL_acts 944 = .ok (.aload_n 0, 1) := by decide +kernel
theorem dL_acts_945 : decode cL_acts 945 = .ok (.iload 10, 2) := by decide +kernel
theorem dL_acts_947 : decode cL_acts 947 = .ok (.iload 13, 2) := by decide +kernel
theorem dL_acts_949 : decode cL_acts 949 = .ok (.invokestatic 139, 3) := by decide +kernel
theorem dL_acts_952 : decode cL_acts 952 = .ok (.iload 13, 2) := by decide +kernel
theorem dL_acts_954 : decode cL_acts 954 = .ok (.if_icmp .ne 33, 3) := by decide +kernel
theorem dL_acts_957 : decode cL_acts 957 = .ok (.aload_n 0, 1) := by decide +kernel
theorem dL_acts_958 : decode cL_acts 958 = .ok (.iload 10, 2) := by decide +kernel
theorem dL_acts_960 : decode cL_acts 960 = .ok (.iconst 4, 1) := by decide +kernel
theorem dL_acts_961 : decode cL_acts 961 = .ok (.invokestatic 139, 3) := by decide +kernel
theorem dL_acts_964 : decode cL_acts 964 = .ok (.ldc 18, 2) := by decide +kernel
theorem dL_acts_966 : decode cL_acts 966 = .ok (.if_icmp .ne 21, 3) := by decide +kernel
theorem dL_acts_969 : decode cL_acts 969 = .ok (.aload_n 0, 1) := by decide +kernel
theorem dL_acts_970 : decode cL_acts 970 = .ok (.aload 6, 2) := by decide +kernel
theorem dL_acts_972 : decode cL_acts 972 = .ok (.iconst 0, 1) := by decide +kernel
theorem dL_acts_973 : decode cL_acts 973 = .ok (.iaload, 1) := by decide +kernel
theorem dL_acts_974 : decode cL_acts 974 = .ok (.iconst 4, 1) := by decide +kernel
theorem dL_acts_975 : decode cL_acts 975 = .ok (.invokestatic 139, 3) := by decide +kernel
theorem dL_acts_978 : decode cL_acts 978 = .ok (.ldc 28, 2) := by decide +kernel
theorem dL_acts_980 : decode cL_acts 980 = .ok (.if_icmp .ne 7, 3) := by decide +kernel
theorem dL_acts_983 : decode cL_acts 983 = .ok (.iconst 1, 1) := by decide +kernel
theorem dL_acts_984 : decode cL_acts 984 = .ok (.goto 4, 3) := by decide +kernel
theorem dL_acts_987 : decode cL_acts 987 = .ok (.iconst 0, 1) := by decide +kernel
theorem dL_acts_988 : decode cL_acts 988 = .ok (.ireturn, 1) := by decide +kernel
theorem dL_acts_989 : decode cL_acts 989 = .ok (.iload 9, 2) := by decide +kernel
theorem dL_acts_991 : decode cL_acts 991 = .ok (.bipush 8, 2) := by decide +kernel
theorem dL_acts_993 : decode cL_acts 993 = .ok (.if_icmp .ne 104, 3) := by decide +kernel
theorem dL_acts_996 : decode cL_acts 996 = .ok (.aload_n 3, 1) := by decide +kernel
theorem dL_acts_997 : decode cL_acts 997 = .ok (.iconst 3, 1) := by decide +kernel
theorem dL_acts_998 : decode cL_acts 998 = .ok (.iload 11, 2) := by decide +kernel
theorem dL_acts_1000 : decode cL_acts 1000 = .ok (.imul, 1) := by decide +kernel
theorem dL_acts_1001 : decode cL_acts 1001 = .ok (.iconst 2, 1) := by decide +kernel
theorem dL_acts_1002 : decode cL_acts 1002 = .ok (.iadd, 1) := by decide +kernel
theorem dL_acts_1003 : decode cL_acts 1003 = .ok (.iaload, 1) := by decide +kernel
theorem dL_acts_1004 : decode cL_acts 1004 = .ok (.istore 13, 2) := by decide +kernel
theorem dL_acts_1006 : decode cL_acts 1006 = .ok (.aload_n 3, 1) := by decide +kernel
theorem dL_acts_1007 : decode cL_acts 1007 = .ok (.iconst 3, 1) := by decide +kernel
theorem dL_acts_1008 : decode cL_acts 1008 = .ok (.iload 11, 2) := by decide +kernel
theorem dL_acts_1010 : decode cL_acts 1010 = .ok (.imul, 1) := by decide +kernel
theorem dL_acts_1011 : decode cL_acts 1011 = .ok (.iconst 2, 1) := by decide +kernel
theorem dL_acts_1012 : decode cL_acts 1012 = .ok (.iadd, 1) := by decide +kernel
theorem dL_acts_1013 : decode cL_acts 1013 = .ok (.iload 8, 2) := by decide +kernel
theorem dL_acts_1015 : decode cL_acts 1015 = .ok (.sipush 2001, 3) := by decide +kernel
theorem dL_acts_1018 : decode cL_acts 1018 = .ok (.invokestatic 147, 3) := by decide +kernel
theorem dL_acts_1021 : decode cL_acts 1021 = .ok (.sipush 1000, 3) := by decide +kernel
theorem dL_acts_1024 : decode cL_acts 1024 = .ok (.isub, 1) := by decide +kernel
theorem dL_acts_1025 : decode cL_acts 1025 = .ok (.iastore, 1) := by decide +kernel
theorem dL_acts_1026 : decode cL_acts 1026 = .ok (.aload_n 0, 1) := by decide +kernel
theorem dL_acts_1027 : decode cL_acts 1027 = .ok (.iload 11, 2) := by decide +kernel
theorem dL_acts_1029 : decode cL_acts 1029 = .ok (.aload_n 3, 1) := by decide +kernel
theorem dL_acts_1030 : decode cL_acts 1030 = .ok (.iconst 3, 1) := by decide +kernel
theorem dL_acts_1031 : decode cL_acts 1031 = .ok (.iload 11, 2) := by decide +kernel
theorem dL_acts_1033 : decode cL_acts 1033 = .ok (.imul, 1) := by decide +kernel
theorem dL_acts_1034 : decode cL_acts 1034 = .ok (.iconst 2, 1) := by decide +kernel
theorem dL_acts_1035 : decode cL_acts 1035 = .ok (.iadd, 1) := by decide +kernel
theorem dL_acts_1036 : decode cL_acts 1036 = .ok (.iaload, 1) := by decide +kernel
theorem dL_acts_1037 : decode cL_acts 1037 = .ok (.invokestatic 161, 3) := by decide +kernel
theorem dL_acts_1040 : decode cL_acts 1040 = .ok (.iload 13, 2) := by decide +kernel
theorem dL_acts_1042 : decode cL_acts 1042 = .ok (.if_icmp .ne 53, 3) := by decide +kernel
theorem dL_acts_1045 : decode cL_acts 1045 = .ok (.aload_n 1, 1) := by decide +kernel
theorem dL_acts_1046 : decode cL_acts 1046 = .ok (.iload 11, 2) := by decide +kernel
theorem dL_acts_1048 : decode cL_acts 1048 = .ok (.aload_n 3, 1) := by decide +kernel
theorem dL_acts_1049 : decode cL_acts 1049 = .ok (.iconst 3, 1) := by decide +kernel
theorem dL_acts_1050 : decode cL_acts 1050 = .ok (.iload 11, 2) := by decide +kernel
theorem dL_acts_1052 : decode cL_acts 1052 = .ok (.imul, 1) := by decide +kernel
theorem dL_acts_1053 : decode cL_acts 1053 = .ok (.iconst 2, 1) := by decide +kernel
theorem dL_acts_1054 : decode cL_acts 1054 = .ok (.iadd, 1) := by decide +kernel
theorem dL_acts_1055 : decode cL_acts 1055 = .ok (.iaload, 1) := by decide +kernel
theorem dL_acts_1056 : decode cL_acts 1056 = .ok (.invokestatic 161, 3) := by decide +kernel
theorem dL_acts_1059 : decode cL_acts 1059 = .ok (.iload 13, 2) := by decide +kernel
theorem dL_acts_1061 : decode cL_acts 1061 = .ok (.if_icmp .ne 34, 3) := by decide +kernel
theorem dL_acts_1064 : decode cL_acts 1064 = .ok (.aload_n 0, 1) := by decide +kernel
theorem dL_acts_1065 : decode cL_acts 1065 = .ok (.iload 11, 2) := by decide +kernel
theorem dL_acts_1067 : decode cL_acts 1067 = .ok (.ldc 163, 2) := by decide +kernel
theorem dL_acts_1069 : decode cL_acts 1069 = .ok (.invokestatic 161, 3) := by decide +kernel
theorem dL_acts_1072 : decode cL_acts 1072 = .ok (.ldc 50, 2) := by decide +kernel
theorem dL_acts_1074 : decode cL_acts 1074 = .ok (.if_icmp .ne 21, 3) := by decide +kernel
theorem dL_acts_1077 : decode cL_acts 1077 = .ok (.aload_n 0, 1) := by decide +kernel
theorem dL_acts_1078 : decode cL_acts 1078 = .ok (.aload 6, 2) := by decide +kernel
theorem dL_acts_1080 : decode cL_acts 1080 = .ok (.iconst 1, 1) := by decide +kernel
theorem dL_acts_1081 : decode cL_acts 1081 = .ok (.iaload, 1) := by decide +kernel
theorem dL_acts_1082 : decode cL_acts 1082 = .ok (.iconst 0, 1) := by decide +kernel
theorem dL_acts_1083 : decode cL_acts 1083 = .ok (.invokestatic 161, 3) := by decide +kernel
theorem dL_acts_1086 : decode cL_acts 1086 = .ok (.ldc 49, 2) := by decide +kernel
theorem dL_acts_1088 : decode cL_acts 1088 = .ok (.if_icmp .ne 7, 3) := by decide +kernel
theorem dL_acts_1091 : decode cL_acts 1091 = .ok (.iconst 1, 1) := by decide +kernel
theorem dL_acts_1092 : decode cL_acts 1092 = .ok (.goto 4, 3) := by decide +kernel
theorem dL_acts_1095 : decode cL_acts 1095 = .ok (.iconst 0, 1) := by decide +kernel
theorem dL_acts_1096 : decode cL_acts 1096 = .ok (.ireturn, 1) := by decide +kernel
theorem dL_acts_1097 : decode cL_acts 1097 = .ok (.iload 9, 2) := by decide +kernel
theorem dL_acts_1099 : decode cL_acts 1099 = .ok (.bipush 13, 2) := by decide +kernel
theorem dL_acts_1101 : decode cL_acts 1101 = .ok (.if_icmp .ge 174, 3) := by decide +kernel
theorem dL_acts_1104 : decode cL_acts 1104 = .ok (.iload 8, 2) := by decide +kernel
theorem dL_acts_1106 : decode cL_acts 1106 = .ok (.bipush 8, 2) := by decide +kernel
theorem dL_acts_1108 : decode cL_acts 1108 = .ok (.ishr, 1) := by decide +kernel
theorem dL_acts_1109 : decode cL_acts 1109 = .ok (.aload 6, 2) := by decide +kernel
theorem dL_acts_1111 : decode cL_acts 1111 = .ok (.iconst 1, 1) := by decide +kernel
theorem dL_acts_1112 : decode cL_acts 1112 = .ok (.iaload, 1) := by decide +kernel
theorem dL_acts_1113 : decode cL_acts 1113 = .ok (.invokestatic 147, 3) := by decide +kernel
theorem dL_acts_1116 : decode cL_acts 1116 = .ok (.istore 13, 2) := by decide +kernel
theorem dL_acts_1118 : decode cL_acts 1118 = .ok (.iconst 1, 1) := by decide +kernel
theorem dL_acts_1119 : decode cL_acts 1119 = .ok (.iload 8, 2) := by decide +kernel
theorem dL_acts_1121 : decode cL_acts 1121 = .ok (.bipush 11, 2) := by decide +kernel
theorem dL_acts_1123 : decode cL_acts 1123 = .ok (.ishr, 1) := by decide +kernel
theorem dL_acts_1124 : decode cL_acts 1124 = .ok (.bipush 100, 2) := by decide +kernel
theorem dL_acts_1126 : decode cL_acts 1126 = .ok (.invokestatic 147, 3) := by decide +kernel
theorem dL_acts_1129 : decode cL_acts 1129 = .ok (.iadd, 1) := by decide +kernel
theorem dL_acts_1130 : decode cL_acts 1130 = .ok (.istore 14, 2) := by decide +kernel
theorem dL_acts_1132 : decode cL_acts 1132 = .ok (.aload_n 0, 1) := by decide +kernel
theorem dL_acts_1133 : decode cL_acts 1133 = .ok (.iload 12, 2) := by decide +kernel
theorem dL_acts_1135 : decode cL_acts 1135 = .ok (.iload 11, 2) := by decide +kernel
theorem dL_acts_1137 : decode cL_acts 1137 = .ok (.iload 13, 2) := by decide +kernel
theorem dL_acts_1139 : decode cL_acts 1139 = .ok (.iload 14, 2) := by decide +kernel
theorem dL_acts_1141 : decode cL_acts 1141 = .ok (.invokestatic 141, 3) := by decide +kernel
theorem dL_acts_1144 : decode cL_acts 1144 = .ok (.istore 15, 2) := by decide +kernel
theorem dL_acts_1146 : decode cL_acts 1146 = .ok (.aload_n 1, 1) := by decide +kernel
theorem dL_acts_1147 : decode cL_acts 1147 = .ok (.iload 12, 2) := by decide +kernel
theorem dL_acts_1149 : decode cL_acts 1149 = .ok (.iload 11, 2) := by decide +kernel
theorem dL_acts_1151 : decode cL_acts 1151 = .ok (.iload 13, 2) := by decide +kernel
theorem dL_acts_1153 : decode cL_acts 1153 = .ok (.iload 14, 2) := by decide +kernel
theorem dL_acts_1155 : decode cL_acts 1155 = .ok (.invokestatic 141, 3) := by decide +kernel
theorem dL_acts_1158 : decode cL_acts 1158 = .ok (.iload 15, 2) := by decide +kernel
theorem dL_acts_1160 : decode cL_acts 1160 = .ok (.if_icmp .ne 45, 3) := by decide +kernel
theorem dL_acts_1163 : decode cL_acts 1163 = .ok (.iload 13, 2) := by decide +kernel
theorem dL_acts_1165 : decode cL_acts 1165 = .ok (.iload 11, 2) := by decide +kernel
theorem dL_acts_1167 : decode cL_acts 1167 = .ok (.if_icmp .ne 13, 3) := by decide +kernel
theorem dL_acts_1170 : decode cL_acts 1170 = .ok (.iload 15, 2) := by decide +kernel
theorem dL_acts_1172 : decode cL_acts 1172 = .ok (.ldc 18, 2) := by decide +kernel
theorem dL_acts_1174 : decode cL_acts 1174 = .ok (.if_icmp .ne 31, 3) := by decide +kernel
theorem dL_acts_1177 : decode cL_acts 1177 = .ok (.goto 24, 3) := by decide +kernel
theorem dL_acts_1180 : decode cL_acts 1180 = .ok (.iload 15, 2) := by decide +kernel
theorem dL_acts_1182 : decode cL_acts 1182 = .ok (.ldc 21, 2) := by decide +kernel
theorem dL_acts_1184 : decode cL_acts 1184 = .ok (.if_icmp .eq 17, 3) := by decide +kernel
theorem dL_acts_1187 : decode cL_acts 1187 = .ok (.iload 15, 2) := by decide +kernel
theorem dL_acts_1189 : decode cL_acts 1189 = .ok (.iload 14, 2) := by decide +kernel
theorem dL_acts_1191 : decode cL_acts 1191 = .ok (.if_icmp .lt 14, 3) := by decide +kernel
theorem dL_acts_1194 : decode cL_acts 1194 = .ok (.iload 15, 2) := by decide +kernel
theorem dL_acts_1196 : decode cL_acts 1196 = .ok (.bipush 100, 2) := by decide +kernel
theorem dL_acts_1198 : decode cL_acts 1198 = .ok (.if_icmp .gt 7, 3) := by decide +kernel
theorem dL_acts_1201 : decode cL_acts 1201 = .ok (.iconst 1, 1) := by decide +kernel
theorem dL_acts_1202 : decode cL_acts 1202 = .ok (.goto 4, 3) := by decide +kernel
theorem dL_acts_1205 : decode cL_acts 1205 = .ok (.iconst 0, 1) := by decide +kernel
theorem dL_acts_1206 : decode cL_acts 1206 = .ok (.istore 16, 2) := by decide +kernel
theorem dL_acts_1208 : decode cL_acts 1208 = .ok (.iload 16, 2) := by decide +kernel
theorem dL_acts_1210 : decode cL_acts 1210 = .ok (.ifCond .eq 63, 3) := by decide +kernel
theorem dL_acts_1213 : decode cL_acts 1213 = .ok (.iload 15, 2) := by decide +kernel
theorem dL_acts_1215 : decode cL_acts 1215 = .ok (.ifCond .lt 37, 3) := by decide +kernel
theorem dL_acts_1218 : decode cL_acts 1218 = .ok (.aload_n 0, 1) := by decide +kernel
theorem dL_acts_1219 : decode cL_acts 1219 = .ok (.iload 12, 2) := by decide +kernel
theorem dL_acts_1221 : decode cL_acts 1221 = .ok (.iload 13, 2) := by decide +kernel
theorem dL_acts_1223 : decode cL_acts 1223 = .ok (.iload 11, 2) := by decide +kernel
theorem dL_acts_1225 : decode cL_acts 1225 = .ok (.iload 14, 2) := by decide +kernel
theorem dL_acts_1227 : decode cL_acts 1227 = .ok (.invokestatic 141, 3) := by decide +kernel
theorem dL_acts_1230 : decode cL_acts 1230 = .ok (.iload 14, 2) := by decide +kernel
theorem dL_acts_1232 : decode cL_acts 1232 = .ok (.if_icmp .lt 41, 3) := by decide +kernel
theorem dL_acts_1235 : decode cL_acts 1235 = .ok (.aload_n 0, 1) := by decide +kernel
theorem dL_acts_1236 : decode cL_acts 1236 = .ok (.iload 12, 2) := by decide +kernel
theorem dL_acts_1238 : decode cL_acts 1238 = .ok (.iload 11, 2) := by decide +kernel
theorem dL_acts_1240 : decode cL_acts 1240 = .ok (.iload 13, 2) := by decide +kernel
theorem dL_acts_1242 : decode cL_acts 1242 = .ok (.iload 14, 2) := by decide +kernel
theorem dL_acts_1244 : decode cL_acts 1244 = .ok (.invokestatic 141, 3) := by decide +kernel
theorem dL_acts_1247 : decode cL_acts 1247 = .ok (.iload 15, 2) := by decide +kernel
theorem dL_acts_1249 : decode cL_acts 1249 = .ok (.if_icmp .ne 24, 3) := by decide +kernel
theorem dL_acts_1252 : decode cL_acts 1252 = .ok (.aload_n 0, 1) := by decide +kernel
theorem dL_acts_1253 : decode cL_acts 1253 = .ok (.iload 12, 2) := by decide +kernel
theorem dL_acts_1255 : decode cL_acts 1255 = .ok (.iload 11, 2) := by decide +kernel
theorem dL_acts_1257 : decode cL_acts 1257 = .ok (.iload 13, 2) := by decide +kernel
theorem dL_acts_1259 : decode cL_acts 1259 = .ok (.bipush 101, 2) := by decide +kernel
theorem dL_acts_1261 : decode cL_acts 1261 = .ok (.invokestatic 141, 3) := by decide +kernel
theorem dL_acts_1264 : decode cL_acts 1264 = .ok (.ldc 18, 2) := by decide +kernel
theorem dL_acts_1266 : decode cL_acts 1266 = .ok (.if_icmp .ne 7, 3) := by decide +kernel
theorem dL_acts_1269 : decode cL_acts 1269 = .ok (.iconst 1, 1) := by decide +kernel
theorem dL_acts_1270 : decode cL_acts 1270 = .ok (.goto 4, 3) := by decide +kernel
theorem dL_acts_1273 : decode cL_acts 1273 = .ok (.iconst 0, 1) := by decide +kernel
theorem dL_acts_1274 : decode cL_acts 1274 = .ok (.ireturn, 1) := by decide +kernel
theorem dL_acts_1275 : decode cL_acts 1275 = .ok (.iload 9, 2) := by decide +kernel
theorem dL_acts_1277 : decode cL_acts 1277 = .ok (.bipush 19, 2) := by decide +kernel
theorem dL_acts_1279 : decode cL_acts 1279 = .ok (.if_icmp .ge 75, 3) := by decide +kernel
theorem dL_acts_1282 : decode cL_acts 1282 = .ok (.iload 8, 2) := by decide +kernel
theorem dL_acts_1284 : decode cL_acts 1284 = .ok (.bipush 8, 2) := by decide +kernel
theorem dL_acts_1286 : decode cL_acts 1286 = .ok (.ishr, 1) := by decide +kernel
theorem dL_acts_1287 : decode cL_acts 1287 = .ok (.iconst 3, 1) := by decide +kernel
theorem dL_acts_1288 : decode cL_acts 1288 = .ok (.invokestatic 147, 3) := by decide +kernel
theorem dL_acts_1291 : decode cL_acts 1291 = .ok (.ifCond .ne 16, 3) := by decide +kernel
theorem dL_acts_1294 : decode cL_acts 1294 = .ok (.iload 8, 2) := by decide +kernel
theorem dL_acts_1296 : decode cL_acts 1296 = .ok (.bipush 10, 2) := by decide +kernel
theorem dL_acts_1298 : decode cL_acts 1298 = .ok (.ishr, 1) := by decide +kernel
theorem dL_acts_1299 : decode cL_acts 1299 = .ok (.bipush 6, 2) := by decide +kernel
theorem dL_acts_1301 : decode cL_acts 1301 = .ok (.invokestatic 147, 3) := by decide +kernel
theorem dL_acts_1304 : decode cL_acts 1304 = .ok (.goto 34, 3) := by decide +kernel
theorem dL_acts_1307 : decode cL_acts 1307 = .ok (.aload_n 0, 1) := by decide +kernel
theorem dL_acts_1308 : decode cL_acts 1308 = .ok (.iload 12, 2) := by decide +kernel
theorem dL_acts_1310 : decode cL_acts 1310 = .ok (.invokestatic 107, 3) := by decide +kernel
theorem dL_acts_1313 : decode cL_acts 1313 = .ok (.iconst 4, 1) := by decide +kernel
theorem dL_acts_1314 : decode cL_acts 1314 = .ok (.if_icmp .ge 14, 3) := by decide +kernel
theorem dL_acts_1317 : decode cL_acts 1317 = .ok (.aload_n 0, 1) := by decide +kernel
theorem dL_acts_1318 : decode cL_acts 1318 = .ok (.iload 12, 2) := by decide +kernel
theorem dL_acts_1320 : decode cL_acts 1320 = .ok (.invokestatic 107, 3) := by decide +kernel
theorem dL_acts_1323 : decode cL_acts 1323 = .ok (.iconst 1, 1) := by decide +kernel
theorem dL_acts_1324 : decode cL_acts 1324 = .ok (.iadd, 1) := by decide +kernel
theorem dL_acts_1325 : decode cL_acts 1325 = .ok (.goto 13, 3) := by decide +kernel
theorem dL_acts_1328 : decode cL_acts 1328 = .ok (.iload 8, 2) := by decide +kernel
theorem dL_acts_1330 : decode cL_acts 1330 = .ok (.bipush 10, 2) := by decide +kernel
theorem dL_acts_1332 : decode cL_acts 1332 = .ok (.ishr, 1) := by decide +kernel
theorem dL_acts_1333 : decode cL_acts 1333 = .ok (.bipush 6, 2) := by decide +kernel
theorem dL_acts_1335 : decode cL_acts 1335 = .ok (.invokestatic 147, 3) := by decide +kernel
theorem dL_acts_1338 : decode cL_acts 1338 = .ok (.istore 13, 2) := by decide +kernel
theorem dL_acts_1340 : decode cL_acts 1340 = .ok (.aload_n 0, 1) := by decide +kernel
theorem dL_acts_1341 : decode cL_acts 1341 = .ok (.aload_n 1, 1) := by decide +kernel
theorem dL_acts_1342 : decode cL_acts 1342 = .ok (.aload 4, 2) := by decide +kernel
theorem dL_acts_1344 : decode cL_acts 1344 = .ok (.aload 6, 2) := by decide +kernel
theorem dL_acts_1346 : decode cL_acts 1346 = .ok (.iload 12, 2) := by decide +kernel
theorem dL_acts_1348 : decode cL_acts 1348 = .ok (.iload 13, 2) := by decide +kernel
theorem dL_acts_1350 : decode cL_acts 1350 = .ok (.invokestatic 164, 3) := by decide +kernel
theorem dL_acts_1353 : decode cL_acts 1353 = .ok (.ireturn, 1) := by decide +kernel
theorem dL_acts_1354 : decode cL_acts 1354 = .ok (.iload 9, 2) := by decide +kernel
theorem dL_acts_1356 : decode cL_acts 1356 = .ok (.bipush 23, 2) := by decide +kernel
theorem dL_acts_1358 : decode cL_acts 1358 = .ok (.if_icmp .ge 248, 3) := by decide +kernel
theorem dL_acts_1361 : decode cL_acts 1361 = .ok (.iload 8, 2) := by decide +kernel
theorem dL_acts_1363 : decode cL_acts 1363 = .ok (.bipush 8, 2) := by decide +kernel
theorem dL_acts_1365 : decode cL_acts 1365 = .ok (.ishr, 1) := by decide +kernel
theorem dL_acts_1366 : decode cL_acts 1366 = .ok (.bipush 100, 2) := by decide +kernel
theorem dL_acts_1368 : decode cL_acts 1368 = .ok (.invokestatic 147, 3) := by decide +kernel
theorem dL_acts_1371 : decode cL_acts 1371 = .ok (.istore 13, 2) := by decide +kernel
theorem dL_acts_1373 : decode cL_acts 1373 = .ok (.aload_n 0, 1) := by decide +kernel
theorem dL_acts_1374 : decode cL_acts 1374 = .ok (.iload 12, 2) := by decide +kernel
theorem dL_acts_1376 : decode cL_acts 1376 = .ok (.invokestatic 107, 3) := by decide +kernel
theorem dL_acts_1379 : decode cL_acts 1379 = .ok (.iconst 4, 1) := by decide +kernel
theorem dL_acts_1380 : decode cL_acts 1380 = .ok (.if_icmp .ge 7, 3) := by decide +kernel
theorem dL_acts_1383 : decode cL_acts 1383 = .ok (.iconst 1, 1) := by decide +kernel
theorem dL_acts_1384 : decode cL_acts 1384 = .ok (.goto 4, 3) := by decide +kernel
theorem dL_acts_1387 : decode cL_acts 1387 = .ok (.iconst 0, 1) := by decide +kernel
theorem dL_acts_1388 : decode cL_acts 1388 = .ok (.istore 14, 2) := by decide +kernel
theorem dL_acts_1390 : decode cL_acts 1390 = .ok (.aload 6, 2) := by decide +kernel
theorem dL_acts_1392 : decode cL_acts 1392 = .ok (.iconst 3, 1) := by decide +kernel
theorem dL_acts_1393 : decode cL_acts 1393 = .ok (.iaload, 1) := by decide +kernel
theorem dL_acts_1394 : decode cL_acts 1394 = .ok (.istore 15, 2) := by decide +kernel
theorem dL_acts_1396 : decode cL_acts 1396 = .ok (.iload 14, 2) := by decide +kernel
theorem dL_acts_1398 : decode cL_acts 1398 = .ok (.ifCond .eq 15, 3) := by decide +kernel
theorem dL_acts_1401 : decode cL_acts 1401 = .ok (.iload 15, 2) := by decide +kernel
theorem dL_acts_1403 : decode cL_acts 1403 = .ok (.bipush 30, 2) := by decide +kernel
theorem dL_acts_1405 : decode cL_acts 1405 = .ok (.if_icmp .ge 8, 3) := by decide +kernel
theorem dL_acts_1408 : decode cL_acts 1408 = .ok (.iload 15, 2) := by decide +kernel
theorem dL_acts_1410 : decode cL_acts 1410 = .ok (.goto 5, 3) := by decide +kernel
theorem dL_acts_1413 : decode cL_acts 1413 = .ok (.ldc 21, 2) := by decide +kernel
theorem dL_acts_1415 : decode cL_acts 1415 = .ok (.istore 16, 2) := by decide +kernel
theorem dL_acts_1417 : decode cL_acts 1417 = .ok (.iload 15, 2) := by decide +kernel
theorem dL_acts_1419 : decode cL_acts 1419 = .ok (.bipush 30, 2) := by decide +kernel
theorem dL_acts_1421 : decode cL_acts 1421 = .ok (.if_icmp .ne 40, 3) := by decide +kernel
theorem dL_acts_1424 : decode cL_acts 1424 = .ok (.aload_n 0, 1) := by decide +kernel
theorem dL_acts_1425 : decode cL_acts 1425 = .ok (.iload 12, 2) := by decide +kernel
theorem dL_acts_1427 : decode cL_acts 1427 = .ok (.iload 11, 2) := by decide +kernel
theorem dL_acts_1429 : decode cL_acts 1429 = .ok (.bipush 100, 2) := by decide +kernel
theorem dL_acts_1431 : decode cL_acts 1431 = .ok (.invokestatic 144, 3) := by decide +kernel
theorem dL_acts_1434 : decode cL_acts 1434 = .ok (.ldc 18, 2) := by decide +kernel
theorem dL_acts_1436 : decode cL_acts 1436 = .ok (.if_icmp .ne 23, 3) := by decide +kernel
theorem dL_acts_1439 : decode cL_acts 1439 = .ok (.aload_n 0, 1) := by decide +kernel
theorem dL_acts_1440 : decode cL_acts 1440 = .ok (.iload 12, 2) := by decide +kernel
theorem dL_acts_1442 : decode cL_acts 1442 = .ok (.aload 6, 2) := by decide +kernel
theorem dL_acts_1444 : decode cL_acts 1444 = .ok (.iconst 1, 1) := by decide +kernel
theorem dL_acts_1445 : decode cL_acts 1445 = .ok (.iaload, 1) := by decide +kernel
theorem dL_acts_1446 : decode cL_acts 1446 = .ok (.iconst 0, 1) := by decide +kernel
