theorem dL_law_761 : decode cL_law 761 = .ok (.goto 4, 3) := by decide +kernel
theorem dL_law_764 : decode cL_law 764 = .ok (.iconst 0, 1) := by decide +kernel
theorem dL_law_765 : decode cL_law 765 = .ok (.istore 8, 2) := by decide +kernel
theorem dL_law_767 : decode cL_law 767 = .ok (.goto 42, 3) := by decide +kernel
theorem dL_law_770 : decode cL_law 770 = .ok (.iload 5, 2) := by decide +kernel
theorem dL_law_772 : decode cL_law 772 = .ok (.iconst 5, 1) := by decide +kernel
theorem dL_law_773 : decode cL_law 773 = .ok (.if_icmp .ge 36, 3) := by decide +kernel
theorem dL_law_776 : decode cL_law 776 = .ok (.iconst 1, 1) := by decide +kernel
theorem dL_law_777 : decode cL_law 777 = .ok (.iload 11, 2) := by decide +kernel
theorem dL_law_779 : decode cL_law 779 = .ok (.iconst 2, 1) := by decide +kernel
theorem dL_law_780 : decode cL_law 780 = .ok (.irem, 1) := by decide +kernel
theorem dL_law_781 : decode cL_law 781 = .ok (.iadd, 1) := by decide +kernel
theorem dL_law_782 : decode cL_law 782 = .ok (.istore 14, 2) := by decide +kernel
theorem dL_law_784 : decode cL_law 784 = .ok (.iload 5, 2) := by decide +kernel
theorem dL_law_786 : decode cL_law 786 = .ok (.iload 14, 2) := by decide +kernel
theorem dL_law_788 : decode cL_law 788 = .ok (.iadd, 1) := by decide +kernel
theorem dL_law_789 : decode cL_law 789 = .ok (.istore 5, 2) := by decide +kernel
theorem dL_law_791 : decode cL_law 791 = .ok (.aload_n 1, 1) := by decide +kernel
theorem dL_law_792 : decode cL_law 792 = .ok (.iload 14, 2) := by decide +kernel
theorem dL_law_794 : decode cL_law 794 = .ok (.invokestatic 153, 3) := by decide +kernel
theorem dL_law_797 : decode cL_law 797 = .ok (.iload 5, 2) := by decide +kernel
theorem dL_law_799 : decode cL_law 799 = .ok (.if_icmp .ne 7, 3) := by decide +kernel
theorem dL_law_802 : decode cL_law 802 = .ok (.iconst 1, 1) := by decide +kernel
theorem dL_law_803 : decode cL_law 803 = .ok (.goto 4, 3) := by decide +kernel
theorem dL_law_806 : decode cL_law 806 = .ok (.iconst 0, 1) := by decide +kernel
theorem dL_law_807 : decode cL_law 807 = .ok (.istore 8, 2) := by decide +kernel
theorem dL_law_809 : decode cL_law 809 = .ok (.iload 11, 2) := by decide +kernel
theorem dL_law_811 : decode cL_law 811 = .ok (.bipush 10, 2) := by decide +kernel
theorem dL_law_813 : decode cL_law 813 = .ok (.irem, 1) := by decide +kernel
theorem dL_law_814 : decode cL_law 814 = .ok (.istore 14, 2) := by decide +kernel
theorem dL_law_816 : decode cL_law 816 = .ok (.iconst 0, 1) := by decide +kernel
theorem dL_law_817 : decode cL_law 817 = .ok (.istore 15, 2) := by decide +kernel
theorem dL_law_819 : decode cL_law 819 = .ok (.iconst 0, 1) := by decide +kernel
theorem dL_law_820 : decode cL_law 820 = .ok (.istore 16, 2) := by decide +kernel
theorem dL_law_822 : decode cL_law 822 = .ok (.iload 16, 2) := by decide +kernel
theorem dL_law_824 : decode cL_law 824 = .ok (.bipush 10, 2) := by decide +kernel
theorem dL_law_826 : decode cL_law 826 = .ok (.if_icmp .ge 31, 3) := by decide +kernel
theorem dL_law_829 : decode cL_law 829 = .ok (.iload 8, 2) := by decide +kernel
theorem dL_law_831 : decode cL_law 831 = .ok (.ifCond .eq 26, 3) := by decide +kernel
theorem dL_law_834 : decode cL_law 834 = .ok (.iload 15, 2) := by decide +kernel
theorem dL_law_836 : decode cL_law 836 = .ok (.aload_n 1, 1) := by decide +kernel
theorem dL_law_837 : decode cL_law 837 = .ok (.iload 11, 2) := by decide +kernel
theorem dL_law_839 : decode cL_law 839 = .ok (.iload_n 2, 1) := by decide +kernel
theorem dL_law_840 : decode cL_law 840 = .ok (.irem, 1) := by decide +kernel
theorem dL_law_841 : decode cL_law 841 = .ok (.iload 16, 2) := by decide +kernel
theorem dL_law_843 : decode cL_law 843 = .ok (.iload 13, 2) := by decide +kernel
theorem dL_law_845 : decode cL_law 845 = .ok (.invokestatic 155, 3) := by decide +kernel
theorem dL_law_848 : decode cL_law 848 = .ok (.iadd, 1) := by decide +kernel
theorem dL_law_849 : decode cL_law 849 = .ok (.istore 15, 2) := by decide +kernel
theorem dL_law_851 : decode cL_law 851 = .ok (.iinc 16 1, 3) := by decide +kernel
theorem dL_law_854 : decode cL_law 854 = .ok (.goto (-32), 3) := by decide +kernel
theorem dL_law_857 : decode cL_law 857 = .ok (.iload 8, 2) := by decide +kernel
theorem dL_law_859 : decode cL_law 859 = .ok (.ifCond .eq 21, 3) := by decide +kernel
theorem dL_law_862 : decode cL_law 862 = .ok (.iload 9, 2) := by decide +kernel
theorem dL_law_864 : decode cL_law 864 = .ok (.iconst 1, 1) := by decide +kernel
theorem dL_law_865 : decode cL_law 865 = .ok (.if_icmp .lt 11, 3) := by decide +kernel
theorem dL_law_868 : decode cL_law 868 = .ok (.iload 15, 2) := by decide +kernel
theorem dL_law_870 : decode cL_law 870 = .ok (.sipush 10000, 3) := by decide +kernel
theorem dL_law_873 : decode cL_law 873 = .ok (.if_icmp .ne 7, 3) := by decide +kernel
theorem dL_law_876 : decode cL_law 876 = .ok (.iconst 1, 1) := by decide +kernel
theorem dL_law_877 : decode cL_law 877 = .ok (.goto 4, 3) := by decide +kernel
theorem dL_law_880 : decode cL_law 880 = .ok (.iconst 0, 1) := by decide +kernel
theorem dL_law_881 : decode cL_law 881 = .ok (.istore 8, 2) := by decide +kernel
theorem dL_law_883 : decode cL_law 883 = .ok (.iload 8, 2) := by decide +kernel
theorem dL_law_885 : decode cL_law 885 = .ok (.ifCond .eq 61, 3) := by decide +kernel
theorem dL_law_888 : decode cL_law 888 = .ok (.iload_n 3, 1) := by decide +kernel
theorem dL_law_889 : decode cL_law 889 = .ok (.ifCond .eq 53, 3) := by decide +kernel
theorem dL_law_892 : decode cL_law 892 = .ok (.aload_n 1, 1) := by decide +kernel
theorem dL_law_893 : decode cL_law 893 = .ok (.iload 11, 2) := by decide +kernel
theorem dL_law_895 : decode cL_law 895 = .ok (.iload_n 3, 1) := by decide +kernel
theorem dL_law_896 : decode cL_law 896 = .ok (.irem, 1) := by decide +kernel
theorem dL_law_897 : decode cL_law 897 = .ok (.iload 5, 2) := by decide +kernel
theorem dL_law_899 : decode cL_law 899 = .ok (.invokestatic 101, 3) := by decide +kernel
theorem dL_law_902 : decode cL_law 902 = .ok (.ifCond .lt 44, 3) := by decide +kernel
theorem dL_law_905 : decode cL_law 905 = .ok (.iload 9, 2) := by decide +kernel
theorem dL_law_907 : decode cL_law 907 = .ok (.iconst 2, 1) := by decide +kernel
theorem dL_law_908 : decode cL_law 908 = .ok (.irem, 1) := by decide +kernel
theorem dL_law_909 : decode cL_law 909 = .ok (.ifCond .eq 16, 3) := by decide +kernel
theorem dL_law_912 : decode cL_law 912 = .ok (.aload_n 1, 1) := by decide +kernel
theorem dL_law_913 : decode cL_law 913 = .ok (.iload 11, 2) := by decide +kernel
theorem dL_law_915 : decode cL_law 915 = .ok (.iload_n 3, 1) := by decide +kernel
theorem dL_law_916 : decode cL_law 916 = .ok (.irem, 1) := by decide +kernel
theorem dL_law_917 : decode cL_law 917 = .ok (.iload 5, 2) := by decide +kernel
theorem dL_law_919 : decode cL_law 919 = .ok (.invokestatic 157, 3) := by decide +kernel
theorem dL_law_922 : decode cL_law 922 = .ok (.ifCond .eq 24, 3) := by decide +kernel
theorem dL_law_925 : decode cL_law 925 = .ok (.aload_n 1, 1) := by decide +kernel
theorem dL_law_926 : decode cL_law 926 = .ok (.iload 11, 2) := by decide +kernel
theorem dL_law_928 : decode cL_law 928 = .ok (.iload_n 3, 1) := by decide +kernel
theorem dL_law_929 : decode cL_law 929 = .ok (.irem, 1) := by decide +kernel
theorem dL_law_930 : decode cL_law 930 = .ok (.iload 5, 2) := by decide +kernel
theorem dL_law_932 : decode cL_law 932 = .ok (.iload 14, 2) := by decide +kernel
theorem dL_law_934 : decode cL_law 934 = .ok (.invokestatic 161, 3) := by decide +kernel
theorem dL_law_937 : decode cL_law 937 = .ok (.ldc 163, 2) := by decide +kernel
theorem dL_law_939 : decode cL_law 939 = .ok (.if_icmp .le 7, 3) := by decide +kernel
theorem dL_law_942 : decode cL_law 942 = .ok (.iconst 1, 1) := by decide +kernel
theorem dL_law_943 : decode cL_law 943 = .ok (.goto 4, 3) := by decide +kernel
theorem dL_law_946 : decode cL_law 946 = .ok (.iconst 0, 1) := by decide +kernel
theorem dL_law_947 : decode cL_law 947 = .ok (.istore 8, 2) := by decide +kernel
theorem dL_law_949 : decode cL_law 949 = .ok (.iinc 9 1, 3) := by decide +kernel
theorem dL_law_952 : decode cL_law 952 = .ok (.goto (-925), 3) := by decide +kernel
theorem dL_law_955 : decode cL_law 955 = .ok (.lconst 0, 1) := by decide +kernel
theorem dL_law_956 : decode cL_law 956 = .ok (.lstore 9, 2) := by decide +kernel
theorem dL_law_958 : decode cL_law 958 = .ok (.iconst 0, 1) := by decide +kernel
theorem dL_law_959 : decode cL_law 959 = .ok (.istore 11, 2) := by decide +kernel
theorem dL_law_961 : decode cL_law 961 = .ok (.iload 11, 2) := by decide +kernel
theorem dL_law_963 : decode cL_law 963 = .ok (.bipush 10, 2) := by decide +kernel
theorem dL_law_965 : decode cL_law 965 = .ok (.if_icmp .ge 32, 3) := by decide +kernel
theorem dL_law_968 : decode cL_law 968 = .ok (.iload 8, 2) := by decide +kernel
theorem dL_law_970 : decode cL_law 970 = .ok (.ifCond .eq 27, 3) := by decide +kernel
theorem dL_law_973 : decode cL_law 973 = .ok (.lload 9, 2) := by decide +kernel
theorem dL_law_975 : decode cL_law 975 = .ok (.aload_n 1, 1) := by decide +kernel
theorem dL_law_976 : decode cL_law 976 = .ok (.iload 11, 2) := by decide +kernel
theorem dL_law_978 : decode cL_law 978 = .ok (.invokestatic 164, 3) := by decide +kernel
theorem dL_law_981 : decode cL_law 981 = .ok (.aload_n 1, 1) := by decide +kernel
theorem dL_law_982 : decode cL_law 982 = .ok (.iload 11, 2) := by decide +kernel
theorem dL_law_984 : decode cL_law 984 = .ok (.invokestatic 146, 3) := by decide +kernel
theorem dL_law_987 : decode cL_law 987 = .ok (.ladd, 1) := by decide +kernel
theorem dL_law_988 : decode cL_law 988 = .ok (.ladd, 1) := by decide +kernel
theorem dL_law_989 : decode cL_law 989 = .ok (.lstore 9, 2) := by decide +kernel
theorem dL_law_991 : decode cL_law 991 = .ok (.iinc 11 1, 3) := by decide +kernel
theorem dL_law_994 : decode cL_law 994 = .ok (.goto (-33), 3) := by decide +kernel
theorem dL_law_997 : decode cL_law 997 = .ok (.lconst 0, 1) := by decide +kernel
theorem dL_law_998 : decode cL_law 998 = .ok (.lstore 11, 2) := by decide +kernel
theorem dL_law_1000 : decode cL_law 1000 = .ok (.iconst 0, 1) := by decide +kernel
theorem dL_law_1001 : decode cL_law 1001 = .ok (.istore 13, 2) := by decide +kernel
theorem dL_law_1003 : decode cL_law 1003 = .ok (.iload 13, 2) := by decide +kernel
theorem dL_law_1005 : decode cL_law 1005 = .ok (.iload_n 3, 1) := by decide +kernel
theorem dL_law_1006 : decode cL_law 1006 = .ok (.if_icmp .ge 57, 3) := by decide +kernel
theorem dL_law_1009 : decode cL_law 1009 = .ok (.iload 8, 2) := by decide +kernel
theorem dL_law_1011 : decode cL_law 1011 = .ok (.ifCond .eq 52, 3) := by decide +kernel
theorem dL_law_1014 : decode cL_law 1014 = .ok (.iconst 0, 1) := by decide +kernel
theorem dL_law_1015 : decode cL_law 1015 = .ok (.istore 14, 2) := by decide +kernel
theorem dL_law_1017 : decode cL_law 1017 = .ok (.iload 14, 2) := by decide +kernel
theorem dL_law_1019 : decode cL_law 1019 = .ok (.iload 5, 2) := by decide +kernel
theorem dL_law_1021 : decode cL_law 1021 = .ok (.if_icmp .gt 36, 3) := by decide +kernel
theorem dL_law_1024 : decode cL_law 1024 = .ok (.aload_n 1, 1) := by decide +kernel
theorem dL_law_1025 : decode cL_law 1025 = .ok (.iload 13, 2) := by decide +kernel
theorem dL_law_1027 : decode cL_law 1027 = .ok (.iload 14, 2) := by decide +kernel
theorem dL_law_1029 : decode cL_law 1029 = .ok (.invokestatic 101, 3) := by decide +kernel
theorem dL_law_1032 : decode cL_law 1032 = .ok (.istore 15, 2) := by decide +kernel
theorem dL_law_1034 : decode cL_law 1034 = .ok (.lload 11, 2) := by decide +kernel
theorem dL_law_1036 : decode cL_law 1036 = .ok (.iload 15, 2) := by decide +kernel
theorem dL_law_1038 : decode cL_law 1038 = .ok (.ifCond .ge 7, 3) := by decide +kernel
theorem dL_law_1041 : decode cL_law 1041 = .ok (.lconst 0, 1) := by decide +kernel
theorem dL_law_1042 : decode cL_law 1042 = .ok (.goto 6, 3) := by decide +kernel
theorem dL_law_1045 : decode cL_law 1045 = .ok (.iload 15, 2) := by decide +kernel
theorem dL_law_1047 : decode cL_law 1047 = .ok (.i2l, 1) := by decide +kernel
theorem dL_law_1048 : decode cL_law 1048 = .ok (.ladd, 1) := by decide +kernel
theorem dL_law_1049 : decode cL_law 1049 = .ok (.lstore 11, 2) := by decide +kernel
theorem dL_law_1051 : decode cL_law 1051 = .ok (.iinc 14 1, 3) := by decide +kernel
theorem dL_law_1054 : decode cL_law 1054 = .ok (.goto (-37), 3) := by decide +kernel
theorem dL_law_1057 : decode cL_law 1057 = .ok (.iinc 13 1, 3) := by decide +kernel
theorem dL_law_1060 : decode cL_law 1060 = .ok (.goto (-57), 3) := by decide +kernel
theorem dL_law_1063 : decode cL_law 1063 = .ok (.iload 8, 2) := by decide +kernel
theorem dL_law_1065 : decode cL_law 1065 = .ok (.ifCond .eq 18, 3) := by decide +kernel
theorem dL_law_1068 : decode cL_law 1068 = .ok (.lload 9, 2) := by decide +kernel
theorem dL_law_1070 : decode cL_law 1070 = .ok (.lload 11, 2) := by decide +kernel
theorem dL_law_1072 : decode cL_law 1072 = .ok (.lload 6, 2) := by decide +kernel
theorem dL_law_1074 : decode cL_law 1074 = .ok (.lsub, 1) := by decide +kernel
theorem dL_law_1075 : decode cL_law 1075 = .ok (.lcmp, 1) := by decide +kernel
theorem dL_law_1076 : decode cL_law 1076 = .ok (.ifCond .ne 7, 3) := by decide +kernel
theorem dL_law_1079 : decode cL_law 1079 = .ok (.iconst 1, 1) := by decide +kernel
theorem dL_law_1080 : decode cL_law 1080 = .ok (.goto 4, 3) := by decide +kernel
theorem dL_law_1083 : decode cL_law 1083 = .ok (.iconst 0, 1) := by decide +kernel
theorem dL_law_1084 : decode cL_law 1084 = .ok (.ireturn, 1) := by decide +kernel
abbrev vwCl : List vw_C := [(RX0, TX0, 5), (RX1, TX1, 6), (RX2, TX2, 3), (RX3, TX3, 3), (RX4, TX4, 7), (RX5, TX5, 4), (RX6, TX6, 20)]
