/-! decode rows: printed by wip/gen/names.py -/
theorem d_Law_law_736 : decode code 736 = .ok (.aload_n 3, 1) := by decide +kernel
theorem d_Law_law_737 : decode code 737 = .ok (.iconst 0, 1) := by decide +kernel
theorem d_Law_law_738 : decode code 738 = .ok (.laload, 1) := by decide +kernel
theorem d_Law_law_739 : decode code 739 = .ok (.iload 6, 2) := by decide +kernel
theorem d_Law_law_741 : decode code 741 = .ok (.i2l, 1) := by decide +kernel
theorem d_Law_law_742 : decode code 742 = .ok (.lcmp, 1) := by decide +kernel
theorem d_Law_law_743 : decode code 743 = .ok (.ifCond .eq 5, 3) := by decide +kernel
theorem d_Law_law_746 : decode code 746 = .ok (.iconst 0, 1) := by decide +kernel
theorem d_Law_law_747 : decode code 747 = .ok (.ireturn, 1) := by decide +kernel
theorem d_Law_law_748 : decode code 748 = .ok (.goto 613, 3) := by decide +kernel
theorem d_Law_law_751 : decode code 751 = .ok (.aload_n 1, 1) := by decide +kernel
theorem d_Law_law_752 : decode code 752 = .ok (.aload_n 0, 1) := by decide +kernel
theorem d_Law_law_753 : decode code 753 = .ok (.iload 4, 2) := by decide +kernel
theorem d_Law_law_755 : decode code 755 = .ok (.iconst 1, 1) := by decide +kernel
theorem d_Law_law_756 : decode code 756 = .ok (.iadd, 1) := by decide +kernel
theorem d_Law_law_757 : decode code 757 = .ok (.iaload, 1) := by decide +kernel
theorem d_Law_law_758 : decode code 758 = .ok (.aload_n 0, 1) := by decide +kernel
theorem d_Law_law_759 : decode code 759 = .ok (.iload 4, 2) := by decide +kernel
theorem d_Law_law_761 : decode code 761 = .ok (.iconst 2, 1) := by decide +kernel
theorem d_Law_law_762 : decode code 762 = .ok (.iadd, 1) := by decide +kernel
theorem d_Law_law_763 : decode code 763 = .ok (.iaload, 1) := by decide +kernel
theorem d_Law_law_764 : decode code 764 = .ok (.aload_n 3, 1) := by decide +kernel
theorem d_Law_law_765 : decode code 765 = .ok (.invokestatic 126, 3) := by decide +kernel
theorem d_Law_law_768 : decode code 768 = .ok (.istore 5, 2) := by decide +kernel
theorem d_Law_law_770 : decode code 770 = .ok (.aload_n 2, 1) := by decide +kernel
theorem d_Law_law_771 : decode code 771 = .ok (.aload_n 0, 1) := by decide +kernel
theorem d_Law_law_772 : decode code 772 = .ok (.iload 4, 2) := by decide +kernel
theorem d_Law_law_774 : decode code 774 = .ok (.iconst 1, 1) := by decide +kernel
theorem d_Law_law_775 : decode code 775 = .ok (.iadd, 1) := by decide +kernel
theorem d_Law_law_776 : decode code 776 = .ok (.iaload, 1) := by decide +kernel
theorem d_Law_law_777 : decode code 777 = .ok (.aload_n 0, 1) := by decide +kernel
theorem d_Law_law_778 : decode code 778 = .ok (.iload 4, 2) := by decide +kernel
theorem d_Law_law_780 : decode code 780 = .ok (.iconst 2, 1) := by decide +kernel
theorem d_Law_law_781 : decode code 781 = .ok (.iadd, 1) := by decide +kernel
theorem d_Law_law_782 : decode code 782 = .ok (.iaload, 1) := by decide +kernel
theorem d_Law_law_783 : decode code 783 = .ok (.invokevirtual 128, 3) := by decide +kernel
theorem d_Law_law_786 : decode code 786 = .ok (.istore 6, 2) := by decide +kernel
theorem d_Law_law_788 : decode code 788 = .ok (.aload_n 2, 1) := by decide +kernel
theorem d_Law_law_789 : decode code 789 = .ok (.invokevirtual 91, 3) := by decide +kernel
theorem d_Law_law_792 : decode code 792 = .ok (.iload 5, 2) := by decide +kernel
theorem d_Law_law_794 : decode code 794 = .ok (.if_icmp .eq 5, 3) := by decide +kernel
theorem d_Law_law_797 : decode code 797 = .ok (.iconst 0, 1) := by decide +kernel
theorem d_Law_law_798 : decode code 798 = .ok (.ireturn, 1) := by decide +kernel
theorem d_Law_law_799 : decode code 799 = .ok (.iload 5, 2) := by decide +kernel
theorem d_Law_law_801 : decode code 801 = .ok (.ifCond .ne 15, 3) := by decide +kernel
theorem d_Law_law_804 : decode code 804 = .ok (.aload_n 3, 1) := by decide +kernel
theorem d_Law_law_805 : decode code 805 = .ok (.iconst 0, 1) := by decide +kernel
theorem d_Law_law_806 : decode code 806 = .ok (.laload, 1) := by decide +kernel
theorem d_Law_law_807 : decode code 807 = .ok (.iload 6, 2) := by decide +kernel
theorem d_Law_law_809 : decode code 809 = .ok (.i2l, 1) := by decide +kernel
theorem d_Law_law_810 : decode code 810 = .ok (.lcmp, 1) := by decide +kernel
theorem d_Law_law_811 : decode code 811 = .ok (.ifCond .eq 5, 3) := by decide +kernel
theorem d_Law_law_814 : decode code 814 = .ok (.iconst 0, 1) := by decide +kernel
theorem d_Law_law_815 : decode code 815 = .ok (.ireturn, 1) := by decide +kernel
theorem d_Law_law_816 : decode code 816 = .ok (.goto 545, 3) := by decide +kernel
theorem d_Law_law_819 : decode code 819 = .ok (.aload_n 1, 1) := by decide +kernel
theorem d_Law_law_820 : decode code 820 = .ok (.aload_n 0, 1) := by decide +kernel
theorem d_Law_law_821 : decode code 821 = .ok (.iload 4, 2) := by decide +kernel
theorem d_Law_law_823 : decode code 823 = .ok (.iconst 1, 1) := by decide +kernel
theorem d_Law_law_824 : decode code 824 = .ok (.iadd, 1) := by decide +kernel
theorem d_Law_law_825 : decode code 825 = .ok (.iaload, 1) := by decide +kernel
theorem d_Law_law_826 : decode code 826 = .ok (.aload_n 0, 1) := by decide +kernel
theorem d_Law_law_827 : decode code 827 = .ok (.iload 4, 2) := by decide +kernel
theorem d_Law_law_829 : decode code 829 = .ok (.iconst 2, 1) := by decide +kernel
theorem d_Law_law_830 : decode code 830 = .ok (.iadd, 1) := by decide +kernel
theorem d_Law_law_831 : decode code 831 = .ok (.iaload, 1) := by decide +kernel
theorem d_Law_law_832 : decode code 832 = .ok (.aload_n 3, 1) := by decide +kernel
theorem d_Law_law_833 : decode code 833 = .ok (.invokestatic 129, 3) := by decide +kernel
theorem d_Law_law_836 : decode code 836 = .ok (.istore 5, 2) := by decide +kernel
theorem d_Law_law_838 : decode code 838 = .ok (.aload_n 2, 1) := by decide +kernel
theorem d_Law_law_839 : decode code 839 = .ok (.aload_n 0, 1) := by decide +kernel
theorem d_Law_law_840 : decode code 840 = .ok (.iload 4, 2) := by decide +kernel
theorem d_Law_law_842 : decode code 842 = .ok (.iconst 1, 1) := by decide +kernel
theorem d_Law_law_843 : decode code 843 = .ok (.iadd, 1) := by decide +kernel
theorem d_Law_law_844 : decode code 844 = .ok (.iaload, 1) := by decide +kernel
theorem d_Law_law_845 : decode code 845 = .ok (.aload_n 0, 1) := by decide +kernel
theorem d_Law_law_846 : decode code 846 = .ok (.iload 4, 2) := by decide +kernel
theorem d_Law_law_848 : decode code 848 = .ok (.iconst 2, 1) := by decide +kernel
theorem d_Law_law_849 : decode code 849 = .ok (.iadd, 1) := by decide +kernel
theorem d_Law_law_850 : decode code 850 = .ok (.iaload, 1) := by decide +kernel
theorem d_Law_law_851 : decode code 851 = .ok (.invokevirtual 131, 3) := by decide +kernel
theorem d_Law_law_854 : decode code 854 = .ok (.istore 6, 2) := by decide +kernel
theorem d_Law_law_856 : decode code 856 = .ok (.aload_n 2, 1) := by decide +kernel
theorem d_Law_law_857 : decode code 857 = .ok (.invokevirtual 91, 3) := by decide +kernel
theorem d_Law_law_860 : decode code 860 = .ok (.iload 5, 2) := by decide +kernel
theorem d_Law_law_862 : decode code 862 = .ok (.if_icmp .eq 5, 3) := by decide +kernel
theorem d_Law_law_865 : decode code 865 = .ok (.iconst 0, 1) := by decide +kernel
theorem d_Law_law_866 : decode code 866 = .ok (.ireturn, 1) := by decide +kernel
theorem d_Law_law_867 : decode code 867 = .ok (.iload 5, 2) := by decide +kernel
theorem d_Law_law_869 : decode code 869 = .ok (.ifCond .ne 15, 3) := by decide +kernel
theorem d_Law_law_872 : decode code 872 = .ok (.aload_n 3, 1) := by decide +kernel
theorem d_Law_law_873 : decode code 873 = .ok (.iconst 0, 1) := by decide +kernel
theorem d_Law_law_874 : decode code 874 = .ok (.laload, 1) := by decide +kernel
theorem d_Law_law_875 : decode code 875 = .ok (.iload 6, 2) := by decide +kernel
theorem d_Law_law_877 : decode code 877 = .ok (.i2l, 1) := by decide +kernel
theorem d_Law_law_878 : decode code 878 = .ok (.lcmp, 1) := by decide +kernel
theorem d_Law_law_879 : decode code 879 = .ok (.ifCond .eq 5, 3) := by decide +kernel
theorem d_Law_law_882 : decode code 882 = .ok (.iconst 0, 1) := by decide +kernel
theorem d_Law_law_883 : decode code 883 = .ok (.ireturn, 1) := by decide +kernel
theorem d_Law_law_884 : decode code 884 = .ok (.goto 477, 3) := by decide +kernel
theorem d_Law_law_887 : decode code 887 = .ok (.aload_n 1, 1) := by decide +kernel
theorem d_Law_law_888 : decode code 888 = .ok (.aload_n 0, 1) := by decide +kernel
theorem d_Law_law_889 : decode code 889 = .ok (.iload 4, 2) := by decide +kernel
theorem d_Law_law_891 : decode code 891 = .ok (.iconst 1, 1) := by decide +kernel
theorem d_Law_law_892 : decode code 892 = .ok (.iadd, 1) := by decide +kernel
theorem d_Law_law_893 : decode code 893 = .ok (.iaload, 1) := by decide +kernel
theorem d_Law_law_894 : decode code 894 = .ok (.aload_n 0, 1) := by decide +kernel
theorem d_Law_law_895 : decode code 895 = .ok (.iload 4, 2) := by decide +kernel
theorem d_Law_law_897 : decode code 897 = .ok (.iconst 2, 1) := by decide +kernel
theorem d_Law_law_898 : decode code 898 = .ok (.iadd, 1) := by decide +kernel
theorem d_Law_law_899 : decode code 899 = .ok (.iaload, 1) := by decide +kernel
theorem d_Law_law_900 : decode code 900 = .ok (.invokestatic 132, 3) := by decide +kernel
theorem d_Law_law_903 : decode code 903 = .ok (.istore 5, 2) := by decide +kernel
theorem d_Law_law_905 : decode code 905 = .ok (.aload_n 2, 1) := by decide +kernel
theorem d_Law_law_906 : decode code 906 = .ok (.aload_n 0, 1) := by decide +kernel
theorem d_Law_law_907 : decode code 907 = .ok (.iload 4, 2) := by decide +kernel
theorem d_Law_law_909 : decode code 909 = .ok (.iconst 1, 1) := by decide +kernel
theorem d_Law_law_910 : decode code 910 = .ok (.iadd, 1) := by decide +kernel
theorem d_Law_law_911 : decode code 911 = .ok (.iaload, 1) := by decide +kernel
theorem d_Law_law_912 : decode code 912 = .ok (.aload_n 0, 1) := by decide +kernel
theorem d_Law_law_913 : decode code 913 = .ok (.iload 4, 2) := by decide +kernel
theorem d_Law_law_915 : decode code 915 = .ok (.iconst 2, 1) := by decide +kernel
theorem d_Law_law_916 : decode code 916 = .ok (.iadd, 1) := by decide +kernel
theorem d_Law_law_917 : decode code 917 = .ok (.iaload, 1) := by decide +kernel
theorem d_Law_law_918 : decode code 918 = .ok (.invokevirtual 134, 3) := by decide +kernel
theorem d_Law_law_921 : decode code 921 = .ok (.aload_n 2, 1) := by decide +kernel
theorem d_Law_law_922 : decode code 922 = .ok (.invokevirtual 91, 3) := by decide +kernel
theorem d_Law_law_925 : decode code 925 = .ok (.iload 5, 2) := by decide +kernel
theorem d_Law_law_927 : decode code 927 = .ok (.if_icmp .eq 5, 3) := by decide +kernel
theorem d_Law_law_930 : decode code 930 = .ok (.iconst 0, 1) := by decide +kernel
theorem d_Law_law_931 : decode code 931 = .ok (.ireturn, 1) := by decide +kernel
theorem d_Law_law_932 : decode code 932 = .ok (.goto 429, 3) := by decide +kernel
theorem d_Law_law_935 : decode code 935 = .ok (.aload_n 1, 1) := by decide +kernel
theorem d_Law_law_936 : decode code 936 = .ok (.aload_n 0, 1) := by decide +kernel
theorem d_Law_law_937 : decode code 937 = .ok (.iload 4, 2) := by decide +kernel
theorem d_Law_law_939 : decode code 939 = .ok (.iconst 1, 1) := by decide +kernel
theorem d_Law_law_940 : decode code 940 = .ok (.iadd, 1) := by decide +kernel
theorem d_Law_law_941 : decode code 941 = .ok (.iaload, 1) := by decide +kernel
theorem d_Law_law_942 : decode code 942 = .ok (.aload_n 0, 1) := by decide +kernel
theorem d_Law_law_943 : decode code 943 = .ok (.iload 4, 2) := by decide +kernel
theorem d_Law_law_945 : decode code 945 = .ok (.iconst 2, 1) := by decide +kernel
theorem d_Law_law_946 : decode code 946 = .ok (.iadd, 1) := by decide +kernel
theorem d_Law_law_947 : decode code 947 = .ok (.iaload, 1) := by decide +kernel
theorem d_Law_law_948 : decode code 948 = .ok (.aload_n 0, 1) := by decide +kernel
theorem d_Law_law_949 : decode code 949 = .ok (.iload 4, 2) := by decide +kernel
theorem d_Law_law_951 : decode code 951 = .ok (.iconst 3, 1) := by decide +kernel
theorem d_Law_law_952 : decode code 952 = .ok (.iadd, 1) := by decide +kernel
theorem d_Law_law_953 : decode code 953 = .ok (.iaload, 1) := by decide +kernel
theorem d_Law_law_954 : decode code 954 = .ok (.invokestatic 135, 3) := by decide +kernel
theorem d_Law_law_957 : decode code 957 = .ok (.istore 5, 2) := by decide +kernel
theorem d_Law_law_959 : decode code 959 = .ok (.aload_n 2, 1) := by decide +kernel
theorem d_Law_law_960 : decode code 960 = .ok (.aload_n 0, 1) := by decide +kernel
theorem d_Law_law_961 : decode code 961 = .ok (.iload 4, 2) := by decide +kernel
theorem d_Law_law_963 : decode code 963 = .ok (.iconst 1, 1) := by decide +kernel
theorem d_Law_law_964 : decode code 964 = .ok (.iadd, 1) := by decide +kernel
theorem d_Law_law_965 : decode code 965 = .ok (.iaload, 1) := by decide +kernel
theorem d_Law_law_966 : decode code 966 = .ok (.aload_n 0, 1) := by decide +kernel
theorem d_Law_law_967 : decode code 967 = .ok (.iload 4, 2) := by decide +kernel
theorem d_Law_law_969 : decode code 969 = .ok (.iconst 2, 1) := by decide +kernel
theorem d_Law_law_970 : decode code 970 = .ok (.iadd, 1) := by decide +kernel
theorem d_Law_law_971 : decode code 971 = .ok (.iaload, 1) := by decide +kernel
theorem d_Law_law_972 : decode code 972 = .ok (.aload_n 0, 1) := by decide +kernel
theorem d_Law_law_973 : decode code 973 = .ok (.iload 4, 2) := by decide +kernel
theorem d_Law_law_975 : decode code 975 = .ok (.iconst 3, 1) := by decide +kernel
theorem d_Law_law_976 : decode code 976 = .ok (.iadd, 1) := by decide +kernel
theorem d_Law_law_977 : decode code 977 = .ok (.iaload, 1) := by decide +kernel
theorem d_Law_law_978 : decode code 978 = .ok (.invokevirtual 138, 3) := by decide +kernel
theorem d_Law_law_981 : decode code 981 = .ok (.aload_n 2, 1) := by decide +kernel
theorem d_Law_law_982 : decode code 982 = .ok (.invokevirtual 91, 3) := by decide +kernel
theorem d_Law_law_985 : decode code 985 = .ok (.iload 5, 2) := by decide +kernel
theorem d_Law_law_987 : decode code 987 = .ok (.if_icmp .eq 5, 3) := by decide +kernel
theorem d_Law_law_990 : decode code 990 = .ok (.iconst 0, 1) := by decide +kernel
theorem d_Law_law_991 : decode code 991 = .ok (.ireturn, 1) := by decide +kernel
theorem d_Law_law_992 : decode code 992 = .ok (.goto 369, 3) := by decide +kernel
theorem d_Law_law_995 : decode code 995 = .ok (.aload_n 1, 1) := by decide +kernel
theorem d_Law_law_996 : decode code 996 = .ok (.aload_n 0, 1) := by decide +kernel
theorem d_Law_law_997 : decode code 997 = .ok (.iload 4, 2) := by decide +kernel
theorem d_Law_law_999 : decode code 999 = .ok (.iconst 1, 1) := by decide +kernel
theorem d_Law_law_1000 : decode code 1000 = .ok (.iadd, 1) := by decide +kernel
theorem d_Law_law_1001 : decode code 1001 = .ok (.iaload, 1) := by decide +kernel
theorem d_Law_law_1002 : decode code 1002 = .ok (.aload_n 3, 1) := by decide +kernel
theorem d_Law_law_1003 : decode code 1003 = .ok (.invokestatic 139, 3) := by decide +kernel
theorem d_Law_law_1006 : decode code 1006 = .ok (.istore 5, 2) := by decide +kernel
theorem d_Law_law_1008 : decode code 1008 = .ok (.aload_n 2, 1) := by decide +kernel
theorem d_Law_law_1009 : decode code 1009 = .ok (.aload_n 0, 1) := by decide +kernel
theorem d_Law_law_1010 : decode code 1010 = .ok (.iload 4, 2) := by decide +kernel
theorem d_Law_law_1012 : decode code 1012 = .ok (.iconst 1, 1) := by decide +kernel
theorem d_Law_law_1013 : decode code 1013 = .ok (.iadd, 1) := by decide +kernel
theorem d_Law_law_1014 : decode code 1014 = .ok (.iaload, 1) := by decide +kernel
theorem d_Law_law_1015 : decode code 1015 = .ok (.invokevirtual 141, 3) := by decide +kernel
theorem d_Law_law_1018 : decode code 1018 = .ok (.istore 6, 2) := by decide +kernel
theorem d_Law_law_1020 : decode code 1020 = .ok (.aload_n 2, 1) := by decide +kernel
theorem d_Law_law_1021 : decode code 1021 = .ok (.invokevirtual 91, 3) := by decide +kernel
theorem d_Law_law_1024 : decode code 1024 = .ok (.iload 5, 2) := by decide +kernel
theorem d_Law_law_1026 : decode code 1026 = .ok (.if_icmp .eq 5, 3) := by decide +kernel
theorem d_Law_law_1029 : decode code 1029 = .ok (.iconst 0, 1) := by decide +kernel
theorem d_Law_law_1030 : decode code 1030 = .ok (.ireturn, 1) := by decide +kernel
theorem d_Law_law_1031 : decode code 1031 = .ok (.iload 5, 2) := by decide +kernel
theorem d_Law_law_1033 : decode code 1033 = .ok (.ifCond .ne 15, 3) := by decide +kernel
theorem d_Law_law_1036 : decode code 1036 = .ok (.aload_n 3, 1) := by decide +kernel
theorem d_Law_law_1037 : decode code 1037 = .ok (.iconst 0, 1) := by decide +kernel
theorem d_Law_law_1038 : decode code 1038 = .ok (.laload, 1) := by decide +kernel
theorem d_Law_law_1039 : decode code 1039 = .ok (.iload 6, 2) := by decide +kernel
theorem d_Law_law_1041 : decode code 1041 = .ok (.i2l, 1) := by decide +kernel
theorem d_Law_law_1042 : decode code 1042 = .ok (.lcmp, 1) := by decide +kernel
theorem d_Law_law_1043 : decode code 1043 = .ok (.ifCond .eq 5, 3) := by decide +kernel
theorem d_Law_law_1046 : decode code 1046 = .ok (.iconst 0, 1) := by decide +kernel
theorem d_Law_law_1047 : decode code 1047 = .ok (.ireturn, 1) := by decide +kernel
theorem d_Law_law_1048 : decode code 1048 = .ok (.goto 313, 3) := by decide +kernel
theorem d_Law_law_1051 : decode code 1051 = .ok (.aload_n 1, 1) := by decide +kernel
theorem d_Law_law_1052 : decode code 1052 = .ok (.aload_n 0, 1) := by decide +kernel
theorem d_Law_law_1053 : decode code 1053 = .ok (.iload 4, 2) := by decide +kernel
theorem d_Law_law_1055 : decode code 1055 = .ok (.iconst 1, 1) := by decide +kernel
theorem d_Law_law_1056 : decode code 1056 = .ok (.iadd, 1) := by decide +kernel
theorem d_Law_law_1057 : decode code 1057 = .ok (.iaload, 1) := by decide +kernel
theorem d_Law_law_1058 : decode code 1058 = .ok (.aload_n 0, 1) := by decide +kernel
theorem d_Law_law_1059 : decode code 1059 = .ok (.iload 4, 2) := by decide +kernel
theorem d_Law_law_1061 : decode code 1061 = .ok (.iconst 2, 1) := by decide +kernel
theorem d_Law_law_1062 : decode code 1062 = .ok (.iadd, 1) := by decide +kernel
theorem d_Law_law_1063 : decode code 1063 = .ok (.iaload, 1) := by decide +kernel
theorem d_Law_law_1064 : decode code 1064 = .ok (.aload_n 3, 1) := by decide +kernel
theorem d_Law_law_1065 : decode code 1065 = .ok (.invokestatic 142, 3) := by decide +kernel
theorem d_Law_law_1068 : decode code 1068 = .ok (.istore 5, 2) := by decide +kernel
theorem d_Law_law_1070 : decode code 1070 = .ok (.aload_n 2, 1) := by decide +kernel
theorem d_Law_law_1071 : decode code 1071 = .ok (.aload_n 0, 1) := by decide +kernel
theorem d_Law_law_1072 : decode code 1072 = .ok (.iload 4, 2) := by decide +kernel
theorem d_Law_law_1074 : decode code 1074 = .ok (.iconst 1, 1) := by decide +kernel
theorem d_Law_law_1075 : decode code 1075 = .ok (.iadd, 1) := by decide +kernel
theorem d_Law_law_1076 : decode code 1076 = .ok (.iaload, 1) := by decide +kernel
theorem d_Law_law_1077 : decode code 1077 = .ok (.aload_n 0, 1) := by decide +kernel
theorem d_Law_law_1078 : decode code 1078 = .ok (.iload 4, 2) := by decide +kernel
theorem d_Law_law_1080 : decode code 1080 = .ok (.iconst 2, 1) := by decide +kernel
theorem d_Law_law_1081 : decode code 1081 = .ok (.iadd, 1) := by decide +kernel
theorem d_Law_law_1082 : decode code 1082 = .ok (.iaload, 1) := by decide +kernel
theorem d_Law_law_1083 : decode code 1083 = .ok (.invokevirtual 144, 3) := by decide +kernel
theorem d_Law_law_1086 : decode code 1086 = .ok (.istore 6, 2) := by decide +kernel
theorem d_Law_law_1088 : decode code 1088 = .ok (.aload_n 2, 1) := by decide +kernel
theorem d_Law_law_1089 : decode code 1089 = .ok (.invokevirtual 91, 3) := by decide +kernel
theorem d_Law_law_1092 : decode code 1092 = .ok (.iload 5, 2) := by decide +kernel
theorem d_Law_law_1094 : decode code 1094 = .ok (.if_icmp .eq 5, 3) := by decide +kernel
theorem d_Law_law_1097 : decode code 1097 = .ok (.iconst 0, 1) := by decide +kernel
theorem d_Law_law_1098 : decode code 1098 = .ok (.ireturn, 1) := by decide +kernel
theorem d_Law_law_1099 : decode code 1099 = .ok (.iload 5, 2) := by decide +kernel
theorem d_Law_law_1101 : decode code 1101 = .ok (.ifCond .ne 15, 3) := by decide +kernel
theorem d_Law_law_1104 : decode code 1104 = .ok (.aload_n 3, 1) := by decide +kernel
theorem d_Law_law_1105 : decode code 1105 = .ok (.iconst 0, 1) := by decide +kernel
theorem d_Law_law_1106 : decode code 1106 = .ok (.laload, 1) := by decide +kernel
theorem d_Law_law_1107 : decode code 1107 = .ok (.iload 6, 2) := by decide +kernel
theorem d_Law_law_1109 : decode code 1109 = .ok (.i2l, 1) := by decide +kernel
theorem d_Law_law_1110 : decode code 1110 = .ok (.lcmp, 1) := by decide +kernel
theorem d_Law_law_1111 : decode code 1111 = .ok (.ifCond .eq 5, 3) := by decide +kernel
theorem d_Law_law_1114 : decode code 1114 = .ok (.iconst 0, 1) := by decide +kernel
theorem d_Law_law_1115 : decode code 1115 = .ok (.ireturn, 1) := by decide +kernel
theorem d_Law_law_1116 : decode code 1116 = .ok (.goto 245, 3) := by decide +kernel
theorem d_Law_law_1119 : decode code 1119 = .ok (.aload_n 1, 1) := by decide +kernel
theorem d_Law_law_1120 : decode code 1120 = .ok (.aload_n 0, 1) := by decide +kernel
theorem d_Law_law_1121 : decode code 1121 = .ok (.iload 4, 2) := by decide +kernel
theorem d_Law_law_1123 : decode code 1123 = .ok (.iconst 1, 1) := by decide +kernel
theorem d_Law_law_1124 : decode code 1124 = .ok (.iadd, 1) := by decide +kernel
theorem d_Law_law_1125 : decode code 1125 = .ok (.iaload, 1) := by decide +kernel
theorem d_Law_law_1126 : decode code 1126 = .ok (.aload_n 0, 1) := by decide +kernel
theorem d_Law_law_1127 : decode code 1127 = .ok (.iload 4, 2) := by decide +kernel
theorem d_Law_law_1129 : decode code 1129 = .ok (.iconst 2, 1) := by decide +kernel
theorem d_Law_law_1130 : decode code 1130 = .ok (.iadd, 1) := by decide +kernel
theorem d_Law_law_1131 : decode code 1131 = .ok (.iaload, 1) := by decide +kernel
theorem d_Law_law_1132 : decode code 1132 = .ok (.aload_n 3, 1) := by decide +kernel
theorem d_Law_law_1133 : decode code 1133 = .ok (.invokestatic 145, 3) := by decide +kernel
theorem d_Law_law_1136 : decode code 1136 = .ok (.istore 5, 2) := by decide +kernel
theorem d_Law_law_1138 : decode code 1138 = .ok (.aload_n 2, 1) := by decide +kernel
theorem d_Law_law_1139 : decode code 1139 = .ok (.aload_n 0, 1) := by decide +kernel
theorem d_Law_law_1140 : decode code 1140 = .ok (.iload 4, 2) := by decide +kernel
theorem d_Law_law_1142 : decode code 1142 = .ok (.iconst 1, 1) := by decide +kernel
theorem d_Law_law_1143 : decode code 1143 = .ok (.iadd, 1) := by decide +kernel
theorem d_Law_law_1144 : decode code 1144 = .ok (.iaload, 1) := by decide +kernel
theorem d_Law_law_1145 : decode code 1145 = .ok (.aload_n 0, 1) := by decide +kernel
theorem d_Law_law_1146 : decode code 1146 = .ok (.iload 4, 2) := by decide +kernel
theorem d_Law_law_1148 : decode code 1148 = .ok (.iconst 2, 1) := by decide +kernel
theorem d_Law_law_1149 : decode code 1149 = .ok (.iadd, 1) := by decide +kernel
theorem d_Law_law_1150 : decode code 1150 = .ok (.iaload, 1) := by decide +kernel
theorem d_Law_law_1151 : decode code 1151 = .ok (.invokevirtual 147, 3) := by decide +kernel
theorem d_Law_law_1154 : decode code 1154 = .ok (.istore 6, 2) := by decide +kernel
theorem d_Law_law_1156 : decode code 1156 = .ok (.aload_n 2, 1) := by decide +kernel
theorem d_Law_law_1157 : decode code 1157 = .ok (.invokevirtual 91, 3) := by decide +kernel
theorem d_Law_law_1160 : decode code 1160 = .ok (.iload 5, 2) := by decide +kernel
theorem d_Law_law_1162 : decode code 1162 = .ok (.if_icmp .eq 5, 3) := by decide +kernel
theorem d_Law_law_1165 : decode code 1165 = .ok (.iconst 0, 1) := by decide +kernel
theorem d_Law_law_1166 : decode code 1166 = .ok (.ireturn, 1) := by decide +kernel
theorem d_Law_law_1167 : decode code 1167 = .ok (.iload 5, 2) := by decide +kernel
theorem d_Law_law_1169 : decode code 1169 = .ok (.ifCond .ne 15, 3) := by decide +kernel
theorem d_Law_law_1172 : decode code 1172 = .ok (.aload_n 3, 1) := by decide +kernel
theorem d_Law_law_1173 : decode code 1173 = .ok (.iconst 0, 1) := by decide +kernel
theorem d_Law_law_1174 : decode code 1174 = .ok (.laload, 1) := by decide +kernel
theorem d_Law_law_1175 : decode code 1175 = .ok (.iload 6, 2) := by decide +kernel
theorem d_Law_law_1177 : decode code 1177 = .ok (.i2l, 1) := by decide +kernel
theorem d_Law_law_1178 : decode code 1178 = .ok (.lcmp, 1) := by decide +kernel
theorem d_Law_law_1179 : decode code 1179 = .ok (.ifCond .eq 5, 3) := by decide +kernel
theorem d_Law_law_1182 : decode code 1182 = .ok (.iconst 0, 1) := by decide +kernel
theorem d_Law_law_1183 : decode code 1183 = .ok (.ireturn, 1) := by decide +kernel
theorem d_Law_law_1184 : decode code 1184 = .ok (.goto 177, 3) := by decide +kernel
theorem d_Law_law_1187 : decode code 1187 = .ok (.aload_n 1, 1) := by decide +kernel
theorem d_Law_law_1188 : decode code 1188 = .ok (.aload_n 0, 1) := by decide +kernel
theorem d_Law_law_1189 : decode code 1189 = .ok (.iload 4, 2) := by decide +kernel
theorem d_Law_law_1191 : decode code 1191 = .ok (.iconst 1, 1) := by decide +kernel
theorem d_Law_law_1192 : decode code 1192 = .ok (.iadd, 1) := by decide +kernel
theorem d_Law_law_1193 : decode code 1193 = .ok (.iaload, 1) := by decide +kernel
theorem d_Law_law_1194 : decode code 1194 = .ok (.aload_n 0, 1) := by decide +kernel
theorem d_Law_law_1195 : decode code 1195 = .ok (.iload 4, 2) := by decide +kernel
theorem d_Law_law_1197 : decode code 1197 = .ok (.iconst 2, 1) := by decide +kernel
theorem d_Law_law_1198 : decode code 1198 = .ok (.iadd, 1) := by decide +kernel
theorem d_Law_law_1199 : decode code 1199 = .ok (.iaload, 1) := by decide +kernel
theorem d_Law_law_1200 : decode code 1200 = .ok (.aload_n 3, 1) := by decide +kernel
theorem d_Law_law_1201 : decode code 1201 = .ok (.invokestatic 148, 3) := by decide +kernel
theorem d_Law_law_1204 : decode code 1204 = .ok (.istore 5, 2) := by decide +kernel
theorem d_Law_law_1206 : decode code 1206 = .ok (.aload_n 2, 1) := by decide +kernel
theorem d_Law_law_1207 : decode code 1207 = .ok (.aload_n 0, 1) := by decide +kernel
theorem d_Law_law_1208 : decode code 1208 = .ok (.iload 4, 2) := by decide +kernel
theorem d_Law_law_1210 : decode code 1210 = .ok (.iconst 1, 1) := by decide +kernel
theorem d_Law_law_1211 : decode code 1211 = .ok (.iadd, 1) := by decide +kernel
theorem d_Law_law_1212 : decode code 1212 = .ok (.iaload, 1) := by decide +kernel
theorem d_Law_law_1213 : decode code 1213 = .ok (.aload_n 0, 1) := by decide +kernel
theorem d_Law_law_1214 : decode code 1214 = .ok (.iload 4, 2) := by decide +kernel
theorem d_Law_law_1216 : decode code 1216 = .ok (.iconst 2, 1) := by decide +kernel
theorem d_Law_law_1217 : decode code 1217 = .ok (.iadd, 1) := by decide +kernel
theorem d_Law_law_1218 : decode code 1218 = .ok (.iaload, 1) := by decide +kernel
theorem d_Law_law_1219 : decode code 1219 = .ok (.invokevirtual 150, 3) := by decide +kernel
theorem d_Law_law_1222 : decode code 1222 = .ok (.istore 6, 2) := by decide +kernel
theorem d_Law_law_1224 : decode code 1224 = .ok (.aload_n 2, 1) := by decide +kernel
theorem d_Law_law_1225 : decode code 1225 = .ok (.invokevirtual 91, 3) := by decide +kernel
theorem d_Law_law_1228 : decode code 1228 = .ok (.iload 5, 2) := by decide +kernel
theorem d_Law_law_1230 : decode code 1230 = .ok (.if_icmp .eq 5, 3) := by decide +kernel
theorem d_Law_law_1233 : decode code 1233 = .ok (.iconst 0, 1) := by decide +kernel
theorem d_Law_law_1234 : decode code 1234 = .ok (.ireturn, 1) := by decide +kernel
theorem d_Law_law_1235 : decode code 1235 = .ok (.iload 5, 2) := by decide +kernel
theorem d_Law_law_1237 : decode code 1237 = .ok (.ifCond .ne 15, 3) := by decide +kernel
theorem d_Law_law_1240 : decode code 1240 = .ok (.aload_n 3, 1) := by decide +kernel
theorem d_Law_law_1241 : decode code 1241 = .ok (.iconst 0, 1) := by decide +kernel
theorem d_Law_law_1242 : decode code 1242 = .ok (.laload, 1) := by decide +kernel
theorem d_Law_law_1243 : decode code 1243 = .ok (.iload 6, 2) := by decide +kernel
theorem d_Law_law_1245 : decode code 1245 = .ok (.i2l, 1) := by decide +kernel
theorem d_Law_law_1246 : decode code 1246 = .ok (.lcmp, 1) := by decide +kernel
theorem d_Law_law_1247 : decode code 1247 = .ok (.ifCond .eq 5, 3) := by decide +kernel
theorem d_Law_law_1250 : decode code 1250 = .ok (.iconst 0, 1) := by decide +kernel
theorem d_Law_law_1251 : decode code 1251 = .ok (.ireturn, 1) := by decide +kernel
theorem d_Law_law_1252 : decode code 1252 = .ok (.goto 109, 3) := by decide +kernel
theorem d_Law_law_1255 : decode code 1255 = .ok (.aload_n 1, 1) := by decide +kernel
theorem d_Law_law_1256 : decode code 1256 = .ok (.aload_n 0, 1) := by decide +kernel
theorem d_Law_law_1257 : decode code 1257 = .ok (.iload 4, 2) := by decide +kernel
theorem d_Law_law_1259 : decode code 1259 = .ok (.iconst 1, 1) := by decide +kernel
theorem d_Law_law_1260 : decode code 1260 = .ok (.iadd, 1) := by decide +kernel
theorem d_Law_law_1261 : decode code 1261 = .ok (.iaload, 1) := by decide +kernel
theorem d_Law_law_1262 : decode code 1262 = .ok (.aload_n 0, 1) := by decide +kernel
theorem d_Law_law_1263 : decode code 1263 = .ok (.iload 4, 2) := by decide +kernel
theorem d_Law_law_1265 : decode code 1265 = .ok (.iconst 2, 1) := by decide +kernel
theorem d_Law_law_1266 : decode code 1266 = .ok (.iadd, 1) := by decide +kernel
theorem d_Law_law_1267 : decode code 1267 = .ok (.iaload, 1) := by decide +kernel
theorem d_Law_law_1268 : decode code 1268 = .ok (.aload_n 3, 1) := by decide +kernel
theorem d_Law_law_1269 : decode code 1269 = .ok (.invokestatic 151, 3) := by decide +kernel
theorem d_Law_law_1272 : decode code 1272 = .ok (.istore 5, 2) := by decide +kernel
theorem d_Law_law_1274 : decode code 1274 = .ok (.aload_n 2, 1) := by decide +kernel
theorem d_Law_law_1275 : decode code 1275 = .ok (.aload_n 0, 1) := by decide +kernel
theorem d_Law_law_1276 : decode code 1276 = .ok (.iload 4, 2) := by decide +kernel
theorem d_Law_law_1278 : decode code 1278 = .ok (.iconst 1, 1) := by decide +kernel
theorem d_Law_law_1279 : decode code 1279 = .ok (.iadd, 1) := by decide +kernel
theorem d_Law_law_1280 : decode code 1280 = .ok (.iaload, 1) := by decide +kernel
theorem d_Law_law_1281 : decode code 1281 = .ok (.aload_n 0, 1) := by decide +kernel
theorem d_Law_law_1282 : decode code 1282 = .ok (.iload 4, 2) := by decide +kernel
theorem d_Law_law_1284 : decode code 1284 = .ok (.iconst 2, 1) := by decide +kernel
theorem d_Law_law_1285 : decode code 1285 = .ok (.iadd, 1) := by decide +kernel
theorem d_Law_law_1286 : decode code 1286 = .ok (.iaload, 1) := by decide +kernel
theorem d_Law_law_1287 : decode code 1287 = .ok (.invokevirtual 153, 3) := by decide +kernel
theorem d_Law_law_1290 : decode code 1290 = .ok (.istore 6, 2) := by decide +kernel
theorem d_Law_law_1292 : decode code 1292 = .ok (.aload_n 2, 1) := by decide +kernel
theorem d_Law_law_1293 : decode code 1293 = .ok (.invokevirtual 91, 3) := by decide +kernel
theorem d_Law_law_1296 : decode code 1296 = .ok (.iload 5, 2) := by decide +kernel
theorem d_Law_law_1298 : decode code 1298 = .ok (.if_icmp .eq 5, 3) := by decide +kernel
theorem d_Law_law_1301 : decode code 1301 = .ok (.iconst 0, 1) := by decide +kernel
theorem d_Law_law_1302 : decode code 1302 = .ok (.ireturn, 1) := by decide +kernel
theorem d_Law_law_1303 : decode code 1303 = .ok (.iload 5, 2) := by decide +kernel
theorem d_Law_law_1305 : decode code 1305 = .ok (.ifCond .ne 15, 3) := by decide +kernel
theorem d_Law_law_1308 : decode code 1308 = .ok (.aload_n 3, 1) := by decide +kernel
theorem d_Law_law_1309 : decode code 1309 = .ok (.iconst 0, 1) := by decide +kernel
theorem d_Law_law_1310 : decode code 1310 = .ok (.laload, 1) := by decide +kernel
theorem d_Law_law_1311 : decode code 1311 = .ok (.iload 6, 2) := by decide +kernel
theorem d_Law_law_1313 : decode code 1313 = .ok (.i2l, 1) := by decide +kernel
theorem d_Law_law_1314 : decode code 1314 = .ok (.lcmp, 1) := by decide +kernel
theorem d_Law_law_1315 : decode code 1315 = .ok (.ifCond .eq 5, 3) := by decide +kernel
theorem d_Law_law_1318 : decode code 1318 = .ok (.iconst 0, 1) := by decide +kernel
theorem d_Law_law_1319 : decode code 1319 = .ok (.ireturn, 1) := by decide +kernel
theorem d_Law_law_1320 : decode code 1320 = .ok (.goto 41, 3) := by decide +kernel
theorem d_Law_law_1323 : decode code 1323 = .ok (.aload_n 1, 1) := by decide +kernel
theorem d_Law_law_1324 : decode code 1324 = .ok (.invokevirtual 154, 3) := by decide +kernel
theorem d_Law_law_1327 : decode code 1327 = .ok (.aload_n 2, 1) := by decide +kernel
theorem d_Law_law_1328 : decode code 1328 = .ok (.invokevirtual 157, 3) := by decide +kernel
theorem d_Law_law_1331 : decode code 1331 = .ok (.if_icmp .eq 30, 3) := by decide +kernel
theorem d_Law_law_1334 : decode code 1334 = .ok (.iconst 0, 1) := by decide +kernel
theorem d_Law_law_1335 : decode code 1335 = .ok (.ireturn, 1) := by decide +kernel
theorem d_Law_law_1336 : decode code 1336 = .ok (.aload_n 1, 1) := by decide +kernel
theorem d_Law_law_1337 : decode code 1337 = .ok (.aload_n 0, 1) := by decide +kernel
theorem d_Law_law_1338 : decode code 1338 = .ok (.iload 4, 2) := by decide +kernel
theorem d_Law_law_1340 : decode code 1340 = .ok (.iconst 1, 1) := by decide +kernel
theorem d_Law_law_1341 : decode code 1341 = .ok (.iadd, 1) := by decide +kernel
theorem d_Law_law_1342 : decode code 1342 = .ok (.iaload, 1) := by decide +kernel
theorem d_Law_law_1343 : decode code 1343 = .ok (.invokevirtual 158, 3) := by decide +kernel
theorem d_Law_law_1346 : decode code 1346 = .ok (.aload_n 2, 1) := by decide +kernel
theorem d_Law_law_1347 : decode code 1347 = .ok (.aload_n 0, 1) := by decide +kernel
theorem d_Law_law_1348 : decode code 1348 = .ok (.iload 4, 2) := by decide +kernel
theorem d_Law_law_1350 : decode code 1350 = .ok (.iconst 1, 1) := by decide +kernel
theorem d_Law_law_1351 : decode code 1351 = .ok (.iadd, 1) := by decide +kernel
theorem d_Law_law_1352 : decode code 1352 = .ok (.iaload, 1) := by decide +kernel
theorem d_Law_law_1353 : decode code 1353 = .ok (.invokevirtual 161, 3) := by decide +kernel
theorem d_Law_law_1356 : decode code 1356 = .ok (.if_icmp .eq 5, 3) := by decide +kernel
theorem d_Law_law_1359 : decode code 1359 = .ok (.iconst 0, 1) := by decide +kernel
theorem d_Law_law_1360 : decode code 1360 = .ok (.ireturn, 1) := by decide +kernel
theorem d_Law_law_1361 : decode code 1361 = .ok (.iinc 4 5, 3) := by decide +kernel
theorem d_Law_law_1364 : decode code 1364 = .ok (.goto (-1341), 3) := by decide +kernel
theorem d_Law_law_1367 : decode code 1367 = .ok (.iconst 1, 1) := by decide +kernel
theorem d_Law_law_1368 : decode code 1368 = .ok (.ireturn, 1) := by decide +kernel
