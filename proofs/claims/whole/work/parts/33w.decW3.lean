/-! decode rows of the law -/
theorem d_L_law_821 : decode code 821 = .ok (.iadd, 1) := by decide +kernel
theorem d_L_law_822 : decode code 822 = .ok (.iaload, 1) := by decide +kernel
theorem d_L_law_823 : decode code 823 = .ok (.aload_n 3, 1) := by decide +kernel
theorem d_L_law_824 : decode code 824 = .ok (.invokestatic 143, 3) := by decide +kernel
theorem d_L_law_827 : decode code 827 = .ok (.istore 5, 2) := by decide +kernel
theorem d_L_law_829 : decode code 829 = .ok (.aload_n 2, 1) := by decide +kernel
theorem d_L_law_830 : decode code 830 = .ok (.aload_n 0, 1) := by decide +kernel
theorem d_L_law_831 : decode code 831 = .ok (.iload 4, 2) := by decide +kernel
theorem d_L_law_833 : decode code 833 = .ok (.iconst 1, 1) := by decide +kernel
theorem d_L_law_834 : decode code 834 = .ok (.iadd, 1) := by decide +kernel
theorem d_L_law_835 : decode code 835 = .ok (.iaload, 1) := by decide +kernel
theorem d_L_law_836 : decode code 836 = .ok (.aload_n 0, 1) := by decide +kernel
theorem d_L_law_837 : decode code 837 = .ok (.iload 4, 2) := by decide +kernel
theorem d_L_law_839 : decode code 839 = .ok (.iconst 2, 1) := by decide +kernel
theorem d_L_law_840 : decode code 840 = .ok (.iadd, 1) := by decide +kernel
theorem d_L_law_841 : decode code 841 = .ok (.iaload, 1) := by decide +kernel
theorem d_L_law_842 : decode code 842 = .ok (.aload_n 0, 1) := by decide +kernel
theorem d_L_law_843 : decode code 843 = .ok (.iload 4, 2) := by decide +kernel
theorem d_L_law_845 : decode code 845 = .ok (.iconst 3, 1) := by decide +kernel
theorem d_L_law_846 : decode code 846 = .ok (.iadd, 1) := by decide +kernel
theorem d_L_law_847 : decode code 847 = .ok (.iaload, 1) := by decide +kernel
theorem d_L_law_848 : decode code 848 = .ok (.aload_n 0, 1) := by decide +kernel
theorem d_L_law_849 : decode code 849 = .ok (.iload 4, 2) := by decide +kernel
theorem d_L_law_851 : decode code 851 = .ok (.iconst 4, 1) := by decide +kernel
theorem d_L_law_852 : decode code 852 = .ok (.iadd, 1) := by decide +kernel
theorem d_L_law_853 : decode code 853 = .ok (.iaload, 1) := by decide +kernel
theorem d_L_law_854 : decode code 854 = .ok (.aload_n 0, 1) := by decide +kernel
theorem d_L_law_855 : decode code 855 = .ok (.iload 4, 2) := by decide +kernel
theorem d_L_law_857 : decode code 857 = .ok (.iconst 5, 1) := by decide +kernel
theorem d_L_law_858 : decode code 858 = .ok (.iadd, 1) := by decide +kernel
theorem d_L_law_859 : decode code 859 = .ok (.iaload, 1) := by decide +kernel
theorem d_L_law_860 : decode code 860 = .ok (.invokevirtual 146, 3) := by decide +kernel
theorem d_L_law_863 : decode code 863 = .ok (.istore 6, 2) := by decide +kernel
theorem d_L_law_865 : decode code 865 = .ok (.aload_n 2, 1) := by decide +kernel
theorem d_L_law_866 : decode code 866 = .ok (.invokevirtual 102, 3) := by decide +kernel
theorem d_L_law_869 : decode code 869 = .ok (.iload 5, 2) := by decide +kernel
theorem d_L_law_871 : decode code 871 = .ok (.if_icmp .eq 5, 3) := by decide +kernel
theorem d_L_law_874 : decode code 874 = .ok (.iconst 0, 1) := by decide +kernel
theorem d_L_law_875 : decode code 875 = .ok (.ireturn, 1) := by decide +kernel
theorem d_L_law_876 : decode code 876 = .ok (.iload 5, 2) := by decide +kernel
theorem d_L_law_878 : decode code 878 = .ok (.ifCond .ne 15, 3) := by decide +kernel
theorem d_L_law_881 : decode code 881 = .ok (.aload_n 3, 1) := by decide +kernel
theorem d_L_law_882 : decode code 882 = .ok (.iconst 0, 1) := by decide +kernel
theorem d_L_law_883 : decode code 883 = .ok (.laload, 1) := by decide +kernel
theorem d_L_law_884 : decode code 884 = .ok (.iload 6, 2) := by decide +kernel
theorem d_L_law_886 : decode code 886 = .ok (.i2l, 1) := by decide +kernel
theorem d_L_law_887 : decode code 887 = .ok (.lcmp, 1) := by decide +kernel
theorem d_L_law_888 : decode code 888 = .ok (.ifCond .eq 5, 3) := by decide +kernel
theorem d_L_law_891 : decode code 891 = .ok (.iconst 0, 1) := by decide +kernel
theorem d_L_law_892 : decode code 892 = .ok (.ireturn, 1) := by decide +kernel
theorem d_L_law_893 : decode code 893 = .ok (.goto 642, 3) := by decide +kernel
theorem d_L_law_896 : decode code 896 = .ok (.aload_n 1, 1) := by decide +kernel
theorem d_L_law_897 : decode code 897 = .ok (.aload_n 0, 1) := by decide +kernel
theorem d_L_law_898 : decode code 898 = .ok (.iload 4, 2) := by decide +kernel
theorem d_L_law_900 : decode code 900 = .ok (.iconst 1, 1) := by decide +kernel
theorem d_L_law_901 : decode code 901 = .ok (.iadd, 1) := by decide +kernel
theorem d_L_law_902 : decode code 902 = .ok (.iaload, 1) := by decide +kernel
theorem d_L_law_903 : decode code 903 = .ok (.aload_n 0, 1) := by decide +kernel
theorem d_L_law_904 : decode code 904 = .ok (.iload 4, 2) := by decide +kernel
theorem d_L_law_906 : decode code 906 = .ok (.iconst 2, 1) := by decide +kernel
theorem d_L_law_907 : decode code 907 = .ok (.iadd, 1) := by decide +kernel
theorem d_L_law_908 : decode code 908 = .ok (.iaload, 1) := by decide +kernel
theorem d_L_law_909 : decode code 909 = .ok (.aload_n 0, 1) := by decide +kernel
theorem d_L_law_910 : decode code 910 = .ok (.iload 4, 2) := by decide +kernel
theorem d_L_law_912 : decode code 912 = .ok (.iconst 3, 1) := by decide +kernel
theorem d_L_law_913 : decode code 913 = .ok (.iadd, 1) := by decide +kernel
theorem d_L_law_914 : decode code 914 = .ok (.iaload, 1) := by decide +kernel
theorem d_L_law_915 : decode code 915 = .ok (.aload_n 3, 1) := by decide +kernel
theorem d_L_law_916 : decode code 916 = .ok (.invokestatic 147, 3) := by decide +kernel
theorem d_L_law_919 : decode code 919 = .ok (.istore 5, 2) := by decide +kernel
theorem d_L_law_921 : decode code 921 = .ok (.aload_n 2, 1) := by decide +kernel
theorem d_L_law_922 : decode code 922 = .ok (.aload_n 0, 1) := by decide +kernel
theorem d_L_law_923 : decode code 923 = .ok (.iload 4, 2) := by decide +kernel
theorem d_L_law_925 : decode code 925 = .ok (.iconst 1, 1) := by decide +kernel
theorem d_L_law_926 : decode code 926 = .ok (.iadd, 1) := by decide +kernel
theorem d_L_law_927 : decode code 927 = .ok (.iaload, 1) := by decide +kernel
theorem d_L_law_928 : decode code 928 = .ok (.aload_n 0, 1) := by decide +kernel
theorem d_L_law_929 : decode code 929 = .ok (.iload 4, 2) := by decide +kernel
theorem d_L_law_931 : decode code 931 = .ok (.iconst 2, 1) := by decide +kernel
theorem d_L_law_932 : decode code 932 = .ok (.iadd, 1) := by decide +kernel
theorem d_L_law_933 : decode code 933 = .ok (.iaload, 1) := by decide +kernel
theorem d_L_law_934 : decode code 934 = .ok (.aload_n 0, 1) := by decide +kernel
theorem d_L_law_935 : decode code 935 = .ok (.iload 4, 2) := by decide +kernel
theorem d_L_law_937 : decode code 937 = .ok (.iconst 3, 1) := by decide +kernel
theorem d_L_law_938 : decode code 938 = .ok (.iadd, 1) := by decide +kernel
theorem d_L_law_939 : decode code 939 = .ok (.iaload, 1) := by decide +kernel
theorem d_L_law_940 : decode code 940 = .ok (.invokevirtual 150, 3) := by decide +kernel
theorem d_L_law_943 : decode code 943 = .ok (.istore 6, 2) := by decide +kernel
theorem d_L_law_945 : decode code 945 = .ok (.aload_n 2, 1) := by decide +kernel
theorem d_L_law_946 : decode code 946 = .ok (.invokevirtual 102, 3) := by decide +kernel
theorem d_L_law_949 : decode code 949 = .ok (.iload 5, 2) := by decide +kernel
theorem d_L_law_951 : decode code 951 = .ok (.if_icmp .eq 5, 3) := by decide +kernel
theorem d_L_law_954 : decode code 954 = .ok (.iconst 0, 1) := by decide +kernel
theorem d_L_law_955 : decode code 955 = .ok (.ireturn, 1) := by decide +kernel
theorem d_L_law_956 : decode code 956 = .ok (.iload 5, 2) := by decide +kernel
theorem d_L_law_958 : decode code 958 = .ok (.ifCond .ne 22, 3) := by decide +kernel
theorem d_L_law_961 : decode code 961 = .ok (.aload_n 3, 1) := by decide +kernel
theorem d_L_law_962 : decode code 962 = .ok (.iconst 0, 1) := by decide +kernel
theorem d_L_law_963 : decode code 963 = .ok (.laload, 1) := by decide +kernel
theorem d_L_law_964 : decode code 964 = .ok (.iload 6, 2) := by decide +kernel
theorem d_L_law_966 : decode code 966 = .ok (.ifCond .eq 7, 3) := by decide +kernel
theorem d_L_law_969 : decode code 969 = .ok (.lconst 1, 1) := by decide +kernel
theorem d_L_law_970 : decode code 970 = .ok (.goto 4, 3) := by decide +kernel
theorem d_L_law_973 : decode code 973 = .ok (.lconst 0, 1) := by decide +kernel
theorem d_L_law_974 : decode code 974 = .ok (.lcmp, 1) := by decide +kernel
theorem d_L_law_975 : decode code 975 = .ok (.ifCond .eq 5, 3) := by decide +kernel
theorem d_L_law_978 : decode code 978 = .ok (.iconst 0, 1) := by decide +kernel
theorem d_L_law_979 : decode code 979 = .ok (.ireturn, 1) := by decide +kernel
theorem d_L_law_980 : decode code 980 = .ok (.goto 555, 3) := by decide +kernel
theorem d_L_law_983 : decode code 983 = .ok (.aload_n 1, 1) := by decide +kernel
theorem d_L_law_984 : decode code 984 = .ok (.aload_n 0, 1) := by decide +kernel
theorem d_L_law_985 : decode code 985 = .ok (.iload 4, 2) := by decide +kernel
theorem d_L_law_987 : decode code 987 = .ok (.iconst 1, 1) := by decide +kernel
theorem d_L_law_988 : decode code 988 = .ok (.iadd, 1) := by decide +kernel
theorem d_L_law_989 : decode code 989 = .ok (.iaload, 1) := by decide +kernel
theorem d_L_law_990 : decode code 990 = .ok (.aload_n 3, 1) := by decide +kernel
theorem d_L_law_991 : decode code 991 = .ok (.invokestatic 151, 3) := by decide +kernel
theorem d_L_law_994 : decode code 994 = .ok (.istore 5, 2) := by decide +kernel
theorem d_L_law_996 : decode code 996 = .ok (.aload_n 2, 1) := by decide +kernel
theorem d_L_law_997 : decode code 997 = .ok (.aload_n 0, 1) := by decide +kernel
theorem d_L_law_998 : decode code 998 = .ok (.iload 4, 2) := by decide +kernel
theorem d_L_law_1000 : decode code 1000 = .ok (.iconst 1, 1) := by decide +kernel
theorem d_L_law_1001 : decode code 1001 = .ok (.iadd, 1) := by decide +kernel
theorem d_L_law_1002 : decode code 1002 = .ok (.iaload, 1) := by decide +kernel
theorem d_L_law_1003 : decode code 1003 = .ok (.invokevirtual 153, 3) := by decide +kernel
theorem d_L_law_1006 : decode code 1006 = .ok (.istore 6, 2) := by decide +kernel
theorem d_L_law_1008 : decode code 1008 = .ok (.aload_n 2, 1) := by decide +kernel
theorem d_L_law_1009 : decode code 1009 = .ok (.invokevirtual 102, 3) := by decide +kernel
theorem d_L_law_1012 : decode code 1012 = .ok (.iload 5, 2) := by decide +kernel
theorem d_L_law_1014 : decode code 1014 = .ok (.if_icmp .eq 5, 3) := by decide +kernel
theorem d_L_law_1017 : decode code 1017 = .ok (.iconst 0, 1) := by decide +kernel
theorem d_L_law_1018 : decode code 1018 = .ok (.ireturn, 1) := by decide +kernel
theorem d_L_law_1019 : decode code 1019 = .ok (.iload 5, 2) := by decide +kernel
theorem d_L_law_1021 : decode code 1021 = .ok (.ifCond .ne 15, 3) := by decide +kernel
theorem d_L_law_1024 : decode code 1024 = .ok (.aload_n 3, 1) := by decide +kernel
theorem d_L_law_1025 : decode code 1025 = .ok (.iconst 0, 1) := by decide +kernel
theorem d_L_law_1026 : decode code 1026 = .ok (.laload, 1) := by decide +kernel
theorem d_L_law_1027 : decode code 1027 = .ok (.iload 6, 2) := by decide +kernel
theorem d_L_law_1029 : decode code 1029 = .ok (.i2l, 1) := by decide +kernel
theorem d_L_law_1030 : decode code 1030 = .ok (.lcmp, 1) := by decide +kernel
theorem d_L_law_1031 : decode code 1031 = .ok (.ifCond .eq 5, 3) := by decide +kernel
theorem d_L_law_1034 : decode code 1034 = .ok (.iconst 0, 1) := by decide +kernel
theorem d_L_law_1035 : decode code 1035 = .ok (.ireturn, 1) := by decide +kernel
theorem d_L_law_1036 : decode code 1036 = .ok (.goto 499, 3) := by decide +kernel
theorem d_L_law_1039 : decode code 1039 = .ok (.aload_n 1, 1) := by decide +kernel
theorem d_L_law_1040 : decode code 1040 = .ok (.aload_n 0, 1) := by decide +kernel
theorem d_L_law_1041 : decode code 1041 = .ok (.iload 4, 2) := by decide +kernel
theorem d_L_law_1043 : decode code 1043 = .ok (.iconst 1, 1) := by decide +kernel
theorem d_L_law_1044 : decode code 1044 = .ok (.iadd, 1) := by decide +kernel
theorem d_L_law_1045 : decode code 1045 = .ok (.iaload, 1) := by decide +kernel
theorem d_L_law_1046 : decode code 1046 = .ok (.aload_n 0, 1) := by decide +kernel
theorem d_L_law_1047 : decode code 1047 = .ok (.iload 4, 2) := by decide +kernel
theorem d_L_law_1049 : decode code 1049 = .ok (.iconst 2, 1) := by decide +kernel
theorem d_L_law_1050 : decode code 1050 = .ok (.iadd, 1) := by decide +kernel
theorem d_L_law_1051 : decode code 1051 = .ok (.iaload, 1) := by decide +kernel
theorem d_L_law_1052 : decode code 1052 = .ok (.aload_n 0, 1) := by decide +kernel
theorem d_L_law_1053 : decode code 1053 = .ok (.iload 4, 2) := by decide +kernel
theorem d_L_law_1055 : decode code 1055 = .ok (.iconst 3, 1) := by decide +kernel
theorem d_L_law_1056 : decode code 1056 = .ok (.iadd, 1) := by decide +kernel
theorem d_L_law_1057 : decode code 1057 = .ok (.iaload, 1) := by decide +kernel
theorem d_L_law_1058 : decode code 1058 = .ok (.aload_n 3, 1) := by decide +kernel
theorem d_L_law_1059 : decode code 1059 = .ok (.invokestatic 154, 3) := by decide +kernel
theorem d_L_law_1062 : decode code 1062 = .ok (.istore 5, 2) := by decide +kernel
theorem d_L_law_1064 : decode code 1064 = .ok (.aload_n 2, 1) := by decide +kernel
theorem d_L_law_1065 : decode code 1065 = .ok (.aload_n 0, 1) := by decide +kernel
theorem d_L_law_1066 : decode code 1066 = .ok (.iload 4, 2) := by decide +kernel
theorem d_L_law_1068 : decode code 1068 = .ok (.iconst 1, 1) := by decide +kernel
theorem d_L_law_1069 : decode code 1069 = .ok (.iadd, 1) := by decide +kernel
theorem d_L_law_1070 : decode code 1070 = .ok (.iaload, 1) := by decide +kernel
theorem d_L_law_1071 : decode code 1071 = .ok (.aload_n 0, 1) := by decide +kernel
theorem d_L_law_1072 : decode code 1072 = .ok (.iload 4, 2) := by decide +kernel
theorem d_L_law_1074 : decode code 1074 = .ok (.iconst 2, 1) := by decide +kernel
theorem d_L_law_1075 : decode code 1075 = .ok (.iadd, 1) := by decide +kernel
theorem d_L_law_1076 : decode code 1076 = .ok (.iaload, 1) := by decide +kernel
theorem d_L_law_1077 : decode code 1077 = .ok (.aload_n 0, 1) := by decide +kernel
theorem d_L_law_1078 : decode code 1078 = .ok (.iload 4, 2) := by decide +kernel
theorem d_L_law_1080 : decode code 1080 = .ok (.iconst 3, 1) := by decide +kernel
theorem d_L_law_1081 : decode code 1081 = .ok (.iadd, 1) := by decide +kernel
theorem d_L_law_1082 : decode code 1082 = .ok (.iaload, 1) := by decide +kernel
theorem d_L_law_1083 : decode code 1083 = .ok (.invokevirtual 156, 3) := by decide +kernel
theorem d_L_law_1086 : decode code 1086 = .ok (.istore 6, 2) := by decide +kernel
theorem d_L_law_1088 : decode code 1088 = .ok (.aload_n 2, 1) := by decide +kernel
theorem d_L_law_1089 : decode code 1089 = .ok (.invokevirtual 102, 3) := by decide +kernel
theorem d_L_law_1092 : decode code 1092 = .ok (.iload 5, 2) := by decide +kernel
theorem d_L_law_1094 : decode code 1094 = .ok (.if_icmp .eq 5, 3) := by decide +kernel
theorem d_L_law_1097 : decode code 1097 = .ok (.iconst 0, 1) := by decide +kernel
theorem d_L_law_1098 : decode code 1098 = .ok (.ireturn, 1) := by decide +kernel
theorem d_L_law_1099 : decode code 1099 = .ok (.iload 5, 2) := by decide +kernel
theorem d_L_law_1101 : decode code 1101 = .ok (.ifCond .ne 15, 3) := by decide +kernel
theorem d_L_law_1104 : decode code 1104 = .ok (.aload_n 3, 1) := by decide +kernel
theorem d_L_law_1105 : decode code 1105 = .ok (.iconst 0, 1) := by decide +kernel
theorem d_L_law_1106 : decode code 1106 = .ok (.laload, 1) := by decide +kernel
theorem d_L_law_1107 : decode code 1107 = .ok (.iload 6, 2) := by decide +kernel
theorem d_L_law_1109 : decode code 1109 = .ok (.i2l, 1) := by decide +kernel
theorem d_L_law_1110 : decode code 1110 = .ok (.lcmp, 1) := by decide +kernel
theorem d_L_law_1111 : decode code 1111 = .ok (.ifCond .eq 5, 3) := by decide +kernel
theorem d_L_law_1114 : decode code 1114 = .ok (.iconst 0, 1) := by decide +kernel
theorem d_L_law_1115 : decode code 1115 = .ok (.ireturn, 1) := by decide +kernel
theorem d_L_law_1116 : decode code 1116 = .ok (.goto 419, 3) := by decide +kernel
theorem d_L_law_1119 : decode code 1119 = .ok (.aload_n 1, 1) := by decide +kernel
theorem d_L_law_1120 : decode code 1120 = .ok (.aload_n 0, 1) := by decide +kernel
theorem d_L_law_1121 : decode code 1121 = .ok (.iload 4, 2) := by decide +kernel
theorem d_L_law_1123 : decode code 1123 = .ok (.iconst 1, 1) := by decide +kernel
theorem d_L_law_1124 : decode code 1124 = .ok (.iadd, 1) := by decide +kernel
theorem d_L_law_1125 : decode code 1125 = .ok (.iaload, 1) := by decide +kernel
theorem d_L_law_1126 : decode code 1126 = .ok (.aload_n 0, 1) := by decide +kernel
theorem d_L_law_1127 : decode code 1127 = .ok (.iload 4, 2) := by decide +kernel
theorem d_L_law_1129 : decode code 1129 = .ok (.iconst 2, 1) := by decide +kernel
theorem d_L_law_1130 : decode code 1130 = .ok (.iadd, 1) := by decide +kernel
theorem d_L_law_1131 : decode code 1131 = .ok (.iaload, 1) := by decide +kernel
theorem d_L_law_1132 : decode code 1132 = .ok (.aload_n 0, 1) := by decide +kernel
theorem d_L_law_1133 : decode code 1133 = .ok (.iload 4, 2) := by decide +kernel
theorem d_L_law_1135 : decode code 1135 = .ok (.iconst 3, 1) := by decide +kernel
theorem d_L_law_1136 : decode code 1136 = .ok (.iadd, 1) := by decide +kernel
theorem d_L_law_1137 : decode code 1137 = .ok (.iaload, 1) := by decide +kernel
theorem d_L_law_1138 : decode code 1138 = .ok (.aload_n 3, 1) := by decide +kernel
theorem d_L_law_1139 : decode code 1139 = .ok (.invokestatic 157, 3) := by decide +kernel
theorem d_L_law_1142 : decode code 1142 = .ok (.istore 5, 2) := by decide +kernel
theorem d_L_law_1144 : decode code 1144 = .ok (.aload_n 2, 1) := by decide +kernel
theorem d_L_law_1145 : decode code 1145 = .ok (.aload_n 0, 1) := by decide +kernel
theorem d_L_law_1146 : decode code 1146 = .ok (.iload 4, 2) := by decide +kernel
theorem d_L_law_1148 : decode code 1148 = .ok (.iconst 1, 1) := by decide +kernel
theorem d_L_law_1149 : decode code 1149 = .ok (.iadd, 1) := by decide +kernel
theorem d_L_law_1150 : decode code 1150 = .ok (.iaload, 1) := by decide +kernel
theorem d_L_law_1151 : decode code 1151 = .ok (.aload_n 0, 1) := by decide +kernel
theorem d_L_law_1152 : decode code 1152 = .ok (.iload 4, 2) := by decide +kernel
theorem d_L_law_1154 : decode code 1154 = .ok (.iconst 2, 1) := by decide +kernel
theorem d_L_law_1155 : decode code 1155 = .ok (.iadd, 1) := by decide +kernel
theorem d_L_law_1156 : decode code 1156 = .ok (.iaload, 1) := by decide +kernel
theorem d_L_law_1157 : decode code 1157 = .ok (.aload_n 0, 1) := by decide +kernel
theorem d_L_law_1158 : decode code 1158 = .ok (.iload 4, 2) := by decide +kernel
theorem d_L_law_1160 : decode code 1160 = .ok (.iconst 3, 1) := by decide +kernel
theorem d_L_law_1161 : decode code 1161 = .ok (.iadd, 1) := by decide +kernel
theorem d_L_law_1162 : decode code 1162 = .ok (.iaload, 1) := by decide +kernel
theorem d_L_law_1163 : decode code 1163 = .ok (.invokevirtual 159, 3) := by decide +kernel
theorem d_L_law_1166 : decode code 1166 = .ok (.istore 6, 2) := by decide +kernel
theorem d_L_law_1168 : decode code 1168 = .ok (.aload_n 2, 1) := by decide +kernel
theorem d_L_law_1169 : decode code 1169 = .ok (.invokevirtual 102, 3) := by decide +kernel
theorem d_L_law_1172 : decode code 1172 = .ok (.iload 5, 2) := by decide +kernel
theorem d_L_law_1174 : decode code 1174 = .ok (.if_icmp .eq 5, 3) := by decide +kernel
