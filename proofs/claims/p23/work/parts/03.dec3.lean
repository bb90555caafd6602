theorem dL_law_796 : decode cL_law 796 = .ok (.aaload, 1) := by decide +kernel
theorem dL_law_797 : decode cL_law 797 = .ok (.iconst 1, 1) := by decide +kernel
theorem dL_law_798 : decode cL_law 798 = .ok (.iaload, 1) := by decide +kernel
theorem dL_law_799 : decode cL_law 799 = .ok (.iconst 3, 1) := by decide +kernel
theorem dL_law_800 : decode cL_law 800 = .ok (.if_icmp .eq 18, 3) := by decide +kernel
theorem dL_law_803 : decode cL_law 803 = .ok (.aload_n 3, 1) := by decide +kernel
theorem dL_law_804 : decode cL_law 804 = .ok (.iload 17, 2) := by decide +kernel
theorem dL_law_806 : decode cL_law 806 = .ok (.iconst 1, 1) := by decide +kernel
theorem dL_law_807 : decode cL_law 807 = .ok (.invokevirtual 227, 3) := by decide +kernel
theorem dL_law_810 : decode cL_law 810 = .ok (.iconst 3, 1) := by decide +kernel
theorem dL_law_811 : decode cL_law 811 = .ok (.if_icmp .ne 7, 3) := by decide +kernel
theorem dL_law_814 : decode cL_law 814 = .ok (.iconst 1, 1) := by decide +kernel
theorem dL_law_815 : decode cL_law 815 = .ok (.goto 4, 3) := by decide +kernel
theorem dL_law_818 : decode cL_law 818 = .ok (.iconst 0, 1) := by decide +kernel
theorem dL_law_819 : decode cL_law 819 = .ok (.if_icmp .ne 58, 3) := by decide +kernel
theorem dL_law_822 : decode cL_law 822 = .ok (.iload 18, 2) := by decide +kernel
theorem dL_law_824 : decode cL_law 824 = .ok (.iconst 1, 1) := by decide +kernel
theorem dL_law_825 : decode cL_law 825 = .ok (.if_icmp .le 16, 3) := by decide +kernel
theorem dL_law_828 : decode cL_law 828 = .ok (.aload_n 3, 1) := by decide +kernel
theorem dL_law_829 : decode cL_law 829 = .ok (.iload 17, 2) := by decide +kernel
theorem dL_law_831 : decode cL_law 831 = .ok (.invokevirtual 236, 3) := by decide +kernel
theorem dL_law_834 : decode cL_law 834 = .ok (.iload 18, 2) := by decide +kernel
theorem dL_law_836 : decode cL_law 836 = .ok (.iconst 1, 1) := by decide +kernel
theorem dL_law_837 : decode cL_law 837 = .ok (.isub, 1) := by decide +kernel
theorem dL_law_838 : decode cL_law 838 = .ok (.if_icmp .ne 39, 3) := by decide +kernel
theorem dL_law_841 : decode cL_law 841 = .ok (.iload 20, 2) := by decide +kernel
theorem dL_law_843 : decode cL_law 843 = .ok (.iconst 1, 1) := by decide +kernel
theorem dL_law_844 : decode cL_law 844 = .ok (.if_icmp .ne 7, 3) := by decide +kernel
theorem dL_law_847 : decode cL_law 847 = .ok (.iconst 1, 1) := by decide +kernel
theorem dL_law_848 : decode cL_law 848 = .ok (.goto 4, 3) := by decide +kernel
theorem dL_law_851 : decode cL_law 851 = .ok (.iconst 0, 1) := by decide +kernel
theorem dL_law_852 : decode cL_law 852 = .ok (.aload_n 3, 1) := by decide +kernel
theorem dL_law_853 : decode cL_law 853 = .ok (.iload 19, 2) := by decide +kernel
theorem dL_law_855 : decode cL_law 855 = .ok (.iconst 1, 1) := by decide +kernel
theorem dL_law_856 : decode cL_law 856 = .ok (.invokevirtual 219, 3) := by decide +kernel
theorem dL_law_859 : decode cL_law 859 = .ok (.aload 10, 2) := by decide +kernel
theorem dL_law_861 : decode cL_law 861 = .ok (.iload 19, 2) := by decide +kernel
theorem dL_law_863 : decode cL_law 863 = .ok (.aaload, 1) := by decide +kernel
theorem dL_law_864 : decode cL_law 864 = .ok (.iconst 1, 1) := by decide +kernel
theorem dL_law_865 : decode cL_law 865 = .ok (.iaload, 1) := by decide +kernel
theorem dL_law_866 : decode cL_law 866 = .ok (.if_icmp .ge 7, 3) := by decide +kernel
theorem dL_law_869 : decode cL_law 869 = .ok (.iconst 1, 1) := by decide +kernel
theorem dL_law_870 : decode cL_law 870 = .ok (.goto 4, 3) := by decide +kernel
theorem dL_law_873 : decode cL_law 873 = .ok (.iconst 0, 1) := by decide +kernel
theorem dL_law_874 : decode cL_law 874 = .ok (.if_icmp .eq 5, 3) := by decide +kernel
theorem dL_law_877 : decode cL_law 877 = .ok (.iconst 0, 1) := by decide +kernel
theorem dL_law_878 : decode cL_law 878 = .ok (.ireturn, 1) := by decide +kernel
theorem dL_law_879 : decode cL_law 879 = .ok (.iconst 0, 1) := by decide +kernel
theorem dL_law_880 : decode cL_law 880 = .ok (.istore 28, 2) := by decide +kernel
theorem dL_law_882 : decode cL_law 882 = .ok (.iconst 0, 1) := by decide +kernel
theorem dL_law_883 : decode cL_law 883 = .ok (.istore 29, 2) := by decide +kernel
theorem dL_law_885 : decode cL_law 885 = .ok (.iload 29, 2) := by decide +kernel
theorem dL_law_887 : decode cL_law 887 = .ok (.iload 7, 2) := by decide +kernel
theorem dL_law_889 : decode cL_law 889 = .ok (.if_icmp .ge 385, 3) := by decide +kernel
theorem dL_law_892 : decode cL_law 892 = .ok (.aload 10, 2) := by decide +kernel
theorem dL_law_894 : decode cL_law 894 = .ok (.iload 29, 2) := by decide +kernel
theorem dL_law_896 : decode cL_law 896 = .ok (.aaload, 1) := by decide +kernel
theorem dL_law_897 : decode cL_law 897 = .ok (.astore 30, 2) := by decide +kernel
theorem dL_law_899 : decode cL_law 899 = .ok (.aload_n 3, 1) := by decide +kernel
theorem dL_law_900 : decode cL_law 900 = .ok (.iload 29, 2) := by decide +kernel
theorem dL_law_902 : decode cL_law 902 = .ok (.iconst 4, 1) := by decide +kernel
theorem dL_law_903 : decode cL_law 903 = .ok (.invokevirtual 219, 3) := by decide +kernel
theorem dL_law_906 : decode cL_law 906 = .ok (.istore 31, 2) := by decide +kernel
theorem dL_law_908 : decode cL_law 908 = .ok (.aload_n 3, 1) := by decide +kernel
theorem dL_law_909 : decode cL_law 909 = .ok (.iload 29, 2) := by decide +kernel
theorem dL_law_911 : decode cL_law 911 = .ok (.iconst 1, 1) := by decide +kernel
theorem dL_law_912 : decode cL_law 912 = .ok (.invokevirtual 219, 3) := by decide +kernel
theorem dL_law_915 : decode cL_law 915 = .ok (.aload 30, 2) := by decide +kernel
theorem dL_law_917 : decode cL_law 917 = .ok (.iconst 1, 1) := by decide +kernel
theorem dL_law_918 : decode cL_law 918 = .ok (.iaload, 1) := by decide +kernel
theorem dL_law_919 : decode cL_law 919 = .ok (.if_icmp .ge 7, 3) := by decide +kernel
theorem dL_law_922 : decode cL_law 922 = .ok (.iconst 1, 1) := by decide +kernel
theorem dL_law_923 : decode cL_law 923 = .ok (.goto 4, 3) := by decide +kernel
theorem dL_law_926 : decode cL_law 926 = .ok (.iconst 0, 1) := by decide +kernel
theorem dL_law_927 : decode cL_law 927 = .ok (.istore 32, 2) := by decide +kernel
theorem dL_law_929 : decode cL_law 929 = .ok (.iload 28, 2) := by decide +kernel
theorem dL_law_931 : decode cL_law 931 = .ok (.aload_n 3, 1) := by decide +kernel
theorem dL_law_932 : decode cL_law 932 = .ok (.iload 29, 2) := by decide +kernel
theorem dL_law_934 : decode cL_law 934 = .ok (.bipush 9, 2) := by decide +kernel
theorem dL_law_936 : decode cL_law 936 = .ok (.invokevirtual 219, 3) := by decide +kernel
theorem dL_law_939 : decode cL_law 939 = .ok (.aload 30, 2) := by decide +kernel
theorem dL_law_941 : decode cL_law 941 = .ok (.bipush 9, 2) := by decide +kernel
theorem dL_law_943 : decode cL_law 943 = .ok (.iaload, 1) := by decide +kernel
theorem dL_law_944 : decode cL_law 944 = .ok (.isub, 1) := by decide +kernel
theorem dL_law_945 : decode cL_law 945 = .ok (.iadd, 1) := by decide +kernel
theorem dL_law_946 : decode cL_law 946 = .ok (.istore 28, 2) := by decide +kernel
theorem dL_law_948 : decode cL_law 948 = .ok (.iload 32, 2) := by decide +kernel
theorem dL_law_950 : decode cL_law 950 = .ok (.aload 30, 2) := by decide +kernel
theorem dL_law_952 : decode cL_law 952 = .ok (.iconst 4, 1) := by decide +kernel
theorem dL_law_953 : decode cL_law 953 = .ok (.iaload, 1) := by decide +kernel
theorem dL_law_954 : decode cL_law 954 = .ok (.ifCond .lt 45, 3) := by decide +kernel
theorem dL_law_957 : decode cL_law 957 = .ok (.aload 13, 2) := by decide +kernel
theorem dL_law_959 : decode cL_law 959 = .ok (.iload 29, 2) := by decide +kernel
theorem dL_law_961 : decode cL_law 961 = .ok (.iaload, 1) := by decide +kernel
theorem dL_law_962 : decode cL_law 962 = .ok (.aload 30, 2) := by decide +kernel
theorem dL_law_964 : decode cL_law 964 = .ok (.iconst 2, 1) := by decide +kernel
theorem dL_law_965 : decode cL_law 965 = .ok (.iaload, 1) := by decide +kernel
theorem dL_law_966 : decode cL_law 966 = .ok (.if_icmp .le 33, 3) := by decide +kernel
theorem dL_law_969 : decode cL_law 969 = .ok (.aload_n 3, 1) := by decide +kernel
theorem dL_law_970 : decode cL_law 970 = .ok (.iload 29, 2) := by decide +kernel
theorem dL_law_972 : decode cL_law 972 = .ok (.iconst 5, 1) := by decide +kernel
theorem dL_law_973 : decode cL_law 973 = .ok (.invokevirtual 219, 3) := by decide +kernel
theorem dL_law_976 : decode cL_law 976 = .ok (.ifCond .ne 23, 3) := by decide +kernel
theorem dL_law_979 : decode cL_law 979 = .ok (.aload_n 3, 1) := by decide +kernel
theorem dL_law_980 : decode cL_law 980 = .ok (.iload 29, 2) := by decide +kernel
theorem dL_law_982 : decode cL_law 982 = .ok (.bipush 9, 2) := by decide +kernel
theorem dL_law_984 : decode cL_law 984 = .ok (.invokevirtual 219, 3) := by decide +kernel
theorem dL_law_987 : decode cL_law 987 = .ok (.aload 30, 2) := by decide +kernel
theorem dL_law_989 : decode cL_law 989 = .ok (.bipush 9, 2) := by decide +kernel
theorem dL_law_991 : decode cL_law 991 = .ok (.iaload, 1) := by decide +kernel
theorem dL_law_992 : decode cL_law 992 = .ok (.if_icmp .ne 7, 3) := by decide +kernel
theorem dL_law_995 : decode cL_law 995 = .ok (.iconst 1, 1) := by decide +kernel
theorem dL_law_996 : decode cL_law 996 = .ok (.goto 4, 3) := by decide +kernel
theorem dL_law_999 : decode cL_law 999 = .ok (.iconst 0, 1) := by decide +kernel
theorem dL_law_1000 : decode cL_law 1000 = .ok (.if_icmp .ne 70, 3) := by decide +kernel
theorem dL_law_1003 : decode cL_law 1003 = .ok (.iload 32, 2) := by decide +kernel
theorem dL_law_1005 : decode cL_law 1005 = .ok (.ifCond .eq 67, 3) := by decide +kernel
theorem dL_law_1008 : decode cL_law 1008 = .ok (.aload_n 3, 1) := by decide +kernel
theorem dL_law_1009 : decode cL_law 1009 = .ok (.iload 29, 2) := by decide +kernel
theorem dL_law_1011 : decode cL_law 1011 = .ok (.iconst 1, 1) := by decide +kernel
theorem dL_law_1012 : decode cL_law 1012 = .ok (.invokevirtual 219, 3) := by decide +kernel
theorem dL_law_1015 : decode cL_law 1015 = .ok (.aload 30, 2) := by decide +kernel
theorem dL_law_1017 : decode cL_law 1017 = .ok (.iconst 1, 1) := by decide +kernel
theorem dL_law_1018 : decode cL_law 1018 = .ok (.iaload, 1) := by decide +kernel
theorem dL_law_1019 : decode cL_law 1019 = .ok (.iconst 1, 1) := by decide +kernel
theorem dL_law_1020 : decode cL_law 1020 = .ok (.isub, 1) := by decide +kernel
theorem dL_law_1021 : decode cL_law 1021 = .ok (.if_icmp .ne 49, 3) := by decide +kernel
theorem dL_law_1024 : decode cL_law 1024 = .ok (.iload 31, 2) := by decide +kernel
theorem dL_law_1026 : decode cL_law 1026 = .ok (.aload 30, 2) := by decide +kernel
theorem dL_law_1028 : decode cL_law 1028 = .ok (.iconst 4, 1) := by decide +kernel
theorem dL_law_1029 : decode cL_law 1029 = .ok (.iaload, 1) := by decide +kernel
theorem dL_law_1030 : decode cL_law 1030 = .ok (.if_icmp .ne 40, 3) := by decide +kernel
theorem dL_law_1033 : decode cL_law 1033 = .ok (.aload_n 3, 1) := by decide +kernel
theorem dL_law_1034 : decode cL_law 1034 = .ok (.iload 29, 2) := by decide +kernel
theorem dL_law_1036 : decode cL_law 1036 = .ok (.bipush 7, 2) := by decide +kernel
theorem dL_law_1038 : decode cL_law 1038 = .ok (.invokevirtual 219, 3) := by decide +kernel
theorem dL_law_1041 : decode cL_law 1041 = .ok (.ifCond .ne 29, 3) := by decide +kernel
theorem dL_law_1044 : decode cL_law 1044 = .ok (.aload_n 3, 1) := by decide +kernel
theorem dL_law_1045 : decode cL_law 1045 = .ok (.iload 29, 2) := by decide +kernel
theorem dL_law_1047 : decode cL_law 1047 = .ok (.bipush 6, 2) := by decide +kernel
theorem dL_law_1049 : decode cL_law 1049 = .ok (.invokevirtual 219, 3) := by decide +kernel
theorem dL_law_1052 : decode cL_law 1052 = .ok (.aload_n 3, 1) := by decide +kernel
theorem dL_law_1053 : decode cL_law 1053 = .ok (.iload 31, 2) := by decide +kernel
theorem dL_law_1055 : decode cL_law 1055 = .ok (.iconst 0, 1) := by decide +kernel
theorem dL_law_1056 : decode cL_law 1056 = .ok (.invokevirtual 224, 3) := by decide +kernel
theorem dL_law_1059 : decode cL_law 1059 = .ok (.iconst 1, 1) := by decide +kernel
theorem dL_law_1060 : decode cL_law 1060 = .ok (.isub, 1) := by decide +kernel
theorem dL_law_1061 : decode cL_law 1061 = .ok (.aload 30, 2) := by decide +kernel
theorem dL_law_1063 : decode cL_law 1063 = .ok (.bipush 6, 2) := by decide +kernel
theorem dL_law_1065 : decode cL_law 1065 = .ok (.iaload, 1) := by decide +kernel
theorem dL_law_1066 : decode cL_law 1066 = .ok (.isub, 1) := by decide +kernel
theorem dL_law_1067 : decode cL_law 1067 = .ok (.if_icmp .eq 5, 3) := by decide +kernel
theorem dL_law_1070 : decode cL_law 1070 = .ok (.iconst 0, 1) := by decide +kernel
theorem dL_law_1071 : decode cL_law 1071 = .ok (.ireturn, 1) := by decide +kernel
theorem dL_law_1072 : decode cL_law 1072 = .ok (.iload 31, 2) := by decide +kernel
theorem dL_law_1074 : decode cL_law 1074 = .ok (.aload 30, 2) := by decide +kernel
theorem dL_law_1076 : decode cL_law 1076 = .ok (.iconst 4, 1) := by decide +kernel
theorem dL_law_1077 : decode cL_law 1077 = .ok (.iaload, 1) := by decide +kernel
theorem dL_law_1078 : decode cL_law 1078 = .ok (.isub, 1) := by decide +kernel
theorem dL_law_1079 : decode cL_law 1079 = .ok (.invokestatic 134, 3) := by decide +kernel
theorem dL_law_1082 : decode cL_law 1082 = .ok (.iconst 1, 1) := by decide +kernel
theorem dL_law_1083 : decode cL_law 1083 = .ok (.if_icmp .gt 183, 3) := by decide +kernel
theorem dL_law_1086 : decode cL_law 1086 = .ok (.aload_n 3, 1) := by decide +kernel
theorem dL_law_1087 : decode cL_law 1087 = .ok (.iload 29, 2) := by decide +kernel
theorem dL_law_1089 : decode cL_law 1089 = .ok (.bipush 8, 2) := by decide +kernel
theorem dL_law_1091 : decode cL_law 1091 = .ok (.invokevirtual 219, 3) := by decide +kernel
theorem dL_law_1094 : decode cL_law 1094 = .ok (.aload 30, 2) := by decide +kernel
theorem dL_law_1096 : decode cL_law 1096 = .ok (.bipush 8, 2) := by decide +kernel
theorem dL_law_1098 : decode cL_law 1098 = .ok (.iaload, 1) := by decide +kernel
theorem dL_law_1099 : decode cL_law 1099 = .ok (.aload 13, 2) := by decide +kernel
theorem dL_law_1101 : decode cL_law 1101 = .ok (.iload 29, 2) := by decide +kernel
theorem dL_law_1103 : decode cL_law 1103 = .ok (.iaload, 1) := by decide +kernel
theorem dL_law_1104 : decode cL_law 1104 = .ok (.bipush 8, 2) := by decide +kernel
theorem dL_law_1106 : decode cL_law 1106 = .ok (.idiv, 1) := by decide +kernel
theorem dL_law_1107 : decode cL_law 1107 = .ok (.iadd, 1) := by decide +kernel
theorem dL_law_1108 : decode cL_law 1108 = .ok (.if_icmp .gt 158, 3) := by decide +kernel
theorem dL_law_1111 : decode cL_law 1111 = .ok (.aload_n 3, 1) := by decide +kernel
theorem dL_law_1112 : decode cL_law 1112 = .ok (.iload 29, 2) := by decide +kernel
theorem dL_law_1114 : decode cL_law 1114 = .ok (.bipush 8, 2) := by decide +kernel
theorem dL_law_1116 : decode cL_law 1116 = .ok (.invokevirtual 219, 3) := by decide +kernel
theorem dL_law_1119 : decode cL_law 1119 = .ok (.aload 30, 2) := by decide +kernel
theorem dL_law_1121 : decode cL_law 1121 = .ok (.bipush 8, 2) := by decide +kernel
theorem dL_law_1123 : decode cL_law 1123 = .ok (.iaload, 1) := by decide +kernel
theorem dL_law_1124 : decode cL_law 1124 = .ok (.iconst 4, 1) := by decide +kernel
theorem dL_law_1125 : decode cL_law 1125 = .ok (.isub, 1) := by decide +kernel
theorem dL_law_1126 : decode cL_law 1126 = .ok (.if_icmp .lt 140, 3) := by decide +kernel
theorem dL_law_1129 : decode cL_law 1129 = .ok (.iload 31, 2) := by decide +kernel
theorem dL_law_1131 : decode cL_law 1131 = .ok (.aload 30, 2) := by decide +kernel
theorem dL_law_1133 : decode cL_law 1133 = .ok (.iconst 4, 1) := by decide +kernel
theorem dL_law_1134 : decode cL_law 1134 = .ok (.iaload, 1) := by decide +kernel
theorem dL_law_1135 : decode cL_law 1135 = .ok (.if_icmp .ne 51, 3) := by decide +kernel
theorem dL_law_1138 : decode cL_law 1138 = .ok (.aload_n 3, 1) := by decide +kernel
theorem dL_law_1139 : decode cL_law 1139 = .ok (.iload 29, 2) := by decide +kernel
theorem dL_law_1141 : decode cL_law 1141 = .ok (.iconst 5, 1) := by decide +kernel
theorem dL_law_1142 : decode cL_law 1142 = .ok (.invokevirtual 219, 3) := by decide +kernel
theorem dL_law_1145 : decode cL_law 1145 = .ok (.aload 30, 2) := by decide +kernel
theorem dL_law_1147 : decode cL_law 1147 = .ok (.iconst 5, 1) := by decide +kernel
theorem dL_law_1148 : decode cL_law 1148 = .ok (.iaload, 1) := by decide +kernel
theorem dL_law_1149 : decode cL_law 1149 = .ok (.if_icmp .ne 37, 3) := by decide +kernel
theorem dL_law_1152 : decode cL_law 1152 = .ok (.aload_n 3, 1) := by decide +kernel
theorem dL_law_1153 : decode cL_law 1153 = .ok (.iload 29, 2) := by decide +kernel
theorem dL_law_1155 : decode cL_law 1155 = .ok (.bipush 6, 2) := by decide +kernel
theorem dL_law_1157 : decode cL_law 1157 = .ok (.invokevirtual 219, 3) := by decide +kernel
theorem dL_law_1160 : decode cL_law 1160 = .ok (.aload 30, 2) := by decide +kernel
theorem dL_law_1162 : decode cL_law 1162 = .ok (.bipush 6, 2) := by decide +kernel
theorem dL_law_1164 : decode cL_law 1164 = .ok (.iaload, 1) := by decide +kernel
theorem dL_law_1165 : decode cL_law 1165 = .ok (.if_icmp .lt 101, 3) := by decide +kernel
theorem dL_law_1168 : decode cL_law 1168 = .ok (.aload_n 3, 1) := by decide +kernel
theorem dL_law_1169 : decode cL_law 1169 = .ok (.iload 29, 2) := by decide +kernel
theorem dL_law_1171 : decode cL_law 1171 = .ok (.bipush 6, 2) := by decide +kernel
theorem dL_law_1173 : decode cL_law 1173 = .ok (.invokevirtual 219, 3) := by decide +kernel
theorem dL_law_1176 : decode cL_law 1176 = .ok (.aload 30, 2) := by decide +kernel
theorem dL_law_1178 : decode cL_law 1178 = .ok (.bipush 6, 2) := by decide +kernel
theorem dL_law_1180 : decode cL_law 1180 = .ok (.iaload, 1) := by decide +kernel
theorem dL_law_1181 : decode cL_law 1181 = .ok (.iconst 2, 1) := by decide +kernel
theorem dL_law_1182 : decode cL_law 1182 = .ok (.iadd, 1) := by decide +kernel
theorem dL_law_1183 : decode cL_law 1183 = .ok (.if_icmp .gt 83, 3) := by decide +kernel
theorem dL_law_1186 : decode cL_law 1186 = .ok (.aload 30, 2) := by decide +kernel
theorem dL_law_1188 : decode cL_law 1188 = .ok (.iconst 5, 1) := by decide +kernel
theorem dL_law_1189 : decode cL_law 1189 = .ok (.iaload, 1) := by decide +kernel
theorem dL_law_1190 : decode cL_law 1190 = .ok (.ifCond .ne 30, 3) := by decide +kernel
theorem dL_law_1193 : decode cL_law 1193 = .ok (.aload 30, 2) := by decide +kernel
theorem dL_law_1195 : decode cL_law 1195 = .ok (.iconst 4, 1) := by decide +kernel
theorem dL_law_1196 : decode cL_law 1196 = .ok (.iaload, 1) := by decide +kernel
theorem dL_law_1197 : decode cL_law 1197 = .ok (.ifCond .lt 23, 3) := by decide +kernel
theorem dL_law_1200 : decode cL_law 1200 = .ok (.iload 31, 2) := by decide +kernel
theorem dL_law_1202 : decode cL_law 1202 = .ok (.aload 30, 2) := by decide +kernel
theorem dL_law_1204 : decode cL_law 1204 = .ok (.iconst 4, 1) := by decide +kernel
theorem dL_law_1205 : decode cL_law 1205 = .ok (.iaload, 1) := by decide +kernel
theorem dL_law_1206 : decode cL_law 1206 = .ok (.if_icmp .gt 60, 3) := by decide +kernel
theorem dL_law_1209 : decode cL_law 1209 = .ok (.aload_n 3, 1) := by decide +kernel
theorem dL_law_1210 : decode cL_law 1210 = .ok (.iload 29, 2) := by decide +kernel
theorem dL_law_1212 : decode cL_law 1212 = .ok (.iconst 5, 1) := by decide +kernel
theorem dL_law_1213 : decode cL_law 1213 = .ok (.invokevirtual 219, 3) := by decide +kernel
theorem dL_law_1216 : decode cL_law 1216 = .ok (.iconst 1, 1) := by decide +kernel
theorem dL_law_1217 : decode cL_law 1217 = .ok (.if_icmp .eq 49, 3) := by decide +kernel
theorem dL_law_1220 : decode cL_law 1220 = .ok (.aload 30, 2) := by decide +kernel
theorem dL_law_1222 : decode cL_law 1222 = .ok (.iconst 4, 1) := by decide +kernel
theorem dL_law_1223 : decode cL_law 1223 = .ok (.iaload, 1) := by decide +kernel
theorem dL_law_1224 : decode cL_law 1224 = .ok (.ifCond .ge 44, 3) := by decide +kernel
theorem dL_law_1227 : decode cL_law 1227 = .ok (.iload 31, 2) := by decide +kernel
theorem dL_law_1229 : decode cL_law 1229 = .ok (.ifCond .lt 39, 3) := by decide +kernel
theorem dL_law_1232 : decode cL_law 1232 = .ok (.iload 31, 2) := by decide +kernel
theorem dL_law_1234 : decode cL_law 1234 = .ok (.ifCond .ne 32, 3) := by decide +kernel
theorem dL_law_1237 : decode cL_law 1237 = .ok (.aload 30, 2) := by decide +kernel
theorem dL_law_1239 : decode cL_law 1239 = .ok (.iconst 1, 1) := by decide +kernel
theorem dL_law_1240 : decode cL_law 1240 = .ok (.iaload, 1) := by decide +kernel
theorem dL_law_1241 : decode cL_law 1241 = .ok (.ifCond .eq 25, 3) := by decide +kernel
theorem dL_law_1244 : decode cL_law 1244 = .ok (.aload_n 3, 1) := by decide +kernel
theorem dL_law_1245 : decode cL_law 1245 = .ok (.iload 29, 2) := by decide +kernel
theorem dL_law_1247 : decode cL_law 1247 = .ok (.bipush 7, 2) := by decide +kernel
theorem dL_law_1249 : decode cL_law 1249 = .ok (.invokevirtual 219, 3) := by decide +kernel
theorem dL_law_1252 : decode cL_law 1252 = .ok (.ifCond .eq 14, 3) := by decide +kernel
theorem dL_law_1255 : decode cL_law 1255 = .ok (.aload_n 3, 1) := by decide +kernel
theorem dL_law_1256 : decode cL_law 1256 = .ok (.iload 29, 2) := by decide +kernel
theorem dL_law_1258 : decode cL_law 1258 = .ok (.bipush 6, 2) := by decide +kernel
theorem dL_law_1260 : decode cL_law 1260 = .ok (.invokevirtual 219, 3) := by decide +kernel
theorem dL_law_1263 : decode cL_law 1263 = .ok (.ifCond .eq 5, 3) := by decide +kernel
theorem dL_law_1266 : decode cL_law 1266 = .ok (.iconst 0, 1) := by decide +kernel
theorem dL_law_1267 : decode cL_law 1267 = .ok (.ireturn, 1) := by decide +kernel
theorem dL_law_1268 : decode cL_law 1268 = .ok (.iinc 29 1, 3) := by decide +kernel
theorem dL_law_1271 : decode cL_law 1271 = .ok (.goto (-386), 3) := by decide +kernel
theorem dL_law_1274 : decode cL_law 1274 = .ok (.iload 28, 2) := by decide +kernel
theorem dL_law_1276 : decode cL_law 1276 = .ok (.iload 27, 2) := by decide +kernel
theorem dL_law_1278 : decode cL_law 1278 = .ok (.if_icmp .eq 5, 3) := by decide +kernel
theorem dL_law_1281 : decode cL_law 1281 = .ok (.iconst 0, 1) := by decide +kernel
theorem dL_law_1282 : decode cL_law 1282 = .ok (.ireturn, 1) := by decide +kernel
theorem dL_law_1283 : decode cL_law 1283 = .ok (.iconst 0, 1) := by decide +kernel
theorem dL_law_1284 : decode cL_law 1284 = .ok (.istore 29, 2) := by decide +kernel
theorem dL_law_1286 : decode cL_law 1286 = .ok (.iload 8, 2) := by decide +kernel
theorem dL_law_1288 : decode cL_law 1288 = .ok (.newarray .int, 2) := by decide +kernel
theorem dL_law_1290 : decode cL_law 1290 = .ok (.astore 30, 2) := by decide +kernel
theorem dL_law_1292 : decode cL_law 1292 = .ok (.iconst 0, 1) := by decide +kernel
theorem dL_law_1293 : decode cL_law 1293 = .ok (.istore 31, 2) := by decide +kernel
theorem dL_law_1295 : decode cL_law 1295 = .ok (.iload 31, 2) := by decide +kernel
theorem dL_law_1297 : decode cL_law 1297 = .ok (.iload 9, 2) := by decide +kernel
theorem dL_law_1299 : decode cL_law 1299 = .ok (.if_icmp .ge 241, 3) := by decide +kernel
theorem dL_law_1302 : decode cL_law 1302 = .ok (.aload_n 3, 1) := by decide +kernel
theorem dL_law_1303 : decode cL_law 1303 = .ok (.iload 31, 2) := by decide +kernel
theorem dL_law_1305 : decode cL_law 1305 = .ok (.iconst 1, 1) := by decide +kernel
theorem dL_law_1306 : decode cL_law 1306 = .ok (.invokevirtual 227, 3) := by decide +kernel
theorem dL_law_1309 : decode cL_law 1309 = .ok (.istore 32, 2) := by decide +kernel
theorem dL_law_1311 : decode cL_law 1311 = .ok (.aload_n 3, 1) := by decide +kernel
theorem dL_law_1312 : decode cL_law 1312 = .ok (.iload 31, 2) := by decide +kernel
theorem dL_law_1314 : decode cL_law 1314 = .ok (.iconst 2, 1) := by decide +kernel
theorem dL_law_1315 : decode cL_law 1315 = .ok (.invokevirtual 227, 3) := by decide +kernel
theorem dL_law_1318 : decode cL_law 1318 = .ok (.istore 33, 2) := by decide +kernel
theorem dL_law_1320 : decode cL_law 1320 = .ok (.iload 29, 2) := by decide +kernel
theorem dL_law_1322 : decode cL_law 1322 = .ok (.aload 11, 2) := by decide +kernel
theorem dL_law_1324 : decode cL_law 1324 = .ok (.iload 31, 2) := by decide +kernel
theorem dL_law_1326 : decode cL_law 1326 = .ok (.aaload, 1) := by decide +kernel
theorem dL_law_1327 : decode cL_law 1327 = .ok (.iconst 0, 1) := by decide +kernel
theorem dL_law_1328 : decode cL_law 1328 = .ok (.iaload, 1) := by decide +kernel
theorem dL_law_1329 : decode cL_law 1329 = .ok (.iadd, 1) := by decide +kernel
theorem dL_law_1330 : decode cL_law 1330 = .ok (.istore 29, 2) := by decide +kernel
theorem dL_law_1332 : decode cL_law 1332 = .ok (.iload 32, 2) := by decide +kernel
theorem dL_law_1334 : decode cL_law 1334 = .ok (.iconst 2, 1) := by decide +kernel
theorem dL_law_1335 : decode cL_law 1335 = .ok (.if_icmp .ne 12, 3) := by decide +kernel
theorem dL_law_1338 : decode cL_law 1338 = .ok (.aload 30, 2) := by decide +kernel
theorem dL_law_1340 : decode cL_law 1340 = .ok (.iload 33, 2) := by decide +kernel
theorem dL_law_1342 : decode cL_law 1342 = .ok (.dup2, 1) := by decide +kernel
theorem dL_law_1343 : decode cL_law 1343 = .ok (.iaload, 1) := by decide +kernel
theorem dL_law_1344 : decode cL_law 1344 = .ok (.iconst 1, 1) := by decide +kernel
theorem dL_law_1345 : decode cL_law 1345 = .ok (.iadd, 1) := by decide +kernel
theorem dL_law_1346 : decode cL_law 1346 = .ok (.iastore, 1) := by decide +kernel
theorem dL_law_1347 : decode cL_law 1347 = .ok (.aload_n 3, 1) := by decide +kernel
theorem dL_law_1348 : decode cL_law 1348 = .ok (.iload 31, 2) := by decide +kernel
theorem dL_law_1350 : decode cL_law 1350 = .ok (.iconst 0, 1) := by decide +kernel
theorem dL_law_1351 : decode cL_law 1351 = .ok (.invokevirtual 227, 3) := by decide +kernel
theorem dL_law_1354 : decode cL_law 1354 = .ok (.aload 11, 2) := by decide +kernel
theorem dL_law_1356 : decode cL_law 1356 = .ok (.iload 31, 2) := by decide +kernel
theorem dL_law_1358 : decode cL_law 1358 = .ok (.aaload, 1) := by decide +kernel
theorem dL_law_1359 : decode cL_law 1359 = .ok (.iconst 0, 1) := by decide +kernel
theorem dL_law_1360 : decode cL_law 1360 = .ok (.iaload, 1) := by decide +kernel
theorem dL_law_1361 : decode cL_law 1361 = .ok (.if_icmp .ne 171, 3) := by decide +kernel
theorem dL_law_1364 : decode cL_law 1364 = .ok (.iload 32, 2) := by decide +kernel
theorem dL_law_1366 : decode cL_law 1366 = .ok (.aload 11, 2) := by decide +kernel
theorem dL_law_1368 : decode cL_law 1368 = .ok (.iload 31, 2) := by decide +kernel
theorem dL_law_1370 : decode cL_law 1370 = .ok (.aaload, 1) := by decide +kernel
theorem dL_law_1371 : decode cL_law 1371 = .ok (.iconst 1, 1) := by decide +kernel
theorem dL_law_1372 : decode cL_law 1372 = .ok (.iaload, 1) := by decide +kernel
theorem dL_law_1373 : decode cL_law 1373 = .ok (.if_icmp .lt 159, 3) := by decide +kernel
theorem dL_law_1376 : decode cL_law 1376 = .ok (.iload 32, 2) := by decide +kernel
theorem dL_law_1378 : decode cL_law 1378 = .ok (.iconst 3, 1) := by decide +kernel
theorem dL_law_1379 : decode cL_law 1379 = .ok (.if_icmp .ne 7, 3) := by decide +kernel
theorem dL_law_1382 : decode cL_law 1382 = .ok (.iconst 1, 1) := by decide +kernel
theorem dL_law_1383 : decode cL_law 1383 = .ok (.goto 4, 3) := by decide +kernel
theorem dL_law_1386 : decode cL_law 1386 = .ok (.iconst 0, 1) := by decide +kernel
theorem dL_law_1387 : decode cL_law 1387 = .ok (.aload_n 3, 1) := by decide +kernel
theorem dL_law_1388 : decode cL_law 1388 = .ok (.iload 31, 2) := by decide +kernel
theorem dL_law_1390 : decode cL_law 1390 = .ok (.iconst 3, 1) := by decide +kernel
theorem dL_law_1391 : decode cL_law 1391 = .ok (.invokevirtual 227, 3) := by decide +kernel
theorem dL_law_1394 : decode cL_law 1394 = .ok (.ifCond .lt 7, 3) := by decide +kernel
theorem dL_law_1397 : decode cL_law 1397 = .ok (.iconst 1, 1) := by decide +kernel
theorem dL_law_1398 : decode cL_law 1398 = .ok (.goto 4, 3) := by decide +kernel
theorem dL_law_1401 : decode cL_law 1401 = .ok (.iconst 0, 1) := by decide +kernel
theorem dL_law_1402 : decode cL_law 1402 = .ok (.if_icmp .ne 130, 3) := by decide +kernel
theorem dL_law_1405 : decode cL_law 1405 = .ok (.iload 32, 2) := by decide +kernel
theorem dL_law_1407 : decode cL_law 1407 = .ok (.iconst 1, 1) := by decide +kernel
theorem dL_law_1408 : decode cL_law 1408 = .ok (.if_icmp .eq 9, 3) := by decide +kernel
theorem dL_law_1411 : decode cL_law 1411 = .ok (.iload 32, 2) := by decide +kernel
theorem dL_law_1413 : decode cL_law 1413 = .ok (.iconst 2, 1) := by decide +kernel
theorem dL_law_1414 : decode cL_law 1414 = .ok (.if_icmp .ne 7, 3) := by decide +kernel
theorem dL_law_1417 : decode cL_law 1417 = .ok (.iconst 1, 1) := by decide +kernel
theorem dL_law_1418 : decode cL_law 1418 = .ok (.goto 4, 3) := by decide +kernel
theorem dL_law_1421 : decode cL_law 1421 = .ok (.iconst 0, 1) := by decide +kernel
theorem dL_law_1422 : decode cL_law 1422 = .ok (.iload 33, 2) := by decide +kernel
theorem dL_law_1424 : decode cL_law 1424 = .ok (.ifCond .lt 7, 3) := by decide +kernel
theorem dL_law_1427 : decode cL_law 1427 = .ok (.iconst 1, 1) := by decide +kernel
theorem dL_law_1428 : decode cL_law 1428 = .ok (.goto 4, 3) := by decide +kernel
theorem dL_law_1431 : decode cL_law 1431 = .ok (.iconst 0, 1) := by decide +kernel
theorem dL_law_1432 : decode cL_law 1432 = .ok (.if_icmp .ne 100, 3) := by decide +kernel
theorem dL_law_1435 : decode cL_law 1435 = .ok (.iload 32, 2) := by decide +kernel
theorem dL_law_1437 : decode cL_law 1437 = .ok (.iconst 3, 1) := by decide +kernel
theorem dL_law_1438 : decode cL_law 1438 = .ok (.if_icmp .ne 37, 3) := by decide +kernel
theorem dL_law_1441 : decode cL_law 1441 = .ok (.aload 11, 2) := by decide +kernel
theorem dL_law_1443 : decode cL_law 1443 = .ok (.iload 31, 2) := by decide +kernel
theorem dL_law_1445 : decode cL_law 1445 = .ok (.aaload, 1) := by decide +kernel
theorem dL_law_1446 : decode cL_law 1446 = .ok (.iconst 1, 1) := by decide +kernel
theorem dL_law_1447 : decode cL_law 1447 = .ok (.iaload, 1) := by decide +kernel
theorem dL_law_1448 : decode cL_law 1448 = .ok (.iconst 3, 1) := by decide +kernel
theorem dL_law_1449 : decode cL_law 1449 = .ok (.if_icmp .ge 26, 3) := by decide +kernel
theorem dL_law_1452 : decode cL_law 1452 = .ok (.aload_n 3, 1) := by decide +kernel
theorem dL_law_1453 : decode cL_law 1453 = .ok (.iload 31, 2) := by decide +kernel
theorem dL_law_1455 : decode cL_law 1455 = .ok (.iconst 3, 1) := by decide +kernel
theorem dL_law_1456 : decode cL_law 1456 = .ok (.invokevirtual 227, 3) := by decide +kernel
theorem dL_law_1459 : decode cL_law 1459 = .ok (.iload 23, 2) := by decide +kernel
theorem dL_law_1461 : decode cL_law 1461 = .ok (.if_icmp .ne 71, 3) := by decide +kernel
theorem dL_law_1464 : decode cL_law 1464 = .ok (.aload 11, 2) := by decide +kernel
theorem dL_law_1466 : decode cL_law 1466 = .ok (.iload 31, 2) := by decide +kernel
theorem dL_law_1468 : decode cL_law 1468 = .ok (.aaload, 1) := by decide +kernel
theorem dL_law_1469 : decode cL_law 1469 = .ok (.iconst 1, 1) := by decide +kernel
theorem dL_law_1470 : decode cL_law 1470 = .ok (.iaload, 1) := by decide +kernel
theorem dL_law_1471 : decode cL_law 1471 = .ok (.iconst 1, 1) := by decide +kernel
theorem dL_law_1472 : decode cL_law 1472 = .ok (.if_icmp .ne 60, 3) := by decide +kernel
theorem dL_law_1475 : decode cL_law 1475 = .ok (.iload 32, 2) := by decide +kernel
theorem dL_law_1477 : decode cL_law 1477 = .ok (.iconst 2, 1) := by decide +kernel
theorem dL_law_1478 : decode cL_law 1478 = .ok (.if_icmp .ne 25, 3) := by decide +kernel
theorem dL_law_1481 : decode cL_law 1481 = .ok (.aload 11, 2) := by decide +kernel
theorem dL_law_1483 : decode cL_law 1483 = .ok (.iload 31, 2) := by decide +kernel
theorem dL_law_1485 : decode cL_law 1485 = .ok (.aaload, 1) := by decide +kernel
theorem dL_law_1486 : decode cL_law 1486 = .ok (.iconst 1, 1) := by decide +kernel
theorem dL_law_1487 : decode cL_law 1487 = .ok (.iaload, 1) := by decide +kernel
theorem dL_law_1488 : decode cL_law 1488 = .ok (.iconst 2, 1) := by decide +kernel
theorem dL_law_1489 : decode cL_law 1489 = .ok (.if_icmp .eq 14, 3) := by decide +kernel
theorem dL_law_1492 : decode cL_law 1492 = .ok (.aload 11, 2) := by decide +kernel
theorem dL_law_1494 : decode cL_law 1494 = .ok (.iload 31, 2) := by decide +kernel
theorem dL_law_1496 : decode cL_law 1496 = .ok (.aaload, 1) := by decide +kernel
theorem dL_law_1497 : decode cL_law 1497 = .ok (.iconst 1, 1) := by decide +kernel
theorem dL_law_1498 : decode cL_law 1498 = .ok (.iaload, 1) := by decide +kernel
theorem dL_law_1499 : decode cL_law 1499 = .ok (.iconst 1, 1) := by decide +kernel
theorem dL_law_1500 : decode cL_law 1500 = .ok (.if_icmp .ne 32, 3) := by decide +kernel
theorem dL_law_1503 : decode cL_law 1503 = .ok (.iload 32, 2) := by decide +kernel
theorem dL_law_1505 : decode cL_law 1505 = .ok (.iconst 1, 1) := by decide +kernel
theorem dL_law_1506 : decode cL_law 1506 = .ok (.if_icmp .ne 28, 3) := by decide +kernel
theorem dL_law_1509 : decode cL_law 1509 = .ok (.aload 11, 2) := by decide +kernel
theorem dL_law_1511 : decode cL_law 1511 = .ok (.iload 31, 2) := by decide +kernel
theorem dL_law_1513 : decode cL_law 1513 = .ok (.aaload, 1) := by decide +kernel
theorem dL_law_1514 : decode cL_law 1514 = .ok (.iconst 1, 1) := by decide +kernel
theorem dL_law_1515 : decode cL_law 1515 = .ok (.iaload, 1) := by decide +kernel
theorem dL_law_1516 : decode cL_law 1516 = .ok (.iconst 1, 1) := by decide +kernel
theorem dL_law_1517 : decode cL_law 1517 = .ok (.if_icmp .ne 17, 3) := by decide +kernel
theorem dL_law_1520 : decode cL_law 1520 = .ok (.iload 33, 2) := by decide +kernel
theorem dL_law_1522 : decode cL_law 1522 = .ok (.aload 11, 2) := by decide +kernel
theorem dL_law_1524 : decode cL_law 1524 = .ok (.iload 31, 2) := by decide +kernel
theorem dL_law_1526 : decode cL_law 1526 = .ok (.aaload, 1) := by decide +kernel
theorem dL_law_1527 : decode cL_law 1527 = .ok (.iconst 2, 1) := by decide +kernel
theorem dL_law_1528 : decode cL_law 1528 = .ok (.iaload, 1) := by decide +kernel
theorem dL_law_1529 : decode cL_law 1529 = .ok (.if_icmp .eq 5, 3) := by decide +kernel
theorem dL_law_1532 : decode cL_law 1532 = .ok (.iconst 0, 1) := by decide +kernel
theorem dL_law_1533 : decode cL_law 1533 = .ok (.ireturn, 1) := by decide +kernel
theorem dL_law_1534 : decode cL_law 1534 = .ok (.iinc 31 1, 3) := by decide +kernel
theorem dL_law_1537 : decode cL_law 1537 = .ok (.goto (-242), 3) := by decide +kernel
theorem dL_law_1540 : decode cL_law 1540 = .ok (.iload 29, 2) := by decide +kernel
theorem dL_law_1542 : decode cL_law 1542 = .ok (.iload 4, 2) := by decide +kernel
theorem dL_law_1544 : decode cL_law 1544 = .ok (.if_icmp .eq 5, 3) := by decide +kernel
theorem dL_law_1547 : decode cL_law 1547 = .ok (.iconst 0, 1) := by decide +kernel
theorem dL_law_1548 : decode cL_law 1548 = .ok (.ireturn, 1) := by decide +kernel
theorem dL_law_1549 : decode cL_law 1549 = .ok (.iconst 0, 1) := by decide +kernel
theorem dL_law_1550 : decode cL_law 1550 = .ok (.istore 31, 2) := by decide +kernel
theorem dL_law_1552 : decode cL_law 1552 = .ok (.iload 31, 2) := by decide +kernel
theorem dL_law_1554 : decode cL_law 1554 = .ok (.iload 8, 2) := by decide +kernel
theorem dL_law_1556 : decode cL_law 1556 = .ok (.if_icmp .ge 69, 3) := by decide +kernel
theorem dL_law_1559 : decode cL_law 1559 = .ok (.aload_n 3, 1) := by decide +kernel
theorem dL_law_1560 : decode cL_law 1560 = .ok (.iload 31, 2) := by decide +kernel
theorem dL_law_1562 : decode cL_law 1562 = .ok (.iconst 4, 1) := by decide +kernel
theorem dL_law_1563 : decode cL_law 1563 = .ok (.invokevirtual 224, 3) := by decide +kernel
theorem dL_law_1566 : decode cL_law 1566 = .ok (.aload 30, 2) := by decide +kernel
theorem dL_law_1568 : decode cL_law 1568 = .ok (.iload 31, 2) := by decide +kernel
theorem dL_law_1570 : decode cL_law 1570 = .ok (.iaload, 1) := by decide +kernel
theorem dL_law_1571 : decode cL_law 1571 = .ok (.if_icmp .ne 46, 3) := by decide +kernel
theorem dL_law_1574 : decode cL_law 1574 = .ok (.aload_n 3, 1) := by decide +kernel
theorem dL_law_1575 : decode cL_law 1575 = .ok (.iload 31, 2) := by decide +kernel
theorem dL_law_1577 : decode cL_law 1577 = .ok (.iconst 2, 1) := by decide +kernel
theorem dL_law_1578 : decode cL_law 1578 = .ok (.invokevirtual 224, 3) := by decide +kernel
theorem dL_law_1581 : decode cL_law 1581 = .ok (.iload 23, 2) := by decide +kernel
theorem dL_law_1583 : decode cL_law 1583 = .ok (.bipush 6, 2) := by decide +kernel
theorem dL_law_1585 : decode cL_law 1585 = .ok (.irem, 1) := by decide +kernel
theorem dL_law_1586 : decode cL_law 1586 = .ok (.ifCond .ne 23, 3) := by decide +kernel
theorem dL_law_1589 : decode cL_law 1589 = .ok (.iconst 0, 1) := by decide +kernel
theorem dL_law_1590 : decode cL_law 1590 = .ok (.bipush 9, 2) := by decide +kernel
theorem dL_law_1592 : decode cL_law 1592 = .ok (.aload 12, 2) := by decide +kernel
theorem dL_law_1594 : decode cL_law 1594 = .ok (.iload 31, 2) := by decide +kernel
theorem dL_law_1596 : decode cL_law 1596 = .ok (.iaload, 1) := by decide +kernel
theorem dL_law_1597 : decode cL_law 1597 = .ok (.iload 26, 2) := by decide +kernel
theorem dL_law_1599 : decode cL_law 1599 = .ok (.iadd, 1) := by decide +kernel
theorem dL_law_1600 : decode cL_law 1600 = .ok (.invokestatic 160, 3) := by decide +kernel
theorem dL_law_1603 : decode cL_law 1603 = .ok (.invokestatic 253, 3) := by decide +kernel
theorem dL_law_1606 : decode cL_law 1606 = .ok (.goto 8, 3) := by decide +kernel
theorem dL_law_1609 : decode cL_law 1609 = .ok (.aload 12, 2) := by decide +kernel
theorem dL_law_1611 : decode cL_law 1611 = .ok (.iload 31, 2) := by decide +kernel
theorem dL_law_1613 : decode cL_law 1613 = .ok (.iaload, 1) := by decide +kernel
theorem dL_law_1614 : decode cL_law 1614 = .ok (.if_icmp .eq 5, 3) := by decide +kernel
theorem dL_law_1617 : decode cL_law 1617 = .ok (.iconst 0, 1) := by decide +kernel
theorem dL_law_1618 : decode cL_law 1618 = .ok (.ireturn, 1) := by decide +kernel
theorem dL_law_1619 : decode cL_law 1619 = .ok (.iinc 31 1, 3) := by decide +kernel
theorem dL_law_1622 : decode cL_law 1622 = .ok (.goto (-70), 3) := by decide +kernel
theorem dL_law_1625 : decode cL_law 1625 = .ok (.iinc 5 1, 3) := by decide +kernel
theorem dL_law_1628 : decode cL_law 1628 = .ok (.goto (-1583), 3) := by decide +kernel
theorem dL_law_1631 : decode cL_law 1631 = .ok (.aload_n 2, 1) := by decide +kernel
theorem dL_law_1632 : decode cL_law 1632 = .ok (.aload_n 3, 1) := by decide +kernel
theorem dL_law_1633 : decode cL_law 1633 = .ok (.invokevirtual 256, 3) := by decide +kernel
theorem dL_law_1636 : decode cL_law 1636 = .ok (.ireturn, 1) := by decide +kernel
