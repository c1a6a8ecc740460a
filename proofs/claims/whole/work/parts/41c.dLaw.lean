/-! the law's instructions -/
theorem dLa_law_883 : decode code 883 = .ok (.bipush 32, 2) := by decide +kernel
theorem dLa_law_885 : decode code 885 = .ok (.lshl, 1) := by decide +kernel
theorem dLa_law_886 : decode code 886 = .ok (.aload_n 0, 1) := by decide +kernel
theorem dLa_law_887 : decode code 887 = .ok (.iload 4, 2) := by decide +kernel
theorem dLa_law_889 : decode code 889 = .ok (.iconst 5, 1) := by decide +kernel
theorem dLa_law_890 : decode code 890 = .ok (.iadd, 1) := by decide +kernel
theorem dLa_law_891 : decode code 891 = .ok (.iaload, 1) := by decide +kernel
theorem dLa_law_892 : decode code 892 = .ok (.i2l, 1) := by decide +kernel
theorem dLa_law_893 : decode code 893 = .ok (.ldc2_w 80, 3) := by decide +kernel
theorem dLa_law_896 : decode code 896 = .ok (.land, 1) := by decide +kernel
theorem dLa_law_897 : decode code 897 = .ok (.lor, 1) := by decide +kernel
theorem dLa_law_898 : decode code 898 = .ok (.aload_n 0, 1) := by decide +kernel
theorem dLa_law_899 : decode code 899 = .ok (.iload 4, 2) := by decide +kernel
theorem dLa_law_901 : decode code 901 = .ok (.bipush 6, 2) := by decide +kernel
theorem dLa_law_903 : decode code 903 = .ok (.iadd, 1) := by decide +kernel
theorem dLa_law_904 : decode code 904 = .ok (.iaload, 1) := by decide +kernel
theorem dLa_law_905 : decode code 905 = .ok (.i2l, 1) := by decide +kernel
theorem dLa_law_906 : decode code 906 = .ok (.bipush 32, 2) := by decide +kernel
theorem dLa_law_908 : decode code 908 = .ok (.lshl, 1) := by decide +kernel
theorem dLa_law_909 : decode code 909 = .ok (.aload_n 0, 1) := by decide +kernel
theorem dLa_law_910 : decode code 910 = .ok (.iload 4, 2) := by decide +kernel
theorem dLa_law_912 : decode code 912 = .ok (.bipush 7, 2) := by decide +kernel
theorem dLa_law_914 : decode code 914 = .ok (.iadd, 1) := by decide +kernel
theorem dLa_law_915 : decode code 915 = .ok (.iaload, 1) := by decide +kernel
theorem dLa_law_916 : decode code 916 = .ok (.i2l, 1) := by decide +kernel
theorem dLa_law_917 : decode code 917 = .ok (.ldc2_w 80, 3) := by decide +kernel
theorem dLa_law_920 : decode code 920 = .ok (.land, 1) := by decide +kernel
theorem dLa_law_921 : decode code 921 = .ok (.lor, 1) := by decide +kernel
theorem dLa_law_922 : decode code 922 = .ok (.invokestatic 121, 3) := by decide +kernel
theorem dLa_law_925 : decode code 925 = .ok (.istore 5, 2) := by decide +kernel
theorem dLa_law_927 : decode code 927 = .ok (.aload_n 2, 1) := by decide +kernel
theorem dLa_law_928 : decode code 928 = .ok (.aload_n 0, 1) := by decide +kernel
theorem dLa_law_929 : decode code 929 = .ok (.iload 4, 2) := by decide +kernel
theorem dLa_law_931 : decode code 931 = .ok (.iconst 1, 1) := by decide +kernel
theorem dLa_law_932 : decode code 932 = .ok (.iadd, 1) := by decide +kernel
theorem dLa_law_933 : decode code 933 = .ok (.iaload, 1) := by decide +kernel
theorem dLa_law_934 : decode code 934 = .ok (.aload_n 0, 1) := by decide +kernel
theorem dLa_law_935 : decode code 935 = .ok (.iload 4, 2) := by decide +kernel
theorem dLa_law_937 : decode code 937 = .ok (.iconst 2, 1) := by decide +kernel
theorem dLa_law_938 : decode code 938 = .ok (.iadd, 1) := by decide +kernel
theorem dLa_law_939 : decode code 939 = .ok (.iaload, 1) := by decide +kernel
theorem dLa_law_940 : decode code 940 = .ok (.i2l, 1) := by decide +kernel
theorem dLa_law_941 : decode code 941 = .ok (.bipush 32, 2) := by decide +kernel
theorem dLa_law_943 : decode code 943 = .ok (.lshl, 1) := by decide +kernel
theorem dLa_law_944 : decode code 944 = .ok (.aload_n 0, 1) := by decide +kernel
theorem dLa_law_945 : decode code 945 = .ok (.iload 4, 2) := by decide +kernel
theorem dLa_law_947 : decode code 947 = .ok (.iconst 3, 1) := by decide +kernel
theorem dLa_law_948 : decode code 948 = .ok (.iadd, 1) := by decide +kernel
theorem dLa_law_949 : decode code 949 = .ok (.iaload, 1) := by decide +kernel
theorem dLa_law_950 : decode code 950 = .ok (.i2l, 1) := by decide +kernel
theorem dLa_law_951 : decode code 951 = .ok (.ldc2_w 80, 3) := by decide +kernel
theorem dLa_law_954 : decode code 954 = .ok (.land, 1) := by decide +kernel
theorem dLa_law_955 : decode code 955 = .ok (.lor, 1) := by decide +kernel
theorem dLa_law_956 : decode code 956 = .ok (.aload_n 0, 1) := by decide +kernel
theorem dLa_law_957 : decode code 957 = .ok (.iload 4, 2) := by decide +kernel
theorem dLa_law_959 : decode code 959 = .ok (.iconst 4, 1) := by decide +kernel
theorem dLa_law_960 : decode code 960 = .ok (.iadd, 1) := by decide +kernel
theorem dLa_law_961 : decode code 961 = .ok (.iaload, 1) := by decide +kernel
theorem dLa_law_962 : decode code 962 = .ok (.i2l, 1) := by decide +kernel
theorem dLa_law_963 : decode code 963 = .ok (.bipush 32, 2) := by decide +kernel
theorem dLa_law_965 : decode code 965 = .ok (.lshl, 1) := by decide +kernel
theorem dLa_law_966 : decode code 966 = .ok (.aload_n 0, 1) := by decide +kernel
theorem dLa_law_967 : decode code 967 = .ok (.iload 4, 2) := by decide +kernel
theorem dLa_law_969 : decode code 969 = .ok (.iconst 5, 1) := by decide +kernel
theorem dLa_law_970 : decode code 970 = .ok (.iadd, 1) := by decide +kernel
theorem dLa_law_971 : decode code 971 = .ok (.iaload, 1) := by decide +kernel
theorem dLa_law_972 : decode code 972 = .ok (.i2l, 1) := by decide +kernel
theorem dLa_law_973 : decode code 973 = .ok (.ldc2_w 80, 3) := by decide +kernel
theorem dLa_law_976 : decode code 976 = .ok (.land, 1) := by decide +kernel
theorem dLa_law_977 : decode code 977 = .ok (.lor, 1) := by decide +kernel
theorem dLa_law_978 : decode code 978 = .ok (.aload_n 0, 1) := by decide +kernel
theorem dLa_law_979 : decode code 979 = .ok (.iload 4, 2) := by decide +kernel
theorem dLa_law_981 : decode code 981 = .ok (.bipush 6, 2) := by decide +kernel
theorem dLa_law_983 : decode code 983 = .ok (.iadd, 1) := by decide +kernel
theorem dLa_law_984 : decode code 984 = .ok (.iaload, 1) := by decide +kernel
theorem dLa_law_985 : decode code 985 = .ok (.i2l, 1) := by decide +kernel
theorem dLa_law_986 : decode code 986 = .ok (.bipush 32, 2) := by decide +kernel
theorem dLa_law_988 : decode code 988 = .ok (.lshl, 1) := by decide +kernel
theorem dLa_law_989 : decode code 989 = .ok (.aload_n 0, 1) := by decide +kernel
theorem dLa_law_990 : decode code 990 = .ok (.iload 4, 2) := by decide +kernel
theorem dLa_law_992 : decode code 992 = .ok (.bipush 7, 2) := by decide +kernel
theorem dLa_law_994 : decode code 994 = .ok (.iadd, 1) := by decide +kernel
theorem dLa_law_995 : decode code 995 = .ok (.iaload, 1) := by decide +kernel
theorem dLa_law_996 : decode code 996 = .ok (.i2l, 1) := by decide +kernel
theorem dLa_law_997 : decode code 997 = .ok (.ldc2_w 80, 3) := by decide +kernel
theorem dLa_law_1000 : decode code 1000 = .ok (.land, 1) := by decide +kernel
theorem dLa_law_1001 : decode code 1001 = .ok (.lor, 1) := by decide +kernel
theorem dLa_law_1002 : decode code 1002 = .ok (.invokevirtual 124, 3) := by decide +kernel
theorem dLa_law_1005 : decode code 1005 = .ok (.aload_n 2, 1) := by decide +kernel
theorem dLa_law_1006 : decode code 1006 = .ok (.invokevirtual 88, 3) := by decide +kernel
theorem dLa_law_1009 : decode code 1009 = .ok (.iload 5, 2) := by decide +kernel
theorem dLa_law_1011 : decode code 1011 = .ok (.if_icmp .eq 5, 3) := by decide +kernel
theorem dLa_law_1014 : decode code 1014 = .ok (.iconst 0, 1) := by decide +kernel
theorem dLa_law_1015 : decode code 1015 = .ok (.ireturn, 1) := by decide +kernel
theorem dLa_law_1016 : decode code 1016 = .ok (.goto 625, 3) := by decide +kernel
theorem dLa_law_1019 : decode code 1019 = .ok (.aload_n 1, 1) := by decide +kernel
theorem dLa_law_1020 : decode code 1020 = .ok (.aload_n 0, 1) := by decide +kernel
theorem dLa_law_1021 : decode code 1021 = .ok (.iload 4, 2) := by decide +kernel
theorem dLa_law_1023 : decode code 1023 = .ok (.iconst 1, 1) := by decide +kernel
theorem dLa_law_1024 : decode code 1024 = .ok (.iadd, 1) := by decide +kernel
theorem dLa_law_1025 : decode code 1025 = .ok (.iaload, 1) := by decide +kernel
theorem dLa_law_1026 : decode code 1026 = .ok (.aload_n 0, 1) := by decide +kernel
theorem dLa_law_1027 : decode code 1027 = .ok (.iload 4, 2) := by decide +kernel
theorem dLa_law_1029 : decode code 1029 = .ok (.iconst 2, 1) := by decide +kernel
theorem dLa_law_1030 : decode code 1030 = .ok (.iadd, 1) := by decide +kernel
theorem dLa_law_1031 : decode code 1031 = .ok (.iaload, 1) := by decide +kernel
theorem dLa_law_1032 : decode code 1032 = .ok (.aload_n 0, 1) := by decide +kernel
theorem dLa_law_1033 : decode code 1033 = .ok (.iload 4, 2) := by decide +kernel
theorem dLa_law_1035 : decode code 1035 = .ok (.iconst 3, 1) := by decide +kernel
theorem dLa_law_1036 : decode code 1036 = .ok (.iadd, 1) := by decide +kernel
theorem dLa_law_1037 : decode code 1037 = .ok (.iaload, 1) := by decide +kernel
theorem dLa_law_1038 : decode code 1038 = .ok (.i2l, 1) := by decide +kernel
theorem dLa_law_1039 : decode code 1039 = .ok (.bipush 32, 2) := by decide +kernel
theorem dLa_law_1041 : decode code 1041 = .ok (.lshl, 1) := by decide +kernel
theorem dLa_law_1042 : decode code 1042 = .ok (.aload_n 0, 1) := by decide +kernel
theorem dLa_law_1043 : decode code 1043 = .ok (.iload 4, 2) := by decide +kernel
theorem dLa_law_1045 : decode code 1045 = .ok (.iconst 4, 1) := by decide +kernel
theorem dLa_law_1046 : decode code 1046 = .ok (.iadd, 1) := by decide +kernel
theorem dLa_law_1047 : decode code 1047 = .ok (.iaload, 1) := by decide +kernel
theorem dLa_law_1048 : decode code 1048 = .ok (.i2l, 1) := by decide +kernel
theorem dLa_law_1049 : decode code 1049 = .ok (.ldc2_w 80, 3) := by decide +kernel
theorem dLa_law_1052 : decode code 1052 = .ok (.land, 1) := by decide +kernel
theorem dLa_law_1053 : decode code 1053 = .ok (.lor, 1) := by decide +kernel
theorem dLa_law_1054 : decode code 1054 = .ok (.aload_n 0, 1) := by decide +kernel
theorem dLa_law_1055 : decode code 1055 = .ok (.iload 4, 2) := by decide +kernel
theorem dLa_law_1057 : decode code 1057 = .ok (.iconst 5, 1) := by decide +kernel
theorem dLa_law_1058 : decode code 1058 = .ok (.iadd, 1) := by decide +kernel
theorem dLa_law_1059 : decode code 1059 = .ok (.iaload, 1) := by decide +kernel
theorem dLa_law_1060 : decode code 1060 = .ok (.i2l, 1) := by decide +kernel
theorem dLa_law_1061 : decode code 1061 = .ok (.bipush 32, 2) := by decide +kernel
theorem dLa_law_1063 : decode code 1063 = .ok (.lshl, 1) := by decide +kernel
theorem dLa_law_1064 : decode code 1064 = .ok (.aload_n 0, 1) := by decide +kernel
theorem dLa_law_1065 : decode code 1065 = .ok (.iload 4, 2) := by decide +kernel
theorem dLa_law_1067 : decode code 1067 = .ok (.bipush 6, 2) := by decide +kernel
theorem dLa_law_1069 : decode code 1069 = .ok (.iadd, 1) := by decide +kernel
theorem dLa_law_1070 : decode code 1070 = .ok (.iaload, 1) := by decide +kernel
theorem dLa_law_1071 : decode code 1071 = .ok (.i2l, 1) := by decide +kernel
theorem dLa_law_1072 : decode code 1072 = .ok (.ldc2_w 80, 3) := by decide +kernel
theorem dLa_law_1075 : decode code 1075 = .ok (.land, 1) := by decide +kernel
theorem dLa_law_1076 : decode code 1076 = .ok (.lor, 1) := by decide +kernel
theorem dLa_law_1077 : decode code 1077 = .ok (.aload_n 0, 1) := by decide +kernel
theorem dLa_law_1078 : decode code 1078 = .ok (.iload 4, 2) := by decide +kernel
theorem dLa_law_1080 : decode code 1080 = .ok (.bipush 7, 2) := by decide +kernel
theorem dLa_law_1082 : decode code 1082 = .ok (.iadd, 1) := by decide +kernel
theorem dLa_law_1083 : decode code 1083 = .ok (.iaload, 1) := by decide +kernel
theorem dLa_law_1084 : decode code 1084 = .ok (.i2l, 1) := by decide +kernel
theorem dLa_law_1085 : decode code 1085 = .ok (.bipush 32, 2) := by decide +kernel
theorem dLa_law_1087 : decode code 1087 = .ok (.lshl, 1) := by decide +kernel
theorem dLa_law_1088 : decode code 1088 = .ok (.aload_n 0, 1) := by decide +kernel
theorem dLa_law_1089 : decode code 1089 = .ok (.iload 4, 2) := by decide +kernel
theorem dLa_law_1091 : decode code 1091 = .ok (.bipush 8, 2) := by decide +kernel
theorem dLa_law_1093 : decode code 1093 = .ok (.iadd, 1) := by decide +kernel
theorem dLa_law_1094 : decode code 1094 = .ok (.iaload, 1) := by decide +kernel
theorem dLa_law_1095 : decode code 1095 = .ok (.i2l, 1) := by decide +kernel
theorem dLa_law_1096 : decode code 1096 = .ok (.ldc2_w 80, 3) := by decide +kernel
theorem dLa_law_1099 : decode code 1099 = .ok (.land, 1) := by decide +kernel
theorem dLa_law_1100 : decode code 1100 = .ok (.lor, 1) := by decide +kernel
theorem dLa_law_1101 : decode code 1101 = .ok (.invokestatic 125, 3) := by decide +kernel
theorem dLa_law_1104 : decode code 1104 = .ok (.istore 5, 2) := by decide +kernel
theorem dLa_law_1106 : decode code 1106 = .ok (.aload_n 2, 1) := by decide +kernel
theorem dLa_law_1107 : decode code 1107 = .ok (.aload_n 0, 1) := by decide +kernel
theorem dLa_law_1108 : decode code 1108 = .ok (.iload 4, 2) := by decide +kernel
theorem dLa_law_1110 : decode code 1110 = .ok (.iconst 1, 1) := by decide +kernel
theorem dLa_law_1111 : decode code 1111 = .ok (.iadd, 1) := by decide +kernel
theorem dLa_law_1112 : decode code 1112 = .ok (.iaload, 1) := by decide +kernel
theorem dLa_law_1113 : decode code 1113 = .ok (.aload_n 0, 1) := by decide +kernel
theorem dLa_law_1114 : decode code 1114 = .ok (.iload 4, 2) := by decide +kernel
theorem dLa_law_1116 : decode code 1116 = .ok (.iconst 2, 1) := by decide +kernel
theorem dLa_law_1117 : decode code 1117 = .ok (.iadd, 1) := by decide +kernel
theorem dLa_law_1118 : decode code 1118 = .ok (.iaload, 1) := by decide +kernel
theorem dLa_law_1119 : decode code 1119 = .ok (.aload_n 0, 1) := by decide +kernel
theorem dLa_law_1120 : decode code 1120 = .ok (.iload 4, 2) := by decide +kernel
theorem dLa_law_1122 : decode code 1122 = .ok (.iconst 3, 1) := by decide +kernel
theorem dLa_law_1123 : decode code 1123 = .ok (.iadd, 1) := by decide +kernel
theorem dLa_law_1124 : decode code 1124 = .ok (.iaload, 1) := by decide +kernel
theorem dLa_law_1125 : decode code 1125 = .ok (.i2l, 1) := by decide +kernel
theorem dLa_law_1126 : decode code 1126 = .ok (.bipush 32, 2) := by decide +kernel
theorem dLa_law_1128 : decode code 1128 = .ok (.lshl, 1) := by decide +kernel
theorem dLa_law_1129 : decode code 1129 = .ok (.aload_n 0, 1) := by decide +kernel
theorem dLa_law_1130 : decode code 1130 = .ok (.iload 4, 2) := by decide +kernel
theorem dLa_law_1132 : decode code 1132 = .ok (.iconst 4, 1) := by decide +kernel
theorem dLa_law_1133 : decode code 1133 = .ok (.iadd, 1) := by decide +kernel
theorem dLa_law_1134 : decode code 1134 = .ok (.iaload, 1) := by decide +kernel
theorem dLa_law_1135 : decode code 1135 = .ok (.i2l, 1) := by decide +kernel
theorem dLa_law_1136 : decode code 1136 = .ok (.ldc2_w 80, 3) := by decide +kernel
theorem dLa_law_1139 : decode code 1139 = .ok (.land, 1) := by decide +kernel
theorem dLa_law_1140 : decode code 1140 = .ok (.lor, 1) := by decide +kernel
theorem dLa_law_1141 : decode code 1141 = .ok (.aload_n 0, 1) := by decide +kernel
theorem dLa_law_1142 : decode code 1142 = .ok (.iload 4, 2) := by decide +kernel
theorem dLa_law_1144 : decode code 1144 = .ok (.iconst 5, 1) := by decide +kernel
theorem dLa_law_1145 : decode code 1145 = .ok (.iadd, 1) := by decide +kernel
theorem dLa_law_1146 : decode code 1146 = .ok (.iaload, 1) := by decide +kernel
theorem dLa_law_1147 : decode code 1147 = .ok (.i2l, 1) := by decide +kernel
theorem dLa_law_1148 : decode code 1148 = .ok (.bipush 32, 2) := by decide +kernel
theorem dLa_law_1150 : decode code 1150 = .ok (.lshl, 1) := by decide +kernel
theorem dLa_law_1151 : decode code 1151 = .ok (.aload_n 0, 1) := by decide +kernel
theorem dLa_law_1152 : decode code 1152 = .ok (.iload 4, 2) := by decide +kernel
theorem dLa_law_1154 : decode code 1154 = .ok (.bipush 6, 2) := by decide +kernel
theorem dLa_law_1156 : decode code 1156 = .ok (.iadd, 1) := by decide +kernel
theorem dLa_law_1157 : decode code 1157 = .ok (.iaload, 1) := by decide +kernel
theorem dLa_law_1158 : decode code 1158 = .ok (.i2l, 1) := by decide +kernel
theorem dLa_law_1159 : decode code 1159 = .ok (.ldc2_w 80, 3) := by decide +kernel
theorem dLa_law_1162 : decode code 1162 = .ok (.land, 1) := by decide +kernel
theorem dLa_law_1163 : decode code 1163 = .ok (.lor, 1) := by decide +kernel
theorem dLa_law_1164 : decode code 1164 = .ok (.aload_n 0, 1) := by decide +kernel
theorem dLa_law_1165 : decode code 1165 = .ok (.iload 4, 2) := by decide +kernel
theorem dLa_law_1167 : decode code 1167 = .ok (.bipush 7, 2) := by decide +kernel
theorem dLa_law_1169 : decode code 1169 = .ok (.iadd, 1) := by decide +kernel
theorem dLa_law_1170 : decode code 1170 = .ok (.iaload, 1) := by decide +kernel
theorem dLa_law_1171 : decode code 1171 = .ok (.i2l, 1) := by decide +kernel
theorem dLa_law_1172 : decode code 1172 = .ok (.bipush 32, 2) := by decide +kernel
theorem dLa_law_1174 : decode code 1174 = .ok (.lshl, 1) := by decide +kernel
theorem dLa_law_1175 : decode code 1175 = .ok (.aload_n 0, 1) := by decide +kernel
theorem dLa_law_1176 : decode code 1176 = .ok (.iload 4, 2) := by decide +kernel
theorem dLa_law_1178 : decode code 1178 = .ok (.bipush 8, 2) := by decide +kernel
theorem dLa_law_1180 : decode code 1180 = .ok (.iadd, 1) := by decide +kernel
theorem dLa_law_1181 : decode code 1181 = .ok (.iaload, 1) := by decide +kernel
theorem dLa_law_1182 : decode code 1182 = .ok (.i2l, 1) := by decide +kernel
theorem dLa_law_1183 : decode code 1183 = .ok (.ldc2_w 80, 3) := by decide +kernel
theorem dLa_law_1186 : decode code 1186 = .ok (.land, 1) := by decide +kernel
theorem dLa_law_1187 : decode code 1187 = .ok (.lor, 1) := by decide +kernel
theorem dLa_law_1188 : decode code 1188 = .ok (.invokevirtual 128, 3) := by decide +kernel
theorem dLa_law_1191 : decode code 1191 = .ok (.aload_n 2, 1) := by decide +kernel
theorem dLa_law_1192 : decode code 1192 = .ok (.invokevirtual 88, 3) := by decide +kernel
theorem dLa_law_1195 : decode code 1195 = .ok (.iload 5, 2) := by decide +kernel
theorem dLa_law_1197 : decode code 1197 = .ok (.if_icmp .eq 5, 3) := by decide +kernel
theorem dLa_law_1200 : decode code 1200 = .ok (.iconst 0, 1) := by decide +kernel
theorem dLa_law_1201 : decode code 1201 = .ok (.ireturn, 1) := by decide +kernel
theorem dLa_law_1202 : decode code 1202 = .ok (.goto 439, 3) := by decide +kernel
theorem dLa_law_1205 : decode code 1205 = .ok (.aload_n 1, 1) := by decide +kernel
theorem dLa_law_1206 : decode code 1206 = .ok (.aload_n 0, 1) := by decide +kernel
theorem dLa_law_1207 : decode code 1207 = .ok (.iload 4, 2) := by decide +kernel
theorem dLa_law_1209 : decode code 1209 = .ok (.iconst 1, 1) := by decide +kernel
theorem dLa_law_1210 : decode code 1210 = .ok (.iadd, 1) := by decide +kernel
theorem dLa_law_1211 : decode code 1211 = .ok (.iaload, 1) := by decide +kernel
theorem dLa_law_1212 : decode code 1212 = .ok (.ifCond .eq 7, 3) := by decide +kernel
theorem dLa_law_1215 : decode code 1215 = .ok (.iconst 1, 1) := by decide +kernel
theorem dLa_law_1216 : decode code 1216 = .ok (.goto 4, 3) := by decide +kernel
theorem dLa_law_1219 : decode code 1219 = .ok (.iconst 0, 1) := by decide +kernel
theorem dLa_law_1220 : decode code 1220 = .ok (.invokevirtual 129, 3) := by decide +kernel
theorem dLa_law_1223 : decode code 1223 = .ok (.aload_n 2, 1) := by decide +kernel
theorem dLa_law_1224 : decode code 1224 = .ok (.aload_n 0, 1) := by decide +kernel
theorem dLa_law_1225 : decode code 1225 = .ok (.iload 4, 2) := by decide +kernel
theorem dLa_law_1227 : decode code 1227 = .ok (.iconst 1, 1) := by decide +kernel
theorem dLa_law_1228 : decode code 1228 = .ok (.iadd, 1) := by decide +kernel
theorem dLa_law_1229 : decode code 1229 = .ok (.iaload, 1) := by decide +kernel
theorem dLa_law_1230 : decode code 1230 = .ok (.ifCond .eq 7, 3) := by decide +kernel
theorem dLa_law_1233 : decode code 1233 = .ok (.iconst 1, 1) := by decide +kernel
theorem dLa_law_1234 : decode code 1234 = .ok (.goto 4, 3) := by decide +kernel
theorem dLa_law_1237 : decode code 1237 = .ok (.iconst 0, 1) := by decide +kernel
theorem dLa_law_1238 : decode code 1238 = .ok (.invokevirtual 133, 3) := by decide +kernel
theorem dLa_law_1241 : decode code 1241 = .ok (.lcmp, 1) := by decide +kernel
theorem dLa_law_1242 : decode code 1242 = .ok (.ifCond .eq 399, 3) := by decide +kernel
theorem dLa_law_1245 : decode code 1245 = .ok (.iconst 0, 1) := by decide +kernel
theorem dLa_law_1246 : decode code 1246 = .ok (.ireturn, 1) := by decide +kernel
theorem dLa_law_1247 : decode code 1247 = .ok (.aload_n 1, 1) := by decide +kernel
theorem dLa_law_1248 : decode code 1248 = .ok (.aload_n 0, 1) := by decide +kernel
theorem dLa_law_1249 : decode code 1249 = .ok (.iload 4, 2) := by decide +kernel
theorem dLa_law_1251 : decode code 1251 = .ok (.iconst 1, 1) := by decide +kernel
theorem dLa_law_1252 : decode code 1252 = .ok (.iadd, 1) := by decide +kernel
theorem dLa_law_1253 : decode code 1253 = .ok (.iaload, 1) := by decide +kernel
theorem dLa_law_1254 : decode code 1254 = .ok (.aload_n 0, 1) := by decide +kernel
theorem dLa_law_1255 : decode code 1255 = .ok (.iload 4, 2) := by decide +kernel
theorem dLa_law_1257 : decode code 1257 = .ok (.iconst 2, 1) := by decide +kernel
theorem dLa_law_1258 : decode code 1258 = .ok (.iadd, 1) := by decide +kernel
theorem dLa_law_1259 : decode code 1259 = .ok (.iaload, 1) := by decide +kernel
theorem dLa_law_1260 : decode code 1260 = .ok (.aload_n 0, 1) := by decide +kernel
theorem dLa_law_1261 : decode code 1261 = .ok (.iload 4, 2) := by decide +kernel
theorem dLa_law_1263 : decode code 1263 = .ok (.iconst 3, 1) := by decide +kernel
theorem dLa_law_1264 : decode code 1264 = .ok (.iadd, 1) := by decide +kernel
