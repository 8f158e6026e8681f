theorem d_law_902 : decode code 902 = .ok (.iconst 0, 1) := by decide +kernel
theorem d_law_903 : decode code 903 = .ok (.ireturn, 1) := by decide +kernel
theorem d_law_904 : decode code 904 = .ok (.iload 5, 2) := by decide +kernel
theorem d_law_906 : decode code 906 = .ok (.ifCond .ne 15, 3) := by decide +kernel
theorem d_law_909 : decode code 909 = .ok (.aload_n 3, 1) := by decide +kernel
theorem d_law_910 : decode code 910 = .ok (.iconst 0, 1) := by decide +kernel
theorem d_law_911 : decode code 911 = .ok (.laload, 1) := by decide +kernel
theorem d_law_912 : decode code 912 = .ok (.iload 6, 2) := by decide +kernel
theorem d_law_914 : decode code 914 = .ok (.i2l, 1) := by decide +kernel
theorem d_law_915 : decode code 915 = .ok (.lcmp, 1) := by decide +kernel
theorem d_law_916 : decode code 916 = .ok (.ifCond .eq 5, 3) := by decide +kernel
theorem d_law_919 : decode code 919 = .ok (.iconst 0, 1) := by decide +kernel
theorem d_law_920 : decode code 920 = .ok (.ireturn, 1) := by decide +kernel
theorem d_law_921 : decode code 921 = .ok (.goto 755, 3) := by decide +kernel
theorem d_law_924 : decode code 924 = .ok (.aload_n 1, 1) := by decide +kernel
theorem d_law_925 : decode code 925 = .ok (.aload_n 0, 1) := by decide +kernel
theorem d_law_926 : decode code 926 = .ok (.iload 4, 2) := by decide +kernel
theorem d_law_928 : decode code 928 = .ok (.iconst 1, 1) := by decide +kernel
theorem d_law_929 : decode code 929 = .ok (.iadd, 1) := by decide +kernel
theorem d_law_930 : decode code 930 = .ok (.iaload, 1) := by decide +kernel
theorem d_law_931 : decode code 931 = .ok (.aload_n 0, 1) := by decide +kernel
theorem d_law_932 : decode code 932 = .ok (.iload 4, 2) := by decide +kernel
theorem d_law_934 : decode code 934 = .ok (.iconst 2, 1) := by decide +kernel
theorem d_law_935 : decode code 935 = .ok (.iadd, 1) := by decide +kernel
theorem d_law_936 : decode code 936 = .ok (.iaload, 1) := by decide +kernel
theorem d_law_937 : decode code 937 = .ok (.aload_n 3, 1) := by decide +kernel
theorem d_law_938 : decode code 938 = .ok (.invokestatic 127, 3) := by decide +kernel
theorem d_law_941 : decode code 941 = .ok (.istore 5, 2) := by decide +kernel
theorem d_law_943 : decode code 943 = .ok (.aload_n 2, 1) := by decide +kernel
theorem d_law_944 : decode code 944 = .ok (.aload_n 0, 1) := by decide +kernel
theorem d_law_945 : decode code 945 = .ok (.iload 4, 2) := by decide +kernel
theorem d_law_947 : decode code 947 = .ok (.iconst 1, 1) := by decide +kernel
theorem d_law_948 : decode code 948 = .ok (.iadd, 1) := by decide +kernel
theorem d_law_949 : decode code 949 = .ok (.iaload, 1) := by decide +kernel
theorem d_law_950 : decode code 950 = .ok (.aload_n 0, 1) := by decide +kernel
theorem d_law_951 : decode code 951 = .ok (.iload 4, 2) := by decide +kernel
theorem d_law_953 : decode code 953 = .ok (.iconst 2, 1) := by decide +kernel
theorem d_law_954 : decode code 954 = .ok (.iadd, 1) := by decide +kernel
theorem d_law_955 : decode code 955 = .ok (.iaload, 1) := by decide +kernel
theorem d_law_956 : decode code 956 = .ok (.invokevirtual 129, 3) := by decide +kernel
theorem d_law_959 : decode code 959 = .ok (.istore 6, 2) := by decide +kernel
theorem d_law_961 : decode code 961 = .ok (.aload_n 2, 1) := by decide +kernel
theorem d_law_962 : decode code 962 = .ok (.invokevirtual 96, 3) := by decide +kernel
theorem d_law_965 : decode code 965 = .ok (.iload 5, 2) := by decide +kernel
theorem d_law_967 : decode code 967 = .ok (.if_icmp .eq 5, 3) := by decide +kernel
theorem d_law_970 : decode code 970 = .ok (.iconst 0, 1) := by decide +kernel
theorem d_law_971 : decode code 971 = .ok (.ireturn, 1) := by decide +kernel
theorem d_law_972 : decode code 972 = .ok (.iload 5, 2) := by decide +kernel
theorem d_law_974 : decode code 974 = .ok (.ifCond .ne 15, 3) := by decide +kernel
theorem d_law_977 : decode code 977 = .ok (.aload_n 3, 1) := by decide +kernel
theorem d_law_978 : decode code 978 = .ok (.iconst 0, 1) := by decide +kernel
theorem d_law_979 : decode code 979 = .ok (.laload, 1) := by decide +kernel
theorem d_law_980 : decode code 980 = .ok (.iload 6, 2) := by decide +kernel
theorem d_law_982 : decode code 982 = .ok (.i2l, 1) := by decide +kernel
theorem d_law_983 : decode code 983 = .ok (.lcmp, 1) := by decide +kernel
theorem d_law_984 : decode code 984 = .ok (.ifCond .eq 5, 3) := by decide +kernel
theorem d_law_987 : decode code 987 = .ok (.iconst 0, 1) := by decide +kernel
theorem d_law_988 : decode code 988 = .ok (.ireturn, 1) := by decide +kernel
theorem d_law_989 : decode code 989 = .ok (.goto 687, 3) := by decide +kernel
theorem d_law_992 : decode code 992 = .ok (.aload_n 1, 1) := by decide +kernel
theorem d_law_993 : decode code 993 = .ok (.aload_n 0, 1) := by decide +kernel
theorem d_law_994 : decode code 994 = .ok (.iload 4, 2) := by decide +kernel
theorem d_law_996 : decode code 996 = .ok (.iconst 1, 1) := by decide +kernel
theorem d_law_997 : decode code 997 = .ok (.iadd, 1) := by decide +kernel
theorem d_law_998 : decode code 998 = .ok (.iaload, 1) := by decide +kernel
theorem d_law_999 : decode code 999 = .ok (.aload_n 0, 1) := by decide +kernel
theorem d_law_1000 : decode code 1000 = .ok (.iload 4, 2) := by decide +kernel
theorem d_law_1002 : decode code 1002 = .ok (.iconst 2, 1) := by decide +kernel
theorem d_law_1003 : decode code 1003 = .ok (.iadd, 1) := by decide +kernel
theorem d_law_1004 : decode code 1004 = .ok (.iaload, 1) := by decide +kernel
theorem d_law_1005 : decode code 1005 = .ok (.aload_n 0, 1) := by decide +kernel
theorem d_law_1006 : decode code 1006 = .ok (.iload 4, 2) := by decide +kernel
theorem d_law_1008 : decode code 1008 = .ok (.iconst 3, 1) := by decide +kernel
theorem d_law_1009 : decode code 1009 = .ok (.iadd, 1) := by decide +kernel
theorem d_law_1010 : decode code 1010 = .ok (.iaload, 1) := by decide +kernel
theorem d_law_1011 : decode code 1011 = .ok (.aload_n 3, 1) := by decide +kernel
theorem d_law_1012 : decode code 1012 = .ok (.invokestatic 130, 3) := by decide +kernel
theorem d_law_1015 : decode code 1015 = .ok (.istore 5, 2) := by decide +kernel
theorem d_law_1017 : decode code 1017 = .ok (.aload_n 2, 1) := by decide +kernel
theorem d_law_1018 : decode code 1018 = .ok (.aload_n 0, 1) := by decide +kernel
theorem d_law_1019 : decode code 1019 = .ok (.iload 4, 2) := by decide +kernel
theorem d_law_1021 : decode code 1021 = .ok (.iconst 1, 1) := by decide +kernel
theorem d_law_1022 : decode code 1022 = .ok (.iadd, 1) := by decide +kernel
theorem d_law_1023 : decode code 1023 = .ok (.iaload, 1) := by decide +kernel
theorem d_law_1024 : decode code 1024 = .ok (.aload_n 0, 1) := by decide +kernel
theorem d_law_1025 : decode code 1025 = .ok (.iload 4, 2) := by decide +kernel
theorem d_law_1027 : decode code 1027 = .ok (.iconst 2, 1) := by decide +kernel
theorem d_law_1028 : decode code 1028 = .ok (.iadd, 1) := by decide +kernel
theorem d_law_1029 : decode code 1029 = .ok (.iaload, 1) := by decide +kernel
theorem d_law_1030 : decode code 1030 = .ok (.aload_n 0, 1) := by decide +kernel
theorem d_law_1031 : decode code 1031 = .ok (.iload 4, 2) := by decide +kernel
theorem d_law_1033 : decode code 1033 = .ok (.iconst 3, 1) := by decide +kernel
theorem d_law_1034 : decode code 1034 = .ok (.iadd, 1) := by decide +kernel
theorem d_law_1035 : decode code 1035 = .ok (.iaload, 1) := by decide +kernel
theorem d_law_1036 : decode code 1036 = .ok (.invokevirtual 132, 3) := by decide +kernel
theorem d_law_1039 : decode code 1039 = .ok (.istore 6, 2) := by decide +kernel
theorem d_law_1041 : decode code 1041 = .ok (.aload_n 2, 1) := by decide +kernel
theorem d_law_1042 : decode code 1042 = .ok (.invokevirtual 96, 3) := by decide +kernel
theorem d_law_1045 : decode code 1045 = .ok (.iload 5, 2) := by decide +kernel
theorem d_law_1047 : decode code 1047 = .ok (.if_icmp .eq 5, 3) := by decide +kernel
theorem d_law_1050 : decode code 1050 = .ok (.iconst 0, 1) := by decide +kernel
theorem d_law_1051 : decode code 1051 = .ok (.ireturn, 1) := by decide +kernel
theorem d_law_1052 : decode code 1052 = .ok (.iload 5, 2) := by decide +kernel
theorem d_law_1054 : decode code 1054 = .ok (.ifCond .ne 15, 3) := by decide +kernel
theorem d_law_1057 : decode code 1057 = .ok (.aload_n 3, 1) := by decide +kernel
theorem d_law_1058 : decode code 1058 = .ok (.iconst 0, 1) := by decide +kernel
theorem d_law_1059 : decode code 1059 = .ok (.laload, 1) := by decide +kernel
theorem d_law_1060 : decode code 1060 = .ok (.iload 6, 2) := by decide +kernel
theorem d_law_1062 : decode code 1062 = .ok (.i2l, 1) := by decide +kernel
theorem d_law_1063 : decode code 1063 = .ok (.lcmp, 1) := by decide +kernel
theorem d_law_1064 : decode code 1064 = .ok (.ifCond .eq 5, 3) := by decide +kernel
theorem d_law_1067 : decode code 1067 = .ok (.iconst 0, 1) := by decide +kernel
theorem d_law_1068 : decode code 1068 = .ok (.ireturn, 1) := by decide +kernel
theorem d_law_1069 : decode code 1069 = .ok (.goto 607, 3) := by decide +kernel
theorem d_law_1072 : decode code 1072 = .ok (.aload_n 1, 1) := by decide +kernel
theorem d_law_1073 : decode code 1073 = .ok (.aload_n 0, 1) := by decide +kernel
theorem d_law_1074 : decode code 1074 = .ok (.iload 4, 2) := by decide +kernel
theorem d_law_1076 : decode code 1076 = .ok (.iconst 1, 1) := by decide +kernel
theorem d_law_1077 : decode code 1077 = .ok (.iadd, 1) := by decide +kernel
theorem d_law_1078 : decode code 1078 = .ok (.iaload, 1) := by decide +kernel
theorem d_law_1079 : decode code 1079 = .ok (.aload_n 0, 1) := by decide +kernel
theorem d_law_1080 : decode code 1080 = .ok (.iload 4, 2) := by decide +kernel
theorem d_law_1082 : decode code 1082 = .ok (.iconst 2, 1) := by decide +kernel
theorem d_law_1083 : decode code 1083 = .ok (.iadd, 1) := by decide +kernel
theorem d_law_1084 : decode code 1084 = .ok (.iaload, 1) := by decide +kernel
theorem d_law_1085 : decode code 1085 = .ok (.aload_n 0, 1) := by decide +kernel
theorem d_law_1086 : decode code 1086 = .ok (.iload 4, 2) := by decide +kernel
theorem d_law_1088 : decode code 1088 = .ok (.iconst 3, 1) := by decide +kernel
theorem d_law_1089 : decode code 1089 = .ok (.iadd, 1) := by decide +kernel
theorem d_law_1090 : decode code 1090 = .ok (.iaload, 1) := by decide +kernel
theorem d_law_1091 : decode code 1091 = .ok (.aload_n 3, 1) := by decide +kernel
theorem d_law_1092 : decode code 1092 = .ok (.invokestatic 133, 3) := by decide +kernel
theorem d_law_1095 : decode code 1095 = .ok (.istore 5, 2) := by decide +kernel
theorem d_law_1097 : decode code 1097 = .ok (.aload_n 2, 1) := by decide +kernel
theorem d_law_1098 : decode code 1098 = .ok (.aload_n 0, 1) := by decide +kernel
theorem d_law_1099 : decode code 1099 = .ok (.iload 4, 2) := by decide +kernel
theorem d_law_1101 : decode code 1101 = .ok (.iconst 1, 1) := by decide +kernel
theorem d_law_1102 : decode code 1102 = .ok (.iadd, 1) := by decide +kernel
theorem d_law_1103 : decode code 1103 = .ok (.iaload, 1) := by decide +kernel
theorem d_law_1104 : decode code 1104 = .ok (.aload_n 0, 1) := by decide +kernel
theorem d_law_1105 : decode code 1105 = .ok (.iload 4, 2) := by decide +kernel
theorem d_law_1107 : decode code 1107 = .ok (.iconst 2, 1) := by decide +kernel
theorem d_law_1108 : decode code 1108 = .ok (.iadd, 1) := by decide +kernel
theorem d_law_1109 : decode code 1109 = .ok (.iaload, 1) := by decide +kernel
theorem d_law_1110 : decode code 1110 = .ok (.aload_n 0, 1) := by decide +kernel
theorem d_law_1111 : decode code 1111 = .ok (.iload 4, 2) := by decide +kernel
theorem d_law_1113 : decode code 1113 = .ok (.iconst 3, 1) := by decide +kernel
theorem d_law_1114 : decode code 1114 = .ok (.iadd, 1) := by decide +kernel
theorem d_law_1115 : decode code 1115 = .ok (.iaload, 1) := by decide +kernel
theorem d_law_1116 : decode code 1116 = .ok (.invokevirtual 135, 3) := by decide +kernel
theorem d_law_1119 : decode code 1119 = .ok (.istore 6, 2) := by decide +kernel
theorem d_law_1121 : decode code 1121 = .ok (.aload_n 2, 1) := by decide +kernel
theorem d_law_1122 : decode code 1122 = .ok (.invokevirtual 96, 3) := by decide +kernel
theorem d_law_1125 : decode code 1125 = .ok (.iload 5, 2) := by decide +kernel
theorem d_law_1127 : decode code 1127 = .ok (.if_icmp .eq 5, 3) := by decide +kernel
theorem d_law_1130 : decode code 1130 = .ok (.iconst 0, 1) := by decide +kernel
theorem d_law_1131 : decode code 1131 = .ok (.ireturn, 1) := by decide +kernel
theorem d_law_1132 : decode code 1132 = .ok (.iload 5, 2) := by decide +kernel
theorem d_law_1134 : decode code 1134 = .ok (.ifCond .ne 15, 3) := by decide +kernel
theorem d_law_1137 : decode code 1137 = .ok (.aload_n 3, 1) := by decide +kernel
theorem d_law_1138 : decode code 1138 = .ok (.iconst 0, 1) := by decide +kernel
theorem d_law_1139 : decode code 1139 = .ok (.laload, 1) := by decide +kernel
theorem d_law_1140 : decode code 1140 = .ok (.iload 6, 2) := by decide +kernel
theorem d_law_1142 : decode code 1142 = .ok (.i2l, 1) := by decide +kernel
theorem d_law_1143 : decode code 1143 = .ok (.lcmp, 1) := by decide +kernel
theorem d_law_1144 : decode code 1144 = .ok (.ifCond .eq 5, 3) := by decide +kernel
theorem d_law_1147 : decode code 1147 = .ok (.iconst 0, 1) := by decide +kernel
theorem d_law_1148 : decode code 1148 = .ok (.ireturn, 1) := by decide +kernel
theorem d_law_1149 : decode code 1149 = .ok (.goto 527, 3) := by decide +kernel
theorem d_law_1152 : decode code 1152 = .ok (.aload_n 1, 1) := by decide +kernel
theorem d_law_1153 : decode code 1153 = .ok (.aload_n 0, 1) := by decide +kernel
theorem d_law_1154 : decode code 1154 = .ok (.iload 4, 2) := by decide +kernel
theorem d_law_1156 : decode code 1156 = .ok (.iconst 1, 1) := by decide +kernel
theorem d_law_1157 : decode code 1157 = .ok (.iadd, 1) := by decide +kernel
theorem d_law_1158 : decode code 1158 = .ok (.iaload, 1) := by decide +kernel
theorem d_law_1159 : decode code 1159 = .ok (.aload_n 0, 1) := by decide +kernel
theorem d_law_1160 : decode code 1160 = .ok (.iload 4, 2) := by decide +kernel
theorem d_law_1162 : decode code 1162 = .ok (.iconst 2, 1) := by decide +kernel
theorem d_law_1163 : decode code 1163 = .ok (.iadd, 1) := by decide +kernel
theorem d_law_1164 : decode code 1164 = .ok (.iaload, 1) := by decide +kernel
theorem d_law_1165 : decode code 1165 = .ok (.aload_n 3, 1) := by decide +kernel
theorem d_law_1166 : decode code 1166 = .ok (.invokestatic 136, 3) := by decide +kernel
theorem d_law_1169 : decode code 1169 = .ok (.istore 5, 2) := by decide +kernel
theorem d_law_1171 : decode code 1171 = .ok (.aload_n 2, 1) := by decide +kernel
theorem d_law_1172 : decode code 1172 = .ok (.aload_n 0, 1) := by decide +kernel
theorem d_law_1173 : decode code 1173 = .ok (.iload 4, 2) := by decide +kernel
theorem d_law_1175 : decode code 1175 = .ok (.iconst 1, 1) := by decide +kernel
theorem d_law_1176 : decode code 1176 = .ok (.iadd, 1) := by decide +kernel
theorem d_law_1177 : decode code 1177 = .ok (.iaload, 1) := by decide +kernel
theorem d_law_1178 : decode code 1178 = .ok (.aload_n 0, 1) := by decide +kernel
theorem d_law_1179 : decode code 1179 = .ok (.iload 4, 2) := by decide +kernel
theorem d_law_1181 : decode code 1181 = .ok (.iconst 2, 1) := by decide +kernel
theorem d_law_1182 : decode code 1182 = .ok (.iadd, 1) := by decide +kernel
theorem d_law_1183 : decode code 1183 = .ok (.iaload, 1) := by decide +kernel
theorem d_law_1184 : decode code 1184 = .ok (.invokevirtual 138, 3) := by decide +kernel
theorem d_law_1187 : decode code 1187 = .ok (.istore 6, 2) := by decide +kernel
theorem d_law_1189 : decode code 1189 = .ok (.aload_n 2, 1) := by decide +kernel
theorem d_law_1190 : decode code 1190 = .ok (.invokevirtual 96, 3) := by decide +kernel
theorem d_law_1193 : decode code 1193 = .ok (.iload 5, 2) := by decide +kernel
theorem d_law_1195 : decode code 1195 = .ok (.if_icmp .eq 5, 3) := by decide +kernel
theorem d_law_1198 : decode code 1198 = .ok (.iconst 0, 1) := by decide +kernel
theorem d_law_1199 : decode code 1199 = .ok (.ireturn, 1) := by decide +kernel
theorem d_law_1200 : decode code 1200 = .ok (.iload 5, 2) := by decide +kernel
theorem d_law_1202 : decode code 1202 = .ok (.ifCond .ne 15, 3) := by decide +kernel
theorem d_law_1205 : decode code 1205 = .ok (.aload_n 3, 1) := by decide +kernel
theorem d_law_1206 : decode code 1206 = .ok (.iconst 0, 1) := by decide +kernel
theorem d_law_1207 : decode code 1207 = .ok (.laload, 1) := by decide +kernel
theorem d_law_1208 : decode code 1208 = .ok (.iload 6, 2) := by decide +kernel
theorem d_law_1210 : decode code 1210 = .ok (.i2l, 1) := by decide +kernel
theorem d_law_1211 : decode code 1211 = .ok (.lcmp, 1) := by decide +kernel
theorem d_law_1212 : decode code 1212 = .ok (.ifCond .eq 5, 3) := by decide +kernel
theorem d_law_1215 : decode code 1215 = .ok (.iconst 0, 1) := by decide +kernel
theorem d_law_1216 : decode code 1216 = .ok (.ireturn, 1) := by decide +kernel
theorem d_law_1217 : decode code 1217 = .ok (.goto 459, 3) := by decide +kernel
theorem d_law_1220 : decode code 1220 = .ok (.aload_n 1, 1) := by decide +kernel
theorem d_law_1221 : decode code 1221 = .ok (.aload_n 0, 1) := by decide +kernel
theorem d_law_1222 : decode code 1222 = .ok (.iload 4, 2) := by decide +kernel
theorem d_law_1224 : decode code 1224 = .ok (.iconst 1, 1) := by decide +kernel
theorem d_law_1225 : decode code 1225 = .ok (.iadd, 1) := by decide +kernel
theorem d_law_1226 : decode code 1226 = .ok (.iaload, 1) := by decide +kernel
theorem d_law_1227 : decode code 1227 = .ok (.aload_n 3, 1) := by decide +kernel
theorem d_law_1228 : decode code 1228 = .ok (.invokestatic 139, 3) := by decide +kernel
theorem d_law_1231 : decode code 1231 = .ok (.istore 5, 2) := by decide +kernel
theorem d_law_1233 : decode code 1233 = .ok (.aload_n 2, 1) := by decide +kernel
theorem d_law_1234 : decode code 1234 = .ok (.aload_n 0, 1) := by decide +kernel
theorem d_law_1235 : decode code 1235 = .ok (.iload 4, 2) := by decide +kernel
theorem d_law_1237 : decode code 1237 = .ok (.iconst 1, 1) := by decide +kernel
theorem d_law_1238 : decode code 1238 = .ok (.iadd, 1) := by decide +kernel
theorem d_law_1239 : decode code 1239 = .ok (.iaload, 1) := by decide +kernel
theorem d_law_1240 : decode code 1240 = .ok (.invokevirtual 142, 3) := by decide +kernel
theorem d_law_1243 : decode code 1243 = .ok (.istore 6, 2) := by decide +kernel
theorem d_law_1245 : decode code 1245 = .ok (.aload_n 2, 1) := by decide +kernel
theorem d_law_1246 : decode code 1246 = .ok (.invokevirtual 96, 3) := by decide +kernel
theorem d_law_1249 : decode code 1249 = .ok (.iload 5, 2) := by decide +kernel
theorem d_law_1251 : decode code 1251 = .ok (.if_icmp .eq 5, 3) := by decide +kernel
theorem d_law_1254 : decode code 1254 = .ok (.iconst 0, 1) := by decide +kernel
theorem d_law_1255 : decode code 1255 = .ok (.ireturn, 1) := by decide +kernel
theorem d_law_1256 : decode code 1256 = .ok (.iload 5, 2) := by decide +kernel
theorem d_law_1258 : decode code 1258 = .ok (.ifCond .ne 15, 3) := by decide +kernel
theorem d_law_1261 : decode code 1261 = .ok (.aload_n 3, 1) := by decide +kernel
theorem d_law_1262 : decode code 1262 = .ok (.iconst 0, 1) := by decide +kernel
theorem d_law_1263 : decode code 1263 = .ok (.laload, 1) := by decide +kernel
theorem d_law_1264 : decode code 1264 = .ok (.iload 6, 2) := by decide +kernel
theorem d_law_1266 : decode code 1266 = .ok (.i2l, 1) := by decide +kernel
theorem d_law_1267 : decode code 1267 = .ok (.lcmp, 1) := by decide +kernel
theorem d_law_1268 : decode code 1268 = .ok (.ifCond .eq 5, 3) := by decide +kernel
theorem d_law_1271 : decode code 1271 = .ok (.iconst 0, 1) := by decide +kernel
theorem d_law_1272 : decode code 1272 = .ok (.ireturn, 1) := by decide +kernel
theorem d_law_1273 : decode code 1273 = .ok (.goto 403, 3) := by decide +kernel
theorem d_law_1276 : decode code 1276 = .ok (.aload_n 1, 1) := by decide +kernel
theorem d_law_1277 : decode code 1277 = .ok (.aload_n 0, 1) := by decide +kernel
theorem d_law_1278 : decode code 1278 = .ok (.iload 4, 2) := by decide +kernel
theorem d_law_1280 : decode code 1280 = .ok (.iconst 1, 1) := by decide +kernel
theorem d_law_1281 : decode code 1281 = .ok (.iadd, 1) := by decide +kernel
theorem d_law_1282 : decode code 1282 = .ok (.iaload, 1) := by decide +kernel
theorem d_law_1283 : decode code 1283 = .ok (.aload_n 0, 1) := by decide +kernel
theorem d_law_1284 : decode code 1284 = .ok (.iload 4, 2) := by decide +kernel
theorem d_law_1286 : decode code 1286 = .ok (.iconst 2, 1) := by decide +kernel
theorem d_law_1287 : decode code 1287 = .ok (.iadd, 1) := by decide +kernel
theorem d_law_1288 : decode code 1288 = .ok (.iaload, 1) := by decide +kernel
theorem d_law_1289 : decode code 1289 = .ok (.ifCond .eq 7, 3) := by decide +kernel
theorem d_law_1292 : decode code 1292 = .ok (.iconst 1, 1) := by decide +kernel
theorem d_law_1293 : decode code 1293 = .ok (.goto 4, 3) := by decide +kernel
theorem d_law_1296 : decode code 1296 = .ok (.iconst 0, 1) := by decide +kernel
theorem d_law_1297 : decode code 1297 = .ok (.aload_n 3, 1) := by decide +kernel
theorem d_law_1298 : decode code 1298 = .ok (.invokestatic 143, 3) := by decide +kernel
theorem d_law_1301 : decode code 1301 = .ok (.istore 5, 2) := by decide +kernel
theorem d_law_1303 : decode code 1303 = .ok (.aload_n 2, 1) := by decide +kernel
theorem d_law_1304 : decode code 1304 = .ok (.aload_n 0, 1) := by decide +kernel
theorem d_law_1305 : decode code 1305 = .ok (.iload 4, 2) := by decide +kernel
theorem d_law_1307 : decode code 1307 = .ok (.iconst 1, 1) := by decide +kernel
theorem d_law_1308 : decode code 1308 = .ok (.iadd, 1) := by decide +kernel
theorem d_law_1309 : decode code 1309 = .ok (.iaload, 1) := by decide +kernel
theorem d_law_1310 : decode code 1310 = .ok (.aload_n 0, 1) := by decide +kernel
theorem d_law_1311 : decode code 1311 = .ok (.iload 4, 2) := by decide +kernel
theorem d_law_1313 : decode code 1313 = .ok (.iconst 2, 1) := by decide +kernel
theorem d_law_1314 : decode code 1314 = .ok (.iadd, 1) := by decide +kernel
theorem d_law_1315 : decode code 1315 = .ok (.iaload, 1) := by decide +kernel
theorem d_law_1316 : decode code 1316 = .ok (.ifCond .eq 7, 3) := by decide +kernel
theorem d_law_1319 : decode code 1319 = .ok (.iconst 1, 1) := by decide +kernel
theorem d_law_1320 : decode code 1320 = .ok (.goto 4, 3) := by decide +kernel
theorem d_law_1323 : decode code 1323 = .ok (.iconst 0, 1) := by decide +kernel
theorem d_law_1324 : decode code 1324 = .ok (.invokevirtual 146, 3) := by decide +kernel
theorem d_law_1327 : decode code 1327 = .ok (.istore 6, 2) := by decide +kernel
theorem d_law_1329 : decode code 1329 = .ok (.aload_n 2, 1) := by decide +kernel
theorem d_law_1330 : decode code 1330 = .ok (.invokevirtual 96, 3) := by decide +kernel
theorem d_law_1333 : decode code 1333 = .ok (.iload 5, 2) := by decide +kernel
theorem d_law_1335 : decode code 1335 = .ok (.if_icmp .eq 5, 3) := by decide +kernel
theorem d_law_1338 : decode code 1338 = .ok (.iconst 0, 1) := by decide +kernel
theorem d_law_1339 : decode code 1339 = .ok (.ireturn, 1) := by decide +kernel
theorem d_law_1340 : decode code 1340 = .ok (.iload 5, 2) := by decide +kernel
theorem d_law_1342 : decode code 1342 = .ok (.ifCond .ne 15, 3) := by decide +kernel
theorem d_law_1345 : decode code 1345 = .ok (.aload_n 3, 1) := by decide +kernel
theorem d_law_1346 : decode code 1346 = .ok (.iconst 0, 1) := by decide +kernel
theorem d_law_1347 : decode code 1347 = .ok (.laload, 1) := by decide +kernel
theorem d_law_1348 : decode code 1348 = .ok (.iload 6, 2) := by decide +kernel
theorem d_law_1350 : decode code 1350 = .ok (.i2l, 1) := by decide +kernel
theorem d_law_1351 : decode code 1351 = .ok (.lcmp, 1) := by decide +kernel
theorem d_law_1352 : decode code 1352 = .ok (.ifCond .eq 5, 3) := by decide +kernel
theorem d_law_1355 : decode code 1355 = .ok (.iconst 0, 1) := by decide +kernel
theorem d_law_1356 : decode code 1356 = .ok (.ireturn, 1) := by decide +kernel
theorem d_law_1357 : decode code 1357 = .ok (.goto 319, 3) := by decide +kernel
theorem d_law_1360 : decode code 1360 = .ok (.aload_n 1, 1) := by decide +kernel
theorem d_law_1361 : decode code 1361 = .ok (.aload_n 0, 1) := by decide +kernel
theorem d_law_1362 : decode code 1362 = .ok (.iload 4, 2) := by decide +kernel
theorem d_law_1364 : decode code 1364 = .ok (.iconst 1, 1) := by decide +kernel
theorem d_law_1365 : decode code 1365 = .ok (.iadd, 1) := by decide +kernel
theorem d_law_1366 : decode code 1366 = .ok (.iaload, 1) := by decide +kernel
theorem d_law_1367 : decode code 1367 = .ok (.aload_n 0, 1) := by decide +kernel
theorem d_law_1368 : decode code 1368 = .ok (.iload 4, 2) := by decide +kernel
theorem d_law_1370 : decode code 1370 = .ok (.iconst 2, 1) := by decide +kernel
theorem d_law_1371 : decode code 1371 = .ok (.iadd, 1) := by decide +kernel
theorem d_law_1372 : decode code 1372 = .ok (.iaload, 1) := by decide +kernel
theorem d_law_1373 : decode code 1373 = .ok (.ifCond .eq 7, 3) := by decide +kernel
theorem d_law_1376 : decode code 1376 = .ok (.iconst 1, 1) := by decide +kernel
theorem d_law_1377 : decode code 1377 = .ok (.goto 4, 3) := by decide +kernel
theorem d_law_1380 : decode code 1380 = .ok (.iconst 0, 1) := by decide +kernel
theorem d_law_1381 : decode code 1381 = .ok (.aload_n 0, 1) := by decide +kernel
theorem d_law_1382 : decode code 1382 = .ok (.iload 4, 2) := by decide +kernel
theorem d_law_1384 : decode code 1384 = .ok (.iconst 3, 1) := by decide +kernel
theorem d_law_1385 : decode code 1385 = .ok (.iadd, 1) := by decide +kernel
theorem d_law_1386 : decode code 1386 = .ok (.iaload, 1) := by decide +kernel
theorem d_law_1387 : decode code 1387 = .ok (.aload_n 3, 1) := by decide +kernel
theorem d_law_1388 : decode code 1388 = .ok (.invokestatic 147, 3) := by decide +kernel
theorem d_law_1391 : decode code 1391 = .ok (.istore 5, 2) := by decide +kernel
theorem d_law_1393 : decode code 1393 = .ok (.aload_n 2, 1) := by decide +kernel
theorem d_law_1394 : decode code 1394 = .ok (.aload_n 0, 1) := by decide +kernel
theorem d_law_1395 : decode code 1395 = .ok (.iload 4, 2) := by decide +kernel
theorem d_law_1397 : decode code 1397 = .ok (.iconst 1, 1) := by decide +kernel
theorem d_law_1398 : decode code 1398 = .ok (.iadd, 1) := by decide +kernel
theorem d_law_1399 : decode code 1399 = .ok (.iaload, 1) := by decide +kernel
theorem d_law_1400 : decode code 1400 = .ok (.aload_n 0, 1) := by decide +kernel
theorem d_law_1401 : decode code 1401 = .ok (.iload 4, 2) := by decide +kernel
theorem d_law_1403 : decode code 1403 = .ok (.iconst 2, 1) := by decide +kernel
theorem d_law_1404 : decode code 1404 = .ok (.iadd, 1) := by decide +kernel
theorem d_law_1405 : decode code 1405 = .ok (.iaload, 1) := by decide +kernel
theorem d_law_1406 : decode code 1406 = .ok (.ifCond .eq 7, 3) := by decide +kernel
theorem d_law_1409 : decode code 1409 = .ok (.iconst 1, 1) := by decide +kernel
theorem d_law_1410 : decode code 1410 = .ok (.goto 4, 3) := by decide +kernel
theorem d_law_1413 : decode code 1413 = .ok (.iconst 0, 1) := by decide +kernel
theorem d_law_1414 : decode code 1414 = .ok (.aload_n 0, 1) := by decide +kernel
theorem d_law_1415 : decode code 1415 = .ok (.iload 4, 2) := by decide +kernel
theorem d_law_1417 : decode code 1417 = .ok (.iconst 3, 1) := by decide +kernel
theorem d_law_1418 : decode code 1418 = .ok (.iadd, 1) := by decide +kernel
theorem d_law_1419 : decode code 1419 = .ok (.iaload, 1) := by decide +kernel
theorem d_law_1420 : decode code 1420 = .ok (.invokevirtual 150, 3) := by decide +kernel
theorem d_law_1423 : decode code 1423 = .ok (.istore 6, 2) := by decide +kernel
theorem d_law_1425 : decode code 1425 = .ok (.aload_n 2, 1) := by decide +kernel
theorem d_law_1426 : decode code 1426 = .ok (.invokevirtual 96, 3) := by decide +kernel
theorem d_law_1429 : decode code 1429 = .ok (.iload 5, 2) := by decide +kernel
theorem d_law_1431 : decode code 1431 = .ok (.if_icmp .eq 5, 3) := by decide +kernel
theorem d_law_1434 : decode code 1434 = .ok (.iconst 0, 1) := by decide +kernel
theorem d_law_1435 : decode code 1435 = .ok (.ireturn, 1) := by decide +kernel
theorem d_law_1436 : decode code 1436 = .ok (.iload 5, 2) := by decide +kernel
theorem d_law_1438 : decode code 1438 = .ok (.ifCond .ne 15, 3) := by decide +kernel
theorem d_law_1441 : decode code 1441 = .ok (.aload_n 3, 1) := by decide +kernel
theorem d_law_1442 : decode code 1442 = .ok (.iconst 0, 1) := by decide +kernel
theorem d_law_1443 : decode code 1443 = .ok (.laload, 1) := by decide +kernel
theorem d_law_1444 : decode code 1444 = .ok (.iload 6, 2) := by decide +kernel
theorem d_law_1446 : decode code 1446 = .ok (.i2l, 1) := by decide +kernel
theorem d_law_1447 : decode code 1447 = .ok (.lcmp, 1) := by decide +kernel
theorem d_law_1448 : decode code 1448 = .ok (.ifCond .eq 5, 3) := by decide +kernel
theorem d_law_1451 : decode code 1451 = .ok (.iconst 0, 1) := by decide +kernel
theorem d_law_1452 : decode code 1452 = .ok (.ireturn, 1) := by decide +kernel
theorem d_law_1453 : decode code 1453 = .ok (.goto 223, 3) := by decide +kernel
theorem d_law_1456 : decode code 1456 = .ok (.aload_n 1, 1) := by decide +kernel
theorem d_law_1457 : decode code 1457 = .ok (.invokevirtual 151, 3) := by decide +kernel
theorem d_law_1460 : decode code 1460 = .ok (.aload_n 2, 1) := by decide +kernel
theorem d_law_1461 : decode code 1461 = .ok (.invokevirtual 154, 3) := by decide +kernel
theorem d_law_1464 : decode code 1464 = .ok (.if_icmp .eq 212, 3) := by decide +kernel
theorem d_law_1467 : decode code 1467 = .ok (.iconst 0, 1) := by decide +kernel
theorem d_law_1468 : decode code 1468 = .ok (.ireturn, 1) := by decide +kernel
theorem d_law_1469 : decode code 1469 = .ok (.aload_n 1, 1) := by decide +kernel
theorem d_law_1470 : decode code 1470 = .ok (.aload_n 0, 1) := by decide +kernel
theorem d_law_1471 : decode code 1471 = .ok (.iload 4, 2) := by decide +kernel
theorem d_law_1473 : decode code 1473 = .ok (.iconst 1, 1) := by decide +kernel
theorem d_law_1474 : decode code 1474 = .ok (.iadd, 1) := by decide +kernel
theorem d_law_1475 : decode code 1475 = .ok (.iaload, 1) := by decide +kernel
theorem d_law_1476 : decode code 1476 = .ok (.i2l, 1) := by decide +kernel
theorem d_law_1477 : decode code 1477 = .ok (.bipush 32, 2) := by decide +kernel
theorem d_law_1479 : decode code 1479 = .ok (.lshl, 1) := by decide +kernel
theorem d_law_1480 : decode code 1480 = .ok (.aload_n 0, 1) := by decide +kernel
theorem d_law_1481 : decode code 1481 = .ok (.iload 4, 2) := by decide +kernel
theorem d_law_1483 : decode code 1483 = .ok (.iconst 2, 1) := by decide +kernel
theorem d_law_1484 : decode code 1484 = .ok (.iadd, 1) := by decide +kernel
theorem d_law_1485 : decode code 1485 = .ok (.iaload, 1) := by decide +kernel
theorem d_law_1486 : decode code 1486 = .ok (.i2l, 1) := by decide +kernel
theorem d_law_1487 : decode code 1487 = .ok (.ldc2_w 90, 3) := by decide +kernel
theorem d_law_1490 : decode code 1490 = .ok (.land, 1) := by decide +kernel
theorem d_law_1491 : decode code 1491 = .ok (.lor, 1) := by decide +kernel
theorem d_law_1492 : decode code 1492 = .ok (.invokevirtual 155, 3) := by decide +kernel
theorem d_law_1495 : decode code 1495 = .ok (.aload_n 2, 1) := by decide +kernel
theorem d_law_1496 : decode code 1496 = .ok (.aload_n 0, 1) := by decide +kernel
theorem d_law_1497 : decode code 1497 = .ok (.iload 4, 2) := by decide +kernel
theorem d_law_1499 : decode code 1499 = .ok (.iconst 1, 1) := by decide +kernel
theorem d_law_1500 : decode code 1500 = .ok (.iadd, 1) := by decide +kernel
theorem d_law_1501 : decode code 1501 = .ok (.iaload, 1) := by decide +kernel
theorem d_law_1502 : decode code 1502 = .ok (.i2l, 1) := by decide +kernel
theorem d_law_1503 : decode code 1503 = .ok (.bipush 32, 2) := by decide +kernel
theorem d_law_1505 : decode code 1505 = .ok (.lshl, 1) := by decide +kernel
theorem d_law_1506 : decode code 1506 = .ok (.aload_n 0, 1) := by decide +kernel
theorem d_law_1507 : decode code 1507 = .ok (.iload 4, 2) := by decide +kernel
theorem d_law_1509 : decode code 1509 = .ok (.iconst 2, 1) := by decide +kernel
theorem d_law_1510 : decode code 1510 = .ok (.iadd, 1) := by decide +kernel
theorem d_law_1511 : decode code 1511 = .ok (.iaload, 1) := by decide +kernel
theorem d_law_1512 : decode code 1512 = .ok (.i2l, 1) := by decide +kernel
theorem d_law_1513 : decode code 1513 = .ok (.ldc2_w 90, 3) := by decide +kernel
theorem d_law_1516 : decode code 1516 = .ok (.land, 1) := by decide +kernel
theorem d_law_1517 : decode code 1517 = .ok (.lor, 1) := by decide +kernel
theorem d_law_1518 : decode code 1518 = .ok (.invokevirtual 159, 3) := by decide +kernel
theorem d_law_1521 : decode code 1521 = .ok (.if_icmp .eq 155, 3) := by decide +kernel
theorem d_law_1524 : decode code 1524 = .ok (.iconst 0, 1) := by decide +kernel
theorem d_law_1525 : decode code 1525 = .ok (.ireturn, 1) := by decide +kernel
theorem d_law_1526 : decode code 1526 = .ok (.aload_n 1, 1) := by decide +kernel
theorem d_law_1527 : decode code 1527 = .ok (.aload_n 0, 1) := by decide +kernel
theorem d_law_1528 : decode code 1528 = .ok (.iload 4, 2) := by decide +kernel
theorem d_law_1530 : decode code 1530 = .ok (.iconst 1, 1) := by decide +kernel
theorem d_law_1531 : decode code 1531 = .ok (.iadd, 1) := by decide +kernel
theorem d_law_1532 : decode code 1532 = .ok (.iaload, 1) := by decide +kernel
theorem d_law_1533 : decode code 1533 = .ok (.aload_n 3, 1) := by decide +kernel
theorem d_law_1534 : decode code 1534 = .ok (.invokestatic 160, 3) := by decide +kernel
theorem d_law_1537 : decode code 1537 = .ok (.istore 5, 2) := by decide +kernel
theorem d_law_1539 : decode code 1539 = .ok (.aload_n 2, 1) := by decide +kernel
theorem d_law_1540 : decode code 1540 = .ok (.aload_n 0, 1) := by decide +kernel
theorem d_law_1541 : decode code 1541 = .ok (.iload 4, 2) := by decide +kernel
theorem d_law_1543 : decode code 1543 = .ok (.iconst 1, 1) := by decide +kernel
theorem d_law_1544 : decode code 1544 = .ok (.iadd, 1) := by decide +kernel
theorem d_law_1545 : decode code 1545 = .ok (.iaload, 1) := by decide +kernel
theorem d_law_1546 : decode code 1546 = .ok (.invokevirtual 162, 3) := by decide +kernel
theorem d_law_1549 : decode code 1549 = .ok (.istore 6, 2) := by decide +kernel
theorem d_law_1551 : decode code 1551 = .ok (.aload_n 2, 1) := by decide +kernel
theorem d_law_1552 : decode code 1552 = .ok (.invokevirtual 96, 3) := by decide +kernel
theorem d_law_1555 : decode code 1555 = .ok (.iload 5, 2) := by decide +kernel
theorem d_law_1557 : decode code 1557 = .ok (.if_icmp .eq 5, 3) := by decide +kernel
theorem d_law_1560 : decode code 1560 = .ok (.iconst 0, 1) := by decide +kernel
theorem d_law_1561 : decode code 1561 = .ok (.ireturn, 1) := by decide +kernel
theorem d_law_1562 : decode code 1562 = .ok (.iload 5, 2) := by decide +kernel
theorem d_law_1564 : decode code 1564 = .ok (.ifCond .ne 15, 3) := by decide +kernel
theorem d_law_1567 : decode code 1567 = .ok (.aload_n 3, 1) := by decide +kernel
theorem d_law_1568 : decode code 1568 = .ok (.iconst 0, 1) := by decide +kernel
theorem d_law_1569 : decode code 1569 = .ok (.laload, 1) := by decide +kernel
theorem d_law_1570 : decode code 1570 = .ok (.iload 6, 2) := by decide +kernel
theorem d_law_1572 : decode code 1572 = .ok (.i2l, 1) := by decide +kernel
theorem d_law_1573 : decode code 1573 = .ok (.lcmp, 1) := by decide +kernel
theorem d_law_1574 : decode code 1574 = .ok (.ifCond .eq 5, 3) := by decide +kernel
theorem d_law_1577 : decode code 1577 = .ok (.iconst 0, 1) := by decide +kernel
theorem d_law_1578 : decode code 1578 = .ok (.ireturn, 1) := by decide +kernel
theorem d_law_1579 : decode code 1579 = .ok (.goto 97, 3) := by decide +kernel
theorem d_law_1582 : decode code 1582 = .ok (.aload_n 1, 1) := by decide +kernel
theorem d_law_1583 : decode code 1583 = .ok (.invokevirtual 163, 3) := by decide +kernel
theorem d_law_1586 : decode code 1586 = .ok (.aload_n 2, 1) := by decide +kernel
theorem d_law_1587 : decode code 1587 = .ok (.invokevirtual 166, 3) := by decide +kernel
theorem d_law_1590 : decode code 1590 = .ok (.if_icmp .eq 86, 3) := by decide +kernel
theorem d_law_1593 : decode code 1593 = .ok (.iconst 0, 1) := by decide +kernel
theorem d_law_1594 : decode code 1594 = .ok (.ireturn, 1) := by decide +kernel
theorem d_law_1595 : decode code 1595 = .ok (.aload_n 1, 1) := by decide +kernel
theorem d_law_1596 : decode code 1596 = .ok (.aload_n 0, 1) := by decide +kernel
theorem d_law_1597 : decode code 1597 = .ok (.iload 4, 2) := by decide +kernel
theorem d_law_1599 : decode code 1599 = .ok (.iconst 1, 1) := by decide +kernel
theorem d_law_1600 : decode code 1600 = .ok (.iadd, 1) := by decide +kernel
theorem d_law_1601 : decode code 1601 = .ok (.iaload, 1) := by decide +kernel
theorem d_law_1602 : decode code 1602 = .ok (.aload_n 3, 1) := by decide +kernel
theorem d_law_1603 : decode code 1603 = .ok (.invokestatic 167, 3) := by decide +kernel
theorem d_law_1606 : decode code 1606 = .ok (.istore 5, 2) := by decide +kernel
theorem d_law_1608 : decode code 1608 = .ok (.aload_n 2, 1) := by decide +kernel
theorem d_law_1609 : decode code 1609 = .ok (.aload_n 0, 1) := by decide +kernel
theorem d_law_1610 : decode code 1610 = .ok (.iload 4, 2) := by decide +kernel
theorem d_law_1612 : decode code 1612 = .ok (.iconst 1, 1) := by decide +kernel
theorem d_law_1613 : decode code 1613 = .ok (.iadd, 1) := by decide +kernel
theorem d_law_1614 : decode code 1614 = .ok (.iaload, 1) := by decide +kernel
theorem d_law_1615 : decode code 1615 = .ok (.invokevirtual 169, 3) := by decide +kernel
theorem d_law_1618 : decode code 1618 = .ok (.istore 6, 2) := by decide +kernel
theorem d_law_1620 : decode code 1620 = .ok (.aload_n 2, 1) := by decide +kernel
theorem d_law_1621 : decode code 1621 = .ok (.invokevirtual 96, 3) := by decide +kernel
theorem d_law_1624 : decode code 1624 = .ok (.iload 5, 2) := by decide +kernel
theorem d_law_1626 : decode code 1626 = .ok (.if_icmp .eq 5, 3) := by decide +kernel
theorem d_law_1629 : decode code 1629 = .ok (.iconst 0, 1) := by decide +kernel
theorem d_law_1630 : decode code 1630 = .ok (.ireturn, 1) := by decide +kernel
theorem d_law_1631 : decode code 1631 = .ok (.iload 5, 2) := by decide +kernel
theorem d_law_1633 : decode code 1633 = .ok (.ifCond .ne 15, 3) := by decide +kernel
theorem d_law_1636 : decode code 1636 = .ok (.aload_n 3, 1) := by decide +kernel
theorem d_law_1637 : decode code 1637 = .ok (.iconst 0, 1) := by decide +kernel
theorem d_law_1638 : decode code 1638 = .ok (.laload, 1) := by decide +kernel
theorem d_law_1639 : decode code 1639 = .ok (.iload 6, 2) := by decide +kernel
theorem d_law_1641 : decode code 1641 = .ok (.i2l, 1) := by decide +kernel
theorem d_law_1642 : decode code 1642 = .ok (.lcmp, 1) := by decide +kernel
theorem d_law_1643 : decode code 1643 = .ok (.ifCond .eq 5, 3) := by decide +kernel
theorem d_law_1646 : decode code 1646 = .ok (.iconst 0, 1) := by decide +kernel
theorem d_law_1647 : decode code 1647 = .ok (.ireturn, 1) := by decide +kernel
theorem d_law_1648 : decode code 1648 = .ok (.goto 28, 3) := by decide +kernel
theorem d_law_1651 : decode code 1651 = .ok (.aload_n 1, 1) := by decide +kernel
theorem d_law_1652 : decode code 1652 = .ok (.aload_n 0, 1) := by decide +kernel
theorem d_law_1653 : decode code 1653 = .ok (.iload 4, 2) := by decide +kernel
theorem d_law_1655 : decode code 1655 = .ok (.iconst 1, 1) := by decide +kernel
theorem d_law_1656 : decode code 1656 = .ok (.iadd, 1) := by decide +kernel
theorem d_law_1657 : decode code 1657 = .ok (.iaload, 1) := by decide +kernel
theorem d_law_1658 : decode code 1658 = .ok (.invokevirtual 170, 3) := by decide +kernel
theorem d_law_1661 : decode code 1661 = .ok (.aload_n 2, 1) := by decide +kernel
theorem d_law_1662 : decode code 1662 = .ok (.aload_n 0, 1) := by decide +kernel
theorem d_law_1663 : decode code 1663 = .ok (.iload 4, 2) := by decide +kernel
theorem d_law_1665 : decode code 1665 = .ok (.iconst 1, 1) := by decide +kernel
theorem d_law_1666 : decode code 1666 = .ok (.iadd, 1) := by decide +kernel
theorem d_law_1667 : decode code 1667 = .ok (.iaload, 1) := by decide +kernel
theorem d_law_1668 : decode code 1668 = .ok (.invokevirtual 173, 3) := by decide +kernel
theorem d_law_1671 : decode code 1671 = .ok (.if_icmp .eq 5, 3) := by decide +kernel
theorem d_law_1674 : decode code 1674 = .ok (.iconst 0, 1) := by decide +kernel
theorem d_law_1675 : decode code 1675 = .ok (.ireturn, 1) := by decide +kernel
theorem d_law_1676 : decode code 1676 = .ok (.iinc 4 6, 3) := by decide +kernel
theorem d_law_1679 : decode code 1679 = .ok (.goto (-1646), 3) := by decide +kernel
theorem d_law_1682 : decode code 1682 = .ok (.iconst 1, 1) := by decide +kernel
theorem d_law_1683 : decode code 1683 = .ok (.ireturn, 1) := by decide +kernel
