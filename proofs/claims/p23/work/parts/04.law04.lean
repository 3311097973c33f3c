theorem dL_law_988 : decode cL_law 988 = .ok (.iload 10, 2) := by decide +kernel
theorem dL_law_990 : decode cL_law 990 = .ok (.bipush 27, 2) := by decide +kernel
theorem dL_law_992 : decode cL_law 992 = .ok (.if_icmp .ge 98, 3) := by decide +kernel
theorem dL_law_995 : decode cL_law 995 = .ok (.iload 10, 2) := by decide +kernel
theorem dL_law_997 : decode cL_law 997 = .ok (.bipush 24, 2) := by decide +kernel
theorem dL_law_999 : decode cL_law 999 = .ok (.if_icmp .le 91, 3) := by decide +kernel
theorem dL_law_1002 : decode cL_law 1002 = .ok (.aload_n 2, 1) := by decide +kernel
theorem dL_law_1003 : decode cL_law 1003 = .ok (.iconst 0, 1) := by decide +kernel
theorem dL_law_1004 : decode cL_law 1004 = .ok (.iaload, 1) := by decide +kernel
theorem dL_law_1005 : decode cL_law 1005 = .ok (.ifCond .le 85, 3) := by decide +kernel
theorem dL_law_1008 : decode cL_law 1008 = .ok (.aload_n 1, 1) := by decide +kernel
theorem dL_law_1009 : decode cL_law 1009 = .ok (.bipush 10, 2) := by decide +kernel
theorem dL_law_1011 : decode cL_law 1011 = .ok (.iload 13, 2) := by decide +kernel
theorem dL_law_1013 : decode cL_law 1013 = .ok (.aload_n 2, 1) := by decide +kernel
theorem dL_law_1014 : decode cL_law 1014 = .ok (.iconst 0, 1) := by decide +kernel
theorem dL_law_1015 : decode cL_law 1015 = .ok (.iaload, 1) := by decide +kernel
theorem dL_law_1016 : decode cL_law 1016 = .ok (.irem, 1) := by decide +kernel
theorem dL_law_1017 : decode cL_law 1017 = .ok (.iload 13, 2) := by decide +kernel
theorem dL_law_1019 : decode cL_law 1019 = .ok (.bipush 12, 2) := by decide +kernel
theorem dL_law_1021 : decode cL_law 1021 = .ok (.idiv, 1) := by decide +kernel
theorem dL_law_1022 : decode cL_law 1022 = .ok (.sipush 256, 3) := by decide +kernel
theorem dL_law_1025 : decode cL_law 1025 = .ok (.irem, 1) := by decide +kernel
theorem dL_law_1026 : decode cL_law 1026 = .ok (.iconst 0, 1) := by decide +kernel
theorem dL_law_1027 : decode cL_law 1027 = .ok (.iconst 0, 1) := by decide +kernel
theorem dL_law_1028 : decode cL_law 1028 = .ok (.invokestatic 88, 3) := by decide +kernel
theorem dL_law_1031 : decode cL_law 1031 = .ok (.istore 14, 2) := by decide +kernel
theorem dL_law_1033 : decode cL_law 1033 = .ok (.iload 14, 2) := by decide +kernel
theorem dL_law_1035 : decode cL_law 1035 = .ok (.aload_n 2, 1) := by decide +kernel
theorem dL_law_1036 : decode cL_law 1036 = .ok (.iconst 3, 1) := by decide +kernel
theorem dL_law_1037 : decode cL_law 1037 = .ok (.iaload, 1) := by decide +kernel
theorem dL_law_1038 : decode cL_law 1038 = .ok (.bipush 8, 2) := by decide +kernel
theorem dL_law_1040 : decode cL_law 1040 = .ok (.if_icmp .ne 8, 3) := by decide +kernel
theorem dL_law_1043 : decode cL_law 1043 = .ok (.ldc 82, 2) := by decide +kernel
theorem dL_law_1045 : decode cL_law 1045 = .ok (.goto 6, 3) := by decide +kernel
theorem dL_law_1048 : decode cL_law 1048 = .ok (.aload_n 2, 1) := by decide +kernel
theorem dL_law_1049 : decode cL_law 1049 = .ok (.iconst 3, 1) := by decide +kernel
theorem dL_law_1050 : decode cL_law 1050 = .ok (.iaload, 1) := by decide +kernel
theorem dL_law_1051 : decode cL_law 1051 = .ok (.if_icmp .ne 7, 3) := by decide +kernel
theorem dL_law_1054 : decode cL_law 1054 = .ok (.iconst 1, 1) := by decide +kernel
theorem dL_law_1055 : decode cL_law 1055 = .ok (.goto 4, 3) := by decide +kernel
theorem dL_law_1058 : decode cL_law 1058 = .ok (.iconst 0, 1) := by decide +kernel
theorem dL_law_1059 : decode cL_law 1059 = .ok (.istore 7, 2) := by decide +kernel
theorem dL_law_1061 : decode cL_law 1061 = .ok (.iload 14, 2) := by decide +kernel
theorem dL_law_1063 : decode cL_law 1063 = .ok (.ifCond .lt 24, 3) := by decide +kernel
theorem dL_law_1066 : decode cL_law 1066 = .ok (.aload 5, 2) := by decide +kernel
theorem dL_law_1068 : decode cL_law 1068 = .ok (.iload 14, 2) := by decide +kernel
theorem dL_law_1070 : decode cL_law 1070 = .ok (.iload 13, 2) := by decide +kernel
theorem dL_law_1072 : decode cL_law 1072 = .ok (.bipush 12, 2) := by decide +kernel
theorem dL_law_1074 : decode cL_law 1074 = .ok (.idiv, 1) := by decide +kernel
theorem dL_law_1075 : decode cL_law 1075 = .ok (.sipush 256, 3) := by decide +kernel
theorem dL_law_1078 : decode cL_law 1078 = .ok (.irem, 1) := by decide +kernel
theorem dL_law_1079 : decode cL_law 1079 = .ok (.iastore, 1) := by decide +kernel
theorem dL_law_1080 : decode cL_law 1080 = .ok (.aload_n 2, 1) := by decide +kernel
theorem dL_law_1081 : decode cL_law 1081 = .ok (.iconst 3, 1) := by decide +kernel
theorem dL_law_1082 : decode cL_law 1082 = .ok (.dup2, 1) := by decide +kernel
theorem dL_law_1083 : decode cL_law 1083 = .ok (.iaload, 1) := by decide +kernel
theorem dL_law_1084 : decode cL_law 1084 = .ok (.iconst 1, 1) := by decide +kernel
theorem dL_law_1085 : decode cL_law 1085 = .ok (.iadd, 1) := by decide +kernel
theorem dL_law_1086 : decode cL_law 1086 = .ok (.iastore, 1) := by decide +kernel
theorem dL_law_1087 : decode cL_law 1087 = .ok (.goto 358, 3) := by decide +kernel
theorem dL_law_1090 : decode cL_law 1090 = .ok (.iload 10, 2) := by decide +kernel
theorem dL_law_1092 : decode cL_law 1092 = .ok (.bipush 27, 2) := by decide +kernel
theorem dL_law_1094 : decode cL_law 1094 = .ok (.if_icmp .ne 104, 3) := by decide +kernel
theorem dL_law_1097 : decode cL_law 1097 = .ok (.aload_n 2, 1) := by decide +kernel
theorem dL_law_1098 : decode cL_law 1098 = .ok (.iconst 3, 1) := by decide +kernel
theorem dL_law_1099 : decode cL_law 1099 = .ok (.iaload, 1) := by decide +kernel
theorem dL_law_1100 : decode cL_law 1100 = .ok (.ifCond .le 98, 3) := by decide +kernel
theorem dL_law_1103 : decode cL_law 1103 = .ok (.aload_n 1, 1) := by decide +kernel
theorem dL_law_1104 : decode cL_law 1104 = .ok (.bipush 11, 2) := by decide +kernel
theorem dL_law_1106 : decode cL_law 1106 = .ok (.iload 13, 2) := by decide +kernel
theorem dL_law_1108 : decode cL_law 1108 = .ok (.aload_n 2, 1) := by decide +kernel
theorem dL_law_1109 : decode cL_law 1109 = .ok (.iconst 3, 1) := by decide +kernel
theorem dL_law_1110 : decode cL_law 1110 = .ok (.iaload, 1) := by decide +kernel
theorem dL_law_1111 : decode cL_law 1111 = .ok (.irem, 1) := by decide +kernel
theorem dL_law_1112 : decode cL_law 1112 = .ok (.iload 13, 2) := by decide +kernel
theorem dL_law_1114 : decode cL_law 1114 = .ok (.bipush 8, 2) := by decide +kernel
theorem dL_law_1116 : decode cL_law 1116 = .ok (.idiv, 1) := by decide +kernel
theorem dL_law_1117 : decode cL_law 1117 = .ok (.iconst 5, 1) := by decide +kernel
theorem dL_law_1118 : decode cL_law 1118 = .ok (.irem, 1) := by decide +kernel
theorem dL_law_1119 : decode cL_law 1119 = .ok (.iload 13, 2) := by decide +kernel
theorem dL_law_1121 : decode cL_law 1121 = .ok (.bipush 40, 2) := by decide +kernel
theorem dL_law_1123 : decode cL_law 1123 = .ok (.idiv, 1) := by decide +kernel
theorem dL_law_1124 : decode cL_law 1124 = .ok (.aload_n 2, 1) := by decide +kernel
theorem dL_law_1125 : decode cL_law 1125 = .ok (.iconst 0, 1) := by decide +kernel
theorem dL_law_1126 : decode cL_law 1126 = .ok (.iaload, 1) := by decide +kernel
theorem dL_law_1127 : decode cL_law 1127 = .ok (.irem, 1) := by decide +kernel
theorem dL_law_1128 : decode cL_law 1128 = .ok (.iconst 0, 1) := by decide +kernel
theorem dL_law_1129 : decode cL_law 1129 = .ok (.invokestatic 88, 3) := by decide +kernel
theorem dL_law_1132 : decode cL_law 1132 = .ok (.istore 14, 2) := by decide +kernel
theorem dL_law_1134 : decode cL_law 1134 = .ok (.iload 14, 2) := by decide +kernel
theorem dL_law_1136 : decode cL_law 1136 = .ok (.ifCond .lt 56, 3) := by decide +kernel
theorem dL_law_1139 : decode cL_law 1139 = .ok (.iload 14, 2) := by decide +kernel
theorem dL_law_1141 : decode cL_law 1141 = .ok (.aload_n 2, 1) := by decide +kernel
theorem dL_law_1142 : decode cL_law 1142 = .ok (.iconst 0, 1) := by decide +kernel
theorem dL_law_1143 : decode cL_law 1143 = .ok (.iaload, 1) := by decide +kernel
theorem dL_law_1144 : decode cL_law 1144 = .ok (.if_icmp .ge 48, 3) := by decide +kernel
theorem dL_law_1147 : decode cL_law 1147 = .ok (.aload_n 1, 1) := by decide +kernel
theorem dL_law_1148 : decode cL_law 1148 = .ok (.bipush 11, 2) := by decide +kernel
theorem dL_law_1150 : decode cL_law 1150 = .ok (.iload 13, 2) := by decide +kernel
theorem dL_law_1152 : decode cL_law 1152 = .ok (.aload_n 2, 1) := by decide +kernel
theorem dL_law_1153 : decode cL_law 1153 = .ok (.iconst 3, 1) := by decide +kernel
theorem dL_law_1154 : decode cL_law 1154 = .ok (.iaload, 1) := by decide +kernel
theorem dL_law_1155 : decode cL_law 1155 = .ok (.irem, 1) := by decide +kernel
theorem dL_law_1156 : decode cL_law 1156 = .ok (.iload 13, 2) := by decide +kernel
theorem dL_law_1158 : decode cL_law 1158 = .ok (.bipush 8, 2) := by decide +kernel
theorem dL_law_1160 : decode cL_law 1160 = .ok (.idiv, 1) := by decide +kernel
theorem dL_law_1161 : decode cL_law 1161 = .ok (.iconst 5, 1) := by decide +kernel
theorem dL_law_1162 : decode cL_law 1162 = .ok (.irem, 1) := by decide +kernel
theorem dL_law_1163 : decode cL_law 1163 = .ok (.iload 13, 2) := by decide +kernel
theorem dL_law_1165 : decode cL_law 1165 = .ok (.bipush 40, 2) := by decide +kernel
theorem dL_law_1167 : decode cL_law 1167 = .ok (.idiv, 1) := by decide +kernel
theorem dL_law_1168 : decode cL_law 1168 = .ok (.aload_n 2, 1) := by decide +kernel
theorem dL_law_1169 : decode cL_law 1169 = .ok (.iconst 0, 1) := by decide +kernel
theorem dL_law_1170 : decode cL_law 1170 = .ok (.iaload, 1) := by decide +kernel
theorem dL_law_1171 : decode cL_law 1171 = .ok (.irem, 1) := by decide +kernel
theorem dL_law_1172 : decode cL_law 1172 = .ok (.iconst 0, 1) := by decide +kernel
theorem dL_law_1173 : decode cL_law 1173 = .ok (.invokestatic 88, 3) := by decide +kernel
theorem dL_law_1176 : decode cL_law 1176 = .ok (.iload 13, 2) := by decide +kernel
theorem dL_law_1178 : decode cL_law 1178 = .ok (.bipush 40, 2) := by decide +kernel
theorem dL_law_1180 : decode cL_law 1180 = .ok (.idiv, 1) := by decide +kernel
theorem dL_law_1181 : decode cL_law 1181 = .ok (.aload_n 2, 1) := by decide +kernel
theorem dL_law_1182 : decode cL_law 1182 = .ok (.iconst 0, 1) := by decide +kernel
theorem dL_law_1183 : decode cL_law 1183 = .ok (.iaload, 1) := by decide +kernel
theorem dL_law_1184 : decode cL_law 1184 = .ok (.irem, 1) := by decide +kernel
theorem dL_law_1185 : decode cL_law 1185 = .ok (.if_icmp .ne 7, 3) := by decide +kernel
theorem dL_law_1188 : decode cL_law 1188 = .ok (.iconst 1, 1) := by decide +kernel
theorem dL_law_1189 : decode cL_law 1189 = .ok (.goto 4, 3) := by decide +kernel
theorem dL_law_1192 : decode cL_law 1192 = .ok (.iconst 0, 1) := by decide +kernel
theorem dL_law_1193 : decode cL_law 1193 = .ok (.istore 7, 2) := by decide +kernel
theorem dL_law_1195 : decode cL_law 1195 = .ok (.goto 250, 3) := by decide +kernel
theorem dL_law_1198 : decode cL_law 1198 = .ok (.iload 10, 2) := by decide +kernel
theorem dL_law_1200 : decode cL_law 1200 = .ok (.bipush 28, 2) := by decide +kernel
theorem dL_law_1202 : decode cL_law 1202 = .ok (.if_icmp .ne 58, 3) := by decide +kernel
theorem dL_law_1205 : decode cL_law 1205 = .ok (.aload_n 1, 1) := by decide +kernel
theorem dL_law_1206 : decode cL_law 1206 = .ok (.bipush 12, 2) := by decide +kernel
theorem dL_law_1208 : decode cL_law 1208 = .ok (.iload 13, 2) := by decide +kernel
theorem dL_law_1210 : decode cL_law 1210 = .ok (.iconst 3, 1) := by decide +kernel
theorem dL_law_1211 : decode cL_law 1211 = .ok (.irem, 1) := by decide +kernel
theorem dL_law_1212 : decode cL_law 1212 = .ok (.iload 13, 2) := by decide +kernel
theorem dL_law_1214 : decode cL_law 1214 = .ok (.iconst 3, 1) := by decide +kernel
theorem dL_law_1215 : decode cL_law 1215 = .ok (.idiv, 1) := by decide +kernel
theorem dL_law_1216 : decode cL_law 1216 = .ok (.sipush 1001, 3) := by decide +kernel
theorem dL_law_1219 : decode cL_law 1219 = .ok (.irem, 1) := by decide +kernel
theorem dL_law_1220 : decode cL_law 1220 = .ok (.iconst 0, 1) := by decide +kernel
theorem dL_law_1221 : decode cL_law 1221 = .ok (.iconst 0, 1) := by decide +kernel
theorem dL_law_1222 : decode cL_law 1222 = .ok (.invokestatic 88, 3) := by decide +kernel
theorem dL_law_1225 : decode cL_law 1225 = .ok (.aload 6, 2) := by decide +kernel
theorem dL_law_1227 : decode cL_law 1227 = .ok (.iload 13, 2) := by decide +kernel
theorem dL_law_1229 : decode cL_law 1229 = .ok (.iconst 3, 1) := by decide +kernel
theorem dL_law_1230 : decode cL_law 1230 = .ok (.irem, 1) := by decide +kernel
