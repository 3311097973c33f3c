theorem dL_isRefused_1011 : decode cL_isRefused 1011 = .ok (.if_icmp .ne 40, 3) := by decide +kernel
theorem dL_isRefused_1014 : decode cL_isRefused 1014 = .ok (.aload_n 3, 1) := by decide +kernel
theorem dL_isRefused_1015 : decode cL_isRefused 1015 = .ok (.bipush 7, 2) := by decide +kernel
theorem dL_isRefused_1017 : decode cL_isRefused 1017 = .ok (.iload 14, 2) := by decide +kernel
theorem dL_isRefused_1019 : decode cL_isRefused 1019 = .ok (.imul, 1) := by decide +kernel
theorem dL_isRefused_1020 : decode cL_isRefused 1020 = .ok (.iaload, 1) := by decide +kernel
theorem dL_isRefused_1021 : decode cL_isRefused 1021 = .ok (.bipush 6, 2) := by decide +kernel
theorem dL_isRefused_1023 : decode cL_isRefused 1023 = .ok (.if_icmp .lt 24, 3) := by decide +kernel
theorem dL_isRefused_1026 : decode cL_isRefused 1026 = .ok (.aload_n 0, 1) := by decide +kernel
theorem dL_isRefused_1027 : decode cL_isRefused 1027 = .ok (.bipush 9, 2) := by decide +kernel
theorem dL_isRefused_1029 : decode cL_isRefused 1029 = .ok (.iload 14, 2) := by decide +kernel
theorem dL_isRefused_1031 : decode cL_isRefused 1031 = .ok (.iload 4, 2) := by decide +kernel
theorem dL_isRefused_1033 : decode cL_isRefused 1033 = .ok (.aload_n 1, 1) := by decide +kernel
theorem dL_isRefused_1034 : decode cL_isRefused 1034 = .ok (.iconst 1, 1) := by decide +kernel
theorem dL_isRefused_1035 : decode cL_isRefused 1035 = .ok (.iaload, 1) := by decide +kernel
theorem dL_isRefused_1036 : decode cL_isRefused 1036 = .ok (.irem, 1) := by decide +kernel
theorem dL_isRefused_1037 : decode cL_isRefused 1037 = .ok (.iconst 0, 1) := by decide +kernel
theorem dL_isRefused_1038 : decode cL_isRefused 1038 = .ok (.iconst 0, 1) := by decide +kernel
theorem dL_isRefused_1039 : decode cL_isRefused 1039 = .ok (.invokestatic 88, 3) := by decide +kernel
theorem dL_isRefused_1042 : decode cL_isRefused 1042 = .ok (.ldc 82, 2) := by decide +kernel
theorem dL_isRefused_1044 : decode cL_isRefused 1044 = .ok (.if_icmp .ne 7, 3) := by decide +kernel
theorem dL_isRefused_1047 : decode cL_isRefused 1047 = .ok (.iconst 1, 1) := by decide +kernel
theorem dL_isRefused_1048 : decode cL_isRefused 1048 = .ok (.goto 4, 3) := by decide +kernel
theorem dL_isRefused_1051 : decode cL_isRefused 1051 = .ok (.iconst 0, 1) := by decide +kernel
theorem dL_isRefused_1052 : decode cL_isRefused 1052 = .ok (.istore 13, 2) := by decide +kernel
theorem dL_isRefused_1054 : decode cL_isRefused 1054 = .ok (.iinc 14 1, 3) := by decide +kernel
theorem dL_isRefused_1057 : decode cL_isRefused 1057 = .ok (.goto (-241), 3) := by decide +kernel
theorem dL_isRefused_1060 : decode cL_isRefused 1060 = .ok (.iload 13, 2) := by decide +kernel
theorem dL_isRefused_1062 : decode cL_isRefused 1062 = .ok (.ifCond .eq 86, 3) := by decide +kernel
theorem dL_isRefused_1065 : decode cL_isRefused 1065 = .ok (.aload_n 1, 1) := by decide +kernel
theorem dL_isRefused_1066 : decode cL_isRefused 1066 = .ok (.iconst 1, 1) := by decide +kernel
theorem dL_isRefused_1067 : decode cL_isRefused 1067 = .ok (.iaload, 1) := by decide +kernel
theorem dL_isRefused_1068 : decode cL_isRefused 1068 = .ok (.bipush 10, 2) := by decide +kernel
theorem dL_isRefused_1070 : decode cL_isRefused 1070 = .ok (.if_icmp .lt 17, 3) := by decide +kernel
theorem dL_isRefused_1073 : decode cL_isRefused 1073 = .ok (.aload_n 0, 1) := by decide +kernel
theorem dL_isRefused_1074 : decode cL_isRefused 1074 = .ok (.iconst 3, 1) := by decide +kernel
theorem dL_isRefused_1075 : decode cL_isRefused 1075 = .ok (.iconst (-1), 1) := by decide +kernel
theorem dL_isRefused_1076 : decode cL_isRefused 1076 = .ok (.iconst 0, 1) := by decide +kernel
theorem dL_isRefused_1077 : decode cL_isRefused 1077 = .ok (.iconst 0, 1) := by decide +kernel
theorem dL_isRefused_1078 : decode cL_isRefused 1078 = .ok (.iconst 0, 1) := by decide +kernel
theorem dL_isRefused_1079 : decode cL_isRefused 1079 = .ok (.invokestatic 88, 3) := by decide +kernel
theorem dL_isRefused_1082 : decode cL_isRefused 1082 = .ok (.ldc 82, 2) := by decide +kernel
theorem dL_isRefused_1084 : decode cL_isRefused 1084 = .ok (.if_icmp .ne 64, 3) := by decide +kernel
theorem dL_isRefused_1087 : decode cL_isRefused 1087 = .ok (.aload_n 1, 1) := by decide +kernel
theorem dL_isRefused_1088 : decode cL_isRefused 1088 = .ok (.iconst 2, 1) := by decide +kernel
theorem dL_isRefused_1089 : decode cL_isRefused 1089 = .ok (.iaload, 1) := by decide +kernel
theorem dL_isRefused_1090 : decode cL_isRefused 1090 = .ok (.bipush 6, 2) := by decide +kernel
theorem dL_isRefused_1092 : decode cL_isRefused 1092 = .ok (.if_icmp .lt 18, 3) := by decide +kernel
theorem dL_isRefused_1095 : decode cL_isRefused 1095 = .ok (.aload_n 0, 1) := by decide +kernel
theorem dL_isRefused_1096 : decode cL_isRefused 1096 = .ok (.bipush 8, 2) := by decide +kernel
theorem dL_isRefused_1098 : decode cL_isRefused 1098 = .ok (.iconst 0, 1) := by decide +kernel
theorem dL_isRefused_1099 : decode cL_isRefused 1099 = .ok (.iconst 0, 1) := by decide +kernel
theorem dL_isRefused_1100 : decode cL_isRefused 1100 = .ok (.iconst 0, 1) := by decide +kernel
theorem dL_isRefused_1101 : decode cL_isRefused 1101 = .ok (.iconst 0, 1) := by decide +kernel
theorem dL_isRefused_1102 : decode cL_isRefused 1102 = .ok (.invokestatic 88, 3) := by decide +kernel
theorem dL_isRefused_1105 : decode cL_isRefused 1105 = .ok (.ldc 82, 2) := by decide +kernel
theorem dL_isRefused_1107 : decode cL_isRefused 1107 = .ok (.if_icmp .ne 41, 3) := by decide +kernel
theorem dL_isRefused_1110 : decode cL_isRefused 1110 = .ok (.aload_n 1, 1) := by decide +kernel
theorem dL_isRefused_1111 : decode cL_isRefused 1111 = .ok (.iconst 3, 1) := by decide +kernel
theorem dL_isRefused_1112 : decode cL_isRefused 1112 = .ok (.iaload, 1) := by decide +kernel
theorem dL_isRefused_1113 : decode cL_isRefused 1113 = .ok (.bipush 8, 2) := by decide +kernel
theorem dL_isRefused_1115 : decode cL_isRefused 1115 = .ok (.if_icmp .lt 18, 3) := by decide +kernel
theorem dL_isRefused_1118 : decode cL_isRefused 1118 = .ok (.aload_n 0, 1) := by decide +kernel
theorem dL_isRefused_1119 : decode cL_isRefused 1119 = .ok (.bipush 10, 2) := by decide +kernel
theorem dL_isRefused_1121 : decode cL_isRefused 1121 = .ok (.iconst 0, 1) := by decide +kernel
theorem dL_isRefused_1122 : decode cL_isRefused 1122 = .ok (.iconst 0, 1) := by decide +kernel
theorem dL_isRefused_1123 : decode cL_isRefused 1123 = .ok (.iconst 0, 1) := by decide +kernel
theorem dL_isRefused_1124 : decode cL_isRefused 1124 = .ok (.iconst 0, 1) := by decide +kernel
theorem dL_isRefused_1125 : decode cL_isRefused 1125 = .ok (.invokestatic 88, 3) := by decide +kernel
theorem dL_isRefused_1128 : decode cL_isRefused 1128 = .ok (.ldc 82, 2) := by decide +kernel
theorem dL_isRefused_1130 : decode cL_isRefused 1130 = .ok (.if_icmp .ne 18, 3) := by decide +kernel
theorem dL_isRefused_1133 : decode cL_isRefused 1133 = .ok (.aload_n 0, 1) := by decide +kernel
theorem dL_isRefused_1134 : decode cL_isRefused 1134 = .ok (.aload_n 1, 1) := by decide +kernel
theorem dL_isRefused_1135 : decode cL_isRefused 1135 = .ok (.invokestatic 96, 3) := by decide +kernel
theorem dL_isRefused_1138 : decode cL_isRefused 1138 = .ok (.lload 11, 2) := by decide +kernel
theorem dL_isRefused_1140 : decode cL_isRefused 1140 = .ok (.lcmp, 1) := by decide +kernel
theorem dL_isRefused_1141 : decode cL_isRefused 1141 = .ok (.ifCond .ne 7, 3) := by decide +kernel
theorem dL_isRefused_1144 : decode cL_isRefused 1144 = .ok (.iconst 1, 1) := by decide +kernel
theorem dL_isRefused_1145 : decode cL_isRefused 1145 = .ok (.goto 4, 3) := by decide +kernel
theorem dL_isRefused_1148 : decode cL_isRefused 1148 = .ok (.iconst 0, 1) := by decide +kernel
theorem dL_isRefused_1149 : decode cL_isRefused 1149 = .ok (.ireturn, 1) := by decide +kernel
theorem dL_isIn_0 : decode cL_isIn 0 = .ok (.aload_n 0, 1) := by decide +kernel
theorem dL_isIn_1 : decode cL_isIn 1 = .ok (.bipush 7, 2) := by decide +kernel
theorem dL_isIn_3 : decode cL_isIn 3 = .ok (.iload_n 2, 1) := by decide +kernel
theorem dL_isIn_4 : decode cL_isIn 4 = .ok (.imul, 1) := by decide +kernel
theorem dL_isIn_5 : decode cL_isIn 5 = .ok (.iaload, 1) := by decide +kernel
theorem dL_isIn_6 : decode cL_isIn 6 = .ok (.ifCond .eq 21, 3) := by decide +kernel
theorem dL_isIn_9 : decode cL_isIn 9 = .ok (.aload_n 1, 1) := by decide +kernel
theorem dL_isIn_10 : decode cL_isIn 10 = .ok (.iload_n 3, 1) := by decide +kernel
theorem dL_isIn_11 : decode cL_isIn 11 = .ok (.iaload, 1) := by decide +kernel
theorem dL_isIn_12 : decode cL_isIn 12 = .ok (.aload_n 0, 1) := by decide +kernel
theorem dL_isIn_13 : decode cL_isIn 13 = .ok (.bipush 7, 2) := by decide +kernel
theorem dL_isIn_15 : decode cL_isIn 15 = .ok (.iload_n 2, 1) := by decide +kernel
theorem dL_isIn_16 : decode cL_isIn 16 = .ok (.imul, 1) := by decide +kernel
theorem dL_isIn_17 : decode cL_isIn 17 = .ok (.iaload, 1) := by decide +kernel
theorem dL_isIn_18 : decode cL_isIn 18 = .ok (.iconst 1, 1) := by decide +kernel
theorem dL_isIn_19 : decode cL_isIn 19 = .ok (.isub, 1) := by decide +kernel
theorem dL_isIn_20 : decode cL_isIn 20 = .ok (.ishr, 1) := by decide +kernel
theorem dL_isIn_21 : decode cL_isIn 21 = .ok (.iconst 1, 1) := by decide +kernel
theorem dL_isIn_22 : decode cL_isIn 22 = .ok (.iand, 1) := by decide +kernel
theorem dL_isIn_23 : decode cL_isIn 23 = .ok (.iconst 1, 1) := by decide +kernel
theorem dL_isIn_24 : decode cL_isIn 24 = .ok (.if_icmp .ne 7, 3) := by decide +kernel
theorem dL_isIn_27 : decode cL_isIn 27 = .ok (.iconst 1, 1) := by decide +kernel
theorem dL_isIn_28 : decode cL_isIn 28 = .ok (.goto 4, 3) := by decide +kernel
theorem dL_isIn_31 : decode cL_isIn 31 = .ok (.iconst 0, 1) := by decide +kernel
theorem dL_isIn_32 : decode cL_isIn 32 = .ok (.ireturn, 1) := by decide +kernel
theorem dL_isRead_0 : decode cL_isRead 0 = .ok (.iconst 0, 1) := by decide +kernel
theorem dL_isRead_1 : decode cL_isRead 1 = .ok (.istore 11, 2) := by decide +kernel
theorem dL_isRead_3 : decode cL_isRead 3 = .ok (.iconst 0, 1) := by decide +kernel
theorem dL_isRead_4 : decode cL_isRead 4 = .ok (.istore 12, 2) := by decide +kernel
theorem dL_isRead_6 : decode cL_isRead 6 = .ok (.iconst 0, 1) := by decide +kernel
theorem dL_isRead_7 : decode cL_isRead 7 = .ok (.istore 13, 2) := by decide +kernel
theorem dL_isRead_9 : decode cL_isRead 9 = .ok (.iload 13, 2) := by decide +kernel
theorem dL_isRead_11 : decode cL_isRead 11 = .ok (.aload_n 3, 1) := by decide +kernel
theorem dL_isRead_12 : decode cL_isRead 12 = .ok (.bipush 7, 2) := by decide +kernel
theorem dL_isRead_14 : decode cL_isRead 14 = .ok (.iload 6, 2) := by decide +kernel
theorem dL_isRead_16 : decode cL_isRead 16 = .ok (.imul, 1) := by decide +kernel
theorem dL_isRead_17 : decode cL_isRead 17 = .ok (.iaload, 1) := by decide +kernel
theorem dL_isRead_18 : decode cL_isRead 18 = .ok (.if_icmp .ge 141, 3) := by decide +kernel
theorem dL_isRead_21 : decode cL_isRead 21 = .ok (.aload_n 3, 1) := by decide +kernel
theorem dL_isRead_22 : decode cL_isRead 22 = .ok (.bipush 7, 2) := by decide +kernel
theorem dL_isRead_24 : decode cL_isRead 24 = .ok (.iload 6, 2) := by decide +kernel
theorem dL_isRead_26 : decode cL_isRead 26 = .ok (.imul, 1) := by decide +kernel
theorem dL_isRead_27 : decode cL_isRead 27 = .ok (.iconst 1, 1) := by decide +kernel
theorem dL_isRead_28 : decode cL_isRead 28 = .ok (.iadd, 1) := by decide +kernel
theorem dL_isRead_29 : decode cL_isRead 29 = .ok (.iload 13, 2) := by decide +kernel
theorem dL_isRead_31 : decode cL_isRead 31 = .ok (.iadd, 1) := by decide +kernel
theorem dL_isRead_32 : decode cL_isRead 32 = .ok (.iaload, 1) := by decide +kernel
theorem dL_isRead_33 : decode cL_isRead 33 = .ok (.istore 14, 2) := by decide +kernel
theorem dL_isRead_35 : decode cL_isRead 35 = .ok (.aload_n 2, 1) := by decide +kernel
theorem dL_isRead_36 : decode cL_isRead 36 = .ok (.aload 4, 2) := by decide +kernel
theorem dL_isRead_38 : decode cL_isRead 38 = .ok (.iload 14, 2) := by decide +kernel
theorem dL_isRead_40 : decode cL_isRead 40 = .ok (.iload 7, 2) := by decide +kernel
theorem dL_isRead_42 : decode cL_isRead 42 = .ok (.invokestatic 100, 3) := by decide +kernel
theorem dL_isRead_45 : decode cL_isRead 45 = .ok (.istore 15, 2) := by decide +kernel
theorem dL_isRead_47 : decode cL_isRead 47 = .ok (.iload 11, 2) := by decide +kernel
theorem dL_isRead_49 : decode cL_isRead 49 = .ok (.ifCond .ne 23, 3) := by decide +kernel
theorem dL_isRead_52 : decode cL_isRead 52 = .ok (.iload 15, 2) := by decide +kernel
theorem dL_isRead_54 : decode cL_isRead 54 = .ok (.ifCond .eq 22, 3) := by decide +kernel
theorem dL_isRead_57 : decode cL_isRead 57 = .ok (.aload_n 2, 1) := by decide +kernel
theorem dL_isRead_58 : decode cL_isRead 58 = .ok (.bipush 7, 2) := by decide +kernel
theorem dL_isRead_60 : decode cL_isRead 60 = .ok (.iload 14, 2) := by decide +kernel
theorem dL_isRead_62 : decode cL_isRead 62 = .ok (.imul, 1) := by decide +kernel
theorem dL_isRead_63 : decode cL_isRead 63 = .ok (.iconst 1, 1) := by decide +kernel
theorem dL_isRead_64 : decode cL_isRead 64 = .ok (.iadd, 1) := by decide +kernel
theorem dL_isRead_65 : decode cL_isRead 65 = .ok (.iload 8, 2) := by decide +kernel
theorem dL_isRead_67 : decode cL_isRead 67 = .ok (.iadd, 1) := by decide +kernel
theorem dL_isRead_68 : decode cL_isRead 68 = .ok (.iaload, 1) := by decide +kernel
theorem dL_isRead_69 : decode cL_isRead 69 = .ok (.ifCond .le 7, 3) := by decide +kernel
theorem dL_isRead_72 : decode cL_isRead 72 = .ok (.iconst 1, 1) := by decide +kernel
theorem dL_isRead_73 : decode cL_isRead 73 = .ok (.goto 4, 3) := by decide +kernel
theorem dL_isRead_76 : decode cL_isRead 76 = .ok (.iconst 0, 1) := by decide +kernel
theorem dL_isRead_77 : decode cL_isRead 77 = .ok (.istore 11, 2) := by decide +kernel
theorem dL_isRead_79 : decode cL_isRead 79 = .ok (.iload 12, 2) := by decide +kernel
theorem dL_isRead_81 : decode cL_isRead 81 = .ok (.ifCond .ne 33, 3) := by decide +kernel
theorem dL_isRead_84 : decode cL_isRead 84 = .ok (.iload 15, 2) := by decide +kernel
theorem dL_isRead_86 : decode cL_isRead 86 = .ok (.ifCond .eq 28, 3) := by decide +kernel
theorem dL_isRead_89 : decode cL_isRead 89 = .ok (.aload_n 2, 1) := by decide +kernel
theorem dL_isRead_90 : decode cL_isRead 90 = .ok (.bipush 7, 2) := by decide +kernel
theorem dL_isRead_92 : decode cL_isRead 92 = .ok (.iload 14, 2) := by decide +kernel
theorem dL_isRead_94 : decode cL_isRead 94 = .ok (.imul, 1) := by decide +kernel
theorem dL_isRead_95 : decode cL_isRead 95 = .ok (.iconst 1, 1) := by decide +kernel
theorem dL_isRead_96 : decode cL_isRead 96 = .ok (.iadd, 1) := by decide +kernel
theorem dL_isRead_97 : decode cL_isRead 97 = .ok (.iload 8, 2) := by decide +kernel
theorem dL_isRead_99 : decode cL_isRead 99 = .ok (.iadd, 1) := by decide +kernel
theorem dL_isRead_100 : decode cL_isRead 100 = .ok (.iaload, 1) := by decide +kernel
theorem dL_isRead_101 : decode cL_isRead 101 = .ok (.ifCond .ne 13, 3) := by decide +kernel
theorem dL_isRead_104 : decode cL_isRead 104 = .ok (.bipush 10, 2) := by decide +kernel
theorem dL_isRead_106 : decode cL_isRead 106 = .ok (.iload 13, 2) := by decide +kernel
theorem dL_isRead_108 : decode cL_isRead 108 = .ok (.imul, 1) := by decide +kernel
theorem dL_isRead_109 : decode cL_isRead 109 = .ok (.iconst 1, 1) := by decide +kernel
theorem dL_isRead_110 : decode cL_isRead 110 = .ok (.iadd, 1) := by decide +kernel
theorem dL_isRead_111 : decode cL_isRead 111 = .ok (.goto 40, 3) := by decide +kernel
theorem dL_isRead_114 : decode cL_isRead 114 = .ok (.iload 12, 2) := by decide +kernel
theorem dL_isRead_116 : decode cL_isRead 116 = .ok (.ifCond .ne 33, 3) := by decide +kernel
theorem dL_isRead_119 : decode cL_isRead 119 = .ok (.iload 15, 2) := by decide +kernel
theorem dL_isRead_121 : decode cL_isRead 121 = .ok (.ifCond .eq 28, 3) := by decide +kernel
theorem dL_isRead_124 : decode cL_isRead 124 = .ok (.aload_n 2, 1) := by decide +kernel
theorem dL_isRead_125 : decode cL_isRead 125 = .ok (.bipush 7, 2) := by decide +kernel
theorem dL_isRead_127 : decode cL_isRead 127 = .ok (.iload 14, 2) := by decide +kernel
theorem dL_isRead_129 : decode cL_isRead 129 = .ok (.imul, 1) := by decide +kernel
theorem dL_isRead_130 : decode cL_isRead 130 = .ok (.iconst 4, 1) := by decide +kernel
theorem dL_isRead_131 : decode cL_isRead 131 = .ok (.iadd, 1) := by decide +kernel
theorem dL_isRead_132 : decode cL_isRead 132 = .ok (.iload 8, 2) := by decide +kernel
theorem dL_isRead_134 : decode cL_isRead 134 = .ok (.iadd, 1) := by decide +kernel
theorem dL_isRead_135 : decode cL_isRead 135 = .ok (.iaload, 1) := by decide +kernel
theorem dL_isRead_136 : decode cL_isRead 136 = .ok (.ifCond .ne 13, 3) := by decide +kernel
theorem dL_isRead_139 : decode cL_isRead 139 = .ok (.bipush 10, 2) := by decide +kernel
theorem dL_isRead_141 : decode cL_isRead 141 = .ok (.iload 13, 2) := by decide +kernel
theorem dL_isRead_143 : decode cL_isRead 143 = .ok (.imul, 1) := by decide +kernel
theorem dL_isRead_144 : decode cL_isRead 144 = .ok (.iconst 2, 1) := by decide +kernel
theorem dL_isRead_145 : decode cL_isRead 145 = .ok (.iadd, 1) := by decide +kernel
theorem dL_isRead_146 : decode cL_isRead 146 = .ok (.goto 5, 3) := by decide +kernel
theorem dL_isRead_149 : decode cL_isRead 149 = .ok (.iload 12, 2) := by decide +kernel
theorem dL_isRead_151 : decode cL_isRead 151 = .ok (.istore 12, 2) := by decide +kernel
theorem dL_isRead_153 : decode cL_isRead 153 = .ok (.iinc 13 1, 3) := by decide +kernel
theorem dL_isRead_156 : decode cL_isRead 156 = .ok (.goto (-147), 3) := by decide +kernel
theorem dL_isRead_159 : decode cL_isRead 159 = .ok (.aload_n 0, 1) := by decide +kernel
theorem dL_isRead_160 : decode cL_isRead 160 = .ok (.iload 6, 2) := by decide +kernel
theorem dL_isRead_162 : decode cL_isRead 162 = .ok (.iload 7, 2) := by decide +kernel
theorem dL_isRead_164 : decode cL_isRead 164 = .ok (.iload 8, 2) := by decide +kernel
theorem dL_isRead_166 : decode cL_isRead 166 = .ok (.iload 9, 2) := by decide +kernel
theorem dL_isRead_168 : decode cL_isRead 168 = .ok (.invokevirtual 58, 3) := by decide +kernel
theorem dL_isRead_171 : decode cL_isRead 171 = .ok (.istore 13, 2) := by decide +kernel
theorem dL_isRead_173 : decode cL_isRead 173 = .ok (.iload 13, 2) := by decide +kernel
theorem dL_isRead_175 : decode cL_isRead 175 = .ok (.bipush 10, 2) := by decide +kernel
theorem dL_isRead_177 : decode cL_isRead 177 = .ok (.idiv, 1) := by decide +kernel
theorem dL_isRead_178 : decode cL_isRead 178 = .ok (.istore 14, 2) := by decide +kernel
theorem dL_isRead_180 : decode cL_isRead 180 = .ok (.iload 13, 2) := by decide +kernel
theorem dL_isRead_182 : decode cL_isRead 182 = .ok (.ifCond .lt 98, 3) := by decide +kernel
theorem dL_isRead_185 : decode cL_isRead 185 = .ok (.iload 13, 2) := by decide +kernel
theorem dL_isRead_187 : decode cL_isRead 187 = .ok (.bipush 10, 2) := by decide +kernel
theorem dL_isRead_189 : decode cL_isRead 189 = .ok (.irem, 1) := by decide +kernel
theorem dL_isRead_190 : decode cL_isRead 190 = .ok (.iconst 5, 1) := by decide +kernel
theorem dL_isRead_191 : decode cL_isRead 191 = .ok (.if_icmp .ge 89, 3) := by decide +kernel
theorem dL_isRead_194 : decode cL_isRead 194 = .ok (.iload 13, 2) := by decide +kernel
theorem dL_isRead_196 : decode cL_isRead 196 = .ok (.ifCond .eq 46, 3) := by decide +kernel
theorem dL_isRead_199 : decode cL_isRead 199 = .ok (.iload 13, 2) := by decide +kernel
theorem dL_isRead_201 : decode cL_isRead 201 = .ok (.bipush 10, 2) := by decide +kernel
theorem dL_isRead_203 : decode cL_isRead 203 = .ok (.irem, 1) := by decide +kernel
theorem dL_isRead_204 : decode cL_isRead 204 = .ok (.ifCond .le 76, 3) := by decide +kernel
theorem dL_isRead_207 : decode cL_isRead 207 = .ok (.iload 14, 2) := by decide +kernel
theorem dL_isRead_209 : decode cL_isRead 209 = .ok (.aload_n 3, 1) := by decide +kernel
theorem dL_isRead_210 : decode cL_isRead 210 = .ok (.bipush 7, 2) := by decide +kernel
theorem dL_isRead_212 : decode cL_isRead 212 = .ok (.iload 6, 2) := by decide +kernel
theorem dL_isRead_214 : decode cL_isRead 214 = .ok (.imul, 1) := by decide +kernel
theorem dL_isRead_215 : decode cL_isRead 215 = .ok (.iaload, 1) := by decide +kernel
theorem dL_isRead_216 : decode cL_isRead 216 = .ok (.if_icmp .ge 64, 3) := by decide +kernel
theorem dL_isRead_219 : decode cL_isRead 219 = .ok (.aload_n 2, 1) := by decide +kernel
theorem dL_isRead_220 : decode cL_isRead 220 = .ok (.aload 4, 2) := by decide +kernel
theorem dL_isRead_222 : decode cL_isRead 222 = .ok (.aload_n 3, 1) := by decide +kernel
theorem dL_isRead_223 : decode cL_isRead 223 = .ok (.bipush 7, 2) := by decide +kernel
theorem dL_isRead_225 : decode cL_isRead 225 = .ok (.iload 6, 2) := by decide +kernel
theorem dL_isRead_227 : decode cL_isRead 227 = .ok (.imul, 1) := by decide +kernel
theorem dL_isRead_228 : decode cL_isRead 228 = .ok (.iconst 1, 1) := by decide +kernel
theorem dL_isRead_229 : decode cL_isRead 229 = .ok (.iadd, 1) := by decide +kernel
theorem dL_isRead_230 : decode cL_isRead 230 = .ok (.iload 14, 2) := by decide +kernel
theorem dL_isRead_232 : decode cL_isRead 232 = .ok (.iadd, 1) := by decide +kernel
theorem dL_isRead_233 : decode cL_isRead 233 = .ok (.iaload, 1) := by decide +kernel
theorem dL_isRead_234 : decode cL_isRead 234 = .ok (.iload 7, 2) := by decide +kernel
theorem dL_isRead_236 : decode cL_isRead 236 = .ok (.invokestatic 100, 3) := by decide +kernel
theorem dL_isRead_239 : decode cL_isRead 239 = .ok (.ifCond .eq 41, 3) := by decide +kernel
theorem dL_isRead_242 : decode cL_isRead 242 = .ok (.iload 13, 2) := by decide +kernel
theorem dL_isRead_244 : decode cL_isRead 244 = .ok (.bipush 10, 2) := by decide +kernel
theorem dL_isRead_246 : decode cL_isRead 246 = .ok (.irem, 1) := by decide +kernel
theorem dL_isRead_247 : decode cL_isRead 247 = .ok (.iconst 2, 1) := by decide +kernel
theorem dL_isRead_248 : decode cL_isRead 248 = .ok (.if_icmp .le 21, 3) := by decide +kernel
theorem dL_isRead_251 : decode cL_isRead 251 = .ok (.iload 12, 2) := by decide +kernel
theorem dL_isRead_253 : decode cL_isRead 253 = .ok (.ifCond .eq 23, 3) := by decide +kernel
theorem dL_isRead_256 : decode cL_isRead 256 = .ok (.iload 14, 2) := by decide +kernel
theorem dL_isRead_258 : decode cL_isRead 258 = .ok (.iload 12, 2) := by decide +kernel
theorem dL_isRead_260 : decode cL_isRead 260 = .ok (.bipush 10, 2) := by decide +kernel
theorem dL_isRead_262 : decode cL_isRead 262 = .ok (.idiv, 1) := by decide +kernel
theorem dL_isRead_263 : decode cL_isRead 263 = .ok (.if_icmp .gt 17, 3) := by decide +kernel
theorem dL_isRead_266 : decode cL_isRead 266 = .ok (.goto 10, 3) := by decide +kernel
theorem dL_isRead_269 : decode cL_isRead 269 = .ok (.iload 13, 2) := by decide +kernel
theorem dL_isRead_271 : decode cL_isRead 271 = .ok (.iload 12, 2) := by decide +kernel
theorem dL_isRead_273 : decode cL_isRead 273 = .ok (.if_icmp .ne 7, 3) := by decide +kernel
theorem dL_isRead_276 : decode cL_isRead 276 = .ok (.iconst 1, 1) := by decide +kernel
theorem dL_isRead_277 : decode cL_isRead 277 = .ok (.goto 4, 3) := by decide +kernel
theorem dL_isRead_280 : decode cL_isRead 280 = .ok (.iconst 0, 1) := by decide +kernel
theorem dL_isRead_281 : decode cL_isRead 281 = .ok (.istore 15, 2) := by decide +kernel
theorem dL_isRead_283 : decode cL_isRead 283 = .ok (.aload_n 0, 1) := by decide +kernel
theorem dL_isRead_284 : decode cL_isRead 284 = .ok (.iload 6, 2) := by decide +kernel
theorem dL_isRead_286 : decode cL_isRead 286 = .ok (.iload 7, 2) := by decide +kernel
theorem dL_isRead_288 : decode cL_isRead 288 = .ok (.iload 8, 2) := by decide +kernel
theorem dL_isRead_290 : decode cL_isRead 290 = .ok (.invokevirtual 68, 3) := by decide +kernel
theorem dL_isRead_293 : decode cL_isRead 293 = .ok (.istore 16, 2) := by decide +kernel
theorem dL_isRead_295 : decode cL_isRead 295 = .ok (.aload_n 0, 1) := by decide +kernel
theorem dL_isRead_296 : decode cL_isRead 296 = .ok (.iload 6, 2) := by decide +kernel
theorem dL_isRead_298 : decode cL_isRead 298 = .ok (.iload 7, 2) := by decide +kernel
theorem dL_isRead_300 : decode cL_isRead 300 = .ok (.iload 8, 2) := by decide +kernel
theorem dL_isRead_302 : decode cL_isRead 302 = .ok (.iconst 0, 1) := by decide +kernel
theorem dL_isRead_303 : decode cL_isRead 303 = .ok (.invokevirtual 61, 3) := by decide +kernel
theorem dL_isRead_306 : decode cL_isRead 306 = .ok (.istore 17, 2) := by decide +kernel
theorem dL_isRead_308 : decode cL_isRead 308 = .ok (.iload 15, 2) := by decide +kernel
theorem dL_isRead_310 : decode cL_isRead 310 = .ok (.ifCond .eq 64, 3) := by decide +kernel
theorem dL_isRead_313 : decode cL_isRead 313 = .ok (.iload 16, 2) := by decide +kernel
theorem dL_isRead_315 : decode cL_isRead 315 = .ok (.ifCond .lt 59, 3) := by decide +kernel
theorem dL_isRead_318 : decode cL_isRead 318 = .ok (.aload 5, 2) := by decide +kernel
theorem dL_isRead_320 : decode cL_isRead 320 = .ok (.iload 8, 2) := by decide +kernel
theorem dL_isRead_322 : decode cL_isRead 322 = .ok (.iaload, 1) := by decide +kernel
theorem dL_isRead_323 : decode cL_isRead 323 = .ok (.ifCond .ne 11, 3) := by decide +kernel
theorem dL_isRead_326 : decode cL_isRead 326 = .ok (.iload 16, 2) := by decide +kernel
theorem dL_isRead_328 : decode cL_isRead 328 = .ok (.ifCond .ne 46, 3) := by decide +kernel
theorem dL_isRead_331 : decode cL_isRead 331 = .ok (.goto 14, 3) := by decide +kernel
theorem dL_isRead_334 : decode cL_isRead 334 = .ok (.iload 16, 2) := by decide +kernel
theorem dL_isRead_336 : decode cL_isRead 336 = .ok (.aload 5, 2) := by decide +kernel
theorem dL_isRead_338 : decode cL_isRead 338 = .ok (.iload 8, 2) := by decide +kernel
theorem dL_isRead_340 : decode cL_isRead 340 = .ok (.iaload, 1) := by decide +kernel
theorem dL_isRead_341 : decode cL_isRead 341 = .ok (.irem, 1) := by decide +kernel
theorem dL_isRead_342 : decode cL_isRead 342 = .ok (.ifCond .ne 32, 3) := by decide +kernel
theorem dL_isRead_345 : decode cL_isRead 345 = .ok (.iload 17, 2) := by decide +kernel
theorem dL_isRead_347 : decode cL_isRead 347 = .ok (.ifCond .le 7, 3) := by decide +kernel
theorem dL_isRead_350 : decode cL_isRead 350 = .ok (.iconst 1, 1) := by decide +kernel
theorem dL_isRead_351 : decode cL_isRead 351 = .ok (.goto 4, 3) := by decide +kernel
theorem dL_isRead_354 : decode cL_isRead 354 = .ok (.iconst 0, 1) := by decide +kernel
theorem dL_isRead_355 : decode cL_isRead 355 = .ok (.iload 11, 2) := by decide +kernel
theorem dL_isRead_357 : decode cL_isRead 357 = .ok (.if_icmp .ne 17, 3) := by decide +kernel
theorem dL_isRead_360 : decode cL_isRead 360 = .ok (.iload 11, 2) := by decide +kernel
theorem dL_isRead_362 : decode cL_isRead 362 = .ok (.ifCond .ne 8, 3) := by decide +kernel
theorem dL_isRead_365 : decode cL_isRead 365 = .ok (.iload 16, 2) := by decide +kernel
theorem dL_isRead_367 : decode cL_isRead 367 = .ok (.ifCond .ne 7, 3) := by decide +kernel
theorem dL_isRead_370 : decode cL_isRead 370 = .ok (.iconst 1, 1) := by decide +kernel
theorem dL_isRead_371 : decode cL_isRead 371 = .ok (.goto 4, 3) := by decide +kernel
theorem dL_isRead_374 : decode cL_isRead 374 = .ok (.iconst 0, 1) := by decide +kernel
theorem dL_isRead_375 : decode cL_isRead 375 = .ok (.istore 15, 2) := by decide +kernel
theorem dL_isRead_377 : decode cL_isRead 377 = .ok (.iconst 1, 1) := by decide +kernel
theorem dL_isRead_378 : decode cL_isRead 378 = .ok (.istore 18, 2) := by decide +kernel
theorem dL_isRead_380 : decode cL_isRead 380 = .ok (.iconst 0, 1) := by decide +kernel
theorem dL_isRead_381 : decode cL_isRead 381 = .ok (.istore 19, 2) := by decide +kernel
theorem dL_isRead_383 : decode cL_isRead 383 = .ok (.iconst 0, 1) := by decide +kernel
theorem dL_isRead_384 : decode cL_isRead 384 = .ok (.istore 20, 2) := by decide +kernel
theorem dL_isRead_386 : decode cL_isRead 386 = .ok (.iconst 0, 1) := by decide +kernel
theorem dL_isRead_387 : decode cL_isRead 387 = .ok (.istore 21, 2) := by decide +kernel
theorem dL_isRead_389 : decode cL_isRead 389 = .ok (.iconst 0, 1) := by decide +kernel
theorem dL_isRead_390 : decode cL_isRead 390 = .ok (.istore 22, 2) := by decide +kernel
theorem dL_isRead_392 : decode cL_isRead 392 = .ok (.iload 22, 2) := by decide +kernel
theorem dL_isRead_394 : decode cL_isRead 394 = .ok (.bipush 10, 2) := by decide +kernel
theorem dL_isRead_396 : decode cL_isRead 396 = .ok (.if_icmp .ge 222, 3) := by decide +kernel
theorem dL_isRead_399 : decode cL_isRead 399 = .ok (.iload 15, 2) := by decide +kernel
theorem dL_isRead_401 : decode cL_isRead 401 = .ok (.ifCond .eq 217, 3) := by decide +kernel
theorem dL_isRead_404 : decode cL_isRead 404 = .ok (.iload 17, 2) := by decide +kernel
theorem dL_isRead_406 : decode cL_isRead 406 = .ok (.ifCond .le 212, 3) := by decide +kernel
theorem dL_isRead_409 : decode cL_isRead 409 = .ok (.iload 17, 2) := by decide +kernel
theorem dL_isRead_411 : decode cL_isRead 411 = .ok (.bipush 65, 2) := by decide +kernel
theorem dL_isRead_413 : decode cL_isRead 413 = .ok (.if_icmp .lt 14, 3) := by decide +kernel
theorem dL_isRead_416 : decode cL_isRead 416 = .ok (.iload 17, 2) := by decide +kernel
theorem dL_isRead_418 : decode cL_isRead 418 = .ok (.bipush 90, 2) := by decide +kernel
theorem dL_isRead_420 : decode cL_isRead 420 = .ok (.if_icmp .gt 7, 3) := by decide +kernel
theorem dL_isRead_423 : decode cL_isRead 423 = .ok (.iconst 1, 1) := by decide +kernel
theorem dL_isRead_424 : decode cL_isRead 424 = .ok (.goto 4, 3) := by decide +kernel
theorem dL_isRead_427 : decode cL_isRead 427 = .ok (.iconst 0, 1) := by decide +kernel
theorem dL_isRead_428 : decode cL_isRead 428 = .ok (.istore 23, 2) := by decide +kernel
theorem dL_isRead_430 : decode cL_isRead 430 = .ok (.iload 17, 2) := by decide +kernel
theorem dL_isRead_432 : decode cL_isRead 432 = .ok (.bipush 97, 2) := by decide +kernel
theorem dL_isRead_434 : decode cL_isRead 434 = .ok (.if_icmp .lt 14, 3) := by decide +kernel
theorem dL_isRead_437 : decode cL_isRead 437 = .ok (.iload 17, 2) := by decide +kernel
theorem dL_isRead_439 : decode cL_isRead 439 = .ok (.bipush 122, 2) := by decide +kernel
theorem dL_isRead_441 : decode cL_isRead 441 = .ok (.if_icmp .gt 7, 3) := by decide +kernel
theorem dL_isRead_444 : decode cL_isRead 444 = .ok (.iconst 1, 1) := by decide +kernel
theorem dL_isRead_445 : decode cL_isRead 445 = .ok (.goto 4, 3) := by decide +kernel
theorem dL_isRead_448 : decode cL_isRead 448 = .ok (.iconst 0, 1) := by decide +kernel
theorem dL_isRead_449 : decode cL_isRead 449 = .ok (.istore 24, 2) := by decide +kernel
theorem dL_isRead_451 : decode cL_isRead 451 = .ok (.iload 23, 2) := by decide +kernel
theorem dL_isRead_453 : decode cL_isRead 453 = .ok (.ifCond .ne 22, 3) := by decide +kernel
theorem dL_isRead_456 : decode cL_isRead 456 = .ok (.iload 24, 2) := by decide +kernel
theorem dL_isRead_458 : decode cL_isRead 458 = .ok (.ifCond .ne 17, 3) := by decide +kernel
theorem dL_isRead_461 : decode cL_isRead 461 = .ok (.iload 17, 2) := by decide +kernel
theorem dL_isRead_463 : decode cL_isRead 463 = .ok (.bipush 32, 2) := by decide +kernel
theorem dL_isRead_465 : decode cL_isRead 465 = .ok (.if_icmp .eq 10, 3) := by decide +kernel
theorem dL_isRead_468 : decode cL_isRead 468 = .ok (.iload 17, 2) := by decide +kernel
theorem dL_isRead_470 : decode cL_isRead 470 = .ok (.bipush 46, 2) := by decide +kernel
theorem dL_isRead_472 : decode cL_isRead 472 = .ok (.if_icmp .ne 52, 3) := by decide +kernel
theorem dL_isRead_475 : decode cL_isRead 475 = .ok (.iload 23, 2) := by decide +kernel
theorem dL_isRead_477 : decode cL_isRead 477 = .ok (.ifCond .eq 8, 3) := by decide +kernel
theorem dL_isRead_480 : decode cL_isRead 480 = .ok (.iload 18, 2) := by decide +kernel
theorem dL_isRead_482 : decode cL_isRead 482 = .ok (.ifCond .eq 42, 3) := by decide +kernel
theorem dL_isRead_485 : decode cL_isRead 485 = .ok (.iload 24, 2) := by decide +kernel
theorem dL_isRead_487 : decode cL_isRead 487 = .ok (.ifCond .eq 8, 3) := by decide +kernel
theorem dL_isRead_490 : decode cL_isRead 490 = .ok (.iload 18, 2) := by decide +kernel
theorem dL_isRead_492 : decode cL_isRead 492 = .ok (.ifCond .ne 32, 3) := by decide +kernel
theorem dL_isRead_495 : decode cL_isRead 495 = .ok (.iload 22, 2) := by decide +kernel
theorem dL_isRead_497 : decode cL_isRead 497 = .ok (.bipush 8, 2) := by decide +kernel
theorem dL_isRead_499 : decode cL_isRead 499 = .ok (.irem, 1) := by decide +kernel
theorem dL_isRead_500 : decode cL_isRead 500 = .ok (.ifCond .gt 20, 3) := by decide +kernel
theorem dL_isRead_503 : decode cL_isRead 503 = .ok (.aload_n 0, 1) := by decide +kernel
theorem dL_isRead_504 : decode cL_isRead 504 = .ok (.iload 6, 2) := by decide +kernel
theorem dL_isRead_506 : decode cL_isRead 506 = .ok (.iload 7, 2) := by decide +kernel
theorem dL_isRead_508 : decode cL_isRead 508 = .ok (.iload 8, 2) := by decide +kernel
theorem dL_isRead_510 : decode cL_isRead 510 = .ok (.iload 22, 2) := by decide +kernel
theorem dL_isRead_512 : decode cL_isRead 512 = .ok (.invokevirtual 65, 3) := by decide +kernel
theorem dL_isRead_515 : decode cL_isRead 515 = .ok (.iload 17, 2) := by decide +kernel
theorem dL_isRead_517 : decode cL_isRead 517 = .ok (.if_icmp .ne 7, 3) := by decide +kernel
theorem dL_isRead_520 : decode cL_isRead 520 = .ok (.iconst 1, 1) := by decide +kernel
theorem dL_isRead_521 : decode cL_isRead 521 = .ok (.goto 4, 3) := by decide +kernel
theorem dL_isRead_524 : decode cL_isRead 524 = .ok (.iconst 0, 1) := by decide +kernel
theorem dL_isRead_525 : decode cL_isRead 525 = .ok (.istore 15, 2) := by decide +kernel
theorem dL_isRead_527 : decode cL_isRead 527 = .ok (.iload 20, 2) := by decide +kernel
theorem dL_isRead_529 : decode cL_isRead 529 = .ok (.iload 23, 2) := by decide +kernel
theorem dL_isRead_531 : decode cL_isRead 531 = .ok (.ifCond .ne 8, 3) := by decide +kernel
theorem dL_isRead_534 : decode cL_isRead 534 = .ok (.iload 24, 2) := by decide +kernel
theorem dL_isRead_536 : decode cL_isRead 536 = .ok (.ifCond .eq 12, 3) := by decide +kernel
theorem dL_isRead_539 : decode cL_isRead 539 = .ok (.iload 19, 2) := by decide +kernel
theorem dL_isRead_541 : decode cL_isRead 541 = .ok (.ifCond .ne 7, 3) := by decide +kernel
theorem dL_isRead_544 : decode cL_isRead 544 = .ok (.iconst 1, 1) := by decide +kernel
theorem dL_isRead_545 : decode cL_isRead 545 = .ok (.goto 4, 3) := by decide +kernel
theorem dL_isRead_548 : decode cL_isRead 548 = .ok (.iconst 0, 1) := by decide +kernel
theorem dL_isRead_549 : decode cL_isRead 549 = .ok (.iadd, 1) := by decide +kernel
theorem dL_isRead_550 : decode cL_isRead 550 = .ok (.istore 20, 2) := by decide +kernel
theorem dL_isRead_552 : decode cL_isRead 552 = .ok (.iload 23, 2) := by decide +kernel
theorem dL_isRead_554 : decode cL_isRead 554 = .ok (.ifCond .ne 8, 3) := by decide +kernel
theorem dL_isRead_557 : decode cL_isRead 557 = .ok (.iload 24, 2) := by decide +kernel
theorem dL_isRead_559 : decode cL_isRead 559 = .ok (.ifCond .eq 7, 3) := by decide +kernel
theorem dL_isRead_562 : decode cL_isRead 562 = .ok (.iconst 1, 1) := by decide +kernel
theorem dL_isRead_563 : decode cL_isRead 563 = .ok (.goto 4, 3) := by decide +kernel
theorem dL_isRead_566 : decode cL_isRead 566 = .ok (.iconst 0, 1) := by decide +kernel
theorem dL_isRead_567 : decode cL_isRead 567 = .ok (.istore 19, 2) := by decide +kernel
theorem dL_isRead_569 : decode cL_isRead 569 = .ok (.iload 17, 2) := by decide +kernel
theorem dL_isRead_571 : decode cL_isRead 571 = .ok (.bipush 46, 2) := by decide +kernel
theorem dL_isRead_573 : decode cL_isRead 573 = .ok (.if_icmp .eq 13, 3) := by decide +kernel
theorem dL_isRead_576 : decode cL_isRead 576 = .ok (.iload 18, 2) := by decide +kernel
theorem dL_isRead_578 : decode cL_isRead 578 = .ok (.ifCond .eq 12, 3) := by decide +kernel
theorem dL_isRead_581 : decode cL_isRead 581 = .ok (.iload 19, 2) := by decide +kernel
theorem dL_isRead_583 : decode cL_isRead 583 = .ok (.ifCond .ne 7, 3) := by decide +kernel
theorem dL_isRead_586 : decode cL_isRead 586 = .ok (.iconst 1, 1) := by decide +kernel
theorem dL_isRead_587 : decode cL_isRead 587 = .ok (.goto 4, 3) := by decide +kernel
theorem dL_isRead_590 : decode cL_isRead 590 = .ok (.iconst 0, 1) := by decide +kernel
theorem dL_isRead_591 : decode cL_isRead 591 = .ok (.istore 18, 2) := by decide +kernel
theorem dL_isRead_593 : decode cL_isRead 593 = .ok (.iinc 21 1, 3) := by decide +kernel
theorem dL_isRead_596 : decode cL_isRead 596 = .ok (.aload_n 0, 1) := by decide +kernel
theorem dL_isRead_597 : decode cL_isRead 597 = .ok (.iload 6, 2) := by decide +kernel
theorem dL_isRead_599 : decode cL_isRead 599 = .ok (.iload 7, 2) := by decide +kernel
theorem dL_isRead_601 : decode cL_isRead 601 = .ok (.iload 8, 2) := by decide +kernel
theorem dL_isRead_603 : decode cL_isRead 603 = .ok (.iload 22, 2) := by decide +kernel
theorem dL_isRead_605 : decode cL_isRead 605 = .ok (.iconst 1, 1) := by decide +kernel
theorem dL_isRead_606 : decode cL_isRead 606 = .ok (.iadd, 1) := by decide +kernel
theorem dL_isRead_607 : decode cL_isRead 607 = .ok (.invokevirtual 61, 3) := by decide +kernel
theorem dL_isRead_610 : decode cL_isRead 610 = .ok (.istore 17, 2) := by decide +kernel
theorem dL_isRead_612 : decode cL_isRead 612 = .ok (.iinc 22 1, 3) := by decide +kernel
theorem dL_isRead_615 : decode cL_isRead 615 = .ok (.goto (-223), 3) := by decide +kernel
theorem dL_isRead_618 : decode cL_isRead 618 = .ok (.iload 15, 2) := by decide +kernel
theorem dL_isRead_620 : decode cL_isRead 620 = .ok (.ifCond .eq 67, 3) := by decide +kernel
theorem dL_isRead_623 : decode cL_isRead 623 = .ok (.iload 17, 2) := by decide +kernel
theorem dL_isRead_625 : decode cL_isRead 625 = .ok (.ifCond .le 19, 3) := by decide +kernel
theorem dL_isRead_628 : decode cL_isRead 628 = .ok (.iload 20, 2) := by decide +kernel
theorem dL_isRead_630 : decode cL_isRead 630 = .ok (.aload 5, 2) := by decide +kernel
theorem dL_isRead_632 : decode cL_isRead 632 = .ok (.iload 8, 2) := by decide +kernel
theorem dL_isRead_634 : decode cL_isRead 634 = .ok (.iaload, 1) := by decide +kernel
theorem dL_isRead_635 : decode cL_isRead 635 = .ok (.imul, 1) := by decide +kernel
theorem dL_isRead_636 : decode cL_isRead 636 = .ok (.iload 16, 2) := by decide +kernel
theorem dL_isRead_638 : decode cL_isRead 638 = .ok (.if_icmp .gt 49, 3) := by decide +kernel
theorem dL_isRead_641 : decode cL_isRead 641 = .ok (.goto 16, 3) := by decide +kernel
theorem dL_isRead_644 : decode cL_isRead 644 = .ok (.iload 20, 2) := by decide +kernel
theorem dL_isRead_646 : decode cL_isRead 646 = .ok (.aload 5, 2) := by decide +kernel
theorem dL_isRead_648 : decode cL_isRead 648 = .ok (.iload 8, 2) := by decide +kernel
theorem dL_isRead_650 : decode cL_isRead 650 = .ok (.iaload, 1) := by decide +kernel
theorem dL_isRead_651 : decode cL_isRead 651 = .ok (.imul, 1) := by decide +kernel
theorem dL_isRead_652 : decode cL_isRead 652 = .ok (.iload 16, 2) := by decide +kernel
theorem dL_isRead_654 : decode cL_isRead 654 = .ok (.if_icmp .ne 33, 3) := by decide +kernel
theorem dL_isRead_657 : decode cL_isRead 657 = .ok (.iload 17, 2) := by decide +kernel
theorem dL_isRead_659 : decode cL_isRead 659 = .ok (.ifCond .gt 24, 3) := by decide +kernel
theorem dL_isRead_662 : decode cL_isRead 662 = .ok (.aload_n 0, 1) := by decide +kernel
theorem dL_isRead_663 : decode cL_isRead 663 = .ok (.iload 6, 2) := by decide +kernel
theorem dL_isRead_665 : decode cL_isRead 665 = .ok (.iload 7, 2) := by decide +kernel
theorem dL_isRead_667 : decode cL_isRead 667 = .ok (.iload 8, 2) := by decide +kernel
theorem dL_isRead_669 : decode cL_isRead 669 = .ok (.iload 21, 2) := by decide +kernel
theorem dL_isRead_671 : decode cL_isRead 671 = .ok (.iload 10, 2) := by decide +kernel
theorem dL_isRead_673 : decode cL_isRead 673 = .ok (.bipush 50, 2) := by decide +kernel
theorem dL_isRead_675 : decode cL_isRead 675 = .ok (.irem, 1) := by decide +kernel
theorem dL_isRead_676 : decode cL_isRead 676 = .ok (.iadd, 1) := by decide +kernel
theorem dL_isRead_677 : decode cL_isRead 677 = .ok (.invokevirtual 61, 3) := by decide +kernel
theorem dL_isRead_680 : decode cL_isRead 680 = .ok (.ifCond .ne 7, 3) := by decide +kernel
theorem dL_isRead_683 : decode cL_isRead 683 = .ok (.iconst 1, 1) := by decide +kernel
theorem dL_isRead_684 : decode cL_isRead 684 = .ok (.goto 4, 3) := by decide +kernel
theorem dL_isRead_687 : decode cL_isRead 687 = .ok (.iconst 0, 1) := by decide +kernel
theorem dL_isRead_688 : decode cL_isRead 688 = .ok (.ireturn, 1) := by decide +kernel
theorem dL_areSampled_0 : decode cL_areSampled 0 = .ok (.iconst 0, 1) := by decide +kernel
theorem dL_areSampled_1 : decode cL_areSampled 1 = .ok (.istore 5, 2) := by decide +kernel
theorem dL_areSampled_3 : decode cL_areSampled 3 = .ok (.iconst 0, 1) := by decide +kernel
theorem dL_areSampled_4 : decode cL_areSampled 4 = .ok (.istore 6, 2) := by decide +kernel
theorem dL_areSampled_6 : decode cL_areSampled 6 = .ok (.iconst 1, 1) := by decide +kernel
theorem dL_areSampled_7 : decode cL_areSampled 7 = .ok (.istore 7, 2) := by decide +kernel
theorem dL_areSampled_9 : decode cL_areSampled 9 = .ok (.iconst 0, 1) := by decide +kernel
theorem dL_areSampled_10 : decode cL_areSampled 10 = .ok (.istore 8, 2) := by decide +kernel
theorem dL_areSampled_12 : decode cL_areSampled 12 = .ok (.iconst 0, 1) := by decide +kernel
theorem dL_areSampled_13 : decode cL_areSampled 13 = .ok (.istore 9, 2) := by decide +kernel
theorem dL_areSampled_15 : decode cL_areSampled 15 = .ok (.iload 9, 2) := by decide +kernel
theorem dL_areSampled_17 : decode cL_areSampled 17 = .ok (.aload_n 3, 1) := by decide +kernel
theorem dL_areSampled_18 : decode cL_areSampled 18 = .ok (.bipush 7, 2) := by decide +kernel
theorem dL_areSampled_20 : decode cL_areSampled 20 = .ok (.iload 4, 2) := by decide +kernel
theorem dL_areSampled_22 : decode cL_areSampled 22 = .ok (.imul, 1) := by decide +kernel
theorem dL_areSampled_23 : decode cL_areSampled 23 = .ok (.iaload, 1) := by decide +kernel
theorem dL_areSampled_24 : decode cL_areSampled 24 = .ok (.if_icmp .ge 41, 3) := by decide +kernel
theorem dL_areSampled_27 : decode cL_areSampled 27 = .ok (.iload 8, 2) := by decide +kernel
theorem dL_areSampled_29 : decode cL_areSampled 29 = .ok (.ifCond .ne 23, 3) := by decide +kernel
theorem dL_areSampled_32 : decode cL_areSampled 32 = .ok (.aload_n 2, 1) := by decide +kernel
theorem dL_areSampled_33 : decode cL_areSampled 33 = .ok (.bipush 7, 2) := by decide +kernel
theorem dL_areSampled_35 : decode cL_areSampled 35 = .ok (.aload_n 3, 1) := by decide +kernel
theorem dL_areSampled_36 : decode cL_areSampled 36 = .ok (.bipush 7, 2) := by decide +kernel
theorem dL_areSampled_38 : decode cL_areSampled 38 = .ok (.iload 4, 2) := by decide +kernel
theorem dL_areSampled_40 : decode cL_areSampled 40 = .ok (.imul, 1) := by decide +kernel
theorem dL_areSampled_41 : decode cL_areSampled 41 = .ok (.iconst 1, 1) := by decide +kernel
theorem dL_areSampled_42 : decode cL_areSampled 42 = .ok (.iadd, 1) := by decide +kernel
theorem dL_areSampled_43 : decode cL_areSampled 43 = .ok (.iload 9, 2) := by decide +kernel
theorem dL_areSampled_45 : decode cL_areSampled 45 = .ok (.iadd, 1) := by decide +kernel
theorem dL_areSampled_46 : decode cL_areSampled 46 = .ok (.iaload, 1) := by decide +kernel
theorem dL_areSampled_47 : decode cL_areSampled 47 = .ok (.imul, 1) := by decide +kernel
theorem dL_areSampled_48 : decode cL_areSampled 48 = .ok (.iaload, 1) := by decide +kernel
theorem dL_areSampled_49 : decode cL_areSampled 49 = .ok (.ifCond .le 7, 3) := by decide +kernel
theorem dL_areSampled_52 : decode cL_areSampled 52 = .ok (.iconst 1, 1) := by decide +kernel
theorem dL_areSampled_53 : decode cL_areSampled 53 = .ok (.goto 4, 3) := by decide +kernel
theorem dL_areSampled_56 : decode cL_areSampled 56 = .ok (.iconst 0, 1) := by decide +kernel
theorem dL_areSampled_57 : decode cL_areSampled 57 = .ok (.istore 8, 2) := by decide +kernel
theorem dL_areSampled_59 : decode cL_areSampled 59 = .ok (.iinc 9 1, 3) := by decide +kernel
theorem dL_areSampled_62 : decode cL_areSampled 62 = .ok (.goto (-47), 3) := by decide +kernel
theorem dL_areSampled_65 : decode cL_areSampled 65 = .ok (.iconst 0, 1) := by decide +kernel
theorem dL_areSampled_66 : decode cL_areSampled 66 = .ok (.istore 9, 2) := by decide +kernel
theorem dL_areSampled_68 : decode cL_areSampled 68 = .ok (.iload 9, 2) := by decide +kernel
theorem dL_areSampled_70 : decode cL_areSampled 70 = .ok (.bipush 9, 2) := by decide +kernel
theorem dL_areSampled_72 : decode cL_areSampled 72 = .ok (.if_icmp .ge 129, 3) := by decide +kernel
theorem dL_areSampled_75 : decode cL_areSampled 75 = .ok (.iload 7, 2) := by decide +kernel
theorem dL_areSampled_77 : decode cL_areSampled 77 = .ok (.ifCond .eq 124, 3) := by decide +kernel
theorem dL_areSampled_80 : decode cL_areSampled 80 = .ok (.aload_n 0, 1) := by decide +kernel
theorem dL_areSampled_81 : decode cL_areSampled 81 = .ok (.iload 4, 2) := by decide +kernel
theorem dL_areSampled_83 : decode cL_areSampled 83 = .ok (.iload 9, 2) := by decide +kernel
theorem dL_areSampled_85 : decode cL_areSampled 85 = .ok (.invokevirtual 71, 3) := by decide +kernel
theorem dL_areSampled_88 : decode cL_areSampled 88 = .ok (.istore 10, 2) := by decide +kernel
theorem dL_areSampled_90 : decode cL_areSampled 90 = .ok (.iload 10, 2) := by decide +kernel
theorem dL_areSampled_92 : decode cL_areSampled 92 = .ok (.iconst (-1), 1) := by decide +kernel
theorem dL_areSampled_93 : decode cL_areSampled 93 = .ok (.if_icmp .lt 69, 3) := by decide +kernel
theorem dL_areSampled_96 : decode cL_areSampled 96 = .ok (.iload 10, 2) := by decide +kernel
theorem dL_areSampled_98 : decode cL_areSampled 98 = .ok (.aload_n 1, 1) := by decide +kernel
theorem dL_areSampled_99 : decode cL_areSampled 99 = .ok (.iconst 3, 1) := by decide +kernel
theorem dL_areSampled_100 : decode cL_areSampled 100 = .ok (.iaload, 1) := by decide +kernel
theorem dL_areSampled_101 : decode cL_areSampled 101 = .ok (.if_icmp .ge 61, 3) := by decide +kernel
theorem dL_areSampled_104 : decode cL_areSampled 104 = .ok (.iload 10, 2) := by decide +kernel
theorem dL_areSampled_106 : decode cL_areSampled 106 = .ok (.ifCond .lt 18, 3) := by decide +kernel
theorem dL_areSampled_109 : decode cL_areSampled 109 = .ok (.iload 6, 2) := by decide +kernel
theorem dL_areSampled_111 : decode cL_areSampled 111 = .ok (.ifCond .ne 51, 3) := by decide +kernel
theorem dL_areSampled_114 : decode cL_areSampled 114 = .ok (.iload 5, 2) := by decide +kernel
theorem dL_areSampled_116 : decode cL_areSampled 116 = .ok (.iload 10, 2) := by decide +kernel
theorem dL_areSampled_118 : decode cL_areSampled 118 = .ok (.ishr, 1) := by decide +kernel
theorem dL_areSampled_119 : decode cL_areSampled 119 = .ok (.iconst 1, 1) := by decide +kernel
theorem dL_areSampled_120 : decode cL_areSampled 120 = .ok (.iand, 1) := by decide +kernel
theorem dL_areSampled_121 : decode cL_areSampled 121 = .ok (.ifCond .ne 41, 3) := by decide +kernel
theorem dL_areSampled_124 : decode cL_areSampled 124 = .ok (.iload 9, 2) := by decide +kernel
theorem dL_areSampled_126 : decode cL_areSampled 126 = .ok (.ifCond .gt 32, 3) := by decide +kernel
theorem dL_areSampled_129 : decode cL_areSampled 129 = .ok (.iload 10, 2) := by decide +kernel
theorem dL_areSampled_131 : decode cL_areSampled 131 = .ok (.ifCond .lt 7, 3) := by decide +kernel
theorem dL_areSampled_134 : decode cL_areSampled 134 = .ok (.iconst 1, 1) := by decide +kernel
theorem dL_areSampled_135 : decode cL_areSampled 135 = .ok (.goto 4, 3) := by decide +kernel
theorem dL_areSampled_138 : decode cL_areSampled 138 = .ok (.iconst 0, 1) := by decide +kernel
theorem dL_areSampled_139 : decode cL_areSampled 139 = .ok (.iload 8, 2) := by decide +kernel
theorem dL_areSampled_141 : decode cL_areSampled 141 = .ok (.ifCond .eq 13, 3) := by decide +kernel
theorem dL_areSampled_144 : decode cL_areSampled 144 = .ok (.aload_n 1, 1) := by decide +kernel
theorem dL_areSampled_145 : decode cL_areSampled 145 = .ok (.iconst 3, 1) := by decide +kernel
theorem dL_areSampled_146 : decode cL_areSampled 146 = .ok (.iaload, 1) := by decide +kernel
theorem dL_areSampled_147 : decode cL_areSampled 147 = .ok (.ifCond .le 7, 3) := by decide +kernel
theorem dL_areSampled_150 : decode cL_areSampled 150 = .ok (.iconst 1, 1) := by decide +kernel
theorem dL_areSampled_151 : decode cL_areSampled 151 = .ok (.goto 4, 3) := by decide +kernel
theorem dL_areSampled_154 : decode cL_areSampled 154 = .ok (.iconst 0, 1) := by decide +kernel
theorem dL_areSampled_155 : decode cL_areSampled 155 = .ok (.if_icmp .ne 7, 3) := by decide +kernel
theorem dL_areSampled_158 : decode cL_areSampled 158 = .ok (.iconst 1, 1) := by decide +kernel
theorem dL_areSampled_159 : decode cL_areSampled 159 = .ok (.goto 4, 3) := by decide +kernel
theorem dL_areSampled_162 : decode cL_areSampled 162 = .ok (.iconst 0, 1) := by decide +kernel
theorem dL_areSampled_163 : decode cL_areSampled 163 = .ok (.istore 7, 2) := by decide +kernel
theorem dL_areSampled_165 : decode cL_areSampled 165 = .ok (.iload 5, 2) := by decide +kernel
theorem dL_areSampled_167 : decode cL_areSampled 167 = .ok (.iload 10, 2) := by decide +kernel
theorem dL_areSampled_169 : decode cL_areSampled 169 = .ok (.ifCond .ge 7, 3) := by decide +kernel
theorem dL_areSampled_172 : decode cL_areSampled 172 = .ok (.iconst 0, 1) := by decide +kernel
theorem dL_areSampled_173 : decode cL_areSampled 173 = .ok (.goto 7, 3) := by decide +kernel
theorem dL_areSampled_176 : decode cL_areSampled 176 = .ok (.iconst 1, 1) := by decide +kernel
theorem dL_areSampled_177 : decode cL_areSampled 177 = .ok (.iload 10, 2) := by decide +kernel
theorem dL_areSampled_179 : decode cL_areSampled 179 = .ok (.ishl, 1) := by decide +kernel
theorem dL_areSampled_180 : decode cL_areSampled 180 = .ok (.ior, 1) := by decide +kernel
theorem dL_areSampled_181 : decode cL_areSampled 181 = .ok (.istore 5, 2) := by decide +kernel
theorem dL_areSampled_183 : decode cL_areSampled 183 = .ok (.iload 10, 2) := by decide +kernel
theorem dL_areSampled_185 : decode cL_areSampled 185 = .ok (.ifCond .ge 7, 3) := by decide +kernel
theorem dL_areSampled_188 : decode cL_areSampled 188 = .ok (.iconst 1, 1) := by decide +kernel
theorem dL_areSampled_189 : decode cL_areSampled 189 = .ok (.goto 4, 3) := by decide +kernel
theorem dL_areSampled_192 : decode cL_areSampled 192 = .ok (.iconst 0, 1) := by decide +kernel
theorem dL_areSampled_193 : decode cL_areSampled 193 = .ok (.istore 6, 2) := by decide +kernel
theorem dL_areSampled_195 : decode cL_areSampled 195 = .ok (.iinc 9 1, 3) := by decide +kernel
theorem dL_areSampled_198 : decode cL_areSampled 198 = .ok (.goto (-130), 3) := by decide +kernel
theorem dL_areSampled_201 : decode cL_areSampled 201 = .ok (.iload 7, 2) := by decide +kernel
theorem dL_areSampled_203 : decode cL_areSampled 203 = .ok (.ireturn, 1) := by decide +kernel
theorem dL_areSound_0 : decode cL_areSound 0 = .ok (.aload_n 0, 1) := by decide +kernel
theorem dL_areSound_1 : decode cL_areSound 1 = .ok (.invokevirtual 83, 3) := by decide +kernel
theorem dL_areSound_4 : decode cL_areSound 4 = .ok (.istore 8, 2) := by decide +kernel
theorem dL_areSound_6 : decode cL_areSound 6 = .ok (.aload_n 1, 1) := by decide +kernel
theorem dL_areSound_7 : decode cL_areSound 7 = .ok (.iconst 4, 1) := by decide +kernel
theorem dL_areSound_8 : decode cL_areSound 8 = .ok (.iaload, 1) := by decide +kernel
theorem dL_areSound_9 : decode cL_areSound 9 = .ok (.ifCond .ne 16, 3) := by decide +kernel
theorem dL_areSound_12 : decode cL_areSound 12 = .ok (.iload 8, 2) := by decide +kernel
theorem dL_areSound_14 : decode cL_areSound 14 = .ok (.ifCond .ne 7, 3) := by decide +kernel
theorem dL_areSound_17 : decode cL_areSound 17 = .ok (.iconst 1, 1) := by decide +kernel
theorem dL_areSound_18 : decode cL_areSound 18 = .ok (.goto 26, 3) := by decide +kernel
theorem dL_areSound_21 : decode cL_areSound 21 = .ok (.iconst 0, 1) := by decide +kernel
theorem dL_areSound_22 : decode cL_areSound 22 = .ok (.goto 22, 3) := by decide +kernel
theorem dL_areSound_25 : decode cL_areSound 25 = .ok (.iload 8, 2) := by decide +kernel
theorem dL_areSound_27 : decode cL_areSound 27 = .ok (.iconst (-1), 1) := by decide +kernel
theorem dL_areSound_28 : decode cL_areSound 28 = .ok (.if_icmp .lt 15, 3) := by decide +kernel
theorem dL_areSound_31 : decode cL_areSound 31 = .ok (.iload 8, 2) := by decide +kernel
theorem dL_areSound_33 : decode cL_areSound 33 = .ok (.aload_n 1, 1) := by decide +kernel
theorem dL_areSound_34 : decode cL_areSound 34 = .ok (.iconst 4, 1) := by decide +kernel
theorem dL_areSound_35 : decode cL_areSound 35 = .ok (.iaload, 1) := by decide +kernel
theorem dL_areSound_36 : decode cL_areSound 36 = .ok (.if_icmp .gt 7, 3) := by decide +kernel
theorem dL_areSound_39 : decode cL_areSound 39 = .ok (.iconst 1, 1) := by decide +kernel
theorem dL_areSound_40 : decode cL_areSound 40 = .ok (.goto 4, 3) := by decide +kernel
theorem dL_areSound_43 : decode cL_areSound 43 = .ok (.iconst 0, 1) := by decide +kernel
theorem dL_areSound_44 : decode cL_areSound 44 = .ok (.istore 9, 2) := by decide +kernel
theorem dL_areSound_46 : decode cL_areSound 46 = .ok (.iload 9, 2) := by decide +kernel
theorem dL_areSound_48 : decode cL_areSound 48 = .ok (.ifCond .eq 17, 3) := by decide +kernel
theorem dL_areSound_51 : decode cL_areSound 51 = .ok (.aload_n 1, 1) := by decide +kernel
theorem dL_areSound_52 : decode cL_areSound 52 = .ok (.iconst 2, 1) := by decide +kernel
theorem dL_areSound_53 : decode cL_areSound 53 = .ok (.iaload, 1) := by decide +kernel
theorem dL_areSound_54 : decode cL_areSound 54 = .ok (.ifCond .eq 11, 3) := by decide +kernel
theorem dL_areSound_57 : decode cL_areSound 57 = .ok (.iload 7, 2) := by decide +kernel
theorem dL_areSound_59 : decode cL_areSound 59 = .ok (.bipush 6, 2) := by decide +kernel
theorem dL_areSound_61 : decode cL_areSound 61 = .ok (.irem, 1) := by decide +kernel
theorem dL_areSound_62 : decode cL_areSound 62 = .ok (.ifCond .le 6, 3) := by decide +kernel
theorem dL_areSound_65 : decode cL_areSound 65 = .ok (.iload 9, 2) := by decide +kernel
theorem dL_areSound_67 : decode cL_areSound 67 = .ok (.ireturn, 1) := by decide +kernel
theorem dL_areSound_68 : decode cL_areSound 68 = .ok (.iload 6, 2) := by decide +kernel
theorem dL_areSound_70 : decode cL_areSound 70 = .ok (.aload_n 1, 1) := by decide +kernel
theorem dL_areSound_71 : decode cL_areSound 71 = .ok (.iconst 2, 1) := by decide +kernel
theorem dL_areSound_72 : decode cL_areSound 72 = .ok (.iaload, 1) := by decide +kernel
theorem dL_areSound_73 : decode cL_areSound 73 = .ok (.irem, 1) := by decide +kernel
theorem dL_areSound_74 : decode cL_areSound 74 = .ok (.istore 10, 2) := by decide +kernel
theorem dL_areSound_76 : decode cL_areSound 76 = .ok (.aload_n 0, 1) := by decide +kernel
theorem dL_areSound_77 : decode cL_areSound 77 = .ok (.aload_n 1, 1) := by decide +kernel
theorem dL_areSound_78 : decode cL_areSound 78 = .ok (.aload_n 2, 1) := by decide +kernel
theorem dL_areSound_79 : decode cL_areSound 79 = .ok (.aload_n 3, 1) := by decide +kernel
theorem dL_areSound_80 : decode cL_areSound 80 = .ok (.iload 10, 2) := by decide +kernel
theorem dL_areSound_82 : decode cL_areSound 82 = .ok (.invokestatic 104, 3) := by decide +kernel
theorem dL_areSound_85 : decode cL_areSound 85 = .ok (.ifCond .eq 55, 3) := by decide +kernel
theorem dL_areSound_88 : decode cL_areSound 88 = .ok (.aload_n 1, 1) := by decide +kernel
theorem dL_areSound_89 : decode cL_areSound 89 = .ok (.iconst 3, 1) := by decide +kernel
theorem dL_areSound_90 : decode cL_areSound 90 = .ok (.iaload, 1) := by decide +kernel
theorem dL_areSound_91 : decode cL_areSound 91 = .ok (.ifCond .eq 45, 3) := by decide +kernel
theorem dL_areSound_94 : decode cL_areSound 94 = .ok (.aload_n 0, 1) := by decide +kernel
theorem dL_areSound_95 : decode cL_areSound 95 = .ok (.aload_n 1, 1) := by decide +kernel
theorem dL_areSound_96 : decode cL_areSound 96 = .ok (.aload_n 2, 1) := by decide +kernel
theorem dL_areSound_97 : decode cL_areSound 97 = .ok (.aload_n 3, 1) := by decide +kernel
theorem dL_areSound_98 : decode cL_areSound 98 = .ok (.aload 4, 2) := by decide +kernel
theorem dL_areSound_100 : decode cL_areSound 100 = .ok (.aload 5, 2) := by decide +kernel
theorem dL_areSound_102 : decode cL_areSound 102 = .ok (.iload 10, 2) := by decide +kernel
theorem dL_areSound_104 : decode cL_areSound 104 = .ok (.iload 6, 2) := by decide +kernel
theorem dL_areSound_106 : decode cL_areSound 106 = .ok (.bipush 6, 2) := by decide +kernel
theorem dL_areSound_108 : decode cL_areSound 108 = .ok (.idiv, 1) := by decide +kernel
theorem dL_areSound_109 : decode cL_areSound 109 = .ok (.aload_n 1, 1) := by decide +kernel
theorem dL_areSound_110 : decode cL_areSound 110 = .ok (.iconst 3, 1) := by decide +kernel
theorem dL_areSound_111 : decode cL_areSound 111 = .ok (.iaload, 1) := by decide +kernel
theorem dL_areSound_112 : decode cL_areSound 112 = .ok (.irem, 1) := by decide +kernel
theorem dL_areSound_113 : decode cL_areSound 113 = .ok (.iload 6, 2) := by decide +kernel
theorem dL_areSound_115 : decode cL_areSound 115 = .ok (.bipush 48, 2) := by decide +kernel
theorem dL_areSound_117 : decode cL_areSound 117 = .ok (.idiv, 1) := by decide +kernel
theorem dL_areSound_118 : decode cL_areSound 118 = .ok (.iconst 3, 1) := by decide +kernel
theorem dL_areSound_119 : decode cL_areSound 119 = .ok (.irem, 1) := by decide +kernel
theorem dL_areSound_120 : decode cL_areSound 120 = .ok (.iload 6, 2) := by decide +kernel
theorem dL_areSound_122 : decode cL_areSound 122 = .ok (.sipush 144, 3) := by decide +kernel
theorem dL_areSound_125 : decode cL_areSound 125 = .ok (.idiv, 1) := by decide +kernel
theorem dL_areSound_126 : decode cL_areSound 126 = .ok (.iconst 4, 1) := by decide +kernel
theorem dL_areSound_127 : decode cL_areSound 127 = .ok (.irem, 1) := by decide +kernel
theorem dL_areSound_128 : decode cL_areSound 128 = .ok (.iload 6, 2) := by decide +kernel
theorem dL_areSound_130 : decode cL_areSound 130 = .ok (.invokestatic 108, 3) := by decide +kernel
theorem dL_areSound_133 : decode cL_areSound 133 = .ok (.ifCond .eq 7, 3) := by decide +kernel
theorem dL_areSound_136 : decode cL_areSound 136 = .ok (.iconst 1, 1) := by decide +kernel
theorem dL_areSound_137 : decode cL_areSound 137 = .ok (.goto 4, 3) := by decide +kernel
theorem dL_areSound_140 : decode cL_areSound 140 = .ok (.iconst 0, 1) := by decide +kernel
theorem dL_areSound_141 : decode cL_areSound 141 = .ok (.ireturn, 1) := by decide +kernel
theorem dL_types_0 : decode cL_types 0 = .ok (.iconst 1, 1) := by decide +kernel
theorem dL_types_1 : decode cL_types 1 = .ok (.istore_n 3, 1) := by decide +kernel
theorem dL_types_2 : decode cL_types 2 = .ok (.iconst 0, 1) := by decide +kernel
theorem dL_types_3 : decode cL_types 3 = .ok (.istore 4, 2) := by decide +kernel
theorem dL_types_5 : decode cL_types 5 = .ok (.iload 4, 2) := by decide +kernel
theorem dL_types_7 : decode cL_types 7 = .ok (.iconst 1, 1) := by decide +kernel
theorem dL_types_8 : decode cL_types 8 = .ok (.iload_n 2, 1) := by decide +kernel
theorem dL_types_9 : decode cL_types 9 = .ok (.bipush 6, 2) := by decide +kernel
theorem dL_types_11 : decode cL_types 11 = .ok (.irem, 1) := by decide +kernel
theorem dL_types_12 : decode cL_types 12 = .ok (.iadd, 1) := by decide +kernel
theorem dL_types_13 : decode cL_types 13 = .ok (.if_icmp .ge 293, 3) := by decide +kernel
theorem dL_types_16 : decode cL_types 16 = .ok (.iload_n 3, 1) := by decide +kernel
theorem dL_types_17 : decode cL_types 17 = .ok (.ifCond .eq 289, 3) := by decide +kernel
theorem dL_types_20 : decode cL_types 20 = .ok (.iload_n 2, 1) := by decide +kernel
theorem dL_types_21 : decode cL_types 21 = .ok (.bipush 6, 2) := by decide +kernel
theorem dL_types_23 : decode cL_types 23 = .ok (.bipush 7, 2) := by decide +kernel
theorem dL_types_25 : decode cL_types 25 = .ok (.iload 4, 2) := by decide +kernel
theorem dL_types_27 : decode cL_types 27 = .ok (.imul, 1) := by decide +kernel
theorem dL_types_28 : decode cL_types 28 = .ok (.iadd, 1) := by decide +kernel
theorem dL_types_29 : decode cL_types 29 = .ok (.idiv, 1) := by decide +kernel
theorem dL_types_30 : decode cL_types 30 = .ok (.istore 5, 2) := by decide +kernel
theorem dL_types_32 : decode cL_types 32 = .ok (.iload 5, 2) := by decide +kernel
theorem dL_types_34 : decode cL_types 34 = .ok (.iconst 4, 1) := by decide +kernel
theorem dL_types_35 : decode cL_types 35 = .ok (.irem, 1) := by decide +kernel
theorem dL_types_36 : decode cL_types 36 = .ok (.ifCond .ne 186, 3) := by decide +kernel
theorem dL_types_39 : decode cL_types 39 = .ok (.aload_n 1, 1) := by decide +kernel
theorem dL_types_40 : decode cL_types 40 = .ok (.iconst 4, 1) := by decide +kernel
theorem dL_types_41 : decode cL_types 41 = .ok (.iaload, 1) := by decide +kernel
theorem dL_types_42 : decode cL_types 42 = .ok (.bipush 55, 2) := by decide +kernel
theorem dL_types_44 : decode cL_types 44 = .ok (.if_icmp .ge 178, 3) := by decide +kernel
theorem dL_types_47 : decode cL_types 47 = .ok (.aload_n 0, 1) := by decide +kernel
theorem dL_types_48 : decode cL_types 48 = .ok (.iconst 0, 1) := by decide +kernel
theorem dL_types_49 : decode cL_types 49 = .ok (.bipush 91, 2) := by decide +kernel
theorem dL_types_51 : decode cL_types 51 = .ok (.iconst 0, 1) := by decide +kernel
theorem dL_types_52 : decode cL_types 52 = .ok (.iconst 0, 1) := by decide +kernel
theorem dL_types_53 : decode cL_types 53 = .ok (.iconst 0, 1) := by decide +kernel
theorem dL_types_54 : decode cL_types 54 = .ok (.invokestatic 88, 3) := by decide +kernel
theorem dL_types_57 : decode cL_types 57 = .ok (.aload_n 1, 1) := by decide +kernel
theorem dL_types_58 : decode cL_types 58 = .ok (.iconst 4, 1) := by decide +kernel
theorem dL_types_59 : decode cL_types 59 = .ok (.iaload, 1) := by decide +kernel
theorem dL_types_60 : decode cL_types 60 = .ok (.iconst 1, 1) := by decide +kernel
theorem dL_types_61 : decode cL_types 61 = .ok (.iadd, 1) := by decide +kernel
theorem dL_types_62 : decode cL_types 62 = .ok (.if_icmp .ne 148, 3) := by decide +kernel
theorem dL_types_65 : decode cL_types 65 = .ok (.aload_n 0, 1) := by decide +kernel
theorem dL_types_66 : decode cL_types 66 = .ok (.iconst 0, 1) := by decide +kernel
theorem dL_types_67 : decode cL_types 67 = .ok (.bipush 48, 2) := by decide +kernel
theorem dL_types_69 : decode cL_types 69 = .ok (.iload 5, 2) := by decide +kernel
theorem dL_types_71 : decode cL_types 71 = .ok (.iconst 4, 1) := by decide +kernel
theorem dL_types_72 : decode cL_types 72 = .ok (.idiv, 1) := by decide +kernel
theorem dL_types_73 : decode cL_types 73 = .ok (.iconst 5, 1) := by decide +kernel
theorem dL_types_74 : decode cL_types 74 = .ok (.irem, 1) := by decide +kernel
theorem dL_types_75 : decode cL_types 75 = .ok (.iadd, 1) := by decide +kernel
theorem dL_types_76 : decode cL_types 76 = .ok (.iconst 0, 1) := by decide +kernel
theorem dL_types_77 : decode cL_types 77 = .ok (.iconst 0, 1) := by decide +kernel
theorem dL_types_78 : decode cL_types 78 = .ok (.iconst 0, 1) := by decide +kernel
theorem dL_types_79 : decode cL_types 79 = .ok (.invokestatic 88, 3) := by decide +kernel
theorem dL_types_82 : decode cL_types 82 = .ok (.aload_n 1, 1) := by decide +kernel
theorem dL_types_83 : decode cL_types 83 = .ok (.iconst 4, 1) := by decide +kernel
theorem dL_types_84 : decode cL_types 84 = .ok (.iaload, 1) := by decide +kernel
theorem dL_types_85 : decode cL_types 85 = .ok (.iconst 2, 1) := by decide +kernel
theorem dL_types_86 : decode cL_types 86 = .ok (.iadd, 1) := by decide +kernel
theorem dL_types_87 : decode cL_types 87 = .ok (.if_icmp .ne 123, 3) := by decide +kernel
theorem dL_types_90 : decode cL_types 90 = .ok (.aload_n 0, 1) := by decide +kernel
theorem dL_types_91 : decode cL_types 91 = .ok (.iconst 0, 1) := by decide +kernel
theorem dL_types_92 : decode cL_types 92 = .ok (.iload 5, 2) := by decide +kernel
theorem dL_types_94 : decode cL_types 94 = .ok (.bipush 20, 2) := by decide +kernel
theorem dL_types_96 : decode cL_types 96 = .ok (.idiv, 1) := by decide +kernel
theorem dL_types_97 : decode cL_types 97 = .ok (.iconst 4, 1) := by decide +kernel
theorem dL_types_98 : decode cL_types 98 = .ok (.irem, 1) := by decide +kernel
theorem dL_types_99 : decode cL_types 99 = .ok (.ifCond .ne 8, 3) := by decide +kernel
theorem dL_types_102 : decode cL_types 102 = .ok (.bipush 110, 2) := by decide +kernel
theorem dL_types_104 : decode cL_types 104 = .ok (.goto 37, 3) := by decide +kernel
theorem dL_types_107 : decode cL_types 107 = .ok (.iload 5, 2) := by decide +kernel
theorem dL_types_109 : decode cL_types 109 = .ok (.bipush 20, 2) := by decide +kernel
theorem dL_types_111 : decode cL_types 111 = .ok (.idiv, 1) := by decide +kernel
theorem dL_types_112 : decode cL_types 112 = .ok (.iconst 4, 1) := by decide +kernel
theorem dL_types_113 : decode cL_types 113 = .ok (.irem, 1) := by decide +kernel
theorem dL_types_114 : decode cL_types 114 = .ok (.iconst 1, 1) := by decide +kernel
theorem dL_types_115 : decode cL_types 115 = .ok (.if_icmp .ne 8, 3) := by decide +kernel
theorem dL_types_118 : decode cL_types 118 = .ok (.bipush 103, 2) := by decide +kernel
theorem dL_types_120 : decode cL_types 120 = .ok (.goto 21, 3) := by decide +kernel
theorem dL_types_123 : decode cL_types 123 = .ok (.iload 5, 2) := by decide +kernel
theorem dL_types_125 : decode cL_types 125 = .ok (.bipush 20, 2) := by decide +kernel
theorem dL_types_127 : decode cL_types 127 = .ok (.idiv, 1) := by decide +kernel
theorem dL_types_128 : decode cL_types 128 = .ok (.iconst 4, 1) := by decide +kernel
theorem dL_types_129 : decode cL_types 129 = .ok (.irem, 1) := by decide +kernel
theorem dL_types_130 : decode cL_types 130 = .ok (.iconst 2, 1) := by decide +kernel
theorem dL_types_131 : decode cL_types 131 = .ok (.if_icmp .ne 8, 3) := by decide +kernel
theorem dL_types_134 : decode cL_types 134 = .ok (.bipush 100, 2) := by decide +kernel
theorem dL_types_136 : decode cL_types 136 = .ok (.goto 5, 3) := by decide +kernel
theorem dL_types_139 : decode cL_types 139 = .ok (.bipush 97, 2) := by decide +kernel
theorem dL_types_141 : decode cL_types 141 = .ok (.iconst 0, 1) := by decide +kernel
theorem dL_types_142 : decode cL_types 142 = .ok (.iconst 0, 1) := by decide +kernel
theorem dL_types_143 : decode cL_types 143 = .ok (.iconst 0, 1) := by decide +kernel
theorem dL_types_144 : decode cL_types 144 = .ok (.invokestatic 88, 3) := by decide +kernel
theorem dL_types_147 : decode cL_types 147 = .ok (.aload_n 1, 1) := by decide +kernel
theorem dL_types_148 : decode cL_types 148 = .ok (.iconst 4, 1) := by decide +kernel
theorem dL_types_149 : decode cL_types 149 = .ok (.iaload, 1) := by decide +kernel
theorem dL_types_150 : decode cL_types 150 = .ok (.iconst 3, 1) := by decide +kernel
theorem dL_types_151 : decode cL_types 151 = .ok (.iadd, 1) := by decide +kernel
theorem dL_types_152 : decode cL_types 152 = .ok (.if_icmp .ne 58, 3) := by decide +kernel
theorem dL_types_155 : decode cL_types 155 = .ok (.aload_n 0, 1) := by decide +kernel
theorem dL_types_156 : decode cL_types 156 = .ok (.iconst 0, 1) := by decide +kernel
theorem dL_types_157 : decode cL_types 157 = .ok (.iload 5, 2) := by decide +kernel
theorem dL_types_159 : decode cL_types 159 = .ok (.bipush 80, 2) := by decide +kernel
theorem dL_types_161 : decode cL_types 161 = .ok (.idiv, 1) := by decide +kernel
theorem dL_types_162 : decode cL_types 162 = .ok (.iconst 2, 1) := by decide +kernel
theorem dL_types_163 : decode cL_types 163 = .ok (.irem, 1) := by decide +kernel
theorem dL_types_164 : decode cL_types 164 = .ok (.ifCond .ne 8, 3) := by decide +kernel
theorem dL_types_167 : decode cL_types 167 = .ok (.bipush 115, 2) := by decide +kernel
theorem dL_types_169 : decode cL_types 169 = .ok (.goto 5, 3) := by decide +kernel
theorem dL_types_172 : decode cL_types 172 = .ok (.bipush 112, 2) := by decide +kernel
theorem dL_types_174 : decode cL_types 174 = .ok (.iconst 0, 1) := by decide +kernel
theorem dL_types_175 : decode cL_types 175 = .ok (.iconst 0, 1) := by decide +kernel
theorem dL_types_176 : decode cL_types 176 = .ok (.iconst 0, 1) := by decide +kernel
theorem dL_types_177 : decode cL_types 177 = .ok (.invokestatic 88, 3) := by decide +kernel
theorem dL_types_180 : decode cL_types 180 = .ok (.aload_n 1, 1) := by decide +kernel
theorem dL_types_181 : decode cL_types 181 = .ok (.iconst 4, 1) := by decide +kernel
theorem dL_types_182 : decode cL_types 182 = .ok (.iaload, 1) := by decide +kernel
theorem dL_types_183 : decode cL_types 183 = .ok (.iconst 4, 1) := by decide +kernel
theorem dL_types_184 : decode cL_types 184 = .ok (.iadd, 1) := by decide +kernel
theorem dL_types_185 : decode cL_types 185 = .ok (.if_icmp .ne 25, 3) := by decide +kernel
theorem dL_types_188 : decode cL_types 188 = .ok (.aload_n 0, 1) := by decide +kernel
theorem dL_types_189 : decode cL_types 189 = .ok (.iconst 0, 1) := by decide +kernel
theorem dL_types_190 : decode cL_types 190 = .ok (.bipush 93, 2) := by decide +kernel
theorem dL_types_192 : decode cL_types 192 = .ok (.iconst 0, 1) := by decide +kernel
theorem dL_types_193 : decode cL_types 193 = .ok (.iconst 0, 1) := by decide +kernel
theorem dL_types_194 : decode cL_types 194 = .ok (.iconst 0, 1) := by decide +kernel
theorem dL_types_195 : decode cL_types 195 = .ok (.invokestatic 88, 3) := by decide +kernel
theorem dL_types_198 : decode cL_types 198 = .ok (.aload_n 1, 1) := by decide +kernel
theorem dL_types_199 : decode cL_types 199 = .ok (.iconst 4, 1) := by decide +kernel
theorem dL_types_200 : decode cL_types 200 = .ok (.iaload, 1) := by decide +kernel
theorem dL_types_201 : decode cL_types 201 = .ok (.iconst 5, 1) := by decide +kernel
theorem dL_types_202 : decode cL_types 202 = .ok (.iadd, 1) := by decide +kernel
theorem dL_types_203 : decode cL_types 203 = .ok (.if_icmp .ne 7, 3) := by decide +kernel
theorem dL_types_206 : decode cL_types 206 = .ok (.iconst 1, 1) := by decide +kernel
theorem dL_types_207 : decode cL_types 207 = .ok (.goto 4, 3) := by decide +kernel
theorem dL_types_210 : decode cL_types 210 = .ok (.iconst 0, 1) := by decide +kernel
theorem dL_types_211 : decode cL_types 211 = .ok (.istore_n 3, 1) := by decide +kernel
theorem dL_types_212 : decode cL_types 212 = .ok (.aload_n 1, 1) := by decide +kernel
theorem dL_types_213 : decode cL_types 213 = .ok (.iconst 4, 1) := by decide +kernel
theorem dL_types_214 : decode cL_types 214 = .ok (.dup2, 1) := by decide +kernel
theorem dL_types_215 : decode cL_types 215 = .ok (.iaload, 1) := by decide +kernel
theorem dL_types_216 : decode cL_types 216 = .ok (.iconst 5, 1) := by decide +kernel
theorem dL_types_217 : decode cL_types 217 = .ok (.iadd, 1) := by decide +kernel
theorem dL_types_218 : decode cL_types 218 = .ok (.iastore, 1) := by decide +kernel
theorem dL_types_219 : decode cL_types 219 = .ok (.goto 81, 3) := by decide +kernel
theorem dL_types_222 : decode cL_types 222 = .ok (.aload_n 1, 1) := by decide +kernel
theorem dL_types_223 : decode cL_types 223 = .ok (.iconst 4, 1) := by decide +kernel
theorem dL_types_224 : decode cL_types 224 = .ok (.iaload, 1) := by decide +kernel
theorem dL_types_225 : decode cL_types 225 = .ok (.bipush 60, 2) := by decide +kernel
theorem dL_types_227 : decode cL_types 227 = .ok (.if_icmp .ge 73, 3) := by decide +kernel
theorem dL_types_230 : decode cL_types 230 = .ok (.aload_n 1, 1) := by decide +kernel
theorem dL_types_231 : decode cL_types 231 = .ok (.iconst 4, 1) := by decide +kernel
theorem dL_types_232 : decode cL_types 232 = .ok (.dup2, 1) := by decide +kernel
theorem dL_types_233 : decode cL_types 233 = .ok (.iaload, 1) := by decide +kernel
theorem dL_types_234 : decode cL_types 234 = .ok (.iconst 1, 1) := by decide +kernel
theorem dL_types_235 : decode cL_types 235 = .ok (.iadd, 1) := by decide +kernel
theorem dL_types_236 : decode cL_types 236 = .ok (.iastore, 1) := by decide +kernel
theorem dL_types_237 : decode cL_types 237 = .ok (.aload_n 0, 1) := by decide +kernel
theorem dL_types_238 : decode cL_types 238 = .ok (.iconst 0, 1) := by decide +kernel
theorem dL_types_239 : decode cL_types 239 = .ok (.iload 5, 2) := by decide +kernel
theorem dL_types_241 : decode cL_types 241 = .ok (.iconst 4, 1) := by decide +kernel
theorem dL_types_242 : decode cL_types 242 = .ok (.irem, 1) := by decide +kernel
theorem dL_types_243 : decode cL_types 243 = .ok (.iconst 1, 1) := by decide +kernel
theorem dL_types_244 : decode cL_types 244 = .ok (.if_icmp .ne 8, 3) := by decide +kernel
theorem dL_types_247 : decode cL_types 247 = .ok (.bipush 32, 2) := by decide +kernel
theorem dL_types_249 : decode cL_types 249 = .ok (.goto 33, 3) := by decide +kernel
theorem dL_types_252 : decode cL_types 252 = .ok (.iload 5, 2) := by decide +kernel
theorem dL_types_254 : decode cL_types 254 = .ok (.iconst 4, 1) := by decide +kernel
theorem dL_types_255 : decode cL_types 255 = .ok (.irem, 1) := by decide +kernel
theorem dL_types_256 : decode cL_types 256 = .ok (.iconst 2, 1) := by decide +kernel
theorem dL_types_257 : decode cL_types 257 = .ok (.if_icmp .ne 15, 3) := by decide +kernel
theorem dL_types_260 : decode cL_types 260 = .ok (.iload 5, 2) := by decide +kernel
theorem dL_types_262 : decode cL_types 262 = .ok (.iconst 3, 1) := by decide +kernel
theorem dL_types_263 : decode cL_types 263 = .ok (.irem, 1) := by decide +kernel
theorem dL_types_264 : decode cL_types 264 = .ok (.ifCond .ne 8, 3) := by decide +kernel
theorem dL_types_267 : decode cL_types 267 = .ok (.bipush 46, 2) := by decide +kernel
theorem dL_types_269 : decode cL_types 269 = .ok (.goto 13, 3) := by decide +kernel
theorem dL_types_272 : decode cL_types 272 = .ok (.bipush 97, 2) := by decide +kernel
theorem dL_types_274 : decode cL_types 274 = .ok (.iload 5, 2) := by decide +kernel
theorem dL_types_276 : decode cL_types 276 = .ok (.iconst 4, 1) := by decide +kernel
theorem dL_types_277 : decode cL_types 277 = .ok (.idiv, 1) := by decide +kernel
theorem dL_types_278 : decode cL_types 278 = .ok (.bipush 26, 2) := by decide +kernel
theorem dL_types_280 : decode cL_types 280 = .ok (.irem, 1) := by decide +kernel
theorem dL_types_281 : decode cL_types 281 = .ok (.iadd, 1) := by decide +kernel
theorem dL_types_282 : decode cL_types 282 = .ok (.iconst 0, 1) := by decide +kernel
theorem dL_types_283 : decode cL_types 283 = .ok (.iconst 0, 1) := by decide +kernel
theorem dL_types_284 : decode cL_types 284 = .ok (.iconst 0, 1) := by decide +kernel
theorem dL_types_285 : decode cL_types 285 = .ok (.invokestatic 88, 3) := by decide +kernel
theorem dL_types_288 : decode cL_types 288 = .ok (.aload_n 1, 1) := by decide +kernel
theorem dL_types_289 : decode cL_types 289 = .ok (.iconst 4, 1) := by decide +kernel
theorem dL_types_290 : decode cL_types 290 = .ok (.iaload, 1) := by decide +kernel
theorem dL_types_291 : decode cL_types 291 = .ok (.if_icmp .ne 7, 3) := by decide +kernel
theorem dL_types_294 : decode cL_types 294 = .ok (.iconst 1, 1) := by decide +kernel
theorem dL_types_295 : decode cL_types 295 = .ok (.goto 4, 3) := by decide +kernel
theorem dL_types_298 : decode cL_types 298 = .ok (.iconst 0, 1) := by decide +kernel
theorem dL_types_299 : decode cL_types 299 = .ok (.istore_n 3, 1) := by decide +kernel
theorem dL_types_300 : decode cL_types 300 = .ok (.iinc 4 1, 3) := by decide +kernel
theorem dL_types_303 : decode cL_types 303 = .ok (.goto (-298), 3) := by decide +kernel
theorem dL_types_306 : decode cL_types 306 = .ok (.iload_n 3, 1) := by decide +kernel
theorem dL_types_307 : decode cL_types 307 = .ok (.ireturn, 1) := by decide +kernel
theorem dL_spells_0 : decode cL_spells 0 = .ok (.aload_n 0, 1) := by decide +kernel
theorem dL_spells_1 : decode cL_spells 1 = .ok (.invokevirtual 112, 3) := by decide +kernel
theorem dL_spells_4 : decode cL_spells 4 = .ok (.aload_n 1, 1) := by decide +kernel
theorem dL_spells_5 : decode cL_spells 5 = .ok (.iconst 4, 1) := by decide +kernel
theorem dL_spells_6 : decode cL_spells 6 = .ok (.iaload, 1) := by decide +kernel
theorem dL_spells_7 : decode cL_spells 7 = .ok (.if_icmp .ne 7, 3) := by decide +kernel
theorem dL_spells_10 : decode cL_spells 10 = .ok (.iconst 1, 1) := by decide +kernel
theorem dL_spells_11 : decode cL_spells 11 = .ok (.goto 4, 3) := by decide +kernel
theorem dL_spells_14 : decode cL_spells 14 = .ok (.iconst 0, 1) := by decide +kernel
theorem dL_spells_15 : decode cL_spells 15 = .ok (.istore 4, 2) := by decide +kernel
theorem dL_spells_17 : decode cL_spells 17 = .ok (.aload_n 1, 1) := by decide +kernel
theorem dL_spells_18 : decode cL_spells 18 = .ok (.iconst 4, 1) := by decide +kernel
theorem dL_spells_19 : decode cL_spells 19 = .ok (.iconst 0, 1) := by decide +kernel
theorem dL_spells_20 : decode cL_spells 20 = .ok (.iastore, 1) := by decide +kernel
theorem dL_spells_21 : decode cL_spells 21 = .ok (.iconst 0, 1) := by decide +kernel
theorem dL_spells_22 : decode cL_spells 22 = .ok (.istore 5, 2) := by decide +kernel
theorem dL_spells_24 : decode cL_spells 24 = .ok (.iload 5, 2) := by decide +kernel
theorem dL_spells_26 : decode cL_spells 26 = .ok (.iload_n 2, 1) := by decide +kernel
theorem dL_spells_27 : decode cL_spells 27 = .ok (.if_icmp .ge 56, 3) := by decide +kernel
theorem dL_spells_30 : decode cL_spells 30 = .ok (.iload 4, 2) := by decide +kernel
theorem dL_spells_32 : decode cL_spells 32 = .ok (.ifCond .eq 51, 3) := by decide +kernel
theorem dL_spells_35 : decode cL_spells 35 = .ok (.aload_n 1, 1) := by decide +kernel
theorem dL_spells_36 : decode cL_spells 36 = .ok (.iconst 4, 1) := by decide +kernel
theorem dL_spells_37 : decode cL_spells 37 = .ok (.dup2, 1) := by decide +kernel
theorem dL_spells_38 : decode cL_spells 38 = .ok (.iaload, 1) := by decide +kernel
theorem dL_spells_39 : decode cL_spells 39 = .ok (.iconst 1, 1) := by decide +kernel
theorem dL_spells_40 : decode cL_spells 40 = .ok (.iadd, 1) := by decide +kernel
theorem dL_spells_41 : decode cL_spells 41 = .ok (.iastore, 1) := by decide +kernel
theorem dL_spells_42 : decode cL_spells 42 = .ok (.aload_n 0, 1) := by decide +kernel
theorem dL_spells_43 : decode cL_spells 43 = .ok (.iconst 0, 1) := by decide +kernel
theorem dL_spells_44 : decode cL_spells 44 = .ok (.bipush 97, 2) := by decide +kernel
theorem dL_spells_46 : decode cL_spells 46 = .ok (.iload_n 3, 1) := by decide +kernel
theorem dL_spells_47 : decode cL_spells 47 = .ok (.iconst 1, 1) := by decide +kernel
theorem dL_spells_48 : decode cL_spells 48 = .ok (.iconst 3, 1) := by decide +kernel
theorem dL_spells_49 : decode cL_spells 49 = .ok (.iload 5, 2) := by decide +kernel
theorem dL_spells_51 : decode cL_spells 51 = .ok (.imul, 1) := by decide +kernel
theorem dL_spells_52 : decode cL_spells 52 = .ok (.iadd, 1) := by decide +kernel
theorem dL_spells_53 : decode cL_spells 53 = .ok (.idiv, 1) := by decide +kernel
theorem dL_spells_54 : decode cL_spells 54 = .ok (.bipush 26, 2) := by decide +kernel
theorem dL_spells_56 : decode cL_spells 56 = .ok (.irem, 1) := by decide +kernel
theorem dL_spells_57 : decode cL_spells 57 = .ok (.iadd, 1) := by decide +kernel
theorem dL_spells_58 : decode cL_spells 58 = .ok (.iconst 0, 1) := by decide +kernel
theorem dL_spells_59 : decode cL_spells 59 = .ok (.iconst 0, 1) := by decide +kernel
theorem dL_spells_60 : decode cL_spells 60 = .ok (.iconst 0, 1) := by decide +kernel
theorem dL_spells_61 : decode cL_spells 61 = .ok (.invokestatic 88, 3) := by decide +kernel
theorem dL_spells_64 : decode cL_spells 64 = .ok (.aload_n 1, 1) := by decide +kernel
theorem dL_spells_65 : decode cL_spells 65 = .ok (.iconst 4, 1) := by decide +kernel
theorem dL_spells_66 : decode cL_spells 66 = .ok (.iaload, 1) := by decide +kernel
theorem dL_spells_67 : decode cL_spells 67 = .ok (.if_icmp .ne 7, 3) := by decide +kernel
theorem dL_spells_70 : decode cL_spells 70 = .ok (.iconst 1, 1) := by decide +kernel
theorem dL_spells_71 : decode cL_spells 71 = .ok (.goto 4, 3) := by decide +kernel
theorem dL_spells_74 : decode cL_spells 74 = .ok (.iconst 0, 1) := by decide +kernel
theorem dL_spells_75 : decode cL_spells 75 = .ok (.istore 4, 2) := by decide +kernel
theorem dL_spells_77 : decode cL_spells 77 = .ok (.iinc 5 1, 3) := by decide +kernel
theorem dL_spells_80 : decode cL_spells 80 = .ok (.goto (-56), 3) := by decide +kernel
theorem dL_spells_83 : decode cL_spells 83 = .ok (.iload 4, 2) := by decide +kernel
theorem dL_spells_85 : decode cL_spells 85 = .ok (.ireturn, 1) := by decide +kernel
