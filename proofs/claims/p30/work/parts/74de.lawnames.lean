/-! THE LAW: instructions and calls (of claim/NAMES.whole.lean.txt) -/
theorem dL_acts_970 : decode cL_acts 970 = .ok (.iaload, 1) := by decide +kernel
theorem dL_acts_971 : decode cL_acts 971 = .ok (.bipush 8, 2) := by decide +kernel
theorem dL_acts_973 : decode cL_acts 973 = .ok (.if_icmp .eq 11, 3) := by decide +kernel
theorem dL_acts_976 : decode cL_acts 976 = .ok (.iload 13, 2) := by decide +kernel
theorem dL_acts_978 : decode cL_acts 978 = .ok (.sipush 5000, 3) := by decide +kernel
theorem dL_acts_981 : decode cL_acts 981 = .ok (.if_icmp .le 23, 3) := by decide +kernel
theorem dL_acts_984 : decode cL_acts 984 = .ok (.aload_n 0, 1) := by decide +kernel
theorem dL_acts_985 : decode cL_acts 985 = .ok (.iload 11, 2) := by decide +kernel
theorem dL_acts_987 : decode cL_acts 987 = .ok (.iload 13, 2) := by decide +kernel
theorem dL_acts_989 : decode cL_acts 989 = .ok (.bipush 11, 2) := by decide +kernel
theorem dL_acts_991 : decode cL_acts 991 = .ok (.invokevirtual 45, 3) := by decide +kernel
theorem dL_acts_994 : decode cL_acts 994 = .ok (.iconst (-1), 1) := by decide +kernel
theorem dL_acts_995 : decode cL_acts 995 = .ok (.if_icmp .ne 7, 3) := by decide +kernel
theorem dL_acts_998 : decode cL_acts 998 = .ok (.iconst 1, 1) := by decide +kernel
theorem dL_acts_999 : decode cL_acts 999 = .ok (.goto 4, 3) := by decide +kernel
theorem dL_acts_1002 : decode cL_acts 1002 = .ok (.iconst 0, 1) := by decide +kernel
theorem dL_acts_1003 : decode cL_acts 1003 = .ok (.ireturn, 1) := by decide +kernel
theorem dL_acts_1004 : decode cL_acts 1004 = .ok (.aload_n 1, 1) := by decide +kernel
theorem dL_acts_1005 : decode cL_acts 1005 = .ok (.aload 5, 2) := by decide +kernel
theorem dL_acts_1007 : decode cL_acts 1007 = .ok (.iload 13, 2) := by decide +kernel
theorem dL_acts_1009 : decode cL_acts 1009 = .ok (.iconst 1, 1) := by decide +kernel
theorem dL_acts_1010 : decode cL_acts 1010 = .ok (.iload 11, 2) := by decide +kernel
theorem dL_acts_1012 : decode cL_acts 1012 = .ok (.iconst 0, 1) := by decide +kernel
theorem dL_acts_1013 : decode cL_acts 1013 = .ok (.iload 12, 2) := by decide +kernel
theorem dL_acts_1015 : decode cL_acts 1015 = .ok (.invokestatic 53, 3) := by decide +kernel
theorem dL_acts_1018 : decode cL_acts 1018 = .ok (.aload_n 0, 1) := by decide +kernel
theorem dL_acts_1019 : decode cL_acts 1019 = .ok (.iload 11, 2) := by decide +kernel
theorem dL_acts_1021 : decode cL_acts 1021 = .ok (.iload 13, 2) := by decide +kernel
theorem dL_acts_1023 : decode cL_acts 1023 = .ok (.iload 12, 2) := by decide +kernel
theorem dL_acts_1025 : decode cL_acts 1025 = .ok (.invokevirtual 45, 3) := by decide +kernel
theorem dL_acts_1028 : decode cL_acts 1028 = .ok (.aload_n 1, 1) := by decide +kernel
theorem dL_acts_1029 : decode cL_acts 1029 = .ok (.iconst 2, 1) := by decide +kernel
theorem dL_acts_1030 : decode cL_acts 1030 = .ok (.iaload, 1) := by decide +kernel
theorem dL_acts_1031 : decode cL_acts 1031 = .ok (.if_icmp .ne 7, 3) := by decide +kernel
theorem dL_acts_1034 : decode cL_acts 1034 = .ok (.iconst 1, 1) := by decide +kernel
theorem dL_acts_1035 : decode cL_acts 1035 = .ok (.goto 4, 3) := by decide +kernel
theorem dL_acts_1038 : decode cL_acts 1038 = .ok (.iconst 0, 1) := by decide +kernel
theorem dL_acts_1039 : decode cL_acts 1039 = .ok (.ireturn, 1) := by decide +kernel
theorem dL_acts_1040 : decode cL_acts 1040 = .ok (.iload 9, 2) := by decide +kernel
theorem dL_acts_1042 : decode cL_acts 1042 = .ok (.bipush 9, 2) := by decide +kernel
theorem dL_acts_1044 : decode cL_acts 1044 = .ok (.if_icmp .ne 68, 3) := by decide +kernel
theorem dL_acts_1047 : decode cL_acts 1047 = .ok (.iload 8, 2) := by decide +kernel
theorem dL_acts_1049 : decode cL_acts 1049 = .ok (.iconst 2, 1) := by decide +kernel
theorem dL_acts_1050 : decode cL_acts 1050 = .ok (.irem, 1) := by decide +kernel
theorem dL_acts_1051 : decode cL_acts 1051 = .ok (.istore 11, 2) := by decide +kernel
theorem dL_acts_1053 : decode cL_acts 1053 = .ok (.aload_n 1, 1) := by decide +kernel
theorem dL_acts_1054 : decode cL_acts 1054 = .ok (.bipush 7, 2) := by decide +kernel
theorem dL_acts_1056 : decode cL_acts 1056 = .ok (.iload 11, 2) := by decide +kernel
theorem dL_acts_1058 : decode cL_acts 1058 = .ok (.iadd, 1) := by decide +kernel
theorem dL_acts_1059 : decode cL_acts 1059 = .ok (.iaload, 1) := by decide +kernel
theorem dL_acts_1060 : decode cL_acts 1060 = .ok (.istore 12, 2) := by decide +kernel
theorem dL_acts_1062 : decode cL_acts 1062 = .ok (.aload_n 1, 1) := by decide +kernel
theorem dL_acts_1063 : decode cL_acts 1063 = .ok (.bipush 7, 2) := by decide +kernel
theorem dL_acts_1065 : decode cL_acts 1065 = .ok (.iload 11, 2) := by decide +kernel
theorem dL_acts_1067 : decode cL_acts 1067 = .ok (.iadd, 1) := by decide +kernel
theorem dL_acts_1068 : decode cL_acts 1068 = .ok (.iload 8, 2) := by decide +kernel
theorem dL_acts_1070 : decode cL_acts 1070 = .ok (.iconst 2, 1) := by decide +kernel
theorem dL_acts_1071 : decode cL_acts 1071 = .ok (.idiv, 1) := by decide +kernel
theorem dL_acts_1072 : decode cL_acts 1072 = .ok (.iload 8, 2) := by decide +kernel
theorem dL_acts_1074 : decode cL_acts 1074 = .ok (.iconst 3, 1) := by decide +kernel
theorem dL_acts_1075 : decode cL_acts 1075 = .ok (.irem, 1) := by decide +kernel
theorem dL_acts_1076 : decode cL_acts 1076 = .ok (.ifCond .ne 8, 3) := by decide +kernel
theorem dL_acts_1079 : decode cL_acts 1079 = .ok (.ldc 57, 2) := by decide +kernel
theorem dL_acts_1081 : decode cL_acts 1081 = .ok (.goto 5, 3) := by decide +kernel
theorem dL_acts_1084 : decode cL_acts 1084 = .ok (.bipush 50, 2) := by decide +kernel
theorem dL_acts_1086 : decode cL_acts 1086 = .ok (.irem, 1) := by decide +kernel
theorem dL_acts_1087 : decode cL_acts 1087 = .ok (.iastore, 1) := by decide +kernel
theorem dL_acts_1088 : decode cL_acts 1088 = .ok (.aload_n 0, 1) := by decide +kernel
theorem dL_acts_1089 : decode cL_acts 1089 = .ok (.iload 11, 2) := by decide +kernel
theorem dL_acts_1091 : decode cL_acts 1091 = .ok (.aload_n 1, 1) := by decide +kernel
theorem dL_acts_1092 : decode cL_acts 1092 = .ok (.bipush 7, 2) := by decide +kernel
theorem dL_acts_1094 : decode cL_acts 1094 = .ok (.iload 11, 2) := by decide +kernel
theorem dL_acts_1096 : decode cL_acts 1096 = .ok (.iadd, 1) := by decide +kernel
theorem dL_acts_1097 : decode cL_acts 1097 = .ok (.iaload, 1) := by decide +kernel
theorem dL_acts_1098 : decode cL_acts 1098 = .ok (.invokevirtual 58, 3) := by decide +kernel
theorem dL_acts_1101 : decode cL_acts 1101 = .ok (.iload 12, 2) := by decide +kernel
theorem dL_acts_1103 : decode cL_acts 1103 = .ok (.if_icmp .ne 7, 3) := by decide +kernel
theorem dL_acts_1106 : decode cL_acts 1106 = .ok (.iconst 1, 1) := by decide +kernel
theorem dL_acts_1107 : decode cL_acts 1107 = .ok (.goto 4, 3) := by decide +kernel
theorem dL_acts_1110 : decode cL_acts 1110 = .ok (.iconst 0, 1) := by decide +kernel
theorem dL_acts_1111 : decode cL_acts 1111 = .ok (.ireturn, 1) := by decide +kernel
theorem dL_acts_1112 : decode cL_acts 1112 = .ok (.iload 9, 2) := by decide +kernel
theorem dL_acts_1114 : decode cL_acts 1114 = .ok (.bipush 13, 2) := by decide +kernel
theorem dL_acts_1116 : decode cL_acts 1116 = .ok (.if_icmp .ge 159, 3) := by decide +kernel
theorem dL_acts_1119 : decode cL_acts 1119 = .ok (.aload_n 1, 1) := by decide +kernel
theorem dL_acts_1120 : decode cL_acts 1120 = .ok (.iconst 3, 1) := by decide +kernel
theorem dL_acts_1121 : decode cL_acts 1121 = .ok (.iaload, 1) := by decide +kernel
theorem dL_acts_1122 : decode cL_acts 1122 = .ok (.iload 8, 2) := by decide +kernel
theorem dL_acts_1124 : decode cL_acts 1124 = .ok (.iconst 4, 1) := by decide +kernel
theorem dL_acts_1125 : decode cL_acts 1125 = .ok (.idiv, 1) := by decide +kernel
theorem dL_acts_1126 : decode cL_acts 1126 = .ok (.bipush 6, 2) := by decide +kernel
theorem dL_acts_1128 : decode cL_acts 1128 = .ok (.irem, 1) := by decide +kernel
theorem dL_acts_1129 : decode cL_acts 1129 = .ok (.iadd, 1) := by decide +kernel
theorem dL_acts_1130 : decode cL_acts 1130 = .ok (.istore 11, 2) := by decide +kernel
theorem dL_acts_1132 : decode cL_acts 1132 = .ok (.iconst 1, 1) := by decide +kernel
theorem dL_acts_1133 : decode cL_acts 1133 = .ok (.iload 8, 2) := by decide +kernel
theorem dL_acts_1135 : decode cL_acts 1135 = .ok (.bipush 24, 2) := by decide +kernel
theorem dL_acts_1137 : decode cL_acts 1137 = .ok (.idiv, 1) := by decide +kernel
theorem dL_acts_1138 : decode cL_acts 1138 = .ok (.iload 8, 2) := by decide +kernel
theorem dL_acts_1140 : decode cL_acts 1140 = .ok (.iconst 4, 1) := by decide +kernel
theorem dL_acts_1141 : decode cL_acts 1141 = .ok (.irem, 1) := by decide +kernel
theorem dL_acts_1142 : decode cL_acts 1142 = .ok (.ifCond .ne 8, 3) := by decide +kernel
theorem dL_acts_1145 : decode cL_acts 1145 = .ok (.bipush 20, 2) := by decide +kernel
theorem dL_acts_1147 : decode cL_acts 1147 = .ok (.goto 4, 3) := by decide +kernel
theorem dL_acts_1150 : decode cL_acts 1150 = .ok (.iconst 5, 1) := by decide +kernel
theorem dL_acts_1151 : decode cL_acts 1151 = .ok (.irem, 1) := by decide +kernel
theorem dL_acts_1152 : decode cL_acts 1152 = .ok (.iadd, 1) := by decide +kernel
theorem dL_acts_1153 : decode cL_acts 1153 = .ok (.istore 12, 2) := by decide +kernel
theorem dL_acts_1155 : decode cL_acts 1155 = .ok (.iconst 1, 1) := by decide +kernel
theorem dL_acts_1156 : decode cL_acts 1156 = .ok (.iload 8, 2) := by decide +kernel
theorem dL_acts_1158 : decode cL_acts 1158 = .ok (.bipush 7, 2) := by decide +kernel
theorem dL_acts_1160 : decode cL_acts 1160 = .ok (.idiv, 1) := by decide +kernel
theorem dL_acts_1161 : decode cL_acts 1161 = .ok (.iload 8, 2) := by decide +kernel
theorem dL_acts_1163 : decode cL_acts 1163 = .ok (.iconst 3, 1) := by decide +kernel
theorem dL_acts_1164 : decode cL_acts 1164 = .ok (.irem, 1) := by decide +kernel
theorem dL_acts_1165 : decode cL_acts 1165 = .ok (.ifCond .ne 8, 3) := by decide +kernel
theorem dL_acts_1168 : decode cL_acts 1168 = .ok (.ldc 61, 2) := by decide +kernel
theorem dL_acts_1170 : decode cL_acts 1170 = .ok (.goto 6, 3) := by decide +kernel
theorem dL_acts_1173 : decode cL_acts 1173 = .ok (.sipush 5000, 3) := by decide +kernel
theorem dL_acts_1176 : decode cL_acts 1176 = .ok (.irem, 1) := by decide +kernel
theorem dL_acts_1177 : decode cL_acts 1177 = .ok (.iadd, 1) := by decide +kernel
theorem dL_acts_1178 : decode cL_acts 1178 = .ok (.istore 13, 2) := by decide +kernel
theorem dL_acts_1180 : decode cL_acts 1180 = .ok (.aload_n 1, 1) := by decide +kernel
theorem dL_acts_1181 : decode cL_acts 1181 = .ok (.iconst 2, 1) := by decide +kernel
theorem dL_acts_1182 : decode cL_acts 1182 = .ok (.iaload, 1) := by decide +kernel
theorem dL_acts_1183 : decode cL_acts 1183 = .ok (.bipush 8, 2) := by decide +kernel
theorem dL_acts_1185 : decode cL_acts 1185 = .ok (.if_icmp .eq 11, 3) := by decide +kernel
theorem dL_acts_1188 : decode cL_acts 1188 = .ok (.iload 11, 2) := by decide +kernel
theorem dL_acts_1190 : decode cL_acts 1190 = .ok (.sipush 5000, 3) := by decide +kernel
theorem dL_acts_1193 : decode cL_acts 1193 = .ok (.if_icmp .le 43, 3) := by decide +kernel
theorem dL_acts_1196 : decode cL_acts 1196 = .ok (.aload_n 0, 1) := by decide +kernel
theorem dL_acts_1197 : decode cL_acts 1197 = .ok (.iload 10, 2) := by decide +kernel
theorem dL_acts_1199 : decode cL_acts 1199 = .ok (.iload 11, 2) := by decide +kernel
theorem dL_acts_1201 : decode cL_acts 1201 = .ok (.bipush 21, 2) := by decide +kernel
theorem dL_acts_1203 : decode cL_acts 1203 = .ok (.iload 13, 2) := by decide +kernel
theorem dL_acts_1205 : decode cL_acts 1205 = .ok (.invokevirtual 62, 3) := by decide +kernel
theorem dL_acts_1208 : decode cL_acts 1208 = .ok (.iconst (-1), 1) := by decide +kernel
theorem dL_acts_1209 : decode cL_acts 1209 = .ok (.if_icmp .ne 25, 3) := by decide +kernel
theorem dL_acts_1212 : decode cL_acts 1212 = .ok (.aload_n 0, 1) := by decide +kernel
theorem dL_acts_1213 : decode cL_acts 1213 = .ok (.iload 10, 2) := by decide +kernel
theorem dL_acts_1215 : decode cL_acts 1215 = .ok (.aload_n 1, 1) := by decide +kernel
theorem dL_acts_1216 : decode cL_acts 1216 = .ok (.iconst 3, 1) := by decide +kernel
theorem dL_acts_1217 : decode cL_acts 1217 = .ok (.iaload, 1) := by decide +kernel
theorem dL_acts_1218 : decode cL_acts 1218 = .ok (.iconst 1, 1) := by decide +kernel
theorem dL_acts_1219 : decode cL_acts 1219 = .ok (.isub, 1) := by decide +kernel
theorem dL_acts_1220 : decode cL_acts 1220 = .ok (.iload 12, 2) := by decide +kernel
theorem dL_acts_1222 : decode cL_acts 1222 = .ok (.iconst 0, 1) := by decide +kernel
theorem dL_acts_1223 : decode cL_acts 1223 = .ok (.invokevirtual 62, 3) := by decide +kernel
theorem dL_acts_1226 : decode cL_acts 1226 = .ok (.iconst (-1), 1) := by decide +kernel
theorem dL_acts_1227 : decode cL_acts 1227 = .ok (.if_icmp .ne 7, 3) := by decide +kernel
