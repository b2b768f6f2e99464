theorem d_L_law_992 : decode b_L_law 992 = .ok (.aload_n 0, 1) := by decide +kernel
theorem d_L_law_993 : decode b_L_law 993 = .ok (.iload 4, 2) := by decide +kernel
theorem d_L_law_995 : decode b_L_law 995 = .ok (.iconst 2, 1) := by decide +kernel
theorem d_L_law_996 : decode b_L_law 996 = .ok (.iadd, 1) := by decide +kernel
theorem d_L_law_997 : decode b_L_law 997 = .ok (.iaload, 1) := by decide +kernel
theorem d_L_law_998 : decode b_L_law 998 = .ok (.aload_n 3, 1) := by decide +kernel
theorem d_L_law_999 : decode b_L_law 999 = .ok (.invokestatic 144, 3) := by decide +kernel
theorem d_L_law_1002 : decode b_L_law 1002 = .ok (.istore 5, 2) := by decide +kernel
theorem d_L_law_1004 : decode b_L_law 1004 = .ok (.aload_n 2, 1) := by decide +kernel
theorem d_L_law_1005 : decode b_L_law 1005 = .ok (.aload_n 0, 1) := by decide +kernel
theorem d_L_law_1006 : decode b_L_law 1006 = .ok (.iload 4, 2) := by decide +kernel
theorem d_L_law_1008 : decode b_L_law 1008 = .ok (.iconst 1, 1) := by decide +kernel
theorem d_L_law_1009 : decode b_L_law 1009 = .ok (.iadd, 1) := by decide +kernel
theorem d_L_law_1010 : decode b_L_law 1010 = .ok (.iaload, 1) := by decide +kernel
theorem d_L_law_1011 : decode b_L_law 1011 = .ok (.aload_n 0, 1) := by decide +kernel
theorem d_L_law_1012 : decode b_L_law 1012 = .ok (.iload 4, 2) := by decide +kernel
theorem d_L_law_1014 : decode b_L_law 1014 = .ok (.iconst 2, 1) := by decide +kernel
theorem d_L_law_1015 : decode b_L_law 1015 = .ok (.iadd, 1) := by decide +kernel
theorem d_L_law_1016 : decode b_L_law 1016 = .ok (.iaload, 1) := by decide +kernel
theorem d_L_law_1017 : decode b_L_law 1017 = .ok (.invokevirtual 146, 3) := by decide +kernel
theorem d_L_law_1020 : decode b_L_law 1020 = .ok (.istore 6, 2) := by decide +kernel
theorem d_L_law_1022 : decode b_L_law 1022 = .ok (.aload_n 2, 1) := by decide +kernel
theorem d_L_law_1023 : decode b_L_law 1023 = .ok (.invokevirtual 102, 3) := by decide +kernel
theorem d_L_law_1026 : decode b_L_law 1026 = .ok (.iload 5, 2) := by decide +kernel
theorem d_L_law_1028 : decode b_L_law 1028 = .ok (.if_icmp .eq 5, 3) := by decide +kernel
theorem d_L_law_1031 : decode b_L_law 1031 = .ok (.iconst 0, 1) := by decide +kernel
theorem d_L_law_1032 : decode b_L_law 1032 = .ok (.ireturn, 1) := by decide +kernel
theorem d_L_law_1033 : decode b_L_law 1033 = .ok (.iload 5, 2) := by decide +kernel
theorem d_L_law_1035 : decode b_L_law 1035 = .ok (.ifCond .ne 15, 3) := by decide +kernel
theorem d_L_law_1038 : decode b_L_law 1038 = .ok (.aload_n 3, 1) := by decide +kernel
theorem d_L_law_1039 : decode b_L_law 1039 = .ok (.iconst 0, 1) := by decide +kernel
theorem d_L_law_1040 : decode b_L_law 1040 = .ok (.laload, 1) := by decide +kernel
theorem d_L_law_1041 : decode b_L_law 1041 = .ok (.iload 6, 2) := by decide +kernel
theorem d_L_law_1043 : decode b_L_law 1043 = .ok (.i2l, 1) := by decide +kernel
theorem d_L_law_1044 : decode b_L_law 1044 = .ok (.lcmp, 1) := by decide +kernel
theorem d_L_law_1045 : decode b_L_law 1045 = .ok (.ifCond .eq 5, 3) := by decide +kernel
theorem d_L_law_1048 : decode b_L_law 1048 = .ok (.iconst 0, 1) := by decide +kernel
theorem d_L_law_1049 : decode b_L_law 1049 = .ok (.ireturn, 1) := by decide +kernel
theorem d_L_law_1050 : decode b_L_law 1050 = .ok (.goto 718, 3) := by decide +kernel
theorem d_L_law_1053 : decode b_L_law 1053 = .ok (.aload_n 1, 1) := by decide +kernel
theorem d_L_law_1054 : decode b_L_law 1054 = .ok (.aload_n 0, 1) := by decide +kernel
theorem d_L_law_1055 : decode b_L_law 1055 = .ok (.iload 4, 2) := by decide +kernel
theorem d_L_law_1057 : decode b_L_law 1057 = .ok (.iconst 1, 1) := by decide +kernel
theorem d_L_law_1058 : decode b_L_law 1058 = .ok (.iadd, 1) := by decide +kernel
theorem d_L_law_1059 : decode b_L_law 1059 = .ok (.iaload, 1) := by decide +kernel
theorem d_L_law_1060 : decode b_L_law 1060 = .ok (.aload_n 0, 1) := by decide +kernel
theorem d_L_law_1061 : decode b_L_law 1061 = .ok (.iload 4, 2) := by decide +kernel
theorem d_L_law_1063 : decode b_L_law 1063 = .ok (.iconst 2, 1) := by decide +kernel
theorem d_L_law_1064 : decode b_L_law 1064 = .ok (.iadd, 1) := by decide +kernel
theorem d_L_law_1065 : decode b_L_law 1065 = .ok (.iaload, 1) := by decide +kernel
theorem d_L_law_1066 : decode b_L_law 1066 = .ok (.aload_n 0, 1) := by decide +kernel
theorem d_L_law_1067 : decode b_L_law 1067 = .ok (.iload 4, 2) := by decide +kernel
theorem d_L_law_1069 : decode b_L_law 1069 = .ok (.iconst 3, 1) := by decide +kernel
theorem d_L_law_1070 : decode b_L_law 1070 = .ok (.iadd, 1) := by decide +kernel
theorem d_L_law_1071 : decode b_L_law 1071 = .ok (.iaload, 1) := by decide +kernel
theorem d_L_law_1072 : decode b_L_law 1072 = .ok (.aload_n 0, 1) := by decide +kernel
theorem d_L_law_1073 : decode b_L_law 1073 = .ok (.iload 4, 2) := by decide +kernel
theorem d_L_law_1075 : decode b_L_law 1075 = .ok (.iconst 4, 1) := by decide +kernel
theorem d_L_law_1076 : decode b_L_law 1076 = .ok (.iadd, 1) := by decide +kernel
theorem d_L_law_1077 : decode b_L_law 1077 = .ok (.iaload, 1) := by decide +kernel
theorem d_L_law_1078 : decode b_L_law 1078 = .ok (.aload_n 3, 1) := by decide +kernel
theorem d_L_law_1079 : decode b_L_law 1079 = .ok (.invokestatic 147, 3) := by decide +kernel
theorem d_L_law_1082 : decode b_L_law 1082 = .ok (.istore 5, 2) := by decide +kernel
theorem d_L_law_1084 : decode b_L_law 1084 = .ok (.aload_n 2, 1) := by decide +kernel
theorem d_L_law_1085 : decode b_L_law 1085 = .ok (.aload_n 0, 1) := by decide +kernel
theorem d_L_law_1086 : decode b_L_law 1086 = .ok (.iload 4, 2) := by decide +kernel
theorem d_L_law_1088 : decode b_L_law 1088 = .ok (.iconst 1, 1) := by decide +kernel
theorem d_L_law_1089 : decode b_L_law 1089 = .ok (.iadd, 1) := by decide +kernel
theorem d_L_law_1090 : decode b_L_law 1090 = .ok (.iaload, 1) := by decide +kernel
theorem d_L_law_1091 : decode b_L_law 1091 = .ok (.aload_n 0, 1) := by decide +kernel
theorem d_L_law_1092 : decode b_L_law 1092 = .ok (.iload 4, 2) := by decide +kernel
theorem d_L_law_1094 : decode b_L_law 1094 = .ok (.iconst 2, 1) := by decide +kernel
theorem d_L_law_1095 : decode b_L_law 1095 = .ok (.iadd, 1) := by decide +kernel
theorem d_L_law_1096 : decode b_L_law 1096 = .ok (.iaload, 1) := by decide +kernel
theorem d_L_law_1097 : decode b_L_law 1097 = .ok (.aload_n 0, 1) := by decide +kernel
theorem d_L_law_1098 : decode b_L_law 1098 = .ok (.iload 4, 2) := by decide +kernel
theorem d_L_law_1100 : decode b_L_law 1100 = .ok (.iconst 3, 1) := by decide +kernel
theorem d_L_law_1101 : decode b_L_law 1101 = .ok (.iadd, 1) := by decide +kernel
theorem d_L_law_1102 : decode b_L_law 1102 = .ok (.iaload, 1) := by decide +kernel
theorem d_L_law_1103 : decode b_L_law 1103 = .ok (.aload_n 0, 1) := by decide +kernel
theorem d_L_law_1104 : decode b_L_law 1104 = .ok (.iload 4, 2) := by decide +kernel
theorem d_L_law_1106 : decode b_L_law 1106 = .ok (.iconst 4, 1) := by decide +kernel
theorem d_L_law_1107 : decode b_L_law 1107 = .ok (.iadd, 1) := by decide +kernel
theorem d_L_law_1108 : decode b_L_law 1108 = .ok (.iaload, 1) := by decide +kernel
theorem d_L_law_1109 : decode b_L_law 1109 = .ok (.invokevirtual 149, 3) := by decide +kernel
theorem d_L_law_1112 : decode b_L_law 1112 = .ok (.istore 6, 2) := by decide +kernel
theorem d_L_law_1114 : decode b_L_law 1114 = .ok (.aload_n 2, 1) := by decide +kernel
theorem d_L_law_1115 : decode b_L_law 1115 = .ok (.invokevirtual 102, 3) := by decide +kernel
theorem d_L_law_1118 : decode b_L_law 1118 = .ok (.iload 5, 2) := by decide +kernel
theorem d_L_law_1120 : decode b_L_law 1120 = .ok (.if_icmp .eq 5, 3) := by decide +kernel
theorem d_L_law_1123 : decode b_L_law 1123 = .ok (.iconst 0, 1) := by decide +kernel
theorem d_L_law_1124 : decode b_L_law 1124 = .ok (.ireturn, 1) := by decide +kernel
theorem d_L_law_1125 : decode b_L_law 1125 = .ok (.iload 5, 2) := by decide +kernel
theorem d_L_law_1127 : decode b_L_law 1127 = .ok (.ifCond .ne 15, 3) := by decide +kernel
theorem d_L_law_1130 : decode b_L_law 1130 = .ok (.aload_n 3, 1) := by decide +kernel
theorem d_L_law_1131 : decode b_L_law 1131 = .ok (.iconst 0, 1) := by decide +kernel
theorem d_L_law_1132 : decode b_L_law 1132 = .ok (.laload, 1) := by decide +kernel
theorem d_L_law_1133 : decode b_L_law 1133 = .ok (.iload 6, 2) := by decide +kernel
theorem d_L_law_1135 : decode b_L_law 1135 = .ok (.i2l, 1) := by decide +kernel
theorem d_L_law_1136 : decode b_L_law 1136 = .ok (.lcmp, 1) := by decide +kernel
theorem d_L_law_1137 : decode b_L_law 1137 = .ok (.ifCond .eq 5, 3) := by decide +kernel
theorem d_L_law_1140 : decode b_L_law 1140 = .ok (.iconst 0, 1) := by decide +kernel
theorem d_L_law_1141 : decode b_L_law 1141 = .ok (.ireturn, 1) := by decide +kernel
theorem d_L_law_1142 : decode b_L_law 1142 = .ok (.goto 626, 3) := by decide +kernel
theorem d_L_law_1145 : decode b_L_law 1145 = .ok (.aload_n 1, 1) := by decide +kernel
theorem d_L_law_1146 : decode b_L_law 1146 = .ok (.aload_n 0, 1) := by decide +kernel
theorem d_L_law_1147 : decode b_L_law 1147 = .ok (.iload 4, 2) := by decide +kernel
theorem d_L_law_1149 : decode b_L_law 1149 = .ok (.iconst 1, 1) := by decide +kernel
theorem d_L_law_1150 : decode b_L_law 1150 = .ok (.iadd, 1) := by decide +kernel
theorem d_L_law_1151 : decode b_L_law 1151 = .ok (.iaload, 1) := by decide +kernel
theorem d_L_law_1152 : decode b_L_law 1152 = .ok (.aload_n 0, 1) := by decide +kernel
theorem d_L_law_1153 : decode b_L_law 1153 = .ok (.iload 4, 2) := by decide +kernel
theorem d_L_law_1155 : decode b_L_law 1155 = .ok (.iconst 2, 1) := by decide +kernel
theorem d_L_law_1156 : decode b_L_law 1156 = .ok (.iadd, 1) := by decide +kernel
theorem d_L_law_1157 : decode b_L_law 1157 = .ok (.iaload, 1) := by decide +kernel
theorem d_L_law_1158 : decode b_L_law 1158 = .ok (.aload_n 3, 1) := by decide +kernel
theorem d_L_law_1159 : decode b_L_law 1159 = .ok (.invokestatic 150, 3) := by decide +kernel
theorem d_L_law_1162 : decode b_L_law 1162 = .ok (.istore 5, 2) := by decide +kernel
theorem d_L_law_1164 : decode b_L_law 1164 = .ok (.aload_n 2, 1) := by decide +kernel
theorem d_L_law_1165 : decode b_L_law 1165 = .ok (.aload_n 0, 1) := by decide +kernel
theorem d_L_law_1166 : decode b_L_law 1166 = .ok (.iload 4, 2) := by decide +kernel
theorem d_L_law_1168 : decode b_L_law 1168 = .ok (.iconst 1, 1) := by decide +kernel
theorem d_L_law_1169 : decode b_L_law 1169 = .ok (.iadd, 1) := by decide +kernel
theorem d_L_law_1170 : decode b_L_law 1170 = .ok (.iaload, 1) := by decide +kernel
theorem d_L_law_1171 : decode b_L_law 1171 = .ok (.aload_n 0, 1) := by decide +kernel
theorem d_L_law_1172 : decode b_L_law 1172 = .ok (.iload 4, 2) := by decide +kernel
theorem d_L_law_1174 : decode b_L_law 1174 = .ok (.iconst 2, 1) := by decide +kernel
theorem d_L_law_1175 : decode b_L_law 1175 = .ok (.iadd, 1) := by decide +kernel
theorem d_L_law_1176 : decode b_L_law 1176 = .ok (.iaload, 1) := by decide +kernel
theorem d_L_law_1177 : decode b_L_law 1177 = .ok (.invokevirtual 152, 3) := by decide +kernel
theorem d_L_law_1180 : decode b_L_law 1180 = .ok (.istore 6, 2) := by decide +kernel
theorem d_L_law_1182 : decode b_L_law 1182 = .ok (.aload_n 2, 1) := by decide +kernel
theorem d_L_law_1183 : decode b_L_law 1183 = .ok (.invokevirtual 102, 3) := by decide +kernel
theorem d_L_law_1186 : decode b_L_law 1186 = .ok (.iload 5, 2) := by decide +kernel
theorem d_L_law_1188 : decode b_L_law 1188 = .ok (.if_icmp .eq 5, 3) := by decide +kernel
theorem d_L_law_1191 : decode b_L_law 1191 = .ok (.iconst 0, 1) := by decide +kernel
theorem d_L_law_1192 : decode b_L_law 1192 = .ok (.ireturn, 1) := by decide +kernel
theorem d_L_law_1193 : decode b_L_law 1193 = .ok (.iload 5, 2) := by decide +kernel
theorem d_L_law_1195 : decode b_L_law 1195 = .ok (.ifCond .ne 15, 3) := by decide +kernel
theorem d_L_law_1198 : decode b_L_law 1198 = .ok (.aload_n 3, 1) := by decide +kernel
theorem d_L_law_1199 : decode b_L_law 1199 = .ok (.iconst 0, 1) := by decide +kernel
theorem d_L_law_1200 : decode b_L_law 1200 = .ok (.laload, 1) := by decide +kernel
theorem d_L_law_1201 : decode b_L_law 1201 = .ok (.iload 6, 2) := by decide +kernel
theorem d_L_law_1203 : decode b_L_law 1203 = .ok (.i2l, 1) := by decide +kernel
theorem d_L_law_1204 : decode b_L_law 1204 = .ok (.lcmp, 1) := by decide +kernel
theorem d_L_law_1205 : decode b_L_law 1205 = .ok (.ifCond .eq 5, 3) := by decide +kernel
theorem d_L_law_1208 : decode b_L_law 1208 = .ok (.iconst 0, 1) := by decide +kernel
theorem d_L_law_1209 : decode b_L_law 1209 = .ok (.ireturn, 1) := by decide +kernel
theorem d_L_law_1210 : decode b_L_law 1210 = .ok (.goto 558, 3) := by decide +kernel
theorem d_L_law_1213 : decode b_L_law 1213 = .ok (.aload_n 1, 1) := by decide +kernel
theorem d_L_law_1214 : decode b_L_law 1214 = .ok (.aload_n 0, 1) := by decide +kernel
theorem d_L_law_1215 : decode b_L_law 1215 = .ok (.iload 4, 2) := by decide +kernel
theorem d_L_law_1217 : decode b_L_law 1217 = .ok (.iconst 1, 1) := by decide +kernel
theorem d_L_law_1218 : decode b_L_law 1218 = .ok (.iadd, 1) := by decide +kernel
theorem d_L_law_1219 : decode b_L_law 1219 = .ok (.iaload, 1) := by decide +kernel
theorem d_L_law_1220 : decode b_L_law 1220 = .ok (.aload_n 0, 1) := by decide +kernel
theorem d_L_law_1221 : decode b_L_law 1221 = .ok (.iload 4, 2) := by decide +kernel
theorem d_L_law_1223 : decode b_L_law 1223 = .ok (.iconst 2, 1) := by decide +kernel
theorem d_L_law_1224 : decode b_L_law 1224 = .ok (.iadd, 1) := by decide +kernel
theorem d_L_law_1225 : decode b_L_law 1225 = .ok (.iaload, 1) := by decide +kernel
theorem d_L_law_1226 : decode b_L_law 1226 = .ok (.aload_n 0, 1) := by decide +kernel
theorem d_L_law_1227 : decode b_L_law 1227 = .ok (.iload 4, 2) := by decide +kernel
theorem d_L_law_1229 : decode b_L_law 1229 = .ok (.iconst 3, 1) := by decide +kernel
theorem d_L_law_1230 : decode b_L_law 1230 = .ok (.iadd, 1) := by decide +kernel
theorem d_L_law_1231 : decode b_L_law 1231 = .ok (.iaload, 1) := by decide +kernel
theorem d_L_law_1232 : decode b_L_law 1232 = .ok (.invokestatic 153, 3) := by decide +kernel
theorem d_L_law_1235 : decode b_L_law 1235 = .ok (.istore 5, 2) := by decide +kernel
theorem d_L_law_1237 : decode b_L_law 1237 = .ok (.aload_n 2, 1) := by decide +kernel
theorem d_L_law_1238 : decode b_L_law 1238 = .ok (.aload_n 0, 1) := by decide +kernel
theorem d_L_law_1239 : decode b_L_law 1239 = .ok (.iload 4, 2) := by decide +kernel
theorem d_L_law_1241 : decode b_L_law 1241 = .ok (.iconst 1, 1) := by decide +kernel
theorem d_L_law_1242 : decode b_L_law 1242 = .ok (.iadd, 1) := by decide +kernel
theorem d_L_law_1243 : decode b_L_law 1243 = .ok (.iaload, 1) := by decide +kernel
theorem d_L_law_1244 : decode b_L_law 1244 = .ok (.aload_n 0, 1) := by decide +kernel
theorem d_L_law_1245 : decode b_L_law 1245 = .ok (.iload 4, 2) := by decide +kernel
theorem d_L_law_1247 : decode b_L_law 1247 = .ok (.iconst 2, 1) := by decide +kernel
theorem d_L_law_1248 : decode b_L_law 1248 = .ok (.iadd, 1) := by decide +kernel
theorem d_L_law_1249 : decode b_L_law 1249 = .ok (.iaload, 1) := by decide +kernel
theorem d_L_law_1250 : decode b_L_law 1250 = .ok (.aload_n 0, 1) := by decide +kernel
theorem d_L_law_1251 : decode b_L_law 1251 = .ok (.iload 4, 2) := by decide +kernel
theorem d_L_law_1253 : decode b_L_law 1253 = .ok (.iconst 3, 1) := by decide +kernel
theorem d_L_law_1254 : decode b_L_law 1254 = .ok (.iadd, 1) := by decide +kernel
theorem d_L_law_1255 : decode b_L_law 1255 = .ok (.iaload, 1) := by decide +kernel
theorem d_L_law_1256 : decode b_L_law 1256 = .ok (.invokevirtual 156, 3) := by decide +kernel
theorem d_L_law_1259 : decode b_L_law 1259 = .ok (.aload_n 2, 1) := by decide +kernel
theorem d_L_law_1260 : decode b_L_law 1260 = .ok (.invokevirtual 102, 3) := by decide +kernel
theorem d_L_law_1263 : decode b_L_law 1263 = .ok (.iload 5, 2) := by decide +kernel
theorem d_L_law_1265 : decode b_L_law 1265 = .ok (.if_icmp .eq 5, 3) := by decide +kernel
theorem d_L_law_1268 : decode b_L_law 1268 = .ok (.iconst 0, 1) := by decide +kernel
theorem d_L_law_1269 : decode b_L_law 1269 = .ok (.ireturn, 1) := by decide +kernel
theorem d_L_law_1270 : decode b_L_law 1270 = .ok (.goto 498, 3) := by decide +kernel
theorem d_L_law_1273 : decode b_L_law 1273 = .ok (.aload_n 1, 1) := by decide +kernel
theorem d_L_law_1274 : decode b_L_law 1274 = .ok (.aload_n 0, 1) := by decide +kernel
theorem d_L_law_1275 : decode b_L_law 1275 = .ok (.iload 4, 2) := by decide +kernel
theorem d_L_law_1277 : decode b_L_law 1277 = .ok (.iconst 1, 1) := by decide +kernel
theorem d_L_law_1278 : decode b_L_law 1278 = .ok (.iadd, 1) := by decide +kernel
theorem d_L_law_1279 : decode b_L_law 1279 = .ok (.iaload, 1) := by decide +kernel
theorem d_L_law_1280 : decode b_L_law 1280 = .ok (.aload_n 0, 1) := by decide +kernel
theorem d_L_law_1281 : decode b_L_law 1281 = .ok (.iload 4, 2) := by decide +kernel
theorem d_L_law_1283 : decode b_L_law 1283 = .ok (.iconst 2, 1) := by decide +kernel
theorem d_L_law_1284 : decode b_L_law 1284 = .ok (.iadd, 1) := by decide +kernel
theorem d_L_law_1285 : decode b_L_law 1285 = .ok (.iaload, 1) := by decide +kernel
theorem d_L_law_1286 : decode b_L_law 1286 = .ok (.aload_n 3, 1) := by decide +kernel
theorem d_L_law_1287 : decode b_L_law 1287 = .ok (.invokestatic 157, 3) := by decide +kernel
theorem d_L_law_1290 : decode b_L_law 1290 = .ok (.istore 5, 2) := by decide +kernel
theorem d_L_law_1292 : decode b_L_law 1292 = .ok (.aload_n 2, 1) := by decide +kernel
theorem d_L_law_1293 : decode b_L_law 1293 = .ok (.aload_n 0, 1) := by decide +kernel
theorem d_L_law_1294 : decode b_L_law 1294 = .ok (.iload 4, 2) := by decide +kernel
theorem d_L_law_1296 : decode b_L_law 1296 = .ok (.iconst 1, 1) := by decide +kernel
theorem d_L_law_1297 : decode b_L_law 1297 = .ok (.iadd, 1) := by decide +kernel
theorem d_L_law_1298 : decode b_L_law 1298 = .ok (.iaload, 1) := by decide +kernel
theorem d_L_law_1299 : decode b_L_law 1299 = .ok (.aload_n 0, 1) := by decide +kernel
theorem d_L_law_1300 : decode b_L_law 1300 = .ok (.iload 4, 2) := by decide +kernel
theorem d_L_law_1302 : decode b_L_law 1302 = .ok (.iconst 2, 1) := by decide +kernel
theorem d_L_law_1303 : decode b_L_law 1303 = .ok (.iadd, 1) := by decide +kernel
theorem d_L_law_1304 : decode b_L_law 1304 = .ok (.iaload, 1) := by decide +kernel
theorem d_L_law_1305 : decode b_L_law 1305 = .ok (.invokevirtual 159, 3) := by decide +kernel
theorem d_L_law_1308 : decode b_L_law 1308 = .ok (.istore 6, 2) := by decide +kernel
theorem d_L_law_1310 : decode b_L_law 1310 = .ok (.aload_n 2, 1) := by decide +kernel
theorem d_L_law_1311 : decode b_L_law 1311 = .ok (.invokevirtual 102, 3) := by decide +kernel
theorem d_L_law_1314 : decode b_L_law 1314 = .ok (.iload 5, 2) := by decide +kernel
theorem d_L_law_1316 : decode b_L_law 1316 = .ok (.if_icmp .eq 5, 3) := by decide +kernel
theorem d_L_law_1319 : decode b_L_law 1319 = .ok (.iconst 0, 1) := by decide +kernel
theorem d_L_law_1320 : decode b_L_law 1320 = .ok (.ireturn, 1) := by decide +kernel
theorem d_L_law_1321 : decode b_L_law 1321 = .ok (.iload 5, 2) := by decide +kernel
theorem d_L_law_1323 : decode b_L_law 1323 = .ok (.ifCond .ne 15, 3) := by decide +kernel
theorem d_L_law_1326 : decode b_L_law 1326 = .ok (.aload_n 3, 1) := by decide +kernel
theorem d_L_law_1327 : decode b_L_law 1327 = .ok (.iconst 0, 1) := by decide +kernel
theorem d_L_law_1328 : decode b_L_law 1328 = .ok (.laload, 1) := by decide +kernel
theorem d_L_law_1329 : decode b_L_law 1329 = .ok (.iload 6, 2) := by decide +kernel
theorem d_L_law_1331 : decode b_L_law 1331 = .ok (.i2l, 1) := by decide +kernel
theorem d_L_law_1332 : decode b_L_law 1332 = .ok (.lcmp, 1) := by decide +kernel
theorem d_L_law_1333 : decode b_L_law 1333 = .ok (.ifCond .eq 5, 3) := by decide +kernel
theorem d_L_law_1336 : decode b_L_law 1336 = .ok (.iconst 0, 1) := by decide +kernel
theorem d_L_law_1337 : decode b_L_law 1337 = .ok (.ireturn, 1) := by decide +kernel
theorem d_L_law_1338 : decode b_L_law 1338 = .ok (.goto 430, 3) := by decide +kernel
theorem d_L_law_1341 : decode b_L_law 1341 = .ok (.aload_n 1, 1) := by decide +kernel
theorem d_L_law_1342 : decode b_L_law 1342 = .ok (.aload_n 0, 1) := by decide +kernel
theorem d_L_law_1343 : decode b_L_law 1343 = .ok (.iload 4, 2) := by decide +kernel
theorem d_L_law_1345 : decode b_L_law 1345 = .ok (.iconst 1, 1) := by decide +kernel
theorem d_L_law_1346 : decode b_L_law 1346 = .ok (.iadd, 1) := by decide +kernel
theorem d_L_law_1347 : decode b_L_law 1347 = .ok (.iaload, 1) := by decide +kernel
theorem d_L_law_1348 : decode b_L_law 1348 = .ok (.aload_n 0, 1) := by decide +kernel
theorem d_L_law_1349 : decode b_L_law 1349 = .ok (.iload 4, 2) := by decide +kernel
theorem d_L_law_1351 : decode b_L_law 1351 = .ok (.iconst 2, 1) := by decide +kernel
theorem d_L_law_1352 : decode b_L_law 1352 = .ok (.iadd, 1) := by decide +kernel
theorem d_L_law_1353 : decode b_L_law 1353 = .ok (.iaload, 1) := by decide +kernel
theorem d_L_law_1354 : decode b_L_law 1354 = .ok (.aload_n 0, 1) := by decide +kernel
theorem d_L_law_1355 : decode b_L_law 1355 = .ok (.iload 4, 2) := by decide +kernel
theorem d_L_law_1357 : decode b_L_law 1357 = .ok (.iconst 3, 1) := by decide +kernel
theorem d_L_law_1358 : decode b_L_law 1358 = .ok (.iadd, 1) := by decide +kernel
theorem d_L_law_1359 : decode b_L_law 1359 = .ok (.iaload, 1) := by decide +kernel
theorem d_L_law_1360 : decode b_L_law 1360 = .ok (.aload_n 3, 1) := by decide +kernel
theorem d_L_law_1361 : decode b_L_law 1361 = .ok (.invokestatic 160, 3) := by decide +kernel
theorem d_L_law_1364 : decode b_L_law 1364 = .ok (.istore 5, 2) := by decide +kernel
theorem d_L_law_1366 : decode b_L_law 1366 = .ok (.aload_n 2, 1) := by decide +kernel
theorem d_L_law_1367 : decode b_L_law 1367 = .ok (.aload_n 0, 1) := by decide +kernel
theorem d_L_law_1368 : decode b_L_law 1368 = .ok (.iload 4, 2) := by decide +kernel
theorem d_L_law_1370 : decode b_L_law 1370 = .ok (.iconst 1, 1) := by decide +kernel
theorem d_L_law_1371 : decode b_L_law 1371 = .ok (.iadd, 1) := by decide +kernel
theorem d_L_law_1372 : decode b_L_law 1372 = .ok (.iaload, 1) := by decide +kernel
theorem d_L_law_1373 : decode b_L_law 1373 = .ok (.aload_n 0, 1) := by decide +kernel
theorem d_L_law_1374 : decode b_L_law 1374 = .ok (.iload 4, 2) := by decide +kernel
theorem d_L_law_1376 : decode b_L_law 1376 = .ok (.iconst 2, 1) := by decide +kernel
theorem d_L_law_1377 : decode b_L_law 1377 = .ok (.iadd, 1) := by decide +kernel
theorem d_L_law_1378 : decode b_L_law 1378 = .ok (.iaload, 1) := by decide +kernel
theorem d_L_law_1379 : decode b_L_law 1379 = .ok (.aload_n 0, 1) := by decide +kernel
theorem d_L_law_1380 : decode b_L_law 1380 = .ok (.iload 4, 2) := by decide +kernel
theorem d_L_law_1382 : decode b_L_law 1382 = .ok (.iconst 3, 1) := by decide +kernel
theorem d_L_law_1383 : decode b_L_law 1383 = .ok (.iadd, 1) := by decide +kernel
theorem d_L_law_1384 : decode b_L_law 1384 = .ok (.iaload, 1) := by decide +kernel
theorem d_L_law_1385 : decode b_L_law 1385 = .ok (.invokevirtual 162, 3) := by decide +kernel
theorem d_L_law_1388 : decode b_L_law 1388 = .ok (.istore 6, 2) := by decide +kernel
theorem d_L_law_1390 : decode b_L_law 1390 = .ok (.aload_n 2, 1) := by decide +kernel
theorem d_L_law_1391 : decode b_L_law 1391 = .ok (.invokevirtual 102, 3) := by decide +kernel
theorem d_L_law_1394 : decode b_L_law 1394 = .ok (.iload 5, 2) := by decide +kernel
theorem d_L_law_1396 : decode b_L_law 1396 = .ok (.if_icmp .eq 5, 3) := by decide +kernel
theorem d_L_law_1399 : decode b_L_law 1399 = .ok (.iconst 0, 1) := by decide +kernel
theorem d_L_law_1400 : decode b_L_law 1400 = .ok (.ireturn, 1) := by decide +kernel
theorem d_L_law_1401 : decode b_L_law 1401 = .ok (.iload 5, 2) := by decide +kernel
theorem d_L_law_1403 : decode b_L_law 1403 = .ok (.ifCond .ne 22, 3) := by decide +kernel
theorem d_L_law_1406 : decode b_L_law 1406 = .ok (.aload_n 3, 1) := by decide +kernel
theorem d_L_law_1407 : decode b_L_law 1407 = .ok (.iconst 0, 1) := by decide +kernel
theorem d_L_law_1408 : decode b_L_law 1408 = .ok (.laload, 1) := by decide +kernel
theorem d_L_law_1409 : decode b_L_law 1409 = .ok (.iload 6, 2) := by decide +kernel
theorem d_L_law_1411 : decode b_L_law 1411 = .ok (.ifCond .eq 7, 3) := by decide +kernel
theorem d_L_law_1414 : decode b_L_law 1414 = .ok (.lconst 1, 1) := by decide +kernel
theorem d_L_law_1415 : decode b_L_law 1415 = .ok (.goto 4, 3) := by decide +kernel
theorem d_L_law_1418 : decode b_L_law 1418 = .ok (.lconst 0, 1) := by decide +kernel
theorem d_L_law_1419 : decode b_L_law 1419 = .ok (.lcmp, 1) := by decide +kernel
theorem d_L_law_1420 : decode b_L_law 1420 = .ok (.ifCond .eq 5, 3) := by decide +kernel
theorem d_L_law_1423 : decode b_L_law 1423 = .ok (.iconst 0, 1) := by decide +kernel
theorem d_L_law_1424 : decode b_L_law 1424 = .ok (.ireturn, 1) := by decide +kernel
theorem d_L_law_1425 : decode b_L_law 1425 = .ok (.goto 343, 3) := by decide +kernel
theorem d_L_law_1428 : decode b_L_law 1428 = .ok (.aload_n 1, 1) := by decide +kernel
theorem d_L_law_1429 : decode b_L_law 1429 = .ok (.aload_n 0, 1) := by decide +kernel
theorem d_L_law_1430 : decode b_L_law 1430 = .ok (.iload 4, 2) := by decide +kernel
theorem d_L_law_1432 : decode b_L_law 1432 = .ok (.iconst 1, 1) := by decide +kernel
theorem d_L_law_1433 : decode b_L_law 1433 = .ok (.iadd, 1) := by decide +kernel
theorem d_L_law_1434 : decode b_L_law 1434 = .ok (.iaload, 1) := by decide +kernel
