theorem dL_law_992 : decode cL_law 992 = .ok (.invokevirtual 120, 3) := by decide +kernel
theorem dL_law_995 : decode cL_law 995 = .ok (.lcmp, 1) := by decide +kernel
theorem dL_law_996 : decode cL_law 996 = .ok (.ifCond .eq 629, 3) := by decide +kernel
theorem dL_law_1001 : decode cL_law 1001 = .ok (.aload_n 1, 1) := by decide +kernel
theorem dL_law_1002 : decode cL_law 1002 = .ok (.aload_n 0, 1) := by decide +kernel
theorem dL_law_1003 : decode cL_law 1003 = .ok (.iload_n 3, 1) := by decide +kernel
theorem dL_law_1004 : decode cL_law 1004 = .ok (.iconst 1, 1) := by decide +kernel
theorem dL_law_1005 : decode cL_law 1005 = .ok (.iadd, 1) := by decide +kernel
theorem dL_law_1006 : decode cL_law 1006 = .ok (.iaload, 1) := by decide +kernel
theorem dL_law_1007 : decode cL_law 1007 = .ok (.aload_n 0, 1) := by decide +kernel
theorem dL_law_1008 : decode cL_law 1008 = .ok (.iload_n 3, 1) := by decide +kernel
theorem dL_law_1009 : decode cL_law 1009 = .ok (.iconst 2, 1) := by decide +kernel
theorem dL_law_1010 : decode cL_law 1010 = .ok (.iadd, 1) := by decide +kernel
theorem dL_law_1011 : decode cL_law 1011 = .ok (.iaload, 1) := by decide +kernel
theorem dL_law_1012 : decode cL_law 1012 = .ok (.invokevirtual 121, 3) := by decide +kernel
theorem dL_law_1015 : decode cL_law 1015 = .ok (.aload_n 2, 1) := by decide +kernel
theorem dL_law_1016 : decode cL_law 1016 = .ok (.aload_n 0, 1) := by decide +kernel
theorem dL_law_1017 : decode cL_law 1017 = .ok (.iload_n 3, 1) := by decide +kernel
theorem dL_law_1018 : decode cL_law 1018 = .ok (.iconst 1, 1) := by decide +kernel
theorem dL_law_1019 : decode cL_law 1019 = .ok (.iadd, 1) := by decide +kernel
theorem dL_law_1020 : decode cL_law 1020 = .ok (.iaload, 1) := by decide +kernel
theorem dL_law_1021 : decode cL_law 1021 = .ok (.aload_n 0, 1) := by decide +kernel
theorem dL_law_1022 : decode cL_law 1022 = .ok (.iload_n 3, 1) := by decide +kernel
theorem dL_law_1023 : decode cL_law 1023 = .ok (.iconst 2, 1) := by decide +kernel
theorem dL_law_1024 : decode cL_law 1024 = .ok (.iadd, 1) := by decide +kernel
theorem dL_law_1025 : decode cL_law 1025 = .ok (.iaload, 1) := by decide +kernel
theorem dL_law_1026 : decode cL_law 1026 = .ok (.invokevirtual 125, 3) := by decide +kernel
theorem dL_law_1029 : decode cL_law 1029 = .ok (.lcmp, 1) := by decide +kernel
theorem dL_law_1030 : decode cL_law 1030 = .ok (.ifCond .eq 595, 3) := by decide +kernel
theorem dL_law_1035 : decode cL_law 1035 = .ok (.aload_n 1, 1) := by decide +kernel
theorem dL_law_1036 : decode cL_law 1036 = .ok (.aload_n 0, 1) := by decide +kernel
theorem dL_law_1037 : decode cL_law 1037 = .ok (.iload_n 3, 1) := by decide +kernel
theorem dL_law_1038 : decode cL_law 1038 = .ok (.iconst 1, 1) := by decide +kernel
theorem dL_law_1039 : decode cL_law 1039 = .ok (.iadd, 1) := by decide +kernel
theorem dL_law_1040 : decode cL_law 1040 = .ok (.iaload, 1) := by decide +kernel
theorem dL_law_1041 : decode cL_law 1041 = .ok (.invokevirtual 126, 3) := by decide +kernel
theorem dL_law_1044 : decode cL_law 1044 = .ok (.aload_n 2, 1) := by decide +kernel
theorem dL_law_1045 : decode cL_law 1045 = .ok (.aload_n 0, 1) := by decide +kernel
theorem dL_law_1046 : decode cL_law 1046 = .ok (.iload_n 3, 1) := by decide +kernel
theorem dL_law_1047 : decode cL_law 1047 = .ok (.iconst 1, 1) := by decide +kernel
theorem dL_law_1048 : decode cL_law 1048 = .ok (.iadd, 1) := by decide +kernel
theorem dL_law_1049 : decode cL_law 1049 = .ok (.iaload, 1) := by decide +kernel
theorem dL_law_1050 : decode cL_law 1050 = .ok (.invokevirtual 129, 3) := by decide +kernel
theorem dL_law_1053 : decode cL_law 1053 = .ok (.lcmp, 1) := by decide +kernel
theorem dL_law_1054 : decode cL_law 1054 = .ok (.ifCond .eq 571, 3) := by decide +kernel
theorem dL_law_1059 : decode cL_law 1059 = .ok (.aload_n 1, 1) := by decide +kernel
theorem dL_law_1060 : decode cL_law 1060 = .ok (.aload_n 0, 1) := by decide +kernel
theorem dL_law_1061 : decode cL_law 1061 = .ok (.iload_n 3, 1) := by decide +kernel
theorem dL_law_1062 : decode cL_law 1062 = .ok (.iconst 1, 1) := by decide +kernel
theorem dL_law_1063 : decode cL_law 1063 = .ok (.iadd, 1) := by decide +kernel
theorem dL_law_1064 : decode cL_law 1064 = .ok (.iaload, 1) := by decide +kernel
theorem dL_law_1065 : decode cL_law 1065 = .ok (.invokevirtual 130, 3) := by decide +kernel
theorem dL_law_1068 : decode cL_law 1068 = .ok (.aload_n 2, 1) := by decide +kernel
theorem dL_law_1069 : decode cL_law 1069 = .ok (.aload_n 0, 1) := by decide +kernel
theorem dL_law_1070 : decode cL_law 1070 = .ok (.iload_n 3, 1) := by decide +kernel
theorem dL_law_1071 : decode cL_law 1071 = .ok (.iconst 1, 1) := by decide +kernel
theorem dL_law_1072 : decode cL_law 1072 = .ok (.iadd, 1) := by decide +kernel
theorem dL_law_1073 : decode cL_law 1073 = .ok (.iaload, 1) := by decide +kernel
theorem dL_law_1074 : decode cL_law 1074 = .ok (.invokevirtual 133, 3) := by decide +kernel
theorem dL_law_1077 : decode cL_law 1077 = .ok (.if_icmp .eq 548, 3) := by decide +kernel
theorem dL_law_1082 : decode cL_law 1082 = .ok (.aload_n 1, 1) := by decide +kernel
theorem dL_law_1083 : decode cL_law 1083 = .ok (.aload_n 0, 1) := by decide +kernel
theorem dL_law_1084 : decode cL_law 1084 = .ok (.iload_n 3, 1) := by decide +kernel
theorem dL_law_1085 : decode cL_law 1085 = .ok (.iconst 1, 1) := by decide +kernel
theorem dL_law_1086 : decode cL_law 1086 = .ok (.iadd, 1) := by decide +kernel
theorem dL_law_1087 : decode cL_law 1087 = .ok (.iaload, 1) := by decide +kernel
theorem dL_law_1088 : decode cL_law 1088 = .ok (.ifCond .eq 7, 3) := by decide +kernel
theorem dL_law_1091 : decode cL_law 1091 = .ok (.iconst 1, 1) := by decide +kernel
theorem dL_law_1092 : decode cL_law 1092 = .ok (.goto 4, 3) := by decide +kernel
theorem dL_law_1095 : decode cL_law 1095 = .ok (.iconst 0, 1) := by decide +kernel
theorem dL_law_1096 : decode cL_law 1096 = .ok (.invokevirtual 134, 3) := by decide +kernel
theorem dL_law_1099 : decode cL_law 1099 = .ok (.aload_n 2, 1) := by decide +kernel
theorem dL_law_1100 : decode cL_law 1100 = .ok (.aload_n 0, 1) := by decide +kernel
theorem dL_law_1101 : decode cL_law 1101 = .ok (.iload_n 3, 1) := by decide +kernel
theorem dL_law_1102 : decode cL_law 1102 = .ok (.iconst 1, 1) := by decide +kernel
theorem dL_law_1103 : decode cL_law 1103 = .ok (.iadd, 1) := by decide +kernel
theorem dL_law_1104 : decode cL_law 1104 = .ok (.iaload, 1) := by decide +kernel
theorem dL_law_1105 : decode cL_law 1105 = .ok (.ifCond .eq 7, 3) := by decide +kernel
theorem dL_law_1108 : decode cL_law 1108 = .ok (.iconst 1, 1) := by decide +kernel
theorem dL_law_1109 : decode cL_law 1109 = .ok (.goto 4, 3) := by decide +kernel
theorem dL_law_1112 : decode cL_law 1112 = .ok (.iconst 0, 1) := by decide +kernel
theorem dL_law_1113 : decode cL_law 1113 = .ok (.invokevirtual 138, 3) := by decide +kernel
theorem dL_law_1116 : decode cL_law 1116 = .ok (.lcmp, 1) := by decide +kernel
theorem dL_law_1117 : decode cL_law 1117 = .ok (.ifCond .eq 508, 3) := by decide +kernel
theorem dL_law_1122 : decode cL_law 1122 = .ok (.aload_n 1, 1) := by decide +kernel
theorem dL_law_1123 : decode cL_law 1123 = .ok (.aload_n 0, 1) := by decide +kernel
theorem dL_law_1124 : decode cL_law 1124 = .ok (.iload_n 3, 1) := by decide +kernel
theorem dL_law_1125 : decode cL_law 1125 = .ok (.iconst 1, 1) := by decide +kernel
theorem dL_law_1126 : decode cL_law 1126 = .ok (.iadd, 1) := by decide +kernel
theorem dL_law_1127 : decode cL_law 1127 = .ok (.iaload, 1) := by decide +kernel
theorem dL_law_1128 : decode cL_law 1128 = .ok (.aload_n 0, 1) := by decide +kernel
theorem dL_law_1129 : decode cL_law 1129 = .ok (.iload_n 3, 1) := by decide +kernel
theorem dL_law_1130 : decode cL_law 1130 = .ok (.iconst 2, 1) := by decide +kernel
theorem dL_law_1131 : decode cL_law 1131 = .ok (.iadd, 1) := by decide +kernel
theorem dL_law_1132 : decode cL_law 1132 = .ok (.iaload, 1) := by decide +kernel
theorem dL_law_1133 : decode cL_law 1133 = .ok (.invokevirtual 139, 3) := by decide +kernel
theorem dL_law_1136 : decode cL_law 1136 = .ok (.aload_n 2, 1) := by decide +kernel
theorem dL_law_1137 : decode cL_law 1137 = .ok (.aload_n 0, 1) := by decide +kernel
theorem dL_law_1138 : decode cL_law 1138 = .ok (.iload_n 3, 1) := by decide +kernel
theorem dL_law_1139 : decode cL_law 1139 = .ok (.iconst 1, 1) := by decide +kernel
theorem dL_law_1140 : decode cL_law 1140 = .ok (.iadd, 1) := by decide +kernel
theorem dL_law_1141 : decode cL_law 1141 = .ok (.iaload, 1) := by decide +kernel
theorem dL_law_1142 : decode cL_law 1142 = .ok (.aload_n 0, 1) := by decide +kernel
theorem dL_law_1143 : decode cL_law 1143 = .ok (.iload_n 3, 1) := by decide +kernel
theorem dL_law_1144 : decode cL_law 1144 = .ok (.iconst 2, 1) := by decide +kernel
theorem dL_law_1145 : decode cL_law 1145 = .ok (.iadd, 1) := by decide +kernel
theorem dL_law_1146 : decode cL_law 1146 = .ok (.iaload, 1) := by decide +kernel
theorem dL_law_1147 : decode cL_law 1147 = .ok (.invokevirtual 142, 3) := by decide +kernel
theorem dL_law_1150 : decode cL_law 1150 = .ok (.lcmp, 1) := by decide +kernel
theorem dL_law_1151 : decode cL_law 1151 = .ok (.ifCond .eq 474, 3) := by decide +kernel
theorem dL_law_1156 : decode cL_law 1156 = .ok (.aload_n 1, 1) := by decide +kernel
theorem dL_law_1157 : decode cL_law 1157 = .ok (.aload_n 0, 1) := by decide +kernel
theorem dL_law_1158 : decode cL_law 1158 = .ok (.iload_n 3, 1) := by decide +kernel
theorem dL_law_1159 : decode cL_law 1159 = .ok (.iconst 1, 1) := by decide +kernel
theorem dL_law_1160 : decode cL_law 1160 = .ok (.iadd, 1) := by decide +kernel
theorem dL_law_1161 : decode cL_law 1161 = .ok (.iaload, 1) := by decide +kernel
theorem dL_law_1162 : decode cL_law 1162 = .ok (.invokevirtual 143, 3) := by decide +kernel
theorem dL_law_1165 : decode cL_law 1165 = .ok (.aload_n 2, 1) := by decide +kernel
theorem dL_law_1166 : decode cL_law 1166 = .ok (.aload_n 0, 1) := by decide +kernel
theorem dL_law_1167 : decode cL_law 1167 = .ok (.iload_n 3, 1) := by decide +kernel
theorem dL_law_1168 : decode cL_law 1168 = .ok (.iconst 1, 1) := by decide +kernel
theorem dL_law_1169 : decode cL_law 1169 = .ok (.iadd, 1) := by decide +kernel
theorem dL_law_1170 : decode cL_law 1170 = .ok (.iaload, 1) := by decide +kernel
theorem dL_law_1171 : decode cL_law 1171 = .ok (.invokevirtual 146, 3) := by decide +kernel
theorem dL_law_1174 : decode cL_law 1174 = .ok (.if_icmp .eq 451, 3) := by decide +kernel
theorem dL_law_1179 : decode cL_law 1179 = .ok (.aload_n 1, 1) := by decide +kernel
theorem dL_law_1180 : decode cL_law 1180 = .ok (.aload_n 0, 1) := by decide +kernel
theorem dL_law_1181 : decode cL_law 1181 = .ok (.iload_n 3, 1) := by decide +kernel
theorem dL_law_1182 : decode cL_law 1182 = .ok (.iconst 1, 1) := by decide +kernel
theorem dL_law_1183 : decode cL_law 1183 = .ok (.iadd, 1) := by decide +kernel
theorem dL_law_1184 : decode cL_law 1184 = .ok (.iaload, 1) := by decide +kernel
theorem dL_law_1185 : decode cL_law 1185 = .ok (.aload_n 0, 1) := by decide +kernel
theorem dL_law_1186 : decode cL_law 1186 = .ok (.iload_n 3, 1) := by decide +kernel
theorem dL_law_1187 : decode cL_law 1187 = .ok (.iconst 2, 1) := by decide +kernel
theorem dL_law_1188 : decode cL_law 1188 = .ok (.iadd, 1) := by decide +kernel
theorem dL_law_1189 : decode cL_law 1189 = .ok (.iaload, 1) := by decide +kernel
theorem dL_law_1190 : decode cL_law 1190 = .ok (.invokevirtual 147, 3) := by decide +kernel
theorem dL_law_1193 : decode cL_law 1193 = .ok (.aload_n 2, 1) := by decide +kernel
theorem dL_law_1194 : decode cL_law 1194 = .ok (.aload_n 0, 1) := by decide +kernel
theorem dL_law_1195 : decode cL_law 1195 = .ok (.iload_n 3, 1) := by decide +kernel
theorem dL_law_1196 : decode cL_law 1196 = .ok (.iconst 1, 1) := by decide +kernel
theorem dL_law_1197 : decode cL_law 1197 = .ok (.iadd, 1) := by decide +kernel
theorem dL_law_1198 : decode cL_law 1198 = .ok (.iaload, 1) := by decide +kernel
theorem dL_law_1199 : decode cL_law 1199 = .ok (.aload_n 0, 1) := by decide +kernel
theorem dL_law_1200 : decode cL_law 1200 = .ok (.iload_n 3, 1) := by decide +kernel
theorem dL_law_1201 : decode cL_law 1201 = .ok (.iconst 2, 1) := by decide +kernel
theorem dL_law_1202 : decode cL_law 1202 = .ok (.iadd, 1) := by decide +kernel
theorem dL_law_1203 : decode cL_law 1203 = .ok (.iaload, 1) := by decide +kernel
theorem dL_law_1204 : decode cL_law 1204 = .ok (.invokevirtual 150, 3) := by decide +kernel
theorem dL_law_1207 : decode cL_law 1207 = .ok (.if_icmp .eq 418, 3) := by decide +kernel
theorem dL_law_1212 : decode cL_law 1212 = .ok (.aload_n 1, 1) := by decide +kernel
theorem dL_law_1213 : decode cL_law 1213 = .ok (.aload_n 0, 1) := by decide +kernel
theorem dL_law_1214 : decode cL_law 1214 = .ok (.iload_n 3, 1) := by decide +kernel
theorem dL_law_1215 : decode cL_law 1215 = .ok (.iconst 1, 1) := by decide +kernel
theorem dL_law_1216 : decode cL_law 1216 = .ok (.iadd, 1) := by decide +kernel
theorem dL_law_1217 : decode cL_law 1217 = .ok (.iaload, 1) := by decide +kernel
theorem dL_law_1218 : decode cL_law 1218 = .ok (.aload_n 0, 1) := by decide +kernel
theorem dL_law_1219 : decode cL_law 1219 = .ok (.iload_n 3, 1) := by decide +kernel
theorem dL_law_1220 : decode cL_law 1220 = .ok (.iconst 2, 1) := by decide +kernel
theorem dL_law_1221 : decode cL_law 1221 = .ok (.iadd, 1) := by decide +kernel
theorem dL_law_1222 : decode cL_law 1222 = .ok (.iaload, 1) := by decide +kernel
theorem dL_law_1223 : decode cL_law 1223 = .ok (.invokevirtual 151, 3) := by decide +kernel
theorem dL_law_1226 : decode cL_law 1226 = .ok (.aload_n 2, 1) := by decide +kernel
theorem dL_law_1227 : decode cL_law 1227 = .ok (.aload_n 0, 1) := by decide +kernel
theorem dL_law_1228 : decode cL_law 1228 = .ok (.iload_n 3, 1) := by decide +kernel
theorem dL_law_1229 : decode cL_law 1229 = .ok (.iconst 1, 1) := by decide +kernel
theorem dL_law_1230 : decode cL_law 1230 = .ok (.iadd, 1) := by decide +kernel
theorem dL_law_1231 : decode cL_law 1231 = .ok (.iaload, 1) := by decide +kernel
theorem dL_law_1232 : decode cL_law 1232 = .ok (.aload_n 0, 1) := by decide +kernel
theorem dL_law_1233 : decode cL_law 1233 = .ok (.iload_n 3, 1) := by decide +kernel
theorem dL_law_1234 : decode cL_law 1234 = .ok (.iconst 2, 1) := by decide +kernel
theorem dL_law_1235 : decode cL_law 1235 = .ok (.iadd, 1) := by decide +kernel
theorem dL_law_1236 : decode cL_law 1236 = .ok (.iaload, 1) := by decide +kernel
theorem dL_law_1237 : decode cL_law 1237 = .ok (.invokevirtual 154, 3) := by decide +kernel
theorem dL_law_1240 : decode cL_law 1240 = .ok (.if_icmp .eq 385, 3) := by decide +kernel
theorem dL_law_1245 : decode cL_law 1245 = .ok (.aload_n 1, 1) := by decide +kernel
theorem dL_law_1246 : decode cL_law 1246 = .ok (.aload_n 0, 1) := by decide +kernel
theorem dL_law_1247 : decode cL_law 1247 = .ok (.iload_n 3, 1) := by decide +kernel
theorem dL_law_1248 : decode cL_law 1248 = .ok (.iconst 1, 1) := by decide +kernel
theorem dL_law_1249 : decode cL_law 1249 = .ok (.iadd, 1) := by decide +kernel
theorem dL_law_1250 : decode cL_law 1250 = .ok (.iaload, 1) := by decide +kernel
theorem dL_law_1251 : decode cL_law 1251 = .ok (.aload_n 0, 1) := by decide +kernel
theorem dL_law_1252 : decode cL_law 1252 = .ok (.iload_n 3, 1) := by decide +kernel
theorem dL_law_1253 : decode cL_law 1253 = .ok (.iconst 2, 1) := by decide +kernel
theorem dL_law_1254 : decode cL_law 1254 = .ok (.iadd, 1) := by decide +kernel
theorem dL_law_1255 : decode cL_law 1255 = .ok (.iaload, 1) := by decide +kernel
theorem dL_law_1256 : decode cL_law 1256 = .ok (.aload_n 0, 1) := by decide +kernel
theorem dL_law_1257 : decode cL_law 1257 = .ok (.iload_n 3, 1) := by decide +kernel
theorem dL_law_1258 : decode cL_law 1258 = .ok (.iconst 3, 1) := by decide +kernel
theorem dL_law_1259 : decode cL_law 1259 = .ok (.iadd, 1) := by decide +kernel
theorem dL_law_1260 : decode cL_law 1260 = .ok (.iaload, 1) := by decide +kernel
theorem dL_law_1261 : decode cL_law 1261 = .ok (.aload_n 0, 1) := by decide +kernel
theorem dL_law_1262 : decode cL_law 1262 = .ok (.iload_n 3, 1) := by decide +kernel
theorem dL_law_1263 : decode cL_law 1263 = .ok (.iconst 4, 1) := by decide +kernel
theorem dL_law_1264 : decode cL_law 1264 = .ok (.iadd, 1) := by decide +kernel
theorem dL_law_1265 : decode cL_law 1265 = .ok (.iaload, 1) := by decide +kernel
theorem dL_law_1266 : decode cL_law 1266 = .ok (.aload_n 0, 1) := by decide +kernel
theorem dL_law_1267 : decode cL_law 1267 = .ok (.iload_n 3, 1) := by decide +kernel
theorem dL_law_1268 : decode cL_law 1268 = .ok (.iconst 5, 1) := by decide +kernel
theorem dL_law_1269 : decode cL_law 1269 = .ok (.iadd, 1) := by decide +kernel
theorem dL_law_1270 : decode cL_law 1270 = .ok (.iaload, 1) := by decide +kernel
theorem dL_law_1271 : decode cL_law 1271 = .ok (.invokevirtual 155, 3) := by decide +kernel
theorem dL_law_1274 : decode cL_law 1274 = .ok (.aload_n 2, 1) := by decide +kernel
theorem dL_law_1275 : decode cL_law 1275 = .ok (.aload_n 0, 1) := by decide +kernel
theorem dL_law_1276 : decode cL_law 1276 = .ok (.iload_n 3, 1) := by decide +kernel
theorem dL_law_1277 : decode cL_law 1277 = .ok (.iconst 1, 1) := by decide +kernel
theorem dL_law_1278 : decode cL_law 1278 = .ok (.iadd, 1) := by decide +kernel
theorem dL_law_1279 : decode cL_law 1279 = .ok (.iaload, 1) := by decide +kernel
theorem dL_law_1280 : decode cL_law 1280 = .ok (.aload_n 0, 1) := by decide +kernel
theorem dL_law_1281 : decode cL_law 1281 = .ok (.iload_n 3, 1) := by decide +kernel
theorem dL_law_1282 : decode cL_law 1282 = .ok (.iconst 2, 1) := by decide +kernel
theorem dL_law_1283 : decode cL_law 1283 = .ok (.iadd, 1) := by decide +kernel
theorem dL_law_1284 : decode cL_law 1284 = .ok (.iaload, 1) := by decide +kernel
theorem dL_law_1285 : decode cL_law 1285 = .ok (.aload_n 0, 1) := by decide +kernel
theorem dL_law_1286 : decode cL_law 1286 = .ok (.iload_n 3, 1) := by decide +kernel
theorem dL_law_1287 : decode cL_law 1287 = .ok (.iconst 3, 1) := by decide +kernel
theorem dL_law_1288 : decode cL_law 1288 = .ok (.iadd, 1) := by decide +kernel
theorem dL_law_1289 : decode cL_law 1289 = .ok (.iaload, 1) := by decide +kernel
theorem dL_law_1290 : decode cL_law 1290 = .ok (.aload_n 0, 1) := by decide +kernel
theorem dL_law_1291 : decode cL_law 1291 = .ok (.iload_n 3, 1) := by decide +kernel
theorem dL_law_1292 : decode cL_law 1292 = .ok (.iconst 4, 1) := by decide +kernel
theorem dL_law_1293 : decode cL_law 1293 = .ok (.iadd, 1) := by decide +kernel
theorem dL_law_1294 : decode cL_law 1294 = .ok (.iaload, 1) := by decide +kernel
theorem dL_law_1295 : decode cL_law 1295 = .ok (.aload_n 0, 1) := by decide +kernel
theorem dL_law_1296 : decode cL_law 1296 = .ok (.iload_n 3, 1) := by decide +kernel
theorem dL_law_1297 : decode cL_law 1297 = .ok (.iconst 5, 1) := by decide +kernel
theorem dL_law_1298 : decode cL_law 1298 = .ok (.iadd, 1) := by decide +kernel
theorem dL_law_1299 : decode cL_law 1299 = .ok (.iaload, 1) := by decide +kernel
theorem dL_law_1300 : decode cL_law 1300 = .ok (.invokevirtual 158, 3) := by decide +kernel
theorem dL_law_1303 : decode cL_law 1303 = .ok (.if_icmp .eq 322, 3) := by decide +kernel
theorem dL_law_1308 : decode cL_law 1308 = .ok (.aload_n 1, 1) := by decide +kernel
theorem dL_law_1309 : decode cL_law 1309 = .ok (.aload_n 0, 1) := by decide +kernel
theorem dL_law_1310 : decode cL_law 1310 = .ok (.iload_n 3, 1) := by decide +kernel
theorem dL_law_1311 : decode cL_law 1311 = .ok (.iconst 1, 1) := by decide +kernel
theorem dL_law_1312 : decode cL_law 1312 = .ok (.iadd, 1) := by decide +kernel
theorem dL_law_1313 : decode cL_law 1313 = .ok (.iaload, 1) := by decide +kernel
theorem dL_law_1314 : decode cL_law 1314 = .ok (.invokevirtual 159, 3) := by decide +kernel
theorem dL_law_1317 : decode cL_law 1317 = .ok (.aload_n 2, 1) := by decide +kernel
theorem dL_law_1318 : decode cL_law 1318 = .ok (.aload_n 0, 1) := by decide +kernel
theorem dL_law_1319 : decode cL_law 1319 = .ok (.iload_n 3, 1) := by decide +kernel
theorem dL_law_1320 : decode cL_law 1320 = .ok (.iconst 1, 1) := by decide +kernel
theorem dL_law_1321 : decode cL_law 1321 = .ok (.iadd, 1) := by decide +kernel
theorem dL_law_1322 : decode cL_law 1322 = .ok (.iaload, 1) := by decide +kernel
theorem dL_law_1323 : decode cL_law 1323 = .ok (.invokevirtual 162, 3) := by decide +kernel
theorem dL_law_1326 : decode cL_law 1326 = .ok (.if_icmp .eq 299, 3) := by decide +kernel
theorem dL_law_1331 : decode cL_law 1331 = .ok (.aload_n 1, 1) := by decide +kernel
theorem dL_law_1332 : decode cL_law 1332 = .ok (.aload_n 0, 1) := by decide +kernel
theorem dL_law_1333 : decode cL_law 1333 = .ok (.iload_n 3, 1) := by decide +kernel
theorem dL_law_1334 : decode cL_law 1334 = .ok (.iconst 1, 1) := by decide +kernel
theorem dL_law_1335 : decode cL_law 1335 = .ok (.iadd, 1) := by decide +kernel
theorem dL_law_1336 : decode cL_law 1336 = .ok (.iaload, 1) := by decide +kernel
theorem dL_law_1337 : decode cL_law 1337 = .ok (.invokevirtual 163, 3) := by decide +kernel
theorem dL_law_1340 : decode cL_law 1340 = .ok (.aload_n 2, 1) := by decide +kernel
theorem dL_law_1341 : decode cL_law 1341 = .ok (.aload_n 0, 1) := by decide +kernel
theorem dL_law_1342 : decode cL_law 1342 = .ok (.iload_n 3, 1) := by decide +kernel
theorem dL_law_1343 : decode cL_law 1343 = .ok (.iconst 1, 1) := by decide +kernel
theorem dL_law_1344 : decode cL_law 1344 = .ok (.iadd, 1) := by decide +kernel
theorem dL_law_1345 : decode cL_law 1345 = .ok (.iaload, 1) := by decide +kernel
theorem dL_law_1346 : decode cL_law 1346 = .ok (.invokevirtual 166, 3) := by decide +kernel
theorem dL_law_1349 : decode cL_law 1349 = .ok (.if_icmp .eq 276, 3) := by decide +kernel
theorem dL_law_1354 : decode cL_law 1354 = .ok (.aload_n 1, 1) := by decide +kernel
theorem dL_law_1355 : decode cL_law 1355 = .ok (.aload_n 0, 1) := by decide +kernel
theorem dL_law_1356 : decode cL_law 1356 = .ok (.iload_n 3, 1) := by decide +kernel
theorem dL_law_1357 : decode cL_law 1357 = .ok (.iconst 1, 1) := by decide +kernel
theorem dL_law_1358 : decode cL_law 1358 = .ok (.iadd, 1) := by decide +kernel
theorem dL_law_1359 : decode cL_law 1359 = .ok (.iaload, 1) := by decide +kernel
theorem dL_law_1360 : decode cL_law 1360 = .ok (.invokevirtual 167, 3) := by decide +kernel
theorem dL_law_1363 : decode cL_law 1363 = .ok (.aload_n 2, 1) := by decide +kernel
theorem dL_law_1364 : decode cL_law 1364 = .ok (.aload_n 0, 1) := by decide +kernel
theorem dL_law_1365 : decode cL_law 1365 = .ok (.iload_n 3, 1) := by decide +kernel
theorem dL_law_1366 : decode cL_law 1366 = .ok (.iconst 1, 1) := by decide +kernel
theorem dL_law_1367 : decode cL_law 1367 = .ok (.iadd, 1) := by decide +kernel
theorem dL_law_1368 : decode cL_law 1368 = .ok (.iaload, 1) := by decide +kernel
theorem dL_law_1369 : decode cL_law 1369 = .ok (.invokevirtual 170, 3) := by decide +kernel
theorem dL_law_1372 : decode cL_law 1372 = .ok (.if_icmp .eq 253, 3) := by decide +kernel
theorem dL_law_1377 : decode cL_law 1377 = .ok (.aload_n 1, 1) := by decide +kernel
theorem dL_law_1378 : decode cL_law 1378 = .ok (.aload_n 0, 1) := by decide +kernel
theorem dL_law_1379 : decode cL_law 1379 = .ok (.iload_n 3, 1) := by decide +kernel
theorem dL_law_1380 : decode cL_law 1380 = .ok (.iconst 1, 1) := by decide +kernel
theorem dL_law_1381 : decode cL_law 1381 = .ok (.iadd, 1) := by decide +kernel
theorem dL_law_1382 : decode cL_law 1382 = .ok (.iaload, 1) := by decide +kernel
theorem dL_law_1383 : decode cL_law 1383 = .ok (.invokevirtual 171, 3) := by decide +kernel
theorem dL_law_1386 : decode cL_law 1386 = .ok (.aload_n 2, 1) := by decide +kernel
theorem dL_law_1387 : decode cL_law 1387 = .ok (.aload_n 0, 1) := by decide +kernel
theorem dL_law_1388 : decode cL_law 1388 = .ok (.iload_n 3, 1) := by decide +kernel
theorem dL_law_1389 : decode cL_law 1389 = .ok (.iconst 1, 1) := by decide +kernel
theorem dL_law_1390 : decode cL_law 1390 = .ok (.iadd, 1) := by decide +kernel
theorem dL_law_1391 : decode cL_law 1391 = .ok (.iaload, 1) := by decide +kernel
theorem dL_law_1392 : decode cL_law 1392 = .ok (.invokevirtual 174, 3) := by decide +kernel
theorem dL_law_1395 : decode cL_law 1395 = .ok (.if_icmp .eq 230, 3) := by decide +kernel
theorem dL_law_1400 : decode cL_law 1400 = .ok (.aload_n 1, 1) := by decide +kernel
theorem dL_law_1401 : decode cL_law 1401 = .ok (.aload_n 0, 1) := by decide +kernel
theorem dL_law_1402 : decode cL_law 1402 = .ok (.iload_n 3, 1) := by decide +kernel
theorem dL_law_1403 : decode cL_law 1403 = .ok (.iconst 1, 1) := by decide +kernel
theorem dL_law_1404 : decode cL_law 1404 = .ok (.iadd, 1) := by decide +kernel
theorem dL_law_1405 : decode cL_law 1405 = .ok (.iaload, 1) := by decide +kernel
theorem dL_law_1406 : decode cL_law 1406 = .ok (.invokevirtual 175, 3) := by decide +kernel
theorem dL_law_1409 : decode cL_law 1409 = .ok (.aload_n 2, 1) := by decide +kernel
theorem dL_law_1410 : decode cL_law 1410 = .ok (.aload_n 0, 1) := by decide +kernel
theorem dL_law_1411 : decode cL_law 1411 = .ok (.iload_n 3, 1) := by decide +kernel
