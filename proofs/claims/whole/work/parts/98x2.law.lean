/-! THE LAW: its instructions -/
theorem dL_1042 : decode code 1042 = .ok (.if_icmp .eq 413, 3) := by decide +kernel
theorem dL_1045 : decode code 1045 = .ok (.iconst 0, 1) := by decide +kernel
theorem dL_1046 : decode code 1046 = .ok (.ireturn, 1) := by decide +kernel
theorem dL_1047 : decode code 1047 = .ok (.aload_n 1, 1) := by decide +kernel
theorem dL_1048 : decode code 1048 = .ok (.aload_n 0, 1) := by decide +kernel
theorem dL_1049 : decode code 1049 = .ok (.iload_n 3, 1) := by decide +kernel
theorem dL_1050 : decode code 1050 = .ok (.iconst 1, 1) := by decide +kernel
theorem dL_1051 : decode code 1051 = .ok (.iadd, 1) := by decide +kernel
theorem dL_1052 : decode code 1052 = .ok (.iaload, 1) := by decide +kernel
theorem dL_1053 : decode code 1053 = .ok (.aload_n 0, 1) := by decide +kernel
theorem dL_1054 : decode code 1054 = .ok (.iload_n 3, 1) := by decide +kernel
theorem dL_1055 : decode code 1055 = .ok (.iconst 2, 1) := by decide +kernel
theorem dL_1056 : decode code 1056 = .ok (.iadd, 1) := by decide +kernel
theorem dL_1057 : decode code 1057 = .ok (.iaload, 1) := by decide +kernel
theorem dL_1058 : decode code 1058 = .ok (.invokevirtual 119, 3) := by decide +kernel
theorem dL_1061 : decode code 1061 = .ok (.aload_n 2, 1) := by decide +kernel
theorem dL_1062 : decode code 1062 = .ok (.aload_n 0, 1) := by decide +kernel
theorem dL_1063 : decode code 1063 = .ok (.iload_n 3, 1) := by decide +kernel
theorem dL_1064 : decode code 1064 = .ok (.iconst 1, 1) := by decide +kernel
theorem dL_1065 : decode code 1065 = .ok (.iadd, 1) := by decide +kernel
theorem dL_1066 : decode code 1066 = .ok (.iaload, 1) := by decide +kernel
theorem dL_1067 : decode code 1067 = .ok (.aload_n 0, 1) := by decide +kernel
theorem dL_1068 : decode code 1068 = .ok (.iload_n 3, 1) := by decide +kernel
theorem dL_1069 : decode code 1069 = .ok (.iconst 2, 1) := by decide +kernel
theorem dL_1070 : decode code 1070 = .ok (.iadd, 1) := by decide +kernel
theorem dL_1071 : decode code 1071 = .ok (.iaload, 1) := by decide +kernel
theorem dL_1072 : decode code 1072 = .ok (.invokevirtual 122, 3) := by decide +kernel
theorem dL_1075 : decode code 1075 = .ok (.if_icmp .eq 380, 3) := by decide +kernel
theorem dL_1078 : decode code 1078 = .ok (.iconst 0, 1) := by decide +kernel
theorem dL_1079 : decode code 1079 = .ok (.ireturn, 1) := by decide +kernel
theorem dL_1080 : decode code 1080 = .ok (.aload_n 1, 1) := by decide +kernel
theorem dL_1081 : decode code 1081 = .ok (.invokevirtual 123, 3) := by decide +kernel
theorem dL_1084 : decode code 1084 = .ok (.aload_n 2, 1) := by decide +kernel
theorem dL_1085 : decode code 1085 = .ok (.invokevirtual 126, 3) := by decide +kernel
theorem dL_1088 : decode code 1088 = .ok (.if_icmp .eq 367, 3) := by decide +kernel
theorem dL_1091 : decode code 1091 = .ok (.iconst 0, 1) := by decide +kernel
theorem dL_1092 : decode code 1092 = .ok (.ireturn, 1) := by decide +kernel
theorem dL_1093 : decode code 1093 = .ok (.aload_n 1, 1) := by decide +kernel
theorem dL_1094 : decode code 1094 = .ok (.aload_n 0, 1) := by decide +kernel
theorem dL_1095 : decode code 1095 = .ok (.iload_n 3, 1) := by decide +kernel
theorem dL_1096 : decode code 1096 = .ok (.iconst 1, 1) := by decide +kernel
theorem dL_1097 : decode code 1097 = .ok (.iadd, 1) := by decide +kernel
theorem dL_1098 : decode code 1098 = .ok (.iaload, 1) := by decide +kernel
theorem dL_1099 : decode code 1099 = .ok (.aload_n 0, 1) := by decide +kernel
theorem dL_1100 : decode code 1100 = .ok (.iload_n 3, 1) := by decide +kernel
theorem dL_1101 : decode code 1101 = .ok (.iconst 2, 1) := by decide +kernel
theorem dL_1102 : decode code 1102 = .ok (.iadd, 1) := by decide +kernel
theorem dL_1103 : decode code 1103 = .ok (.iaload, 1) := by decide +kernel
theorem dL_1104 : decode code 1104 = .ok (.invokevirtual 127, 3) := by decide +kernel
theorem dL_1107 : decode code 1107 = .ok (.aload_n 2, 1) := by decide +kernel
theorem dL_1108 : decode code 1108 = .ok (.aload_n 0, 1) := by decide +kernel
theorem dL_1109 : decode code 1109 = .ok (.iload_n 3, 1) := by decide +kernel
theorem dL_1110 : decode code 1110 = .ok (.iconst 1, 1) := by decide +kernel
theorem dL_1111 : decode code 1111 = .ok (.iadd, 1) := by decide +kernel
theorem dL_1112 : decode code 1112 = .ok (.iaload, 1) := by decide +kernel
theorem dL_1113 : decode code 1113 = .ok (.aload_n 0, 1) := by decide +kernel
theorem dL_1114 : decode code 1114 = .ok (.iload_n 3, 1) := by decide +kernel
theorem dL_1115 : decode code 1115 = .ok (.iconst 2, 1) := by decide +kernel
theorem dL_1116 : decode code 1116 = .ok (.iadd, 1) := by decide +kernel
theorem dL_1117 : decode code 1117 = .ok (.iaload, 1) := by decide +kernel
theorem dL_1118 : decode code 1118 = .ok (.invokevirtual 130, 3) := by decide +kernel
theorem dL_1121 : decode code 1121 = .ok (.if_icmp .eq 334, 3) := by decide +kernel
theorem dL_1124 : decode code 1124 = .ok (.iconst 0, 1) := by decide +kernel
theorem dL_1125 : decode code 1125 = .ok (.ireturn, 1) := by decide +kernel
theorem dL_1126 : decode code 1126 = .ok (.aload_n 1, 1) := by decide +kernel
theorem dL_1127 : decode code 1127 = .ok (.aload_n 0, 1) := by decide +kernel
theorem dL_1128 : decode code 1128 = .ok (.iload_n 3, 1) := by decide +kernel
theorem dL_1129 : decode code 1129 = .ok (.iconst 1, 1) := by decide +kernel
theorem dL_1130 : decode code 1130 = .ok (.iadd, 1) := by decide +kernel
theorem dL_1131 : decode code 1131 = .ok (.iaload, 1) := by decide +kernel
theorem dL_1132 : decode code 1132 = .ok (.aload_n 0, 1) := by decide +kernel
theorem dL_1133 : decode code 1133 = .ok (.iload_n 3, 1) := by decide +kernel
theorem dL_1134 : decode code 1134 = .ok (.iconst 2, 1) := by decide +kernel
theorem dL_1135 : decode code 1135 = .ok (.iadd, 1) := by decide +kernel
theorem dL_1136 : decode code 1136 = .ok (.iaload, 1) := by decide +kernel
theorem dL_1137 : decode code 1137 = .ok (.invokevirtual 131, 3) := by decide +kernel
theorem dL_1140 : decode code 1140 = .ok (.aload_n 2, 1) := by decide +kernel
theorem dL_1141 : decode code 1141 = .ok (.aload_n 0, 1) := by decide +kernel
theorem dL_1142 : decode code 1142 = .ok (.iload_n 3, 1) := by decide +kernel
theorem dL_1143 : decode code 1143 = .ok (.iconst 1, 1) := by decide +kernel
theorem dL_1144 : decode code 1144 = .ok (.iadd, 1) := by decide +kernel
theorem dL_1145 : decode code 1145 = .ok (.iaload, 1) := by decide +kernel
theorem dL_1146 : decode code 1146 = .ok (.aload_n 0, 1) := by decide +kernel
theorem dL_1147 : decode code 1147 = .ok (.iload_n 3, 1) := by decide +kernel
theorem dL_1148 : decode code 1148 = .ok (.iconst 2, 1) := by decide +kernel
theorem dL_1149 : decode code 1149 = .ok (.iadd, 1) := by decide +kernel
theorem dL_1150 : decode code 1150 = .ok (.iaload, 1) := by decide +kernel
theorem dL_1151 : decode code 1151 = .ok (.invokevirtual 134, 3) := by decide +kernel
theorem dL_1154 : decode code 1154 = .ok (.if_icmp .eq 301, 3) := by decide +kernel
theorem dL_1157 : decode code 1157 = .ok (.iconst 0, 1) := by decide +kernel
theorem dL_1158 : decode code 1158 = .ok (.ireturn, 1) := by decide +kernel
theorem dL_1159 : decode code 1159 = .ok (.aload_n 1, 1) := by decide +kernel
theorem dL_1160 : decode code 1160 = .ok (.aload_n 0, 1) := by decide +kernel
theorem dL_1161 : decode code 1161 = .ok (.iload_n 3, 1) := by decide +kernel
theorem dL_1162 : decode code 1162 = .ok (.iconst 1, 1) := by decide +kernel
theorem dL_1163 : decode code 1163 = .ok (.iadd, 1) := by decide +kernel
theorem dL_1164 : decode code 1164 = .ok (.iaload, 1) := by decide +kernel
theorem dL_1165 : decode code 1165 = .ok (.invokevirtual 135, 3) := by decide +kernel
theorem dL_1168 : decode code 1168 = .ok (.aload_n 2, 1) := by decide +kernel
theorem dL_1169 : decode code 1169 = .ok (.aload_n 0, 1) := by decide +kernel
theorem dL_1170 : decode code 1170 = .ok (.iload_n 3, 1) := by decide +kernel
theorem dL_1171 : decode code 1171 = .ok (.iconst 1, 1) := by decide +kernel
theorem dL_1172 : decode code 1172 = .ok (.iadd, 1) := by decide +kernel
theorem dL_1173 : decode code 1173 = .ok (.iaload, 1) := by decide +kernel
theorem dL_1174 : decode code 1174 = .ok (.invokevirtual 138, 3) := by decide +kernel
theorem dL_1177 : decode code 1177 = .ok (.if_icmp .eq 278, 3) := by decide +kernel
theorem dL_1180 : decode code 1180 = .ok (.iconst 0, 1) := by decide +kernel
theorem dL_1181 : decode code 1181 = .ok (.ireturn, 1) := by decide +kernel
theorem dL_1182 : decode code 1182 = .ok (.aload_n 1, 1) := by decide +kernel
theorem dL_1183 : decode code 1183 = .ok (.aload_n 0, 1) := by decide +kernel
theorem dL_1184 : decode code 1184 = .ok (.iload_n 3, 1) := by decide +kernel
theorem dL_1185 : decode code 1185 = .ok (.iconst 1, 1) := by decide +kernel
theorem dL_1186 : decode code 1186 = .ok (.iadd, 1) := by decide +kernel
theorem dL_1187 : decode code 1187 = .ok (.iaload, 1) := by decide +kernel
theorem dL_1188 : decode code 1188 = .ok (.aload_n 0, 1) := by decide +kernel
theorem dL_1189 : decode code 1189 = .ok (.iload_n 3, 1) := by decide +kernel
theorem dL_1190 : decode code 1190 = .ok (.iconst 2, 1) := by decide +kernel
theorem dL_1191 : decode code 1191 = .ok (.iadd, 1) := by decide +kernel
theorem dL_1192 : decode code 1192 = .ok (.iaload, 1) := by decide +kernel
theorem dL_1193 : decode code 1193 = .ok (.invokevirtual 139, 3) := by decide +kernel
theorem dL_1196 : decode code 1196 = .ok (.aload_n 2, 1) := by decide +kernel
theorem dL_1197 : decode code 1197 = .ok (.aload_n 0, 1) := by decide +kernel
theorem dL_1198 : decode code 1198 = .ok (.iload_n 3, 1) := by decide +kernel
theorem dL_1199 : decode code 1199 = .ok (.iconst 1, 1) := by decide +kernel
theorem dL_1200 : decode code 1200 = .ok (.iadd, 1) := by decide +kernel
theorem dL_1201 : decode code 1201 = .ok (.iaload, 1) := by decide +kernel
theorem dL_1202 : decode code 1202 = .ok (.aload_n 0, 1) := by decide +kernel
theorem dL_1203 : decode code 1203 = .ok (.iload_n 3, 1) := by decide +kernel
theorem dL_1204 : decode code 1204 = .ok (.iconst 2, 1) := by decide +kernel
theorem dL_1205 : decode code 1205 = .ok (.iadd, 1) := by decide +kernel
theorem dL_1206 : decode code 1206 = .ok (.iaload, 1) := by decide +kernel
theorem dL_1207 : decode code 1207 = .ok (.invokevirtual 142, 3) := by decide +kernel
theorem dL_1210 : decode code 1210 = .ok (.if_icmp .eq 245, 3) := by decide +kernel
theorem dL_1213 : decode code 1213 = .ok (.iconst 0, 1) := by decide +kernel
theorem dL_1214 : decode code 1214 = .ok (.ireturn, 1) := by decide +kernel
theorem dL_1215 : decode code 1215 = .ok (.aload_n 1, 1) := by decide +kernel
theorem dL_1216 : decode code 1216 = .ok (.aload_n 0, 1) := by decide +kernel
theorem dL_1217 : decode code 1217 = .ok (.iload_n 3, 1) := by decide +kernel
theorem dL_1218 : decode code 1218 = .ok (.iconst 1, 1) := by decide +kernel
theorem dL_1219 : decode code 1219 = .ok (.iadd, 1) := by decide +kernel
theorem dL_1220 : decode code 1220 = .ok (.iaload, 1) := by decide +kernel
theorem dL_1221 : decode code 1221 = .ok (.invokevirtual 143, 3) := by decide +kernel
theorem dL_1224 : decode code 1224 = .ok (.aload_n 2, 1) := by decide +kernel
theorem dL_1225 : decode code 1225 = .ok (.aload_n 0, 1) := by decide +kernel
theorem dL_1226 : decode code 1226 = .ok (.iload_n 3, 1) := by decide +kernel
theorem dL_1227 : decode code 1227 = .ok (.iconst 1, 1) := by decide +kernel
theorem dL_1228 : decode code 1228 = .ok (.iadd, 1) := by decide +kernel
theorem dL_1229 : decode code 1229 = .ok (.iaload, 1) := by decide +kernel
theorem dL_1230 : decode code 1230 = .ok (.invokevirtual 146, 3) := by decide +kernel
theorem dL_1233 : decode code 1233 = .ok (.if_icmp .eq 222, 3) := by decide +kernel
theorem dL_1236 : decode code 1236 = .ok (.iconst 0, 1) := by decide +kernel
theorem dL_1237 : decode code 1237 = .ok (.ireturn, 1) := by decide +kernel
theorem dL_1238 : decode code 1238 = .ok (.aload_n 1, 1) := by decide +kernel
theorem dL_1239 : decode code 1239 = .ok (.aload_n 0, 1) := by decide +kernel
theorem dL_1240 : decode code 1240 = .ok (.iload_n 3, 1) := by decide +kernel
theorem dL_1241 : decode code 1241 = .ok (.iconst 1, 1) := by decide +kernel
theorem dL_1242 : decode code 1242 = .ok (.iadd, 1) := by decide +kernel
theorem dL_1243 : decode code 1243 = .ok (.iaload, 1) := by decide +kernel
theorem dL_1244 : decode code 1244 = .ok (.aload_n 0, 1) := by decide +kernel
theorem dL_1245 : decode code 1245 = .ok (.iload_n 3, 1) := by decide +kernel
theorem dL_1246 : decode code 1246 = .ok (.iconst 2, 1) := by decide +kernel
theorem dL_1247 : decode code 1247 = .ok (.iadd, 1) := by decide +kernel
theorem dL_1248 : decode code 1248 = .ok (.iaload, 1) := by decide +kernel
theorem dL_1249 : decode code 1249 = .ok (.invokevirtual 147, 3) := by decide +kernel
theorem dL_1252 : decode code 1252 = .ok (.aload_n 2, 1) := by decide +kernel
theorem dL_1253 : decode code 1253 = .ok (.aload_n 0, 1) := by decide +kernel
theorem dL_1254 : decode code 1254 = .ok (.iload_n 3, 1) := by decide +kernel
theorem dL_1255 : decode code 1255 = .ok (.iconst 1, 1) := by decide +kernel
theorem dL_1256 : decode code 1256 = .ok (.iadd, 1) := by decide +kernel
theorem dL_1257 : decode code 1257 = .ok (.iaload, 1) := by decide +kernel
theorem dL_1258 : decode code 1258 = .ok (.aload_n 0, 1) := by decide +kernel
theorem dL_1259 : decode code 1259 = .ok (.iload_n 3, 1) := by decide +kernel
theorem dL_1260 : decode code 1260 = .ok (.iconst 2, 1) := by decide +kernel
theorem dL_1261 : decode code 1261 = .ok (.iadd, 1) := by decide +kernel
theorem dL_1262 : decode code 1262 = .ok (.iaload, 1) := by decide +kernel
theorem dL_1263 : decode code 1263 = .ok (.invokevirtual 150, 3) := by decide +kernel
theorem dL_1266 : decode code 1266 = .ok (.if_icmp .eq 189, 3) := by decide +kernel
theorem dL_1269 : decode code 1269 = .ok (.iconst 0, 1) := by decide +kernel
theorem dL_1270 : decode code 1270 = .ok (.ireturn, 1) := by decide +kernel
theorem dL_1271 : decode code 1271 = .ok (.aload_n 1, 1) := by decide +kernel
theorem dL_1272 : decode code 1272 = .ok (.invokevirtual 151, 3) := by decide +kernel
theorem dL_1275 : decode code 1275 = .ok (.aload_n 2, 1) := by decide +kernel
theorem dL_1276 : decode code 1276 = .ok (.invokevirtual 154, 3) := by decide +kernel
theorem dL_1279 : decode code 1279 = .ok (.if_icmp .eq 176, 3) := by decide +kernel
theorem dL_1282 : decode code 1282 = .ok (.iconst 0, 1) := by decide +kernel
theorem dL_1283 : decode code 1283 = .ok (.ireturn, 1) := by decide +kernel
theorem dL_1284 : decode code 1284 = .ok (.aload_n 1, 1) := by decide +kernel
theorem dL_1285 : decode code 1285 = .ok (.aload_n 0, 1) := by decide +kernel
theorem dL_1286 : decode code 1286 = .ok (.iload_n 3, 1) := by decide +kernel
theorem dL_1287 : decode code 1287 = .ok (.iconst 1, 1) := by decide +kernel
theorem dL_1288 : decode code 1288 = .ok (.iadd, 1) := by decide +kernel
theorem dL_1289 : decode code 1289 = .ok (.iaload, 1) := by decide +kernel
theorem dL_1290 : decode code 1290 = .ok (.aload_n 0, 1) := by decide +kernel
theorem dL_1291 : decode code 1291 = .ok (.iload_n 3, 1) := by decide +kernel
theorem dL_1292 : decode code 1292 = .ok (.iconst 2, 1) := by decide +kernel
theorem dL_1293 : decode code 1293 = .ok (.iadd, 1) := by decide +kernel
theorem dL_1294 : decode code 1294 = .ok (.iaload, 1) := by decide +kernel
theorem dL_1295 : decode code 1295 = .ok (.invokevirtual 155, 3) := by decide +kernel
theorem dL_1298 : decode code 1298 = .ok (.aload_n 2, 1) := by decide +kernel
theorem dL_1299 : decode code 1299 = .ok (.aload_n 0, 1) := by decide +kernel
theorem dL_1300 : decode code 1300 = .ok (.iload_n 3, 1) := by decide +kernel
theorem dL_1301 : decode code 1301 = .ok (.iconst 1, 1) := by decide +kernel
theorem dL_1302 : decode code 1302 = .ok (.iadd, 1) := by decide +kernel
theorem dL_1303 : decode code 1303 = .ok (.iaload, 1) := by decide +kernel
theorem dL_1304 : decode code 1304 = .ok (.aload_n 0, 1) := by decide +kernel
theorem dL_1305 : decode code 1305 = .ok (.iload_n 3, 1) := by decide +kernel
theorem dL_1306 : decode code 1306 = .ok (.iconst 2, 1) := by decide +kernel
theorem dL_1307 : decode code 1307 = .ok (.iadd, 1) := by decide +kernel
theorem dL_1308 : decode code 1308 = .ok (.iaload, 1) := by decide +kernel
theorem dL_1309 : decode code 1309 = .ok (.invokevirtual 158, 3) := by decide +kernel
theorem dL_1312 : decode code 1312 = .ok (.if_icmp .eq 143, 3) := by decide +kernel
theorem dL_1315 : decode code 1315 = .ok (.iconst 0, 1) := by decide +kernel
theorem dL_1316 : decode code 1316 = .ok (.ireturn, 1) := by decide +kernel
theorem dL_1317 : decode code 1317 = .ok (.aload_n 1, 1) := by decide +kernel
theorem dL_1318 : decode code 1318 = .ok (.aload_n 0, 1) := by decide +kernel
theorem dL_1319 : decode code 1319 = .ok (.iload_n 3, 1) := by decide +kernel
theorem dL_1320 : decode code 1320 = .ok (.iconst 1, 1) := by decide +kernel
theorem dL_1321 : decode code 1321 = .ok (.iadd, 1) := by decide +kernel
theorem dL_1322 : decode code 1322 = .ok (.iaload, 1) := by decide +kernel
theorem dL_1323 : decode code 1323 = .ok (.invokevirtual 159, 3) := by decide +kernel
theorem dL_1326 : decode code 1326 = .ok (.aload_n 2, 1) := by decide +kernel
theorem dL_1327 : decode code 1327 = .ok (.aload_n 0, 1) := by decide +kernel
theorem dL_1328 : decode code 1328 = .ok (.iload_n 3, 1) := by decide +kernel
theorem dL_1329 : decode code 1329 = .ok (.iconst 1, 1) := by decide +kernel
theorem dL_1330 : decode code 1330 = .ok (.iadd, 1) := by decide +kernel
theorem dL_1331 : decode code 1331 = .ok (.iaload, 1) := by decide +kernel
theorem dL_1332 : decode code 1332 = .ok (.invokevirtual 162, 3) := by decide +kernel
theorem dL_1335 : decode code 1335 = .ok (.if_icmp .eq 120, 3) := by decide +kernel
theorem dL_1338 : decode code 1338 = .ok (.iconst 0, 1) := by decide +kernel
theorem dL_1339 : decode code 1339 = .ok (.ireturn, 1) := by decide +kernel
theorem dL_1340 : decode code 1340 = .ok (.aload_n 1, 1) := by decide +kernel
theorem dL_1341 : decode code 1341 = .ok (.aload_n 0, 1) := by decide +kernel
theorem dL_1342 : decode code 1342 = .ok (.iload_n 3, 1) := by decide +kernel
theorem dL_1343 : decode code 1343 = .ok (.iconst 1, 1) := by decide +kernel
theorem dL_1344 : decode code 1344 = .ok (.iadd, 1) := by decide +kernel
theorem dL_1345 : decode code 1345 = .ok (.iaload, 1) := by decide +kernel
theorem dL_1346 : decode code 1346 = .ok (.aload_n 0, 1) := by decide +kernel
theorem dL_1347 : decode code 1347 = .ok (.iload_n 3, 1) := by decide +kernel
theorem dL_1348 : decode code 1348 = .ok (.iconst 2, 1) := by decide +kernel
theorem dL_1349 : decode code 1349 = .ok (.iadd, 1) := by decide +kernel
theorem dL_1350 : decode code 1350 = .ok (.iaload, 1) := by decide +kernel
theorem dL_1351 : decode code 1351 = .ok (.aload_n 0, 1) := by decide +kernel
theorem dL_1352 : decode code 1352 = .ok (.iload_n 3, 1) := by decide +kernel
theorem dL_1353 : decode code 1353 = .ok (.iconst 3, 1) := by decide +kernel
theorem dL_1354 : decode code 1354 = .ok (.iadd, 1) := by decide +kernel
theorem dL_1355 : decode code 1355 = .ok (.iaload, 1) := by decide +kernel
theorem dL_1356 : decode code 1356 = .ok (.invokevirtual 163, 3) := by decide +kernel
theorem dL_1359 : decode code 1359 = .ok (.aload_n 2, 1) := by decide +kernel
theorem dL_1360 : decode code 1360 = .ok (.aload_n 0, 1) := by decide +kernel
theorem dL_1361 : decode code 1361 = .ok (.iload_n 3, 1) := by decide +kernel
theorem dL_1362 : decode code 1362 = .ok (.iconst 1, 1) := by decide +kernel
theorem dL_1363 : decode code 1363 = .ok (.iadd, 1) := by decide +kernel
theorem dL_1364 : decode code 1364 = .ok (.iaload, 1) := by decide +kernel
theorem dL_1365 : decode code 1365 = .ok (.aload_n 0, 1) := by decide +kernel
theorem dL_1366 : decode code 1366 = .ok (.iload_n 3, 1) := by decide +kernel
theorem dL_1367 : decode code 1367 = .ok (.iconst 2, 1) := by decide +kernel
theorem dL_1368 : decode code 1368 = .ok (.iadd, 1) := by decide +kernel
theorem dL_1369 : decode code 1369 = .ok (.iaload, 1) := by decide +kernel
theorem dL_1370 : decode code 1370 = .ok (.aload_n 0, 1) := by decide +kernel
theorem dL_1371 : decode code 1371 = .ok (.iload_n 3, 1) := by decide +kernel
theorem dL_1372 : decode code 1372 = .ok (.iconst 3, 1) := by decide +kernel
theorem dL_1373 : decode code 1373 = .ok (.iadd, 1) := by decide +kernel
theorem dL_1374 : decode code 1374 = .ok (.iaload, 1) := by decide +kernel
theorem dL_1375 : decode code 1375 = .ok (.invokevirtual 166, 3) := by decide +kernel
theorem dL_1378 : decode code 1378 = .ok (.if_icmp .eq 77, 3) := by decide +kernel
theorem dL_1381 : decode code 1381 = .ok (.iconst 0, 1) := by decide +kernel
theorem dL_1382 : decode code 1382 = .ok (.ireturn, 1) := by decide +kernel
theorem dL_1383 : decode code 1383 = .ok (.aload_n 1, 1) := by decide +kernel
theorem dL_1384 : decode code 1384 = .ok (.aload_n 0, 1) := by decide +kernel
theorem dL_1385 : decode code 1385 = .ok (.iload_n 3, 1) := by decide +kernel
theorem dL_1386 : decode code 1386 = .ok (.iconst 1, 1) := by decide +kernel
theorem dL_1387 : decode code 1387 = .ok (.iadd, 1) := by decide +kernel
theorem dL_1388 : decode code 1388 = .ok (.iaload, 1) := by decide +kernel
theorem dL_1389 : decode code 1389 = .ok (.invokevirtual 167, 3) := by decide +kernel
theorem dL_1392 : decode code 1392 = .ok (.aload_n 2, 1) := by decide +kernel
theorem dL_1393 : decode code 1393 = .ok (.aload_n 0, 1) := by decide +kernel
theorem dL_1394 : decode code 1394 = .ok (.iload_n 3, 1) := by decide +kernel
theorem dL_1395 : decode code 1395 = .ok (.iconst 1, 1) := by decide +kernel
theorem dL_1396 : decode code 1396 = .ok (.iadd, 1) := by decide +kernel
theorem dL_1397 : decode code 1397 = .ok (.iaload, 1) := by decide +kernel
theorem dL_1398 : decode code 1398 = .ok (.invokevirtual 170, 3) := by decide +kernel
theorem dL_1401 : decode code 1401 = .ok (.if_icmp .eq 54, 3) := by decide +kernel
theorem dL_1404 : decode code 1404 = .ok (.iconst 0, 1) := by decide +kernel
theorem dL_1405 : decode code 1405 = .ok (.ireturn, 1) := by decide +kernel
theorem dL_1406 : decode code 1406 = .ok (.aload_n 1, 1) := by decide +kernel
theorem dL_1407 : decode code 1407 = .ok (.invokevirtual 171, 3) := by decide +kernel
theorem dL_1410 : decode code 1410 = .ok (.aload_n 2, 1) := by decide +kernel
theorem dL_1411 : decode code 1411 = .ok (.invokevirtual 174, 3) := by decide +kernel
theorem dL_1414 : decode code 1414 = .ok (.if_icmp .eq 41, 3) := by decide +kernel
theorem dL_1417 : decode code 1417 = .ok (.iconst 0, 1) := by decide +kernel
theorem dL_1418 : decode code 1418 = .ok (.ireturn, 1) := by decide +kernel
theorem dL_1419 : decode code 1419 = .ok (.aload_n 1, 1) := by decide +kernel
theorem dL_1420 : decode code 1420 = .ok (.invokevirtual 175, 3) := by decide +kernel
theorem dL_1423 : decode code 1423 = .ok (.aload_n 2, 1) := by decide +kernel
theorem dL_1424 : decode code 1424 = .ok (.invokevirtual 178, 3) := by decide +kernel
theorem dL_1427 : decode code 1427 = .ok (.if_icmp .eq 28, 3) := by decide +kernel
theorem dL_1430 : decode code 1430 = .ok (.iconst 0, 1) := by decide +kernel
theorem dL_1431 : decode code 1431 = .ok (.ireturn, 1) := by decide +kernel
theorem dL_1432 : decode code 1432 = .ok (.aload_n 1, 1) := by decide +kernel
theorem dL_1433 : decode code 1433 = .ok (.aload_n 0, 1) := by decide +kernel
theorem dL_1434 : decode code 1434 = .ok (.iload_n 3, 1) := by decide +kernel
theorem dL_1435 : decode code 1435 = .ok (.iconst 1, 1) := by decide +kernel
theorem dL_1436 : decode code 1436 = .ok (.iadd, 1) := by decide +kernel
theorem dL_1437 : decode code 1437 = .ok (.iaload, 1) := by decide +kernel
theorem dL_1438 : decode code 1438 = .ok (.invokevirtual 179, 3) := by decide +kernel
theorem dL_1441 : decode code 1441 = .ok (.aload_n 2, 1) := by decide +kernel
theorem dL_1442 : decode code 1442 = .ok (.aload_n 0, 1) := by decide +kernel
theorem dL_1443 : decode code 1443 = .ok (.iload_n 3, 1) := by decide +kernel
theorem dL_1444 : decode code 1444 = .ok (.iconst 1, 1) := by decide +kernel
theorem dL_1445 : decode code 1445 = .ok (.iadd, 1) := by decide +kernel
theorem dL_1446 : decode code 1446 = .ok (.iaload, 1) := by decide +kernel
theorem dL_1447 : decode code 1447 = .ok (.invokevirtual 182, 3) := by decide +kernel
theorem dL_1450 : decode code 1450 = .ok (.if_icmp .eq 5, 3) := by decide +kernel
theorem dL_1453 : decode code 1453 = .ok (.iconst 0, 1) := by decide +kernel
theorem dL_1454 : decode code 1454 = .ok (.ireturn, 1) := by decide +kernel
theorem dL_1455 : decode code 1455 = .ok (.iinc 3 6, 3) := by decide +kernel
theorem dL_1458 : decode code 1458 = .ok (.goto (-1440), 3) := by decide +kernel
theorem dL_1461 : decode code 1461 = .ok (.iconst 1, 1) := by decide +kernel
theorem dL_1462 : decode code 1462 = .ok (.ireturn, 1) := by decide +kernel
