theorem dL_law_1060 : decode cL_law 1060 = .ok (.aload_n 1, 1) := by decide +kernel
theorem dL_law_1061 : decode cL_law 1061 = .ok (.invokevirtual 147, 3) := by decide +kernel
theorem dL_law_1064 : decode cL_law 1064 = .ok (.aload_n 2, 1) := by decide +kernel
theorem dL_law_1065 : decode cL_law 1065 = .ok (.invokevirtual 150, 3) := by decide +kernel
theorem dL_law_1068 : decode cL_law 1068 = .ok (.if_icmp .eq 524, 3) := by decide +kernel
theorem dL_law_1073 : decode cL_law 1073 = .ok (.aload_n 1, 1) := by decide +kernel
theorem dL_law_1074 : decode cL_law 1074 = .ok (.invokevirtual 151, 3) := by decide +kernel
theorem dL_law_1077 : decode cL_law 1077 = .ok (.aload_n 2, 1) := by decide +kernel
theorem dL_law_1078 : decode cL_law 1078 = .ok (.invokevirtual 154, 3) := by decide +kernel
theorem dL_law_1081 : decode cL_law 1081 = .ok (.if_icmp .eq 511, 3) := by decide +kernel
theorem dL_law_1086 : decode cL_law 1086 = .ok (.aload_n 1, 1) := by decide +kernel
theorem dL_law_1087 : decode cL_law 1087 = .ok (.invokevirtual 155, 3) := by decide +kernel
theorem dL_law_1090 : decode cL_law 1090 = .ok (.aload_n 2, 1) := by decide +kernel
theorem dL_law_1091 : decode cL_law 1091 = .ok (.invokevirtual 158, 3) := by decide +kernel
theorem dL_law_1094 : decode cL_law 1094 = .ok (.if_icmp .eq 498, 3) := by decide +kernel
theorem dL_law_1099 : decode cL_law 1099 = .ok (.aload_n 1, 1) := by decide +kernel
theorem dL_law_1100 : decode cL_law 1100 = .ok (.aload_n 0, 1) := by decide +kernel
theorem dL_law_1101 : decode cL_law 1101 = .ok (.iload_n 3, 1) := by decide +kernel
theorem dL_law_1102 : decode cL_law 1102 = .ok (.iconst 1, 1) := by decide +kernel
theorem dL_law_1103 : decode cL_law 1103 = .ok (.iadd, 1) := by decide +kernel
theorem dL_law_1104 : decode cL_law 1104 = .ok (.iaload, 1) := by decide +kernel
theorem dL_law_1105 : decode cL_law 1105 = .ok (.aload_n 0, 1) := by decide +kernel
theorem dL_law_1106 : decode cL_law 1106 = .ok (.iload_n 3, 1) := by decide +kernel
theorem dL_law_1107 : decode cL_law 1107 = .ok (.iconst 2, 1) := by decide +kernel
theorem dL_law_1108 : decode cL_law 1108 = .ok (.iadd, 1) := by decide +kernel
theorem dL_law_1109 : decode cL_law 1109 = .ok (.iaload, 1) := by decide +kernel
theorem dL_law_1110 : decode cL_law 1110 = .ok (.invokevirtual 159, 3) := by decide +kernel
theorem dL_law_1113 : decode cL_law 1113 = .ok (.aload_n 2, 1) := by decide +kernel
theorem dL_law_1114 : decode cL_law 1114 = .ok (.aload_n 0, 1) := by decide +kernel
theorem dL_law_1115 : decode cL_law 1115 = .ok (.iload_n 3, 1) := by decide +kernel
theorem dL_law_1116 : decode cL_law 1116 = .ok (.iconst 1, 1) := by decide +kernel
theorem dL_law_1117 : decode cL_law 1117 = .ok (.iadd, 1) := by decide +kernel
theorem dL_law_1118 : decode cL_law 1118 = .ok (.iaload, 1) := by decide +kernel
theorem dL_law_1119 : decode cL_law 1119 = .ok (.aload_n 0, 1) := by decide +kernel
theorem dL_law_1120 : decode cL_law 1120 = .ok (.iload_n 3, 1) := by decide +kernel
theorem dL_law_1121 : decode cL_law 1121 = .ok (.iconst 2, 1) := by decide +kernel
theorem dL_law_1122 : decode cL_law 1122 = .ok (.iadd, 1) := by decide +kernel
theorem dL_law_1123 : decode cL_law 1123 = .ok (.iaload, 1) := by decide +kernel
theorem dL_law_1124 : decode cL_law 1124 = .ok (.invokevirtual 162, 3) := by decide +kernel
theorem dL_law_1127 : decode cL_law 1127 = .ok (.if_icmp .eq 465, 3) := by decide +kernel
theorem dL_law_1132 : decode cL_law 1132 = .ok (.aload_n 1, 1) := by decide +kernel
theorem dL_law_1133 : decode cL_law 1133 = .ok (.invokevirtual 163, 3) := by decide +kernel
theorem dL_law_1136 : decode cL_law 1136 = .ok (.aload_n 2, 1) := by decide +kernel
theorem dL_law_1137 : decode cL_law 1137 = .ok (.invokevirtual 166, 3) := by decide +kernel
theorem dL_law_1140 : decode cL_law 1140 = .ok (.if_icmp .eq 452, 3) := by decide +kernel
theorem dL_law_1145 : decode cL_law 1145 = .ok (.aload_n 1, 1) := by decide +kernel
theorem dL_law_1146 : decode cL_law 1146 = .ok (.aload_n 0, 1) := by decide +kernel
theorem dL_law_1147 : decode cL_law 1147 = .ok (.iload_n 3, 1) := by decide +kernel
theorem dL_law_1148 : decode cL_law 1148 = .ok (.iconst 1, 1) := by decide +kernel
theorem dL_law_1149 : decode cL_law 1149 = .ok (.iadd, 1) := by decide +kernel
theorem dL_law_1150 : decode cL_law 1150 = .ok (.iaload, 1) := by decide +kernel
theorem dL_law_1151 : decode cL_law 1151 = .ok (.invokevirtual 167, 3) := by decide +kernel
theorem dL_law_1154 : decode cL_law 1154 = .ok (.aload_n 2, 1) := by decide +kernel
theorem dL_law_1155 : decode cL_law 1155 = .ok (.aload_n 0, 1) := by decide +kernel
theorem dL_law_1156 : decode cL_law 1156 = .ok (.iload_n 3, 1) := by decide +kernel
theorem dL_law_1157 : decode cL_law 1157 = .ok (.iconst 1, 1) := by decide +kernel
theorem dL_law_1158 : decode cL_law 1158 = .ok (.iadd, 1) := by decide +kernel
theorem dL_law_1159 : decode cL_law 1159 = .ok (.iaload, 1) := by decide +kernel
theorem dL_law_1160 : decode cL_law 1160 = .ok (.invokevirtual 170, 3) := by decide +kernel
theorem dL_law_1163 : decode cL_law 1163 = .ok (.if_icmp .eq 429, 3) := by decide +kernel
theorem dL_law_1168 : decode cL_law 1168 = .ok (.aload_n 1, 1) := by decide +kernel
theorem dL_law_1169 : decode cL_law 1169 = .ok (.aload_n 0, 1) := by decide +kernel
theorem dL_law_1170 : decode cL_law 1170 = .ok (.iload_n 3, 1) := by decide +kernel
theorem dL_law_1171 : decode cL_law 1171 = .ok (.iconst 1, 1) := by decide +kernel
theorem dL_law_1172 : decode cL_law 1172 = .ok (.iadd, 1) := by decide +kernel
theorem dL_law_1173 : decode cL_law 1173 = .ok (.iaload, 1) := by decide +kernel
theorem dL_law_1174 : decode cL_law 1174 = .ok (.invokevirtual 171, 3) := by decide +kernel
theorem dL_law_1177 : decode cL_law 1177 = .ok (.aload_n 2, 1) := by decide +kernel
theorem dL_law_1178 : decode cL_law 1178 = .ok (.aload_n 0, 1) := by decide +kernel
theorem dL_law_1179 : decode cL_law 1179 = .ok (.iload_n 3, 1) := by decide +kernel
theorem dL_law_1180 : decode cL_law 1180 = .ok (.iconst 1, 1) := by decide +kernel
theorem dL_law_1181 : decode cL_law 1181 = .ok (.iadd, 1) := by decide +kernel
theorem dL_law_1182 : decode cL_law 1182 = .ok (.iaload, 1) := by decide +kernel
theorem dL_law_1183 : decode cL_law 1183 = .ok (.invokevirtual 174, 3) := by decide +kernel
theorem dL_law_1186 : decode cL_law 1186 = .ok (.if_icmp .eq 406, 3) := by decide +kernel
theorem dL_law_1191 : decode cL_law 1191 = .ok (.aload_n 1, 1) := by decide +kernel
theorem dL_law_1192 : decode cL_law 1192 = .ok (.invokevirtual 175, 3) := by decide +kernel
theorem dL_law_1195 : decode cL_law 1195 = .ok (.aload_n 2, 1) := by decide +kernel
theorem dL_law_1196 : decode cL_law 1196 = .ok (.invokevirtual 178, 3) := by decide +kernel
theorem dL_law_1199 : decode cL_law 1199 = .ok (.if_icmp .eq 393, 3) := by decide +kernel
theorem dL_law_1204 : decode cL_law 1204 = .ok (.aload_n 1, 1) := by decide +kernel
theorem dL_law_1205 : decode cL_law 1205 = .ok (.aload_n 0, 1) := by decide +kernel
theorem dL_law_1206 : decode cL_law 1206 = .ok (.iload_n 3, 1) := by decide +kernel
theorem dL_law_1207 : decode cL_law 1207 = .ok (.iconst 1, 1) := by decide +kernel
theorem dL_law_1208 : decode cL_law 1208 = .ok (.iadd, 1) := by decide +kernel
theorem dL_law_1209 : decode cL_law 1209 = .ok (.iaload, 1) := by decide +kernel
theorem dL_law_1210 : decode cL_law 1210 = .ok (.invokevirtual 179, 3) := by decide +kernel
theorem dL_law_1213 : decode cL_law 1213 = .ok (.aload_n 2, 1) := by decide +kernel
theorem dL_law_1214 : decode cL_law 1214 = .ok (.aload_n 0, 1) := by decide +kernel
theorem dL_law_1215 : decode cL_law 1215 = .ok (.iload_n 3, 1) := by decide +kernel
theorem dL_law_1216 : decode cL_law 1216 = .ok (.iconst 1, 1) := by decide +kernel
theorem dL_law_1217 : decode cL_law 1217 = .ok (.iadd, 1) := by decide +kernel
theorem dL_law_1218 : decode cL_law 1218 = .ok (.iaload, 1) := by decide +kernel
theorem dL_law_1219 : decode cL_law 1219 = .ok (.invokevirtual 182, 3) := by decide +kernel
theorem dL_law_1222 : decode cL_law 1222 = .ok (.if_icmp .eq 370, 3) := by decide +kernel
theorem dL_law_1227 : decode cL_law 1227 = .ok (.aload_n 1, 1) := by decide +kernel
theorem dL_law_1228 : decode cL_law 1228 = .ok (.aload_n 0, 1) := by decide +kernel
theorem dL_law_1229 : decode cL_law 1229 = .ok (.iload_n 3, 1) := by decide +kernel
theorem dL_law_1230 : decode cL_law 1230 = .ok (.iconst 1, 1) := by decide +kernel
theorem dL_law_1231 : decode cL_law 1231 = .ok (.iadd, 1) := by decide +kernel
theorem dL_law_1232 : decode cL_law 1232 = .ok (.iaload, 1) := by decide +kernel
theorem dL_law_1233 : decode cL_law 1233 = .ok (.invokevirtual 183, 3) := by decide +kernel
theorem dL_law_1236 : decode cL_law 1236 = .ok (.aload_n 2, 1) := by decide +kernel
theorem dL_law_1237 : decode cL_law 1237 = .ok (.aload_n 0, 1) := by decide +kernel
theorem dL_law_1238 : decode cL_law 1238 = .ok (.iload_n 3, 1) := by decide +kernel
theorem dL_law_1239 : decode cL_law 1239 = .ok (.iconst 1, 1) := by decide +kernel
theorem dL_law_1240 : decode cL_law 1240 = .ok (.iadd, 1) := by decide +kernel
theorem dL_law_1241 : decode cL_law 1241 = .ok (.iaload, 1) := by decide +kernel
theorem dL_law_1242 : decode cL_law 1242 = .ok (.invokevirtual 186, 3) := by decide +kernel
theorem dL_law_1245 : decode cL_law 1245 = .ok (.if_icmp .eq 347, 3) := by decide +kernel
theorem dL_law_1250 : decode cL_law 1250 = .ok (.aload_n 1, 1) := by decide +kernel
theorem dL_law_1251 : decode cL_law 1251 = .ok (.aload_n 0, 1) := by decide +kernel
theorem dL_law_1252 : decode cL_law 1252 = .ok (.iload_n 3, 1) := by decide +kernel
theorem dL_law_1253 : decode cL_law 1253 = .ok (.iconst 1, 1) := by decide +kernel
theorem dL_law_1254 : decode cL_law 1254 = .ok (.iadd, 1) := by decide +kernel
theorem dL_law_1255 : decode cL_law 1255 = .ok (.iaload, 1) := by decide +kernel
theorem dL_law_1256 : decode cL_law 1256 = .ok (.invokevirtual 187, 3) := by decide +kernel
theorem dL_law_1259 : decode cL_law 1259 = .ok (.aload_n 2, 1) := by decide +kernel
theorem dL_law_1260 : decode cL_law 1260 = .ok (.aload_n 0, 1) := by decide +kernel
theorem dL_law_1261 : decode cL_law 1261 = .ok (.iload_n 3, 1) := by decide +kernel
theorem dL_law_1262 : decode cL_law 1262 = .ok (.iconst 1, 1) := by decide +kernel
theorem dL_law_1263 : decode cL_law 1263 = .ok (.iadd, 1) := by decide +kernel
theorem dL_law_1264 : decode cL_law 1264 = .ok (.iaload, 1) := by decide +kernel
theorem dL_law_1265 : decode cL_law 1265 = .ok (.invokevirtual 190, 3) := by decide +kernel
theorem dL_law_1268 : decode cL_law 1268 = .ok (.if_icmp .eq 324, 3) := by decide +kernel
theorem dL_law_1273 : decode cL_law 1273 = .ok (.aload_n 1, 1) := by decide +kernel
theorem dL_law_1274 : decode cL_law 1274 = .ok (.aload_n 0, 1) := by decide +kernel
theorem dL_law_1275 : decode cL_law 1275 = .ok (.iload_n 3, 1) := by decide +kernel
theorem dL_law_1276 : decode cL_law 1276 = .ok (.iconst 1, 1) := by decide +kernel
theorem dL_law_1277 : decode cL_law 1277 = .ok (.iadd, 1) := by decide +kernel
theorem dL_law_1278 : decode cL_law 1278 = .ok (.iaload, 1) := by decide +kernel
theorem dL_law_1279 : decode cL_law 1279 = .ok (.aload_n 0, 1) := by decide +kernel
theorem dL_law_1280 : decode cL_law 1280 = .ok (.iload_n 3, 1) := by decide +kernel
theorem dL_law_1281 : decode cL_law 1281 = .ok (.iconst 2, 1) := by decide +kernel
theorem dL_law_1282 : decode cL_law 1282 = .ok (.iadd, 1) := by decide +kernel
theorem dL_law_1283 : decode cL_law 1283 = .ok (.iaload, 1) := by decide +kernel
theorem dL_law_1284 : decode cL_law 1284 = .ok (.invokevirtual 191, 3) := by decide +kernel
theorem dL_law_1287 : decode cL_law 1287 = .ok (.aload_n 2, 1) := by decide +kernel
theorem dL_law_1288 : decode cL_law 1288 = .ok (.aload_n 0, 1) := by decide +kernel
theorem dL_law_1289 : decode cL_law 1289 = .ok (.iload_n 3, 1) := by decide +kernel
theorem dL_law_1290 : decode cL_law 1290 = .ok (.iconst 1, 1) := by decide +kernel
theorem dL_law_1291 : decode cL_law 1291 = .ok (.iadd, 1) := by decide +kernel
theorem dL_law_1292 : decode cL_law 1292 = .ok (.iaload, 1) := by decide +kernel
theorem dL_law_1293 : decode cL_law 1293 = .ok (.aload_n 0, 1) := by decide +kernel
theorem dL_law_1294 : decode cL_law 1294 = .ok (.iload_n 3, 1) := by decide +kernel
theorem dL_law_1295 : decode cL_law 1295 = .ok (.iconst 2, 1) := by decide +kernel
theorem dL_law_1296 : decode cL_law 1296 = .ok (.iadd, 1) := by decide +kernel
theorem dL_law_1297 : decode cL_law 1297 = .ok (.iaload, 1) := by decide +kernel
theorem dL_law_1298 : decode cL_law 1298 = .ok (.invokevirtual 194, 3) := by decide +kernel
theorem dL_law_1301 : decode cL_law 1301 = .ok (.if_icmp .eq 291, 3) := by decide +kernel
theorem dL_law_1306 : decode cL_law 1306 = .ok (.aload_n 1, 1) := by decide +kernel
theorem dL_law_1307 : decode cL_law 1307 = .ok (.aload_n 0, 1) := by decide +kernel
theorem dL_law_1308 : decode cL_law 1308 = .ok (.iload_n 3, 1) := by decide +kernel
theorem dL_law_1309 : decode cL_law 1309 = .ok (.iconst 1, 1) := by decide +kernel
theorem dL_law_1310 : decode cL_law 1310 = .ok (.iadd, 1) := by decide +kernel
theorem dL_law_1311 : decode cL_law 1311 = .ok (.iaload, 1) := by decide +kernel
theorem dL_law_1312 : decode cL_law 1312 = .ok (.invokevirtual 195, 3) := by decide +kernel
theorem dL_law_1315 : decode cL_law 1315 = .ok (.aload_n 2, 1) := by decide +kernel
theorem dL_law_1316 : decode cL_law 1316 = .ok (.aload_n 0, 1) := by decide +kernel
theorem dL_law_1317 : decode cL_law 1317 = .ok (.iload_n 3, 1) := by decide +kernel
theorem dL_law_1318 : decode cL_law 1318 = .ok (.iconst 1, 1) := by decide +kernel
theorem dL_law_1319 : decode cL_law 1319 = .ok (.iadd, 1) := by decide +kernel
theorem dL_law_1320 : decode cL_law 1320 = .ok (.iaload, 1) := by decide +kernel
theorem dL_law_1321 : decode cL_law 1321 = .ok (.invokevirtual 198, 3) := by decide +kernel
theorem dL_law_1324 : decode cL_law 1324 = .ok (.if_icmp .eq 268, 3) := by decide +kernel
theorem dL_law_1329 : decode cL_law 1329 = .ok (.aload_n 1, 1) := by decide +kernel
theorem dL_law_1330 : decode cL_law 1330 = .ok (.aload_n 0, 1) := by decide +kernel
theorem dL_law_1331 : decode cL_law 1331 = .ok (.iload_n 3, 1) := by decide +kernel
theorem dL_law_1332 : decode cL_law 1332 = .ok (.iconst 1, 1) := by decide +kernel
theorem dL_law_1333 : decode cL_law 1333 = .ok (.iadd, 1) := by decide +kernel
theorem dL_law_1334 : decode cL_law 1334 = .ok (.iaload, 1) := by decide +kernel
theorem dL_law_1335 : decode cL_law 1335 = .ok (.aload_n 0, 1) := by decide +kernel
theorem dL_law_1336 : decode cL_law 1336 = .ok (.iload_n 3, 1) := by decide +kernel
theorem dL_law_1337 : decode cL_law 1337 = .ok (.iconst 2, 1) := by decide +kernel
theorem dL_law_1338 : decode cL_law 1338 = .ok (.iadd, 1) := by decide +kernel
theorem dL_law_1339 : decode cL_law 1339 = .ok (.iaload, 1) := by decide +kernel
theorem dL_law_1340 : decode cL_law 1340 = .ok (.aload_n 0, 1) := by decide +kernel
theorem dL_law_1341 : decode cL_law 1341 = .ok (.iload_n 3, 1) := by decide +kernel
theorem dL_law_1342 : decode cL_law 1342 = .ok (.iconst 3, 1) := by decide +kernel
theorem dL_law_1343 : decode cL_law 1343 = .ok (.iadd, 1) := by decide +kernel
theorem dL_law_1344 : decode cL_law 1344 = .ok (.iaload, 1) := by decide +kernel
theorem dL_law_1345 : decode cL_law 1345 = .ok (.ifCond .eq 7, 3) := by decide +kernel
theorem dL_law_1348 : decode cL_law 1348 = .ok (.iconst 1, 1) := by decide +kernel
theorem dL_law_1349 : decode cL_law 1349 = .ok (.goto 4, 3) := by decide +kernel
theorem dL_law_1352 : decode cL_law 1352 = .ok (.iconst 0, 1) := by decide +kernel
theorem dL_law_1353 : decode cL_law 1353 = .ok (.invokevirtual 199, 3) := by decide +kernel
theorem dL_law_1356 : decode cL_law 1356 = .ok (.aload_n 2, 1) := by decide +kernel
theorem dL_law_1357 : decode cL_law 1357 = .ok (.aload_n 0, 1) := by decide +kernel
theorem dL_law_1358 : decode cL_law 1358 = .ok (.iload_n 3, 1) := by decide +kernel
theorem dL_law_1359 : decode cL_law 1359 = .ok (.iconst 1, 1) := by decide +kernel
theorem dL_law_1360 : decode cL_law 1360 = .ok (.iadd, 1) := by decide +kernel
theorem dL_law_1361 : decode cL_law 1361 = .ok (.iaload, 1) := by decide +kernel
theorem dL_law_1362 : decode cL_law 1362 = .ok (.aload_n 0, 1) := by decide +kernel
theorem dL_law_1363 : decode cL_law 1363 = .ok (.iload_n 3, 1) := by decide +kernel
theorem dL_law_1364 : decode cL_law 1364 = .ok (.iconst 2, 1) := by decide +kernel
theorem dL_law_1365 : decode cL_law 1365 = .ok (.iadd, 1) := by decide +kernel
theorem dL_law_1366 : decode cL_law 1366 = .ok (.iaload, 1) := by decide +kernel
theorem dL_law_1367 : decode cL_law 1367 = .ok (.aload_n 0, 1) := by decide +kernel
theorem dL_law_1368 : decode cL_law 1368 = .ok (.iload_n 3, 1) := by decide +kernel
theorem dL_law_1369 : decode cL_law 1369 = .ok (.iconst 3, 1) := by decide +kernel
theorem dL_law_1370 : decode cL_law 1370 = .ok (.iadd, 1) := by decide +kernel
theorem dL_law_1371 : decode cL_law 1371 = .ok (.iaload, 1) := by decide +kernel
theorem dL_law_1372 : decode cL_law 1372 = .ok (.ifCond .eq 7, 3) := by decide +kernel
theorem dL_law_1375 : decode cL_law 1375 = .ok (.iconst 1, 1) := by decide +kernel
theorem dL_law_1376 : decode cL_law 1376 = .ok (.goto 4, 3) := by decide +kernel
theorem dL_law_1379 : decode cL_law 1379 = .ok (.iconst 0, 1) := by decide +kernel
theorem dL_law_1380 : decode cL_law 1380 = .ok (.invokevirtual 203, 3) := by decide +kernel
theorem dL_law_1383 : decode cL_law 1383 = .ok (.if_icmp .eq 209, 3) := by decide +kernel
theorem dL_law_1388 : decode cL_law 1388 = .ok (.aload_n 1, 1) := by decide +kernel
theorem dL_law_1389 : decode cL_law 1389 = .ok (.aload_n 0, 1) := by decide +kernel
theorem dL_law_1390 : decode cL_law 1390 = .ok (.iload_n 3, 1) := by decide +kernel
theorem dL_law_1391 : decode cL_law 1391 = .ok (.iconst 1, 1) := by decide +kernel
theorem dL_law_1392 : decode cL_law 1392 = .ok (.iadd, 1) := by decide +kernel
theorem dL_law_1393 : decode cL_law 1393 = .ok (.iaload, 1) := by decide +kernel
theorem dL_law_1394 : decode cL_law 1394 = .ok (.invokevirtual 204, 3) := by decide +kernel
theorem dL_law_1397 : decode cL_law 1397 = .ok (.aload_n 2, 1) := by decide +kernel
theorem dL_law_1398 : decode cL_law 1398 = .ok (.aload_n 0, 1) := by decide +kernel
theorem dL_law_1399 : decode cL_law 1399 = .ok (.iload_n 3, 1) := by decide +kernel
theorem dL_law_1400 : decode cL_law 1400 = .ok (.iconst 1, 1) := by decide +kernel
theorem dL_law_1401 : decode cL_law 1401 = .ok (.iadd, 1) := by decide +kernel
theorem dL_law_1402 : decode cL_law 1402 = .ok (.iaload, 1) := by decide +kernel
theorem dL_law_1403 : decode cL_law 1403 = .ok (.invokevirtual 208, 3) := by decide +kernel
theorem dL_law_1406 : decode cL_law 1406 = .ok (.if_icmp .eq 186, 3) := by decide +kernel
theorem dL_law_1411 : decode cL_law 1411 = .ok (.aload_n 1, 1) := by decide +kernel
theorem dL_law_1412 : decode cL_law 1412 = .ok (.aload_n 0, 1) := by decide +kernel
theorem dL_law_1413 : decode cL_law 1413 = .ok (.iload_n 3, 1) := by decide +kernel
theorem dL_law_1414 : decode cL_law 1414 = .ok (.iconst 1, 1) := by decide +kernel
theorem dL_law_1415 : decode cL_law 1415 = .ok (.iadd, 1) := by decide +kernel
theorem dL_law_1416 : decode cL_law 1416 = .ok (.iaload, 1) := by decide +kernel
theorem dL_law_1417 : decode cL_law 1417 = .ok (.invokevirtual 209, 3) := by decide +kernel
theorem dL_law_1420 : decode cL_law 1420 = .ok (.aload_n 2, 1) := by decide +kernel
theorem dL_law_1421 : decode cL_law 1421 = .ok (.aload_n 0, 1) := by decide +kernel
theorem dL_law_1422 : decode cL_law 1422 = .ok (.iload_n 3, 1) := by decide +kernel
theorem dL_law_1423 : decode cL_law 1423 = .ok (.iconst 1, 1) := by decide +kernel
theorem dL_law_1424 : decode cL_law 1424 = .ok (.iadd, 1) := by decide +kernel
theorem dL_law_1425 : decode cL_law 1425 = .ok (.iaload, 1) := by decide +kernel
theorem dL_law_1426 : decode cL_law 1426 = .ok (.invokevirtual 212, 3) := by decide +kernel
theorem dL_law_1429 : decode cL_law 1429 = .ok (.if_icmp .eq 163, 3) := by decide +kernel
theorem dL_law_1434 : decode cL_law 1434 = .ok (.aload_n 1, 1) := by decide +kernel
theorem dL_law_1435 : decode cL_law 1435 = .ok (.aload_n 0, 1) := by decide +kernel
theorem dL_law_1436 : decode cL_law 1436 = .ok (.iload_n 3, 1) := by decide +kernel
theorem dL_law_1437 : decode cL_law 1437 = .ok (.iconst 1, 1) := by decide +kernel
theorem dL_law_1438 : decode cL_law 1438 = .ok (.iadd, 1) := by decide +kernel
theorem dL_law_1439 : decode cL_law 1439 = .ok (.iaload, 1) := by decide +kernel
theorem dL_law_1440 : decode cL_law 1440 = .ok (.invokevirtual 213, 3) := by decide +kernel
theorem dL_law_1443 : decode cL_law 1443 = .ok (.aload_n 2, 1) := by decide +kernel
theorem dL_law_1444 : decode cL_law 1444 = .ok (.aload_n 0, 1) := by decide +kernel
theorem dL_law_1445 : decode cL_law 1445 = .ok (.iload_n 3, 1) := by decide +kernel
theorem dL_law_1446 : decode cL_law 1446 = .ok (.iconst 1, 1) := by decide +kernel
theorem dL_law_1447 : decode cL_law 1447 = .ok (.iadd, 1) := by decide +kernel
theorem dL_law_1448 : decode cL_law 1448 = .ok (.iaload, 1) := by decide +kernel
theorem dL_law_1449 : decode cL_law 1449 = .ok (.invokevirtual 216, 3) := by decide +kernel
theorem dL_law_1452 : decode cL_law 1452 = .ok (.if_icmp .eq 140, 3) := by decide +kernel
theorem dL_law_1457 : decode cL_law 1457 = .ok (.aload_n 1, 1) := by decide +kernel
theorem dL_law_1458 : decode cL_law 1458 = .ok (.aload_n 0, 1) := by decide +kernel
theorem dL_law_1459 : decode cL_law 1459 = .ok (.iload_n 3, 1) := by decide +kernel
theorem dL_law_1460 : decode cL_law 1460 = .ok (.iconst 1, 1) := by decide +kernel
theorem dL_law_1461 : decode cL_law 1461 = .ok (.iadd, 1) := by decide +kernel
theorem dL_law_1462 : decode cL_law 1462 = .ok (.iaload, 1) := by decide +kernel
theorem dL_law_1463 : decode cL_law 1463 = .ok (.aload_n 0, 1) := by decide +kernel
theorem dL_law_1464 : decode cL_law 1464 = .ok (.iload_n 3, 1) := by decide +kernel
theorem dL_law_1465 : decode cL_law 1465 = .ok (.iconst 2, 1) := by decide +kernel
theorem dL_law_1466 : decode cL_law 1466 = .ok (.iadd, 1) := by decide +kernel
theorem dL_law_1467 : decode cL_law 1467 = .ok (.iaload, 1) := by decide +kernel
theorem dL_law_1468 : decode cL_law 1468 = .ok (.invokevirtual 217, 3) := by decide +kernel
theorem dL_law_1471 : decode cL_law 1471 = .ok (.aload_n 2, 1) := by decide +kernel
theorem dL_law_1472 : decode cL_law 1472 = .ok (.aload_n 0, 1) := by decide +kernel
theorem dL_law_1473 : decode cL_law 1473 = .ok (.iload_n 3, 1) := by decide +kernel
theorem dL_law_1474 : decode cL_law 1474 = .ok (.iconst 1, 1) := by decide +kernel
theorem dL_law_1475 : decode cL_law 1475 = .ok (.iadd, 1) := by decide +kernel
theorem dL_law_1476 : decode cL_law 1476 = .ok (.iaload, 1) := by decide +kernel
theorem dL_law_1477 : decode cL_law 1477 = .ok (.aload_n 0, 1) := by decide +kernel
theorem dL_law_1478 : decode cL_law 1478 = .ok (.iload_n 3, 1) := by decide +kernel
theorem dL_law_1479 : decode cL_law 1479 = .ok (.iconst 2, 1) := by decide +kernel
theorem dL_law_1480 : decode cL_law 1480 = .ok (.iadd, 1) := by decide +kernel
theorem dL_law_1481 : decode cL_law 1481 = .ok (.iaload, 1) := by decide +kernel
theorem dL_law_1482 : decode cL_law 1482 = .ok (.invokevirtual 220, 3) := by decide +kernel
theorem dL_law_1485 : decode cL_law 1485 = .ok (.if_icmp .eq 107, 3) := by decide +kernel
theorem dL_law_1490 : decode cL_law 1490 = .ok (.aload_n 1, 1) := by decide +kernel
theorem dL_law_1491 : decode cL_law 1491 = .ok (.aload_n 0, 1) := by decide +kernel
theorem dL_law_1492 : decode cL_law 1492 = .ok (.iload_n 3, 1) := by decide +kernel
theorem dL_law_1493 : decode cL_law 1493 = .ok (.iconst 1, 1) := by decide +kernel
theorem dL_law_1494 : decode cL_law 1494 = .ok (.iadd, 1) := by decide +kernel
theorem dL_law_1495 : decode cL_law 1495 = .ok (.iaload, 1) := by decide +kernel
theorem dL_law_1496 : decode cL_law 1496 = .ok (.aload_n 0, 1) := by decide +kernel
theorem dL_law_1497 : decode cL_law 1497 = .ok (.iload_n 3, 1) := by decide +kernel
theorem dL_law_1498 : decode cL_law 1498 = .ok (.iconst 2, 1) := by decide +kernel
theorem dL_law_1499 : decode cL_law 1499 = .ok (.iadd, 1) := by decide +kernel
theorem dL_law_1500 : decode cL_law 1500 = .ok (.iaload, 1) := by decide +kernel
theorem dL_law_1501 : decode cL_law 1501 = .ok (.invokevirtual 221, 3) := by decide +kernel
theorem dL_law_1504 : decode cL_law 1504 = .ok (.aload_n 2, 1) := by decide +kernel
theorem dL_law_1505 : decode cL_law 1505 = .ok (.aload_n 0, 1) := by decide +kernel
theorem dL_law_1506 : decode cL_law 1506 = .ok (.iload_n 3, 1) := by decide +kernel
theorem dL_law_1507 : decode cL_law 1507 = .ok (.iconst 1, 1) := by decide +kernel
theorem dL_law_1508 : decode cL_law 1508 = .ok (.iadd, 1) := by decide +kernel
theorem dL_law_1509 : decode cL_law 1509 = .ok (.iaload, 1) := by decide +kernel
theorem dL_law_1510 : decode cL_law 1510 = .ok (.aload_n 0, 1) := by decide +kernel
theorem dL_law_1511 : decode cL_law 1511 = .ok (.iload_n 3, 1) := by decide +kernel
theorem dL_law_1512 : decode cL_law 1512 = .ok (.iconst 2, 1) := by decide +kernel
theorem dL_law_1513 : decode cL_law 1513 = .ok (.iadd, 1) := by decide +kernel
theorem dL_law_1514 : decode cL_law 1514 = .ok (.iaload, 1) := by decide +kernel
theorem dL_law_1515 : decode cL_law 1515 = .ok (.invokevirtual 224, 3) := by decide +kernel
theorem dL_law_1518 : decode cL_law 1518 = .ok (.if_icmp .eq 74, 3) := by decide +kernel
theorem dL_law_1523 : decode cL_law 1523 = .ok (.aload_n 1, 1) := by decide +kernel
theorem dL_law_1524 : decode cL_law 1524 = .ok (.aload_n 0, 1) := by decide +kernel
theorem dL_law_1525 : decode cL_law 1525 = .ok (.iload_n 3, 1) := by decide +kernel
theorem dL_law_1526 : decode cL_law 1526 = .ok (.iconst 1, 1) := by decide +kernel
theorem dL_law_1527 : decode cL_law 1527 = .ok (.iadd, 1) := by decide +kernel
theorem dL_law_1528 : decode cL_law 1528 = .ok (.iaload, 1) := by decide +kernel
theorem dL_law_1529 : decode cL_law 1529 = .ok (.invokevirtual 225, 3) := by decide +kernel
theorem dL_law_1532 : decode cL_law 1532 = .ok (.aload_n 2, 1) := by decide +kernel
theorem dL_law_1533 : decode cL_law 1533 = .ok (.aload_n 0, 1) := by decide +kernel
theorem dL_law_1534 : decode cL_law 1534 = .ok (.iload_n 3, 1) := by decide +kernel
theorem dL_law_1535 : decode cL_law 1535 = .ok (.iconst 1, 1) := by decide +kernel
theorem dL_law_1536 : decode cL_law 1536 = .ok (.iadd, 1) := by decide +kernel
theorem dL_law_1537 : decode cL_law 1537 = .ok (.iaload, 1) := by decide +kernel
theorem dL_law_1538 : decode cL_law 1538 = .ok (.invokevirtual 228, 3) := by decide +kernel
theorem dL_law_1541 : decode cL_law 1541 = .ok (.if_icmp .eq 51, 3) := by decide +kernel
theorem dL_law_1546 : decode cL_law 1546 = .ok (.aload_n 1, 1) := by decide +kernel
theorem dL_law_1547 : decode cL_law 1547 = .ok (.aload_n 0, 1) := by decide +kernel
theorem dL_law_1548 : decode cL_law 1548 = .ok (.iload_n 3, 1) := by decide +kernel
theorem dL_law_1549 : decode cL_law 1549 = .ok (.iconst 1, 1) := by decide +kernel
theorem dL_law_1550 : decode cL_law 1550 = .ok (.iadd, 1) := by decide +kernel
theorem dL_law_1551 : decode cL_law 1551 = .ok (.iaload, 1) := by decide +kernel
theorem dL_law_1552 : decode cL_law 1552 = .ok (.invokevirtual 229, 3) := by decide +kernel
theorem dL_law_1555 : decode cL_law 1555 = .ok (.aload_n 2, 1) := by decide +kernel
theorem dL_law_1556 : decode cL_law 1556 = .ok (.aload_n 0, 1) := by decide +kernel
theorem dL_law_1557 : decode cL_law 1557 = .ok (.iload_n 3, 1) := by decide +kernel
theorem dL_law_1558 : decode cL_law 1558 = .ok (.iconst 1, 1) := by decide +kernel
theorem dL_law_1559 : decode cL_law 1559 = .ok (.iadd, 1) := by decide +kernel
theorem dL_law_1560 : decode cL_law 1560 = .ok (.iaload, 1) := by decide +kernel
theorem dL_law_1561 : decode cL_law 1561 = .ok (.invokevirtual 232, 3) := by decide +kernel
theorem dL_law_1564 : decode cL_law 1564 = .ok (.if_icmp .eq 28, 3) := by decide +kernel
theorem dL_law_1569 : decode cL_law 1569 = .ok (.aload_n 1, 1) := by decide +kernel
theorem dL_law_1570 : decode cL_law 1570 = .ok (.aload_n 0, 1) := by decide +kernel
theorem dL_law_1571 : decode cL_law 1571 = .ok (.iload_n 3, 1) := by decide +kernel
theorem dL_law_1572 : decode cL_law 1572 = .ok (.iconst 1, 1) := by decide +kernel
theorem dL_law_1573 : decode cL_law 1573 = .ok (.iadd, 1) := by decide +kernel
theorem dL_law_1574 : decode cL_law 1574 = .ok (.iaload, 1) := by decide +kernel
theorem dL_law_1575 : decode cL_law 1575 = .ok (.invokevirtual 233, 3) := by decide +kernel
theorem dL_law_1578 : decode cL_law 1578 = .ok (.aload_n 2, 1) := by decide +kernel
theorem dL_law_1579 : decode cL_law 1579 = .ok (.aload_n 0, 1) := by decide +kernel
theorem dL_law_1580 : decode cL_law 1580 = .ok (.iload_n 3, 1) := by decide +kernel
theorem dL_law_1581 : decode cL_law 1581 = .ok (.iconst 1, 1) := by decide +kernel
theorem dL_law_1582 : decode cL_law 1582 = .ok (.iadd, 1) := by decide +kernel
theorem dL_law_1583 : decode cL_law 1583 = .ok (.iaload, 1) := by decide +kernel
theorem dL_law_1584 : decode cL_law 1584 = .ok (.invokevirtual 236, 3) := by decide +kernel
theorem dL_law_1587 : decode cL_law 1587 = .ok (.if_icmp .eq 5, 3) := by decide +kernel
theorem dL_law_1592 : decode cL_law 1592 = .ok (.iinc 3 6, 3) := by decide +kernel
theorem dL_law_1595 : decode cL_law 1595 = .ok (.goto (-1577), 3) := by decide +kernel
theorem dL_law_1598 : decode cL_law 1598 = .ok (.iconst 1, 1) := by decide +kernel
theorem dL_law_1599 : decode cL_law 1599 = .ok (.ireturn, 1) := by decide +kernel
theorem dX0_init_0 : decode cX0_init 0 = .ok (.aload_n 0, 1) := by decide +kernel
theorem dX0_init_1 : decode cX0_init 1 = .ok (.invokespecial 3, 3) := by decide +kernel
theorem dX0_init_4 : decode cX0_init 4 = .ok (.aload_n 0, 1) := by decide +kernel
theorem dX0_init_5 : decode cX0_init 5 = .ok (.bipush 8, 2) := by decide +kernel
theorem dX0_init_7 : decode cX0_init 7 = .ok (.newarray .int, 2) := by decide +kernel
theorem dX0_init_9 : decode cX0_init 9 = .ok (.putfield 9, 3) := by decide +kernel
theorem dX0_init_12 : decode cX0_init 12 = .ok (.aload_n 0, 1) := by decide +kernel
theorem dX0_init_13 : decode cX0_init 13 = .ok (.bipush 8, 2) := by decide +kernel
theorem dX0_init_15 : decode cX0_init 15 = .ok (.newarray .int, 2) := by decide +kernel
theorem dX0_init_17 : decode cX0_init 17 = .ok (.putfield 15, 3) := by decide +kernel
theorem dX0_init_20 : decode cX0_init 20 = .ok (.aload_n 0, 1) := by decide +kernel
theorem dX0_init_21 : decode cX0_init 21 = .ok (.aload_n 1, 1) := by decide +kernel
theorem dX0_init_22 : decode cX0_init 22 = .ok (.putfield 18, 3) := by decide +kernel
theorem dX0_init_25 : decode cX0_init 25 = .ok (.aload_n 0, 1) := by decide +kernel
theorem dX0_init_26 : decode cX0_init 26 = .ok (.aload_n 2, 1) := by decide +kernel
theorem dX0_init_27 : decode cX0_init 27 = .ok (.putfield 22, 3) := by decide +kernel
theorem dX0_init_30 : decode cX0_init 30 = .ok (.aload_n 0, 1) := by decide +kernel
theorem dX0_init_31 : decode cX0_init 31 = .ok (.aload_n 3, 1) := by decide +kernel
theorem dX0_init_32 : decode cX0_init 32 = .ok (.putfield 26, 3) := by decide +kernel
theorem dX0_init_35 : decode cX0_init 35 = .ok (.return_, 1) := by decide +kernel
theorem dX0_showingAtAge_0 : decode cX0_showingAtAge 0 = .ok (.iconst 0, 1) := by decide +kernel
theorem dX0_showingAtAge_1 : decode cX0_showingAtAge 1 = .ok (.istore_n 3, 1) := by decide +kernel
theorem dX0_showingAtAge_2 : decode cX0_showingAtAge 2 = .ok (.iconst 0, 1) := by decide +kernel
theorem dX0_showingAtAge_3 : decode cX0_showingAtAge 3 = .ok (.istore 4, 2) := by decide +kernel
theorem dX0_showingAtAge_5 : decode cX0_showingAtAge 5 = .ok (.iload 4, 2) := by decide +kernel
theorem dX0_showingAtAge_7 : decode cX0_showingAtAge 7 = .ok (.aload_n 0, 1) := by decide +kernel
theorem dX0_showingAtAge_8 : decode cX0_showingAtAge 8 = .ok (.getfield 18, 3) := by decide +kernel
theorem dX0_showingAtAge_11 : decode cX0_showingAtAge 11 = .ok (.getfield 72, 3) := by decide +kernel
theorem dX0_showingAtAge_14 : decode cX0_showingAtAge 14 = .ok (.if_icmp .ge 74, 3) := by decide +kernel
theorem dX0_showingAtAge_88 : decode cX0_showingAtAge 88 = .ok (.iload_n 3, 1) := by decide +kernel
theorem dX0_showingAtAge_89 : decode cX0_showingAtAge 89 = .ok (.ireturn, 1) := by decide +kernel
theorem dX0_showingBehind_0 : decode cX0_showingBehind 0 = .ok (.iconst 0, 1) := by decide +kernel
theorem dX0_showingBehind_1 : decode cX0_showingBehind 1 = .ok (.istore_n 3, 1) := by decide +kernel
theorem dX0_showingBehind_2 : decode cX0_showingBehind 2 = .ok (.iconst 0, 1) := by decide +kernel
theorem dX0_showingBehind_3 : decode cX0_showingBehind 3 = .ok (.istore 4, 2) := by decide +kernel
theorem dX0_showingBehind_5 : decode cX0_showingBehind 5 = .ok (.iload 4, 2) := by decide +kernel
theorem dX0_showingBehind_7 : decode cX0_showingBehind 7 = .ok (.aload_n 0, 1) := by decide +kernel
theorem dX0_showingBehind_8 : decode cX0_showingBehind 8 = .ok (.getfield 18, 3) := by decide +kernel
theorem dX0_showingBehind_11 : decode cX0_showingBehind 11 = .ok (.getfield 72, 3) := by decide +kernel
theorem dX0_showingBehind_14 : decode cX0_showingBehind 14 = .ok (.if_icmp .ge 23, 3) := by decide +kernel
theorem dX0_showingBehind_37 : decode cX0_showingBehind 37 = .ok (.iload_n 3, 1) := by decide +kernel
theorem dX0_showingBehind_38 : decode cX0_showingBehind 38 = .ok (.ireturn, 1) := by decide +kernel
theorem dX0_strayBeasts_0 : decode cX0_strayBeasts 0 = .ok (.iconst 0, 1) := by decide +kernel
theorem dX0_strayBeasts_1 : decode cX0_strayBeasts 1 = .ok (.istore_n 2, 1) := by decide +kernel
theorem dX0_strayBeasts_2 : decode cX0_strayBeasts 2 = .ok (.iconst 0, 1) := by decide +kernel
theorem dX0_strayBeasts_3 : decode cX0_strayBeasts 3 = .ok (.istore_n 3, 1) := by decide +kernel
theorem dX0_strayBeasts_4 : decode cX0_strayBeasts 4 = .ok (.iload_n 3, 1) := by decide +kernel
theorem dX0_strayBeasts_5 : decode cX0_strayBeasts 5 = .ok (.aload_n 0, 1) := by decide +kernel
theorem dX0_strayBeasts_6 : decode cX0_strayBeasts 6 = .ok (.getfield 18, 3) := by decide +kernel
theorem dX0_strayBeasts_9 : decode cX0_strayBeasts 9 = .ok (.getfield 72, 3) := by decide +kernel
theorem dX0_strayBeasts_12 : decode cX0_strayBeasts 12 = .ok (.if_icmp .ge 49, 3) := by decide +kernel
theorem dX0_strayBeasts_61 : decode cX0_strayBeasts 61 = .ok (.iload_n 2, 1) := by decide +kernel
theorem dX0_strayBeasts_62 : decode cX0_strayBeasts 62 = .ok (.ireturn, 1) := by decide +kernel
theorem dX0_tellingStroke_0 : decode cX0_tellingStroke 0 = .ok (.iconst (-1), 1) := by decide +kernel
theorem dX0_tellingStroke_1 : decode cX0_tellingStroke 1 = .ok (.istore_n 2, 1) := by decide +kernel
theorem dX0_tellingStroke_2 : decode cX0_tellingStroke 2 = .ok (.aload_n 0, 1) := by decide +kernel
theorem dX0_tellingStroke_3 : decode cX0_tellingStroke 3 = .ok (.getfield 18, 3) := by decide +kernel
theorem dX0_tellingStroke_6 : decode cX0_tellingStroke 6 = .ok (.getfield 72, 3) := by decide +kernel
theorem dX0_tellingStroke_9 : decode cX0_tellingStroke 9 = .ok (.iconst 1, 1) := by decide +kernel
theorem dX0_tellingStroke_10 : decode cX0_tellingStroke 10 = .ok (.iadd, 1) := by decide +kernel
theorem dX0_tellingStroke_11 : decode cX0_tellingStroke 11 = .ok (.istore_n 3, 1) := by decide +kernel
theorem dX0_tellingStroke_12 : decode cX0_tellingStroke 12 = .ok (.iconst 0, 1) := by decide +kernel
theorem dX0_tellingStroke_13 : decode cX0_tellingStroke 13 = .ok (.istore 4, 2) := by decide +kernel
theorem dX0_tellingStroke_15 : decode cX0_tellingStroke 15 = .ok (.iload 4, 2) := by decide +kernel
theorem dX0_tellingStroke_17 : decode cX0_tellingStroke 17 = .ok (.bipush 12, 2) := by decide +kernel
theorem dX0_tellingStroke_19 : decode cX0_tellingStroke 19 = .ok (.if_icmp .ge 89, 3) := by decide +kernel
theorem dX0_tellingStroke_22 : decode cX0_tellingStroke 22 = .ok (.aload_n 0, 1) := by decide +kernel
theorem dX0_tellingStroke_23 : decode cX0_tellingStroke 23 = .ok (.getfield 18, 3) := by decide +kernel
theorem dX0_tellingStroke_26 : decode cX0_tellingStroke 26 = .ok (.getfield 72, 3) := by decide +kernel
theorem dX0_tellingStroke_29 : decode cX0_tellingStroke 29 = .ok (.ifCond .le 79, 3) := by decide +kernel
theorem dX0_tellingStroke_108 : decode cX0_tellingStroke 108 = .ok (.iload_n 2, 1) := by decide +kernel
theorem dX0_tellingStroke_109 : decode cX0_tellingStroke 109 = .ok (.ireturn, 1) := by decide +kernel
theorem dX0_untouchedStrokes_0 : decode cX0_untouchedStrokes 0 = .ok (.sipush 4095, 3) := by decide +kernel
theorem dX0_untouchedStrokes_3 : decode cX0_untouchedStrokes 3 = .ok (.istore_n 2, 1) := by decide +kernel
theorem dX0_untouchedStrokes_4 : decode cX0_untouchedStrokes 4 = .ok (.iconst 0, 1) := by decide +kernel
theorem dX0_untouchedStrokes_5 : decode cX0_untouchedStrokes 5 = .ok (.istore_n 3, 1) := by decide +kernel
theorem dX0_untouchedStrokes_6 : decode cX0_untouchedStrokes 6 = .ok (.iload_n 3, 1) := by decide +kernel
theorem dX0_untouchedStrokes_7 : decode cX0_untouchedStrokes 7 = .ok (.aload_n 0, 1) := by decide +kernel
theorem dX0_untouchedStrokes_8 : decode cX0_untouchedStrokes 8 = .ok (.getfield 18, 3) := by decide +kernel
theorem dX0_untouchedStrokes_11 : decode cX0_untouchedStrokes 11 = .ok (.getfield 72, 3) := by decide +kernel
theorem dX0_untouchedStrokes_14 : decode cX0_untouchedStrokes 14 = .ok (.if_icmp .ge 20, 3) := by decide +kernel
theorem dX0_untouchedStrokes_34 : decode cX0_untouchedStrokes 34 = .ok (.iload_n 2, 1) := by decide +kernel
theorem dX0_untouchedStrokes_35 : decode cX0_untouchedStrokes 35 = .ok (.ireturn, 1) := by decide +kernel
theorem dX10_count_0 : decode cX10_count 0 = .ok (.aload_n 0, 1) := by decide +kernel
theorem dX10_count_1 : decode cX10_count 1 = .ok (.getfield 28, 3) := by decide +kernel
theorem dX10_count_4 : decode cX10_count 4 = .ok (.ireturn, 1) := by decide +kernel
theorem dX10_countRows_0 : decode cX10_countRows 0 = .ok (.aload_n 0, 1) := by decide +kernel
theorem dX10_countRows_1 : decode cX10_countRows 1 = .ok (.iload_n 1, 1) := by decide +kernel
theorem dX10_countRows_2 : decode cX10_countRows 2 = .ok (.invokevirtual 56, 3) := by decide +kernel
theorem dX10_countRows_5 : decode cX10_countRows 5 = .ok (.aload_n 0, 1) := by decide +kernel
theorem dX10_countRows_6 : decode cX10_countRows 6 = .ok (.getfield 41, 3) := by decide +kernel
theorem dX10_countRows_9 : decode cX10_countRows 9 = .ok (.iconst 0, 1) := by decide +kernel
theorem dX10_countRows_10 : decode cX10_countRows 10 = .ok (.invokestatic 60, 3) := by decide +kernel
theorem dX10_countRows_13 : decode cX10_countRows 13 = .ok (.aload_n 0, 1) := by decide +kernel
theorem dX10_countRows_14 : decode cX10_countRows 14 = .ok (.getfield 44, 3) := by decide +kernel
theorem dX10_countRows_17 : decode cX10_countRows 17 = .ok (.iconst 0, 1) := by decide +kernel
theorem dX10_countRows_18 : decode cX10_countRows 18 = .ok (.invokestatic 60, 3) := by decide +kernel
theorem dX10_countRows_21 : decode cX10_countRows 21 = .ok (.aload_n 0, 1) := by decide +kernel
theorem dX10_countRows_22 : decode cX10_countRows 22 = .ok (.getfield 47, 3) := by decide +kernel
theorem dX10_countRows_25 : decode cX10_countRows 25 = .ok (.getfield 66, 3) := by decide +kernel
theorem dX10_countRows_28 : decode cX10_countRows 28 = .ok (.ifCond .ne 5, 3) := by decide +kernel
theorem dX10_countRows_31 : decode cX10_countRows 31 = .ok (.iconst 0, 1) := by decide +kernel
theorem dX10_countRows_32 : decode cX10_countRows 32 = .ok (.ireturn, 1) := by decide +kernel
theorem dX10_forget_0 : decode cX10_forget 0 = .ok (.aload_n 0, 1) := by decide +kernel
theorem dX10_forget_1 : decode cX10_forget 1 = .ok (.iconst 0, 1) := by decide +kernel
theorem dX10_forget_2 : decode cX10_forget 2 = .ok (.putfield 28, 3) := by decide +kernel
theorem dX10_forget_5 : decode cX10_forget 5 = .ok (.return_, 1) := by decide +kernel
theorem dX10_gather_0 : decode cX10_gather 0 = .ok (.aload_n 0, 1) := by decide +kernel
theorem dX10_gather_1 : decode cX10_gather 1 = .ok (.getfield 35, 3) := by decide +kernel
theorem dX10_gather_4 : decode cX10_gather 4 = .ok (.iconst 0, 1) := by decide +kernel
theorem dX10_gather_5 : decode cX10_gather 5 = .ok (.invokestatic 60, 3) := by decide +kernel
theorem dX10_gather_8 : decode cX10_gather 8 = .ok (.aload_n 0, 1) := by decide +kernel
theorem dX10_gather_9 : decode cX10_gather 9 = .ok (.getfield 38, 3) := by decide +kernel
theorem dX10_gather_12 : decode cX10_gather 12 = .ok (.iconst 0, 1) := by decide +kernel
theorem dX10_gather_13 : decode cX10_gather 13 = .ok (.invokestatic 60, 3) := by decide +kernel
theorem dX10_gather_16 : decode cX10_gather 16 = .ok (.iconst 0, 1) := by decide +kernel
theorem dX10_gather_17 : decode cX10_gather 17 = .ok (.istore_n 2, 1) := by decide +kernel
theorem dX10_gather_18 : decode cX10_gather 18 = .ok (.iload_n 2, 1) := by decide +kernel
theorem dX10_gather_19 : decode cX10_gather 19 = .ok (.aload_n 0, 1) := by decide +kernel
theorem dX10_gather_20 : decode cX10_gather 20 = .ok (.getfield 28, 3) := by decide +kernel
theorem dX10_gather_23 : decode cX10_gather 23 = .ok (.if_icmp .ge 93, 3) := by decide +kernel
theorem dX10_gather_116 : decode cX10_gather 116 = .ok (.return_, 1) := by decide +kernel
theorem dX10_goOn_0 : decode cX10_goOn 0 = .ok (.aload_n 0, 1) := by decide +kernel
theorem dX10_goOn_1 : decode cX10_goOn 1 = .ok (.getfield 32, 3) := by decide +kernel
theorem dX10_goOn_4 : decode cX10_goOn 4 = .ok (.iload_n 1, 1) := by decide +kernel
theorem dX10_goOn_5 : decode cX10_goOn 5 = .ok (.iadd, 1) := by decide +kernel
theorem dX10_goOn_6 : decode cX10_goOn 6 = .ok (.ldc 55, 2) := by decide +kernel
theorem dX10_goOn_8 : decode cX10_goOn 8 = .ok (.if_icmp .le 5, 3) := by decide +kernel
theorem dX10_goOn_11 : decode cX10_goOn 11 = .ok (.iconst (-1), 1) := by decide +kernel
theorem dX10_goOn_12 : decode cX10_goOn 12 = .ok (.ireturn, 1) := by decide +kernel
theorem dX10_goOn_13 : decode cX10_goOn 13 = .ok (.aload_n 0, 1) := by decide +kernel
theorem dX10_goOn_14 : decode cX10_goOn 14 = .ok (.dup, 1) := by decide +kernel
theorem dX10_goOn_15 : decode cX10_goOn 15 = .ok (.getfield 32, 3) := by decide +kernel
theorem dX10_goOn_18 : decode cX10_goOn 18 = .ok (.iload_n 1, 1) := by decide +kernel
theorem dX10_goOn_19 : decode cX10_goOn 19 = .ok (.iadd, 1) := by decide +kernel
theorem dX10_goOn_20 : decode cX10_goOn 20 = .ok (.putfield 32, 3) := by decide +kernel
theorem dX10_goOn_23 : decode cX10_goOn 23 = .ok (.aload_n 0, 1) := by decide +kernel
theorem dX10_goOn_24 : decode cX10_goOn 24 = .ok (.getfield 32, 3) := by decide +kernel
theorem dX10_goOn_27 : decode cX10_goOn 27 = .ok (.ireturn, 1) := by decide +kernel
theorem dX10_init_0 : decode cX10_init 0 = .ok (.aload_n 0, 1) := by decide +kernel
theorem dX10_init_1 : decode cX10_init 1 = .ok (.invokespecial 3, 3) := by decide +kernel
theorem dX10_init_4 : decode cX10_init 4 = .ok (.aload_n 0, 1) := by decide +kernel
theorem dX10_init_5 : decode cX10_init 5 = .ok (.bipush 30, 2) := by decide +kernel
theorem dX10_init_7 : decode cX10_init 7 = .ok (.newarray .int, 2) := by decide +kernel
theorem dX10_init_9 : decode cX10_init 9 = .ok (.putfield 9, 3) := by decide +kernel
theorem dX10_init_12 : decode cX10_init 12 = .ok (.aload_n 0, 1) := by decide +kernel
theorem dX10_init_13 : decode cX10_init 13 = .ok (.bipush 30, 2) := by decide +kernel
theorem dX10_init_15 : decode cX10_init 15 = .ok (.newarray .int, 2) := by decide +kernel
theorem dX10_init_17 : decode cX10_init 17 = .ok (.putfield 15, 3) := by decide +kernel
theorem dX10_init_20 : decode cX10_init 20 = .ok (.aload_n 0, 1) := by decide +kernel
theorem dX10_init_21 : decode cX10_init 21 = .ok (.bipush 30, 2) := by decide +kernel
theorem dX10_init_23 : decode cX10_init 23 = .ok (.newarray .boolean, 2) := by decide +kernel
theorem dX10_init_25 : decode cX10_init 25 = .ok (.putfield 18, 3) := by decide +kernel
theorem dX10_init_28 : decode cX10_init 28 = .ok (.aload_n 0, 1) := by decide +kernel
theorem dX10_init_29 : decode cX10_init 29 = .ok (.bipush 30, 2) := by decide +kernel
theorem dX10_init_31 : decode cX10_init 31 = .ok (.newarray .int, 2) := by decide +kernel
theorem dX10_init_33 : decode cX10_init 33 = .ok (.putfield 22, 3) := by decide +kernel
theorem dX10_init_36 : decode cX10_init 36 = .ok (.aload_n 0, 1) := by decide +kernel
theorem dX10_init_37 : decode cX10_init 37 = .ok (.bipush 30, 2) := by decide +kernel
theorem dX10_init_39 : decode cX10_init 39 = .ok (.newarray .int, 2) := by decide +kernel
theorem dX10_init_41 : decode cX10_init 41 = .ok (.putfield 25, 3) := by decide +kernel
theorem dX10_init_44 : decode cX10_init 44 = .ok (.aload_n 0, 1) := by decide +kernel
theorem dX10_init_45 : decode cX10_init 45 = .ok (.iconst 0, 1) := by decide +kernel
theorem dX10_init_46 : decode cX10_init 46 = .ok (.putfield 28, 3) := by decide +kernel
theorem dX10_init_49 : decode cX10_init 49 = .ok (.aload_n 0, 1) := by decide +kernel
theorem dX10_init_50 : decode cX10_init 50 = .ok (.iconst 0, 1) := by decide +kernel
theorem dX10_init_51 : decode cX10_init 51 = .ok (.putfield 32, 3) := by decide +kernel
theorem dX10_init_54 : decode cX10_init 54 = .ok (.aload_n 0, 1) := by decide +kernel
theorem dX10_init_55 : decode cX10_init 55 = .ok (.iconst 2, 1) := by decide +kernel
theorem dX10_init_56 : decode cX10_init 56 = .ok (.newarray .int, 2) := by decide +kernel
theorem dX10_init_58 : decode cX10_init 58 = .ok (.putfield 35, 3) := by decide +kernel
theorem dX10_init_61 : decode cX10_init 61 = .ok (.aload_n 0, 1) := by decide +kernel
theorem dX10_init_62 : decode cX10_init 62 = .ok (.iconst 2, 1) := by decide +kernel
theorem dX10_init_63 : decode cX10_init 63 = .ok (.newarray .int, 2) := by decide +kernel
theorem dX10_init_65 : decode cX10_init 65 = .ok (.putfield 38, 3) := by decide +kernel
theorem dX10_init_68 : decode cX10_init 68 = .ok (.aload_n 0, 1) := by decide +kernel
theorem dX10_init_69 : decode cX10_init 69 = .ok (.bipush 6, 2) := by decide +kernel
theorem dX10_init_71 : decode cX10_init 71 = .ok (.newarray .int, 2) := by decide +kernel
theorem dX10_init_73 : decode cX10_init 73 = .ok (.putfield 41, 3) := by decide +kernel
theorem dX10_init_76 : decode cX10_init 76 = .ok (.aload_n 0, 1) := by decide +kernel
theorem dX10_init_77 : decode cX10_init 77 = .ok (.bipush 6, 2) := by decide +kernel
theorem dX10_init_79 : decode cX10_init 79 = .ok (.newarray .int, 2) := by decide +kernel
theorem dX10_init_81 : decode cX10_init 81 = .ok (.putfield 44, 3) := by decide +kernel
theorem dX10_init_84 : decode cX10_init 84 = .ok (.aload_n 0, 1) := by decide +kernel
theorem dX10_init_85 : decode cX10_init 85 = .ok (.aload_n 1, 1) := by decide +kernel
theorem dX10_init_86 : decode cX10_init 86 = .ok (.putfield 47, 3) := by decide +kernel
theorem dX10_init_89 : decode cX10_init 89 = .ok (.aload_n 0, 1) := by decide +kernel
theorem dX10_init_90 : decode cX10_init 90 = .ok (.aload_n 2, 1) := by decide +kernel
theorem dX10_init_91 : decode cX10_init 91 = .ok (.putfield 51, 3) := by decide +kernel
theorem dX10_init_94 : decode cX10_init 94 = .ok (.return_, 1) := by decide +kernel
theorem dX10_sureIron_0 : decode cX10_sureIron 0 = .ok (.aload_n 0, 1) := by decide +kernel
theorem dX10_sureIron_1 : decode cX10_sureIron 1 = .ok (.iload_n 2, 1) := by decide +kernel
theorem dX10_sureIron_2 : decode cX10_sureIron 2 = .ok (.invokevirtual 98, 3) := by decide +kernel
theorem dX10_sureIron_5 : decode cX10_sureIron 5 = .ok (.istore_n 3, 1) := by decide +kernel
theorem dX10_sureIron_6 : decode cX10_sureIron 6 = .ok (.iload_n 1, 1) := by decide +kernel
theorem dX10_sureIron_7 : decode cX10_sureIron 7 = .ok (.iconst 1, 1) := by decide +kernel
theorem dX10_sureIron_8 : decode cX10_sureIron 8 = .ok (.if_icmp .ne 10, 3) := by decide +kernel
theorem dX10_sureIron_11 : decode cX10_sureIron 11 = .ok (.aload_n 0, 1) := by decide +kernel
theorem dX10_sureIron_12 : decode cX10_sureIron 12 = .ok (.getfield 41, 3) := by decide +kernel
theorem dX10_sureIron_15 : decode cX10_sureIron 15 = .ok (.goto 7, 3) := by decide +kernel
theorem dX10_sureIron_18 : decode cX10_sureIron 18 = .ok (.aload_n 0, 1) := by decide +kernel
theorem dX10_sureIron_19 : decode cX10_sureIron 19 = .ok (.getfield 44, 3) := by decide +kernel
theorem dX10_sureIron_22 : decode cX10_sureIron 22 = .ok (.astore 4, 2) := by decide +kernel
theorem dX10_sureIron_24 : decode cX10_sureIron 24 = .ok (.iload_n 3, 1) := by decide +kernel
theorem dX10_sureIron_25 : decode cX10_sureIron 25 = .ok (.ifCond .ne 5, 3) := by decide +kernel
theorem dX10_sureIron_28 : decode cX10_sureIron 28 = .ok (.iconst (-1), 1) := by decide +kernel
theorem dX10_sureIron_29 : decode cX10_sureIron 29 = .ok (.ireturn, 1) := by decide +kernel
theorem dX10_takeBack_0 : decode cX10_takeBack 0 = .ok (.iload_n 1, 1) := by decide +kernel
theorem dX10_takeBack_1 : decode cX10_takeBack 1 = .ok (.ifCond .lt 21, 3) := by decide +kernel
theorem dX10_takeBack_4 : decode cX10_takeBack 4 = .ok (.iload_n 1, 1) := by decide +kernel
theorem dX10_takeBack_5 : decode cX10_takeBack 5 = .ok (.aload_n 0, 1) := by decide +kernel
theorem dX10_takeBack_6 : decode cX10_takeBack 6 = .ok (.getfield 28, 3) := by decide +kernel
theorem dX10_takeBack_9 : decode cX10_takeBack 9 = .ok (.if_icmp .ge 13, 3) := by decide +kernel
theorem dX10_takeBack_22 : decode cX10_takeBack 22 = .ok (.iconst 0, 1) := by decide +kernel
theorem dX10_takeBack_23 : decode cX10_takeBack 23 = .ok (.ireturn, 1) := by decide +kernel
theorem dX10_time_0 : decode cX10_time 0 = .ok (.aload_n 0, 1) := by decide +kernel
theorem dX10_time_1 : decode cX10_time 1 = .ok (.getfield 32, 3) := by decide +kernel
theorem dX10_time_4 : decode cX10_time 4 = .ok (.ireturn, 1) := by decide +kernel
theorem dX11_about_0 : decode cX11_about 0 = .ok (.iload_n 1, 1) := by decide +kernel
theorem dX11_about_1 : decode cX11_about 1 = .ok (.tableswitch 201 0 14 #[75, 83, 91, 99, 107, 118, 129, 137, 145, 153, 161, 169, 180, 185, 193], 75) := by decide +kernel
theorem dX11_about_76 : decode cX11_about 76 = .ok (.aload_n 0, 1) := by decide +kernel
theorem dX11_about_77 : decode cX11_about 77 = .ok (.getfield 27, 3) := by decide +kernel
theorem dX11_about_80 : decode cX11_about 80 = .ok (.getfield 133, 3) := by decide +kernel
theorem dX11_about_83 : decode cX11_about 83 = .ok (.ireturn, 1) := by decide +kernel
theorem dX11_about_84 : decode cX11_about 84 = .ok (.aload_n 0, 1) := by decide +kernel
theorem dX11_about_85 : decode cX11_about 85 = .ok (.getfield 27, 3) := by decide +kernel
theorem dX11_about_88 : decode cX11_about 88 = .ok (.getfield 377, 3) := by decide +kernel
theorem dX11_about_91 : decode cX11_about 91 = .ok (.ireturn, 1) := by decide +kernel
theorem dX11_about_92 : decode cX11_about 92 = .ok (.aload_n 0, 1) := by decide +kernel
theorem dX11_about_93 : decode cX11_about 93 = .ok (.getfield 27, 3) := by decide +kernel
theorem dX11_about_96 : decode cX11_about 96 = .ok (.getfield 308, 3) := by decide +kernel
theorem dX11_about_99 : decode cX11_about 99 = .ok (.ireturn, 1) := by decide +kernel
theorem dX11_about_100 : decode cX11_about 100 = .ok (.aload_n 0, 1) := by decide +kernel
theorem dX11_about_101 : decode cX11_about 101 = .ok (.getfield 46, 3) := by decide +kernel
theorem dX11_about_104 : decode cX11_about 104 = .ok (.invokevirtual 380, 3) := by decide +kernel
theorem dX11_about_107 : decode cX11_about 107 = .ok (.ireturn, 1) := by decide +kernel
theorem dX11_about_108 : decode cX11_about 108 = .ok (.aload_n 0, 1) := by decide +kernel
theorem dX11_about_109 : decode cX11_about 109 = .ok (.getfield 62, 3) := by decide +kernel
theorem dX11_about_112 : decode cX11_about 112 = .ok (.invokevirtual 158, 3) := by decide +kernel
theorem dX11_about_115 : decode cX11_about 115 = .ok (.getfield 206, 3) := by decide +kernel
theorem dX11_about_118 : decode cX11_about 118 = .ok (.ireturn, 1) := by decide +kernel
theorem dX11_about_119 : decode cX11_about 119 = .ok (.aload_n 0, 1) := by decide +kernel
theorem dX11_about_120 : decode cX11_about 120 = .ok (.getfield 62, 3) := by decide +kernel
theorem dX11_about_123 : decode cX11_about 123 = .ok (.invokevirtual 158, 3) := by decide +kernel
theorem dX11_about_126 : decode cX11_about 126 = .ok (.getfield 383, 3) := by decide +kernel
theorem dX11_about_129 : decode cX11_about 129 = .ok (.ireturn, 1) := by decide +kernel
theorem dX11_about_130 : decode cX11_about 130 = .ok (.aload_n 0, 1) := by decide +kernel
theorem dX11_about_131 : decode cX11_about 131 = .ok (.getfield 62, 3) := by decide +kernel
