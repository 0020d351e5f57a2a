theorem dL_law_1112 : decode cL_law 1112 = .ok (.aload_n 0, 1) := by decide +kernel
theorem dL_law_1113 : decode cL_law 1113 = .ok (.iload_n 3, 1) := by decide +kernel
theorem dL_law_1114 : decode cL_law 1114 = .ok (.iconst 1, 1) := by decide +kernel
theorem dL_law_1115 : decode cL_law 1115 = .ok (.iadd, 1) := by decide +kernel
theorem dL_law_1116 : decode cL_law 1116 = .ok (.iaload, 1) := by decide +kernel
theorem dL_law_1117 : decode cL_law 1117 = .ok (.aload_n 0, 1) := by decide +kernel
theorem dL_law_1118 : decode cL_law 1118 = .ok (.iload_n 3, 1) := by decide +kernel
theorem dL_law_1119 : decode cL_law 1119 = .ok (.iconst 2, 1) := by decide +kernel
theorem dL_law_1120 : decode cL_law 1120 = .ok (.iadd, 1) := by decide +kernel
theorem dL_law_1121 : decode cL_law 1121 = .ok (.iaload, 1) := by decide +kernel
theorem dL_law_1122 : decode cL_law 1122 = .ok (.invokevirtual 150, 3) := by decide +kernel
theorem dL_law_1125 : decode cL_law 1125 = .ok (.pop, 1) := by decide +kernel
theorem dL_law_1126 : decode cL_law 1126 = .ok (.goto 414, 3) := by decide +kernel
theorem dL_law_1129 : decode cL_law 1129 = .ok (.aload_n 1, 1) := by decide +kernel
theorem dL_law_1130 : decode cL_law 1130 = .ok (.aload_n 0, 1) := by decide +kernel
theorem dL_law_1131 : decode cL_law 1131 = .ok (.iload_n 3, 1) := by decide +kernel
theorem dL_law_1132 : decode cL_law 1132 = .ok (.iconst 1, 1) := by decide +kernel
theorem dL_law_1133 : decode cL_law 1133 = .ok (.iadd, 1) := by decide +kernel
theorem dL_law_1134 : decode cL_law 1134 = .ok (.iaload, 1) := by decide +kernel
theorem dL_law_1135 : decode cL_law 1135 = .ok (.aload_n 0, 1) := by decide +kernel
theorem dL_law_1136 : decode cL_law 1136 = .ok (.iload_n 3, 1) := by decide +kernel
theorem dL_law_1137 : decode cL_law 1137 = .ok (.iconst 2, 1) := by decide +kernel
theorem dL_law_1138 : decode cL_law 1138 = .ok (.iadd, 1) := by decide +kernel
theorem dL_law_1139 : decode cL_law 1139 = .ok (.iaload, 1) := by decide +kernel
theorem dL_law_1140 : decode cL_law 1140 = .ok (.invokevirtual 151, 3) := by decide +kernel
theorem dL_law_1143 : decode cL_law 1143 = .ok (.pop, 1) := by decide +kernel
theorem dL_law_1144 : decode cL_law 1144 = .ok (.aload_n 2, 1) := by decide +kernel
theorem dL_law_1145 : decode cL_law 1145 = .ok (.aload_n 0, 1) := by decide +kernel
theorem dL_law_1146 : decode cL_law 1146 = .ok (.iload_n 3, 1) := by decide +kernel
theorem dL_law_1147 : decode cL_law 1147 = .ok (.iconst 1, 1) := by decide +kernel
theorem dL_law_1148 : decode cL_law 1148 = .ok (.iadd, 1) := by decide +kernel
theorem dL_law_1149 : decode cL_law 1149 = .ok (.iaload, 1) := by decide +kernel
theorem dL_law_1150 : decode cL_law 1150 = .ok (.aload_n 0, 1) := by decide +kernel
theorem dL_law_1151 : decode cL_law 1151 = .ok (.iload_n 3, 1) := by decide +kernel
theorem dL_law_1152 : decode cL_law 1152 = .ok (.iconst 2, 1) := by decide +kernel
theorem dL_law_1153 : decode cL_law 1153 = .ok (.iadd, 1) := by decide +kernel
theorem dL_law_1154 : decode cL_law 1154 = .ok (.iaload, 1) := by decide +kernel
theorem dL_law_1155 : decode cL_law 1155 = .ok (.invokevirtual 154, 3) := by decide +kernel
theorem dL_law_1158 : decode cL_law 1158 = .ok (.pop, 1) := by decide +kernel
theorem dL_law_1159 : decode cL_law 1159 = .ok (.goto 381, 3) := by decide +kernel
theorem dL_law_1162 : decode cL_law 1162 = .ok (.aload_n 1, 1) := by decide +kernel
theorem dL_law_1163 : decode cL_law 1163 = .ok (.aload_n 0, 1) := by decide +kernel
theorem dL_law_1164 : decode cL_law 1164 = .ok (.iload_n 3, 1) := by decide +kernel
theorem dL_law_1165 : decode cL_law 1165 = .ok (.iconst 1, 1) := by decide +kernel
theorem dL_law_1166 : decode cL_law 1166 = .ok (.iadd, 1) := by decide +kernel
theorem dL_law_1167 : decode cL_law 1167 = .ok (.iaload, 1) := by decide +kernel
theorem dL_law_1168 : decode cL_law 1168 = .ok (.aload_n 0, 1) := by decide +kernel
theorem dL_law_1169 : decode cL_law 1169 = .ok (.iload_n 3, 1) := by decide +kernel
theorem dL_law_1170 : decode cL_law 1170 = .ok (.iconst 2, 1) := by decide +kernel
theorem dL_law_1171 : decode cL_law 1171 = .ok (.iadd, 1) := by decide +kernel
theorem dL_law_1172 : decode cL_law 1172 = .ok (.iaload, 1) := by decide +kernel
theorem dL_law_1173 : decode cL_law 1173 = .ok (.invokevirtual 155, 3) := by decide +kernel
theorem dL_law_1176 : decode cL_law 1176 = .ok (.pop, 1) := by decide +kernel
theorem dL_law_1177 : decode cL_law 1177 = .ok (.aload_n 2, 1) := by decide +kernel
theorem dL_law_1178 : decode cL_law 1178 = .ok (.aload_n 0, 1) := by decide +kernel
theorem dL_law_1179 : decode cL_law 1179 = .ok (.iload_n 3, 1) := by decide +kernel
theorem dL_law_1180 : decode cL_law 1180 = .ok (.iconst 1, 1) := by decide +kernel
theorem dL_law_1181 : decode cL_law 1181 = .ok (.iadd, 1) := by decide +kernel
theorem dL_law_1182 : decode cL_law 1182 = .ok (.iaload, 1) := by decide +kernel
theorem dL_law_1183 : decode cL_law 1183 = .ok (.aload_n 0, 1) := by decide +kernel
theorem dL_law_1184 : decode cL_law 1184 = .ok (.iload_n 3, 1) := by decide +kernel
theorem dL_law_1185 : decode cL_law 1185 = .ok (.iconst 2, 1) := by decide +kernel
theorem dL_law_1186 : decode cL_law 1186 = .ok (.iadd, 1) := by decide +kernel
theorem dL_law_1187 : decode cL_law 1187 = .ok (.iaload, 1) := by decide +kernel
theorem dL_law_1188 : decode cL_law 1188 = .ok (.invokevirtual 158, 3) := by decide +kernel
theorem dL_law_1191 : decode cL_law 1191 = .ok (.pop, 1) := by decide +kernel
theorem dL_law_1192 : decode cL_law 1192 = .ok (.goto 348, 3) := by decide +kernel
theorem dL_law_1195 : decode cL_law 1195 = .ok (.aload_n 1, 1) := by decide +kernel
theorem dL_law_1196 : decode cL_law 1196 = .ok (.invokevirtual 159, 3) := by decide +kernel
theorem dL_law_1199 : decode cL_law 1199 = .ok (.pop, 1) := by decide +kernel
theorem dL_law_1200 : decode cL_law 1200 = .ok (.aload_n 2, 1) := by decide +kernel
theorem dL_law_1201 : decode cL_law 1201 = .ok (.invokevirtual 162, 3) := by decide +kernel
theorem dL_law_1204 : decode cL_law 1204 = .ok (.pop, 1) := by decide +kernel
theorem dL_law_1205 : decode cL_law 1205 = .ok (.goto 335, 3) := by decide +kernel
theorem dL_law_1208 : decode cL_law 1208 = .ok (.aload_n 1, 1) := by decide +kernel
theorem dL_law_1209 : decode cL_law 1209 = .ok (.invokevirtual 163, 3) := by decide +kernel
theorem dL_law_1212 : decode cL_law 1212 = .ok (.pop, 1) := by decide +kernel
theorem dL_law_1213 : decode cL_law 1213 = .ok (.aload_n 2, 1) := by decide +kernel
theorem dL_law_1214 : decode cL_law 1214 = .ok (.invokevirtual 166, 3) := by decide +kernel
theorem dL_law_1217 : decode cL_law 1217 = .ok (.pop, 1) := by decide +kernel
theorem dL_law_1218 : decode cL_law 1218 = .ok (.goto 322, 3) := by decide +kernel
theorem dL_law_1221 : decode cL_law 1221 = .ok (.aload_n 1, 1) := by decide +kernel
theorem dL_law_1222 : decode cL_law 1222 = .ok (.aload_n 0, 1) := by decide +kernel
theorem dL_law_1223 : decode cL_law 1223 = .ok (.iload_n 3, 1) := by decide +kernel
theorem dL_law_1224 : decode cL_law 1224 = .ok (.iconst 1, 1) := by decide +kernel
theorem dL_law_1225 : decode cL_law 1225 = .ok (.iadd, 1) := by decide +kernel
theorem dL_law_1226 : decode cL_law 1226 = .ok (.iaload, 1) := by decide +kernel
theorem dL_law_1227 : decode cL_law 1227 = .ok (.aload_n 0, 1) := by decide +kernel
theorem dL_law_1228 : decode cL_law 1228 = .ok (.iload_n 3, 1) := by decide +kernel
theorem dL_law_1229 : decode cL_law 1229 = .ok (.iconst 2, 1) := by decide +kernel
theorem dL_law_1230 : decode cL_law 1230 = .ok (.iadd, 1) := by decide +kernel
theorem dL_law_1231 : decode cL_law 1231 = .ok (.iaload, 1) := by decide +kernel
theorem dL_law_1232 : decode cL_law 1232 = .ok (.invokevirtual 167, 3) := by decide +kernel
theorem dL_law_1235 : decode cL_law 1235 = .ok (.pop, 1) := by decide +kernel
theorem dL_law_1236 : decode cL_law 1236 = .ok (.aload_n 2, 1) := by decide +kernel
theorem dL_law_1237 : decode cL_law 1237 = .ok (.aload_n 0, 1) := by decide +kernel
theorem dL_law_1238 : decode cL_law 1238 = .ok (.iload_n 3, 1) := by decide +kernel
theorem dL_law_1239 : decode cL_law 1239 = .ok (.iconst 1, 1) := by decide +kernel
theorem dL_law_1240 : decode cL_law 1240 = .ok (.iadd, 1) := by decide +kernel
theorem dL_law_1241 : decode cL_law 1241 = .ok (.iaload, 1) := by decide +kernel
theorem dL_law_1242 : decode cL_law 1242 = .ok (.aload_n 0, 1) := by decide +kernel
theorem dL_law_1243 : decode cL_law 1243 = .ok (.iload_n 3, 1) := by decide +kernel
theorem dL_law_1244 : decode cL_law 1244 = .ok (.iconst 2, 1) := by decide +kernel
theorem dL_law_1245 : decode cL_law 1245 = .ok (.iadd, 1) := by decide +kernel
theorem dL_law_1246 : decode cL_law 1246 = .ok (.iaload, 1) := by decide +kernel
theorem dL_law_1247 : decode cL_law 1247 = .ok (.invokevirtual 170, 3) := by decide +kernel
theorem dL_law_1250 : decode cL_law 1250 = .ok (.pop, 1) := by decide +kernel
theorem dL_law_1251 : decode cL_law 1251 = .ok (.goto 289, 3) := by decide +kernel
theorem dL_law_1254 : decode cL_law 1254 = .ok (.aload_n 1, 1) := by decide +kernel
theorem dL_law_1255 : decode cL_law 1255 = .ok (.aload_n 0, 1) := by decide +kernel
theorem dL_law_1256 : decode cL_law 1256 = .ok (.iload_n 3, 1) := by decide +kernel
theorem dL_law_1257 : decode cL_law 1257 = .ok (.iconst 1, 1) := by decide +kernel
theorem dL_law_1258 : decode cL_law 1258 = .ok (.iadd, 1) := by decide +kernel
theorem dL_law_1259 : decode cL_law 1259 = .ok (.iaload, 1) := by decide +kernel
theorem dL_law_1260 : decode cL_law 1260 = .ok (.invokevirtual 171, 3) := by decide +kernel
theorem dL_law_1263 : decode cL_law 1263 = .ok (.pop, 1) := by decide +kernel
theorem dL_law_1264 : decode cL_law 1264 = .ok (.aload_n 2, 1) := by decide +kernel
theorem dL_law_1265 : decode cL_law 1265 = .ok (.aload_n 0, 1) := by decide +kernel
theorem dL_law_1266 : decode cL_law 1266 = .ok (.iload_n 3, 1) := by decide +kernel
theorem dL_law_1267 : decode cL_law 1267 = .ok (.iconst 1, 1) := by decide +kernel
theorem dL_law_1268 : decode cL_law 1268 = .ok (.iadd, 1) := by decide +kernel
theorem dL_law_1269 : decode cL_law 1269 = .ok (.iaload, 1) := by decide +kernel
theorem dL_law_1270 : decode cL_law 1270 = .ok (.invokevirtual 174, 3) := by decide +kernel
theorem dL_law_1273 : decode cL_law 1273 = .ok (.pop, 1) := by decide +kernel
theorem dL_law_1274 : decode cL_law 1274 = .ok (.goto 266, 3) := by decide +kernel
theorem dL_law_1277 : decode cL_law 1277 = .ok (.aload_n 1, 1) := by decide +kernel
theorem dL_law_1278 : decode cL_law 1278 = .ok (.aload_n 0, 1) := by decide +kernel
theorem dL_law_1279 : decode cL_law 1279 = .ok (.iload_n 3, 1) := by decide +kernel
theorem dL_law_1280 : decode cL_law 1280 = .ok (.iconst 1, 1) := by decide +kernel
theorem dL_law_1281 : decode cL_law 1281 = .ok (.iadd, 1) := by decide +kernel
theorem dL_law_1282 : decode cL_law 1282 = .ok (.iaload, 1) := by decide +kernel
theorem dL_law_1283 : decode cL_law 1283 = .ok (.aload_n 0, 1) := by decide +kernel
theorem dL_law_1284 : decode cL_law 1284 = .ok (.iload_n 3, 1) := by decide +kernel
theorem dL_law_1285 : decode cL_law 1285 = .ok (.iconst 2, 1) := by decide +kernel
theorem dL_law_1286 : decode cL_law 1286 = .ok (.iadd, 1) := by decide +kernel
theorem dL_law_1287 : decode cL_law 1287 = .ok (.iaload, 1) := by decide +kernel
theorem dL_law_1288 : decode cL_law 1288 = .ok (.aload_n 0, 1) := by decide +kernel
theorem dL_law_1289 : decode cL_law 1289 = .ok (.iload_n 3, 1) := by decide +kernel
theorem dL_law_1290 : decode cL_law 1290 = .ok (.iconst 3, 1) := by decide +kernel
theorem dL_law_1291 : decode cL_law 1291 = .ok (.iadd, 1) := by decide +kernel
theorem dL_law_1292 : decode cL_law 1292 = .ok (.iaload, 1) := by decide +kernel
theorem dL_law_1293 : decode cL_law 1293 = .ok (.ifCond .eq 7, 3) := by decide +kernel
theorem dL_law_1296 : decode cL_law 1296 = .ok (.iconst 1, 1) := by decide +kernel
theorem dL_law_1297 : decode cL_law 1297 = .ok (.goto 4, 3) := by decide +kernel
theorem dL_law_1300 : decode cL_law 1300 = .ok (.iconst 0, 1) := by decide +kernel
theorem dL_law_1301 : decode cL_law 1301 = .ok (.invokevirtual 175, 3) := by decide +kernel
theorem dL_law_1304 : decode cL_law 1304 = .ok (.pop, 1) := by decide +kernel
theorem dL_law_1305 : decode cL_law 1305 = .ok (.aload_n 2, 1) := by decide +kernel
theorem dL_law_1306 : decode cL_law 1306 = .ok (.aload_n 0, 1) := by decide +kernel
theorem dL_law_1307 : decode cL_law 1307 = .ok (.iload_n 3, 1) := by decide +kernel
theorem dL_law_1308 : decode cL_law 1308 = .ok (.iconst 1, 1) := by decide +kernel
theorem dL_law_1309 : decode cL_law 1309 = .ok (.iadd, 1) := by decide +kernel
theorem dL_law_1310 : decode cL_law 1310 = .ok (.iaload, 1) := by decide +kernel
theorem dL_law_1311 : decode cL_law 1311 = .ok (.aload_n 0, 1) := by decide +kernel
theorem dL_law_1312 : decode cL_law 1312 = .ok (.iload_n 3, 1) := by decide +kernel
theorem dL_law_1313 : decode cL_law 1313 = .ok (.iconst 2, 1) := by decide +kernel
theorem dL_law_1314 : decode cL_law 1314 = .ok (.iadd, 1) := by decide +kernel
theorem dL_law_1315 : decode cL_law 1315 = .ok (.iaload, 1) := by decide +kernel
theorem dL_law_1316 : decode cL_law 1316 = .ok (.aload_n 0, 1) := by decide +kernel
theorem dL_law_1317 : decode cL_law 1317 = .ok (.iload_n 3, 1) := by decide +kernel
theorem dL_law_1318 : decode cL_law 1318 = .ok (.iconst 3, 1) := by decide +kernel
theorem dL_law_1319 : decode cL_law 1319 = .ok (.iadd, 1) := by decide +kernel
theorem dL_law_1320 : decode cL_law 1320 = .ok (.iaload, 1) := by decide +kernel
theorem dL_law_1321 : decode cL_law 1321 = .ok (.ifCond .eq 7, 3) := by decide +kernel
theorem dL_law_1324 : decode cL_law 1324 = .ok (.iconst 1, 1) := by decide +kernel
theorem dL_law_1325 : decode cL_law 1325 = .ok (.goto 4, 3) := by decide +kernel
theorem dL_law_1328 : decode cL_law 1328 = .ok (.iconst 0, 1) := by decide +kernel
theorem dL_law_1329 : decode cL_law 1329 = .ok (.invokevirtual 179, 3) := by decide +kernel
theorem dL_law_1332 : decode cL_law 1332 = .ok (.pop, 1) := by decide +kernel
theorem dL_law_1333 : decode cL_law 1333 = .ok (.goto 207, 3) := by decide +kernel
theorem dL_law_1336 : decode cL_law 1336 = .ok (.aload_n 1, 1) := by decide +kernel
theorem dL_law_1337 : decode cL_law 1337 = .ok (.aload_n 0, 1) := by decide +kernel
theorem dL_law_1338 : decode cL_law 1338 = .ok (.iload_n 3, 1) := by decide +kernel
theorem dL_law_1339 : decode cL_law 1339 = .ok (.iconst 1, 1) := by decide +kernel
theorem dL_law_1340 : decode cL_law 1340 = .ok (.iadd, 1) := by decide +kernel
theorem dL_law_1341 : decode cL_law 1341 = .ok (.iaload, 1) := by decide +kernel
theorem dL_law_1342 : decode cL_law 1342 = .ok (.invokevirtual 180, 3) := by decide +kernel
theorem dL_law_1345 : decode cL_law 1345 = .ok (.pop, 1) := by decide +kernel
theorem dL_law_1346 : decode cL_law 1346 = .ok (.aload_n 2, 1) := by decide +kernel
theorem dL_law_1347 : decode cL_law 1347 = .ok (.aload_n 0, 1) := by decide +kernel
theorem dL_law_1348 : decode cL_law 1348 = .ok (.iload_n 3, 1) := by decide +kernel
theorem dL_law_1349 : decode cL_law 1349 = .ok (.iconst 1, 1) := by decide +kernel
theorem dL_law_1350 : decode cL_law 1350 = .ok (.iadd, 1) := by decide +kernel
theorem dL_law_1351 : decode cL_law 1351 = .ok (.iaload, 1) := by decide +kernel
theorem dL_law_1352 : decode cL_law 1352 = .ok (.invokevirtual 184, 3) := by decide +kernel
theorem dL_law_1355 : decode cL_law 1355 = .ok (.pop, 1) := by decide +kernel
theorem dL_law_1356 : decode cL_law 1356 = .ok (.goto 184, 3) := by decide +kernel
theorem dL_law_1359 : decode cL_law 1359 = .ok (.aload_n 1, 1) := by decide +kernel
theorem dL_law_1360 : decode cL_law 1360 = .ok (.aload_n 0, 1) := by decide +kernel
theorem dL_law_1361 : decode cL_law 1361 = .ok (.iload_n 3, 1) := by decide +kernel
theorem dL_law_1362 : decode cL_law 1362 = .ok (.iconst 1, 1) := by decide +kernel
theorem dL_law_1363 : decode cL_law 1363 = .ok (.iadd, 1) := by decide +kernel
theorem dL_law_1364 : decode cL_law 1364 = .ok (.iaload, 1) := by decide +kernel
theorem dL_law_1365 : decode cL_law 1365 = .ok (.invokevirtual 185, 3) := by decide +kernel
theorem dL_law_1368 : decode cL_law 1368 = .ok (.aload_n 2, 1) := by decide +kernel
theorem dL_law_1369 : decode cL_law 1369 = .ok (.aload_n 0, 1) := by decide +kernel
theorem dL_law_1370 : decode cL_law 1370 = .ok (.iload_n 3, 1) := by decide +kernel
theorem dL_law_1371 : decode cL_law 1371 = .ok (.iconst 1, 1) := by decide +kernel
theorem dL_law_1372 : decode cL_law 1372 = .ok (.iadd, 1) := by decide +kernel
theorem dL_law_1373 : decode cL_law 1373 = .ok (.iaload, 1) := by decide +kernel
theorem dL_law_1374 : decode cL_law 1374 = .ok (.invokevirtual 188, 3) := by decide +kernel
theorem dL_law_1377 : decode cL_law 1377 = .ok (.if_icmp .eq 163, 3) := by decide +kernel
theorem dL_law_1382 : decode cL_law 1382 = .ok (.aload_n 1, 1) := by decide +kernel
theorem dL_law_1383 : decode cL_law 1383 = .ok (.aload_n 0, 1) := by decide +kernel
theorem dL_law_1384 : decode cL_law 1384 = .ok (.iload_n 3, 1) := by decide +kernel
theorem dL_law_1385 : decode cL_law 1385 = .ok (.iconst 1, 1) := by decide +kernel
theorem dL_law_1386 : decode cL_law 1386 = .ok (.iadd, 1) := by decide +kernel
theorem dL_law_1387 : decode cL_law 1387 = .ok (.iaload, 1) := by decide +kernel
theorem dL_law_1388 : decode cL_law 1388 = .ok (.invokevirtual 189, 3) := by decide +kernel
theorem dL_law_1391 : decode cL_law 1391 = .ok (.pop, 1) := by decide +kernel
theorem dL_law_1392 : decode cL_law 1392 = .ok (.aload_n 2, 1) := by decide +kernel
theorem dL_law_1393 : decode cL_law 1393 = .ok (.aload_n 0, 1) := by decide +kernel
theorem dL_law_1394 : decode cL_law 1394 = .ok (.iload_n 3, 1) := by decide +kernel
theorem dL_law_1395 : decode cL_law 1395 = .ok (.iconst 1, 1) := by decide +kernel
theorem dL_law_1396 : decode cL_law 1396 = .ok (.iadd, 1) := by decide +kernel
theorem dL_law_1397 : decode cL_law 1397 = .ok (.iaload, 1) := by decide +kernel
theorem dL_law_1398 : decode cL_law 1398 = .ok (.invokevirtual 192, 3) := by decide +kernel
theorem dL_law_1401 : decode cL_law 1401 = .ok (.pop, 1) := by decide +kernel
theorem dL_law_1402 : decode cL_law 1402 = .ok (.goto 138, 3) := by decide +kernel
theorem dL_law_1405 : decode cL_law 1405 = .ok (.aload_n 1, 1) := by decide +kernel
theorem dL_law_1406 : decode cL_law 1406 = .ok (.aload_n 0, 1) := by decide +kernel
theorem dL_law_1407 : decode cL_law 1407 = .ok (.iload_n 3, 1) := by decide +kernel
theorem dL_law_1408 : decode cL_law 1408 = .ok (.iconst 1, 1) := by decide +kernel
theorem dL_law_1409 : decode cL_law 1409 = .ok (.iadd, 1) := by decide +kernel
theorem dL_law_1410 : decode cL_law 1410 = .ok (.iaload, 1) := by decide +kernel
theorem dL_law_1411 : decode cL_law 1411 = .ok (.aload_n 0, 1) := by decide +kernel
theorem dL_law_1412 : decode cL_law 1412 = .ok (.iload_n 3, 1) := by decide +kernel
theorem dL_law_1413 : decode cL_law 1413 = .ok (.iconst 2, 1) := by decide +kernel
theorem dL_law_1414 : decode cL_law 1414 = .ok (.iadd, 1) := by decide +kernel
theorem dL_law_1415 : decode cL_law 1415 = .ok (.iaload, 1) := by decide +kernel
theorem dL_law_1416 : decode cL_law 1416 = .ok (.invokevirtual 193, 3) := by decide +kernel
theorem dL_law_1419 : decode cL_law 1419 = .ok (.pop, 1) := by decide +kernel
theorem dL_law_1420 : decode cL_law 1420 = .ok (.aload_n 2, 1) := by decide +kernel
theorem dL_law_1421 : decode cL_law 1421 = .ok (.aload_n 0, 1) := by decide +kernel
theorem dL_law_1422 : decode cL_law 1422 = .ok (.iload_n 3, 1) := by decide +kernel
theorem dL_law_1423 : decode cL_law 1423 = .ok (.iconst 1, 1) := by decide +kernel
theorem dL_law_1424 : decode cL_law 1424 = .ok (.iadd, 1) := by decide +kernel
theorem dL_law_1425 : decode cL_law 1425 = .ok (.iaload, 1) := by decide +kernel
theorem dL_law_1426 : decode cL_law 1426 = .ok (.aload_n 0, 1) := by decide +kernel
theorem dL_law_1427 : decode cL_law 1427 = .ok (.iload_n 3, 1) := by decide +kernel
theorem dL_law_1428 : decode cL_law 1428 = .ok (.iconst 2, 1) := by decide +kernel
theorem dL_law_1429 : decode cL_law 1429 = .ok (.iadd, 1) := by decide +kernel
theorem dL_law_1430 : decode cL_law 1430 = .ok (.iaload, 1) := by decide +kernel
theorem dL_law_1431 : decode cL_law 1431 = .ok (.invokevirtual 196, 3) := by decide +kernel
theorem dL_law_1434 : decode cL_law 1434 = .ok (.pop, 1) := by decide +kernel
theorem dL_law_1435 : decode cL_law 1435 = .ok (.goto 105, 3) := by decide +kernel
theorem dL_law_1438 : decode cL_law 1438 = .ok (.aload_n 1, 1) := by decide +kernel
theorem dL_law_1439 : decode cL_law 1439 = .ok (.aload_n 0, 1) := by decide +kernel
theorem dL_law_1440 : decode cL_law 1440 = .ok (.iload_n 3, 1) := by decide +kernel
theorem dL_law_1441 : decode cL_law 1441 = .ok (.iconst 1, 1) := by decide +kernel
theorem dL_law_1442 : decode cL_law 1442 = .ok (.iadd, 1) := by decide +kernel
theorem dL_law_1443 : decode cL_law 1443 = .ok (.iaload, 1) := by decide +kernel
theorem dL_law_1444 : decode cL_law 1444 = .ok (.aload_n 0, 1) := by decide +kernel
theorem dL_law_1445 : decode cL_law 1445 = .ok (.iload_n 3, 1) := by decide +kernel
theorem dL_law_1446 : decode cL_law 1446 = .ok (.iconst 2, 1) := by decide +kernel
theorem dL_law_1447 : decode cL_law 1447 = .ok (.iadd, 1) := by decide +kernel
theorem dL_law_1448 : decode cL_law 1448 = .ok (.iaload, 1) := by decide +kernel
theorem dL_law_1449 : decode cL_law 1449 = .ok (.invokevirtual 197, 3) := by decide +kernel
theorem dL_law_1452 : decode cL_law 1452 = .ok (.pop, 1) := by decide +kernel
theorem dL_law_1453 : decode cL_law 1453 = .ok (.aload_n 2, 1) := by decide +kernel
theorem dL_law_1454 : decode cL_law 1454 = .ok (.aload_n 0, 1) := by decide +kernel
theorem dL_law_1455 : decode cL_law 1455 = .ok (.iload_n 3, 1) := by decide +kernel
theorem dL_law_1456 : decode cL_law 1456 = .ok (.iconst 1, 1) := by decide +kernel
theorem dL_law_1457 : decode cL_law 1457 = .ok (.iadd, 1) := by decide +kernel
theorem dL_law_1458 : decode cL_law 1458 = .ok (.iaload, 1) := by decide +kernel
theorem dL_law_1459 : decode cL_law 1459 = .ok (.aload_n 0, 1) := by decide +kernel
theorem dL_law_1460 : decode cL_law 1460 = .ok (.iload_n 3, 1) := by decide +kernel
theorem dL_law_1461 : decode cL_law 1461 = .ok (.iconst 2, 1) := by decide +kernel
theorem dL_law_1462 : decode cL_law 1462 = .ok (.iadd, 1) := by decide +kernel
theorem dL_law_1463 : decode cL_law 1463 = .ok (.iaload, 1) := by decide +kernel
theorem dL_law_1464 : decode cL_law 1464 = .ok (.invokevirtual 200, 3) := by decide +kernel
theorem dL_law_1467 : decode cL_law 1467 = .ok (.pop, 1) := by decide +kernel
theorem dL_law_1468 : decode cL_law 1468 = .ok (.goto 72, 3) := by decide +kernel
theorem dL_law_1471 : decode cL_law 1471 = .ok (.aload_n 1, 1) := by decide +kernel
theorem dL_law_1472 : decode cL_law 1472 = .ok (.aload_n 0, 1) := by decide +kernel
theorem dL_law_1473 : decode cL_law 1473 = .ok (.iload_n 3, 1) := by decide +kernel
theorem dL_law_1474 : decode cL_law 1474 = .ok (.iconst 1, 1) := by decide +kernel
theorem dL_law_1475 : decode cL_law 1475 = .ok (.iadd, 1) := by decide +kernel
theorem dL_law_1476 : decode cL_law 1476 = .ok (.iaload, 1) := by decide +kernel
theorem dL_law_1477 : decode cL_law 1477 = .ok (.invokevirtual 201, 3) := by decide +kernel
theorem dL_law_1480 : decode cL_law 1480 = .ok (.pop, 1) := by decide +kernel
theorem dL_law_1481 : decode cL_law 1481 = .ok (.aload_n 2, 1) := by decide +kernel
theorem dL_law_1482 : decode cL_law 1482 = .ok (.aload_n 0, 1) := by decide +kernel
theorem dL_law_1483 : decode cL_law 1483 = .ok (.iload_n 3, 1) := by decide +kernel
theorem dL_law_1484 : decode cL_law 1484 = .ok (.iconst 1, 1) := by decide +kernel
theorem dL_law_1485 : decode cL_law 1485 = .ok (.iadd, 1) := by decide +kernel
theorem dL_law_1486 : decode cL_law 1486 = .ok (.iaload, 1) := by decide +kernel
theorem dL_law_1487 : decode cL_law 1487 = .ok (.invokevirtual 204, 3) := by decide +kernel
theorem dL_law_1490 : decode cL_law 1490 = .ok (.pop, 1) := by decide +kernel
theorem dL_law_1491 : decode cL_law 1491 = .ok (.goto 49, 3) := by decide +kernel
theorem dL_law_1494 : decode cL_law 1494 = .ok (.aload_n 1, 1) := by decide +kernel
theorem dL_law_1495 : decode cL_law 1495 = .ok (.aload_n 0, 1) := by decide +kernel
theorem dL_law_1496 : decode cL_law 1496 = .ok (.iload_n 3, 1) := by decide +kernel
theorem dL_law_1497 : decode cL_law 1497 = .ok (.iconst 1, 1) := by decide +kernel
theorem dL_law_1498 : decode cL_law 1498 = .ok (.iadd, 1) := by decide +kernel
theorem dL_law_1499 : decode cL_law 1499 = .ok (.iaload, 1) := by decide +kernel
theorem dL_law_1500 : decode cL_law 1500 = .ok (.invokevirtual 205, 3) := by decide +kernel
theorem dL_law_1503 : decode cL_law 1503 = .ok (.pop, 1) := by decide +kernel
theorem dL_law_1504 : decode cL_law 1504 = .ok (.aload_n 2, 1) := by decide +kernel
theorem dL_law_1505 : decode cL_law 1505 = .ok (.aload_n 0, 1) := by decide +kernel
theorem dL_law_1506 : decode cL_law 1506 = .ok (.iload_n 3, 1) := by decide +kernel
theorem dL_law_1507 : decode cL_law 1507 = .ok (.iconst 1, 1) := by decide +kernel
theorem dL_law_1508 : decode cL_law 1508 = .ok (.iadd, 1) := by decide +kernel
theorem dL_law_1509 : decode cL_law 1509 = .ok (.iaload, 1) := by decide +kernel
theorem dL_law_1510 : decode cL_law 1510 = .ok (.invokevirtual 208, 3) := by decide +kernel
theorem dL_law_1513 : decode cL_law 1513 = .ok (.pop, 1) := by decide +kernel
theorem dL_law_1514 : decode cL_law 1514 = .ok (.goto 26, 3) := by decide +kernel
theorem dL_law_1517 : decode cL_law 1517 = .ok (.aload_n 1, 1) := by decide +kernel
theorem dL_law_1518 : decode cL_law 1518 = .ok (.aload_n 0, 1) := by decide +kernel
theorem dL_law_1519 : decode cL_law 1519 = .ok (.iload_n 3, 1) := by decide +kernel
theorem dL_law_1520 : decode cL_law 1520 = .ok (.iconst 1, 1) := by decide +kernel
theorem dL_law_1521 : decode cL_law 1521 = .ok (.iadd, 1) := by decide +kernel
theorem dL_law_1522 : decode cL_law 1522 = .ok (.iaload, 1) := by decide +kernel
theorem dL_law_1523 : decode cL_law 1523 = .ok (.invokevirtual 209, 3) := by decide +kernel
theorem dL_law_1526 : decode cL_law 1526 = .ok (.pop, 1) := by decide +kernel
theorem dL_law_1527 : decode cL_law 1527 = .ok (.aload_n 2, 1) := by decide +kernel
theorem dL_law_1528 : decode cL_law 1528 = .ok (.aload_n 0, 1) := by decide +kernel
theorem dL_law_1529 : decode cL_law 1529 = .ok (.iload_n 3, 1) := by decide +kernel
theorem dL_law_1530 : decode cL_law 1530 = .ok (.iconst 1, 1) := by decide +kernel
theorem dL_law_1531 : decode cL_law 1531 = .ok (.iadd, 1) := by decide +kernel
theorem dL_law_1532 : decode cL_law 1532 = .ok (.iaload, 1) := by decide +kernel
theorem dL_law_1533 : decode cL_law 1533 = .ok (.invokevirtual 212, 3) := by decide +kernel
theorem dL_law_1536 : decode cL_law 1536 = .ok (.pop, 1) := by decide +kernel
theorem dL_law_1537 : decode cL_law 1537 = .ok (.goto 3, 3) := by decide +kernel
theorem dL_law_1540 : decode cL_law 1540 = .ok (.iinc 3 6, 3) := by decide +kernel
theorem dL_law_1543 : decode cL_law 1543 = .ok (.goto (-1525), 3) := by decide +kernel
theorem dL_law_1546 : decode cL_law 1546 = .ok (.iconst 1, 1) := by decide +kernel
theorem dL_law_1547 : decode cL_law 1547 = .ok (.ireturn, 1) := by decide +kernel
