theorem dL_law_1127 : decode code 1127 = .ok (.aload_n 0, 1) := by decide +kernel
theorem dL_law_1128 : decode code 1128 = .ok (.iload 4, 2) := by decide +kernel
theorem dL_law_1130 : decode code 1130 = .ok (.iconst 2, 1) := by decide +kernel
theorem dL_law_1131 : decode code 1131 = .ok (.iadd, 1) := by decide +kernel
theorem dL_law_1132 : decode code 1132 = .ok (.iaload, 1) := by decide +kernel
theorem dL_law_1133 : decode code 1133 = .ok (.aload_n 0, 1) := by decide +kernel
theorem dL_law_1134 : decode code 1134 = .ok (.iload 4, 2) := by decide +kernel
theorem dL_law_1136 : decode code 1136 = .ok (.iconst 3, 1) := by decide +kernel
theorem dL_law_1137 : decode code 1137 = .ok (.iadd, 1) := by decide +kernel
theorem dL_law_1138 : decode code 1138 = .ok (.iaload, 1) := by decide +kernel
theorem dL_law_1139 : decode code 1139 = .ok (.invokevirtual 143, 3) := by decide +kernel
theorem dL_law_1142 : decode code 1142 = .ok (.pop, 1) := by decide +kernel
theorem dL_law_1143 : decode code 1143 = .ok (.aload_n 2, 1) := by decide +kernel
theorem dL_law_1144 : decode code 1144 = .ok (.aload_n 0, 1) := by decide +kernel
theorem dL_law_1145 : decode code 1145 = .ok (.iload 4, 2) := by decide +kernel
theorem dL_law_1147 : decode code 1147 = .ok (.iconst 1, 1) := by decide +kernel
theorem dL_law_1148 : decode code 1148 = .ok (.iadd, 1) := by decide +kernel
theorem dL_law_1149 : decode code 1149 = .ok (.iaload, 1) := by decide +kernel
theorem dL_law_1150 : decode code 1150 = .ok (.aload_n 0, 1) := by decide +kernel
theorem dL_law_1151 : decode code 1151 = .ok (.iload 4, 2) := by decide +kernel
theorem dL_law_1153 : decode code 1153 = .ok (.iconst 2, 1) := by decide +kernel
theorem dL_law_1154 : decode code 1154 = .ok (.iadd, 1) := by decide +kernel
theorem dL_law_1155 : decode code 1155 = .ok (.iaload, 1) := by decide +kernel
theorem dL_law_1156 : decode code 1156 = .ok (.aload_n 0, 1) := by decide +kernel
theorem dL_law_1157 : decode code 1157 = .ok (.iload 4, 2) := by decide +kernel
theorem dL_law_1159 : decode code 1159 = .ok (.iconst 3, 1) := by decide +kernel
theorem dL_law_1160 : decode code 1160 = .ok (.iadd, 1) := by decide +kernel
theorem dL_law_1161 : decode code 1161 = .ok (.iaload, 1) := by decide +kernel
theorem dL_law_1162 : decode code 1162 = .ok (.invokevirtual 147, 3) := by decide +kernel
theorem dL_law_1165 : decode code 1165 = .ok (.pop, 1) := by decide +kernel
theorem dL_law_1166 : decode code 1166 = .ok (.goto 265, 3) := by decide +kernel
theorem dL_law_1169 : decode code 1169 = .ok (.aload_n 1, 1) := by decide +kernel
theorem dL_law_1170 : decode code 1170 = .ok (.aload_n 0, 1) := by decide +kernel
theorem dL_law_1171 : decode code 1171 = .ok (.iload 4, 2) := by decide +kernel
theorem dL_law_1173 : decode code 1173 = .ok (.iconst 1, 1) := by decide +kernel
theorem dL_law_1174 : decode code 1174 = .ok (.iadd, 1) := by decide +kernel
theorem dL_law_1175 : decode code 1175 = .ok (.iaload, 1) := by decide +kernel
theorem dL_law_1176 : decode code 1176 = .ok (.invokevirtual 148, 3) := by decide +kernel
theorem dL_law_1179 : decode code 1179 = .ok (.pop, 1) := by decide +kernel
theorem dL_law_1180 : decode code 1180 = .ok (.aload_n 2, 1) := by decide +kernel
theorem dL_law_1181 : decode code 1181 = .ok (.aload_n 0, 1) := by decide +kernel
theorem dL_law_1182 : decode code 1182 = .ok (.iload 4, 2) := by decide +kernel
theorem dL_law_1184 : decode code 1184 = .ok (.iconst 1, 1) := by decide +kernel
theorem dL_law_1185 : decode code 1185 = .ok (.iadd, 1) := by decide +kernel
theorem dL_law_1186 : decode code 1186 = .ok (.iaload, 1) := by decide +kernel
theorem dL_law_1187 : decode code 1187 = .ok (.invokevirtual 151, 3) := by decide +kernel
theorem dL_law_1190 : decode code 1190 = .ok (.pop, 1) := by decide +kernel
theorem dL_law_1191 : decode code 1191 = .ok (.goto 240, 3) := by decide +kernel
theorem dL_law_1194 : decode code 1194 = .ok (.aload_n 1, 1) := by decide +kernel
theorem dL_law_1195 : decode code 1195 = .ok (.aload_n 0, 1) := by decide +kernel
theorem dL_law_1196 : decode code 1196 = .ok (.iload 4, 2) := by decide +kernel
theorem dL_law_1198 : decode code 1198 = .ok (.iconst 1, 1) := by decide +kernel
theorem dL_law_1199 : decode code 1199 = .ok (.iadd, 1) := by decide +kernel
theorem dL_law_1200 : decode code 1200 = .ok (.iaload, 1) := by decide +kernel
theorem dL_law_1201 : decode code 1201 = .ok (.aload_n 0, 1) := by decide +kernel
theorem dL_law_1202 : decode code 1202 = .ok (.iload 4, 2) := by decide +kernel
theorem dL_law_1204 : decode code 1204 = .ok (.iconst 2, 1) := by decide +kernel
theorem dL_law_1205 : decode code 1205 = .ok (.iadd, 1) := by decide +kernel
theorem dL_law_1206 : decode code 1206 = .ok (.iaload, 1) := by decide +kernel
theorem dL_law_1207 : decode code 1207 = .ok (.aload_n 0, 1) := by decide +kernel
theorem dL_law_1208 : decode code 1208 = .ok (.iload 4, 2) := by decide +kernel
theorem dL_law_1210 : decode code 1210 = .ok (.iconst 3, 1) := by decide +kernel
theorem dL_law_1211 : decode code 1211 = .ok (.iadd, 1) := by decide +kernel
theorem dL_law_1212 : decode code 1212 = .ok (.iaload, 1) := by decide +kernel
theorem dL_law_1213 : decode code 1213 = .ok (.aload_n 0, 1) := by decide +kernel
theorem dL_law_1214 : decode code 1214 = .ok (.iload 4, 2) := by decide +kernel
theorem dL_law_1216 : decode code 1216 = .ok (.iconst 4, 1) := by decide +kernel
theorem dL_law_1217 : decode code 1217 = .ok (.iadd, 1) := by decide +kernel
theorem dL_law_1218 : decode code 1218 = .ok (.iaload, 1) := by decide +kernel
theorem dL_law_1219 : decode code 1219 = .ok (.invokevirtual 152, 3) := by decide +kernel
theorem dL_law_1222 : decode code 1222 = .ok (.pop, 1) := by decide +kernel
theorem dL_law_1223 : decode code 1223 = .ok (.aload_n 2, 1) := by decide +kernel
theorem dL_law_1224 : decode code 1224 = .ok (.aload_n 0, 1) := by decide +kernel
theorem dL_law_1225 : decode code 1225 = .ok (.iload 4, 2) := by decide +kernel
theorem dL_law_1227 : decode code 1227 = .ok (.iconst 1, 1) := by decide +kernel
theorem dL_law_1228 : decode code 1228 = .ok (.iadd, 1) := by decide +kernel
theorem dL_law_1229 : decode code 1229 = .ok (.iaload, 1) := by decide +kernel
theorem dL_law_1230 : decode code 1230 = .ok (.aload_n 0, 1) := by decide +kernel
theorem dL_law_1231 : decode code 1231 = .ok (.iload 4, 2) := by decide +kernel
theorem dL_law_1233 : decode code 1233 = .ok (.iconst 2, 1) := by decide +kernel
theorem dL_law_1234 : decode code 1234 = .ok (.iadd, 1) := by decide +kernel
theorem dL_law_1235 : decode code 1235 = .ok (.iaload, 1) := by decide +kernel
theorem dL_law_1236 : decode code 1236 = .ok (.aload_n 0, 1) := by decide +kernel
theorem dL_law_1237 : decode code 1237 = .ok (.iload 4, 2) := by decide +kernel
theorem dL_law_1239 : decode code 1239 = .ok (.iconst 3, 1) := by decide +kernel
theorem dL_law_1240 : decode code 1240 = .ok (.iadd, 1) := by decide +kernel
theorem dL_law_1241 : decode code 1241 = .ok (.iaload, 1) := by decide +kernel
theorem dL_law_1242 : decode code 1242 = .ok (.aload_n 0, 1) := by decide +kernel
theorem dL_law_1243 : decode code 1243 = .ok (.iload 4, 2) := by decide +kernel
theorem dL_law_1245 : decode code 1245 = .ok (.iconst 4, 1) := by decide +kernel
theorem dL_law_1246 : decode code 1246 = .ok (.iadd, 1) := by decide +kernel
theorem dL_law_1247 : decode code 1247 = .ok (.iaload, 1) := by decide +kernel
theorem dL_law_1248 : decode code 1248 = .ok (.invokevirtual 156, 3) := by decide +kernel
theorem dL_law_1251 : decode code 1251 = .ok (.pop, 1) := by decide +kernel
theorem dL_law_1252 : decode code 1252 = .ok (.goto 179, 3) := by decide +kernel
theorem dL_law_1255 : decode code 1255 = .ok (.aload_n 1, 1) := by decide +kernel
theorem dL_law_1256 : decode code 1256 = .ok (.aload_n 0, 1) := by decide +kernel
theorem dL_law_1257 : decode code 1257 = .ok (.iload 4, 2) := by decide +kernel
theorem dL_law_1259 : decode code 1259 = .ok (.iconst 1, 1) := by decide +kernel
theorem dL_law_1260 : decode code 1260 = .ok (.iadd, 1) := by decide +kernel
theorem dL_law_1261 : decode code 1261 = .ok (.iaload, 1) := by decide +kernel
theorem dL_law_1262 : decode code 1262 = .ok (.aload_n 0, 1) := by decide +kernel
theorem dL_law_1263 : decode code 1263 = .ok (.iload 4, 2) := by decide +kernel
theorem dL_law_1265 : decode code 1265 = .ok (.iconst 2, 1) := by decide +kernel
theorem dL_law_1266 : decode code 1266 = .ok (.iadd, 1) := by decide +kernel
theorem dL_law_1267 : decode code 1267 = .ok (.iaload, 1) := by decide +kernel
theorem dL_law_1268 : decode code 1268 = .ok (.aload_n 0, 1) := by decide +kernel
theorem dL_law_1269 : decode code 1269 = .ok (.iload 4, 2) := by decide +kernel
theorem dL_law_1271 : decode code 1271 = .ok (.iconst 3, 1) := by decide +kernel
theorem dL_law_1272 : decode code 1272 = .ok (.iadd, 1) := by decide +kernel
theorem dL_law_1273 : decode code 1273 = .ok (.iaload, 1) := by decide +kernel
theorem dL_law_1274 : decode code 1274 = .ok (.invokevirtual 157, 3) := by decide +kernel
theorem dL_law_1277 : decode code 1277 = .ok (.pop, 1) := by decide +kernel
theorem dL_law_1278 : decode code 1278 = .ok (.aload_n 2, 1) := by decide +kernel
theorem dL_law_1279 : decode code 1279 = .ok (.aload_n 0, 1) := by decide +kernel
theorem dL_law_1280 : decode code 1280 = .ok (.iload 4, 2) := by decide +kernel
theorem dL_law_1282 : decode code 1282 = .ok (.iconst 1, 1) := by decide +kernel
theorem dL_law_1283 : decode code 1283 = .ok (.iadd, 1) := by decide +kernel
theorem dL_law_1284 : decode code 1284 = .ok (.iaload, 1) := by decide +kernel
theorem dL_law_1285 : decode code 1285 = .ok (.aload_n 0, 1) := by decide +kernel
theorem dL_law_1286 : decode code 1286 = .ok (.iload 4, 2) := by decide +kernel
theorem dL_law_1288 : decode code 1288 = .ok (.iconst 2, 1) := by decide +kernel
theorem dL_law_1289 : decode code 1289 = .ok (.iadd, 1) := by decide +kernel
theorem dL_law_1290 : decode code 1290 = .ok (.iaload, 1) := by decide +kernel
theorem dL_law_1291 : decode code 1291 = .ok (.aload_n 0, 1) := by decide +kernel
theorem dL_law_1292 : decode code 1292 = .ok (.iload 4, 2) := by decide +kernel
theorem dL_law_1294 : decode code 1294 = .ok (.iconst 3, 1) := by decide +kernel
theorem dL_law_1295 : decode code 1295 = .ok (.iadd, 1) := by decide +kernel
theorem dL_law_1296 : decode code 1296 = .ok (.iaload, 1) := by decide +kernel
theorem dL_law_1297 : decode code 1297 = .ok (.invokevirtual 160, 3) := by decide +kernel
theorem dL_law_1300 : decode code 1300 = .ok (.pop, 1) := by decide +kernel
theorem dL_law_1301 : decode code 1301 = .ok (.goto 130, 3) := by decide +kernel
theorem dL_law_1304 : decode code 1304 = .ok (.aload_n 1, 1) := by decide +kernel
theorem dL_law_1305 : decode code 1305 = .ok (.aload_n 0, 1) := by decide +kernel
theorem dL_law_1306 : decode code 1306 = .ok (.iload 4, 2) := by decide +kernel
theorem dL_law_1308 : decode code 1308 = .ok (.iconst 1, 1) := by decide +kernel
theorem dL_law_1309 : decode code 1309 = .ok (.iadd, 1) := by decide +kernel
theorem dL_law_1310 : decode code 1310 = .ok (.iaload, 1) := by decide +kernel
theorem dL_law_1311 : decode code 1311 = .ok (.aload_n 0, 1) := by decide +kernel
theorem dL_law_1312 : decode code 1312 = .ok (.iload 4, 2) := by decide +kernel
theorem dL_law_1314 : decode code 1314 = .ok (.iconst 2, 1) := by decide +kernel
theorem dL_law_1315 : decode code 1315 = .ok (.iadd, 1) := by decide +kernel
theorem dL_law_1316 : decode code 1316 = .ok (.iaload, 1) := by decide +kernel
theorem dL_law_1317 : decode code 1317 = .ok (.aload_n 0, 1) := by decide +kernel
theorem dL_law_1318 : decode code 1318 = .ok (.iload 4, 2) := by decide +kernel
theorem dL_law_1320 : decode code 1320 = .ok (.iconst 3, 1) := by decide +kernel
theorem dL_law_1321 : decode code 1321 = .ok (.iadd, 1) := by decide +kernel
theorem dL_law_1322 : decode code 1322 = .ok (.iaload, 1) := by decide +kernel
theorem dL_law_1323 : decode code 1323 = .ok (.invokevirtual 161, 3) := by decide +kernel
theorem dL_law_1326 : decode code 1326 = .ok (.pop, 1) := by decide +kernel
theorem dL_law_1327 : decode code 1327 = .ok (.aload_n 2, 1) := by decide +kernel
theorem dL_law_1328 : decode code 1328 = .ok (.aload_n 0, 1) := by decide +kernel
theorem dL_law_1329 : decode code 1329 = .ok (.iload 4, 2) := by decide +kernel
theorem dL_law_1331 : decode code 1331 = .ok (.iconst 1, 1) := by decide +kernel
theorem dL_law_1332 : decode code 1332 = .ok (.iadd, 1) := by decide +kernel
theorem dL_law_1333 : decode code 1333 = .ok (.iaload, 1) := by decide +kernel
theorem dL_law_1334 : decode code 1334 = .ok (.aload_n 0, 1) := by decide +kernel
theorem dL_law_1335 : decode code 1335 = .ok (.iload 4, 2) := by decide +kernel
theorem dL_law_1337 : decode code 1337 = .ok (.iconst 2, 1) := by decide +kernel
theorem dL_law_1338 : decode code 1338 = .ok (.iadd, 1) := by decide +kernel
theorem dL_law_1339 : decode code 1339 = .ok (.iaload, 1) := by decide +kernel
theorem dL_law_1340 : decode code 1340 = .ok (.aload_n 0, 1) := by decide +kernel
theorem dL_law_1341 : decode code 1341 = .ok (.iload 4, 2) := by decide +kernel
theorem dL_law_1343 : decode code 1343 = .ok (.iconst 3, 1) := by decide +kernel
theorem dL_law_1344 : decode code 1344 = .ok (.iadd, 1) := by decide +kernel
theorem dL_law_1345 : decode code 1345 = .ok (.iaload, 1) := by decide +kernel
theorem dL_law_1346 : decode code 1346 = .ok (.invokevirtual 164, 3) := by decide +kernel
theorem dL_law_1349 : decode code 1349 = .ok (.pop, 1) := by decide +kernel
theorem dL_law_1350 : decode code 1350 = .ok (.goto 81, 3) := by decide +kernel
theorem dL_law_1353 : decode code 1353 = .ok (.aload_n 1, 1) := by decide +kernel
theorem dL_law_1354 : decode code 1354 = .ok (.aload_n 0, 1) := by decide +kernel
theorem dL_law_1355 : decode code 1355 = .ok (.iload 4, 2) := by decide +kernel
theorem dL_law_1357 : decode code 1357 = .ok (.iconst 1, 1) := by decide +kernel
theorem dL_law_1358 : decode code 1358 = .ok (.iadd, 1) := by decide +kernel
theorem dL_law_1359 : decode code 1359 = .ok (.iaload, 1) := by decide +kernel
theorem dL_law_1360 : decode code 1360 = .ok (.aload_n 0, 1) := by decide +kernel
theorem dL_law_1361 : decode code 1361 = .ok (.iload 4, 2) := by decide +kernel
theorem dL_law_1363 : decode code 1363 = .ok (.iconst 2, 1) := by decide +kernel
theorem dL_law_1364 : decode code 1364 = .ok (.iadd, 1) := by decide +kernel
theorem dL_law_1365 : decode code 1365 = .ok (.iaload, 1) := by decide +kernel
theorem dL_law_1366 : decode code 1366 = .ok (.ifCond .eq 7, 3) := by decide +kernel
theorem dL_law_1369 : decode code 1369 = .ok (.iconst 1, 1) := by decide +kernel
theorem dL_law_1370 : decode code 1370 = .ok (.goto 4, 3) := by decide +kernel
theorem dL_law_1373 : decode code 1373 = .ok (.iconst 0, 1) := by decide +kernel
theorem dL_law_1374 : decode code 1374 = .ok (.invokevirtual 165, 3) := by decide +kernel
theorem dL_law_1377 : decode code 1377 = .ok (.pop, 1) := by decide +kernel
theorem dL_law_1378 : decode code 1378 = .ok (.aload_n 2, 1) := by decide +kernel
theorem dL_law_1379 : decode code 1379 = .ok (.aload_n 0, 1) := by decide +kernel
theorem dL_law_1380 : decode code 1380 = .ok (.iload 4, 2) := by decide +kernel
theorem dL_law_1382 : decode code 1382 = .ok (.iconst 1, 1) := by decide +kernel
theorem dL_law_1383 : decode code 1383 = .ok (.iadd, 1) := by decide +kernel
theorem dL_law_1384 : decode code 1384 = .ok (.iaload, 1) := by decide +kernel
theorem dL_law_1385 : decode code 1385 = .ok (.aload_n 0, 1) := by decide +kernel
theorem dL_law_1386 : decode code 1386 = .ok (.iload 4, 2) := by decide +kernel
theorem dL_law_1388 : decode code 1388 = .ok (.iconst 2, 1) := by decide +kernel
theorem dL_law_1389 : decode code 1389 = .ok (.iadd, 1) := by decide +kernel
theorem dL_law_1390 : decode code 1390 = .ok (.iaload, 1) := by decide +kernel
theorem dL_law_1391 : decode code 1391 = .ok (.ifCond .eq 7, 3) := by decide +kernel
theorem dL_law_1394 : decode code 1394 = .ok (.iconst 1, 1) := by decide +kernel
theorem dL_law_1395 : decode code 1395 = .ok (.goto 4, 3) := by decide +kernel
theorem dL_law_1398 : decode code 1398 = .ok (.iconst 0, 1) := by decide +kernel
theorem dL_law_1399 : decode code 1399 = .ok (.invokevirtual 169, 3) := by decide +kernel
theorem dL_law_1402 : decode code 1402 = .ok (.pop, 1) := by decide +kernel
theorem dL_law_1403 : decode code 1403 = .ok (.goto 28, 3) := by decide +kernel
theorem dL_law_1406 : decode code 1406 = .ok (.aload_n 1, 1) := by decide +kernel
theorem dL_law_1407 : decode code 1407 = .ok (.aload_n 0, 1) := by decide +kernel
theorem dL_law_1408 : decode code 1408 = .ok (.iload 4, 2) := by decide +kernel
theorem dL_law_1410 : decode code 1410 = .ok (.iconst 1, 1) := by decide +kernel
theorem dL_law_1411 : decode code 1411 = .ok (.iadd, 1) := by decide +kernel
theorem dL_law_1412 : decode code 1412 = .ok (.iaload, 1) := by decide +kernel
theorem dL_law_1413 : decode code 1413 = .ok (.invokevirtual 170, 3) := by decide +kernel
theorem dL_law_1416 : decode code 1416 = .ok (.pop, 1) := by decide +kernel
theorem dL_law_1417 : decode code 1417 = .ok (.aload_n 2, 1) := by decide +kernel
theorem dL_law_1418 : decode code 1418 = .ok (.aload_n 0, 1) := by decide +kernel
theorem dL_law_1419 : decode code 1419 = .ok (.iload 4, 2) := by decide +kernel
theorem dL_law_1421 : decode code 1421 = .ok (.iconst 1, 1) := by decide +kernel
theorem dL_law_1422 : decode code 1422 = .ok (.iadd, 1) := by decide +kernel
theorem dL_law_1423 : decode code 1423 = .ok (.iaload, 1) := by decide +kernel
theorem dL_law_1424 : decode code 1424 = .ok (.invokevirtual 173, 3) := by decide +kernel
theorem dL_law_1427 : decode code 1427 = .ok (.pop, 1) := by decide +kernel
theorem dL_law_1428 : decode code 1428 = .ok (.goto 3, 3) := by decide +kernel
theorem dL_law_1431 : decode code 1431 = .ok (.iinc 4 7, 3) := by decide +kernel
theorem dL_law_1434 : decode code 1434 = .ok (.goto (-1411), 3) := by decide +kernel
theorem dL_law_1437 : decode code 1437 = .ok (.iconst 1, 1) := by decide +kernel
theorem dL_law_1438 : decode code 1438 = .ok (.ireturn, 1) := by decide +kernel
