theorem dL_law_1199 : decode cL_law 1199 = .ok (.iload_n 3, 1) := by decide +kernel
theorem dL_law_1200 : decode cL_law 1200 = .ok (.iconst 3, 1) := by decide +kernel
theorem dL_law_1201 : decode cL_law 1201 = .ok (.iadd, 1) := by decide +kernel
theorem dL_law_1202 : decode cL_law 1202 = .ok (.iaload, 1) := by decide +kernel
theorem dL_law_1203 : decode cL_law 1203 = .ok (.aload_n 0, 1) := by decide +kernel
theorem dL_law_1204 : decode cL_law 1204 = .ok (.iload_n 3, 1) := by decide +kernel
theorem dL_law_1205 : decode cL_law 1205 = .ok (.iconst 4, 1) := by decide +kernel
theorem dL_law_1206 : decode cL_law 1206 = .ok (.iadd, 1) := by decide +kernel
theorem dL_law_1207 : decode cL_law 1207 = .ok (.iaload, 1) := by decide +kernel
theorem dL_law_1208 : decode cL_law 1208 = .ok (.aload_n 0, 1) := by decide +kernel
theorem dL_law_1209 : decode cL_law 1209 = .ok (.iload_n 3, 1) := by decide +kernel
theorem dL_law_1210 : decode cL_law 1210 = .ok (.iconst 5, 1) := by decide +kernel
theorem dL_law_1211 : decode cL_law 1211 = .ok (.iadd, 1) := by decide +kernel
theorem dL_law_1212 : decode cL_law 1212 = .ok (.iaload, 1) := by decide +kernel
theorem dL_law_1213 : decode cL_law 1213 = .ok (.invokevirtual 135, 3) := by decide +kernel
theorem dL_law_1216 : decode cL_law 1216 = .ok (.pop, 1) := by decide +kernel
theorem dL_law_1217 : decode cL_law 1217 = .ok (.aload_n 2, 1) := by decide +kernel
theorem dL_law_1218 : decode cL_law 1218 = .ok (.aload_n 0, 1) := by decide +kernel
theorem dL_law_1219 : decode cL_law 1219 = .ok (.iload_n 3, 1) := by decide +kernel
theorem dL_law_1220 : decode cL_law 1220 = .ok (.iconst 1, 1) := by decide +kernel
theorem dL_law_1221 : decode cL_law 1221 = .ok (.iadd, 1) := by decide +kernel
theorem dL_law_1222 : decode cL_law 1222 = .ok (.iaload, 1) := by decide +kernel
theorem dL_law_1223 : decode cL_law 1223 = .ok (.aload_n 0, 1) := by decide +kernel
theorem dL_law_1224 : decode cL_law 1224 = .ok (.iload_n 3, 1) := by decide +kernel
theorem dL_law_1225 : decode cL_law 1225 = .ok (.iconst 2, 1) := by decide +kernel
theorem dL_law_1226 : decode cL_law 1226 = .ok (.iadd, 1) := by decide +kernel
theorem dL_law_1227 : decode cL_law 1227 = .ok (.iaload, 1) := by decide +kernel
theorem dL_law_1228 : decode cL_law 1228 = .ok (.aload_n 0, 1) := by decide +kernel
theorem dL_law_1229 : decode cL_law 1229 = .ok (.iload_n 3, 1) := by decide +kernel
theorem dL_law_1230 : decode cL_law 1230 = .ok (.iconst 3, 1) := by decide +kernel
theorem dL_law_1231 : decode cL_law 1231 = .ok (.iadd, 1) := by decide +kernel
theorem dL_law_1232 : decode cL_law 1232 = .ok (.iaload, 1) := by decide +kernel
theorem dL_law_1233 : decode cL_law 1233 = .ok (.aload_n 0, 1) := by decide +kernel
theorem dL_law_1234 : decode cL_law 1234 = .ok (.iload_n 3, 1) := by decide +kernel
theorem dL_law_1235 : decode cL_law 1235 = .ok (.iconst 4, 1) := by decide +kernel
theorem dL_law_1236 : decode cL_law 1236 = .ok (.iadd, 1) := by decide +kernel
theorem dL_law_1237 : decode cL_law 1237 = .ok (.iaload, 1) := by decide +kernel
theorem dL_law_1238 : decode cL_law 1238 = .ok (.aload_n 0, 1) := by decide +kernel
theorem dL_law_1239 : decode cL_law 1239 = .ok (.iload_n 3, 1) := by decide +kernel
theorem dL_law_1240 : decode cL_law 1240 = .ok (.iconst 5, 1) := by decide +kernel
theorem dL_law_1241 : decode cL_law 1241 = .ok (.iadd, 1) := by decide +kernel
theorem dL_law_1242 : decode cL_law 1242 = .ok (.iaload, 1) := by decide +kernel
theorem dL_law_1243 : decode cL_law 1243 = .ok (.invokevirtual 138, 3) := by decide +kernel
theorem dL_law_1246 : decode cL_law 1246 = .ok (.pop, 1) := by decide +kernel
theorem dL_law_1247 : decode cL_law 1247 = .ok (.goto 293, 3) := by decide +kernel
theorem dL_law_1250 : decode cL_law 1250 = .ok (.aload_n 1, 1) := by decide +kernel
theorem dL_law_1251 : decode cL_law 1251 = .ok (.aload_n 0, 1) := by decide +kernel
theorem dL_law_1252 : decode cL_law 1252 = .ok (.iload_n 3, 1) := by decide +kernel
theorem dL_law_1253 : decode cL_law 1253 = .ok (.iconst 1, 1) := by decide +kernel
theorem dL_law_1254 : decode cL_law 1254 = .ok (.iadd, 1) := by decide +kernel
theorem dL_law_1255 : decode cL_law 1255 = .ok (.iaload, 1) := by decide +kernel
theorem dL_law_1256 : decode cL_law 1256 = .ok (.aload_n 0, 1) := by decide +kernel
theorem dL_law_1257 : decode cL_law 1257 = .ok (.iload_n 3, 1) := by decide +kernel
theorem dL_law_1258 : decode cL_law 1258 = .ok (.iconst 2, 1) := by decide +kernel
theorem dL_law_1259 : decode cL_law 1259 = .ok (.iadd, 1) := by decide +kernel
theorem dL_law_1260 : decode cL_law 1260 = .ok (.iaload, 1) := by decide +kernel
theorem dL_law_1261 : decode cL_law 1261 = .ok (.aload_n 0, 1) := by decide +kernel
theorem dL_law_1262 : decode cL_law 1262 = .ok (.iload_n 3, 1) := by decide +kernel
theorem dL_law_1263 : decode cL_law 1263 = .ok (.iconst 3, 1) := by decide +kernel
theorem dL_law_1264 : decode cL_law 1264 = .ok (.iadd, 1) := by decide +kernel
theorem dL_law_1265 : decode cL_law 1265 = .ok (.iaload, 1) := by decide +kernel
theorem dL_law_1266 : decode cL_law 1266 = .ok (.aload_n 0, 1) := by decide +kernel
theorem dL_law_1267 : decode cL_law 1267 = .ok (.iload_n 3, 1) := by decide +kernel
theorem dL_law_1268 : decode cL_law 1268 = .ok (.iconst 4, 1) := by decide +kernel
theorem dL_law_1269 : decode cL_law 1269 = .ok (.iadd, 1) := by decide +kernel
theorem dL_law_1270 : decode cL_law 1270 = .ok (.iaload, 1) := by decide +kernel
theorem dL_law_1271 : decode cL_law 1271 = .ok (.invokevirtual 139, 3) := by decide +kernel
theorem dL_law_1274 : decode cL_law 1274 = .ok (.pop2, 1) := by decide +kernel
theorem dL_law_1275 : decode cL_law 1275 = .ok (.aload_n 2, 1) := by decide +kernel
theorem dL_law_1276 : decode cL_law 1276 = .ok (.aload_n 0, 1) := by decide +kernel
theorem dL_law_1277 : decode cL_law 1277 = .ok (.iload_n 3, 1) := by decide +kernel
theorem dL_law_1278 : decode cL_law 1278 = .ok (.iconst 1, 1) := by decide +kernel
theorem dL_law_1279 : decode cL_law 1279 = .ok (.iadd, 1) := by decide +kernel
theorem dL_law_1280 : decode cL_law 1280 = .ok (.iaload, 1) := by decide +kernel
theorem dL_law_1281 : decode cL_law 1281 = .ok (.aload_n 0, 1) := by decide +kernel
theorem dL_law_1282 : decode cL_law 1282 = .ok (.iload_n 3, 1) := by decide +kernel
theorem dL_law_1283 : decode cL_law 1283 = .ok (.iconst 2, 1) := by decide +kernel
theorem dL_law_1284 : decode cL_law 1284 = .ok (.iadd, 1) := by decide +kernel
theorem dL_law_1285 : decode cL_law 1285 = .ok (.iaload, 1) := by decide +kernel
theorem dL_law_1286 : decode cL_law 1286 = .ok (.aload_n 0, 1) := by decide +kernel
theorem dL_law_1287 : decode cL_law 1287 = .ok (.iload_n 3, 1) := by decide +kernel
theorem dL_law_1288 : decode cL_law 1288 = .ok (.iconst 3, 1) := by decide +kernel
theorem dL_law_1289 : decode cL_law 1289 = .ok (.iadd, 1) := by decide +kernel
theorem dL_law_1290 : decode cL_law 1290 = .ok (.iaload, 1) := by decide +kernel
theorem dL_law_1291 : decode cL_law 1291 = .ok (.aload_n 0, 1) := by decide +kernel
theorem dL_law_1292 : decode cL_law 1292 = .ok (.iload_n 3, 1) := by decide +kernel
theorem dL_law_1293 : decode cL_law 1293 = .ok (.iconst 4, 1) := by decide +kernel
theorem dL_law_1294 : decode cL_law 1294 = .ok (.iadd, 1) := by decide +kernel
theorem dL_law_1295 : decode cL_law 1295 = .ok (.iaload, 1) := by decide +kernel
theorem dL_law_1296 : decode cL_law 1296 = .ok (.invokevirtual 143, 3) := by decide +kernel
theorem dL_law_1299 : decode cL_law 1299 = .ok (.pop2, 1) := by decide +kernel
theorem dL_law_1300 : decode cL_law 1300 = .ok (.goto 240, 3) := by decide +kernel
theorem dL_law_1303 : decode cL_law 1303 = .ok (.aload_n 1, 1) := by decide +kernel
theorem dL_law_1304 : decode cL_law 1304 = .ok (.aload_n 0, 1) := by decide +kernel
theorem dL_law_1305 : decode cL_law 1305 = .ok (.iload_n 3, 1) := by decide +kernel
theorem dL_law_1306 : decode cL_law 1306 = .ok (.iconst 1, 1) := by decide +kernel
theorem dL_law_1307 : decode cL_law 1307 = .ok (.iadd, 1) := by decide +kernel
theorem dL_law_1308 : decode cL_law 1308 = .ok (.iaload, 1) := by decide +kernel
theorem dL_law_1309 : decode cL_law 1309 = .ok (.aload_n 0, 1) := by decide +kernel
theorem dL_law_1310 : decode cL_law 1310 = .ok (.iload_n 3, 1) := by decide +kernel
theorem dL_law_1311 : decode cL_law 1311 = .ok (.iconst 2, 1) := by decide +kernel
theorem dL_law_1312 : decode cL_law 1312 = .ok (.iadd, 1) := by decide +kernel
theorem dL_law_1313 : decode cL_law 1313 = .ok (.iaload, 1) := by decide +kernel
theorem dL_law_1314 : decode cL_law 1314 = .ok (.aload_n 0, 1) := by decide +kernel
theorem dL_law_1315 : decode cL_law 1315 = .ok (.iload_n 3, 1) := by decide +kernel
theorem dL_law_1316 : decode cL_law 1316 = .ok (.iconst 3, 1) := by decide +kernel
theorem dL_law_1317 : decode cL_law 1317 = .ok (.iadd, 1) := by decide +kernel
theorem dL_law_1318 : decode cL_law 1318 = .ok (.iaload, 1) := by decide +kernel
theorem dL_law_1319 : decode cL_law 1319 = .ok (.invokevirtual 144, 3) := by decide +kernel
theorem dL_law_1322 : decode cL_law 1322 = .ok (.pop, 1) := by decide +kernel
theorem dL_law_1323 : decode cL_law 1323 = .ok (.aload_n 2, 1) := by decide +kernel
theorem dL_law_1324 : decode cL_law 1324 = .ok (.aload_n 0, 1) := by decide +kernel
theorem dL_law_1325 : decode cL_law 1325 = .ok (.iload_n 3, 1) := by decide +kernel
theorem dL_law_1326 : decode cL_law 1326 = .ok (.iconst 1, 1) := by decide +kernel
theorem dL_law_1327 : decode cL_law 1327 = .ok (.iadd, 1) := by decide +kernel
theorem dL_law_1328 : decode cL_law 1328 = .ok (.iaload, 1) := by decide +kernel
theorem dL_law_1329 : decode cL_law 1329 = .ok (.aload_n 0, 1) := by decide +kernel
theorem dL_law_1330 : decode cL_law 1330 = .ok (.iload_n 3, 1) := by decide +kernel
theorem dL_law_1331 : decode cL_law 1331 = .ok (.iconst 2, 1) := by decide +kernel
theorem dL_law_1332 : decode cL_law 1332 = .ok (.iadd, 1) := by decide +kernel
theorem dL_law_1333 : decode cL_law 1333 = .ok (.iaload, 1) := by decide +kernel
theorem dL_law_1334 : decode cL_law 1334 = .ok (.aload_n 0, 1) := by decide +kernel
theorem dL_law_1335 : decode cL_law 1335 = .ok (.iload_n 3, 1) := by decide +kernel
theorem dL_law_1336 : decode cL_law 1336 = .ok (.iconst 3, 1) := by decide +kernel
theorem dL_law_1337 : decode cL_law 1337 = .ok (.iadd, 1) := by decide +kernel
theorem dL_law_1338 : decode cL_law 1338 = .ok (.iaload, 1) := by decide +kernel
theorem dL_law_1339 : decode cL_law 1339 = .ok (.invokevirtual 147, 3) := by decide +kernel
theorem dL_law_1342 : decode cL_law 1342 = .ok (.pop, 1) := by decide +kernel
theorem dL_law_1343 : decode cL_law 1343 = .ok (.goto 197, 3) := by decide +kernel
theorem dL_law_1346 : decode cL_law 1346 = .ok (.aload_n 1, 1) := by decide +kernel
theorem dL_law_1347 : decode cL_law 1347 = .ok (.aload_n 0, 1) := by decide +kernel
theorem dL_law_1348 : decode cL_law 1348 = .ok (.iload_n 3, 1) := by decide +kernel
theorem dL_law_1349 : decode cL_law 1349 = .ok (.iconst 1, 1) := by decide +kernel
theorem dL_law_1350 : decode cL_law 1350 = .ok (.iadd, 1) := by decide +kernel
theorem dL_law_1351 : decode cL_law 1351 = .ok (.iaload, 1) := by decide +kernel
theorem dL_law_1352 : decode cL_law 1352 = .ok (.invokevirtual 148, 3) := by decide +kernel
theorem dL_law_1355 : decode cL_law 1355 = .ok (.pop, 1) := by decide +kernel
theorem dL_law_1356 : decode cL_law 1356 = .ok (.aload_n 2, 1) := by decide +kernel
theorem dL_law_1357 : decode cL_law 1357 = .ok (.aload_n 0, 1) := by decide +kernel
theorem dL_law_1358 : decode cL_law 1358 = .ok (.iload_n 3, 1) := by decide +kernel
theorem dL_law_1359 : decode cL_law 1359 = .ok (.iconst 1, 1) := by decide +kernel
theorem dL_law_1360 : decode cL_law 1360 = .ok (.iadd, 1) := by decide +kernel
theorem dL_law_1361 : decode cL_law 1361 = .ok (.iaload, 1) := by decide +kernel
theorem dL_law_1362 : decode cL_law 1362 = .ok (.invokevirtual 151, 3) := by decide +kernel
theorem dL_law_1365 : decode cL_law 1365 = .ok (.pop, 1) := by decide +kernel
theorem dL_law_1366 : decode cL_law 1366 = .ok (.goto 174, 3) := by decide +kernel
theorem dL_law_1369 : decode cL_law 1369 = .ok (.aload_n 1, 1) := by decide +kernel
theorem dL_law_1370 : decode cL_law 1370 = .ok (.aload_n 0, 1) := by decide +kernel
theorem dL_law_1371 : decode cL_law 1371 = .ok (.iload_n 3, 1) := by decide +kernel
theorem dL_law_1372 : decode cL_law 1372 = .ok (.iconst 1, 1) := by decide +kernel
theorem dL_law_1373 : decode cL_law 1373 = .ok (.iadd, 1) := by decide +kernel
theorem dL_law_1374 : decode cL_law 1374 = .ok (.iaload, 1) := by decide +kernel
theorem dL_law_1375 : decode cL_law 1375 = .ok (.invokevirtual 152, 3) := by decide +kernel
theorem dL_law_1378 : decode cL_law 1378 = .ok (.pop, 1) := by decide +kernel
theorem dL_law_1379 : decode cL_law 1379 = .ok (.aload_n 2, 1) := by decide +kernel
theorem dL_law_1380 : decode cL_law 1380 = .ok (.aload_n 0, 1) := by decide +kernel
theorem dL_law_1381 : decode cL_law 1381 = .ok (.iload_n 3, 1) := by decide +kernel
theorem dL_law_1382 : decode cL_law 1382 = .ok (.iconst 1, 1) := by decide +kernel
theorem dL_law_1383 : decode cL_law 1383 = .ok (.iadd, 1) := by decide +kernel
theorem dL_law_1384 : decode cL_law 1384 = .ok (.iaload, 1) := by decide +kernel
theorem dL_law_1385 : decode cL_law 1385 = .ok (.invokevirtual 155, 3) := by decide +kernel
theorem dL_law_1388 : decode cL_law 1388 = .ok (.pop, 1) := by decide +kernel
theorem dL_law_1389 : decode cL_law 1389 = .ok (.goto 151, 3) := by decide +kernel
theorem dL_law_1392 : decode cL_law 1392 = .ok (.aload_n 1, 1) := by decide +kernel
theorem dL_law_1393 : decode cL_law 1393 = .ok (.aload_n 0, 1) := by decide +kernel
theorem dL_law_1394 : decode cL_law 1394 = .ok (.iload_n 3, 1) := by decide +kernel
theorem dL_law_1395 : decode cL_law 1395 = .ok (.iconst 1, 1) := by decide +kernel
theorem dL_law_1396 : decode cL_law 1396 = .ok (.iadd, 1) := by decide +kernel
theorem dL_law_1397 : decode cL_law 1397 = .ok (.iaload, 1) := by decide +kernel
theorem dL_law_1398 : decode cL_law 1398 = .ok (.invokevirtual 156, 3) := by decide +kernel
theorem dL_law_1401 : decode cL_law 1401 = .ok (.pop, 1) := by decide +kernel
theorem dL_law_1402 : decode cL_law 1402 = .ok (.aload_n 2, 1) := by decide +kernel
theorem dL_law_1403 : decode cL_law 1403 = .ok (.aload_n 0, 1) := by decide +kernel
theorem dL_law_1404 : decode cL_law 1404 = .ok (.iload_n 3, 1) := by decide +kernel
theorem dL_law_1405 : decode cL_law 1405 = .ok (.iconst 1, 1) := by decide +kernel
theorem dL_law_1406 : decode cL_law 1406 = .ok (.iadd, 1) := by decide +kernel
theorem dL_law_1407 : decode cL_law 1407 = .ok (.iaload, 1) := by decide +kernel
theorem dL_law_1408 : decode cL_law 1408 = .ok (.invokevirtual 159, 3) := by decide +kernel
theorem dL_law_1411 : decode cL_law 1411 = .ok (.pop, 1) := by decide +kernel
theorem dL_law_1412 : decode cL_law 1412 = .ok (.goto 128, 3) := by decide +kernel
theorem dL_law_1415 : decode cL_law 1415 = .ok (.aload_n 1, 1) := by decide +kernel
theorem dL_law_1416 : decode cL_law 1416 = .ok (.aload_n 0, 1) := by decide +kernel
theorem dL_law_1417 : decode cL_law 1417 = .ok (.iload_n 3, 1) := by decide +kernel
theorem dL_law_1418 : decode cL_law 1418 = .ok (.iconst 1, 1) := by decide +kernel
theorem dL_law_1419 : decode cL_law 1419 = .ok (.iadd, 1) := by decide +kernel
theorem dL_law_1420 : decode cL_law 1420 = .ok (.iaload, 1) := by decide +kernel
theorem dL_law_1421 : decode cL_law 1421 = .ok (.aload_n 0, 1) := by decide +kernel
theorem dL_law_1422 : decode cL_law 1422 = .ok (.iload_n 3, 1) := by decide +kernel
theorem dL_law_1423 : decode cL_law 1423 = .ok (.iconst 2, 1) := by decide +kernel
theorem dL_law_1424 : decode cL_law 1424 = .ok (.iadd, 1) := by decide +kernel
theorem dL_law_1425 : decode cL_law 1425 = .ok (.iaload, 1) := by decide +kernel
theorem dL_law_1426 : decode cL_law 1426 = .ok (.invokevirtual 160, 3) := by decide +kernel
theorem dL_law_1429 : decode cL_law 1429 = .ok (.pop, 1) := by decide +kernel
theorem dL_law_1430 : decode cL_law 1430 = .ok (.aload_n 2, 1) := by decide +kernel
theorem dL_law_1431 : decode cL_law 1431 = .ok (.aload_n 0, 1) := by decide +kernel
theorem dL_law_1432 : decode cL_law 1432 = .ok (.iload_n 3, 1) := by decide +kernel
theorem dL_law_1433 : decode cL_law 1433 = .ok (.iconst 1, 1) := by decide +kernel
theorem dL_law_1434 : decode cL_law 1434 = .ok (.iadd, 1) := by decide +kernel
theorem dL_law_1435 : decode cL_law 1435 = .ok (.iaload, 1) := by decide +kernel
theorem dL_law_1436 : decode cL_law 1436 = .ok (.aload_n 0, 1) := by decide +kernel
theorem dL_law_1437 : decode cL_law 1437 = .ok (.iload_n 3, 1) := by decide +kernel
theorem dL_law_1438 : decode cL_law 1438 = .ok (.iconst 2, 1) := by decide +kernel
theorem dL_law_1439 : decode cL_law 1439 = .ok (.iadd, 1) := by decide +kernel
theorem dL_law_1440 : decode cL_law 1440 = .ok (.iaload, 1) := by decide +kernel
theorem dL_law_1441 : decode cL_law 1441 = .ok (.invokevirtual 163, 3) := by decide +kernel
theorem dL_law_1444 : decode cL_law 1444 = .ok (.pop, 1) := by decide +kernel
theorem dL_law_1445 : decode cL_law 1445 = .ok (.goto 95, 3) := by decide +kernel
theorem dL_law_1448 : decode cL_law 1448 = .ok (.aload_n 1, 1) := by decide +kernel
theorem dL_law_1449 : decode cL_law 1449 = .ok (.aload_n 0, 1) := by decide +kernel
theorem dL_law_1450 : decode cL_law 1450 = .ok (.iload_n 3, 1) := by decide +kernel
theorem dL_law_1451 : decode cL_law 1451 = .ok (.iconst 1, 1) := by decide +kernel
theorem dL_law_1452 : decode cL_law 1452 = .ok (.iadd, 1) := by decide +kernel
theorem dL_law_1453 : decode cL_law 1453 = .ok (.iaload, 1) := by decide +kernel
theorem dL_law_1454 : decode cL_law 1454 = .ok (.aload_n 0, 1) := by decide +kernel
theorem dL_law_1455 : decode cL_law 1455 = .ok (.iload_n 3, 1) := by decide +kernel
theorem dL_law_1456 : decode cL_law 1456 = .ok (.iconst 2, 1) := by decide +kernel
theorem dL_law_1457 : decode cL_law 1457 = .ok (.iadd, 1) := by decide +kernel
theorem dL_law_1458 : decode cL_law 1458 = .ok (.iaload, 1) := by decide +kernel
theorem dL_law_1459 : decode cL_law 1459 = .ok (.invokevirtual 164, 3) := by decide +kernel
theorem dL_law_1462 : decode cL_law 1462 = .ok (.pop, 1) := by decide +kernel
theorem dL_law_1463 : decode cL_law 1463 = .ok (.aload_n 2, 1) := by decide +kernel
theorem dL_law_1464 : decode cL_law 1464 = .ok (.aload_n 0, 1) := by decide +kernel
theorem dL_law_1465 : decode cL_law 1465 = .ok (.iload_n 3, 1) := by decide +kernel
theorem dL_law_1466 : decode cL_law 1466 = .ok (.iconst 1, 1) := by decide +kernel
theorem dL_law_1467 : decode cL_law 1467 = .ok (.iadd, 1) := by decide +kernel
theorem dL_law_1468 : decode cL_law 1468 = .ok (.iaload, 1) := by decide +kernel
theorem dL_law_1469 : decode cL_law 1469 = .ok (.aload_n 0, 1) := by decide +kernel
theorem dL_law_1470 : decode cL_law 1470 = .ok (.iload_n 3, 1) := by decide +kernel
theorem dL_law_1471 : decode cL_law 1471 = .ok (.iconst 2, 1) := by decide +kernel
theorem dL_law_1472 : decode cL_law 1472 = .ok (.iadd, 1) := by decide +kernel
theorem dL_law_1473 : decode cL_law 1473 = .ok (.iaload, 1) := by decide +kernel
theorem dL_law_1474 : decode cL_law 1474 = .ok (.invokevirtual 167, 3) := by decide +kernel
theorem dL_law_1477 : decode cL_law 1477 = .ok (.pop, 1) := by decide +kernel
theorem dL_law_1478 : decode cL_law 1478 = .ok (.goto 62, 3) := by decide +kernel
theorem dL_law_1481 : decode cL_law 1481 = .ok (.aload_n 1, 1) := by decide +kernel
theorem dL_law_1482 : decode cL_law 1482 = .ok (.aload_n 0, 1) := by decide +kernel
theorem dL_law_1483 : decode cL_law 1483 = .ok (.iload_n 3, 1) := by decide +kernel
theorem dL_law_1484 : decode cL_law 1484 = .ok (.iconst 1, 1) := by decide +kernel
theorem dL_law_1485 : decode cL_law 1485 = .ok (.iadd, 1) := by decide +kernel
theorem dL_law_1486 : decode cL_law 1486 = .ok (.iaload, 1) := by decide +kernel
theorem dL_law_1487 : decode cL_law 1487 = .ok (.invokevirtual 168, 3) := by decide +kernel
theorem dL_law_1490 : decode cL_law 1490 = .ok (.pop, 1) := by decide +kernel
theorem dL_law_1491 : decode cL_law 1491 = .ok (.aload_n 2, 1) := by decide +kernel
theorem dL_law_1492 : decode cL_law 1492 = .ok (.aload_n 0, 1) := by decide +kernel
theorem dL_law_1493 : decode cL_law 1493 = .ok (.iload_n 3, 1) := by decide +kernel
theorem dL_law_1494 : decode cL_law 1494 = .ok (.iconst 1, 1) := by decide +kernel
theorem dL_law_1495 : decode cL_law 1495 = .ok (.iadd, 1) := by decide +kernel
theorem dL_law_1496 : decode cL_law 1496 = .ok (.iaload, 1) := by decide +kernel
theorem dL_law_1497 : decode cL_law 1497 = .ok (.invokevirtual 171, 3) := by decide +kernel
theorem dL_law_1500 : decode cL_law 1500 = .ok (.pop, 1) := by decide +kernel
theorem dL_law_1501 : decode cL_law 1501 = .ok (.goto 39, 3) := by decide +kernel
theorem dL_law_1504 : decode cL_law 1504 = .ok (.aload_n 1, 1) := by decide +kernel
theorem dL_law_1505 : decode cL_law 1505 = .ok (.aload_n 0, 1) := by decide +kernel
theorem dL_law_1506 : decode cL_law 1506 = .ok (.iload_n 3, 1) := by decide +kernel
theorem dL_law_1507 : decode cL_law 1507 = .ok (.iconst 1, 1) := by decide +kernel
theorem dL_law_1508 : decode cL_law 1508 = .ok (.iadd, 1) := by decide +kernel
theorem dL_law_1509 : decode cL_law 1509 = .ok (.iaload, 1) := by decide +kernel
theorem dL_law_1510 : decode cL_law 1510 = .ok (.invokevirtual 172, 3) := by decide +kernel
theorem dL_law_1513 : decode cL_law 1513 = .ok (.pop, 1) := by decide +kernel
theorem dL_law_1514 : decode cL_law 1514 = .ok (.aload_n 2, 1) := by decide +kernel
theorem dL_law_1515 : decode cL_law 1515 = .ok (.aload_n 0, 1) := by decide +kernel
theorem dL_law_1516 : decode cL_law 1516 = .ok (.iload_n 3, 1) := by decide +kernel
theorem dL_law_1517 : decode cL_law 1517 = .ok (.iconst 1, 1) := by decide +kernel
theorem dL_law_1518 : decode cL_law 1518 = .ok (.iadd, 1) := by decide +kernel
theorem dL_law_1519 : decode cL_law 1519 = .ok (.iaload, 1) := by decide +kernel
theorem dL_law_1520 : decode cL_law 1520 = .ok (.invokevirtual 175, 3) := by decide +kernel
theorem dL_law_1523 : decode cL_law 1523 = .ok (.pop, 1) := by decide +kernel
theorem dL_law_1524 : decode cL_law 1524 = .ok (.goto 16, 3) := by decide +kernel
theorem dL_law_1527 : decode cL_law 1527 = .ok (.aload_n 1, 1) := by decide +kernel
theorem dL_law_1528 : decode cL_law 1528 = .ok (.invokevirtual 176, 3) := by decide +kernel
theorem dL_law_1531 : decode cL_law 1531 = .ok (.pop, 1) := by decide +kernel
theorem dL_law_1532 : decode cL_law 1532 = .ok (.aload_n 2, 1) := by decide +kernel
theorem dL_law_1533 : decode cL_law 1533 = .ok (.invokevirtual 179, 3) := by decide +kernel
theorem dL_law_1536 : decode cL_law 1536 = .ok (.pop, 1) := by decide +kernel
theorem dL_law_1537 : decode cL_law 1537 = .ok (.goto 3, 3) := by decide +kernel
theorem dL_law_1540 : decode cL_law 1540 = .ok (.iinc 3 7, 3) := by decide +kernel
theorem dL_law_1543 : decode cL_law 1543 = .ok (.goto (-1525), 3) := by decide +kernel
theorem dL_law_1546 : decode cL_law 1546 = .ok (.iconst 1, 1) := by decide +kernel
theorem dL_law_1547 : decode cL_law 1547 = .ok (.ireturn, 1) := by decide +kernel
