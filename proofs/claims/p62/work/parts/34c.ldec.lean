theorem dk_1170 : decode code 1170 = .ok (.iaload, 1) := by decide +kernel
theorem dk_1171 : decode code 1171 = .ok (.invokevirtual 134, 3) := by decide +kernel
theorem dk_1174 : decode code 1174 = .ok (.pop, 1) := by decide +kernel
theorem dk_1175 : decode code 1175 = .ok (.aload_n 2, 1) := by decide +kernel
theorem dk_1176 : decode code 1176 = .ok (.aload_n 0, 1) := by decide +kernel
theorem dk_1177 : decode code 1177 = .ok (.iload_n 3, 1) := by decide +kernel
theorem dk_1178 : decode code 1178 = .ok (.iconst 1, 1) := by decide +kernel
theorem dk_1179 : decode code 1179 = .ok (.iadd, 1) := by decide +kernel
theorem dk_1180 : decode code 1180 = .ok (.iaload, 1) := by decide +kernel
theorem dk_1181 : decode code 1181 = .ok (.invokevirtual 137, 3) := by decide +kernel
theorem dk_1184 : decode code 1184 = .ok (.pop, 1) := by decide +kernel
theorem dk_1185 : decode code 1185 = .ok (.goto (1238), 3) := by decide +kernel
theorem dk_1188 : decode code 1188 = .ok (.aload_n 1, 1) := by decide +kernel
theorem dk_1189 : decode code 1189 = .ok (.aload_n 0, 1) := by decide +kernel
theorem dk_1190 : decode code 1190 = .ok (.iload_n 3, 1) := by decide +kernel
theorem dk_1191 : decode code 1191 = .ok (.iconst 1, 1) := by decide +kernel
theorem dk_1192 : decode code 1192 = .ok (.iadd, 1) := by decide +kernel
theorem dk_1193 : decode code 1193 = .ok (.iaload, 1) := by decide +kernel
theorem dk_1194 : decode code 1194 = .ok (.aload_n 0, 1) := by decide +kernel
theorem dk_1195 : decode code 1195 = .ok (.iload_n 3, 1) := by decide +kernel
theorem dk_1196 : decode code 1196 = .ok (.iconst 2, 1) := by decide +kernel
theorem dk_1197 : decode code 1197 = .ok (.iadd, 1) := by decide +kernel
theorem dk_1198 : decode code 1198 = .ok (.iaload, 1) := by decide +kernel
theorem dk_1199 : decode code 1199 = .ok (.invokevirtual 138, 3) := by decide +kernel
theorem dk_1202 : decode code 1202 = .ok (.pop, 1) := by decide +kernel
theorem dk_1203 : decode code 1203 = .ok (.aload_n 2, 1) := by decide +kernel
theorem dk_1204 : decode code 1204 = .ok (.aload_n 0, 1) := by decide +kernel
theorem dk_1205 : decode code 1205 = .ok (.iload_n 3, 1) := by decide +kernel
theorem dk_1206 : decode code 1206 = .ok (.iconst 1, 1) := by decide +kernel
theorem dk_1207 : decode code 1207 = .ok (.iadd, 1) := by decide +kernel
theorem dk_1208 : decode code 1208 = .ok (.iaload, 1) := by decide +kernel
theorem dk_1209 : decode code 1209 = .ok (.aload_n 0, 1) := by decide +kernel
theorem dk_1210 : decode code 1210 = .ok (.iload_n 3, 1) := by decide +kernel
theorem dk_1211 : decode code 1211 = .ok (.iconst 2, 1) := by decide +kernel
theorem dk_1212 : decode code 1212 = .ok (.iadd, 1) := by decide +kernel
theorem dk_1213 : decode code 1213 = .ok (.iaload, 1) := by decide +kernel
theorem dk_1214 : decode code 1214 = .ok (.invokevirtual 141, 3) := by decide +kernel
theorem dk_1217 : decode code 1217 = .ok (.pop, 1) := by decide +kernel
theorem dk_1218 : decode code 1218 = .ok (.goto (1205), 3) := by decide +kernel
theorem dk_1221 : decode code 1221 = .ok (.aload_n 1, 1) := by decide +kernel
theorem dk_1222 : decode code 1222 = .ok (.aload_n 0, 1) := by decide +kernel
theorem dk_1223 : decode code 1223 = .ok (.iload_n 3, 1) := by decide +kernel
theorem dk_1224 : decode code 1224 = .ok (.iconst 1, 1) := by decide +kernel
theorem dk_1225 : decode code 1225 = .ok (.iadd, 1) := by decide +kernel
theorem dk_1226 : decode code 1226 = .ok (.iaload, 1) := by decide +kernel
theorem dk_1227 : decode code 1227 = .ok (.aload_n 0, 1) := by decide +kernel
theorem dk_1228 : decode code 1228 = .ok (.iload_n 3, 1) := by decide +kernel
theorem dk_1229 : decode code 1229 = .ok (.iconst 2, 1) := by decide +kernel
theorem dk_1230 : decode code 1230 = .ok (.iadd, 1) := by decide +kernel
theorem dk_1231 : decode code 1231 = .ok (.iaload, 1) := by decide +kernel
theorem dk_1232 : decode code 1232 = .ok (.invokevirtual 142, 3) := by decide +kernel
theorem dk_1235 : decode code 1235 = .ok (.pop, 1) := by decide +kernel
theorem dk_1236 : decode code 1236 = .ok (.aload_n 2, 1) := by decide +kernel
theorem dk_1237 : decode code 1237 = .ok (.aload_n 0, 1) := by decide +kernel
theorem dk_1238 : decode code 1238 = .ok (.iload_n 3, 1) := by decide +kernel
theorem dk_1239 : decode code 1239 = .ok (.iconst 1, 1) := by decide +kernel
theorem dk_1240 : decode code 1240 = .ok (.iadd, 1) := by decide +kernel
theorem dk_1241 : decode code 1241 = .ok (.iaload, 1) := by decide +kernel
theorem dk_1242 : decode code 1242 = .ok (.aload_n 0, 1) := by decide +kernel
theorem dk_1243 : decode code 1243 = .ok (.iload_n 3, 1) := by decide +kernel
theorem dk_1244 : decode code 1244 = .ok (.iconst 2, 1) := by decide +kernel
theorem dk_1245 : decode code 1245 = .ok (.iadd, 1) := by decide +kernel
theorem dk_1246 : decode code 1246 = .ok (.iaload, 1) := by decide +kernel
theorem dk_1247 : decode code 1247 = .ok (.invokevirtual 145, 3) := by decide +kernel
theorem dk_1250 : decode code 1250 = .ok (.pop, 1) := by decide +kernel
theorem dk_1251 : decode code 1251 = .ok (.goto (1172), 3) := by decide +kernel
theorem dk_1254 : decode code 1254 = .ok (.aload_n 1, 1) := by decide +kernel
theorem dk_1255 : decode code 1255 = .ok (.invokevirtual 146, 3) := by decide +kernel
theorem dk_1258 : decode code 1258 = .ok (.pop, 1) := by decide +kernel
theorem dk_1259 : decode code 1259 = .ok (.aload_n 2, 1) := by decide +kernel
theorem dk_1260 : decode code 1260 = .ok (.invokevirtual 149, 3) := by decide +kernel
theorem dk_1263 : decode code 1263 = .ok (.pop, 1) := by decide +kernel
theorem dk_1264 : decode code 1264 = .ok (.goto (1159), 3) := by decide +kernel
theorem dk_1267 : decode code 1267 = .ok (.aload_n 1, 1) := by decide +kernel
theorem dk_1268 : decode code 1268 = .ok (.aload_n 0, 1) := by decide +kernel
theorem dk_1269 : decode code 1269 = .ok (.iload_n 3, 1) := by decide +kernel
theorem dk_1270 : decode code 1270 = .ok (.iconst 1, 1) := by decide +kernel
theorem dk_1271 : decode code 1271 = .ok (.iadd, 1) := by decide +kernel
theorem dk_1272 : decode code 1272 = .ok (.iaload, 1) := by decide +kernel
theorem dk_1273 : decode code 1273 = .ok (.aload_n 0, 1) := by decide +kernel
theorem dk_1274 : decode code 1274 = .ok (.iload_n 3, 1) := by decide +kernel
theorem dk_1275 : decode code 1275 = .ok (.iconst 2, 1) := by decide +kernel
theorem dk_1276 : decode code 1276 = .ok (.iadd, 1) := by decide +kernel
theorem dk_1277 : decode code 1277 = .ok (.iaload, 1) := by decide +kernel
theorem dk_1278 : decode code 1278 = .ok (.invokevirtual 150, 3) := by decide +kernel
theorem dk_1281 : decode code 1281 = .ok (.pop, 1) := by decide +kernel
theorem dk_1282 : decode code 1282 = .ok (.aload_n 2, 1) := by decide +kernel
theorem dk_1283 : decode code 1283 = .ok (.aload_n 0, 1) := by decide +kernel
theorem dk_1284 : decode code 1284 = .ok (.iload_n 3, 1) := by decide +kernel
theorem dk_1285 : decode code 1285 = .ok (.iconst 1, 1) := by decide +kernel
theorem dk_1286 : decode code 1286 = .ok (.iadd, 1) := by decide +kernel
theorem dk_1287 : decode code 1287 = .ok (.iaload, 1) := by decide +kernel
theorem dk_1288 : decode code 1288 = .ok (.aload_n 0, 1) := by decide +kernel
theorem dk_1289 : decode code 1289 = .ok (.iload_n 3, 1) := by decide +kernel
theorem dk_1290 : decode code 1290 = .ok (.iconst 2, 1) := by decide +kernel
theorem dk_1291 : decode code 1291 = .ok (.iadd, 1) := by decide +kernel
theorem dk_1292 : decode code 1292 = .ok (.iaload, 1) := by decide +kernel
theorem dk_1293 : decode code 1293 = .ok (.invokevirtual 153, 3) := by decide +kernel
theorem dk_1296 : decode code 1296 = .ok (.pop, 1) := by decide +kernel
theorem dk_1297 : decode code 1297 = .ok (.goto (1126), 3) := by decide +kernel
theorem dk_1300 : decode code 1300 = .ok (.aload_n 1, 1) := by decide +kernel
theorem dk_1301 : decode code 1301 = .ok (.aload_n 0, 1) := by decide +kernel
theorem dk_1302 : decode code 1302 = .ok (.iload_n 3, 1) := by decide +kernel
theorem dk_1303 : decode code 1303 = .ok (.iconst 1, 1) := by decide +kernel
theorem dk_1304 : decode code 1304 = .ok (.iadd, 1) := by decide +kernel
theorem dk_1305 : decode code 1305 = .ok (.iaload, 1) := by decide +kernel
theorem dk_1306 : decode code 1306 = .ok (.aload_n 0, 1) := by decide +kernel
theorem dk_1307 : decode code 1307 = .ok (.iload_n 3, 1) := by decide +kernel
theorem dk_1308 : decode code 1308 = .ok (.iconst 2, 1) := by decide +kernel
theorem dk_1309 : decode code 1309 = .ok (.iadd, 1) := by decide +kernel
theorem dk_1310 : decode code 1310 = .ok (.iaload, 1) := by decide +kernel
theorem dk_1311 : decode code 1311 = .ok (.invokevirtual 154, 3) := by decide +kernel
theorem dk_1314 : decode code 1314 = .ok (.pop, 1) := by decide +kernel
theorem dk_1315 : decode code 1315 = .ok (.aload_n 2, 1) := by decide +kernel
theorem dk_1316 : decode code 1316 = .ok (.aload_n 0, 1) := by decide +kernel
theorem dk_1317 : decode code 1317 = .ok (.iload_n 3, 1) := by decide +kernel
theorem dk_1318 : decode code 1318 = .ok (.iconst 1, 1) := by decide +kernel
theorem dk_1319 : decode code 1319 = .ok (.iadd, 1) := by decide +kernel
theorem dk_1320 : decode code 1320 = .ok (.iaload, 1) := by decide +kernel
theorem dk_1321 : decode code 1321 = .ok (.aload_n 0, 1) := by decide +kernel
theorem dk_1322 : decode code 1322 = .ok (.iload_n 3, 1) := by decide +kernel
theorem dk_1323 : decode code 1323 = .ok (.iconst 2, 1) := by decide +kernel
theorem dk_1324 : decode code 1324 = .ok (.iadd, 1) := by decide +kernel
theorem dk_1325 : decode code 1325 = .ok (.iaload, 1) := by decide +kernel
theorem dk_1326 : decode code 1326 = .ok (.invokevirtual 157, 3) := by decide +kernel
theorem dk_1329 : decode code 1329 = .ok (.pop, 1) := by decide +kernel
theorem dk_1330 : decode code 1330 = .ok (.goto (1093), 3) := by decide +kernel
theorem dk_1333 : decode code 1333 = .ok (.aload_n 1, 1) := by decide +kernel
theorem dk_1334 : decode code 1334 = .ok (.aload_n 0, 1) := by decide +kernel
theorem dk_1335 : decode code 1335 = .ok (.iload_n 3, 1) := by decide +kernel
theorem dk_1336 : decode code 1336 = .ok (.iconst 1, 1) := by decide +kernel
theorem dk_1337 : decode code 1337 = .ok (.iadd, 1) := by decide +kernel
theorem dk_1338 : decode code 1338 = .ok (.iaload, 1) := by decide +kernel
theorem dk_1339 : decode code 1339 = .ok (.aload_n 0, 1) := by decide +kernel
theorem dk_1340 : decode code 1340 = .ok (.iload_n 3, 1) := by decide +kernel
theorem dk_1341 : decode code 1341 = .ok (.iconst 2, 1) := by decide +kernel
theorem dk_1342 : decode code 1342 = .ok (.iadd, 1) := by decide +kernel
theorem dk_1343 : decode code 1343 = .ok (.iaload, 1) := by decide +kernel
theorem dk_1344 : decode code 1344 = .ok (.invokevirtual 158, 3) := by decide +kernel
theorem dk_1347 : decode code 1347 = .ok (.pop, 1) := by decide +kernel
theorem dk_1348 : decode code 1348 = .ok (.aload_n 2, 1) := by decide +kernel
theorem dk_1349 : decode code 1349 = .ok (.aload_n 0, 1) := by decide +kernel
theorem dk_1350 : decode code 1350 = .ok (.iload_n 3, 1) := by decide +kernel
theorem dk_1351 : decode code 1351 = .ok (.iconst 1, 1) := by decide +kernel
theorem dk_1352 : decode code 1352 = .ok (.iadd, 1) := by decide +kernel
theorem dk_1353 : decode code 1353 = .ok (.iaload, 1) := by decide +kernel
theorem dk_1354 : decode code 1354 = .ok (.aload_n 0, 1) := by decide +kernel
theorem dk_1355 : decode code 1355 = .ok (.iload_n 3, 1) := by decide +kernel
theorem dk_1356 : decode code 1356 = .ok (.iconst 2, 1) := by decide +kernel
theorem dk_1357 : decode code 1357 = .ok (.iadd, 1) := by decide +kernel
theorem dk_1358 : decode code 1358 = .ok (.iaload, 1) := by decide +kernel
theorem dk_1359 : decode code 1359 = .ok (.invokevirtual 161, 3) := by decide +kernel
theorem dk_1362 : decode code 1362 = .ok (.pop, 1) := by decide +kernel
theorem dk_1363 : decode code 1363 = .ok (.goto (1060), 3) := by decide +kernel
theorem dk_1366 : decode code 1366 = .ok (.aload_n 1, 1) := by decide +kernel
theorem dk_1367 : decode code 1367 = .ok (.aload_n 0, 1) := by decide +kernel
theorem dk_1368 : decode code 1368 = .ok (.iload_n 3, 1) := by decide +kernel
theorem dk_1369 : decode code 1369 = .ok (.iconst 1, 1) := by decide +kernel
theorem dk_1370 : decode code 1370 = .ok (.iadd, 1) := by decide +kernel
theorem dk_1371 : decode code 1371 = .ok (.iaload, 1) := by decide +kernel
theorem dk_1372 : decode code 1372 = .ok (.aload_n 0, 1) := by decide +kernel
theorem dk_1373 : decode code 1373 = .ok (.iload_n 3, 1) := by decide +kernel
theorem dk_1374 : decode code 1374 = .ok (.iconst 2, 1) := by decide +kernel
theorem dk_1375 : decode code 1375 = .ok (.iadd, 1) := by decide +kernel
theorem dk_1376 : decode code 1376 = .ok (.iaload, 1) := by decide +kernel
theorem dk_1377 : decode code 1377 = .ok (.invokevirtual 162, 3) := by decide +kernel
theorem dk_1380 : decode code 1380 = .ok (.pop, 1) := by decide +kernel
theorem dk_1381 : decode code 1381 = .ok (.aload_n 2, 1) := by decide +kernel
theorem dk_1382 : decode code 1382 = .ok (.aload_n 0, 1) := by decide +kernel
theorem dk_1383 : decode code 1383 = .ok (.iload_n 3, 1) := by decide +kernel
theorem dk_1384 : decode code 1384 = .ok (.iconst 1, 1) := by decide +kernel
theorem dk_1385 : decode code 1385 = .ok (.iadd, 1) := by decide +kernel
theorem dk_1386 : decode code 1386 = .ok (.iaload, 1) := by decide +kernel
theorem dk_1387 : decode code 1387 = .ok (.aload_n 0, 1) := by decide +kernel
theorem dk_1388 : decode code 1388 = .ok (.iload_n 3, 1) := by decide +kernel
theorem dk_1389 : decode code 1389 = .ok (.iconst 2, 1) := by decide +kernel
theorem dk_1390 : decode code 1390 = .ok (.iadd, 1) := by decide +kernel
theorem dk_1391 : decode code 1391 = .ok (.iaload, 1) := by decide +kernel
theorem dk_1392 : decode code 1392 = .ok (.invokevirtual 165, 3) := by decide +kernel
theorem dk_1395 : decode code 1395 = .ok (.pop, 1) := by decide +kernel
theorem dk_1396 : decode code 1396 = .ok (.goto (1027), 3) := by decide +kernel
theorem dk_1399 : decode code 1399 = .ok (.aload_n 1, 1) := by decide +kernel
theorem dk_1400 : decode code 1400 = .ok (.aload_n 0, 1) := by decide +kernel
theorem dk_1401 : decode code 1401 = .ok (.iload_n 3, 1) := by decide +kernel
theorem dk_1402 : decode code 1402 = .ok (.iconst 1, 1) := by decide +kernel
theorem dk_1403 : decode code 1403 = .ok (.iadd, 1) := by decide +kernel
theorem dk_1404 : decode code 1404 = .ok (.iaload, 1) := by decide +kernel
theorem dk_1405 : decode code 1405 = .ok (.aload_n 0, 1) := by decide +kernel
theorem dk_1406 : decode code 1406 = .ok (.iload_n 3, 1) := by decide +kernel
theorem dk_1407 : decode code 1407 = .ok (.iconst 2, 1) := by decide +kernel
theorem dk_1408 : decode code 1408 = .ok (.iadd, 1) := by decide +kernel
theorem dk_1409 : decode code 1409 = .ok (.iaload, 1) := by decide +kernel
theorem dk_1410 : decode code 1410 = .ok (.aload_n 0, 1) := by decide +kernel
theorem dk_1411 : decode code 1411 = .ok (.iload_n 3, 1) := by decide +kernel
theorem dk_1412 : decode code 1412 = .ok (.iconst 3, 1) := by decide +kernel
theorem dk_1413 : decode code 1413 = .ok (.iadd, 1) := by decide +kernel
theorem dk_1414 : decode code 1414 = .ok (.iaload, 1) := by decide +kernel
theorem dk_1415 : decode code 1415 = .ok (.aload_n 0, 1) := by decide +kernel
theorem dk_1416 : decode code 1416 = .ok (.iload_n 3, 1) := by decide +kernel
theorem dk_1417 : decode code 1417 = .ok (.iconst 4, 1) := by decide +kernel
theorem dk_1418 : decode code 1418 = .ok (.iadd, 1) := by decide +kernel
theorem dk_1419 : decode code 1419 = .ok (.iaload, 1) := by decide +kernel
theorem dk_1420 : decode code 1420 = .ok (.invokevirtual 166, 3) := by decide +kernel
theorem dk_1423 : decode code 1423 = .ok (.pop, 1) := by decide +kernel
theorem dk_1424 : decode code 1424 = .ok (.aload_n 2, 1) := by decide +kernel
theorem dk_1425 : decode code 1425 = .ok (.aload_n 0, 1) := by decide +kernel
theorem dk_1426 : decode code 1426 = .ok (.iload_n 3, 1) := by decide +kernel
theorem dk_1427 : decode code 1427 = .ok (.iconst 1, 1) := by decide +kernel
theorem dk_1428 : decode code 1428 = .ok (.iadd, 1) := by decide +kernel
theorem dk_1429 : decode code 1429 = .ok (.iaload, 1) := by decide +kernel
theorem dk_1430 : decode code 1430 = .ok (.aload_n 0, 1) := by decide +kernel
theorem dk_1431 : decode code 1431 = .ok (.iload_n 3, 1) := by decide +kernel
theorem dk_1432 : decode code 1432 = .ok (.iconst 2, 1) := by decide +kernel
theorem dk_1433 : decode code 1433 = .ok (.iadd, 1) := by decide +kernel
theorem dk_1434 : decode code 1434 = .ok (.iaload, 1) := by decide +kernel
theorem dk_1435 : decode code 1435 = .ok (.aload_n 0, 1) := by decide +kernel
theorem dk_1436 : decode code 1436 = .ok (.iload_n 3, 1) := by decide +kernel
theorem dk_1437 : decode code 1437 = .ok (.iconst 3, 1) := by decide +kernel
theorem dk_1438 : decode code 1438 = .ok (.iadd, 1) := by decide +kernel
theorem dk_1439 : decode code 1439 = .ok (.iaload, 1) := by decide +kernel
theorem dk_1440 : decode code 1440 = .ok (.aload_n 0, 1) := by decide +kernel
theorem dk_1441 : decode code 1441 = .ok (.iload_n 3, 1) := by decide +kernel
theorem dk_1442 : decode code 1442 = .ok (.iconst 4, 1) := by decide +kernel
theorem dk_1443 : decode code 1443 = .ok (.iadd, 1) := by decide +kernel
theorem dk_1444 : decode code 1444 = .ok (.iaload, 1) := by decide +kernel
theorem dk_1445 : decode code 1445 = .ok (.invokevirtual 170, 3) := by decide +kernel
theorem dk_1448 : decode code 1448 = .ok (.pop, 1) := by decide +kernel
theorem dk_1449 : decode code 1449 = .ok (.goto (974), 3) := by decide +kernel
theorem dk_1452 : decode code 1452 = .ok (.aload_n 1, 1) := by decide +kernel
theorem dk_1453 : decode code 1453 = .ok (.invokevirtual 171, 3) := by decide +kernel
theorem dk_1456 : decode code 1456 = .ok (.pop, 1) := by decide +kernel
theorem dk_1457 : decode code 1457 = .ok (.aload_n 2, 1) := by decide +kernel
theorem dk_1458 : decode code 1458 = .ok (.invokevirtual 174, 3) := by decide +kernel
theorem dk_1461 : decode code 1461 = .ok (.pop, 1) := by decide +kernel
theorem dk_1462 : decode code 1462 = .ok (.goto (961), 3) := by decide +kernel
theorem dk_1465 : decode code 1465 = .ok (.aload_n 1, 1) := by decide +kernel
theorem dk_1466 : decode code 1466 = .ok (.aload_n 0, 1) := by decide +kernel
theorem dk_1467 : decode code 1467 = .ok (.iload_n 3, 1) := by decide +kernel
theorem dk_1468 : decode code 1468 = .ok (.iconst 1, 1) := by decide +kernel
theorem dk_1469 : decode code 1469 = .ok (.iadd, 1) := by decide +kernel
theorem dk_1470 : decode code 1470 = .ok (.iaload, 1) := by decide +kernel
theorem dk_1471 : decode code 1471 = .ok (.aload_n 0, 1) := by decide +kernel
theorem dk_1472 : decode code 1472 = .ok (.iload_n 3, 1) := by decide +kernel
theorem dk_1473 : decode code 1473 = .ok (.iconst 2, 1) := by decide +kernel
theorem dk_1474 : decode code 1474 = .ok (.iadd, 1) := by decide +kernel
theorem dk_1475 : decode code 1475 = .ok (.iaload, 1) := by decide +kernel
theorem dk_1476 : decode code 1476 = .ok (.aload_n 0, 1) := by decide +kernel
theorem dk_1477 : decode code 1477 = .ok (.iload_n 3, 1) := by decide +kernel
theorem dk_1478 : decode code 1478 = .ok (.iconst 3, 1) := by decide +kernel
theorem dk_1479 : decode code 1479 = .ok (.iadd, 1) := by decide +kernel
theorem dk_1480 : decode code 1480 = .ok (.iaload, 1) := by decide +kernel
theorem dk_1481 : decode code 1481 = .ok (.invokevirtual 175, 3) := by decide +kernel
theorem dk_1484 : decode code 1484 = .ok (.pop, 1) := by decide +kernel
theorem dk_1485 : decode code 1485 = .ok (.aload_n 2, 1) := by decide +kernel
theorem dk_1486 : decode code 1486 = .ok (.aload_n 0, 1) := by decide +kernel
theorem dk_1487 : decode code 1487 = .ok (.iload_n 3, 1) := by decide +kernel
theorem dk_1488 : decode code 1488 = .ok (.iconst 1, 1) := by decide +kernel
theorem dk_1489 : decode code 1489 = .ok (.iadd, 1) := by decide +kernel
theorem dk_1490 : decode code 1490 = .ok (.iaload, 1) := by decide +kernel
theorem dk_1491 : decode code 1491 = .ok (.aload_n 0, 1) := by decide +kernel
theorem dk_1492 : decode code 1492 = .ok (.iload_n 3, 1) := by decide +kernel
theorem dk_1493 : decode code 1493 = .ok (.iconst 2, 1) := by decide +kernel
theorem dk_1494 : decode code 1494 = .ok (.iadd, 1) := by decide +kernel
theorem dk_1495 : decode code 1495 = .ok (.iaload, 1) := by decide +kernel
theorem dk_1496 : decode code 1496 = .ok (.aload_n 0, 1) := by decide +kernel
theorem dk_1497 : decode code 1497 = .ok (.iload_n 3, 1) := by decide +kernel
theorem dk_1498 : decode code 1498 = .ok (.iconst 3, 1) := by decide +kernel
theorem dk_1499 : decode code 1499 = .ok (.iadd, 1) := by decide +kernel
theorem dk_1500 : decode code 1500 = .ok (.iaload, 1) := by decide +kernel
theorem dk_1501 : decode code 1501 = .ok (.invokevirtual 178, 3) := by decide +kernel
theorem dk_1504 : decode code 1504 = .ok (.pop, 1) := by decide +kernel
theorem dk_1505 : decode code 1505 = .ok (.goto (918), 3) := by decide +kernel
theorem dk_1508 : decode code 1508 = .ok (.aload_n 1, 1) := by decide +kernel
theorem dk_1509 : decode code 1509 = .ok (.aload_n 0, 1) := by decide +kernel
theorem dk_1510 : decode code 1510 = .ok (.iload_n 3, 1) := by decide +kernel
theorem dk_1511 : decode code 1511 = .ok (.iconst 1, 1) := by decide +kernel
theorem dk_1512 : decode code 1512 = .ok (.iadd, 1) := by decide +kernel
theorem dk_1513 : decode code 1513 = .ok (.iaload, 1) := by decide +kernel
theorem dk_1514 : decode code 1514 = .ok (.aload_n 0, 1) := by decide +kernel
theorem dk_1515 : decode code 1515 = .ok (.iload_n 3, 1) := by decide +kernel
theorem dk_1516 : decode code 1516 = .ok (.iconst 2, 1) := by decide +kernel
theorem dk_1517 : decode code 1517 = .ok (.iadd, 1) := by decide +kernel
theorem dk_1518 : decode code 1518 = .ok (.iaload, 1) := by decide +kernel
theorem dk_1519 : decode code 1519 = .ok (.aload_n 0, 1) := by decide +kernel
theorem dk_1520 : decode code 1520 = .ok (.iload_n 3, 1) := by decide +kernel
theorem dk_1521 : decode code 1521 = .ok (.iconst 3, 1) := by decide +kernel
theorem dk_1522 : decode code 1522 = .ok (.iadd, 1) := by decide +kernel
theorem dk_1523 : decode code 1523 = .ok (.iaload, 1) := by decide +kernel
theorem dk_1524 : decode code 1524 = .ok (.invokevirtual 179, 3) := by decide +kernel
theorem dk_1527 : decode code 1527 = .ok (.pop, 1) := by decide +kernel
theorem dk_1528 : decode code 1528 = .ok (.aload_n 2, 1) := by decide +kernel
theorem dk_1529 : decode code 1529 = .ok (.aload_n 0, 1) := by decide +kernel
theorem dk_1530 : decode code 1530 = .ok (.iload_n 3, 1) := by decide +kernel
theorem dk_1531 : decode code 1531 = .ok (.iconst 1, 1) := by decide +kernel
theorem dk_1532 : decode code 1532 = .ok (.iadd, 1) := by decide +kernel
theorem dk_1533 : decode code 1533 = .ok (.iaload, 1) := by decide +kernel
theorem dk_1534 : decode code 1534 = .ok (.aload_n 0, 1) := by decide +kernel
theorem dk_1535 : decode code 1535 = .ok (.iload_n 3, 1) := by decide +kernel
theorem dk_1536 : decode code 1536 = .ok (.iconst 2, 1) := by decide +kernel
theorem dk_1537 : decode code 1537 = .ok (.iadd, 1) := by decide +kernel
theorem dk_1538 : decode code 1538 = .ok (.iaload, 1) := by decide +kernel
theorem dk_1539 : decode code 1539 = .ok (.aload_n 0, 1) := by decide +kernel
theorem dk_1540 : decode code 1540 = .ok (.iload_n 3, 1) := by decide +kernel
theorem dk_1541 : decode code 1541 = .ok (.iconst 3, 1) := by decide +kernel
theorem dk_1542 : decode code 1542 = .ok (.iadd, 1) := by decide +kernel
theorem dk_1543 : decode code 1543 = .ok (.iaload, 1) := by decide +kernel
theorem dk_1544 : decode code 1544 = .ok (.invokevirtual 182, 3) := by decide +kernel
theorem dk_1547 : decode code 1547 = .ok (.pop, 1) := by decide +kernel
theorem dk_1548 : decode code 1548 = .ok (.goto (875), 3) := by decide +kernel
theorem dk_1551 : decode code 1551 = .ok (.aload_n 1, 1) := by decide +kernel
theorem dk_1552 : decode code 1552 = .ok (.aload_n 0, 1) := by decide +kernel
theorem dk_1553 : decode code 1553 = .ok (.iload_n 3, 1) := by decide +kernel
theorem dk_1554 : decode code 1554 = .ok (.iconst 1, 1) := by decide +kernel
theorem dk_1555 : decode code 1555 = .ok (.iadd, 1) := by decide +kernel
theorem dk_1556 : decode code 1556 = .ok (.iaload, 1) := by decide +kernel
theorem dk_1557 : decode code 1557 = .ok (.aload_n 0, 1) := by decide +kernel
theorem dk_1558 : decode code 1558 = .ok (.iload_n 3, 1) := by decide +kernel
theorem dk_1559 : decode code 1559 = .ok (.iconst 2, 1) := by decide +kernel
theorem dk_1560 : decode code 1560 = .ok (.iadd, 1) := by decide +kernel
theorem dk_1561 : decode code 1561 = .ok (.iaload, 1) := by decide +kernel
theorem dk_1562 : decode code 1562 = .ok (.invokevirtual 183, 3) := by decide +kernel
theorem dk_1565 : decode code 1565 = .ok (.pop, 1) := by decide +kernel
theorem dk_1566 : decode code 1566 = .ok (.aload_n 2, 1) := by decide +kernel
theorem dk_1567 : decode code 1567 = .ok (.aload_n 0, 1) := by decide +kernel
theorem dk_1568 : decode code 1568 = .ok (.iload_n 3, 1) := by decide +kernel
theorem dk_1569 : decode code 1569 = .ok (.iconst 1, 1) := by decide +kernel
theorem dk_1570 : decode code 1570 = .ok (.iadd, 1) := by decide +kernel
theorem dk_1571 : decode code 1571 = .ok (.iaload, 1) := by decide +kernel
theorem dk_1572 : decode code 1572 = .ok (.aload_n 0, 1) := by decide +kernel
theorem dk_1573 : decode code 1573 = .ok (.iload_n 3, 1) := by decide +kernel
theorem dk_1574 : decode code 1574 = .ok (.iconst 2, 1) := by decide +kernel
theorem dk_1575 : decode code 1575 = .ok (.iadd, 1) := by decide +kernel
theorem dk_1576 : decode code 1576 = .ok (.iaload, 1) := by decide +kernel
theorem dk_1577 : decode code 1577 = .ok (.invokevirtual 186, 3) := by decide +kernel
theorem dk_1580 : decode code 1580 = .ok (.pop, 1) := by decide +kernel
theorem dk_1581 : decode code 1581 = .ok (.goto (842), 3) := by decide +kernel
theorem dk_1584 : decode code 1584 = .ok (.aload_n 1, 1) := by decide +kernel
theorem dk_1585 : decode code 1585 = .ok (.aload_n 0, 1) := by decide +kernel
theorem dk_1586 : decode code 1586 = .ok (.iload_n 3, 1) := by decide +kernel
theorem dk_1587 : decode code 1587 = .ok (.iconst 1, 1) := by decide +kernel
theorem dk_1588 : decode code 1588 = .ok (.iadd, 1) := by decide +kernel
theorem dk_1589 : decode code 1589 = .ok (.iaload, 1) := by decide +kernel
theorem dk_1590 : decode code 1590 = .ok (.aload_n 0, 1) := by decide +kernel
theorem dk_1591 : decode code 1591 = .ok (.iload_n 3, 1) := by decide +kernel
