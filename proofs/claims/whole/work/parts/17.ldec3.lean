theorem dLw_main_1186 : decode code 1186 = .ok (.invokevirtual 101, 3) := by decide +kernel
theorem dLw_main_1189 : decode code 1189 = .ok (.iload 5, 2) := by decide +kernel
theorem dLw_main_1191 : decode code 1191 = .ok (.if_icmp .eq (5), 3) := by decide +kernel
theorem dLw_main_1194 : decode code 1194 = .ok (.iconst 0, 1) := by decide +kernel
theorem dLw_main_1195 : decode code 1195 = .ok (.ireturn, 1) := by decide +kernel
theorem dLw_main_1196 : decode code 1196 = .ok (.iload 5, 2) := by decide +kernel
theorem dLw_main_1198 : decode code 1198 = .ok (.ifCond .ne (15), 3) := by decide +kernel
theorem dLw_main_1201 : decode code 1201 = .ok (.aload_n 3, 1) := by decide +kernel
theorem dLw_main_1202 : decode code 1202 = .ok (.iconst 0, 1) := by decide +kernel
theorem dLw_main_1203 : decode code 1203 = .ok (.laload, 1) := by decide +kernel
theorem dLw_main_1204 : decode code 1204 = .ok (.iload 6, 2) := by decide +kernel
theorem dLw_main_1206 : decode code 1206 = .ok (.i2l, 1) := by decide +kernel
theorem dLw_main_1207 : decode code 1207 = .ok (.lcmp, 1) := by decide +kernel
theorem dLw_main_1208 : decode code 1208 = .ok (.ifCond .eq (5), 3) := by decide +kernel
theorem dLw_main_1211 : decode code 1211 = .ok (.iconst 0, 1) := by decide +kernel
theorem dLw_main_1212 : decode code 1212 = .ok (.ireturn, 1) := by decide +kernel
theorem dLw_main_1213 : decode code 1213 = .ok (.goto (483), 3) := by decide +kernel
theorem dLw_main_1216 : decode code 1216 = .ok (.aload_n 1, 1) := by decide +kernel
theorem dLw_main_1217 : decode code 1217 = .ok (.aload_n 0, 1) := by decide +kernel
theorem dLw_main_1218 : decode code 1218 = .ok (.iload 4, 2) := by decide +kernel
theorem dLw_main_1220 : decode code 1220 = .ok (.iconst 1, 1) := by decide +kernel
theorem dLw_main_1221 : decode code 1221 = .ok (.iadd, 1) := by decide +kernel
theorem dLw_main_1222 : decode code 1222 = .ok (.iaload, 1) := by decide +kernel
theorem dLw_main_1223 : decode code 1223 = .ok (.aload_n 0, 1) := by decide +kernel
theorem dLw_main_1224 : decode code 1224 = .ok (.iload 4, 2) := by decide +kernel
theorem dLw_main_1226 : decode code 1226 = .ok (.iconst 2, 1) := by decide +kernel
theorem dLw_main_1227 : decode code 1227 = .ok (.iadd, 1) := by decide +kernel
theorem dLw_main_1228 : decode code 1228 = .ok (.iaload, 1) := by decide +kernel
theorem dLw_main_1229 : decode code 1229 = .ok (.aload_n 3, 1) := by decide +kernel
theorem dLw_main_1230 : decode code 1230 = .ok (.invokestatic 156, 3) := by decide +kernel
theorem dLw_main_1233 : decode code 1233 = .ok (.istore 5, 2) := by decide +kernel
theorem dLw_main_1235 : decode code 1235 = .ok (.aload_n 2, 1) := by decide +kernel
theorem dLw_main_1236 : decode code 1236 = .ok (.aload_n 0, 1) := by decide +kernel
theorem dLw_main_1237 : decode code 1237 = .ok (.iload 4, 2) := by decide +kernel
theorem dLw_main_1239 : decode code 1239 = .ok (.iconst 1, 1) := by decide +kernel
theorem dLw_main_1240 : decode code 1240 = .ok (.iadd, 1) := by decide +kernel
theorem dLw_main_1241 : decode code 1241 = .ok (.iaload, 1) := by decide +kernel
theorem dLw_main_1242 : decode code 1242 = .ok (.aload_n 0, 1) := by decide +kernel
theorem dLw_main_1243 : decode code 1243 = .ok (.iload 4, 2) := by decide +kernel
theorem dLw_main_1245 : decode code 1245 = .ok (.iconst 2, 1) := by decide +kernel
theorem dLw_main_1246 : decode code 1246 = .ok (.iadd, 1) := by decide +kernel
theorem dLw_main_1247 : decode code 1247 = .ok (.iaload, 1) := by decide +kernel
theorem dLw_main_1248 : decode code 1248 = .ok (.invokevirtual 158, 3) := by decide +kernel
theorem dLw_main_1251 : decode code 1251 = .ok (.istore 6, 2) := by decide +kernel
theorem dLw_main_1253 : decode code 1253 = .ok (.aload_n 2, 1) := by decide +kernel
theorem dLw_main_1254 : decode code 1254 = .ok (.invokevirtual 101, 3) := by decide +kernel
theorem dLw_main_1257 : decode code 1257 = .ok (.iload 5, 2) := by decide +kernel
theorem dLw_main_1259 : decode code 1259 = .ok (.if_icmp .eq (5), 3) := by decide +kernel
theorem dLw_main_1262 : decode code 1262 = .ok (.iconst 0, 1) := by decide +kernel
theorem dLw_main_1263 : decode code 1263 = .ok (.ireturn, 1) := by decide +kernel
theorem dLw_main_1264 : decode code 1264 = .ok (.iload 5, 2) := by decide +kernel
theorem dLw_main_1266 : decode code 1266 = .ok (.ifCond .ne (15), 3) := by decide +kernel
theorem dLw_main_1269 : decode code 1269 = .ok (.aload_n 3, 1) := by decide +kernel
theorem dLw_main_1270 : decode code 1270 = .ok (.iconst 0, 1) := by decide +kernel
theorem dLw_main_1271 : decode code 1271 = .ok (.laload, 1) := by decide +kernel
theorem dLw_main_1272 : decode code 1272 = .ok (.iload 6, 2) := by decide +kernel
theorem dLw_main_1274 : decode code 1274 = .ok (.i2l, 1) := by decide +kernel
theorem dLw_main_1275 : decode code 1275 = .ok (.lcmp, 1) := by decide +kernel
theorem dLw_main_1276 : decode code 1276 = .ok (.ifCond .eq (5), 3) := by decide +kernel
theorem dLw_main_1279 : decode code 1279 = .ok (.iconst 0, 1) := by decide +kernel
theorem dLw_main_1280 : decode code 1280 = .ok (.ireturn, 1) := by decide +kernel
theorem dLw_main_1281 : decode code 1281 = .ok (.goto (415), 3) := by decide +kernel
theorem dLw_main_1284 : decode code 1284 = .ok (.aload_n 1, 1) := by decide +kernel
theorem dLw_main_1285 : decode code 1285 = .ok (.aload_n 0, 1) := by decide +kernel
theorem dLw_main_1286 : decode code 1286 = .ok (.iload 4, 2) := by decide +kernel
theorem dLw_main_1288 : decode code 1288 = .ok (.iconst 1, 1) := by decide +kernel
theorem dLw_main_1289 : decode code 1289 = .ok (.iadd, 1) := by decide +kernel
theorem dLw_main_1290 : decode code 1290 = .ok (.iaload, 1) := by decide +kernel
theorem dLw_main_1291 : decode code 1291 = .ok (.aload_n 0, 1) := by decide +kernel
theorem dLw_main_1292 : decode code 1292 = .ok (.iload 4, 2) := by decide +kernel
theorem dLw_main_1294 : decode code 1294 = .ok (.iconst 2, 1) := by decide +kernel
theorem dLw_main_1295 : decode code 1295 = .ok (.iadd, 1) := by decide +kernel
theorem dLw_main_1296 : decode code 1296 = .ok (.iaload, 1) := by decide +kernel
theorem dLw_main_1297 : decode code 1297 = .ok (.aload_n 0, 1) := by decide +kernel
theorem dLw_main_1298 : decode code 1298 = .ok (.iload 4, 2) := by decide +kernel
theorem dLw_main_1300 : decode code 1300 = .ok (.iconst 3, 1) := by decide +kernel
theorem dLw_main_1301 : decode code 1301 = .ok (.iadd, 1) := by decide +kernel
theorem dLw_main_1302 : decode code 1302 = .ok (.iaload, 1) := by decide +kernel
theorem dLw_main_1303 : decode code 1303 = .ok (.aload_n 3, 1) := by decide +kernel
theorem dLw_main_1304 : decode code 1304 = .ok (.invokestatic 159, 3) := by decide +kernel
theorem dLw_main_1307 : decode code 1307 = .ok (.istore 5, 2) := by decide +kernel
theorem dLw_main_1309 : decode code 1309 = .ok (.aload_n 2, 1) := by decide +kernel
theorem dLw_main_1310 : decode code 1310 = .ok (.aload_n 0, 1) := by decide +kernel
theorem dLw_main_1311 : decode code 1311 = .ok (.iload 4, 2) := by decide +kernel
theorem dLw_main_1313 : decode code 1313 = .ok (.iconst 1, 1) := by decide +kernel
theorem dLw_main_1314 : decode code 1314 = .ok (.iadd, 1) := by decide +kernel
theorem dLw_main_1315 : decode code 1315 = .ok (.iaload, 1) := by decide +kernel
theorem dLw_main_1316 : decode code 1316 = .ok (.aload_n 0, 1) := by decide +kernel
theorem dLw_main_1317 : decode code 1317 = .ok (.iload 4, 2) := by decide +kernel
theorem dLw_main_1319 : decode code 1319 = .ok (.iconst 2, 1) := by decide +kernel
theorem dLw_main_1320 : decode code 1320 = .ok (.iadd, 1) := by decide +kernel
theorem dLw_main_1321 : decode code 1321 = .ok (.iaload, 1) := by decide +kernel
theorem dLw_main_1322 : decode code 1322 = .ok (.aload_n 0, 1) := by decide +kernel
theorem dLw_main_1323 : decode code 1323 = .ok (.iload 4, 2) := by decide +kernel
theorem dLw_main_1325 : decode code 1325 = .ok (.iconst 3, 1) := by decide +kernel
theorem dLw_main_1326 : decode code 1326 = .ok (.iadd, 1) := by decide +kernel
theorem dLw_main_1327 : decode code 1327 = .ok (.iaload, 1) := by decide +kernel
theorem dLw_main_1328 : decode code 1328 = .ok (.invokevirtual 161, 3) := by decide +kernel
theorem dLw_main_1331 : decode code 1331 = .ok (.istore 6, 2) := by decide +kernel
theorem dLw_main_1333 : decode code 1333 = .ok (.aload_n 2, 1) := by decide +kernel
theorem dLw_main_1334 : decode code 1334 = .ok (.invokevirtual 101, 3) := by decide +kernel
theorem dLw_main_1337 : decode code 1337 = .ok (.iload 5, 2) := by decide +kernel
theorem dLw_main_1339 : decode code 1339 = .ok (.if_icmp .eq (5), 3) := by decide +kernel
theorem dLw_main_1342 : decode code 1342 = .ok (.iconst 0, 1) := by decide +kernel
theorem dLw_main_1343 : decode code 1343 = .ok (.ireturn, 1) := by decide +kernel
theorem dLw_main_1344 : decode code 1344 = .ok (.iload 5, 2) := by decide +kernel
theorem dLw_main_1346 : decode code 1346 = .ok (.ifCond .ne (15), 3) := by decide +kernel
theorem dLw_main_1349 : decode code 1349 = .ok (.aload_n 3, 1) := by decide +kernel
theorem dLw_main_1350 : decode code 1350 = .ok (.iconst 0, 1) := by decide +kernel
theorem dLw_main_1351 : decode code 1351 = .ok (.laload, 1) := by decide +kernel
theorem dLw_main_1352 : decode code 1352 = .ok (.iload 6, 2) := by decide +kernel
theorem dLw_main_1354 : decode code 1354 = .ok (.i2l, 1) := by decide +kernel
theorem dLw_main_1355 : decode code 1355 = .ok (.lcmp, 1) := by decide +kernel
theorem dLw_main_1356 : decode code 1356 = .ok (.ifCond .eq (5), 3) := by decide +kernel
theorem dLw_main_1359 : decode code 1359 = .ok (.iconst 0, 1) := by decide +kernel
theorem dLw_main_1360 : decode code 1360 = .ok (.ireturn, 1) := by decide +kernel
theorem dLw_main_1361 : decode code 1361 = .ok (.goto (335), 3) := by decide +kernel
theorem dLw_main_1364 : decode code 1364 = .ok (.aload_n 1, 1) := by decide +kernel
theorem dLw_main_1365 : decode code 1365 = .ok (.aload_n 0, 1) := by decide +kernel
theorem dLw_main_1366 : decode code 1366 = .ok (.iload 4, 2) := by decide +kernel
theorem dLw_main_1368 : decode code 1368 = .ok (.iconst 1, 1) := by decide +kernel
theorem dLw_main_1369 : decode code 1369 = .ok (.iadd, 1) := by decide +kernel
theorem dLw_main_1370 : decode code 1370 = .ok (.iaload, 1) := by decide +kernel
theorem dLw_main_1371 : decode code 1371 = .ok (.aload_n 0, 1) := by decide +kernel
theorem dLw_main_1372 : decode code 1372 = .ok (.iload 4, 2) := by decide +kernel
theorem dLw_main_1374 : decode code 1374 = .ok (.iconst 2, 1) := by decide +kernel
theorem dLw_main_1375 : decode code 1375 = .ok (.iadd, 1) := by decide +kernel
theorem dLw_main_1376 : decode code 1376 = .ok (.iaload, 1) := by decide +kernel
theorem dLw_main_1377 : decode code 1377 = .ok (.aload_n 0, 1) := by decide +kernel
theorem dLw_main_1378 : decode code 1378 = .ok (.iload 4, 2) := by decide +kernel
theorem dLw_main_1380 : decode code 1380 = .ok (.iconst 3, 1) := by decide +kernel
theorem dLw_main_1381 : decode code 1381 = .ok (.iadd, 1) := by decide +kernel
theorem dLw_main_1382 : decode code 1382 = .ok (.iaload, 1) := by decide +kernel
theorem dLw_main_1383 : decode code 1383 = .ok (.aload_n 0, 1) := by decide +kernel
theorem dLw_main_1384 : decode code 1384 = .ok (.iload 4, 2) := by decide +kernel
theorem dLw_main_1386 : decode code 1386 = .ok (.iconst 4, 1) := by decide +kernel
theorem dLw_main_1387 : decode code 1387 = .ok (.iadd, 1) := by decide +kernel
theorem dLw_main_1388 : decode code 1388 = .ok (.iaload, 1) := by decide +kernel
theorem dLw_main_1389 : decode code 1389 = .ok (.aload_n 3, 1) := by decide +kernel
theorem dLw_main_1390 : decode code 1390 = .ok (.invokestatic 162, 3) := by decide +kernel
theorem dLw_main_1393 : decode code 1393 = .ok (.istore 5, 2) := by decide +kernel
theorem dLw_main_1395 : decode code 1395 = .ok (.aload_n 2, 1) := by decide +kernel
theorem dLw_main_1396 : decode code 1396 = .ok (.aload_n 0, 1) := by decide +kernel
theorem dLw_main_1397 : decode code 1397 = .ok (.iload 4, 2) := by decide +kernel
theorem dLw_main_1399 : decode code 1399 = .ok (.iconst 1, 1) := by decide +kernel
theorem dLw_main_1400 : decode code 1400 = .ok (.iadd, 1) := by decide +kernel
theorem dLw_main_1401 : decode code 1401 = .ok (.iaload, 1) := by decide +kernel
theorem dLw_main_1402 : decode code 1402 = .ok (.aload_n 0, 1) := by decide +kernel
theorem dLw_main_1403 : decode code 1403 = .ok (.iload 4, 2) := by decide +kernel
theorem dLw_main_1405 : decode code 1405 = .ok (.iconst 2, 1) := by decide +kernel
theorem dLw_main_1406 : decode code 1406 = .ok (.iadd, 1) := by decide +kernel
theorem dLw_main_1407 : decode code 1407 = .ok (.iaload, 1) := by decide +kernel
theorem dLw_main_1408 : decode code 1408 = .ok (.aload_n 0, 1) := by decide +kernel
theorem dLw_main_1409 : decode code 1409 = .ok (.iload 4, 2) := by decide +kernel
theorem dLw_main_1411 : decode code 1411 = .ok (.iconst 3, 1) := by decide +kernel
theorem dLw_main_1412 : decode code 1412 = .ok (.iadd, 1) := by decide +kernel
theorem dLw_main_1413 : decode code 1413 = .ok (.iaload, 1) := by decide +kernel
theorem dLw_main_1414 : decode code 1414 = .ok (.aload_n 0, 1) := by decide +kernel
theorem dLw_main_1415 : decode code 1415 = .ok (.iload 4, 2) := by decide +kernel
theorem dLw_main_1417 : decode code 1417 = .ok (.iconst 4, 1) := by decide +kernel
theorem dLw_main_1418 : decode code 1418 = .ok (.iadd, 1) := by decide +kernel
theorem dLw_main_1419 : decode code 1419 = .ok (.iaload, 1) := by decide +kernel
theorem dLw_main_1420 : decode code 1420 = .ok (.invokevirtual 165, 3) := by decide +kernel
theorem dLw_main_1423 : decode code 1423 = .ok (.lstore 6, 2) := by decide +kernel
theorem dLw_main_1425 : decode code 1425 = .ok (.aload_n 2, 1) := by decide +kernel
theorem dLw_main_1426 : decode code 1426 = .ok (.invokevirtual 101, 3) := by decide +kernel
theorem dLw_main_1429 : decode code 1429 = .ok (.iload 5, 2) := by decide +kernel
theorem dLw_main_1431 : decode code 1431 = .ok (.if_icmp .eq (5), 3) := by decide +kernel
theorem dLw_main_1434 : decode code 1434 = .ok (.iconst 0, 1) := by decide +kernel
theorem dLw_main_1435 : decode code 1435 = .ok (.ireturn, 1) := by decide +kernel
theorem dLw_main_1436 : decode code 1436 = .ok (.iload 5, 2) := by decide +kernel
theorem dLw_main_1438 : decode code 1438 = .ok (.ifCond .ne (14), 3) := by decide +kernel
theorem dLw_main_1441 : decode code 1441 = .ok (.aload_n 3, 1) := by decide +kernel
theorem dLw_main_1442 : decode code 1442 = .ok (.iconst 0, 1) := by decide +kernel
theorem dLw_main_1443 : decode code 1443 = .ok (.laload, 1) := by decide +kernel
theorem dLw_main_1444 : decode code 1444 = .ok (.lload 6, 2) := by decide +kernel
theorem dLw_main_1446 : decode code 1446 = .ok (.lcmp, 1) := by decide +kernel
theorem dLw_main_1447 : decode code 1447 = .ok (.ifCond .eq (5), 3) := by decide +kernel
theorem dLw_main_1450 : decode code 1450 = .ok (.iconst 0, 1) := by decide +kernel
theorem dLw_main_1451 : decode code 1451 = .ok (.ireturn, 1) := by decide +kernel
theorem dLw_main_1452 : decode code 1452 = .ok (.goto (244), 3) := by decide +kernel
theorem dLw_main_1455 : decode code 1455 = .ok (.aload_n 1, 1) := by decide +kernel
theorem dLw_main_1456 : decode code 1456 = .ok (.aload_n 0, 1) := by decide +kernel
theorem dLw_main_1457 : decode code 1457 = .ok (.iload 4, 2) := by decide +kernel
theorem dLw_main_1459 : decode code 1459 = .ok (.iconst 1, 1) := by decide +kernel
theorem dLw_main_1460 : decode code 1460 = .ok (.iadd, 1) := by decide +kernel
theorem dLw_main_1461 : decode code 1461 = .ok (.iaload, 1) := by decide +kernel
theorem dLw_main_1462 : decode code 1462 = .ok (.aload_n 0, 1) := by decide +kernel
theorem dLw_main_1463 : decode code 1463 = .ok (.iload 4, 2) := by decide +kernel
theorem dLw_main_1465 : decode code 1465 = .ok (.iconst 2, 1) := by decide +kernel
theorem dLw_main_1466 : decode code 1466 = .ok (.iadd, 1) := by decide +kernel
theorem dLw_main_1467 : decode code 1467 = .ok (.iaload, 1) := by decide +kernel
theorem dLw_main_1468 : decode code 1468 = .ok (.aload_n 0, 1) := by decide +kernel
theorem dLw_main_1469 : decode code 1469 = .ok (.iload 4, 2) := by decide +kernel
theorem dLw_main_1471 : decode code 1471 = .ok (.iconst 3, 1) := by decide +kernel
theorem dLw_main_1472 : decode code 1472 = .ok (.iadd, 1) := by decide +kernel
theorem dLw_main_1473 : decode code 1473 = .ok (.iaload, 1) := by decide +kernel
theorem dLw_main_1474 : decode code 1474 = .ok (.aload_n 3, 1) := by decide +kernel
theorem dLw_main_1475 : decode code 1475 = .ok (.invokestatic 166, 3) := by decide +kernel
theorem dLw_main_1478 : decode code 1478 = .ok (.istore 5, 2) := by decide +kernel
theorem dLw_main_1480 : decode code 1480 = .ok (.aload_n 2, 1) := by decide +kernel
theorem dLw_main_1481 : decode code 1481 = .ok (.aload_n 0, 1) := by decide +kernel
theorem dLw_main_1482 : decode code 1482 = .ok (.iload 4, 2) := by decide +kernel
theorem dLw_main_1484 : decode code 1484 = .ok (.iconst 1, 1) := by decide +kernel
theorem dLw_main_1485 : decode code 1485 = .ok (.iadd, 1) := by decide +kernel
theorem dLw_main_1486 : decode code 1486 = .ok (.iaload, 1) := by decide +kernel
theorem dLw_main_1487 : decode code 1487 = .ok (.aload_n 0, 1) := by decide +kernel
theorem dLw_main_1488 : decode code 1488 = .ok (.iload 4, 2) := by decide +kernel
theorem dLw_main_1490 : decode code 1490 = .ok (.iconst 2, 1) := by decide +kernel
theorem dLw_main_1491 : decode code 1491 = .ok (.iadd, 1) := by decide +kernel
theorem dLw_main_1492 : decode code 1492 = .ok (.iaload, 1) := by decide +kernel
theorem dLw_main_1493 : decode code 1493 = .ok (.aload_n 0, 1) := by decide +kernel
theorem dLw_main_1494 : decode code 1494 = .ok (.iload 4, 2) := by decide +kernel
theorem dLw_main_1496 : decode code 1496 = .ok (.iconst 3, 1) := by decide +kernel
theorem dLw_main_1497 : decode code 1497 = .ok (.iadd, 1) := by decide +kernel
theorem dLw_main_1498 : decode code 1498 = .ok (.iaload, 1) := by decide +kernel
theorem dLw_main_1499 : decode code 1499 = .ok (.invokevirtual 168, 3) := by decide +kernel
theorem dLw_main_1502 : decode code 1502 = .ok (.istore 6, 2) := by decide +kernel
theorem dLw_main_1504 : decode code 1504 = .ok (.aload_n 2, 1) := by decide +kernel
theorem dLw_main_1505 : decode code 1505 = .ok (.invokevirtual 101, 3) := by decide +kernel
theorem dLw_main_1508 : decode code 1508 = .ok (.iload 5, 2) := by decide +kernel
theorem dLw_main_1510 : decode code 1510 = .ok (.if_icmp .eq (5), 3) := by decide +kernel
theorem dLw_main_1513 : decode code 1513 = .ok (.iconst 0, 1) := by decide +kernel
theorem dLw_main_1514 : decode code 1514 = .ok (.ireturn, 1) := by decide +kernel
theorem dLw_main_1515 : decode code 1515 = .ok (.iload 5, 2) := by decide +kernel
theorem dLw_main_1517 : decode code 1517 = .ok (.ifCond .ne (15), 3) := by decide +kernel
theorem dLw_main_1520 : decode code 1520 = .ok (.aload_n 3, 1) := by decide +kernel
theorem dLw_main_1521 : decode code 1521 = .ok (.iconst 0, 1) := by decide +kernel
theorem dLw_main_1522 : decode code 1522 = .ok (.laload, 1) := by decide +kernel
theorem dLw_main_1523 : decode code 1523 = .ok (.iload 6, 2) := by decide +kernel
theorem dLw_main_1525 : decode code 1525 = .ok (.i2l, 1) := by decide +kernel
theorem dLw_main_1526 : decode code 1526 = .ok (.lcmp, 1) := by decide +kernel
theorem dLw_main_1527 : decode code 1527 = .ok (.ifCond .eq (5), 3) := by decide +kernel
theorem dLw_main_1530 : decode code 1530 = .ok (.iconst 0, 1) := by decide +kernel
theorem dLw_main_1531 : decode code 1531 = .ok (.ireturn, 1) := by decide +kernel
theorem dLw_main_1532 : decode code 1532 = .ok (.goto (164), 3) := by decide +kernel
theorem dLw_main_1535 : decode code 1535 = .ok (.aload_n 1, 1) := by decide +kernel
theorem dLw_main_1536 : decode code 1536 = .ok (.aload_n 0, 1) := by decide +kernel
theorem dLw_main_1537 : decode code 1537 = .ok (.iload 4, 2) := by decide +kernel
theorem dLw_main_1539 : decode code 1539 = .ok (.iconst 1, 1) := by decide +kernel
theorem dLw_main_1540 : decode code 1540 = .ok (.iadd, 1) := by decide +kernel
theorem dLw_main_1541 : decode code 1541 = .ok (.iaload, 1) := by decide +kernel
theorem dLw_main_1542 : decode code 1542 = .ok (.aload_n 0, 1) := by decide +kernel
theorem dLw_main_1543 : decode code 1543 = .ok (.iload 4, 2) := by decide +kernel
theorem dLw_main_1545 : decode code 1545 = .ok (.iconst 2, 1) := by decide +kernel
theorem dLw_main_1546 : decode code 1546 = .ok (.iadd, 1) := by decide +kernel
theorem dLw_main_1547 : decode code 1547 = .ok (.iaload, 1) := by decide +kernel
theorem dLw_main_1548 : decode code 1548 = .ok (.aload_n 3, 1) := by decide +kernel
theorem dLw_main_1549 : decode code 1549 = .ok (.invokestatic 169, 3) := by decide +kernel
theorem dLw_main_1552 : decode code 1552 = .ok (.istore 5, 2) := by decide +kernel
theorem dLw_main_1554 : decode code 1554 = .ok (.aload_n 2, 1) := by decide +kernel
theorem dLw_main_1555 : decode code 1555 = .ok (.aload_n 0, 1) := by decide +kernel
theorem dLw_main_1556 : decode code 1556 = .ok (.iload 4, 2) := by decide +kernel
theorem dLw_main_1558 : decode code 1558 = .ok (.iconst 1, 1) := by decide +kernel
theorem dLw_main_1559 : decode code 1559 = .ok (.iadd, 1) := by decide +kernel
theorem dLw_main_1560 : decode code 1560 = .ok (.iaload, 1) := by decide +kernel
theorem dLw_main_1561 : decode code 1561 = .ok (.aload_n 0, 1) := by decide +kernel
theorem dLw_main_1562 : decode code 1562 = .ok (.iload 4, 2) := by decide +kernel
theorem dLw_main_1564 : decode code 1564 = .ok (.iconst 2, 1) := by decide +kernel
theorem dLw_main_1565 : decode code 1565 = .ok (.iadd, 1) := by decide +kernel
theorem dLw_main_1566 : decode code 1566 = .ok (.iaload, 1) := by decide +kernel
theorem dLw_main_1567 : decode code 1567 = .ok (.invokevirtual 171, 3) := by decide +kernel
theorem dLw_main_1570 : decode code 1570 = .ok (.istore 6, 2) := by decide +kernel
theorem dLw_main_1572 : decode code 1572 = .ok (.aload_n 2, 1) := by decide +kernel
theorem dLw_main_1573 : decode code 1573 = .ok (.invokevirtual 101, 3) := by decide +kernel
theorem dLw_main_1576 : decode code 1576 = .ok (.iload 5, 2) := by decide +kernel
theorem dLw_main_1578 : decode code 1578 = .ok (.if_icmp .eq (5), 3) := by decide +kernel
theorem dLw_main_1581 : decode code 1581 = .ok (.iconst 0, 1) := by decide +kernel
theorem dLw_main_1582 : decode code 1582 = .ok (.ireturn, 1) := by decide +kernel
theorem dLw_main_1583 : decode code 1583 = .ok (.iload 5, 2) := by decide +kernel
theorem dLw_main_1585 : decode code 1585 = .ok (.ifCond .ne (15), 3) := by decide +kernel
theorem dLw_main_1588 : decode code 1588 = .ok (.aload_n 3, 1) := by decide +kernel
theorem dLw_main_1589 : decode code 1589 = .ok (.iconst 0, 1) := by decide +kernel
theorem dLw_main_1590 : decode code 1590 = .ok (.laload, 1) := by decide +kernel
theorem dLw_main_1591 : decode code 1591 = .ok (.iload 6, 2) := by decide +kernel
theorem dLw_main_1593 : decode code 1593 = .ok (.i2l, 1) := by decide +kernel
theorem dLw_main_1594 : decode code 1594 = .ok (.lcmp, 1) := by decide +kernel
theorem dLw_main_1595 : decode code 1595 = .ok (.ifCond .eq (5), 3) := by decide +kernel
theorem dLw_main_1598 : decode code 1598 = .ok (.iconst 0, 1) := by decide +kernel
theorem dLw_main_1599 : decode code 1599 = .ok (.ireturn, 1) := by decide +kernel
theorem dLw_main_1600 : decode code 1600 = .ok (.goto (96), 3) := by decide +kernel
theorem dLw_main_1603 : decode code 1603 = .ok (.aload_n 1, 1) := by decide +kernel
theorem dLw_main_1604 : decode code 1604 = .ok (.aload_n 0, 1) := by decide +kernel
theorem dLw_main_1605 : decode code 1605 = .ok (.iload 4, 2) := by decide +kernel
theorem dLw_main_1607 : decode code 1607 = .ok (.iconst 1, 1) := by decide +kernel
theorem dLw_main_1608 : decode code 1608 = .ok (.iadd, 1) := by decide +kernel
theorem dLw_main_1609 : decode code 1609 = .ok (.iaload, 1) := by decide +kernel
theorem dLw_main_1610 : decode code 1610 = .ok (.aload_n 0, 1) := by decide +kernel
theorem dLw_main_1611 : decode code 1611 = .ok (.iload 4, 2) := by decide +kernel
theorem dLw_main_1613 : decode code 1613 = .ok (.iconst 2, 1) := by decide +kernel
theorem dLw_main_1614 : decode code 1614 = .ok (.iadd, 1) := by decide +kernel
theorem dLw_main_1615 : decode code 1615 = .ok (.iaload, 1) := by decide +kernel
theorem dLw_main_1616 : decode code 1616 = .ok (.aload_n 3, 1) := by decide +kernel
theorem dLw_main_1617 : decode code 1617 = .ok (.invokestatic 172, 3) := by decide +kernel
theorem dLw_main_1620 : decode code 1620 = .ok (.istore 5, 2) := by decide +kernel
theorem dLw_main_1622 : decode code 1622 = .ok (.aload_n 2, 1) := by decide +kernel
theorem dLw_main_1623 : decode code 1623 = .ok (.aload_n 0, 1) := by decide +kernel
theorem dLw_main_1624 : decode code 1624 = .ok (.iload 4, 2) := by decide +kernel
theorem dLw_main_1626 : decode code 1626 = .ok (.iconst 1, 1) := by decide +kernel
theorem dLw_main_1627 : decode code 1627 = .ok (.iadd, 1) := by decide +kernel
theorem dLw_main_1628 : decode code 1628 = .ok (.iaload, 1) := by decide +kernel
theorem dLw_main_1629 : decode code 1629 = .ok (.aload_n 0, 1) := by decide +kernel
theorem dLw_main_1630 : decode code 1630 = .ok (.iload 4, 2) := by decide +kernel
theorem dLw_main_1632 : decode code 1632 = .ok (.iconst 2, 1) := by decide +kernel
theorem dLw_main_1633 : decode code 1633 = .ok (.iadd, 1) := by decide +kernel
theorem dLw_main_1634 : decode code 1634 = .ok (.iaload, 1) := by decide +kernel
theorem dLw_main_1635 : decode code 1635 = .ok (.invokevirtual 174, 3) := by decide +kernel
theorem dLw_main_1638 : decode code 1638 = .ok (.istore 6, 2) := by decide +kernel
theorem dLw_main_1640 : decode code 1640 = .ok (.aload_n 2, 1) := by decide +kernel
theorem dLw_main_1641 : decode code 1641 = .ok (.invokevirtual 101, 3) := by decide +kernel
theorem dLw_main_1644 : decode code 1644 = .ok (.iload 5, 2) := by decide +kernel
theorem dLw_main_1646 : decode code 1646 = .ok (.if_icmp .eq (5), 3) := by decide +kernel
theorem dLw_main_1649 : decode code 1649 = .ok (.iconst 0, 1) := by decide +kernel
theorem dLw_main_1650 : decode code 1650 = .ok (.ireturn, 1) := by decide +kernel
theorem dLw_main_1651 : decode code 1651 = .ok (.iload 5, 2) := by decide +kernel
theorem dLw_main_1653 : decode code 1653 = .ok (.ifCond .ne (15), 3) := by decide +kernel
theorem dLw_main_1656 : decode code 1656 = .ok (.aload_n 3, 1) := by decide +kernel
theorem dLw_main_1657 : decode code 1657 = .ok (.iconst 0, 1) := by decide +kernel
theorem dLw_main_1658 : decode code 1658 = .ok (.laload, 1) := by decide +kernel
theorem dLw_main_1659 : decode code 1659 = .ok (.iload 6, 2) := by decide +kernel
theorem dLw_main_1661 : decode code 1661 = .ok (.i2l, 1) := by decide +kernel
theorem dLw_main_1662 : decode code 1662 = .ok (.lcmp, 1) := by decide +kernel
theorem dLw_main_1663 : decode code 1663 = .ok (.ifCond .eq (5), 3) := by decide +kernel
theorem dLw_main_1666 : decode code 1666 = .ok (.iconst 0, 1) := by decide +kernel
theorem dLw_main_1667 : decode code 1667 = .ok (.ireturn, 1) := by decide +kernel
theorem dLw_main_1668 : decode code 1668 = .ok (.goto (28), 3) := by decide +kernel
theorem dLw_main_1671 : decode code 1671 = .ok (.aload_n 1, 1) := by decide +kernel
theorem dLw_main_1672 : decode code 1672 = .ok (.aload_n 0, 1) := by decide +kernel
theorem dLw_main_1673 : decode code 1673 = .ok (.iload 4, 2) := by decide +kernel
theorem dLw_main_1675 : decode code 1675 = .ok (.iconst 1, 1) := by decide +kernel
theorem dLw_main_1676 : decode code 1676 = .ok (.iadd, 1) := by decide +kernel
theorem dLw_main_1677 : decode code 1677 = .ok (.iaload, 1) := by decide +kernel
theorem dLw_main_1678 : decode code 1678 = .ok (.invokevirtual 175, 3) := by decide +kernel
theorem dLw_main_1681 : decode code 1681 = .ok (.aload_n 2, 1) := by decide +kernel
theorem dLw_main_1682 : decode code 1682 = .ok (.aload_n 0, 1) := by decide +kernel
theorem dLw_main_1683 : decode code 1683 = .ok (.iload 4, 2) := by decide +kernel
theorem dLw_main_1685 : decode code 1685 = .ok (.iconst 1, 1) := by decide +kernel
theorem dLw_main_1686 : decode code 1686 = .ok (.iadd, 1) := by decide +kernel
theorem dLw_main_1687 : decode code 1687 = .ok (.iaload, 1) := by decide +kernel
theorem dLw_main_1688 : decode code 1688 = .ok (.invokevirtual 178, 3) := by decide +kernel
theorem dLw_main_1691 : decode code 1691 = .ok (.if_icmp .eq (5), 3) := by decide +kernel
theorem dLw_main_1694 : decode code 1694 = .ok (.iconst 0, 1) := by decide +kernel
theorem dLw_main_1695 : decode code 1695 = .ok (.ireturn, 1) := by decide +kernel
theorem dLw_main_1696 : decode code 1696 = .ok (.iinc 4 (5), 3) := by decide +kernel
theorem dLw_main_1699 : decode code 1699 = .ok (.goto (-1656), 3) := by decide +kernel
theorem dLw_main_1702 : decode code 1702 = .ok (.iconst 1, 1) := by decide +kernel
theorem dLw_main_1703 : decode code 1703 = .ok (.ireturn, 1) := by decide +kernel
