theorem dL_law_1231 : decode cL_law 1231 = .ok (.iaload, 1) := by decide +kernel
theorem dL_law_1232 : decode cL_law 1232 = .ok (.if_icmp .ne 7, 3) := by decide +kernel
theorem dL_law_1235 : decode cL_law 1235 = .ok (.iconst 1, 1) := by decide +kernel
theorem dL_law_1236 : decode cL_law 1236 = .ok (.goto 4, 3) := by decide +kernel
theorem dL_law_1239 : decode cL_law 1239 = .ok (.iconst 0, 1) := by decide +kernel
theorem dL_law_1240 : decode cL_law 1240 = .ok (.istore 7, 2) := by decide +kernel
theorem dL_law_1242 : decode cL_law 1242 = .ok (.aload 6, 2) := by decide +kernel
theorem dL_law_1244 : decode cL_law 1244 = .ok (.iload 13, 2) := by decide +kernel
theorem dL_law_1246 : decode cL_law 1246 = .ok (.iconst 3, 1) := by decide +kernel
theorem dL_law_1247 : decode cL_law 1247 = .ok (.irem, 1) := by decide +kernel
theorem dL_law_1248 : decode cL_law 1248 = .ok (.iload 13, 2) := by decide +kernel
theorem dL_law_1250 : decode cL_law 1250 = .ok (.iconst 3, 1) := by decide +kernel
theorem dL_law_1251 : decode cL_law 1251 = .ok (.idiv, 1) := by decide +kernel
theorem dL_law_1252 : decode cL_law 1252 = .ok (.sipush 1001, 3) := by decide +kernel
theorem dL_law_1255 : decode cL_law 1255 = .ok (.irem, 1) := by decide +kernel
theorem dL_law_1256 : decode cL_law 1256 = .ok (.iastore, 1) := by decide +kernel
theorem dL_law_1257 : decode cL_law 1257 = .ok (.goto 188, 3) := by decide +kernel
theorem dL_law_1260 : decode cL_law 1260 = .ok (.iload 10, 2) := by decide +kernel
theorem dL_law_1262 : decode cL_law 1262 = .ok (.bipush 28, 2) := by decide +kernel
theorem dL_law_1264 : decode cL_law 1264 = .ok (.if_icmp .le 181, 3) := by decide +kernel
theorem dL_law_1267 : decode cL_law 1267 = .ok (.aload_n 2, 1) := by decide +kernel
theorem dL_law_1268 : decode cL_law 1268 = .ok (.iconst 1, 1) := by decide +kernel
theorem dL_law_1269 : decode cL_law 1269 = .ok (.iaload, 1) := by decide +kernel
theorem dL_law_1270 : decode cL_law 1270 = .ok (.ifCond .le 175, 3) := by decide +kernel
theorem dL_law_1273 : decode cL_law 1273 = .ok (.aload_n 2, 1) := by decide +kernel
theorem dL_law_1274 : decode cL_law 1274 = .ok (.iconst 2, 1) := by decide +kernel
theorem dL_law_1275 : decode cL_law 1275 = .ok (.iaload, 1) := by decide +kernel
theorem dL_law_1276 : decode cL_law 1276 = .ok (.ifCond .le 169, 3) := by decide +kernel
theorem dL_law_1279 : decode cL_law 1279 = .ok (.iload 13, 2) := by decide +kernel
theorem dL_law_1281 : decode cL_law 1281 = .ok (.aload_n 2, 1) := by decide +kernel
theorem dL_law_1282 : decode cL_law 1282 = .ok (.iconst 2, 1) := by decide +kernel
theorem dL_law_1283 : decode cL_law 1283 = .ok (.iaload, 1) := by decide +kernel
theorem dL_law_1284 : decode cL_law 1284 = .ok (.irem, 1) := by decide +kernel
theorem dL_law_1285 : decode cL_law 1285 = .ok (.istore 14, 2) := by decide +kernel
theorem dL_law_1287 : decode cL_law 1287 = .ok (.iconst 0, 1) := by decide +kernel
theorem dL_law_1288 : decode cL_law 1288 = .ok (.istore 15, 2) := by decide +kernel
theorem dL_law_1290 : decode cL_law 1290 = .ok (.iconst 0, 1) := by decide +kernel
theorem dL_law_1291 : decode cL_law 1291 = .ok (.istore 16, 2) := by decide +kernel
theorem dL_law_1293 : decode cL_law 1293 = .ok (.iload 16, 2) := by decide +kernel
theorem dL_law_1295 : decode cL_law 1295 = .ok (.aload 4, 2) := by decide +kernel
theorem dL_law_1297 : decode cL_law 1297 = .ok (.bipush 7, 2) := by decide +kernel
theorem dL_law_1299 : decode cL_law 1299 = .ok (.iload 14, 2) := by decide +kernel
theorem dL_law_1301 : decode cL_law 1301 = .ok (.imul, 1) := by decide +kernel
theorem dL_law_1302 : decode cL_law 1302 = .ok (.iaload, 1) := by decide +kernel
theorem dL_law_1303 : decode cL_law 1303 = .ok (.if_icmp .ge 39, 3) := by decide +kernel
theorem dL_law_1306 : decode cL_law 1306 = .ok (.iload 15, 2) := by decide +kernel
theorem dL_law_1308 : decode cL_law 1308 = .ok (.ifCond .ne 21, 3) := by decide +kernel
theorem dL_law_1311 : decode cL_law 1311 = .ok (.aload 4, 2) := by decide +kernel
theorem dL_law_1313 : decode cL_law 1313 = .ok (.bipush 7, 2) := by decide +kernel
theorem dL_law_1315 : decode cL_law 1315 = .ok (.iload 14, 2) := by decide +kernel
theorem dL_law_1317 : decode cL_law 1317 = .ok (.imul, 1) := by decide +kernel
theorem dL_law_1318 : decode cL_law 1318 = .ok (.iconst 1, 1) := by decide +kernel
theorem dL_law_1319 : decode cL_law 1319 = .ok (.iadd, 1) := by decide +kernel
theorem dL_law_1320 : decode cL_law 1320 = .ok (.iload 16, 2) := by decide +kernel
theorem dL_law_1322 : decode cL_law 1322 = .ok (.iadd, 1) := by decide +kernel
theorem dL_law_1323 : decode cL_law 1323 = .ok (.iaload, 1) := by decide +kernel
theorem dL_law_1324 : decode cL_law 1324 = .ok (.iload 12, 2) := by decide +kernel
theorem dL_law_1326 : decode cL_law 1326 = .ok (.if_icmp .ne 7, 3) := by decide +kernel
theorem dL_law_1329 : decode cL_law 1329 = .ok (.iconst 1, 1) := by decide +kernel
theorem dL_law_1330 : decode cL_law 1330 = .ok (.goto 4, 3) := by decide +kernel
theorem dL_law_1333 : decode cL_law 1333 = .ok (.iconst 0, 1) := by decide +kernel
theorem dL_law_1334 : decode cL_law 1334 = .ok (.istore 15, 2) := by decide +kernel
theorem dL_law_1336 : decode cL_law 1336 = .ok (.iinc 16 1, 3) := by decide +kernel
theorem dL_law_1339 : decode cL_law 1339 = .ok (.goto (-46), 3) := by decide +kernel
theorem dL_law_1342 : decode cL_law 1342 = .ok (.iload 15, 2) := by decide +kernel
theorem dL_law_1344 : decode cL_law 1344 = .ok (.ifCond .ne 20, 3) := by decide +kernel
theorem dL_law_1347 : decode cL_law 1347 = .ok (.aload 4, 2) := by decide +kernel
theorem dL_law_1349 : decode cL_law 1349 = .ok (.bipush 7, 2) := by decide +kernel
theorem dL_law_1351 : decode cL_law 1351 = .ok (.iload 14, 2) := by decide +kernel
theorem dL_law_1353 : decode cL_law 1353 = .ok (.imul, 1) := by decide +kernel
theorem dL_law_1354 : decode cL_law 1354 = .ok (.iaload, 1) := by decide +kernel
theorem dL_law_1355 : decode cL_law 1355 = .ok (.bipush 6, 2) := by decide +kernel
theorem dL_law_1357 : decode cL_law 1357 = .ok (.if_icmp .ge 7, 3) := by decide +kernel
theorem dL_law_1360 : decode cL_law 1360 = .ok (.iconst 1, 1) := by decide +kernel
theorem dL_law_1361 : decode cL_law 1361 = .ok (.goto 4, 3) := by decide +kernel
theorem dL_law_1364 : decode cL_law 1364 = .ok (.iconst 0, 1) := by decide +kernel
theorem dL_law_1365 : decode cL_law 1365 = .ok (.istore 16, 2) := by decide +kernel
theorem dL_law_1367 : decode cL_law 1367 = .ok (.aload_n 1, 1) := by decide +kernel
theorem dL_law_1368 : decode cL_law 1368 = .ok (.bipush 9, 2) := by decide +kernel
theorem dL_law_1370 : decode cL_law 1370 = .ok (.iload 14, 2) := by decide +kernel
theorem dL_law_1372 : decode cL_law 1372 = .ok (.iload 12, 2) := by decide +kernel
theorem dL_law_1374 : decode cL_law 1374 = .ok (.iconst 0, 1) := by decide +kernel
theorem dL_law_1375 : decode cL_law 1375 = .ok (.iconst 0, 1) := by decide +kernel
theorem dL_law_1376 : decode cL_law 1376 = .ok (.invokestatic 88, 3) := by decide +kernel
theorem dL_law_1379 : decode cL_law 1379 = .ok (.iload 16, 2) := by decide +kernel
theorem dL_law_1381 : decode cL_law 1381 = .ok (.ifCond .eq 16, 3) := by decide +kernel
theorem dL_law_1384 : decode cL_law 1384 = .ok (.aload 4, 2) := by decide +kernel
theorem dL_law_1386 : decode cL_law 1386 = .ok (.bipush 7, 2) := by decide +kernel
theorem dL_law_1388 : decode cL_law 1388 = .ok (.iload 14, 2) := by decide +kernel
theorem dL_law_1390 : decode cL_law 1390 = .ok (.imul, 1) := by decide +kernel
theorem dL_law_1391 : decode cL_law 1391 = .ok (.iaload, 1) := by decide +kernel
theorem dL_law_1392 : decode cL_law 1392 = .ok (.iconst 1, 1) := by decide +kernel
theorem dL_law_1393 : decode cL_law 1393 = .ok (.iadd, 1) := by decide +kernel
theorem dL_law_1394 : decode cL_law 1394 = .ok (.goto 5, 3) := by decide +kernel
theorem dL_law_1397 : decode cL_law 1397 = .ok (.ldc 82, 2) := by decide +kernel
theorem dL_law_1399 : decode cL_law 1399 = .ok (.if_icmp .ne 7, 3) := by decide +kernel
theorem dL_law_1402 : decode cL_law 1402 = .ok (.iconst 1, 1) := by decide +kernel
theorem dL_law_1403 : decode cL_law 1403 = .ok (.goto 4, 3) := by decide +kernel
theorem dL_law_1406 : decode cL_law 1406 = .ok (.iconst 0, 1) := by decide +kernel
theorem dL_law_1407 : decode cL_law 1407 = .ok (.istore 7, 2) := by decide +kernel
theorem dL_law_1409 : decode cL_law 1409 = .ok (.iload 16, 2) := by decide +kernel
theorem dL_law_1411 : decode cL_law 1411 = .ok (.ifCond .eq 34, 3) := by decide +kernel
theorem dL_law_1414 : decode cL_law 1414 = .ok (.aload 4, 2) := by decide +kernel
theorem dL_law_1416 : decode cL_law 1416 = .ok (.bipush 7, 2) := by decide +kernel
theorem dL_law_1418 : decode cL_law 1418 = .ok (.iload 14, 2) := by decide +kernel
theorem dL_law_1420 : decode cL_law 1420 = .ok (.imul, 1) := by decide +kernel
theorem dL_law_1421 : decode cL_law 1421 = .ok (.dup2, 1) := by decide +kernel
theorem dL_law_1422 : decode cL_law 1422 = .ok (.iaload, 1) := by decide +kernel
theorem dL_law_1423 : decode cL_law 1423 = .ok (.iconst 1, 1) := by decide +kernel
theorem dL_law_1424 : decode cL_law 1424 = .ok (.iadd, 1) := by decide +kernel
theorem dL_law_1425 : decode cL_law 1425 = .ok (.iastore, 1) := by decide +kernel
theorem dL_law_1426 : decode cL_law 1426 = .ok (.aload 4, 2) := by decide +kernel
theorem dL_law_1428 : decode cL_law 1428 = .ok (.bipush 7, 2) := by decide +kernel
theorem dL_law_1430 : decode cL_law 1430 = .ok (.iload 14, 2) := by decide +kernel
theorem dL_law_1432 : decode cL_law 1432 = .ok (.imul, 1) := by decide +kernel
theorem dL_law_1433 : decode cL_law 1433 = .ok (.aload 4, 2) := by decide +kernel
theorem dL_law_1435 : decode cL_law 1435 = .ok (.bipush 7, 2) := by decide +kernel
theorem dL_law_1437 : decode cL_law 1437 = .ok (.iload 14, 2) := by decide +kernel
theorem dL_law_1439 : decode cL_law 1439 = .ok (.imul, 1) := by decide +kernel
theorem dL_law_1440 : decode cL_law 1440 = .ok (.iaload, 1) := by decide +kernel
theorem dL_law_1441 : decode cL_law 1441 = .ok (.iadd, 1) := by decide +kernel
theorem dL_law_1442 : decode cL_law 1442 = .ok (.iload 12, 2) := by decide +kernel
theorem dL_law_1444 : decode cL_law 1444 = .ok (.iastore, 1) := by decide +kernel
theorem dL_law_1445 : decode cL_law 1445 = .ok (.iload 7, 2) := by decide +kernel
theorem dL_law_1447 : decode cL_law 1447 = .ok (.ifCond .eq 49, 3) := by decide +kernel
theorem dL_law_1450 : decode cL_law 1450 = .ok (.aload_n 1, 1) := by decide +kernel
theorem dL_law_1451 : decode cL_law 1451 = .ok (.aload_n 2, 1) := by decide +kernel
theorem dL_law_1452 : decode cL_law 1452 = .ok (.aload_n 3, 1) := by decide +kernel
theorem dL_law_1453 : decode cL_law 1453 = .ok (.aload 4, 2) := by decide +kernel
theorem dL_law_1455 : decode cL_law 1455 = .ok (.aload 5, 2) := by decide +kernel
theorem dL_law_1457 : decode cL_law 1457 = .ok (.aload 6, 2) := by decide +kernel
theorem dL_law_1459 : decode cL_law 1459 = .ok (.iload 11, 2) := by decide +kernel
theorem dL_law_1461 : decode cL_law 1461 = .ok (.iload 8, 2) := by decide +kernel
theorem dL_law_1463 : decode cL_law 1463 = .ok (.invokestatic 119, 3) := by decide +kernel
theorem dL_law_1466 : decode cL_law 1466 = .ok (.ifCond .eq 30, 3) := by decide +kernel
theorem dL_law_1469 : decode cL_law 1469 = .ok (.iload 8, 2) := by decide +kernel
theorem dL_law_1471 : decode cL_law 1471 = .ok (.bipush 40, 2) := by decide +kernel
theorem dL_law_1473 : decode cL_law 1473 = .ok (.irem, 1) := by decide +kernel
theorem dL_law_1474 : decode cL_law 1474 = .ok (.ifCond .gt 18, 3) := by decide +kernel
theorem dL_law_1477 : decode cL_law 1477 = .ok (.aload_n 1, 1) := by decide +kernel
theorem dL_law_1478 : decode cL_law 1478 = .ok (.aload_n 2, 1) := by decide +kernel
theorem dL_law_1479 : decode cL_law 1479 = .ok (.aload_n 3, 1) := by decide +kernel
theorem dL_law_1480 : decode cL_law 1480 = .ok (.aload 4, 2) := by decide +kernel
theorem dL_law_1482 : decode cL_law 1482 = .ok (.iload 9, 2) := by decide +kernel
theorem dL_law_1484 : decode cL_law 1484 = .ok (.iconst 3, 1) := by decide +kernel
theorem dL_law_1485 : decode cL_law 1485 = .ok (.idiv, 1) := by decide +kernel
theorem dL_law_1486 : decode cL_law 1486 = .ok (.invokestatic 116, 3) := by decide +kernel
theorem dL_law_1489 : decode cL_law 1489 = .ok (.ifCond .eq 7, 3) := by decide +kernel
theorem dL_law_1492 : decode cL_law 1492 = .ok (.iconst 1, 1) := by decide +kernel
theorem dL_law_1493 : decode cL_law 1493 = .ok (.goto 4, 3) := by decide +kernel
