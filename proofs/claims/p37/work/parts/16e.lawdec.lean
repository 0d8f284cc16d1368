theorem dL_1276 : decode code 1276 = .ok (.invokevirtual 168, 3) := by decide +kernel
theorem dL_1279 : decode code 1279 = .ok (.pop, 1) := by decide +kernel
theorem dL_1280 : decode code 1280 = .ok (.goto 465, 3) := by decide +kernel
theorem dL_1283 : decode code 1283 = .ok (.aload_n 1, 1) := by decide +kernel
theorem dL_1284 : decode code 1284 = .ok (.aload_n 0, 1) := by decide +kernel
theorem dL_1285 : decode code 1285 = .ok (.iload_n 3, 1) := by decide +kernel
theorem dL_1286 : decode code 1286 = .ok (.iconst 1, 1) := by decide +kernel
theorem dL_1287 : decode code 1287 = .ok (.iadd, 1) := by decide +kernel
theorem dL_1288 : decode code 1288 = .ok (.iaload, 1) := by decide +kernel
theorem dL_1289 : decode code 1289 = .ok (.aload_n 0, 1) := by decide +kernel
theorem dL_1290 : decode code 1290 = .ok (.iload_n 3, 1) := by decide +kernel
theorem dL_1291 : decode code 1291 = .ok (.iconst 2, 1) := by decide +kernel
theorem dL_1292 : decode code 1292 = .ok (.iadd, 1) := by decide +kernel
theorem dL_1293 : decode code 1293 = .ok (.iaload, 1) := by decide +kernel
theorem dL_1294 : decode code 1294 = .ok (.aload_n 0, 1) := by decide +kernel
theorem dL_1295 : decode code 1295 = .ok (.iload_n 3, 1) := by decide +kernel
theorem dL_1296 : decode code 1296 = .ok (.iconst 3, 1) := by decide +kernel
theorem dL_1297 : decode code 1297 = .ok (.iadd, 1) := by decide +kernel
theorem dL_1298 : decode code 1298 = .ok (.iaload, 1) := by decide +kernel
theorem dL_1299 : decode code 1299 = .ok (.invokevirtual 169, 3) := by decide +kernel
theorem dL_1302 : decode code 1302 = .ok (.pop, 1) := by decide +kernel
theorem dL_1303 : decode code 1303 = .ok (.aload_n 2, 1) := by decide +kernel
theorem dL_1304 : decode code 1304 = .ok (.aload_n 0, 1) := by decide +kernel
theorem dL_1305 : decode code 1305 = .ok (.iload_n 3, 1) := by decide +kernel
theorem dL_1306 : decode code 1306 = .ok (.iconst 1, 1) := by decide +kernel
theorem dL_1307 : decode code 1307 = .ok (.iadd, 1) := by decide +kernel
theorem dL_1308 : decode code 1308 = .ok (.iaload, 1) := by decide +kernel
theorem dL_1309 : decode code 1309 = .ok (.aload_n 0, 1) := by decide +kernel
theorem dL_1310 : decode code 1310 = .ok (.iload_n 3, 1) := by decide +kernel
theorem dL_1311 : decode code 1311 = .ok (.iconst 2, 1) := by decide +kernel
theorem dL_1312 : decode code 1312 = .ok (.iadd, 1) := by decide +kernel
theorem dL_1313 : decode code 1313 = .ok (.iaload, 1) := by decide +kernel
theorem dL_1314 : decode code 1314 = .ok (.aload_n 0, 1) := by decide +kernel
theorem dL_1315 : decode code 1315 = .ok (.iload_n 3, 1) := by decide +kernel
theorem dL_1316 : decode code 1316 = .ok (.iconst 3, 1) := by decide +kernel
theorem dL_1317 : decode code 1317 = .ok (.iadd, 1) := by decide +kernel
theorem dL_1318 : decode code 1318 = .ok (.iaload, 1) := by decide +kernel
theorem dL_1319 : decode code 1319 = .ok (.invokevirtual 172, 3) := by decide +kernel
theorem dL_1322 : decode code 1322 = .ok (.pop, 1) := by decide +kernel
theorem dL_1323 : decode code 1323 = .ok (.goto 422, 3) := by decide +kernel
theorem dL_1326 : decode code 1326 = .ok (.aload_n 1, 1) := by decide +kernel
theorem dL_1327 : decode code 1327 = .ok (.invokevirtual 173, 3) := by decide +kernel
theorem dL_1330 : decode code 1330 = .ok (.pop, 1) := by decide +kernel
theorem dL_1331 : decode code 1331 = .ok (.aload_n 2, 1) := by decide +kernel
theorem dL_1332 : decode code 1332 = .ok (.invokevirtual 176, 3) := by decide +kernel
theorem dL_1335 : decode code 1335 = .ok (.pop, 1) := by decide +kernel
theorem dL_1336 : decode code 1336 = .ok (.goto 409, 3) := by decide +kernel
theorem dL_1339 : decode code 1339 = .ok (.aload_n 1, 1) := by decide +kernel
theorem dL_1340 : decode code 1340 = .ok (.aload_n 0, 1) := by decide +kernel
theorem dL_1341 : decode code 1341 = .ok (.iload_n 3, 1) := by decide +kernel
theorem dL_1342 : decode code 1342 = .ok (.iconst 1, 1) := by decide +kernel
theorem dL_1343 : decode code 1343 = .ok (.iadd, 1) := by decide +kernel
theorem dL_1344 : decode code 1344 = .ok (.iaload, 1) := by decide +kernel
theorem dL_1345 : decode code 1345 = .ok (.aload_n 0, 1) := by decide +kernel
theorem dL_1346 : decode code 1346 = .ok (.iload_n 3, 1) := by decide +kernel
theorem dL_1347 : decode code 1347 = .ok (.iconst 2, 1) := by decide +kernel
theorem dL_1348 : decode code 1348 = .ok (.iadd, 1) := by decide +kernel
theorem dL_1349 : decode code 1349 = .ok (.iaload, 1) := by decide +kernel
theorem dL_1350 : decode code 1350 = .ok (.aload_n 0, 1) := by decide +kernel
theorem dL_1351 : decode code 1351 = .ok (.iload_n 3, 1) := by decide +kernel
theorem dL_1352 : decode code 1352 = .ok (.iconst 3, 1) := by decide +kernel
theorem dL_1353 : decode code 1353 = .ok (.iadd, 1) := by decide +kernel
theorem dL_1354 : decode code 1354 = .ok (.iaload, 1) := by decide +kernel
theorem dL_1355 : decode code 1355 = .ok (.invokevirtual 177, 3) := by decide +kernel
theorem dL_1358 : decode code 1358 = .ok (.pop, 1) := by decide +kernel
theorem dL_1359 : decode code 1359 = .ok (.aload_n 2, 1) := by decide +kernel
theorem dL_1360 : decode code 1360 = .ok (.aload_n 0, 1) := by decide +kernel
theorem dL_1361 : decode code 1361 = .ok (.iload_n 3, 1) := by decide +kernel
theorem dL_1362 : decode code 1362 = .ok (.iconst 1, 1) := by decide +kernel
theorem dL_1363 : decode code 1363 = .ok (.iadd, 1) := by decide +kernel
theorem dL_1364 : decode code 1364 = .ok (.iaload, 1) := by decide +kernel
theorem dL_1365 : decode code 1365 = .ok (.aload_n 0, 1) := by decide +kernel
theorem dL_1366 : decode code 1366 = .ok (.iload_n 3, 1) := by decide +kernel
theorem dL_1367 : decode code 1367 = .ok (.iconst 2, 1) := by decide +kernel
theorem dL_1368 : decode code 1368 = .ok (.iadd, 1) := by decide +kernel
theorem dL_1369 : decode code 1369 = .ok (.iaload, 1) := by decide +kernel
theorem dL_1370 : decode code 1370 = .ok (.aload_n 0, 1) := by decide +kernel
theorem dL_1371 : decode code 1371 = .ok (.iload_n 3, 1) := by decide +kernel
theorem dL_1372 : decode code 1372 = .ok (.iconst 3, 1) := by decide +kernel
theorem dL_1373 : decode code 1373 = .ok (.iadd, 1) := by decide +kernel
theorem dL_1374 : decode code 1374 = .ok (.iaload, 1) := by decide +kernel
theorem dL_1375 : decode code 1375 = .ok (.invokevirtual 180, 3) := by decide +kernel
theorem dL_1378 : decode code 1378 = .ok (.pop, 1) := by decide +kernel
theorem dL_1379 : decode code 1379 = .ok (.goto 366, 3) := by decide +kernel
theorem dL_1382 : decode code 1382 = .ok (.aload_n 1, 1) := by decide +kernel
theorem dL_1383 : decode code 1383 = .ok (.aload_n 0, 1) := by decide +kernel
theorem dL_1384 : decode code 1384 = .ok (.iload_n 3, 1) := by decide +kernel
theorem dL_1385 : decode code 1385 = .ok (.iconst 1, 1) := by decide +kernel
theorem dL_1386 : decode code 1386 = .ok (.iadd, 1) := by decide +kernel
theorem dL_1387 : decode code 1387 = .ok (.iaload, 1) := by decide +kernel
theorem dL_1388 : decode code 1388 = .ok (.aload_n 0, 1) := by decide +kernel
theorem dL_1389 : decode code 1389 = .ok (.iload_n 3, 1) := by decide +kernel
theorem dL_1390 : decode code 1390 = .ok (.iconst 2, 1) := by decide +kernel
theorem dL_1391 : decode code 1391 = .ok (.iadd, 1) := by decide +kernel
theorem dL_1392 : decode code 1392 = .ok (.iaload, 1) := by decide +kernel
theorem dL_1393 : decode code 1393 = .ok (.aload_n 0, 1) := by decide +kernel
theorem dL_1394 : decode code 1394 = .ok (.iload_n 3, 1) := by decide +kernel
theorem dL_1395 : decode code 1395 = .ok (.iconst 3, 1) := by decide +kernel
theorem dL_1396 : decode code 1396 = .ok (.iadd, 1) := by decide +kernel
theorem dL_1397 : decode code 1397 = .ok (.iaload, 1) := by decide +kernel
theorem dL_1398 : decode code 1398 = .ok (.invokevirtual 181, 3) := by decide +kernel
theorem dL_1401 : decode code 1401 = .ok (.pop, 1) := by decide +kernel
theorem dL_1402 : decode code 1402 = .ok (.aload_n 2, 1) := by decide +kernel
theorem dL_1403 : decode code 1403 = .ok (.aload_n 0, 1) := by decide +kernel
theorem dL_1404 : decode code 1404 = .ok (.iload_n 3, 1) := by decide +kernel
theorem dL_1405 : decode code 1405 = .ok (.iconst 1, 1) := by decide +kernel
theorem dL_1406 : decode code 1406 = .ok (.iadd, 1) := by decide +kernel
theorem dL_1407 : decode code 1407 = .ok (.iaload, 1) := by decide +kernel
theorem dL_1408 : decode code 1408 = .ok (.aload_n 0, 1) := by decide +kernel
theorem dL_1409 : decode code 1409 = .ok (.iload_n 3, 1) := by decide +kernel
theorem dL_1410 : decode code 1410 = .ok (.iconst 2, 1) := by decide +kernel
theorem dL_1411 : decode code 1411 = .ok (.iadd, 1) := by decide +kernel
theorem dL_1412 : decode code 1412 = .ok (.iaload, 1) := by decide +kernel
theorem dL_1413 : decode code 1413 = .ok (.aload_n 0, 1) := by decide +kernel
theorem dL_1414 : decode code 1414 = .ok (.iload_n 3, 1) := by decide +kernel
theorem dL_1415 : decode code 1415 = .ok (.iconst 3, 1) := by decide +kernel
theorem dL_1416 : decode code 1416 = .ok (.iadd, 1) := by decide +kernel
theorem dL_1417 : decode code 1417 = .ok (.iaload, 1) := by decide +kernel
theorem dL_1418 : decode code 1418 = .ok (.invokevirtual 184, 3) := by decide +kernel
theorem dL_1421 : decode code 1421 = .ok (.pop, 1) := by decide +kernel
theorem dL_1422 : decode code 1422 = .ok (.goto 323, 3) := by decide +kernel
theorem dL_1425 : decode code 1425 = .ok (.aload_n 1, 1) := by decide +kernel
theorem dL_1426 : decode code 1426 = .ok (.aload_n 0, 1) := by decide +kernel
theorem dL_1427 : decode code 1427 = .ok (.iload_n 3, 1) := by decide +kernel
theorem dL_1428 : decode code 1428 = .ok (.iconst 1, 1) := by decide +kernel
theorem dL_1429 : decode code 1429 = .ok (.iadd, 1) := by decide +kernel
theorem dL_1430 : decode code 1430 = .ok (.iaload, 1) := by decide +kernel
theorem dL_1431 : decode code 1431 = .ok (.aload_n 0, 1) := by decide +kernel
theorem dL_1432 : decode code 1432 = .ok (.iload_n 3, 1) := by decide +kernel
theorem dL_1433 : decode code 1433 = .ok (.iconst 2, 1) := by decide +kernel
theorem dL_1434 : decode code 1434 = .ok (.iadd, 1) := by decide +kernel
theorem dL_1435 : decode code 1435 = .ok (.iaload, 1) := by decide +kernel
theorem dL_1436 : decode code 1436 = .ok (.aload_n 0, 1) := by decide +kernel
theorem dL_1437 : decode code 1437 = .ok (.iload_n 3, 1) := by decide +kernel
theorem dL_1438 : decode code 1438 = .ok (.iconst 3, 1) := by decide +kernel
theorem dL_1439 : decode code 1439 = .ok (.iadd, 1) := by decide +kernel
theorem dL_1440 : decode code 1440 = .ok (.iaload, 1) := by decide +kernel
theorem dL_1441 : decode code 1441 = .ok (.invokevirtual 185, 3) := by decide +kernel
theorem dL_1444 : decode code 1444 = .ok (.pop, 1) := by decide +kernel
theorem dL_1445 : decode code 1445 = .ok (.aload_n 2, 1) := by decide +kernel
theorem dL_1446 : decode code 1446 = .ok (.aload_n 0, 1) := by decide +kernel
theorem dL_1447 : decode code 1447 = .ok (.iload_n 3, 1) := by decide +kernel
theorem dL_1448 : decode code 1448 = .ok (.iconst 1, 1) := by decide +kernel
theorem dL_1449 : decode code 1449 = .ok (.iadd, 1) := by decide +kernel
theorem dL_1450 : decode code 1450 = .ok (.iaload, 1) := by decide +kernel
theorem dL_1451 : decode code 1451 = .ok (.aload_n 0, 1) := by decide +kernel
theorem dL_1452 : decode code 1452 = .ok (.iload_n 3, 1) := by decide +kernel
theorem dL_1453 : decode code 1453 = .ok (.iconst 2, 1) := by decide +kernel
theorem dL_1454 : decode code 1454 = .ok (.iadd, 1) := by decide +kernel
theorem dL_1455 : decode code 1455 = .ok (.iaload, 1) := by decide +kernel
theorem dL_1456 : decode code 1456 = .ok (.aload_n 0, 1) := by decide +kernel
theorem dL_1457 : decode code 1457 = .ok (.iload_n 3, 1) := by decide +kernel
theorem dL_1458 : decode code 1458 = .ok (.iconst 3, 1) := by decide +kernel
theorem dL_1459 : decode code 1459 = .ok (.iadd, 1) := by decide +kernel
theorem dL_1460 : decode code 1460 = .ok (.iaload, 1) := by decide +kernel
theorem dL_1461 : decode code 1461 = .ok (.invokevirtual 188, 3) := by decide +kernel
theorem dL_1464 : decode code 1464 = .ok (.pop, 1) := by decide +kernel
theorem dL_1465 : decode code 1465 = .ok (.goto 280, 3) := by decide +kernel
theorem dL_1468 : decode code 1468 = .ok (.aload_n 1, 1) := by decide +kernel
theorem dL_1469 : decode code 1469 = .ok (.aload_n 0, 1) := by decide +kernel
theorem dL_1470 : decode code 1470 = .ok (.iload_n 3, 1) := by decide +kernel
theorem dL_1471 : decode code 1471 = .ok (.iconst 1, 1) := by decide +kernel
theorem dL_1472 : decode code 1472 = .ok (.iadd, 1) := by decide +kernel
theorem dL_1473 : decode code 1473 = .ok (.iaload, 1) := by decide +kernel
theorem dL_1474 : decode code 1474 = .ok (.aload_n 0, 1) := by decide +kernel
theorem dL_1475 : decode code 1475 = .ok (.iload_n 3, 1) := by decide +kernel
theorem dL_1476 : decode code 1476 = .ok (.iconst 2, 1) := by decide +kernel
theorem dL_1477 : decode code 1477 = .ok (.iadd, 1) := by decide +kernel
theorem dL_1478 : decode code 1478 = .ok (.iaload, 1) := by decide +kernel
theorem dL_1479 : decode code 1479 = .ok (.aload_n 0, 1) := by decide +kernel
theorem dL_1480 : decode code 1480 = .ok (.iload_n 3, 1) := by decide +kernel
theorem dL_1481 : decode code 1481 = .ok (.iconst 3, 1) := by decide +kernel
theorem dL_1482 : decode code 1482 = .ok (.iadd, 1) := by decide +kernel
theorem dL_1483 : decode code 1483 = .ok (.iaload, 1) := by decide +kernel
theorem dL_1484 : decode code 1484 = .ok (.invokevirtual 189, 3) := by decide +kernel
theorem dL_1487 : decode code 1487 = .ok (.pop, 1) := by decide +kernel
theorem dL_1488 : decode code 1488 = .ok (.aload_n 2, 1) := by decide +kernel
theorem dL_1489 : decode code 1489 = .ok (.aload_n 0, 1) := by decide +kernel
theorem dL_1490 : decode code 1490 = .ok (.iload_n 3, 1) := by decide +kernel
theorem dL_1491 : decode code 1491 = .ok (.iconst 1, 1) := by decide +kernel
