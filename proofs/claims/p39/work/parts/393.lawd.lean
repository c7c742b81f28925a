theorem zB_dL_law_1364 : zDecB code [(1364, .iload_n 3, 1), (1365, .iconst 3, 1), (1366, .iadd, 1), (1367, .iaload, 1), (1368, .invokevirtual 117, 3), (1371, .pop, 1), (1372, .aload_n 2, 1), (1373, .aload_n 0, 1), (1374, .iload_n 3, 1), (1375, .iconst 1, 1), (1376, .iadd, 1), (1377, .iaload, 1), (1378, .aload_n 0, 1), (1379, .iload_n 3, 1), (1380, .iconst 2, 1), (1381, .iadd, 1), (1382, .iaload, 1), (1383, .aload_n 0, 1), (1384, .iload_n 3, 1), (1385, .iconst 3, 1), (1386, .iadd, 1), (1387, .iaload, 1), (1388, .invokevirtual 120, 3), (1391, .pop, 1), (1392, .goto 686, 3), (1395, .aload_n 1, 1), (1396, .aload_n 0, 1), (1397, .iload_n 3, 1), (1398, .iconst 1, 1), (1399, .iadd, 1), (1400, .iaload, 1), (1401, .aload_n 0, 1), (1402, .iload_n 3, 1), (1403, .iconst 2, 1), (1404, .iadd, 1), (1405, .iaload, 1), (1406, .aload_n 0, 1), (1407, .iload_n 3, 1), (1408, .iconst 3, 1), (1409, .iadd, 1)] = true := by decide +kernel
theorem dL_law_1364 : decode code 1364 = .ok (.iload_n 3, 1) := zDec_at zB_dL_law_1364 0 rfl
theorem dL_law_1365 : decode code 1365 = .ok (.iconst 3, 1) := zDec_at zB_dL_law_1364 1 rfl
theorem dL_law_1366 : decode code 1366 = .ok (.iadd, 1) := zDec_at zB_dL_law_1364 2 rfl
theorem dL_law_1367 : decode code 1367 = .ok (.iaload, 1) := zDec_at zB_dL_law_1364 3 rfl
theorem dL_law_1368 : decode code 1368 = .ok (.invokevirtual 117, 3) := zDec_at zB_dL_law_1364 4 rfl
theorem dL_law_1371 : decode code 1371 = .ok (.pop, 1) := zDec_at zB_dL_law_1364 5 rfl
theorem dL_law_1372 : decode code 1372 = .ok (.aload_n 2, 1) := zDec_at zB_dL_law_1364 6 rfl
theorem dL_law_1373 : decode code 1373 = .ok (.aload_n 0, 1) := zDec_at zB_dL_law_1364 7 rfl
theorem dL_law_1374 : decode code 1374 = .ok (.iload_n 3, 1) := zDec_at zB_dL_law_1364 8 rfl
theorem dL_law_1375 : decode code 1375 = .ok (.iconst 1, 1) := zDec_at zB_dL_law_1364 9 rfl
theorem dL_law_1376 : decode code 1376 = .ok (.iadd, 1) := zDec_at zB_dL_law_1364 10 rfl
theorem dL_law_1377 : decode code 1377 = .ok (.iaload, 1) := zDec_at zB_dL_law_1364 11 rfl
theorem dL_law_1378 : decode code 1378 = .ok (.aload_n 0, 1) := zDec_at zB_dL_law_1364 12 rfl
theorem dL_law_1379 : decode code 1379 = .ok (.iload_n 3, 1) := zDec_at zB_dL_law_1364 13 rfl
theorem dL_law_1380 : decode code 1380 = .ok (.iconst 2, 1) := zDec_at zB_dL_law_1364 14 rfl
theorem dL_law_1381 : decode code 1381 = .ok (.iadd, 1) := zDec_at zB_dL_law_1364 15 rfl
theorem dL_law_1382 : decode code 1382 = .ok (.iaload, 1) := zDec_at zB_dL_law_1364 16 rfl
theorem dL_law_1383 : decode code 1383 = .ok (.aload_n 0, 1) := zDec_at zB_dL_law_1364 17 rfl
theorem dL_law_1384 : decode code 1384 = .ok (.iload_n 3, 1) := zDec_at zB_dL_law_1364 18 rfl
theorem dL_law_1385 : decode code 1385 = .ok (.iconst 3, 1) := zDec_at zB_dL_law_1364 19 rfl
theorem dL_law_1386 : decode code 1386 = .ok (.iadd, 1) := zDec_at zB_dL_law_1364 20 rfl
theorem dL_law_1387 : decode code 1387 = .ok (.iaload, 1) := zDec_at zB_dL_law_1364 21 rfl
theorem dL_law_1388 : decode code 1388 = .ok (.invokevirtual 120, 3) := zDec_at zB_dL_law_1364 22 rfl
theorem dL_law_1391 : decode code 1391 = .ok (.pop, 1) := zDec_at zB_dL_law_1364 23 rfl
theorem dL_law_1392 : decode code 1392 = .ok (.goto 686, 3) := zDec_at zB_dL_law_1364 24 rfl
theorem dL_law_1395 : decode code 1395 = .ok (.aload_n 1, 1) := zDec_at zB_dL_law_1364 25 rfl
theorem dL_law_1396 : decode code 1396 = .ok (.aload_n 0, 1) := zDec_at zB_dL_law_1364 26 rfl
theorem dL_law_1397 : decode code 1397 = .ok (.iload_n 3, 1) := zDec_at zB_dL_law_1364 27 rfl
theorem dL_law_1398 : decode code 1398 = .ok (.iconst 1, 1) := zDec_at zB_dL_law_1364 28 rfl
theorem dL_law_1399 : decode code 1399 = .ok (.iadd, 1) := zDec_at zB_dL_law_1364 29 rfl
theorem dL_law_1400 : decode code 1400 = .ok (.iaload, 1) := zDec_at zB_dL_law_1364 30 rfl
theorem dL_law_1401 : decode code 1401 = .ok (.aload_n 0, 1) := zDec_at zB_dL_law_1364 31 rfl
theorem dL_law_1402 : decode code 1402 = .ok (.iload_n 3, 1) := zDec_at zB_dL_law_1364 32 rfl
theorem dL_law_1403 : decode code 1403 = .ok (.iconst 2, 1) := zDec_at zB_dL_law_1364 33 rfl
theorem dL_law_1404 : decode code 1404 = .ok (.iadd, 1) := zDec_at zB_dL_law_1364 34 rfl
theorem dL_law_1405 : decode code 1405 = .ok (.iaload, 1) := zDec_at zB_dL_law_1364 35 rfl
theorem dL_law_1406 : decode code 1406 = .ok (.aload_n 0, 1) := zDec_at zB_dL_law_1364 36 rfl
theorem dL_law_1407 : decode code 1407 = .ok (.iload_n 3, 1) := zDec_at zB_dL_law_1364 37 rfl
theorem dL_law_1408 : decode code 1408 = .ok (.iconst 3, 1) := zDec_at zB_dL_law_1364 38 rfl
theorem dL_law_1409 : decode code 1409 = .ok (.iadd, 1) := zDec_at zB_dL_law_1364 39 rfl
theorem zB_dL_law_1410 : zDecB code [(1410, .iaload, 1), (1411, .invokevirtual 121, 3), (1414, .pop, 1), (1415, .aload_n 2, 1), (1416, .aload_n 0, 1), (1417, .iload_n 3, 1), (1418, .iconst 1, 1), (1419, .iadd, 1), (1420, .iaload, 1), (1421, .aload_n 0, 1), (1422, .iload_n 3, 1), (1423, .iconst 2, 1), (1424, .iadd, 1), (1425, .iaload, 1), (1426, .aload_n 0, 1), (1427, .iload_n 3, 1), (1428, .iconst 3, 1), (1429, .iadd, 1), (1430, .iaload, 1), (1431, .invokevirtual 124, 3), (1434, .pop, 1), (1435, .goto 643, 3), (1438, .aload_n 1, 1), (1439, .aload_n 0, 1), (1440, .iload_n 3, 1), (1441, .iconst 1, 1), (1442, .iadd, 1), (1443, .iaload, 1), (1444, .aload_n 0, 1), (1445, .iload_n 3, 1), (1446, .iconst 2, 1), (1447, .iadd, 1), (1448, .iaload, 1), (1449, .aload_n 0, 1), (1450, .iload_n 3, 1), (1451, .iconst 3, 1), (1452, .iadd, 1), (1453, .iaload, 1), (1454, .invokevirtual 125, 3), (1457, .pop, 1)] = true := by decide +kernel
theorem dL_law_1410 : decode code 1410 = .ok (.iaload, 1) := zDec_at zB_dL_law_1410 0 rfl
theorem dL_law_1411 : decode code 1411 = .ok (.invokevirtual 121, 3) := zDec_at zB_dL_law_1410 1 rfl
theorem dL_law_1414 : decode code 1414 = .ok (.pop, 1) := zDec_at zB_dL_law_1410 2 rfl
theorem dL_law_1415 : decode code 1415 = .ok (.aload_n 2, 1) := zDec_at zB_dL_law_1410 3 rfl
theorem dL_law_1416 : decode code 1416 = .ok (.aload_n 0, 1) := zDec_at zB_dL_law_1410 4 rfl
theorem dL_law_1417 : decode code 1417 = .ok (.iload_n 3, 1) := zDec_at zB_dL_law_1410 5 rfl
theorem dL_law_1418 : decode code 1418 = .ok (.iconst 1, 1) := zDec_at zB_dL_law_1410 6 rfl
theorem dL_law_1419 : decode code 1419 = .ok (.iadd, 1) := zDec_at zB_dL_law_1410 7 rfl
theorem dL_law_1420 : decode code 1420 = .ok (.iaload, 1) := zDec_at zB_dL_law_1410 8 rfl
theorem dL_law_1421 : decode code 1421 = .ok (.aload_n 0, 1) := zDec_at zB_dL_law_1410 9 rfl
theorem dL_law_1422 : decode code 1422 = .ok (.iload_n 3, 1) := zDec_at zB_dL_law_1410 10 rfl
theorem dL_law_1423 : decode code 1423 = .ok (.iconst 2, 1) := zDec_at zB_dL_law_1410 11 rfl
theorem dL_law_1424 : decode code 1424 = .ok (.iadd, 1) := zDec_at zB_dL_law_1410 12 rfl
theorem dL_law_1425 : decode code 1425 = .ok (.iaload, 1) := zDec_at zB_dL_law_1410 13 rfl
theorem dL_law_1426 : decode code 1426 = .ok (.aload_n 0, 1) := zDec_at zB_dL_law_1410 14 rfl
theorem dL_law_1427 : decode code 1427 = .ok (.iload_n 3, 1) := zDec_at zB_dL_law_1410 15 rfl
theorem dL_law_1428 : decode code 1428 = .ok (.iconst 3, 1) := zDec_at zB_dL_law_1410 16 rfl
theorem dL_law_1429 : decode code 1429 = .ok (.iadd, 1) := zDec_at zB_dL_law_1410 17 rfl
theorem dL_law_1430 : decode code 1430 = .ok (.iaload, 1) := zDec_at zB_dL_law_1410 18 rfl
theorem dL_law_1431 : decode code 1431 = .ok (.invokevirtual 124, 3) := zDec_at zB_dL_law_1410 19 rfl
theorem dL_law_1434 : decode code 1434 = .ok (.pop, 1) := zDec_at zB_dL_law_1410 20 rfl
theorem dL_law_1435 : decode code 1435 = .ok (.goto 643, 3) := zDec_at zB_dL_law_1410 21 rfl
theorem dL_law_1438 : decode code 1438 = .ok (.aload_n 1, 1) := zDec_at zB_dL_law_1410 22 rfl
theorem dL_law_1439 : decode code 1439 = .ok (.aload_n 0, 1) := zDec_at zB_dL_law_1410 23 rfl
theorem dL_law_1440 : decode code 1440 = .ok (.iload_n 3, 1) := zDec_at zB_dL_law_1410 24 rfl
theorem dL_law_1441 : decode code 1441 = .ok (.iconst 1, 1) := zDec_at zB_dL_law_1410 25 rfl
theorem dL_law_1442 : decode code 1442 = .ok (.iadd, 1) := zDec_at zB_dL_law_1410 26 rfl
theorem dL_law_1443 : decode code 1443 = .ok (.iaload, 1) := zDec_at zB_dL_law_1410 27 rfl
theorem dL_law_1444 : decode code 1444 = .ok (.aload_n 0, 1) := zDec_at zB_dL_law_1410 28 rfl
theorem dL_law_1445 : decode code 1445 = .ok (.iload_n 3, 1) := zDec_at zB_dL_law_1410 29 rfl
theorem dL_law_1446 : decode code 1446 = .ok (.iconst 2, 1) := zDec_at zB_dL_law_1410 30 rfl
theorem dL_law_1447 : decode code 1447 = .ok (.iadd, 1) := zDec_at zB_dL_law_1410 31 rfl
theorem dL_law_1448 : decode code 1448 = .ok (.iaload, 1) := zDec_at zB_dL_law_1410 32 rfl
theorem dL_law_1449 : decode code 1449 = .ok (.aload_n 0, 1) := zDec_at zB_dL_law_1410 33 rfl
theorem dL_law_1450 : decode code 1450 = .ok (.iload_n 3, 1) := zDec_at zB_dL_law_1410 34 rfl
theorem dL_law_1451 : decode code 1451 = .ok (.iconst 3, 1) := zDec_at zB_dL_law_1410 35 rfl
theorem dL_law_1452 : decode code 1452 = .ok (.iadd, 1) := zDec_at zB_dL_law_1410 36 rfl
theorem dL_law_1453 : decode code 1453 = .ok (.iaload, 1) := zDec_at zB_dL_law_1410 37 rfl
theorem dL_law_1454 : decode code 1454 = .ok (.invokevirtual 125, 3) := zDec_at zB_dL_law_1410 38 rfl
theorem dL_law_1457 : decode code 1457 = .ok (.pop, 1) := zDec_at zB_dL_law_1410 39 rfl
theorem zB_dL_law_1458 : zDecB code [(1458, .aload_n 2, 1), (1459, .aload_n 0, 1), (1460, .iload_n 3, 1), (1461, .iconst 1, 1), (1462, .iadd, 1), (1463, .iaload, 1), (1464, .aload_n 0, 1), (1465, .iload_n 3, 1), (1466, .iconst 2, 1), (1467, .iadd, 1), (1468, .iaload, 1), (1469, .aload_n 0, 1), (1470, .iload_n 3, 1), (1471, .iconst 3, 1), (1472, .iadd, 1), (1473, .iaload, 1), (1474, .invokevirtual 128, 3), (1477, .pop, 1), (1478, .goto 600, 3), (1481, .aload_n 1, 1), (1482, .aload_n 0, 1), (1483, .iload_n 3, 1), (1484, .iconst 1, 1), (1485, .iadd, 1), (1486, .iaload, 1), (1487, .invokevirtual 129, 3), (1490, .pop, 1), (1491, .aload_n 2, 1), (1492, .aload_n 0, 1), (1493, .iload_n 3, 1), (1494, .iconst 1, 1), (1495, .iadd, 1), (1496, .iaload, 1), (1497, .invokevirtual 132, 3), (1500, .pop, 1), (1501, .goto 577, 3), (1504, .aload_n 1, 1), (1505, .aload_n 0, 1), (1506, .iload_n 3, 1), (1507, .iconst 1, 1)] = true := by decide +kernel
theorem dL_law_1458 : decode code 1458 = .ok (.aload_n 2, 1) := zDec_at zB_dL_law_1458 0 rfl
theorem dL_law_1459 : decode code 1459 = .ok (.aload_n 0, 1) := zDec_at zB_dL_law_1458 1 rfl
theorem dL_law_1460 : decode code 1460 = .ok (.iload_n 3, 1) := zDec_at zB_dL_law_1458 2 rfl
theorem dL_law_1461 : decode code 1461 = .ok (.iconst 1, 1) := zDec_at zB_dL_law_1458 3 rfl
theorem dL_law_1462 : decode code 1462 = .ok (.iadd, 1) := zDec_at zB_dL_law_1458 4 rfl
theorem dL_law_1463 : decode code 1463 = .ok (.iaload, 1) := zDec_at zB_dL_law_1458 5 rfl
theorem dL_law_1464 : decode code 1464 = .ok (.aload_n 0, 1) := zDec_at zB_dL_law_1458 6 rfl
theorem dL_law_1465 : decode code 1465 = .ok (.iload_n 3, 1) := zDec_at zB_dL_law_1458 7 rfl
theorem dL_law_1466 : decode code 1466 = .ok (.iconst 2, 1) := zDec_at zB_dL_law_1458 8 rfl
theorem dL_law_1467 : decode code 1467 = .ok (.iadd, 1) := zDec_at zB_dL_law_1458 9 rfl
theorem dL_law_1468 : decode code 1468 = .ok (.iaload, 1) := zDec_at zB_dL_law_1458 10 rfl
theorem dL_law_1469 : decode code 1469 = .ok (.aload_n 0, 1) := zDec_at zB_dL_law_1458 11 rfl
theorem dL_law_1470 : decode code 1470 = .ok (.iload_n 3, 1) := zDec_at zB_dL_law_1458 12 rfl
theorem dL_law_1471 : decode code 1471 = .ok (.iconst 3, 1) := zDec_at zB_dL_law_1458 13 rfl
theorem dL_law_1472 : decode code 1472 = .ok (.iadd, 1) := zDec_at zB_dL_law_1458 14 rfl
theorem dL_law_1473 : decode code 1473 = .ok (.iaload, 1) := zDec_at zB_dL_law_1458 15 rfl
theorem dL_law_1474 : decode code 1474 = .ok (.invokevirtual 128, 3) := zDec_at zB_dL_law_1458 16 rfl
theorem dL_law_1477 : decode code 1477 = .ok (.pop, 1) := zDec_at zB_dL_law_1458 17 rfl
theorem dL_law_1478 : decode code 1478 = .ok (.goto 600, 3) := zDec_at zB_dL_law_1458 18 rfl
theorem dL_law_1481 : decode code 1481 = .ok (.aload_n 1, 1) := zDec_at zB_dL_law_1458 19 rfl
theorem dL_law_1482 : decode code 1482 = .ok (.aload_n 0, 1) := zDec_at zB_dL_law_1458 20 rfl
theorem dL_law_1483 : decode code 1483 = .ok (.iload_n 3, 1) := zDec_at zB_dL_law_1458 21 rfl
theorem dL_law_1484 : decode code 1484 = .ok (.iconst 1, 1) := zDec_at zB_dL_law_1458 22 rfl
theorem dL_law_1485 : decode code 1485 = .ok (.iadd, 1) := zDec_at zB_dL_law_1458 23 rfl
theorem dL_law_1486 : decode code 1486 = .ok (.iaload, 1) := zDec_at zB_dL_law_1458 24 rfl
theorem dL_law_1487 : decode code 1487 = .ok (.invokevirtual 129, 3) := zDec_at zB_dL_law_1458 25 rfl
theorem dL_law_1490 : decode code 1490 = .ok (.pop, 1) := zDec_at zB_dL_law_1458 26 rfl
theorem dL_law_1491 : decode code 1491 = .ok (.aload_n 2, 1) := zDec_at zB_dL_law_1458 27 rfl
theorem dL_law_1492 : decode code 1492 = .ok (.aload_n 0, 1) := zDec_at zB_dL_law_1458 28 rfl
theorem dL_law_1493 : decode code 1493 = .ok (.iload_n 3, 1) := zDec_at zB_dL_law_1458 29 rfl
theorem dL_law_1494 : decode code 1494 = .ok (.iconst 1, 1) := zDec_at zB_dL_law_1458 30 rfl
theorem dL_law_1495 : decode code 1495 = .ok (.iadd, 1) := zDec_at zB_dL_law_1458 31 rfl
theorem dL_law_1496 : decode code 1496 = .ok (.iaload, 1) := zDec_at zB_dL_law_1458 32 rfl
theorem dL_law_1497 : decode code 1497 = .ok (.invokevirtual 132, 3) := zDec_at zB_dL_law_1458 33 rfl
theorem dL_law_1500 : decode code 1500 = .ok (.pop, 1) := zDec_at zB_dL_law_1458 34 rfl
theorem dL_law_1501 : decode code 1501 = .ok (.goto 577, 3) := zDec_at zB_dL_law_1458 35 rfl
theorem dL_law_1504 : decode code 1504 = .ok (.aload_n 1, 1) := zDec_at zB_dL_law_1458 36 rfl
theorem dL_law_1505 : decode code 1505 = .ok (.aload_n 0, 1) := zDec_at zB_dL_law_1458 37 rfl
theorem dL_law_1506 : decode code 1506 = .ok (.iload_n 3, 1) := zDec_at zB_dL_law_1458 38 rfl
theorem dL_law_1507 : decode code 1507 = .ok (.iconst 1, 1) := zDec_at zB_dL_law_1458 39 rfl
theorem zB_dL_law_1508 : zDecB code [(1508, .iadd, 1), (1509, .iaload, 1), (1510, .aload_n 0, 1), (1511, .iload_n 3, 1), (1512, .iconst 2, 1), (1513, .iadd, 1), (1514, .iaload, 1), (1515, .invokevirtual 133, 3), (1518, .pop, 1), (1519, .aload_n 2, 1), (1520, .aload_n 0, 1), (1521, .iload_n 3, 1), (1522, .iconst 1, 1), (1523, .iadd, 1), (1524, .iaload, 1), (1525, .aload_n 0, 1), (1526, .iload_n 3, 1), (1527, .iconst 2, 1), (1528, .iadd, 1), (1529, .iaload, 1), (1530, .invokevirtual 136, 3), (1533, .pop, 1), (1534, .goto 544, 3), (1537, .aload_n 1, 1), (1538, .aload_n 0, 1), (1539, .iload_n 3, 1), (1540, .iconst 1, 1), (1541, .iadd, 1), (1542, .iaload, 1), (1543, .invokevirtual 137, 3), (1546, .pop, 1), (1547, .aload_n 2, 1), (1548, .aload_n 0, 1), (1549, .iload_n 3, 1), (1550, .iconst 1, 1), (1551, .iadd, 1), (1552, .iaload, 1), (1553, .invokevirtual 140, 3), (1556, .pop, 1), (1557, .goto 521, 3)] = true := by decide +kernel
theorem dL_law_1508 : decode code 1508 = .ok (.iadd, 1) := zDec_at zB_dL_law_1508 0 rfl
theorem dL_law_1509 : decode code 1509 = .ok (.iaload, 1) := zDec_at zB_dL_law_1508 1 rfl
theorem dL_law_1510 : decode code 1510 = .ok (.aload_n 0, 1) := zDec_at zB_dL_law_1508 2 rfl
theorem dL_law_1511 : decode code 1511 = .ok (.iload_n 3, 1) := zDec_at zB_dL_law_1508 3 rfl
theorem dL_law_1512 : decode code 1512 = .ok (.iconst 2, 1) := zDec_at zB_dL_law_1508 4 rfl
theorem dL_law_1513 : decode code 1513 = .ok (.iadd, 1) := zDec_at zB_dL_law_1508 5 rfl
theorem dL_law_1514 : decode code 1514 = .ok (.iaload, 1) := zDec_at zB_dL_law_1508 6 rfl
theorem dL_law_1515 : decode code 1515 = .ok (.invokevirtual 133, 3) := zDec_at zB_dL_law_1508 7 rfl
theorem dL_law_1518 : decode code 1518 = .ok (.pop, 1) := zDec_at zB_dL_law_1508 8 rfl
theorem dL_law_1519 : decode code 1519 = .ok (.aload_n 2, 1) := zDec_at zB_dL_law_1508 9 rfl
theorem dL_law_1520 : decode code 1520 = .ok (.aload_n 0, 1) := zDec_at zB_dL_law_1508 10 rfl
theorem dL_law_1521 : decode code 1521 = .ok (.iload_n 3, 1) := zDec_at zB_dL_law_1508 11 rfl
theorem dL_law_1522 : decode code 1522 = .ok (.iconst 1, 1) := zDec_at zB_dL_law_1508 12 rfl
theorem dL_law_1523 : decode code 1523 = .ok (.iadd, 1) := zDec_at zB_dL_law_1508 13 rfl
theorem dL_law_1524 : decode code 1524 = .ok (.iaload, 1) := zDec_at zB_dL_law_1508 14 rfl
theorem dL_law_1525 : decode code 1525 = .ok (.aload_n 0, 1) := zDec_at zB_dL_law_1508 15 rfl
theorem dL_law_1526 : decode code 1526 = .ok (.iload_n 3, 1) := zDec_at zB_dL_law_1508 16 rfl
theorem dL_law_1527 : decode code 1527 = .ok (.iconst 2, 1) := zDec_at zB_dL_law_1508 17 rfl
theorem dL_law_1528 : decode code 1528 = .ok (.iadd, 1) := zDec_at zB_dL_law_1508 18 rfl
theorem dL_law_1529 : decode code 1529 = .ok (.iaload, 1) := zDec_at zB_dL_law_1508 19 rfl
theorem dL_law_1530 : decode code 1530 = .ok (.invokevirtual 136, 3) := zDec_at zB_dL_law_1508 20 rfl
theorem dL_law_1533 : decode code 1533 = .ok (.pop, 1) := zDec_at zB_dL_law_1508 21 rfl
theorem dL_law_1534 : decode code 1534 = .ok (.goto 544, 3) := zDec_at zB_dL_law_1508 22 rfl
theorem dL_law_1537 : decode code 1537 = .ok (.aload_n 1, 1) := zDec_at zB_dL_law_1508 23 rfl
theorem dL_law_1538 : decode code 1538 = .ok (.aload_n 0, 1) := zDec_at zB_dL_law_1508 24 rfl
theorem dL_law_1539 : decode code 1539 = .ok (.iload_n 3, 1) := zDec_at zB_dL_law_1508 25 rfl
theorem dL_law_1540 : decode code 1540 = .ok (.iconst 1, 1) := zDec_at zB_dL_law_1508 26 rfl
theorem dL_law_1541 : decode code 1541 = .ok (.iadd, 1) := zDec_at zB_dL_law_1508 27 rfl
theorem dL_law_1542 : decode code 1542 = .ok (.iaload, 1) := zDec_at zB_dL_law_1508 28 rfl
theorem dL_law_1543 : decode code 1543 = .ok (.invokevirtual 137, 3) := zDec_at zB_dL_law_1508 29 rfl
theorem dL_law_1546 : decode code 1546 = .ok (.pop, 1) := zDec_at zB_dL_law_1508 30 rfl
theorem dL_law_1547 : decode code 1547 = .ok (.aload_n 2, 1) := zDec_at zB_dL_law_1508 31 rfl
theorem dL_law_1548 : decode code 1548 = .ok (.aload_n 0, 1) := zDec_at zB_dL_law_1508 32 rfl
theorem dL_law_1549 : decode code 1549 = .ok (.iload_n 3, 1) := zDec_at zB_dL_law_1508 33 rfl
theorem dL_law_1550 : decode code 1550 = .ok (.iconst 1, 1) := zDec_at zB_dL_law_1508 34 rfl
theorem dL_law_1551 : decode code 1551 = .ok (.iadd, 1) := zDec_at zB_dL_law_1508 35 rfl
theorem dL_law_1552 : decode code 1552 = .ok (.iaload, 1) := zDec_at zB_dL_law_1508 36 rfl
theorem dL_law_1553 : decode code 1553 = .ok (.invokevirtual 140, 3) := zDec_at zB_dL_law_1508 37 rfl
theorem dL_law_1556 : decode code 1556 = .ok (.pop, 1) := zDec_at zB_dL_law_1508 38 rfl
theorem dL_law_1557 : decode code 1557 = .ok (.goto 521, 3) := zDec_at zB_dL_law_1508 39 rfl
theorem zB_dL_law_1560 : zDecB code [(1560, .aload_n 1, 1), (1561, .aload_n 0, 1), (1562, .iload_n 3, 1), (1563, .iconst 1, 1), (1564, .iadd, 1), (1565, .iaload, 1), (1566, .invokevirtual 141, 3), (1569, .pop, 1), (1570, .aload_n 2, 1), (1571, .aload_n 0, 1), (1572, .iload_n 3, 1), (1573, .iconst 1, 1), (1574, .iadd, 1), (1575, .iaload, 1), (1576, .invokevirtual 144, 3), (1579, .pop, 1), (1580, .goto 498, 3), (1583, .aload_n 1, 1), (1584, .aload_n 0, 1), (1585, .iload_n 3, 1), (1586, .iconst 1, 1), (1587, .iadd, 1), (1588, .iaload, 1), (1589, .aload_n 0, 1), (1590, .iload_n 3, 1), (1591, .iconst 2, 1), (1592, .iadd, 1), (1593, .iaload, 1), (1594, .invokevirtual 145, 3), (1597, .pop, 1), (1598, .aload_n 2, 1), (1599, .aload_n 0, 1), (1600, .iload_n 3, 1), (1601, .iconst 1, 1), (1602, .iadd, 1), (1603, .iaload, 1), (1604, .aload_n 0, 1), (1605, .iload_n 3, 1), (1606, .iconst 2, 1), (1607, .iadd, 1)] = true := by decide +kernel
theorem dL_law_1560 : decode code 1560 = .ok (.aload_n 1, 1) := zDec_at zB_dL_law_1560 0 rfl
theorem dL_law_1561 : decode code 1561 = .ok (.aload_n 0, 1) := zDec_at zB_dL_law_1560 1 rfl
theorem dL_law_1562 : decode code 1562 = .ok (.iload_n 3, 1) := zDec_at zB_dL_law_1560 2 rfl
theorem dL_law_1563 : decode code 1563 = .ok (.iconst 1, 1) := zDec_at zB_dL_law_1560 3 rfl
theorem dL_law_1564 : decode code 1564 = .ok (.iadd, 1) := zDec_at zB_dL_law_1560 4 rfl
theorem dL_law_1565 : decode code 1565 = .ok (.iaload, 1) := zDec_at zB_dL_law_1560 5 rfl
theorem dL_law_1566 : decode code 1566 = .ok (.invokevirtual 141, 3) := zDec_at zB_dL_law_1560 6 rfl
theorem dL_law_1569 : decode code 1569 = .ok (.pop, 1) := zDec_at zB_dL_law_1560 7 rfl
theorem dL_law_1570 : decode code 1570 = .ok (.aload_n 2, 1) := zDec_at zB_dL_law_1560 8 rfl
theorem dL_law_1571 : decode code 1571 = .ok (.aload_n 0, 1) := zDec_at zB_dL_law_1560 9 rfl
theorem dL_law_1572 : decode code 1572 = .ok (.iload_n 3, 1) := zDec_at zB_dL_law_1560 10 rfl
theorem dL_law_1573 : decode code 1573 = .ok (.iconst 1, 1) := zDec_at zB_dL_law_1560 11 rfl
theorem dL_law_1574 : decode code 1574 = .ok (.iadd, 1) := zDec_at zB_dL_law_1560 12 rfl
theorem dL_law_1575 : decode code 1575 = .ok (.iaload, 1) := zDec_at zB_dL_law_1560 13 rfl
theorem dL_law_1576 : decode code 1576 = .ok (.invokevirtual 144, 3) := zDec_at zB_dL_law_1560 14 rfl
theorem dL_law_1579 : decode code 1579 = .ok (.pop, 1) := zDec_at zB_dL_law_1560 15 rfl
theorem dL_law_1580 : decode code 1580 = .ok (.goto 498, 3) := zDec_at zB_dL_law_1560 16 rfl
theorem dL_law_1583 : decode code 1583 = .ok (.aload_n 1, 1) := zDec_at zB_dL_law_1560 17 rfl
theorem dL_law_1584 : decode code 1584 = .ok (.aload_n 0, 1) := zDec_at zB_dL_law_1560 18 rfl
theorem dL_law_1585 : decode code 1585 = .ok (.iload_n 3, 1) := zDec_at zB_dL_law_1560 19 rfl
theorem dL_law_1586 : decode code 1586 = .ok (.iconst 1, 1) := zDec_at zB_dL_law_1560 20 rfl
theorem dL_law_1587 : decode code 1587 = .ok (.iadd, 1) := zDec_at zB_dL_law_1560 21 rfl
theorem dL_law_1588 : decode code 1588 = .ok (.iaload, 1) := zDec_at zB_dL_law_1560 22 rfl
theorem dL_law_1589 : decode code 1589 = .ok (.aload_n 0, 1) := zDec_at zB_dL_law_1560 23 rfl
theorem dL_law_1590 : decode code 1590 = .ok (.iload_n 3, 1) := zDec_at zB_dL_law_1560 24 rfl
theorem dL_law_1591 : decode code 1591 = .ok (.iconst 2, 1) := zDec_at zB_dL_law_1560 25 rfl
theorem dL_law_1592 : decode code 1592 = .ok (.iadd, 1) := zDec_at zB_dL_law_1560 26 rfl
theorem dL_law_1593 : decode code 1593 = .ok (.iaload, 1) := zDec_at zB_dL_law_1560 27 rfl
theorem dL_law_1594 : decode code 1594 = .ok (.invokevirtual 145, 3) := zDec_at zB_dL_law_1560 28 rfl
theorem dL_law_1597 : decode code 1597 = .ok (.pop, 1) := zDec_at zB_dL_law_1560 29 rfl
theorem dL_law_1598 : decode code 1598 = .ok (.aload_n 2, 1) := zDec_at zB_dL_law_1560 30 rfl
theorem dL_law_1599 : decode code 1599 = .ok (.aload_n 0, 1) := zDec_at zB_dL_law_1560 31 rfl
theorem dL_law_1600 : decode code 1600 = .ok (.iload_n 3, 1) := zDec_at zB_dL_law_1560 32 rfl
theorem dL_law_1601 : decode code 1601 = .ok (.iconst 1, 1) := zDec_at zB_dL_law_1560 33 rfl
theorem dL_law_1602 : decode code 1602 = .ok (.iadd, 1) := zDec_at zB_dL_law_1560 34 rfl
theorem dL_law_1603 : decode code 1603 = .ok (.iaload, 1) := zDec_at zB_dL_law_1560 35 rfl
theorem dL_law_1604 : decode code 1604 = .ok (.aload_n 0, 1) := zDec_at zB_dL_law_1560 36 rfl
theorem dL_law_1605 : decode code 1605 = .ok (.iload_n 3, 1) := zDec_at zB_dL_law_1560 37 rfl
theorem dL_law_1606 : decode code 1606 = .ok (.iconst 2, 1) := zDec_at zB_dL_law_1560 38 rfl
theorem dL_law_1607 : decode code 1607 = .ok (.iadd, 1) := zDec_at zB_dL_law_1560 39 rfl
theorem zB_dL_law_1608 : zDecB code [(1608, .iaload, 1), (1609, .invokevirtual 148, 3), (1612, .pop, 1), (1613, .goto 465, 3), (1616, .aload_n 1, 1), (1617, .aload_n 0, 1), (1618, .iload_n 3, 1), (1619, .iconst 1, 1), (1620, .iadd, 1), (1621, .iaload, 1), (1622, .aload_n 0, 1), (1623, .iload_n 3, 1), (1624, .iconst 2, 1), (1625, .iadd, 1), (1626, .iaload, 1), (1627, .aload_n 0, 1), (1628, .iload_n 3, 1), (1629, .iconst 3, 1), (1630, .iadd, 1), (1631, .iaload, 1), (1632, .aload_n 0, 1), (1633, .iload_n 3, 1), (1634, .iconst 4, 1), (1635, .iadd, 1), (1636, .iaload, 1), (1637, .invokevirtual 149, 3), (1640, .pop, 1), (1641, .aload_n 2, 1), (1642, .aload_n 0, 1), (1643, .iload_n 3, 1), (1644, .iconst 1, 1), (1645, .iadd, 1), (1646, .iaload, 1), (1647, .aload_n 0, 1), (1648, .iload_n 3, 1), (1649, .iconst 2, 1), (1650, .iadd, 1), (1651, .iaload, 1), (1652, .aload_n 0, 1), (1653, .iload_n 3, 1)] = true := by decide +kernel
theorem dL_law_1608 : decode code 1608 = .ok (.iaload, 1) := zDec_at zB_dL_law_1608 0 rfl
theorem dL_law_1609 : decode code 1609 = .ok (.invokevirtual 148, 3) := zDec_at zB_dL_law_1608 1 rfl
theorem dL_law_1612 : decode code 1612 = .ok (.pop, 1) := zDec_at zB_dL_law_1608 2 rfl
theorem dL_law_1613 : decode code 1613 = .ok (.goto 465, 3) := zDec_at zB_dL_law_1608 3 rfl
theorem dL_law_1616 : decode code 1616 = .ok (.aload_n 1, 1) := zDec_at zB_dL_law_1608 4 rfl
theorem dL_law_1617 : decode code 1617 = .ok (.aload_n 0, 1) := zDec_at zB_dL_law_1608 5 rfl
theorem dL_law_1618 : decode code 1618 = .ok (.iload_n 3, 1) := zDec_at zB_dL_law_1608 6 rfl
theorem dL_law_1619 : decode code 1619 = .ok (.iconst 1, 1) := zDec_at zB_dL_law_1608 7 rfl
theorem dL_law_1620 : decode code 1620 = .ok (.iadd, 1) := zDec_at zB_dL_law_1608 8 rfl
theorem dL_law_1621 : decode code 1621 = .ok (.iaload, 1) := zDec_at zB_dL_law_1608 9 rfl
theorem dL_law_1622 : decode code 1622 = .ok (.aload_n 0, 1) := zDec_at zB_dL_law_1608 10 rfl
theorem dL_law_1623 : decode code 1623 = .ok (.iload_n 3, 1) := zDec_at zB_dL_law_1608 11 rfl
theorem dL_law_1624 : decode code 1624 = .ok (.iconst 2, 1) := zDec_at zB_dL_law_1608 12 rfl
theorem dL_law_1625 : decode code 1625 = .ok (.iadd, 1) := zDec_at zB_dL_law_1608 13 rfl
theorem dL_law_1626 : decode code 1626 = .ok (.iaload, 1) := zDec_at zB_dL_law_1608 14 rfl
theorem dL_law_1627 : decode code 1627 = .ok (.aload_n 0, 1) := zDec_at zB_dL_law_1608 15 rfl
theorem dL_law_1628 : decode code 1628 = .ok (.iload_n 3, 1) := zDec_at zB_dL_law_1608 16 rfl
theorem dL_law_1629 : decode code 1629 = .ok (.iconst 3, 1) := zDec_at zB_dL_law_1608 17 rfl
theorem dL_law_1630 : decode code 1630 = .ok (.iadd, 1) := zDec_at zB_dL_law_1608 18 rfl
theorem dL_law_1631 : decode code 1631 = .ok (.iaload, 1) := zDec_at zB_dL_law_1608 19 rfl
theorem dL_law_1632 : decode code 1632 = .ok (.aload_n 0, 1) := zDec_at zB_dL_law_1608 20 rfl
theorem dL_law_1633 : decode code 1633 = .ok (.iload_n 3, 1) := zDec_at zB_dL_law_1608 21 rfl
theorem dL_law_1634 : decode code 1634 = .ok (.iconst 4, 1) := zDec_at zB_dL_law_1608 22 rfl
theorem dL_law_1635 : decode code 1635 = .ok (.iadd, 1) := zDec_at zB_dL_law_1608 23 rfl
theorem dL_law_1636 : decode code 1636 = .ok (.iaload, 1) := zDec_at zB_dL_law_1608 24 rfl
theorem dL_law_1637 : decode code 1637 = .ok (.invokevirtual 149, 3) := zDec_at zB_dL_law_1608 25 rfl
theorem dL_law_1640 : decode code 1640 = .ok (.pop, 1) := zDec_at zB_dL_law_1608 26 rfl
theorem dL_law_1641 : decode code 1641 = .ok (.aload_n 2, 1) := zDec_at zB_dL_law_1608 27 rfl
theorem dL_law_1642 : decode code 1642 = .ok (.aload_n 0, 1) := zDec_at zB_dL_law_1608 28 rfl
theorem dL_law_1643 : decode code 1643 = .ok (.iload_n 3, 1) := zDec_at zB_dL_law_1608 29 rfl
theorem dL_law_1644 : decode code 1644 = .ok (.iconst 1, 1) := zDec_at zB_dL_law_1608 30 rfl
theorem dL_law_1645 : decode code 1645 = .ok (.iadd, 1) := zDec_at zB_dL_law_1608 31 rfl
theorem dL_law_1646 : decode code 1646 = .ok (.iaload, 1) := zDec_at zB_dL_law_1608 32 rfl
theorem dL_law_1647 : decode code 1647 = .ok (.aload_n 0, 1) := zDec_at zB_dL_law_1608 33 rfl
theorem dL_law_1648 : decode code 1648 = .ok (.iload_n 3, 1) := zDec_at zB_dL_law_1608 34 rfl
theorem dL_law_1649 : decode code 1649 = .ok (.iconst 2, 1) := zDec_at zB_dL_law_1608 35 rfl
theorem dL_law_1650 : decode code 1650 = .ok (.iadd, 1) := zDec_at zB_dL_law_1608 36 rfl
theorem dL_law_1651 : decode code 1651 = .ok (.iaload, 1) := zDec_at zB_dL_law_1608 37 rfl
theorem dL_law_1652 : decode code 1652 = .ok (.aload_n 0, 1) := zDec_at zB_dL_law_1608 38 rfl
theorem dL_law_1653 : decode code 1653 = .ok (.iload_n 3, 1) := zDec_at zB_dL_law_1608 39 rfl
theorem zB_dL_law_1654 : zDecB code [(1654, .iconst 3, 1), (1655, .iadd, 1), (1656, .iaload, 1), (1657, .aload_n 0, 1), (1658, .iload_n 3, 1), (1659, .iconst 4, 1), (1660, .iadd, 1), (1661, .iaload, 1), (1662, .invokevirtual 152, 3), (1665, .pop, 1), (1666, .goto 412, 3), (1669, .aload_n 1, 1), (1670, .aload_n 0, 1), (1671, .iload_n 3, 1), (1672, .iconst 1, 1), (1673, .iadd, 1), (1674, .iaload, 1), (1675, .aload_n 0, 1), (1676, .iload_n 3, 1), (1677, .iconst 2, 1), (1678, .iadd, 1), (1679, .iaload, 1), (1680, .aload_n 0, 1), (1681, .iload_n 3, 1), (1682, .iconst 3, 1), (1683, .iadd, 1), (1684, .iaload, 1), (1685, .invokevirtual 153, 3), (1688, .pop, 1), (1689, .aload_n 2, 1), (1690, .aload_n 0, 1), (1691, .iload_n 3, 1), (1692, .iconst 1, 1), (1693, .iadd, 1), (1694, .iaload, 1), (1695, .aload_n 0, 1), (1696, .iload_n 3, 1), (1697, .iconst 2, 1), (1698, .iadd, 1), (1699, .iaload, 1)] = true := by decide +kernel
theorem dL_law_1654 : decode code 1654 = .ok (.iconst 3, 1) := zDec_at zB_dL_law_1654 0 rfl
theorem dL_law_1655 : decode code 1655 = .ok (.iadd, 1) := zDec_at zB_dL_law_1654 1 rfl
theorem dL_law_1656 : decode code 1656 = .ok (.iaload, 1) := zDec_at zB_dL_law_1654 2 rfl
theorem dL_law_1657 : decode code 1657 = .ok (.aload_n 0, 1) := zDec_at zB_dL_law_1654 3 rfl
theorem dL_law_1658 : decode code 1658 = .ok (.iload_n 3, 1) := zDec_at zB_dL_law_1654 4 rfl
theorem dL_law_1659 : decode code 1659 = .ok (.iconst 4, 1) := zDec_at zB_dL_law_1654 5 rfl
theorem dL_law_1660 : decode code 1660 = .ok (.iadd, 1) := zDec_at zB_dL_law_1654 6 rfl
theorem dL_law_1661 : decode code 1661 = .ok (.iaload, 1) := zDec_at zB_dL_law_1654 7 rfl
theorem dL_law_1662 : decode code 1662 = .ok (.invokevirtual 152, 3) := zDec_at zB_dL_law_1654 8 rfl
theorem dL_law_1665 : decode code 1665 = .ok (.pop, 1) := zDec_at zB_dL_law_1654 9 rfl
theorem dL_law_1666 : decode code 1666 = .ok (.goto 412, 3) := zDec_at zB_dL_law_1654 10 rfl
theorem dL_law_1669 : decode code 1669 = .ok (.aload_n 1, 1) := zDec_at zB_dL_law_1654 11 rfl
theorem dL_law_1670 : decode code 1670 = .ok (.aload_n 0, 1) := zDec_at zB_dL_law_1654 12 rfl
theorem dL_law_1671 : decode code 1671 = .ok (.iload_n 3, 1) := zDec_at zB_dL_law_1654 13 rfl
theorem dL_law_1672 : decode code 1672 = .ok (.iconst 1, 1) := zDec_at zB_dL_law_1654 14 rfl
theorem dL_law_1673 : decode code 1673 = .ok (.iadd, 1) := zDec_at zB_dL_law_1654 15 rfl
theorem dL_law_1674 : decode code 1674 = .ok (.iaload, 1) := zDec_at zB_dL_law_1654 16 rfl
theorem dL_law_1675 : decode code 1675 = .ok (.aload_n 0, 1) := zDec_at zB_dL_law_1654 17 rfl
theorem dL_law_1676 : decode code 1676 = .ok (.iload_n 3, 1) := zDec_at zB_dL_law_1654 18 rfl
theorem dL_law_1677 : decode code 1677 = .ok (.iconst 2, 1) := zDec_at zB_dL_law_1654 19 rfl
theorem dL_law_1678 : decode code 1678 = .ok (.iadd, 1) := zDec_at zB_dL_law_1654 20 rfl
theorem dL_law_1679 : decode code 1679 = .ok (.iaload, 1) := zDec_at zB_dL_law_1654 21 rfl
theorem dL_law_1680 : decode code 1680 = .ok (.aload_n 0, 1) := zDec_at zB_dL_law_1654 22 rfl
theorem dL_law_1681 : decode code 1681 = .ok (.iload_n 3, 1) := zDec_at zB_dL_law_1654 23 rfl
theorem dL_law_1682 : decode code 1682 = .ok (.iconst 3, 1) := zDec_at zB_dL_law_1654 24 rfl
theorem dL_law_1683 : decode code 1683 = .ok (.iadd, 1) := zDec_at zB_dL_law_1654 25 rfl
theorem dL_law_1684 : decode code 1684 = .ok (.iaload, 1) := zDec_at zB_dL_law_1654 26 rfl
theorem dL_law_1685 : decode code 1685 = .ok (.invokevirtual 153, 3) := zDec_at zB_dL_law_1654 27 rfl
theorem dL_law_1688 : decode code 1688 = .ok (.pop, 1) := zDec_at zB_dL_law_1654 28 rfl
theorem dL_law_1689 : decode code 1689 = .ok (.aload_n 2, 1) := zDec_at zB_dL_law_1654 29 rfl
theorem dL_law_1690 : decode code 1690 = .ok (.aload_n 0, 1) := zDec_at zB_dL_law_1654 30 rfl
theorem dL_law_1691 : decode code 1691 = .ok (.iload_n 3, 1) := zDec_at zB_dL_law_1654 31 rfl
theorem dL_law_1692 : decode code 1692 = .ok (.iconst 1, 1) := zDec_at zB_dL_law_1654 32 rfl
theorem dL_law_1693 : decode code 1693 = .ok (.iadd, 1) := zDec_at zB_dL_law_1654 33 rfl
theorem dL_law_1694 : decode code 1694 = .ok (.iaload, 1) := zDec_at zB_dL_law_1654 34 rfl
theorem dL_law_1695 : decode code 1695 = .ok (.aload_n 0, 1) := zDec_at zB_dL_law_1654 35 rfl
theorem dL_law_1696 : decode code 1696 = .ok (.iload_n 3, 1) := zDec_at zB_dL_law_1654 36 rfl
theorem dL_law_1697 : decode code 1697 = .ok (.iconst 2, 1) := zDec_at zB_dL_law_1654 37 rfl
theorem dL_law_1698 : decode code 1698 = .ok (.iadd, 1) := zDec_at zB_dL_law_1654 38 rfl
theorem dL_law_1699 : decode code 1699 = .ok (.iaload, 1) := zDec_at zB_dL_law_1654 39 rfl
theorem zB_dL_law_1700 : zDecB code [(1700, .aload_n 0, 1), (1701, .iload_n 3, 1), (1702, .iconst 3, 1), (1703, .iadd, 1), (1704, .iaload, 1), (1705, .invokevirtual 156, 3), (1708, .pop, 1), (1709, .goto 369, 3), (1712, .aload_n 1, 1), (1713, .aload_n 0, 1), (1714, .iload_n 3, 1), (1715, .iconst 1, 1), (1716, .iadd, 1), (1717, .iaload, 1), (1718, .aload_n 0, 1), (1719, .iload_n 3, 1), (1720, .iconst 2, 1), (1721, .iadd, 1), (1722, .iaload, 1), (1723, .aload_n 0, 1), (1724, .iload_n 3, 1), (1725, .iconst 3, 1), (1726, .iadd, 1), (1727, .iaload, 1), (1728, .aload_n 0, 1), (1729, .iload_n 3, 1), (1730, .iconst 4, 1), (1731, .iadd, 1), (1732, .iaload, 1), (1733, .invokevirtual 157, 3), (1736, .pop, 1), (1737, .aload_n 2, 1), (1738, .aload_n 0, 1), (1739, .iload_n 3, 1), (1740, .iconst 1, 1), (1741, .iadd, 1), (1742, .iaload, 1), (1743, .aload_n 0, 1), (1744, .iload_n 3, 1), (1745, .iconst 2, 1)] = true := by decide +kernel
theorem dL_law_1700 : decode code 1700 = .ok (.aload_n 0, 1) := zDec_at zB_dL_law_1700 0 rfl
theorem dL_law_1701 : decode code 1701 = .ok (.iload_n 3, 1) := zDec_at zB_dL_law_1700 1 rfl
theorem dL_law_1702 : decode code 1702 = .ok (.iconst 3, 1) := zDec_at zB_dL_law_1700 2 rfl
theorem dL_law_1703 : decode code 1703 = .ok (.iadd, 1) := zDec_at zB_dL_law_1700 3 rfl
theorem dL_law_1704 : decode code 1704 = .ok (.iaload, 1) := zDec_at zB_dL_law_1700 4 rfl
theorem dL_law_1705 : decode code 1705 = .ok (.invokevirtual 156, 3) := zDec_at zB_dL_law_1700 5 rfl
theorem dL_law_1708 : decode code 1708 = .ok (.pop, 1) := zDec_at zB_dL_law_1700 6 rfl
theorem dL_law_1709 : decode code 1709 = .ok (.goto 369, 3) := zDec_at zB_dL_law_1700 7 rfl
theorem dL_law_1712 : decode code 1712 = .ok (.aload_n 1, 1) := zDec_at zB_dL_law_1700 8 rfl
theorem dL_law_1713 : decode code 1713 = .ok (.aload_n 0, 1) := zDec_at zB_dL_law_1700 9 rfl
theorem dL_law_1714 : decode code 1714 = .ok (.iload_n 3, 1) := zDec_at zB_dL_law_1700 10 rfl
theorem dL_law_1715 : decode code 1715 = .ok (.iconst 1, 1) := zDec_at zB_dL_law_1700 11 rfl
theorem dL_law_1716 : decode code 1716 = .ok (.iadd, 1) := zDec_at zB_dL_law_1700 12 rfl
theorem dL_law_1717 : decode code 1717 = .ok (.iaload, 1) := zDec_at zB_dL_law_1700 13 rfl
theorem dL_law_1718 : decode code 1718 = .ok (.aload_n 0, 1) := zDec_at zB_dL_law_1700 14 rfl
theorem dL_law_1719 : decode code 1719 = .ok (.iload_n 3, 1) := zDec_at zB_dL_law_1700 15 rfl
theorem dL_law_1720 : decode code 1720 = .ok (.iconst 2, 1) := zDec_at zB_dL_law_1700 16 rfl
theorem dL_law_1721 : decode code 1721 = .ok (.iadd, 1) := zDec_at zB_dL_law_1700 17 rfl
theorem dL_law_1722 : decode code 1722 = .ok (.iaload, 1) := zDec_at zB_dL_law_1700 18 rfl
theorem dL_law_1723 : decode code 1723 = .ok (.aload_n 0, 1) := zDec_at zB_dL_law_1700 19 rfl
theorem dL_law_1724 : decode code 1724 = .ok (.iload_n 3, 1) := zDec_at zB_dL_law_1700 20 rfl
theorem dL_law_1725 : decode code 1725 = .ok (.iconst 3, 1) := zDec_at zB_dL_law_1700 21 rfl
theorem dL_law_1726 : decode code 1726 = .ok (.iadd, 1) := zDec_at zB_dL_law_1700 22 rfl
theorem dL_law_1727 : decode code 1727 = .ok (.iaload, 1) := zDec_at zB_dL_law_1700 23 rfl
theorem dL_law_1728 : decode code 1728 = .ok (.aload_n 0, 1) := zDec_at zB_dL_law_1700 24 rfl
theorem dL_law_1729 : decode code 1729 = .ok (.iload_n 3, 1) := zDec_at zB_dL_law_1700 25 rfl
theorem dL_law_1730 : decode code 1730 = .ok (.iconst 4, 1) := zDec_at zB_dL_law_1700 26 rfl
theorem dL_law_1731 : decode code 1731 = .ok (.iadd, 1) := zDec_at zB_dL_law_1700 27 rfl
theorem dL_law_1732 : decode code 1732 = .ok (.iaload, 1) := zDec_at zB_dL_law_1700 28 rfl
theorem dL_law_1733 : decode code 1733 = .ok (.invokevirtual 157, 3) := zDec_at zB_dL_law_1700 29 rfl
theorem dL_law_1736 : decode code 1736 = .ok (.pop, 1) := zDec_at zB_dL_law_1700 30 rfl
theorem dL_law_1737 : decode code 1737 = .ok (.aload_n 2, 1) := zDec_at zB_dL_law_1700 31 rfl
theorem dL_law_1738 : decode code 1738 = .ok (.aload_n 0, 1) := zDec_at zB_dL_law_1700 32 rfl
theorem dL_law_1739 : decode code 1739 = .ok (.iload_n 3, 1) := zDec_at zB_dL_law_1700 33 rfl
theorem dL_law_1740 : decode code 1740 = .ok (.iconst 1, 1) := zDec_at zB_dL_law_1700 34 rfl
theorem dL_law_1741 : decode code 1741 = .ok (.iadd, 1) := zDec_at zB_dL_law_1700 35 rfl
theorem dL_law_1742 : decode code 1742 = .ok (.iaload, 1) := zDec_at zB_dL_law_1700 36 rfl
theorem dL_law_1743 : decode code 1743 = .ok (.aload_n 0, 1) := zDec_at zB_dL_law_1700 37 rfl
theorem dL_law_1744 : decode code 1744 = .ok (.iload_n 3, 1) := zDec_at zB_dL_law_1700 38 rfl
theorem dL_law_1745 : decode code 1745 = .ok (.iconst 2, 1) := zDec_at zB_dL_law_1700 39 rfl
theorem zB_dL_law_1746 : zDecB code [(1746, .iadd, 1), (1747, .iaload, 1), (1748, .aload_n 0, 1), (1749, .iload_n 3, 1), (1750, .iconst 3, 1), (1751, .iadd, 1), (1752, .iaload, 1), (1753, .aload_n 0, 1), (1754, .iload_n 3, 1), (1755, .iconst 4, 1), (1756, .iadd, 1), (1757, .iaload, 1), (1758, .invokevirtual 160, 3), (1761, .pop, 1), (1762, .goto 316, 3), (1765, .aload_n 1, 1), (1766, .aload_n 0, 1), (1767, .iload_n 3, 1), (1768, .iconst 1, 1), (1769, .iadd, 1), (1770, .iaload, 1), (1771, .aload_n 0, 1), (1772, .iload_n 3, 1), (1773, .iconst 2, 1), (1774, .iadd, 1), (1775, .iaload, 1), (1776, .aload_n 0, 1), (1777, .iload_n 3, 1), (1778, .iconst 3, 1), (1779, .iadd, 1), (1780, .iaload, 1), (1781, .aload_n 0, 1), (1782, .iload_n 3, 1), (1783, .iconst 4, 1), (1784, .iadd, 1), (1785, .iaload, 1), (1786, .invokevirtual 161, 3), (1789, .pop, 1), (1790, .aload_n 2, 1), (1791, .aload_n 0, 1)] = true := by decide +kernel
theorem dL_law_1746 : decode code 1746 = .ok (.iadd, 1) := zDec_at zB_dL_law_1746 0 rfl
theorem dL_law_1747 : decode code 1747 = .ok (.iaload, 1) := zDec_at zB_dL_law_1746 1 rfl
theorem dL_law_1748 : decode code 1748 = .ok (.aload_n 0, 1) := zDec_at zB_dL_law_1746 2 rfl
theorem dL_law_1749 : decode code 1749 = .ok (.iload_n 3, 1) := zDec_at zB_dL_law_1746 3 rfl
theorem dL_law_1750 : decode code 1750 = .ok (.iconst 3, 1) := zDec_at zB_dL_law_1746 4 rfl
theorem dL_law_1751 : decode code 1751 = .ok (.iadd, 1) := zDec_at zB_dL_law_1746 5 rfl
theorem dL_law_1752 : decode code 1752 = .ok (.iaload, 1) := zDec_at zB_dL_law_1746 6 rfl
theorem dL_law_1753 : decode code 1753 = .ok (.aload_n 0, 1) := zDec_at zB_dL_law_1746 7 rfl
theorem dL_law_1754 : decode code 1754 = .ok (.iload_n 3, 1) := zDec_at zB_dL_law_1746 8 rfl
theorem dL_law_1755 : decode code 1755 = .ok (.iconst 4, 1) := zDec_at zB_dL_law_1746 9 rfl
theorem dL_law_1756 : decode code 1756 = .ok (.iadd, 1) := zDec_at zB_dL_law_1746 10 rfl
theorem dL_law_1757 : decode code 1757 = .ok (.iaload, 1) := zDec_at zB_dL_law_1746 11 rfl
theorem dL_law_1758 : decode code 1758 = .ok (.invokevirtual 160, 3) := zDec_at zB_dL_law_1746 12 rfl
theorem dL_law_1761 : decode code 1761 = .ok (.pop, 1) := zDec_at zB_dL_law_1746 13 rfl
theorem dL_law_1762 : decode code 1762 = .ok (.goto 316, 3) := zDec_at zB_dL_law_1746 14 rfl
theorem dL_law_1765 : decode code 1765 = .ok (.aload_n 1, 1) := zDec_at zB_dL_law_1746 15 rfl
theorem dL_law_1766 : decode code 1766 = .ok (.aload_n 0, 1) := zDec_at zB_dL_law_1746 16 rfl
theorem dL_law_1767 : decode code 1767 = .ok (.iload_n 3, 1) := zDec_at zB_dL_law_1746 17 rfl
theorem dL_law_1768 : decode code 1768 = .ok (.iconst 1, 1) := zDec_at zB_dL_law_1746 18 rfl
theorem dL_law_1769 : decode code 1769 = .ok (.iadd, 1) := zDec_at zB_dL_law_1746 19 rfl
theorem dL_law_1770 : decode code 1770 = .ok (.iaload, 1) := zDec_at zB_dL_law_1746 20 rfl
theorem dL_law_1771 : decode code 1771 = .ok (.aload_n 0, 1) := zDec_at zB_dL_law_1746 21 rfl
theorem dL_law_1772 : decode code 1772 = .ok (.iload_n 3, 1) := zDec_at zB_dL_law_1746 22 rfl
theorem dL_law_1773 : decode code 1773 = .ok (.iconst 2, 1) := zDec_at zB_dL_law_1746 23 rfl
theorem dL_law_1774 : decode code 1774 = .ok (.iadd, 1) := zDec_at zB_dL_law_1746 24 rfl
theorem dL_law_1775 : decode code 1775 = .ok (.iaload, 1) := zDec_at zB_dL_law_1746 25 rfl
theorem dL_law_1776 : decode code 1776 = .ok (.aload_n 0, 1) := zDec_at zB_dL_law_1746 26 rfl
theorem dL_law_1777 : decode code 1777 = .ok (.iload_n 3, 1) := zDec_at zB_dL_law_1746 27 rfl
theorem dL_law_1778 : decode code 1778 = .ok (.iconst 3, 1) := zDec_at zB_dL_law_1746 28 rfl
theorem dL_law_1779 : decode code 1779 = .ok (.iadd, 1) := zDec_at zB_dL_law_1746 29 rfl
theorem dL_law_1780 : decode code 1780 = .ok (.iaload, 1) := zDec_at zB_dL_law_1746 30 rfl
theorem dL_law_1781 : decode code 1781 = .ok (.aload_n 0, 1) := zDec_at zB_dL_law_1746 31 rfl
theorem dL_law_1782 : decode code 1782 = .ok (.iload_n 3, 1) := zDec_at zB_dL_law_1746 32 rfl
theorem dL_law_1783 : decode code 1783 = .ok (.iconst 4, 1) := zDec_at zB_dL_law_1746 33 rfl
theorem dL_law_1784 : decode code 1784 = .ok (.iadd, 1) := zDec_at zB_dL_law_1746 34 rfl
theorem dL_law_1785 : decode code 1785 = .ok (.iaload, 1) := zDec_at zB_dL_law_1746 35 rfl
theorem dL_law_1786 : decode code 1786 = .ok (.invokevirtual 161, 3) := zDec_at zB_dL_law_1746 36 rfl
theorem dL_law_1789 : decode code 1789 = .ok (.pop, 1) := zDec_at zB_dL_law_1746 37 rfl
theorem dL_law_1790 : decode code 1790 = .ok (.aload_n 2, 1) := zDec_at zB_dL_law_1746 38 rfl
theorem dL_law_1791 : decode code 1791 = .ok (.aload_n 0, 1) := zDec_at zB_dL_law_1746 39 rfl
theorem zB_dL_law_1792 : zDecB code [(1792, .iload_n 3, 1), (1793, .iconst 1, 1), (1794, .iadd, 1), (1795, .iaload, 1), (1796, .aload_n 0, 1), (1797, .iload_n 3, 1), (1798, .iconst 2, 1), (1799, .iadd, 1), (1800, .iaload, 1), (1801, .aload_n 0, 1), (1802, .iload_n 3, 1), (1803, .iconst 3, 1), (1804, .iadd, 1), (1805, .iaload, 1), (1806, .aload_n 0, 1), (1807, .iload_n 3, 1), (1808, .iconst 4, 1), (1809, .iadd, 1), (1810, .iaload, 1), (1811, .invokevirtual 164, 3), (1814, .pop, 1), (1815, .goto 263, 3), (1818, .aload_n 1, 1), (1819, .aload_n 0, 1), (1820, .iload_n 3, 1), (1821, .iconst 1, 1), (1822, .iadd, 1), (1823, .iaload, 1), (1824, .aload_n 0, 1), (1825, .iload_n 3, 1), (1826, .iconst 2, 1), (1827, .iadd, 1), (1828, .iaload, 1), (1829, .aload_n 0, 1), (1830, .iload_n 3, 1), (1831, .iconst 3, 1), (1832, .iadd, 1), (1833, .iaload, 1), (1834, .invokevirtual 165, 3), (1837, .pop, 1)] = true := by decide +kernel
theorem dL_law_1792 : decode code 1792 = .ok (.iload_n 3, 1) := zDec_at zB_dL_law_1792 0 rfl
theorem dL_law_1793 : decode code 1793 = .ok (.iconst 1, 1) := zDec_at zB_dL_law_1792 1 rfl
theorem dL_law_1794 : decode code 1794 = .ok (.iadd, 1) := zDec_at zB_dL_law_1792 2 rfl
theorem dL_law_1795 : decode code 1795 = .ok (.iaload, 1) := zDec_at zB_dL_law_1792 3 rfl
theorem dL_law_1796 : decode code 1796 = .ok (.aload_n 0, 1) := zDec_at zB_dL_law_1792 4 rfl
theorem dL_law_1797 : decode code 1797 = .ok (.iload_n 3, 1) := zDec_at zB_dL_law_1792 5 rfl
theorem dL_law_1798 : decode code 1798 = .ok (.iconst 2, 1) := zDec_at zB_dL_law_1792 6 rfl
theorem dL_law_1799 : decode code 1799 = .ok (.iadd, 1) := zDec_at zB_dL_law_1792 7 rfl
theorem dL_law_1800 : decode code 1800 = .ok (.iaload, 1) := zDec_at zB_dL_law_1792 8 rfl
theorem dL_law_1801 : decode code 1801 = .ok (.aload_n 0, 1) := zDec_at zB_dL_law_1792 9 rfl
theorem dL_law_1802 : decode code 1802 = .ok (.iload_n 3, 1) := zDec_at zB_dL_law_1792 10 rfl
theorem dL_law_1803 : decode code 1803 = .ok (.iconst 3, 1) := zDec_at zB_dL_law_1792 11 rfl
theorem dL_law_1804 : decode code 1804 = .ok (.iadd, 1) := zDec_at zB_dL_law_1792 12 rfl
theorem dL_law_1805 : decode code 1805 = .ok (.iaload, 1) := zDec_at zB_dL_law_1792 13 rfl
theorem dL_law_1806 : decode code 1806 = .ok (.aload_n 0, 1) := zDec_at zB_dL_law_1792 14 rfl
theorem dL_law_1807 : decode code 1807 = .ok (.iload_n 3, 1) := zDec_at zB_dL_law_1792 15 rfl
theorem dL_law_1808 : decode code 1808 = .ok (.iconst 4, 1) := zDec_at zB_dL_law_1792 16 rfl
theorem dL_law_1809 : decode code 1809 = .ok (.iadd, 1) := zDec_at zB_dL_law_1792 17 rfl
theorem dL_law_1810 : decode code 1810 = .ok (.iaload, 1) := zDec_at zB_dL_law_1792 18 rfl
theorem dL_law_1811 : decode code 1811 = .ok (.invokevirtual 164, 3) := zDec_at zB_dL_law_1792 19 rfl
theorem dL_law_1814 : decode code 1814 = .ok (.pop, 1) := zDec_at zB_dL_law_1792 20 rfl
theorem dL_law_1815 : decode code 1815 = .ok (.goto 263, 3) := zDec_at zB_dL_law_1792 21 rfl
theorem dL_law_1818 : decode code 1818 = .ok (.aload_n 1, 1) := zDec_at zB_dL_law_1792 22 rfl
theorem dL_law_1819 : decode code 1819 = .ok (.aload_n 0, 1) := zDec_at zB_dL_law_1792 23 rfl
theorem dL_law_1820 : decode code 1820 = .ok (.iload_n 3, 1) := zDec_at zB_dL_law_1792 24 rfl
theorem dL_law_1821 : decode code 1821 = .ok (.iconst 1, 1) := zDec_at zB_dL_law_1792 25 rfl
theorem dL_law_1822 : decode code 1822 = .ok (.iadd, 1) := zDec_at zB_dL_law_1792 26 rfl
theorem dL_law_1823 : decode code 1823 = .ok (.iaload, 1) := zDec_at zB_dL_law_1792 27 rfl
theorem dL_law_1824 : decode code 1824 = .ok (.aload_n 0, 1) := zDec_at zB_dL_law_1792 28 rfl
theorem dL_law_1825 : decode code 1825 = .ok (.iload_n 3, 1) := zDec_at zB_dL_law_1792 29 rfl
theorem dL_law_1826 : decode code 1826 = .ok (.iconst 2, 1) := zDec_at zB_dL_law_1792 30 rfl
theorem dL_law_1827 : decode code 1827 = .ok (.iadd, 1) := zDec_at zB_dL_law_1792 31 rfl
theorem dL_law_1828 : decode code 1828 = .ok (.iaload, 1) := zDec_at zB_dL_law_1792 32 rfl
theorem dL_law_1829 : decode code 1829 = .ok (.aload_n 0, 1) := zDec_at zB_dL_law_1792 33 rfl
theorem dL_law_1830 : decode code 1830 = .ok (.iload_n 3, 1) := zDec_at zB_dL_law_1792 34 rfl
theorem dL_law_1831 : decode code 1831 = .ok (.iconst 3, 1) := zDec_at zB_dL_law_1792 35 rfl
theorem dL_law_1832 : decode code 1832 = .ok (.iadd, 1) := zDec_at zB_dL_law_1792 36 rfl
theorem dL_law_1833 : decode code 1833 = .ok (.iaload, 1) := zDec_at zB_dL_law_1792 37 rfl
theorem dL_law_1834 : decode code 1834 = .ok (.invokevirtual 165, 3) := zDec_at zB_dL_law_1792 38 rfl
theorem dL_law_1837 : decode code 1837 = .ok (.pop, 1) := zDec_at zB_dL_law_1792 39 rfl
theorem zB_dL_law_1838 : zDecB code [(1838, .aload_n 2, 1), (1839, .aload_n 0, 1), (1840, .iload_n 3, 1), (1841, .iconst 1, 1), (1842, .iadd, 1), (1843, .iaload, 1), (1844, .aload_n 0, 1), (1845, .iload_n 3, 1), (1846, .iconst 2, 1), (1847, .iadd, 1), (1848, .iaload, 1), (1849, .aload_n 0, 1), (1850, .iload_n 3, 1), (1851, .iconst 3, 1), (1852, .iadd, 1), (1853, .iaload, 1), (1854, .invokevirtual 168, 3), (1857, .pop, 1), (1858, .goto 220, 3), (1861, .aload_n 1, 1), (1862, .aload_n 0, 1), (1863, .iload_n 3, 1), (1864, .iconst 1, 1), (1865, .iadd, 1), (1866, .iaload, 1), (1867, .invokevirtual 169, 3), (1870, .aload_n 2, 1), (1871, .aload_n 0, 1), (1872, .iload_n 3, 1), (1873, .iconst 1, 1), (1874, .iadd, 1), (1875, .iaload, 1), (1876, .invokevirtual 172, 3), (1879, .if_icmp .eq 199, 3), (1884, .aload_n 1, 1), (1885, .aload_n 0, 1), (1886, .iload_n 3, 1), (1887, .iconst 1, 1), (1888, .iadd, 1), (1889, .iaload, 1)] = true := by decide +kernel
theorem dL_law_1838 : decode code 1838 = .ok (.aload_n 2, 1) := zDec_at zB_dL_law_1838 0 rfl
theorem dL_law_1839 : decode code 1839 = .ok (.aload_n 0, 1) := zDec_at zB_dL_law_1838 1 rfl
theorem dL_law_1840 : decode code 1840 = .ok (.iload_n 3, 1) := zDec_at zB_dL_law_1838 2 rfl
theorem dL_law_1841 : decode code 1841 = .ok (.iconst 1, 1) := zDec_at zB_dL_law_1838 3 rfl
theorem dL_law_1842 : decode code 1842 = .ok (.iadd, 1) := zDec_at zB_dL_law_1838 4 rfl
theorem dL_law_1843 : decode code 1843 = .ok (.iaload, 1) := zDec_at zB_dL_law_1838 5 rfl
theorem dL_law_1844 : decode code 1844 = .ok (.aload_n 0, 1) := zDec_at zB_dL_law_1838 6 rfl
theorem dL_law_1845 : decode code 1845 = .ok (.iload_n 3, 1) := zDec_at zB_dL_law_1838 7 rfl
theorem dL_law_1846 : decode code 1846 = .ok (.iconst 2, 1) := zDec_at zB_dL_law_1838 8 rfl
theorem dL_law_1847 : decode code 1847 = .ok (.iadd, 1) := zDec_at zB_dL_law_1838 9 rfl
theorem dL_law_1848 : decode code 1848 = .ok (.iaload, 1) := zDec_at zB_dL_law_1838 10 rfl
theorem dL_law_1849 : decode code 1849 = .ok (.aload_n 0, 1) := zDec_at zB_dL_law_1838 11 rfl
theorem dL_law_1850 : decode code 1850 = .ok (.iload_n 3, 1) := zDec_at zB_dL_law_1838 12 rfl
theorem dL_law_1851 : decode code 1851 = .ok (.iconst 3, 1) := zDec_at zB_dL_law_1838 13 rfl
theorem dL_law_1852 : decode code 1852 = .ok (.iadd, 1) := zDec_at zB_dL_law_1838 14 rfl
theorem dL_law_1853 : decode code 1853 = .ok (.iaload, 1) := zDec_at zB_dL_law_1838 15 rfl
theorem dL_law_1854 : decode code 1854 = .ok (.invokevirtual 168, 3) := zDec_at zB_dL_law_1838 16 rfl
theorem dL_law_1857 : decode code 1857 = .ok (.pop, 1) := zDec_at zB_dL_law_1838 17 rfl
theorem dL_law_1858 : decode code 1858 = .ok (.goto 220, 3) := zDec_at zB_dL_law_1838 18 rfl
theorem dL_law_1861 : decode code 1861 = .ok (.aload_n 1, 1) := zDec_at zB_dL_law_1838 19 rfl
theorem dL_law_1862 : decode code 1862 = .ok (.aload_n 0, 1) := zDec_at zB_dL_law_1838 20 rfl
theorem dL_law_1863 : decode code 1863 = .ok (.iload_n 3, 1) := zDec_at zB_dL_law_1838 21 rfl
theorem dL_law_1864 : decode code 1864 = .ok (.iconst 1, 1) := zDec_at zB_dL_law_1838 22 rfl
theorem dL_law_1865 : decode code 1865 = .ok (.iadd, 1) := zDec_at zB_dL_law_1838 23 rfl
theorem dL_law_1866 : decode code 1866 = .ok (.iaload, 1) := zDec_at zB_dL_law_1838 24 rfl
theorem dL_law_1867 : decode code 1867 = .ok (.invokevirtual 169, 3) := zDec_at zB_dL_law_1838 25 rfl
theorem dL_law_1870 : decode code 1870 = .ok (.aload_n 2, 1) := zDec_at zB_dL_law_1838 26 rfl
theorem dL_law_1871 : decode code 1871 = .ok (.aload_n 0, 1) := zDec_at zB_dL_law_1838 27 rfl
theorem dL_law_1872 : decode code 1872 = .ok (.iload_n 3, 1) := zDec_at zB_dL_law_1838 28 rfl
theorem dL_law_1873 : decode code 1873 = .ok (.iconst 1, 1) := zDec_at zB_dL_law_1838 29 rfl
theorem dL_law_1874 : decode code 1874 = .ok (.iadd, 1) := zDec_at zB_dL_law_1838 30 rfl
theorem dL_law_1875 : decode code 1875 = .ok (.iaload, 1) := zDec_at zB_dL_law_1838 31 rfl
theorem dL_law_1876 : decode code 1876 = .ok (.invokevirtual 172, 3) := zDec_at zB_dL_law_1838 32 rfl
theorem dL_law_1879 : decode code 1879 = .ok (.if_icmp .eq 199, 3) := zDec_at zB_dL_law_1838 33 rfl
theorem dL_law_1884 : decode code 1884 = .ok (.aload_n 1, 1) := zDec_at zB_dL_law_1838 34 rfl
theorem dL_law_1885 : decode code 1885 = .ok (.aload_n 0, 1) := zDec_at zB_dL_law_1838 35 rfl
theorem dL_law_1886 : decode code 1886 = .ok (.iload_n 3, 1) := zDec_at zB_dL_law_1838 36 rfl
theorem dL_law_1887 : decode code 1887 = .ok (.iconst 1, 1) := zDec_at zB_dL_law_1838 37 rfl
theorem dL_law_1888 : decode code 1888 = .ok (.iadd, 1) := zDec_at zB_dL_law_1838 38 rfl
theorem dL_law_1889 : decode code 1889 = .ok (.iaload, 1) := zDec_at zB_dL_law_1838 39 rfl
theorem zB_dL_law_1890 : zDecB code [(1890, .aload_n 0, 1), (1891, .iload_n 3, 1), (1892, .iconst 2, 1), (1893, .iadd, 1), (1894, .iaload, 1), (1895, .invokevirtual 173, 3), (1898, .pop, 1), (1899, .aload_n 2, 1), (1900, .aload_n 0, 1), (1901, .iload_n 3, 1), (1902, .iconst 1, 1), (1903, .iadd, 1), (1904, .iaload, 1), (1905, .aload_n 0, 1), (1906, .iload_n 3, 1), (1907, .iconst 2, 1), (1908, .iadd, 1), (1909, .iaload, 1), (1910, .invokevirtual 176, 3), (1913, .pop, 1), (1914, .goto 164, 3), (1917, .aload_n 1, 1), (1918, .aload_n 0, 1), (1919, .iload_n 3, 1), (1920, .iconst 1, 1), (1921, .iadd, 1), (1922, .iaload, 1), (1923, .invokevirtual 177, 3), (1926, .pop, 1), (1927, .aload_n 2, 1), (1928, .aload_n 0, 1), (1929, .iload_n 3, 1), (1930, .iconst 1, 1), (1931, .iadd, 1), (1932, .iaload, 1), (1933, .invokevirtual 180, 3), (1936, .pop, 1), (1937, .goto 141, 3), (1940, .aload_n 1, 1), (1941, .aload_n 0, 1)] = true := by decide +kernel
theorem dL_law_1890 : decode code 1890 = .ok (.aload_n 0, 1) := zDec_at zB_dL_law_1890 0 rfl
theorem dL_law_1891 : decode code 1891 = .ok (.iload_n 3, 1) := zDec_at zB_dL_law_1890 1 rfl
theorem dL_law_1892 : decode code 1892 = .ok (.iconst 2, 1) := zDec_at zB_dL_law_1890 2 rfl
theorem dL_law_1893 : decode code 1893 = .ok (.iadd, 1) := zDec_at zB_dL_law_1890 3 rfl
theorem dL_law_1894 : decode code 1894 = .ok (.iaload, 1) := zDec_at zB_dL_law_1890 4 rfl
theorem dL_law_1895 : decode code 1895 = .ok (.invokevirtual 173, 3) := zDec_at zB_dL_law_1890 5 rfl
theorem dL_law_1898 : decode code 1898 = .ok (.pop, 1) := zDec_at zB_dL_law_1890 6 rfl
theorem dL_law_1899 : decode code 1899 = .ok (.aload_n 2, 1) := zDec_at zB_dL_law_1890 7 rfl
theorem dL_law_1900 : decode code 1900 = .ok (.aload_n 0, 1) := zDec_at zB_dL_law_1890 8 rfl
theorem dL_law_1901 : decode code 1901 = .ok (.iload_n 3, 1) := zDec_at zB_dL_law_1890 9 rfl
theorem dL_law_1902 : decode code 1902 = .ok (.iconst 1, 1) := zDec_at zB_dL_law_1890 10 rfl
theorem dL_law_1903 : decode code 1903 = .ok (.iadd, 1) := zDec_at zB_dL_law_1890 11 rfl
theorem dL_law_1904 : decode code 1904 = .ok (.iaload, 1) := zDec_at zB_dL_law_1890 12 rfl
theorem dL_law_1905 : decode code 1905 = .ok (.aload_n 0, 1) := zDec_at zB_dL_law_1890 13 rfl
theorem dL_law_1906 : decode code 1906 = .ok (.iload_n 3, 1) := zDec_at zB_dL_law_1890 14 rfl
theorem dL_law_1907 : decode code 1907 = .ok (.iconst 2, 1) := zDec_at zB_dL_law_1890 15 rfl
theorem dL_law_1908 : decode code 1908 = .ok (.iadd, 1) := zDec_at zB_dL_law_1890 16 rfl
theorem dL_law_1909 : decode code 1909 = .ok (.iaload, 1) := zDec_at zB_dL_law_1890 17 rfl
theorem dL_law_1910 : decode code 1910 = .ok (.invokevirtual 176, 3) := zDec_at zB_dL_law_1890 18 rfl
theorem dL_law_1913 : decode code 1913 = .ok (.pop, 1) := zDec_at zB_dL_law_1890 19 rfl
theorem dL_law_1914 : decode code 1914 = .ok (.goto 164, 3) := zDec_at zB_dL_law_1890 20 rfl
theorem dL_law_1917 : decode code 1917 = .ok (.aload_n 1, 1) := zDec_at zB_dL_law_1890 21 rfl
theorem dL_law_1918 : decode code 1918 = .ok (.aload_n 0, 1) := zDec_at zB_dL_law_1890 22 rfl
theorem dL_law_1919 : decode code 1919 = .ok (.iload_n 3, 1) := zDec_at zB_dL_law_1890 23 rfl
theorem dL_law_1920 : decode code 1920 = .ok (.iconst 1, 1) := zDec_at zB_dL_law_1890 24 rfl
theorem dL_law_1921 : decode code 1921 = .ok (.iadd, 1) := zDec_at zB_dL_law_1890 25 rfl
theorem dL_law_1922 : decode code 1922 = .ok (.iaload, 1) := zDec_at zB_dL_law_1890 26 rfl
theorem dL_law_1923 : decode code 1923 = .ok (.invokevirtual 177, 3) := zDec_at zB_dL_law_1890 27 rfl
theorem dL_law_1926 : decode code 1926 = .ok (.pop, 1) := zDec_at zB_dL_law_1890 28 rfl
theorem dL_law_1927 : decode code 1927 = .ok (.aload_n 2, 1) := zDec_at zB_dL_law_1890 29 rfl
theorem dL_law_1928 : decode code 1928 = .ok (.aload_n 0, 1) := zDec_at zB_dL_law_1890 30 rfl
theorem dL_law_1929 : decode code 1929 = .ok (.iload_n 3, 1) := zDec_at zB_dL_law_1890 31 rfl
theorem dL_law_1930 : decode code 1930 = .ok (.iconst 1, 1) := zDec_at zB_dL_law_1890 32 rfl
theorem dL_law_1931 : decode code 1931 = .ok (.iadd, 1) := zDec_at zB_dL_law_1890 33 rfl
theorem dL_law_1932 : decode code 1932 = .ok (.iaload, 1) := zDec_at zB_dL_law_1890 34 rfl
theorem dL_law_1933 : decode code 1933 = .ok (.invokevirtual 180, 3) := zDec_at zB_dL_law_1890 35 rfl
theorem dL_law_1936 : decode code 1936 = .ok (.pop, 1) := zDec_at zB_dL_law_1890 36 rfl
theorem dL_law_1937 : decode code 1937 = .ok (.goto 141, 3) := zDec_at zB_dL_law_1890 37 rfl
theorem dL_law_1940 : decode code 1940 = .ok (.aload_n 1, 1) := zDec_at zB_dL_law_1890 38 rfl
theorem dL_law_1941 : decode code 1941 = .ok (.aload_n 0, 1) := zDec_at zB_dL_law_1890 39 rfl
theorem zB_dL_law_1942 : zDecB code [(1942, .iload_n 3, 1), (1943, .iconst 1, 1), (1944, .iadd, 1), (1945, .iaload, 1), (1946, .aload_n 0, 1), (1947, .iload_n 3, 1), (1948, .iconst 2, 1), (1949, .iadd, 1), (1950, .iaload, 1), (1951, .invokevirtual 181, 3), (1954, .pop, 1), (1955, .aload_n 2, 1), (1956, .aload_n 0, 1), (1957, .iload_n 3, 1), (1958, .iconst 1, 1), (1959, .iadd, 1), (1960, .iaload, 1), (1961, .aload_n 0, 1), (1962, .iload_n 3, 1), (1963, .iconst 2, 1)] = true := by decide +kernel
theorem dL_law_1942 : decode code 1942 = .ok (.iload_n 3, 1) := zDec_at zB_dL_law_1942 0 rfl
theorem dL_law_1943 : decode code 1943 = .ok (.iconst 1, 1) := zDec_at zB_dL_law_1942 1 rfl
theorem dL_law_1944 : decode code 1944 = .ok (.iadd, 1) := zDec_at zB_dL_law_1942 2 rfl
theorem dL_law_1945 : decode code 1945 = .ok (.iaload, 1) := zDec_at zB_dL_law_1942 3 rfl
theorem dL_law_1946 : decode code 1946 = .ok (.aload_n 0, 1) := zDec_at zB_dL_law_1942 4 rfl
theorem dL_law_1947 : decode code 1947 = .ok (.iload_n 3, 1) := zDec_at zB_dL_law_1942 5 rfl
theorem dL_law_1948 : decode code 1948 = .ok (.iconst 2, 1) := zDec_at zB_dL_law_1942 6 rfl
theorem dL_law_1949 : decode code 1949 = .ok (.iadd, 1) := zDec_at zB_dL_law_1942 7 rfl
theorem dL_law_1950 : decode code 1950 = .ok (.iaload, 1) := zDec_at zB_dL_law_1942 8 rfl
theorem dL_law_1951 : decode code 1951 = .ok (.invokevirtual 181, 3) := zDec_at zB_dL_law_1942 9 rfl
theorem dL_law_1954 : decode code 1954 = .ok (.pop, 1) := zDec_at zB_dL_law_1942 10 rfl
theorem dL_law_1955 : decode code 1955 = .ok (.aload_n 2, 1) := zDec_at zB_dL_law_1942 11 rfl
theorem dL_law_1956 : decode code 1956 = .ok (.aload_n 0, 1) := zDec_at zB_dL_law_1942 12 rfl
theorem dL_law_1957 : decode code 1957 = .ok (.iload_n 3, 1) := zDec_at zB_dL_law_1942 13 rfl
theorem dL_law_1958 : decode code 1958 = .ok (.iconst 1, 1) := zDec_at zB_dL_law_1942 14 rfl
theorem dL_law_1959 : decode code 1959 = .ok (.iadd, 1) := zDec_at zB_dL_law_1942 15 rfl
theorem dL_law_1960 : decode code 1960 = .ok (.iaload, 1) := zDec_at zB_dL_law_1942 16 rfl
theorem dL_law_1961 : decode code 1961 = .ok (.aload_n 0, 1) := zDec_at zB_dL_law_1942 17 rfl
theorem dL_law_1962 : decode code 1962 = .ok (.iload_n 3, 1) := zDec_at zB_dL_law_1942 18 rfl
theorem dL_law_1963 : decode code 1963 = .ok (.iconst 2, 1) := zDec_at zB_dL_law_1942 19 rfl
