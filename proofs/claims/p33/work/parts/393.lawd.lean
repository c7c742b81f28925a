theorem dL_law_1364 : decode code 1364 = .ok (.iload_n 3, 1) := by decide +kernel
theorem dL_law_1365 : decode code 1365 = .ok (.iconst 3, 1) := by decide +kernel
theorem dL_law_1366 : decode code 1366 = .ok (.iadd, 1) := by decide +kernel
theorem dL_law_1367 : decode code 1367 = .ok (.iaload, 1) := by decide +kernel
theorem dL_law_1368 : decode code 1368 = .ok (.invokevirtual 117, 3) := by decide +kernel
theorem dL_law_1371 : decode code 1371 = .ok (.pop, 1) := by decide +kernel
theorem dL_law_1372 : decode code 1372 = .ok (.aload_n 2, 1) := by decide +kernel
theorem dL_law_1373 : decode code 1373 = .ok (.aload_n 0, 1) := by decide +kernel
theorem dL_law_1374 : decode code 1374 = .ok (.iload_n 3, 1) := by decide +kernel
theorem dL_law_1375 : decode code 1375 = .ok (.iconst 1, 1) := by decide +kernel
theorem dL_law_1376 : decode code 1376 = .ok (.iadd, 1) := by decide +kernel
theorem dL_law_1377 : decode code 1377 = .ok (.iaload, 1) := by decide +kernel
theorem dL_law_1378 : decode code 1378 = .ok (.aload_n 0, 1) := by decide +kernel
theorem dL_law_1379 : decode code 1379 = .ok (.iload_n 3, 1) := by decide +kernel
theorem dL_law_1380 : decode code 1380 = .ok (.iconst 2, 1) := by decide +kernel
theorem dL_law_1381 : decode code 1381 = .ok (.iadd, 1) := by decide +kernel
theorem dL_law_1382 : decode code 1382 = .ok (.iaload, 1) := by decide +kernel
theorem dL_law_1383 : decode code 1383 = .ok (.aload_n 0, 1) := by decide +kernel
theorem dL_law_1384 : decode code 1384 = .ok (.iload_n 3, 1) := by decide +kernel
theorem dL_law_1385 : decode code 1385 = .ok (.iconst 3, 1) := by decide +kernel
theorem dL_law_1386 : decode code 1386 = .ok (.iadd, 1) := by decide +kernel
theorem dL_law_1387 : decode code 1387 = .ok (.iaload, 1) := by decide +kernel
theorem dL_law_1388 : decode code 1388 = .ok (.invokevirtual 120, 3) := by decide +kernel
theorem dL_law_1391 : decode code 1391 = .ok (.pop, 1) := by decide +kernel
theorem dL_law_1392 : decode code 1392 = .ok (.goto 686, 3) := by decide +kernel
theorem dL_law_1395 : decode code 1395 = .ok (.aload_n 1, 1) := by decide +kernel
theorem dL_law_1396 : decode code 1396 = .ok (.aload_n 0, 1) := by decide +kernel
theorem dL_law_1397 : decode code 1397 = .ok (.iload_n 3, 1) := by decide +kernel
theorem dL_law_1398 : decode code 1398 = .ok (.iconst 1, 1) := by decide +kernel
theorem dL_law_1399 : decode code 1399 = .ok (.iadd, 1) := by decide +kernel
theorem dL_law_1400 : decode code 1400 = .ok (.iaload, 1) := by decide +kernel
theorem dL_law_1401 : decode code 1401 = .ok (.aload_n 0, 1) := by decide +kernel
theorem dL_law_1402 : decode code 1402 = .ok (.iload_n 3, 1) := by decide +kernel
theorem dL_law_1403 : decode code 1403 = .ok (.iconst 2, 1) := by decide +kernel
theorem dL_law_1404 : decode code 1404 = .ok (.iadd, 1) := by decide +kernel
theorem dL_law_1405 : decode code 1405 = .ok (.iaload, 1) := by decide +kernel
theorem dL_law_1406 : decode code 1406 = .ok (.aload_n 0, 1) := by decide +kernel
theorem dL_law_1407 : decode code 1407 = .ok (.iload_n 3, 1) := by decide +kernel
theorem dL_law_1408 : decode code 1408 = .ok (.iconst 3, 1) := by decide +kernel
theorem dL_law_1409 : decode code 1409 = .ok (.iadd, 1) := by decide +kernel
theorem dL_law_1410 : decode code 1410 = .ok (.iaload, 1) := by decide +kernel
theorem dL_law_1411 : decode code 1411 = .ok (.invokevirtual 121, 3) := by decide +kernel
theorem dL_law_1414 : decode code 1414 = .ok (.pop, 1) := by decide +kernel
theorem dL_law_1415 : decode code 1415 = .ok (.aload_n 2, 1) := by decide +kernel
theorem dL_law_1416 : decode code 1416 = .ok (.aload_n 0, 1) := by decide +kernel
theorem dL_law_1417 : decode code 1417 = .ok (.iload_n 3, 1) := by decide +kernel
theorem dL_law_1418 : decode code 1418 = .ok (.iconst 1, 1) := by decide +kernel
theorem dL_law_1419 : decode code 1419 = .ok (.iadd, 1) := by decide +kernel
theorem dL_law_1420 : decode code 1420 = .ok (.iaload, 1) := by decide +kernel
theorem dL_law_1421 : decode code 1421 = .ok (.aload_n 0, 1) := by decide +kernel
theorem dL_law_1422 : decode code 1422 = .ok (.iload_n 3, 1) := by decide +kernel
theorem dL_law_1423 : decode code 1423 = .ok (.iconst 2, 1) := by decide +kernel
theorem dL_law_1424 : decode code 1424 = .ok (.iadd, 1) := by decide +kernel
theorem dL_law_1425 : decode code 1425 = .ok (.iaload, 1) := by decide +kernel
theorem dL_law_1426 : decode code 1426 = .ok (.aload_n 0, 1) := by decide +kernel
theorem dL_law_1427 : decode code 1427 = .ok (.iload_n 3, 1) := by decide +kernel
theorem dL_law_1428 : decode code 1428 = .ok (.iconst 3, 1) := by decide +kernel
theorem dL_law_1429 : decode code 1429 = .ok (.iadd, 1) := by decide +kernel
theorem dL_law_1430 : decode code 1430 = .ok (.iaload, 1) := by decide +kernel
theorem dL_law_1431 : decode code 1431 = .ok (.invokevirtual 124, 3) := by decide +kernel
theorem dL_law_1434 : decode code 1434 = .ok (.pop, 1) := by decide +kernel
theorem dL_law_1435 : decode code 1435 = .ok (.goto 643, 3) := by decide +kernel
theorem dL_law_1438 : decode code 1438 = .ok (.aload_n 1, 1) := by decide +kernel
theorem dL_law_1439 : decode code 1439 = .ok (.aload_n 0, 1) := by decide +kernel
theorem dL_law_1440 : decode code 1440 = .ok (.iload_n 3, 1) := by decide +kernel
theorem dL_law_1441 : decode code 1441 = .ok (.iconst 1, 1) := by decide +kernel
theorem dL_law_1442 : decode code 1442 = .ok (.iadd, 1) := by decide +kernel
theorem dL_law_1443 : decode code 1443 = .ok (.iaload, 1) := by decide +kernel
theorem dL_law_1444 : decode code 1444 = .ok (.aload_n 0, 1) := by decide +kernel
theorem dL_law_1445 : decode code 1445 = .ok (.iload_n 3, 1) := by decide +kernel
theorem dL_law_1446 : decode code 1446 = .ok (.iconst 2, 1) := by decide +kernel
theorem dL_law_1447 : decode code 1447 = .ok (.iadd, 1) := by decide +kernel
theorem dL_law_1448 : decode code 1448 = .ok (.iaload, 1) := by decide +kernel
theorem dL_law_1449 : decode code 1449 = .ok (.aload_n 0, 1) := by decide +kernel
theorem dL_law_1450 : decode code 1450 = .ok (.iload_n 3, 1) := by decide +kernel
theorem dL_law_1451 : decode code 1451 = .ok (.iconst 3, 1) := by decide +kernel
theorem dL_law_1452 : decode code 1452 = .ok (.iadd, 1) := by decide +kernel
theorem dL_law_1453 : decode code 1453 = .ok (.iaload, 1) := by decide +kernel
theorem dL_law_1454 : decode code 1454 = .ok (.invokevirtual 125, 3) := by decide +kernel
theorem dL_law_1457 : decode code 1457 = .ok (.pop, 1) := by decide +kernel
theorem dL_law_1458 : decode code 1458 = .ok (.aload_n 2, 1) := by decide +kernel
theorem dL_law_1459 : decode code 1459 = .ok (.aload_n 0, 1) := by decide +kernel
theorem dL_law_1460 : decode code 1460 = .ok (.iload_n 3, 1) := by decide +kernel
theorem dL_law_1461 : decode code 1461 = .ok (.iconst 1, 1) := by decide +kernel
theorem dL_law_1462 : decode code 1462 = .ok (.iadd, 1) := by decide +kernel
theorem dL_law_1463 : decode code 1463 = .ok (.iaload, 1) := by decide +kernel
theorem dL_law_1464 : decode code 1464 = .ok (.aload_n 0, 1) := by decide +kernel
theorem dL_law_1465 : decode code 1465 = .ok (.iload_n 3, 1) := by decide +kernel
theorem dL_law_1466 : decode code 1466 = .ok (.iconst 2, 1) := by decide +kernel
theorem dL_law_1467 : decode code 1467 = .ok (.iadd, 1) := by decide +kernel
theorem dL_law_1468 : decode code 1468 = .ok (.iaload, 1) := by decide +kernel
theorem dL_law_1469 : decode code 1469 = .ok (.aload_n 0, 1) := by decide +kernel
theorem dL_law_1470 : decode code 1470 = .ok (.iload_n 3, 1) := by decide +kernel
theorem dL_law_1471 : decode code 1471 = .ok (.iconst 3, 1) := by decide +kernel
theorem dL_law_1472 : decode code 1472 = .ok (.iadd, 1) := by decide +kernel
theorem dL_law_1473 : decode code 1473 = .ok (.iaload, 1) := by decide +kernel
theorem dL_law_1474 : decode code 1474 = .ok (.invokevirtual 128, 3) := by decide +kernel
theorem dL_law_1477 : decode code 1477 = .ok (.pop, 1) := by decide +kernel
theorem dL_law_1478 : decode code 1478 = .ok (.goto 600, 3) := by decide +kernel
theorem dL_law_1481 : decode code 1481 = .ok (.aload_n 1, 1) := by decide +kernel
theorem dL_law_1482 : decode code 1482 = .ok (.aload_n 0, 1) := by decide +kernel
theorem dL_law_1483 : decode code 1483 = .ok (.iload_n 3, 1) := by decide +kernel
theorem dL_law_1484 : decode code 1484 = .ok (.iconst 1, 1) := by decide +kernel
theorem dL_law_1485 : decode code 1485 = .ok (.iadd, 1) := by decide +kernel
theorem dL_law_1486 : decode code 1486 = .ok (.iaload, 1) := by decide +kernel
theorem dL_law_1487 : decode code 1487 = .ok (.invokevirtual 129, 3) := by decide +kernel
theorem dL_law_1490 : decode code 1490 = .ok (.pop, 1) := by decide +kernel
theorem dL_law_1491 : decode code 1491 = .ok (.aload_n 2, 1) := by decide +kernel
theorem dL_law_1492 : decode code 1492 = .ok (.aload_n 0, 1) := by decide +kernel
theorem dL_law_1493 : decode code 1493 = .ok (.iload_n 3, 1) := by decide +kernel
theorem dL_law_1494 : decode code 1494 = .ok (.iconst 1, 1) := by decide +kernel
theorem dL_law_1495 : decode code 1495 = .ok (.iadd, 1) := by decide +kernel
theorem dL_law_1496 : decode code 1496 = .ok (.iaload, 1) := by decide +kernel
theorem dL_law_1497 : decode code 1497 = .ok (.invokevirtual 132, 3) := by decide +kernel
theorem dL_law_1500 : decode code 1500 = .ok (.pop, 1) := by decide +kernel
theorem dL_law_1501 : decode code 1501 = .ok (.goto 577, 3) := by decide +kernel
theorem dL_law_1504 : decode code 1504 = .ok (.aload_n 1, 1) := by decide +kernel
theorem dL_law_1505 : decode code 1505 = .ok (.aload_n 0, 1) := by decide +kernel
theorem dL_law_1506 : decode code 1506 = .ok (.iload_n 3, 1) := by decide +kernel
theorem dL_law_1507 : decode code 1507 = .ok (.iconst 1, 1) := by decide +kernel
theorem dL_law_1508 : decode code 1508 = .ok (.iadd, 1) := by decide +kernel
theorem dL_law_1509 : decode code 1509 = .ok (.iaload, 1) := by decide +kernel
theorem dL_law_1510 : decode code 1510 = .ok (.aload_n 0, 1) := by decide +kernel
theorem dL_law_1511 : decode code 1511 = .ok (.iload_n 3, 1) := by decide +kernel
theorem dL_law_1512 : decode code 1512 = .ok (.iconst 2, 1) := by decide +kernel
theorem dL_law_1513 : decode code 1513 = .ok (.iadd, 1) := by decide +kernel
theorem dL_law_1514 : decode code 1514 = .ok (.iaload, 1) := by decide +kernel
theorem dL_law_1515 : decode code 1515 = .ok (.invokevirtual 133, 3) := by decide +kernel
theorem dL_law_1518 : decode code 1518 = .ok (.pop, 1) := by decide +kernel
theorem dL_law_1519 : decode code 1519 = .ok (.aload_n 2, 1) := by decide +kernel
theorem dL_law_1520 : decode code 1520 = .ok (.aload_n 0, 1) := by decide +kernel
theorem dL_law_1521 : decode code 1521 = .ok (.iload_n 3, 1) := by decide +kernel
theorem dL_law_1522 : decode code 1522 = .ok (.iconst 1, 1) := by decide +kernel
theorem dL_law_1523 : decode code 1523 = .ok (.iadd, 1) := by decide +kernel
theorem dL_law_1524 : decode code 1524 = .ok (.iaload, 1) := by decide +kernel
theorem dL_law_1525 : decode code 1525 = .ok (.aload_n 0, 1) := by decide +kernel
theorem dL_law_1526 : decode code 1526 = .ok (.iload_n 3, 1) := by decide +kernel
theorem dL_law_1527 : decode code 1527 = .ok (.iconst 2, 1) := by decide +kernel
theorem dL_law_1528 : decode code 1528 = .ok (.iadd, 1) := by decide +kernel
theorem dL_law_1529 : decode code 1529 = .ok (.iaload, 1) := by decide +kernel
theorem dL_law_1530 : decode code 1530 = .ok (.invokevirtual 136, 3) := by decide +kernel
theorem dL_law_1533 : decode code 1533 = .ok (.pop, 1) := by decide +kernel
theorem dL_law_1534 : decode code 1534 = .ok (.goto 544, 3) := by decide +kernel
theorem dL_law_1537 : decode code 1537 = .ok (.aload_n 1, 1) := by decide +kernel
theorem dL_law_1538 : decode code 1538 = .ok (.aload_n 0, 1) := by decide +kernel
theorem dL_law_1539 : decode code 1539 = .ok (.iload_n 3, 1) := by decide +kernel
theorem dL_law_1540 : decode code 1540 = .ok (.iconst 1, 1) := by decide +kernel
theorem dL_law_1541 : decode code 1541 = .ok (.iadd, 1) := by decide +kernel
theorem dL_law_1542 : decode code 1542 = .ok (.iaload, 1) := by decide +kernel
theorem dL_law_1543 : decode code 1543 = .ok (.invokevirtual 137, 3) := by decide +kernel
theorem dL_law_1546 : decode code 1546 = .ok (.pop, 1) := by decide +kernel
theorem dL_law_1547 : decode code 1547 = .ok (.aload_n 2, 1) := by decide +kernel
theorem dL_law_1548 : decode code 1548 = .ok (.aload_n 0, 1) := by decide +kernel
theorem dL_law_1549 : decode code 1549 = .ok (.iload_n 3, 1) := by decide +kernel
theorem dL_law_1550 : decode code 1550 = .ok (.iconst 1, 1) := by decide +kernel
theorem dL_law_1551 : decode code 1551 = .ok (.iadd, 1) := by decide +kernel
theorem dL_law_1552 : decode code 1552 = .ok (.iaload, 1) := by decide +kernel
theorem dL_law_1553 : decode code 1553 = .ok (.invokevirtual 140, 3) := by decide +kernel
theorem dL_law_1556 : decode code 1556 = .ok (.pop, 1) := by decide +kernel
theorem dL_law_1557 : decode code 1557 = .ok (.goto 521, 3) := by decide +kernel
theorem dL_law_1560 : decode code 1560 = .ok (.aload_n 1, 1) := by decide +kernel
theorem dL_law_1561 : decode code 1561 = .ok (.aload_n 0, 1) := by decide +kernel
theorem dL_law_1562 : decode code 1562 = .ok (.iload_n 3, 1) := by decide +kernel
theorem dL_law_1563 : decode code 1563 = .ok (.iconst 1, 1) := by decide +kernel
theorem dL_law_1564 : decode code 1564 = .ok (.iadd, 1) := by decide +kernel
theorem dL_law_1565 : decode code 1565 = .ok (.iaload, 1) := by decide +kernel
theorem dL_law_1566 : decode code 1566 = .ok (.invokevirtual 141, 3) := by decide +kernel
theorem dL_law_1569 : decode code 1569 = .ok (.pop, 1) := by decide +kernel
theorem dL_law_1570 : decode code 1570 = .ok (.aload_n 2, 1) := by decide +kernel
theorem dL_law_1571 : decode code 1571 = .ok (.aload_n 0, 1) := by decide +kernel
theorem dL_law_1572 : decode code 1572 = .ok (.iload_n 3, 1) := by decide +kernel
theorem dL_law_1573 : decode code 1573 = .ok (.iconst 1, 1) := by decide +kernel
theorem dL_law_1574 : decode code 1574 = .ok (.iadd, 1) := by decide +kernel
theorem dL_law_1575 : decode code 1575 = .ok (.iaload, 1) := by decide +kernel
theorem dL_law_1576 : decode code 1576 = .ok (.invokevirtual 144, 3) := by decide +kernel
theorem dL_law_1579 : decode code 1579 = .ok (.pop, 1) := by decide +kernel
theorem dL_law_1580 : decode code 1580 = .ok (.goto 498, 3) := by decide +kernel
theorem dL_law_1583 : decode code 1583 = .ok (.aload_n 1, 1) := by decide +kernel
theorem dL_law_1584 : decode code 1584 = .ok (.aload_n 0, 1) := by decide +kernel
theorem dL_law_1585 : decode code 1585 = .ok (.iload_n 3, 1) := by decide +kernel
theorem dL_law_1586 : decode code 1586 = .ok (.iconst 1, 1) := by decide +kernel
theorem dL_law_1587 : decode code 1587 = .ok (.iadd, 1) := by decide +kernel
theorem dL_law_1588 : decode code 1588 = .ok (.iaload, 1) := by decide +kernel
theorem dL_law_1589 : decode code 1589 = .ok (.aload_n 0, 1) := by decide +kernel
theorem dL_law_1590 : decode code 1590 = .ok (.iload_n 3, 1) := by decide +kernel
theorem dL_law_1591 : decode code 1591 = .ok (.iconst 2, 1) := by decide +kernel
theorem dL_law_1592 : decode code 1592 = .ok (.iadd, 1) := by decide +kernel
theorem dL_law_1593 : decode code 1593 = .ok (.iaload, 1) := by decide +kernel
theorem dL_law_1594 : decode code 1594 = .ok (.invokevirtual 145, 3) := by decide +kernel
theorem dL_law_1597 : decode code 1597 = .ok (.aload_n 2, 1) := by decide +kernel
theorem dL_law_1598 : decode code 1598 = .ok (.aload_n 0, 1) := by decide +kernel
theorem dL_law_1599 : decode code 1599 = .ok (.iload_n 3, 1) := by decide +kernel
theorem dL_law_1600 : decode code 1600 = .ok (.iconst 1, 1) := by decide +kernel
theorem dL_law_1601 : decode code 1601 = .ok (.iadd, 1) := by decide +kernel
theorem dL_law_1602 : decode code 1602 = .ok (.iaload, 1) := by decide +kernel
theorem dL_law_1603 : decode code 1603 = .ok (.aload_n 0, 1) := by decide +kernel
theorem dL_law_1604 : decode code 1604 = .ok (.iload_n 3, 1) := by decide +kernel
theorem dL_law_1605 : decode code 1605 = .ok (.iconst 2, 1) := by decide +kernel
theorem dL_law_1606 : decode code 1606 = .ok (.iadd, 1) := by decide +kernel
theorem dL_law_1607 : decode code 1607 = .ok (.iaload, 1) := by decide +kernel
theorem dL_law_1608 : decode code 1608 = .ok (.invokevirtual 148, 3) := by decide +kernel
theorem dL_law_1611 : decode code 1611 = .ok (.if_icmp .eq 467, 3) := by decide +kernel
theorem dL_law_1616 : decode code 1616 = .ok (.aload_n 1, 1) := by decide +kernel
theorem dL_law_1617 : decode code 1617 = .ok (.aload_n 0, 1) := by decide +kernel
theorem dL_law_1618 : decode code 1618 = .ok (.iload_n 3, 1) := by decide +kernel
theorem dL_law_1619 : decode code 1619 = .ok (.iconst 1, 1) := by decide +kernel
theorem dL_law_1620 : decode code 1620 = .ok (.iadd, 1) := by decide +kernel
theorem dL_law_1621 : decode code 1621 = .ok (.iaload, 1) := by decide +kernel
theorem dL_law_1622 : decode code 1622 = .ok (.aload_n 0, 1) := by decide +kernel
theorem dL_law_1623 : decode code 1623 = .ok (.iload_n 3, 1) := by decide +kernel
theorem dL_law_1624 : decode code 1624 = .ok (.iconst 2, 1) := by decide +kernel
theorem dL_law_1625 : decode code 1625 = .ok (.iadd, 1) := by decide +kernel
theorem dL_law_1626 : decode code 1626 = .ok (.iaload, 1) := by decide +kernel
theorem dL_law_1627 : decode code 1627 = .ok (.aload_n 0, 1) := by decide +kernel
theorem dL_law_1628 : decode code 1628 = .ok (.iload_n 3, 1) := by decide +kernel
theorem dL_law_1629 : decode code 1629 = .ok (.iconst 3, 1) := by decide +kernel
theorem dL_law_1630 : decode code 1630 = .ok (.iadd, 1) := by decide +kernel
theorem dL_law_1631 : decode code 1631 = .ok (.iaload, 1) := by decide +kernel
theorem dL_law_1632 : decode code 1632 = .ok (.aload_n 0, 1) := by decide +kernel
theorem dL_law_1633 : decode code 1633 = .ok (.iload_n 3, 1) := by decide +kernel
theorem dL_law_1634 : decode code 1634 = .ok (.iconst 4, 1) := by decide +kernel
theorem dL_law_1635 : decode code 1635 = .ok (.iadd, 1) := by decide +kernel
theorem dL_law_1636 : decode code 1636 = .ok (.iaload, 1) := by decide +kernel
theorem dL_law_1637 : decode code 1637 = .ok (.invokevirtual 149, 3) := by decide +kernel
theorem dL_law_1640 : decode code 1640 = .ok (.pop, 1) := by decide +kernel
theorem dL_law_1641 : decode code 1641 = .ok (.aload_n 2, 1) := by decide +kernel
theorem dL_law_1642 : decode code 1642 = .ok (.aload_n 0, 1) := by decide +kernel
theorem dL_law_1643 : decode code 1643 = .ok (.iload_n 3, 1) := by decide +kernel
theorem dL_law_1644 : decode code 1644 = .ok (.iconst 1, 1) := by decide +kernel
theorem dL_law_1645 : decode code 1645 = .ok (.iadd, 1) := by decide +kernel
theorem dL_law_1646 : decode code 1646 = .ok (.iaload, 1) := by decide +kernel
theorem dL_law_1647 : decode code 1647 = .ok (.aload_n 0, 1) := by decide +kernel
theorem dL_law_1648 : decode code 1648 = .ok (.iload_n 3, 1) := by decide +kernel
theorem dL_law_1649 : decode code 1649 = .ok (.iconst 2, 1) := by decide +kernel
theorem dL_law_1650 : decode code 1650 = .ok (.iadd, 1) := by decide +kernel
theorem dL_law_1651 : decode code 1651 = .ok (.iaload, 1) := by decide +kernel
theorem dL_law_1652 : decode code 1652 = .ok (.aload_n 0, 1) := by decide +kernel
theorem dL_law_1653 : decode code 1653 = .ok (.iload_n 3, 1) := by decide +kernel
theorem dL_law_1654 : decode code 1654 = .ok (.iconst 3, 1) := by decide +kernel
theorem dL_law_1655 : decode code 1655 = .ok (.iadd, 1) := by decide +kernel
theorem dL_law_1656 : decode code 1656 = .ok (.iaload, 1) := by decide +kernel
theorem dL_law_1657 : decode code 1657 = .ok (.aload_n 0, 1) := by decide +kernel
theorem dL_law_1658 : decode code 1658 = .ok (.iload_n 3, 1) := by decide +kernel
theorem dL_law_1659 : decode code 1659 = .ok (.iconst 4, 1) := by decide +kernel
theorem dL_law_1660 : decode code 1660 = .ok (.iadd, 1) := by decide +kernel
theorem dL_law_1661 : decode code 1661 = .ok (.iaload, 1) := by decide +kernel
theorem dL_law_1662 : decode code 1662 = .ok (.invokevirtual 152, 3) := by decide +kernel
theorem dL_law_1665 : decode code 1665 = .ok (.pop, 1) := by decide +kernel
theorem dL_law_1666 : decode code 1666 = .ok (.goto 412, 3) := by decide +kernel
theorem dL_law_1669 : decode code 1669 = .ok (.aload_n 1, 1) := by decide +kernel
theorem dL_law_1670 : decode code 1670 = .ok (.aload_n 0, 1) := by decide +kernel
theorem dL_law_1671 : decode code 1671 = .ok (.iload_n 3, 1) := by decide +kernel
theorem dL_law_1672 : decode code 1672 = .ok (.iconst 1, 1) := by decide +kernel
theorem dL_law_1673 : decode code 1673 = .ok (.iadd, 1) := by decide +kernel
theorem dL_law_1674 : decode code 1674 = .ok (.iaload, 1) := by decide +kernel
theorem dL_law_1675 : decode code 1675 = .ok (.aload_n 0, 1) := by decide +kernel
theorem dL_law_1676 : decode code 1676 = .ok (.iload_n 3, 1) := by decide +kernel
theorem dL_law_1677 : decode code 1677 = .ok (.iconst 2, 1) := by decide +kernel
theorem dL_law_1678 : decode code 1678 = .ok (.iadd, 1) := by decide +kernel
theorem dL_law_1679 : decode code 1679 = .ok (.iaload, 1) := by decide +kernel
theorem dL_law_1680 : decode code 1680 = .ok (.aload_n 0, 1) := by decide +kernel
theorem dL_law_1681 : decode code 1681 = .ok (.iload_n 3, 1) := by decide +kernel
theorem dL_law_1682 : decode code 1682 = .ok (.iconst 3, 1) := by decide +kernel
theorem dL_law_1683 : decode code 1683 = .ok (.iadd, 1) := by decide +kernel
theorem dL_law_1684 : decode code 1684 = .ok (.iaload, 1) := by decide +kernel
theorem dL_law_1685 : decode code 1685 = .ok (.invokevirtual 153, 3) := by decide +kernel
theorem dL_law_1688 : decode code 1688 = .ok (.pop, 1) := by decide +kernel
theorem dL_law_1689 : decode code 1689 = .ok (.aload_n 2, 1) := by decide +kernel
theorem dL_law_1690 : decode code 1690 = .ok (.aload_n 0, 1) := by decide +kernel
theorem dL_law_1691 : decode code 1691 = .ok (.iload_n 3, 1) := by decide +kernel
theorem dL_law_1692 : decode code 1692 = .ok (.iconst 1, 1) := by decide +kernel
theorem dL_law_1693 : decode code 1693 = .ok (.iadd, 1) := by decide +kernel
theorem dL_law_1694 : decode code 1694 = .ok (.iaload, 1) := by decide +kernel
theorem dL_law_1695 : decode code 1695 = .ok (.aload_n 0, 1) := by decide +kernel
theorem dL_law_1696 : decode code 1696 = .ok (.iload_n 3, 1) := by decide +kernel
theorem dL_law_1697 : decode code 1697 = .ok (.iconst 2, 1) := by decide +kernel
theorem dL_law_1698 : decode code 1698 = .ok (.iadd, 1) := by decide +kernel
theorem dL_law_1699 : decode code 1699 = .ok (.iaload, 1) := by decide +kernel
theorem dL_law_1700 : decode code 1700 = .ok (.aload_n 0, 1) := by decide +kernel
theorem dL_law_1701 : decode code 1701 = .ok (.iload_n 3, 1) := by decide +kernel
theorem dL_law_1702 : decode code 1702 = .ok (.iconst 3, 1) := by decide +kernel
theorem dL_law_1703 : decode code 1703 = .ok (.iadd, 1) := by decide +kernel
theorem dL_law_1704 : decode code 1704 = .ok (.iaload, 1) := by decide +kernel
theorem dL_law_1705 : decode code 1705 = .ok (.invokevirtual 156, 3) := by decide +kernel
theorem dL_law_1708 : decode code 1708 = .ok (.pop, 1) := by decide +kernel
theorem dL_law_1709 : decode code 1709 = .ok (.goto 369, 3) := by decide +kernel
theorem dL_law_1712 : decode code 1712 = .ok (.aload_n 1, 1) := by decide +kernel
theorem dL_law_1713 : decode code 1713 = .ok (.aload_n 0, 1) := by decide +kernel
theorem dL_law_1714 : decode code 1714 = .ok (.iload_n 3, 1) := by decide +kernel
theorem dL_law_1715 : decode code 1715 = .ok (.iconst 1, 1) := by decide +kernel
theorem dL_law_1716 : decode code 1716 = .ok (.iadd, 1) := by decide +kernel
theorem dL_law_1717 : decode code 1717 = .ok (.iaload, 1) := by decide +kernel
theorem dL_law_1718 : decode code 1718 = .ok (.aload_n 0, 1) := by decide +kernel
theorem dL_law_1719 : decode code 1719 = .ok (.iload_n 3, 1) := by decide +kernel
theorem dL_law_1720 : decode code 1720 = .ok (.iconst 2, 1) := by decide +kernel
theorem dL_law_1721 : decode code 1721 = .ok (.iadd, 1) := by decide +kernel
theorem dL_law_1722 : decode code 1722 = .ok (.iaload, 1) := by decide +kernel
theorem dL_law_1723 : decode code 1723 = .ok (.aload_n 0, 1) := by decide +kernel
theorem dL_law_1724 : decode code 1724 = .ok (.iload_n 3, 1) := by decide +kernel
theorem dL_law_1725 : decode code 1725 = .ok (.iconst 3, 1) := by decide +kernel
theorem dL_law_1726 : decode code 1726 = .ok (.iadd, 1) := by decide +kernel
theorem dL_law_1727 : decode code 1727 = .ok (.iaload, 1) := by decide +kernel
theorem dL_law_1728 : decode code 1728 = .ok (.aload_n 0, 1) := by decide +kernel
theorem dL_law_1729 : decode code 1729 = .ok (.iload_n 3, 1) := by decide +kernel
theorem dL_law_1730 : decode code 1730 = .ok (.iconst 4, 1) := by decide +kernel
theorem dL_law_1731 : decode code 1731 = .ok (.iadd, 1) := by decide +kernel
theorem dL_law_1732 : decode code 1732 = .ok (.iaload, 1) := by decide +kernel
theorem dL_law_1733 : decode code 1733 = .ok (.invokevirtual 157, 3) := by decide +kernel
theorem dL_law_1736 : decode code 1736 = .ok (.pop, 1) := by decide +kernel
theorem dL_law_1737 : decode code 1737 = .ok (.aload_n 2, 1) := by decide +kernel
theorem dL_law_1738 : decode code 1738 = .ok (.aload_n 0, 1) := by decide +kernel
theorem dL_law_1739 : decode code 1739 = .ok (.iload_n 3, 1) := by decide +kernel
theorem dL_law_1740 : decode code 1740 = .ok (.iconst 1, 1) := by decide +kernel
theorem dL_law_1741 : decode code 1741 = .ok (.iadd, 1) := by decide +kernel
theorem dL_law_1742 : decode code 1742 = .ok (.iaload, 1) := by decide +kernel
theorem dL_law_1743 : decode code 1743 = .ok (.aload_n 0, 1) := by decide +kernel
theorem dL_law_1744 : decode code 1744 = .ok (.iload_n 3, 1) := by decide +kernel
theorem dL_law_1745 : decode code 1745 = .ok (.iconst 2, 1) := by decide +kernel
theorem dL_law_1746 : decode code 1746 = .ok (.iadd, 1) := by decide +kernel
theorem dL_law_1747 : decode code 1747 = .ok (.iaload, 1) := by decide +kernel
theorem dL_law_1748 : decode code 1748 = .ok (.aload_n 0, 1) := by decide +kernel
theorem dL_law_1749 : decode code 1749 = .ok (.iload_n 3, 1) := by decide +kernel
theorem dL_law_1750 : decode code 1750 = .ok (.iconst 3, 1) := by decide +kernel
theorem dL_law_1751 : decode code 1751 = .ok (.iadd, 1) := by decide +kernel
theorem dL_law_1752 : decode code 1752 = .ok (.iaload, 1) := by decide +kernel
theorem dL_law_1753 : decode code 1753 = .ok (.aload_n 0, 1) := by decide +kernel
theorem dL_law_1754 : decode code 1754 = .ok (.iload_n 3, 1) := by decide +kernel
theorem dL_law_1755 : decode code 1755 = .ok (.iconst 4, 1) := by decide +kernel
theorem dL_law_1756 : decode code 1756 = .ok (.iadd, 1) := by decide +kernel
theorem dL_law_1757 : decode code 1757 = .ok (.iaload, 1) := by decide +kernel
theorem dL_law_1758 : decode code 1758 = .ok (.invokevirtual 160, 3) := by decide +kernel
theorem dL_law_1761 : decode code 1761 = .ok (.pop, 1) := by decide +kernel
theorem dL_law_1762 : decode code 1762 = .ok (.goto 316, 3) := by decide +kernel
theorem dL_law_1765 : decode code 1765 = .ok (.aload_n 1, 1) := by decide +kernel
theorem dL_law_1766 : decode code 1766 = .ok (.aload_n 0, 1) := by decide +kernel
theorem dL_law_1767 : decode code 1767 = .ok (.iload_n 3, 1) := by decide +kernel
theorem dL_law_1768 : decode code 1768 = .ok (.iconst 1, 1) := by decide +kernel
theorem dL_law_1769 : decode code 1769 = .ok (.iadd, 1) := by decide +kernel
theorem dL_law_1770 : decode code 1770 = .ok (.iaload, 1) := by decide +kernel
theorem dL_law_1771 : decode code 1771 = .ok (.aload_n 0, 1) := by decide +kernel
theorem dL_law_1772 : decode code 1772 = .ok (.iload_n 3, 1) := by decide +kernel
theorem dL_law_1773 : decode code 1773 = .ok (.iconst 2, 1) := by decide +kernel
theorem dL_law_1774 : decode code 1774 = .ok (.iadd, 1) := by decide +kernel
theorem dL_law_1775 : decode code 1775 = .ok (.iaload, 1) := by decide +kernel
theorem dL_law_1776 : decode code 1776 = .ok (.aload_n 0, 1) := by decide +kernel
theorem dL_law_1777 : decode code 1777 = .ok (.iload_n 3, 1) := by decide +kernel
theorem dL_law_1778 : decode code 1778 = .ok (.iconst 3, 1) := by decide +kernel
theorem dL_law_1779 : decode code 1779 = .ok (.iadd, 1) := by decide +kernel
theorem dL_law_1780 : decode code 1780 = .ok (.iaload, 1) := by decide +kernel
theorem dL_law_1781 : decode code 1781 = .ok (.aload_n 0, 1) := by decide +kernel
theorem dL_law_1782 : decode code 1782 = .ok (.iload_n 3, 1) := by decide +kernel
theorem dL_law_1783 : decode code 1783 = .ok (.iconst 4, 1) := by decide +kernel
theorem dL_law_1784 : decode code 1784 = .ok (.iadd, 1) := by decide +kernel
theorem dL_law_1785 : decode code 1785 = .ok (.iaload, 1) := by decide +kernel
theorem dL_law_1786 : decode code 1786 = .ok (.invokevirtual 161, 3) := by decide +kernel
theorem dL_law_1789 : decode code 1789 = .ok (.pop, 1) := by decide +kernel
theorem dL_law_1790 : decode code 1790 = .ok (.aload_n 2, 1) := by decide +kernel
theorem dL_law_1791 : decode code 1791 = .ok (.aload_n 0, 1) := by decide +kernel
theorem dL_law_1792 : decode code 1792 = .ok (.iload_n 3, 1) := by decide +kernel
theorem dL_law_1793 : decode code 1793 = .ok (.iconst 1, 1) := by decide +kernel
theorem dL_law_1794 : decode code 1794 = .ok (.iadd, 1) := by decide +kernel
theorem dL_law_1795 : decode code 1795 = .ok (.iaload, 1) := by decide +kernel
theorem dL_law_1796 : decode code 1796 = .ok (.aload_n 0, 1) := by decide +kernel
theorem dL_law_1797 : decode code 1797 = .ok (.iload_n 3, 1) := by decide +kernel
theorem dL_law_1798 : decode code 1798 = .ok (.iconst 2, 1) := by decide +kernel
theorem dL_law_1799 : decode code 1799 = .ok (.iadd, 1) := by decide +kernel
theorem dL_law_1800 : decode code 1800 = .ok (.iaload, 1) := by decide +kernel
theorem dL_law_1801 : decode code 1801 = .ok (.aload_n 0, 1) := by decide +kernel
theorem dL_law_1802 : decode code 1802 = .ok (.iload_n 3, 1) := by decide +kernel
theorem dL_law_1803 : decode code 1803 = .ok (.iconst 3, 1) := by decide +kernel
theorem dL_law_1804 : decode code 1804 = .ok (.iadd, 1) := by decide +kernel
theorem dL_law_1805 : decode code 1805 = .ok (.iaload, 1) := by decide +kernel
theorem dL_law_1806 : decode code 1806 = .ok (.aload_n 0, 1) := by decide +kernel
theorem dL_law_1807 : decode code 1807 = .ok (.iload_n 3, 1) := by decide +kernel
theorem dL_law_1808 : decode code 1808 = .ok (.iconst 4, 1) := by decide +kernel
theorem dL_law_1809 : decode code 1809 = .ok (.iadd, 1) := by decide +kernel
theorem dL_law_1810 : decode code 1810 = .ok (.iaload, 1) := by decide +kernel
theorem dL_law_1811 : decode code 1811 = .ok (.invokevirtual 164, 3) := by decide +kernel
theorem dL_law_1814 : decode code 1814 = .ok (.pop, 1) := by decide +kernel
theorem dL_law_1815 : decode code 1815 = .ok (.goto 263, 3) := by decide +kernel
theorem dL_law_1818 : decode code 1818 = .ok (.aload_n 1, 1) := by decide +kernel
theorem dL_law_1819 : decode code 1819 = .ok (.aload_n 0, 1) := by decide +kernel
theorem dL_law_1820 : decode code 1820 = .ok (.iload_n 3, 1) := by decide +kernel
theorem dL_law_1821 : decode code 1821 = .ok (.iconst 1, 1) := by decide +kernel
theorem dL_law_1822 : decode code 1822 = .ok (.iadd, 1) := by decide +kernel
theorem dL_law_1823 : decode code 1823 = .ok (.iaload, 1) := by decide +kernel
theorem dL_law_1824 : decode code 1824 = .ok (.aload_n 0, 1) := by decide +kernel
theorem dL_law_1825 : decode code 1825 = .ok (.iload_n 3, 1) := by decide +kernel
theorem dL_law_1826 : decode code 1826 = .ok (.iconst 2, 1) := by decide +kernel
theorem dL_law_1827 : decode code 1827 = .ok (.iadd, 1) := by decide +kernel
theorem dL_law_1828 : decode code 1828 = .ok (.iaload, 1) := by decide +kernel
theorem dL_law_1829 : decode code 1829 = .ok (.aload_n 0, 1) := by decide +kernel
theorem dL_law_1830 : decode code 1830 = .ok (.iload_n 3, 1) := by decide +kernel
theorem dL_law_1831 : decode code 1831 = .ok (.iconst 3, 1) := by decide +kernel
theorem dL_law_1832 : decode code 1832 = .ok (.iadd, 1) := by decide +kernel
theorem dL_law_1833 : decode code 1833 = .ok (.iaload, 1) := by decide +kernel
theorem dL_law_1834 : decode code 1834 = .ok (.invokevirtual 165, 3) := by decide +kernel
theorem dL_law_1837 : decode code 1837 = .ok (.pop, 1) := by decide +kernel
theorem dL_law_1838 : decode code 1838 = .ok (.aload_n 2, 1) := by decide +kernel
theorem dL_law_1839 : decode code 1839 = .ok (.aload_n 0, 1) := by decide +kernel
theorem dL_law_1840 : decode code 1840 = .ok (.iload_n 3, 1) := by decide +kernel
theorem dL_law_1841 : decode code 1841 = .ok (.iconst 1, 1) := by decide +kernel
theorem dL_law_1842 : decode code 1842 = .ok (.iadd, 1) := by decide +kernel
theorem dL_law_1843 : decode code 1843 = .ok (.iaload, 1) := by decide +kernel
theorem dL_law_1844 : decode code 1844 = .ok (.aload_n 0, 1) := by decide +kernel
theorem dL_law_1845 : decode code 1845 = .ok (.iload_n 3, 1) := by decide +kernel
theorem dL_law_1846 : decode code 1846 = .ok (.iconst 2, 1) := by decide +kernel
theorem dL_law_1847 : decode code 1847 = .ok (.iadd, 1) := by decide +kernel
theorem dL_law_1848 : decode code 1848 = .ok (.iaload, 1) := by decide +kernel
theorem dL_law_1849 : decode code 1849 = .ok (.aload_n 0, 1) := by decide +kernel
theorem dL_law_1850 : decode code 1850 = .ok (.iload_n 3, 1) := by decide +kernel
theorem dL_law_1851 : decode code 1851 = .ok (.iconst 3, 1) := by decide +kernel
theorem dL_law_1852 : decode code 1852 = .ok (.iadd, 1) := by decide +kernel
theorem dL_law_1853 : decode code 1853 = .ok (.iaload, 1) := by decide +kernel
theorem dL_law_1854 : decode code 1854 = .ok (.invokevirtual 168, 3) := by decide +kernel
theorem dL_law_1857 : decode code 1857 = .ok (.pop, 1) := by decide +kernel
theorem dL_law_1858 : decode code 1858 = .ok (.goto 220, 3) := by decide +kernel
theorem dL_law_1861 : decode code 1861 = .ok (.aload_n 1, 1) := by decide +kernel
theorem dL_law_1862 : decode code 1862 = .ok (.aload_n 0, 1) := by decide +kernel
theorem dL_law_1863 : decode code 1863 = .ok (.iload_n 3, 1) := by decide +kernel
theorem dL_law_1864 : decode code 1864 = .ok (.iconst 1, 1) := by decide +kernel
theorem dL_law_1865 : decode code 1865 = .ok (.iadd, 1) := by decide +kernel
theorem dL_law_1866 : decode code 1866 = .ok (.iaload, 1) := by decide +kernel
theorem dL_law_1867 : decode code 1867 = .ok (.invokevirtual 169, 3) := by decide +kernel
theorem dL_law_1870 : decode code 1870 = .ok (.pop, 1) := by decide +kernel
theorem dL_law_1871 : decode code 1871 = .ok (.aload_n 2, 1) := by decide +kernel
theorem dL_law_1872 : decode code 1872 = .ok (.aload_n 0, 1) := by decide +kernel
theorem dL_law_1873 : decode code 1873 = .ok (.iload_n 3, 1) := by decide +kernel
theorem dL_law_1874 : decode code 1874 = .ok (.iconst 1, 1) := by decide +kernel
theorem dL_law_1875 : decode code 1875 = .ok (.iadd, 1) := by decide +kernel
theorem dL_law_1876 : decode code 1876 = .ok (.iaload, 1) := by decide +kernel
theorem dL_law_1877 : decode code 1877 = .ok (.invokevirtual 172, 3) := by decide +kernel
theorem dL_law_1880 : decode code 1880 = .ok (.pop, 1) := by decide +kernel
theorem dL_law_1881 : decode code 1881 = .ok (.goto 197, 3) := by decide +kernel
theorem dL_law_1884 : decode code 1884 = .ok (.aload_n 1, 1) := by decide +kernel
theorem dL_law_1885 : decode code 1885 = .ok (.aload_n 0, 1) := by decide +kernel
theorem dL_law_1886 : decode code 1886 = .ok (.iload_n 3, 1) := by decide +kernel
theorem dL_law_1887 : decode code 1887 = .ok (.iconst 1, 1) := by decide +kernel
theorem dL_law_1888 : decode code 1888 = .ok (.iadd, 1) := by decide +kernel
theorem dL_law_1889 : decode code 1889 = .ok (.iaload, 1) := by decide +kernel
theorem dL_law_1890 : decode code 1890 = .ok (.aload_n 0, 1) := by decide +kernel
theorem dL_law_1891 : decode code 1891 = .ok (.iload_n 3, 1) := by decide +kernel
theorem dL_law_1892 : decode code 1892 = .ok (.iconst 2, 1) := by decide +kernel
theorem dL_law_1893 : decode code 1893 = .ok (.iadd, 1) := by decide +kernel
theorem dL_law_1894 : decode code 1894 = .ok (.iaload, 1) := by decide +kernel
theorem dL_law_1895 : decode code 1895 = .ok (.invokevirtual 173, 3) := by decide +kernel
theorem dL_law_1898 : decode code 1898 = .ok (.pop, 1) := by decide +kernel
theorem dL_law_1899 : decode code 1899 = .ok (.aload_n 2, 1) := by decide +kernel
theorem dL_law_1900 : decode code 1900 = .ok (.aload_n 0, 1) := by decide +kernel
theorem dL_law_1901 : decode code 1901 = .ok (.iload_n 3, 1) := by decide +kernel
theorem dL_law_1902 : decode code 1902 = .ok (.iconst 1, 1) := by decide +kernel
theorem dL_law_1903 : decode code 1903 = .ok (.iadd, 1) := by decide +kernel
theorem dL_law_1904 : decode code 1904 = .ok (.iaload, 1) := by decide +kernel
theorem dL_law_1905 : decode code 1905 = .ok (.aload_n 0, 1) := by decide +kernel
theorem dL_law_1906 : decode code 1906 = .ok (.iload_n 3, 1) := by decide +kernel
theorem dL_law_1907 : decode code 1907 = .ok (.iconst 2, 1) := by decide +kernel
theorem dL_law_1908 : decode code 1908 = .ok (.iadd, 1) := by decide +kernel
theorem dL_law_1909 : decode code 1909 = .ok (.iaload, 1) := by decide +kernel
theorem dL_law_1910 : decode code 1910 = .ok (.invokevirtual 176, 3) := by decide +kernel
theorem dL_law_1913 : decode code 1913 = .ok (.pop, 1) := by decide +kernel
theorem dL_law_1914 : decode code 1914 = .ok (.goto 164, 3) := by decide +kernel
theorem dL_law_1917 : decode code 1917 = .ok (.aload_n 1, 1) := by decide +kernel
theorem dL_law_1918 : decode code 1918 = .ok (.aload_n 0, 1) := by decide +kernel
theorem dL_law_1919 : decode code 1919 = .ok (.iload_n 3, 1) := by decide +kernel
theorem dL_law_1920 : decode code 1920 = .ok (.iconst 1, 1) := by decide +kernel
theorem dL_law_1921 : decode code 1921 = .ok (.iadd, 1) := by decide +kernel
theorem dL_law_1922 : decode code 1922 = .ok (.iaload, 1) := by decide +kernel
theorem dL_law_1923 : decode code 1923 = .ok (.invokevirtual 177, 3) := by decide +kernel
theorem dL_law_1926 : decode code 1926 = .ok (.pop, 1) := by decide +kernel
theorem dL_law_1927 : decode code 1927 = .ok (.aload_n 2, 1) := by decide +kernel
theorem dL_law_1928 : decode code 1928 = .ok (.aload_n 0, 1) := by decide +kernel
theorem dL_law_1929 : decode code 1929 = .ok (.iload_n 3, 1) := by decide +kernel
theorem dL_law_1930 : decode code 1930 = .ok (.iconst 1, 1) := by decide +kernel
theorem dL_law_1931 : decode code 1931 = .ok (.iadd, 1) := by decide +kernel
theorem dL_law_1932 : decode code 1932 = .ok (.iaload, 1) := by decide +kernel
theorem dL_law_1933 : decode code 1933 = .ok (.invokevirtual 180, 3) := by decide +kernel
theorem dL_law_1936 : decode code 1936 = .ok (.pop, 1) := by decide +kernel
theorem dL_law_1937 : decode code 1937 = .ok (.goto 141, 3) := by decide +kernel
theorem dL_law_1940 : decode code 1940 = .ok (.aload_n 1, 1) := by decide +kernel
theorem dL_law_1941 : decode code 1941 = .ok (.aload_n 0, 1) := by decide +kernel
theorem dL_law_1942 : decode code 1942 = .ok (.iload_n 3, 1) := by decide +kernel
theorem dL_law_1943 : decode code 1943 = .ok (.iconst 1, 1) := by decide +kernel
theorem dL_law_1944 : decode code 1944 = .ok (.iadd, 1) := by decide +kernel
theorem dL_law_1945 : decode code 1945 = .ok (.iaload, 1) := by decide +kernel
theorem dL_law_1946 : decode code 1946 = .ok (.aload_n 0, 1) := by decide +kernel
theorem dL_law_1947 : decode code 1947 = .ok (.iload_n 3, 1) := by decide +kernel
theorem dL_law_1948 : decode code 1948 = .ok (.iconst 2, 1) := by decide +kernel
theorem dL_law_1949 : decode code 1949 = .ok (.iadd, 1) := by decide +kernel
theorem dL_law_1950 : decode code 1950 = .ok (.iaload, 1) := by decide +kernel
theorem dL_law_1951 : decode code 1951 = .ok (.invokevirtual 181, 3) := by decide +kernel
theorem dL_law_1954 : decode code 1954 = .ok (.pop, 1) := by decide +kernel
theorem dL_law_1955 : decode code 1955 = .ok (.aload_n 2, 1) := by decide +kernel
theorem dL_law_1956 : decode code 1956 = .ok (.aload_n 0, 1) := by decide +kernel
theorem dL_law_1957 : decode code 1957 = .ok (.iload_n 3, 1) := by decide +kernel
theorem dL_law_1958 : decode code 1958 = .ok (.iconst 1, 1) := by decide +kernel
theorem dL_law_1959 : decode code 1959 = .ok (.iadd, 1) := by decide +kernel
theorem dL_law_1960 : decode code 1960 = .ok (.iaload, 1) := by decide +kernel
theorem dL_law_1961 : decode code 1961 = .ok (.aload_n 0, 1) := by decide +kernel
theorem dL_law_1962 : decode code 1962 = .ok (.iload_n 3, 1) := by decide +kernel
theorem dL_law_1963 : decode code 1963 = .ok (.iconst 2, 1) := by decide +kernel
