theorem dL_law_1347 : decode cL_law 1347 = .ok (.aload_n 0, 1) := by decide +kernel
theorem dL_law_1348 : decode cL_law 1348 = .ok (.iload_n 3, 1) := by decide +kernel
theorem dL_law_1349 : decode cL_law 1349 = .ok (.iconst 4, 1) := by decide +kernel
theorem dL_law_1350 : decode cL_law 1350 = .ok (.iadd, 1) := by decide +kernel
theorem dL_law_1351 : decode cL_law 1351 = .ok (.iaload, 1) := by decide +kernel
theorem dL_law_1352 : decode cL_law 1352 = .ok (.invokevirtual 128, 3) := by decide +kernel
theorem dL_law_1355 : decode cL_law 1355 = .ok (.aload_n 2, 1) := by decide +kernel
theorem dL_law_1356 : decode cL_law 1356 = .ok (.aload_n 0, 1) := by decide +kernel
theorem dL_law_1357 : decode cL_law 1357 = .ok (.iload_n 3, 1) := by decide +kernel
theorem dL_law_1358 : decode cL_law 1358 = .ok (.iconst 1, 1) := by decide +kernel
theorem dL_law_1359 : decode cL_law 1359 = .ok (.iadd, 1) := by decide +kernel
theorem dL_law_1360 : decode cL_law 1360 = .ok (.iaload, 1) := by decide +kernel
theorem dL_law_1361 : decode cL_law 1361 = .ok (.aload_n 0, 1) := by decide +kernel
theorem dL_law_1362 : decode cL_law 1362 = .ok (.iload_n 3, 1) := by decide +kernel
theorem dL_law_1363 : decode cL_law 1363 = .ok (.iconst 2, 1) := by decide +kernel
theorem dL_law_1364 : decode cL_law 1364 = .ok (.iadd, 1) := by decide +kernel
theorem dL_law_1365 : decode cL_law 1365 = .ok (.iaload, 1) := by decide +kernel
theorem dL_law_1366 : decode cL_law 1366 = .ok (.i2l, 1) := by decide +kernel
theorem dL_law_1367 : decode cL_law 1367 = .ok (.bipush 32, 2) := by decide +kernel
theorem dL_law_1369 : decode cL_law 1369 = .ok (.lshl, 1) := by decide +kernel
theorem dL_law_1370 : decode cL_law 1370 = .ok (.aload_n 0, 1) := by decide +kernel
theorem dL_law_1371 : decode cL_law 1371 = .ok (.iload_n 3, 1) := by decide +kernel
theorem dL_law_1372 : decode cL_law 1372 = .ok (.iconst 3, 1) := by decide +kernel
theorem dL_law_1373 : decode cL_law 1373 = .ok (.iadd, 1) := by decide +kernel
theorem dL_law_1374 : decode cL_law 1374 = .ok (.iaload, 1) := by decide +kernel
theorem dL_law_1375 : decode cL_law 1375 = .ok (.i2l, 1) := by decide +kernel
theorem dL_law_1376 : decode cL_law 1376 = .ok (.ldc2_w 23, 3) := by decide +kernel
theorem dL_law_1379 : decode cL_law 1379 = .ok (.land, 1) := by decide +kernel
theorem dL_law_1380 : decode cL_law 1380 = .ok (.lor, 1) := by decide +kernel
theorem dL_law_1381 : decode cL_law 1381 = .ok (.aload_n 0, 1) := by decide +kernel
theorem dL_law_1382 : decode cL_law 1382 = .ok (.iload_n 3, 1) := by decide +kernel
theorem dL_law_1383 : decode cL_law 1383 = .ok (.iconst 4, 1) := by decide +kernel
theorem dL_law_1384 : decode cL_law 1384 = .ok (.iadd, 1) := by decide +kernel
theorem dL_law_1385 : decode cL_law 1385 = .ok (.iaload, 1) := by decide +kernel
theorem dL_law_1386 : decode cL_law 1386 = .ok (.invokevirtual 132, 3) := by decide +kernel
theorem dL_law_1389 : decode cL_law 1389 = .ok (.if_icmp .eq 346, 3) := by decide +kernel
theorem dL_law_1394 : decode cL_law 1394 = .ok (.aload_n 1, 1) := by decide +kernel
theorem dL_law_1395 : decode cL_law 1395 = .ok (.aload_n 0, 1) := by decide +kernel
theorem dL_law_1396 : decode cL_law 1396 = .ok (.iload_n 3, 1) := by decide +kernel
theorem dL_law_1397 : decode cL_law 1397 = .ok (.iconst 1, 1) := by decide +kernel
theorem dL_law_1398 : decode cL_law 1398 = .ok (.iadd, 1) := by decide +kernel
theorem dL_law_1399 : decode cL_law 1399 = .ok (.iaload, 1) := by decide +kernel
theorem dL_law_1400 : decode cL_law 1400 = .ok (.aload_n 0, 1) := by decide +kernel
theorem dL_law_1401 : decode cL_law 1401 = .ok (.iload_n 3, 1) := by decide +kernel
theorem dL_law_1402 : decode cL_law 1402 = .ok (.iconst 2, 1) := by decide +kernel
theorem dL_law_1403 : decode cL_law 1403 = .ok (.iadd, 1) := by decide +kernel
theorem dL_law_1404 : decode cL_law 1404 = .ok (.iaload, 1) := by decide +kernel
theorem dL_law_1405 : decode cL_law 1405 = .ok (.aload_n 0, 1) := by decide +kernel
theorem dL_law_1406 : decode cL_law 1406 = .ok (.iload_n 3, 1) := by decide +kernel
theorem dL_law_1407 : decode cL_law 1407 = .ok (.iconst 3, 1) := by decide +kernel
theorem dL_law_1408 : decode cL_law 1408 = .ok (.iadd, 1) := by decide +kernel
theorem dL_law_1409 : decode cL_law 1409 = .ok (.iaload, 1) := by decide +kernel
theorem dL_law_1410 : decode cL_law 1410 = .ok (.invokevirtual 133, 3) := by decide +kernel
theorem dL_law_1413 : decode cL_law 1413 = .ok (.aload_n 2, 1) := by decide +kernel
theorem dL_law_1414 : decode cL_law 1414 = .ok (.aload_n 0, 1) := by decide +kernel
theorem dL_law_1415 : decode cL_law 1415 = .ok (.iload_n 3, 1) := by decide +kernel
theorem dL_law_1416 : decode cL_law 1416 = .ok (.iconst 1, 1) := by decide +kernel
theorem dL_law_1417 : decode cL_law 1417 = .ok (.iadd, 1) := by decide +kernel
theorem dL_law_1418 : decode cL_law 1418 = .ok (.iaload, 1) := by decide +kernel
theorem dL_law_1419 : decode cL_law 1419 = .ok (.aload_n 0, 1) := by decide +kernel
theorem dL_law_1420 : decode cL_law 1420 = .ok (.iload_n 3, 1) := by decide +kernel
theorem dL_law_1421 : decode cL_law 1421 = .ok (.iconst 2, 1) := by decide +kernel
theorem dL_law_1422 : decode cL_law 1422 = .ok (.iadd, 1) := by decide +kernel
theorem dL_law_1423 : decode cL_law 1423 = .ok (.iaload, 1) := by decide +kernel
theorem dL_law_1424 : decode cL_law 1424 = .ok (.aload_n 0, 1) := by decide +kernel
theorem dL_law_1425 : decode cL_law 1425 = .ok (.iload_n 3, 1) := by decide +kernel
theorem dL_law_1426 : decode cL_law 1426 = .ok (.iconst 3, 1) := by decide +kernel
theorem dL_law_1427 : decode cL_law 1427 = .ok (.iadd, 1) := by decide +kernel
theorem dL_law_1428 : decode cL_law 1428 = .ok (.iaload, 1) := by decide +kernel
theorem dL_law_1429 : decode cL_law 1429 = .ok (.invokevirtual 136, 3) := by decide +kernel
theorem dL_law_1432 : decode cL_law 1432 = .ok (.if_icmp .eq 303, 3) := by decide +kernel
theorem dL_law_1437 : decode cL_law 1437 = .ok (.aload_n 1, 1) := by decide +kernel
theorem dL_law_1438 : decode cL_law 1438 = .ok (.aload_n 0, 1) := by decide +kernel
theorem dL_law_1439 : decode cL_law 1439 = .ok (.iload_n 3, 1) := by decide +kernel
theorem dL_law_1440 : decode cL_law 1440 = .ok (.iconst 1, 1) := by decide +kernel
theorem dL_law_1441 : decode cL_law 1441 = .ok (.iadd, 1) := by decide +kernel
theorem dL_law_1442 : decode cL_law 1442 = .ok (.iaload, 1) := by decide +kernel
theorem dL_law_1443 : decode cL_law 1443 = .ok (.aload_n 0, 1) := by decide +kernel
theorem dL_law_1444 : decode cL_law 1444 = .ok (.iload_n 3, 1) := by decide +kernel
theorem dL_law_1445 : decode cL_law 1445 = .ok (.iconst 2, 1) := by decide +kernel
theorem dL_law_1446 : decode cL_law 1446 = .ok (.iadd, 1) := by decide +kernel
theorem dL_law_1447 : decode cL_law 1447 = .ok (.iaload, 1) := by decide +kernel
theorem dL_law_1448 : decode cL_law 1448 = .ok (.invokevirtual 137, 3) := by decide +kernel
theorem dL_law_1451 : decode cL_law 1451 = .ok (.aload_n 2, 1) := by decide +kernel
theorem dL_law_1452 : decode cL_law 1452 = .ok (.aload_n 0, 1) := by decide +kernel
theorem dL_law_1453 : decode cL_law 1453 = .ok (.iload_n 3, 1) := by decide +kernel
theorem dL_law_1454 : decode cL_law 1454 = .ok (.iconst 1, 1) := by decide +kernel
theorem dL_law_1455 : decode cL_law 1455 = .ok (.iadd, 1) := by decide +kernel
theorem dL_law_1456 : decode cL_law 1456 = .ok (.iaload, 1) := by decide +kernel
theorem dL_law_1457 : decode cL_law 1457 = .ok (.aload_n 0, 1) := by decide +kernel
theorem dL_law_1458 : decode cL_law 1458 = .ok (.iload_n 3, 1) := by decide +kernel
theorem dL_law_1459 : decode cL_law 1459 = .ok (.iconst 2, 1) := by decide +kernel
theorem dL_law_1460 : decode cL_law 1460 = .ok (.iadd, 1) := by decide +kernel
theorem dL_law_1461 : decode cL_law 1461 = .ok (.iaload, 1) := by decide +kernel
theorem dL_law_1462 : decode cL_law 1462 = .ok (.invokevirtual 140, 3) := by decide +kernel
theorem dL_law_1465 : decode cL_law 1465 = .ok (.if_icmp .eq 270, 3) := by decide +kernel
theorem dL_law_1470 : decode cL_law 1470 = .ok (.aload_n 1, 1) := by decide +kernel
theorem dL_law_1471 : decode cL_law 1471 = .ok (.aload_n 0, 1) := by decide +kernel
theorem dL_law_1472 : decode cL_law 1472 = .ok (.iload_n 3, 1) := by decide +kernel
theorem dL_law_1473 : decode cL_law 1473 = .ok (.iconst 1, 1) := by decide +kernel
theorem dL_law_1474 : decode cL_law 1474 = .ok (.iadd, 1) := by decide +kernel
theorem dL_law_1475 : decode cL_law 1475 = .ok (.iaload, 1) := by decide +kernel
theorem dL_law_1476 : decode cL_law 1476 = .ok (.aload_n 0, 1) := by decide +kernel
theorem dL_law_1477 : decode cL_law 1477 = .ok (.iload_n 3, 1) := by decide +kernel
theorem dL_law_1478 : decode cL_law 1478 = .ok (.iconst 2, 1) := by decide +kernel
theorem dL_law_1479 : decode cL_law 1479 = .ok (.iadd, 1) := by decide +kernel
theorem dL_law_1480 : decode cL_law 1480 = .ok (.iaload, 1) := by decide +kernel
theorem dL_law_1481 : decode cL_law 1481 = .ok (.aload_n 0, 1) := by decide +kernel
theorem dL_law_1482 : decode cL_law 1482 = .ok (.iload_n 3, 1) := by decide +kernel
theorem dL_law_1483 : decode cL_law 1483 = .ok (.iconst 3, 1) := by decide +kernel
theorem dL_law_1484 : decode cL_law 1484 = .ok (.iadd, 1) := by decide +kernel
theorem dL_law_1485 : decode cL_law 1485 = .ok (.iaload, 1) := by decide +kernel
theorem dL_law_1486 : decode cL_law 1486 = .ok (.ifCond .eq 7, 3) := by decide +kernel
theorem dL_law_1489 : decode cL_law 1489 = .ok (.iconst 1, 1) := by decide +kernel
theorem dL_law_1490 : decode cL_law 1490 = .ok (.goto 4, 3) := by decide +kernel
theorem dL_law_1493 : decode cL_law 1493 = .ok (.iconst 0, 1) := by decide +kernel
theorem dL_law_1494 : decode cL_law 1494 = .ok (.invokevirtual 141, 3) := by decide +kernel
theorem dL_law_1497 : decode cL_law 1497 = .ok (.aload_n 2, 1) := by decide +kernel
theorem dL_law_1498 : decode cL_law 1498 = .ok (.aload_n 0, 1) := by decide +kernel
theorem dL_law_1499 : decode cL_law 1499 = .ok (.iload_n 3, 1) := by decide +kernel
theorem dL_law_1500 : decode cL_law 1500 = .ok (.iconst 1, 1) := by decide +kernel
theorem dL_law_1501 : decode cL_law 1501 = .ok (.iadd, 1) := by decide +kernel
theorem dL_law_1502 : decode cL_law 1502 = .ok (.iaload, 1) := by decide +kernel
theorem dL_law_1503 : decode cL_law 1503 = .ok (.aload_n 0, 1) := by decide +kernel
theorem dL_law_1504 : decode cL_law 1504 = .ok (.iload_n 3, 1) := by decide +kernel
theorem dL_law_1505 : decode cL_law 1505 = .ok (.iconst 2, 1) := by decide +kernel
theorem dL_law_1506 : decode cL_law 1506 = .ok (.iadd, 1) := by decide +kernel
theorem dL_law_1507 : decode cL_law 1507 = .ok (.iaload, 1) := by decide +kernel
theorem dL_law_1508 : decode cL_law 1508 = .ok (.aload_n 0, 1) := by decide +kernel
theorem dL_law_1509 : decode cL_law 1509 = .ok (.iload_n 3, 1) := by decide +kernel
theorem dL_law_1510 : decode cL_law 1510 = .ok (.iconst 3, 1) := by decide +kernel
theorem dL_law_1511 : decode cL_law 1511 = .ok (.iadd, 1) := by decide +kernel
theorem dL_law_1512 : decode cL_law 1512 = .ok (.iaload, 1) := by decide +kernel
theorem dL_law_1513 : decode cL_law 1513 = .ok (.ifCond .eq 7, 3) := by decide +kernel
theorem dL_law_1516 : decode cL_law 1516 = .ok (.iconst 1, 1) := by decide +kernel
theorem dL_law_1517 : decode cL_law 1517 = .ok (.goto 4, 3) := by decide +kernel
theorem dL_law_1520 : decode cL_law 1520 = .ok (.iconst 0, 1) := by decide +kernel
theorem dL_law_1521 : decode cL_law 1521 = .ok (.invokevirtual 145, 3) := by decide +kernel
theorem dL_law_1524 : decode cL_law 1524 = .ok (.if_icmp .eq 211, 3) := by decide +kernel
theorem dL_law_1529 : decode cL_law 1529 = .ok (.aload_n 1, 1) := by decide +kernel
theorem dL_law_1530 : decode cL_law 1530 = .ok (.aload_n 0, 1) := by decide +kernel
theorem dL_law_1531 : decode cL_law 1531 = .ok (.iload_n 3, 1) := by decide +kernel
theorem dL_law_1532 : decode cL_law 1532 = .ok (.iconst 1, 1) := by decide +kernel
theorem dL_law_1533 : decode cL_law 1533 = .ok (.iadd, 1) := by decide +kernel
theorem dL_law_1534 : decode cL_law 1534 = .ok (.iaload, 1) := by decide +kernel
theorem dL_law_1535 : decode cL_law 1535 = .ok (.aload_n 0, 1) := by decide +kernel
theorem dL_law_1536 : decode cL_law 1536 = .ok (.iload_n 3, 1) := by decide +kernel
theorem dL_law_1537 : decode cL_law 1537 = .ok (.iconst 2, 1) := by decide +kernel
theorem dL_law_1538 : decode cL_law 1538 = .ok (.iadd, 1) := by decide +kernel
theorem dL_law_1539 : decode cL_law 1539 = .ok (.iaload, 1) := by decide +kernel
theorem dL_law_1540 : decode cL_law 1540 = .ok (.invokevirtual 146, 3) := by decide +kernel
theorem dL_law_1543 : decode cL_law 1543 = .ok (.aload_n 2, 1) := by decide +kernel
theorem dL_law_1544 : decode cL_law 1544 = .ok (.aload_n 0, 1) := by decide +kernel
theorem dL_law_1545 : decode cL_law 1545 = .ok (.iload_n 3, 1) := by decide +kernel
theorem dL_law_1546 : decode cL_law 1546 = .ok (.iconst 1, 1) := by decide +kernel
theorem dL_law_1547 : decode cL_law 1547 = .ok (.iadd, 1) := by decide +kernel
theorem dL_law_1548 : decode cL_law 1548 = .ok (.iaload, 1) := by decide +kernel
theorem dL_law_1549 : decode cL_law 1549 = .ok (.aload_n 0, 1) := by decide +kernel
theorem dL_law_1550 : decode cL_law 1550 = .ok (.iload_n 3, 1) := by decide +kernel
theorem dL_law_1551 : decode cL_law 1551 = .ok (.iconst 2, 1) := by decide +kernel
theorem dL_law_1552 : decode cL_law 1552 = .ok (.iadd, 1) := by decide +kernel
theorem dL_law_1553 : decode cL_law 1553 = .ok (.iaload, 1) := by decide +kernel
theorem dL_law_1554 : decode cL_law 1554 = .ok (.invokevirtual 149, 3) := by decide +kernel
theorem dL_law_1557 : decode cL_law 1557 = .ok (.lcmp, 1) := by decide +kernel
theorem dL_law_1558 : decode cL_law 1558 = .ok (.ifCond .eq 177, 3) := by decide +kernel
theorem dL_law_1563 : decode cL_law 1563 = .ok (.aload_n 1, 1) := by decide +kernel
theorem dL_law_1564 : decode cL_law 1564 = .ok (.aload_n 0, 1) := by decide +kernel
theorem dL_law_1565 : decode cL_law 1565 = .ok (.iload_n 3, 1) := by decide +kernel
theorem dL_law_1566 : decode cL_law 1566 = .ok (.iconst 1, 1) := by decide +kernel
theorem dL_law_1567 : decode cL_law 1567 = .ok (.iadd, 1) := by decide +kernel
theorem dL_law_1568 : decode cL_law 1568 = .ok (.iaload, 1) := by decide +kernel
theorem dL_law_1569 : decode cL_law 1569 = .ok (.invokevirtual 150, 3) := by decide +kernel
theorem dL_law_1572 : decode cL_law 1572 = .ok (.aload_n 2, 1) := by decide +kernel
theorem dL_law_1573 : decode cL_law 1573 = .ok (.aload_n 0, 1) := by decide +kernel
theorem dL_law_1574 : decode cL_law 1574 = .ok (.iload_n 3, 1) := by decide +kernel
theorem dL_law_1575 : decode cL_law 1575 = .ok (.iconst 1, 1) := by decide +kernel
theorem dL_law_1576 : decode cL_law 1576 = .ok (.iadd, 1) := by decide +kernel
theorem dL_law_1577 : decode cL_law 1577 = .ok (.iaload, 1) := by decide +kernel
theorem dL_law_1578 : decode cL_law 1578 = .ok (.invokevirtual 153, 3) := by decide +kernel
theorem dL_law_1581 : decode cL_law 1581 = .ok (.if_icmp .eq 154, 3) := by decide +kernel
theorem dL_law_1586 : decode cL_law 1586 = .ok (.aload_n 1, 1) := by decide +kernel
theorem dL_law_1587 : decode cL_law 1587 = .ok (.aload_n 0, 1) := by decide +kernel
theorem dL_law_1588 : decode cL_law 1588 = .ok (.iload_n 3, 1) := by decide +kernel
theorem dL_law_1589 : decode cL_law 1589 = .ok (.iconst 1, 1) := by decide +kernel
theorem dL_law_1590 : decode cL_law 1590 = .ok (.iadd, 1) := by decide +kernel
theorem dL_law_1591 : decode cL_law 1591 = .ok (.iaload, 1) := by decide +kernel
theorem dL_law_1592 : decode cL_law 1592 = .ok (.invokevirtual 154, 3) := by decide +kernel
theorem dL_law_1595 : decode cL_law 1595 = .ok (.aload_n 2, 1) := by decide +kernel
theorem dL_law_1596 : decode cL_law 1596 = .ok (.aload_n 0, 1) := by decide +kernel
theorem dL_law_1597 : decode cL_law 1597 = .ok (.iload_n 3, 1) := by decide +kernel
theorem dL_law_1598 : decode cL_law 1598 = .ok (.iconst 1, 1) := by decide +kernel
theorem dL_law_1599 : decode cL_law 1599 = .ok (.iadd, 1) := by decide +kernel
theorem dL_law_1600 : decode cL_law 1600 = .ok (.iaload, 1) := by decide +kernel
theorem dL_law_1601 : decode cL_law 1601 = .ok (.invokevirtual 158, 3) := by decide +kernel
theorem dL_law_1604 : decode cL_law 1604 = .ok (.lcmp, 1) := by decide +kernel
theorem dL_law_1605 : decode cL_law 1605 = .ok (.ifCond .eq 130, 3) := by decide +kernel
theorem dL_law_1610 : decode cL_law 1610 = .ok (.aload_n 1, 1) := by decide +kernel
theorem dL_law_1611 : decode cL_law 1611 = .ok (.aload_n 0, 1) := by decide +kernel
theorem dL_law_1612 : decode cL_law 1612 = .ok (.iload_n 3, 1) := by decide +kernel
theorem dL_law_1613 : decode cL_law 1613 = .ok (.iconst 1, 1) := by decide +kernel
theorem dL_law_1614 : decode cL_law 1614 = .ok (.iadd, 1) := by decide +kernel
theorem dL_law_1615 : decode cL_law 1615 = .ok (.iaload, 1) := by decide +kernel
theorem dL_law_1616 : decode cL_law 1616 = .ok (.invokevirtual 159, 3) := by decide +kernel
theorem dL_law_1619 : decode cL_law 1619 = .ok (.aload_n 2, 1) := by decide +kernel
theorem dL_law_1620 : decode cL_law 1620 = .ok (.aload_n 0, 1) := by decide +kernel
theorem dL_law_1621 : decode cL_law 1621 = .ok (.iload_n 3, 1) := by decide +kernel
theorem dL_law_1622 : decode cL_law 1622 = .ok (.iconst 1, 1) := by decide +kernel
theorem dL_law_1623 : decode cL_law 1623 = .ok (.iadd, 1) := by decide +kernel
theorem dL_law_1624 : decode cL_law 1624 = .ok (.iaload, 1) := by decide +kernel
theorem dL_law_1625 : decode cL_law 1625 = .ok (.invokevirtual 162, 3) := by decide +kernel
theorem dL_law_1628 : decode cL_law 1628 = .ok (.if_icmp .eq 107, 3) := by decide +kernel
theorem dL_law_1633 : decode cL_law 1633 = .ok (.aload_n 1, 1) := by decide +kernel
theorem dL_law_1634 : decode cL_law 1634 = .ok (.aload_n 0, 1) := by decide +kernel
theorem dL_law_1635 : decode cL_law 1635 = .ok (.iload_n 3, 1) := by decide +kernel
theorem dL_law_1636 : decode cL_law 1636 = .ok (.iconst 1, 1) := by decide +kernel
theorem dL_law_1637 : decode cL_law 1637 = .ok (.iadd, 1) := by decide +kernel
theorem dL_law_1638 : decode cL_law 1638 = .ok (.iaload, 1) := by decide +kernel
theorem dL_law_1639 : decode cL_law 1639 = .ok (.invokevirtual 163, 3) := by decide +kernel
theorem dL_law_1642 : decode cL_law 1642 = .ok (.aload_n 2, 1) := by decide +kernel
theorem dL_law_1643 : decode cL_law 1643 = .ok (.aload_n 0, 1) := by decide +kernel
theorem dL_law_1644 : decode cL_law 1644 = .ok (.iload_n 3, 1) := by decide +kernel
theorem dL_law_1645 : decode cL_law 1645 = .ok (.iconst 1, 1) := by decide +kernel
theorem dL_law_1646 : decode cL_law 1646 = .ok (.iadd, 1) := by decide +kernel
theorem dL_law_1647 : decode cL_law 1647 = .ok (.iaload, 1) := by decide +kernel
theorem dL_law_1648 : decode cL_law 1648 = .ok (.invokevirtual 166, 3) := by decide +kernel
theorem dL_law_1651 : decode cL_law 1651 = .ok (.if_icmp .eq 84, 3) := by decide +kernel
theorem dL_law_1656 : decode cL_law 1656 = .ok (.aload_n 1, 1) := by decide +kernel
theorem dL_law_1657 : decode cL_law 1657 = .ok (.aload_n 0, 1) := by decide +kernel
theorem dL_law_1658 : decode cL_law 1658 = .ok (.iload_n 3, 1) := by decide +kernel
theorem dL_law_1659 : decode cL_law 1659 = .ok (.iconst 1, 1) := by decide +kernel
theorem dL_law_1660 : decode cL_law 1660 = .ok (.iadd, 1) := by decide +kernel
theorem dL_law_1661 : decode cL_law 1661 = .ok (.iaload, 1) := by decide +kernel
theorem dL_law_1662 : decode cL_law 1662 = .ok (.invokevirtual 167, 3) := by decide +kernel
theorem dL_law_1665 : decode cL_law 1665 = .ok (.aload_n 2, 1) := by decide +kernel
theorem dL_law_1666 : decode cL_law 1666 = .ok (.aload_n 0, 1) := by decide +kernel
theorem dL_law_1667 : decode cL_law 1667 = .ok (.iload_n 3, 1) := by decide +kernel
theorem dL_law_1668 : decode cL_law 1668 = .ok (.iconst 1, 1) := by decide +kernel
theorem dL_law_1669 : decode cL_law 1669 = .ok (.iadd, 1) := by decide +kernel
theorem dL_law_1670 : decode cL_law 1670 = .ok (.iaload, 1) := by decide +kernel
theorem dL_law_1671 : decode cL_law 1671 = .ok (.invokevirtual 170, 3) := by decide +kernel
theorem dL_law_1674 : decode cL_law 1674 = .ok (.if_icmp .eq 61, 3) := by decide +kernel
theorem dL_law_1679 : decode cL_law 1679 = .ok (.aload_n 1, 1) := by decide +kernel
theorem dL_law_1680 : decode cL_law 1680 = .ok (.aload_n 0, 1) := by decide +kernel
theorem dL_law_1681 : decode cL_law 1681 = .ok (.iload_n 3, 1) := by decide +kernel
theorem dL_law_1682 : decode cL_law 1682 = .ok (.iconst 1, 1) := by decide +kernel
theorem dL_law_1683 : decode cL_law 1683 = .ok (.iadd, 1) := by decide +kernel
theorem dL_law_1684 : decode cL_law 1684 = .ok (.iaload, 1) := by decide +kernel
theorem dL_law_1685 : decode cL_law 1685 = .ok (.aload_n 0, 1) := by decide +kernel
theorem dL_law_1686 : decode cL_law 1686 = .ok (.iload_n 3, 1) := by decide +kernel
theorem dL_law_1687 : decode cL_law 1687 = .ok (.iconst 2, 1) := by decide +kernel
theorem dL_law_1688 : decode cL_law 1688 = .ok (.iadd, 1) := by decide +kernel
theorem dL_law_1689 : decode cL_law 1689 = .ok (.iaload, 1) := by decide +kernel
theorem dL_law_1690 : decode cL_law 1690 = .ok (.invokevirtual 171, 3) := by decide +kernel
theorem dL_law_1693 : decode cL_law 1693 = .ok (.aload_n 2, 1) := by decide +kernel
theorem dL_law_1694 : decode cL_law 1694 = .ok (.aload_n 0, 1) := by decide +kernel
theorem dL_law_1695 : decode cL_law 1695 = .ok (.iload_n 3, 1) := by decide +kernel
theorem dL_law_1696 : decode cL_law 1696 = .ok (.iconst 1, 1) := by decide +kernel
theorem dL_law_1697 : decode cL_law 1697 = .ok (.iadd, 1) := by decide +kernel
theorem dL_law_1698 : decode cL_law 1698 = .ok (.iaload, 1) := by decide +kernel
theorem dL_law_1699 : decode cL_law 1699 = .ok (.aload_n 0, 1) := by decide +kernel
theorem dL_law_1700 : decode cL_law 1700 = .ok (.iload_n 3, 1) := by decide +kernel
theorem dL_law_1701 : decode cL_law 1701 = .ok (.iconst 2, 1) := by decide +kernel
theorem dL_law_1702 : decode cL_law 1702 = .ok (.iadd, 1) := by decide +kernel
theorem dL_law_1703 : decode cL_law 1703 = .ok (.iaload, 1) := by decide +kernel
theorem dL_law_1704 : decode cL_law 1704 = .ok (.invokevirtual 174, 3) := by decide +kernel
theorem dL_law_1707 : decode cL_law 1707 = .ok (.if_icmp .eq 28, 3) := by decide +kernel
theorem dL_law_1712 : decode cL_law 1712 = .ok (.aload_n 1, 1) := by decide +kernel
theorem dL_law_1713 : decode cL_law 1713 = .ok (.aload_n 0, 1) := by decide +kernel
theorem dL_law_1714 : decode cL_law 1714 = .ok (.iload_n 3, 1) := by decide +kernel
theorem dL_law_1715 : decode cL_law 1715 = .ok (.iconst 1, 1) := by decide +kernel
theorem dL_law_1716 : decode cL_law 1716 = .ok (.iadd, 1) := by decide +kernel
theorem dL_law_1717 : decode cL_law 1717 = .ok (.iaload, 1) := by decide +kernel
theorem dL_law_1718 : decode cL_law 1718 = .ok (.invokevirtual 175, 3) := by decide +kernel
theorem dL_law_1721 : decode cL_law 1721 = .ok (.aload_n 2, 1) := by decide +kernel
theorem dL_law_1722 : decode cL_law 1722 = .ok (.aload_n 0, 1) := by decide +kernel
theorem dL_law_1723 : decode cL_law 1723 = .ok (.iload_n 3, 1) := by decide +kernel
theorem dL_law_1724 : decode cL_law 1724 = .ok (.iconst 1, 1) := by decide +kernel
theorem dL_law_1725 : decode cL_law 1725 = .ok (.iadd, 1) := by decide +kernel
theorem dL_law_1726 : decode cL_law 1726 = .ok (.iaload, 1) := by decide +kernel
theorem dL_law_1727 : decode cL_law 1727 = .ok (.invokevirtual 178, 3) := by decide +kernel
theorem dL_law_1730 : decode cL_law 1730 = .ok (.if_icmp .eq 5, 3) := by decide +kernel
theorem dL_law_1735 : decode cL_law 1735 = .ok (.iinc 3 7, 3) := by decide +kernel
theorem dL_law_1738 : decode cL_law 1738 = .ok (.goto (-1720), 3) := by decide +kernel
theorem dL_law_1741 : decode cL_law 1741 = .ok (.iconst 1, 1) := by decide +kernel
theorem dL_law_1742 : decode cL_law 1742 = .ok (.ireturn, 1) := by decide +kernel
