theorem dL_law_1252 : decode cL_law 1252 = .ok (.invokevirtual 184, 3) := by decide +kernel
theorem dL_law_1255 : decode cL_law 1255 = .ok (.if_icmp .eq 893, 3) := by decide +kernel
theorem dL_law_1260 : decode cL_law 1260 = .ok (.aload_n 1, 1) := by decide +kernel
theorem dL_law_1261 : decode cL_law 1261 = .ok (.invokevirtual 185, 3) := by decide +kernel
theorem dL_law_1264 : decode cL_law 1264 = .ok (.aload_n 2, 1) := by decide +kernel
theorem dL_law_1265 : decode cL_law 1265 = .ok (.invokevirtual 188, 3) := by decide +kernel
theorem dL_law_1268 : decode cL_law 1268 = .ok (.if_icmp .eq 880, 3) := by decide +kernel
theorem dL_law_1273 : decode cL_law 1273 = .ok (.aload_n 1, 1) := by decide +kernel
theorem dL_law_1274 : decode cL_law 1274 = .ok (.invokevirtual 189, 3) := by decide +kernel
theorem dL_law_1277 : decode cL_law 1277 = .ok (.aload_n 2, 1) := by decide +kernel
theorem dL_law_1278 : decode cL_law 1278 = .ok (.invokevirtual 192, 3) := by decide +kernel
theorem dL_law_1281 : decode cL_law 1281 = .ok (.if_icmp .eq 867, 3) := by decide +kernel
theorem dL_law_1286 : decode cL_law 1286 = .ok (.aload_n 1, 1) := by decide +kernel
theorem dL_law_1287 : decode cL_law 1287 = .ok (.invokevirtual 193, 3) := by decide +kernel
theorem dL_law_1290 : decode cL_law 1290 = .ok (.aload_n 2, 1) := by decide +kernel
theorem dL_law_1291 : decode cL_law 1291 = .ok (.invokevirtual 196, 3) := by decide +kernel
theorem dL_law_1294 : decode cL_law 1294 = .ok (.if_icmp .eq 854, 3) := by decide +kernel
theorem dL_law_1299 : decode cL_law 1299 = .ok (.aload_n 1, 1) := by decide +kernel
theorem dL_law_1300 : decode cL_law 1300 = .ok (.invokevirtual 197, 3) := by decide +kernel
theorem dL_law_1303 : decode cL_law 1303 = .ok (.aload_n 2, 1) := by decide +kernel
theorem dL_law_1304 : decode cL_law 1304 = .ok (.invokevirtual 200, 3) := by decide +kernel
theorem dL_law_1307 : decode cL_law 1307 = .ok (.if_icmp .eq 841, 3) := by decide +kernel
theorem dL_law_1312 : decode cL_law 1312 = .ok (.aload_n 1, 1) := by decide +kernel
theorem dL_law_1313 : decode cL_law 1313 = .ok (.aload_n 0, 1) := by decide +kernel
theorem dL_law_1314 : decode cL_law 1314 = .ok (.iload_n 3, 1) := by decide +kernel
theorem dL_law_1315 : decode cL_law 1315 = .ok (.iconst 1, 1) := by decide +kernel
theorem dL_law_1316 : decode cL_law 1316 = .ok (.iadd, 1) := by decide +kernel
theorem dL_law_1317 : decode cL_law 1317 = .ok (.iaload, 1) := by decide +kernel
theorem dL_law_1318 : decode cL_law 1318 = .ok (.invokevirtual 201, 3) := by decide +kernel
theorem dL_law_1321 : decode cL_law 1321 = .ok (.aload_n 2, 1) := by decide +kernel
theorem dL_law_1322 : decode cL_law 1322 = .ok (.aload_n 0, 1) := by decide +kernel
theorem dL_law_1323 : decode cL_law 1323 = .ok (.iload_n 3, 1) := by decide +kernel
theorem dL_law_1324 : decode cL_law 1324 = .ok (.iconst 1, 1) := by decide +kernel
theorem dL_law_1325 : decode cL_law 1325 = .ok (.iadd, 1) := by decide +kernel
theorem dL_law_1326 : decode cL_law 1326 = .ok (.iaload, 1) := by decide +kernel
theorem dL_law_1327 : decode cL_law 1327 = .ok (.invokevirtual 204, 3) := by decide +kernel
theorem dL_law_1330 : decode cL_law 1330 = .ok (.if_icmp .eq 818, 3) := by decide +kernel
theorem dL_law_1335 : decode cL_law 1335 = .ok (.aload_n 1, 1) := by decide +kernel
theorem dL_law_1336 : decode cL_law 1336 = .ok (.invokevirtual 205, 3) := by decide +kernel
theorem dL_law_1339 : decode cL_law 1339 = .ok (.aload_n 2, 1) := by decide +kernel
theorem dL_law_1340 : decode cL_law 1340 = .ok (.invokevirtual 208, 3) := by decide +kernel
theorem dL_law_1343 : decode cL_law 1343 = .ok (.if_icmp .eq 805, 3) := by decide +kernel
theorem dL_law_1348 : decode cL_law 1348 = .ok (.aload_n 1, 1) := by decide +kernel
theorem dL_law_1349 : decode cL_law 1349 = .ok (.invokevirtual 209, 3) := by decide +kernel
theorem dL_law_1352 : decode cL_law 1352 = .ok (.aload_n 2, 1) := by decide +kernel
theorem dL_law_1353 : decode cL_law 1353 = .ok (.invokevirtual 212, 3) := by decide +kernel
theorem dL_law_1356 : decode cL_law 1356 = .ok (.if_icmp .eq 792, 3) := by decide +kernel
theorem dL_law_1361 : decode cL_law 1361 = .ok (.aload_n 1, 1) := by decide +kernel
theorem dL_law_1362 : decode cL_law 1362 = .ok (.invokevirtual 213, 3) := by decide +kernel
theorem dL_law_1365 : decode cL_law 1365 = .ok (.aload_n 2, 1) := by decide +kernel
theorem dL_law_1366 : decode cL_law 1366 = .ok (.invokevirtual 216, 3) := by decide +kernel
theorem dL_law_1369 : decode cL_law 1369 = .ok (.if_icmp .eq 779, 3) := by decide +kernel
theorem dL_law_1374 : decode cL_law 1374 = .ok (.aload_n 1, 1) := by decide +kernel
theorem dL_law_1375 : decode cL_law 1375 = .ok (.invokevirtual 217, 3) := by decide +kernel
theorem dL_law_1378 : decode cL_law 1378 = .ok (.aload_n 2, 1) := by decide +kernel
theorem dL_law_1379 : decode cL_law 1379 = .ok (.invokevirtual 220, 3) := by decide +kernel
theorem dL_law_1382 : decode cL_law 1382 = .ok (.if_icmp .eq 766, 3) := by decide +kernel
theorem dL_law_1387 : decode cL_law 1387 = .ok (.aload_n 1, 1) := by decide +kernel
theorem dL_law_1388 : decode cL_law 1388 = .ok (.aload_n 0, 1) := by decide +kernel
theorem dL_law_1389 : decode cL_law 1389 = .ok (.iload_n 3, 1) := by decide +kernel
theorem dL_law_1390 : decode cL_law 1390 = .ok (.iconst 1, 1) := by decide +kernel
theorem dL_law_1391 : decode cL_law 1391 = .ok (.iadd, 1) := by decide +kernel
theorem dL_law_1392 : decode cL_law 1392 = .ok (.iaload, 1) := by decide +kernel
theorem dL_law_1393 : decode cL_law 1393 = .ok (.invokevirtual 221, 3) := by decide +kernel
theorem dL_law_1396 : decode cL_law 1396 = .ok (.aload_n 2, 1) := by decide +kernel
theorem dL_law_1397 : decode cL_law 1397 = .ok (.aload_n 0, 1) := by decide +kernel
theorem dL_law_1398 : decode cL_law 1398 = .ok (.iload_n 3, 1) := by decide +kernel
theorem dL_law_1399 : decode cL_law 1399 = .ok (.iconst 1, 1) := by decide +kernel
theorem dL_law_1400 : decode cL_law 1400 = .ok (.iadd, 1) := by decide +kernel
theorem dL_law_1401 : decode cL_law 1401 = .ok (.iaload, 1) := by decide +kernel
theorem dL_law_1402 : decode cL_law 1402 = .ok (.invokevirtual 224, 3) := by decide +kernel
theorem dL_law_1405 : decode cL_law 1405 = .ok (.if_icmp .eq 743, 3) := by decide +kernel
theorem dL_law_1410 : decode cL_law 1410 = .ok (.aload_n 1, 1) := by decide +kernel
theorem dL_law_1411 : decode cL_law 1411 = .ok (.aload_n 0, 1) := by decide +kernel
theorem dL_law_1412 : decode cL_law 1412 = .ok (.iload_n 3, 1) := by decide +kernel
theorem dL_law_1413 : decode cL_law 1413 = .ok (.iconst 1, 1) := by decide +kernel
theorem dL_law_1414 : decode cL_law 1414 = .ok (.iadd, 1) := by decide +kernel
theorem dL_law_1415 : decode cL_law 1415 = .ok (.iaload, 1) := by decide +kernel
theorem dL_law_1416 : decode cL_law 1416 = .ok (.aload_n 0, 1) := by decide +kernel
theorem dL_law_1417 : decode cL_law 1417 = .ok (.iload_n 3, 1) := by decide +kernel
theorem dL_law_1418 : decode cL_law 1418 = .ok (.iconst 2, 1) := by decide +kernel
theorem dL_law_1419 : decode cL_law 1419 = .ok (.iadd, 1) := by decide +kernel
theorem dL_law_1420 : decode cL_law 1420 = .ok (.iaload, 1) := by decide +kernel
theorem dL_law_1421 : decode cL_law 1421 = .ok (.invokevirtual 225, 3) := by decide +kernel
theorem dL_law_1424 : decode cL_law 1424 = .ok (.aload_n 2, 1) := by decide +kernel
theorem dL_law_1425 : decode cL_law 1425 = .ok (.aload_n 0, 1) := by decide +kernel
theorem dL_law_1426 : decode cL_law 1426 = .ok (.iload_n 3, 1) := by decide +kernel
theorem dL_law_1427 : decode cL_law 1427 = .ok (.iconst 1, 1) := by decide +kernel
theorem dL_law_1428 : decode cL_law 1428 = .ok (.iadd, 1) := by decide +kernel
theorem dL_law_1429 : decode cL_law 1429 = .ok (.iaload, 1) := by decide +kernel
theorem dL_law_1430 : decode cL_law 1430 = .ok (.aload_n 0, 1) := by decide +kernel
theorem dL_law_1431 : decode cL_law 1431 = .ok (.iload_n 3, 1) := by decide +kernel
theorem dL_law_1432 : decode cL_law 1432 = .ok (.iconst 2, 1) := by decide +kernel
theorem dL_law_1433 : decode cL_law 1433 = .ok (.iadd, 1) := by decide +kernel
theorem dL_law_1434 : decode cL_law 1434 = .ok (.iaload, 1) := by decide +kernel
theorem dL_law_1435 : decode cL_law 1435 = .ok (.invokevirtual 228, 3) := by decide +kernel
theorem dL_law_1438 : decode cL_law 1438 = .ok (.if_icmp .eq 710, 3) := by decide +kernel
theorem dL_law_1443 : decode cL_law 1443 = .ok (.aload_n 1, 1) := by decide +kernel
theorem dL_law_1444 : decode cL_law 1444 = .ok (.aload_n 0, 1) := by decide +kernel
theorem dL_law_1445 : decode cL_law 1445 = .ok (.iload_n 3, 1) := by decide +kernel
theorem dL_law_1446 : decode cL_law 1446 = .ok (.iconst 1, 1) := by decide +kernel
theorem dL_law_1447 : decode cL_law 1447 = .ok (.iadd, 1) := by decide +kernel
theorem dL_law_1448 : decode cL_law 1448 = .ok (.iaload, 1) := by decide +kernel
theorem dL_law_1449 : decode cL_law 1449 = .ok (.invokevirtual 229, 3) := by decide +kernel
theorem dL_law_1452 : decode cL_law 1452 = .ok (.aload_n 2, 1) := by decide +kernel
theorem dL_law_1453 : decode cL_law 1453 = .ok (.aload_n 0, 1) := by decide +kernel
theorem dL_law_1454 : decode cL_law 1454 = .ok (.iload_n 3, 1) := by decide +kernel
theorem dL_law_1455 : decode cL_law 1455 = .ok (.iconst 1, 1) := by decide +kernel
theorem dL_law_1456 : decode cL_law 1456 = .ok (.iadd, 1) := by decide +kernel
theorem dL_law_1457 : decode cL_law 1457 = .ok (.iaload, 1) := by decide +kernel
theorem dL_law_1458 : decode cL_law 1458 = .ok (.invokevirtual 232, 3) := by decide +kernel
theorem dL_law_1461 : decode cL_law 1461 = .ok (.if_icmp .eq 687, 3) := by decide +kernel
theorem dL_law_1466 : decode cL_law 1466 = .ok (.aload_n 1, 1) := by decide +kernel
theorem dL_law_1467 : decode cL_law 1467 = .ok (.aload_n 0, 1) := by decide +kernel
theorem dL_law_1468 : decode cL_law 1468 = .ok (.iload_n 3, 1) := by decide +kernel
theorem dL_law_1469 : decode cL_law 1469 = .ok (.iconst 1, 1) := by decide +kernel
theorem dL_law_1470 : decode cL_law 1470 = .ok (.iadd, 1) := by decide +kernel
theorem dL_law_1471 : decode cL_law 1471 = .ok (.iaload, 1) := by decide +kernel
theorem dL_law_1472 : decode cL_law 1472 = .ok (.invokevirtual 233, 3) := by decide +kernel
theorem dL_law_1475 : decode cL_law 1475 = .ok (.aload_n 2, 1) := by decide +kernel
theorem dL_law_1476 : decode cL_law 1476 = .ok (.aload_n 0, 1) := by decide +kernel
theorem dL_law_1477 : decode cL_law 1477 = .ok (.iload_n 3, 1) := by decide +kernel
theorem dL_law_1478 : decode cL_law 1478 = .ok (.iconst 1, 1) := by decide +kernel
theorem dL_law_1479 : decode cL_law 1479 = .ok (.iadd, 1) := by decide +kernel
theorem dL_law_1480 : decode cL_law 1480 = .ok (.iaload, 1) := by decide +kernel
theorem dL_law_1481 : decode cL_law 1481 = .ok (.invokevirtual 236, 3) := by decide +kernel
theorem dL_law_1484 : decode cL_law 1484 = .ok (.if_icmp .eq 664, 3) := by decide +kernel
theorem dL_law_1489 : decode cL_law 1489 = .ok (.aload_n 1, 1) := by decide +kernel
theorem dL_law_1490 : decode cL_law 1490 = .ok (.aload_n 0, 1) := by decide +kernel
theorem dL_law_1491 : decode cL_law 1491 = .ok (.iload_n 3, 1) := by decide +kernel
theorem dL_law_1492 : decode cL_law 1492 = .ok (.iconst 1, 1) := by decide +kernel
theorem dL_law_1493 : decode cL_law 1493 = .ok (.iadd, 1) := by decide +kernel
theorem dL_law_1494 : decode cL_law 1494 = .ok (.iaload, 1) := by decide +kernel
theorem dL_law_1495 : decode cL_law 1495 = .ok (.invokevirtual 237, 3) := by decide +kernel
theorem dL_law_1498 : decode cL_law 1498 = .ok (.aload_n 2, 1) := by decide +kernel
theorem dL_law_1499 : decode cL_law 1499 = .ok (.aload_n 0, 1) := by decide +kernel
theorem dL_law_1500 : decode cL_law 1500 = .ok (.iload_n 3, 1) := by decide +kernel
theorem dL_law_1501 : decode cL_law 1501 = .ok (.iconst 1, 1) := by decide +kernel
theorem dL_law_1502 : decode cL_law 1502 = .ok (.iadd, 1) := by decide +kernel
theorem dL_law_1503 : decode cL_law 1503 = .ok (.iaload, 1) := by decide +kernel
theorem dL_law_1504 : decode cL_law 1504 = .ok (.invokevirtual 240, 3) := by decide +kernel
theorem dL_law_1507 : decode cL_law 1507 = .ok (.if_icmp .eq 641, 3) := by decide +kernel
theorem dL_law_1512 : decode cL_law 1512 = .ok (.aload_n 1, 1) := by decide +kernel
theorem dL_law_1513 : decode cL_law 1513 = .ok (.aload_n 0, 1) := by decide +kernel
theorem dL_law_1514 : decode cL_law 1514 = .ok (.iload_n 3, 1) := by decide +kernel
theorem dL_law_1515 : decode cL_law 1515 = .ok (.iconst 1, 1) := by decide +kernel
theorem dL_law_1516 : decode cL_law 1516 = .ok (.iadd, 1) := by decide +kernel
theorem dL_law_1517 : decode cL_law 1517 = .ok (.iaload, 1) := by decide +kernel
theorem dL_law_1518 : decode cL_law 1518 = .ok (.aload_n 0, 1) := by decide +kernel
theorem dL_law_1519 : decode cL_law 1519 = .ok (.iload_n 3, 1) := by decide +kernel
theorem dL_law_1520 : decode cL_law 1520 = .ok (.iconst 2, 1) := by decide +kernel
theorem dL_law_1521 : decode cL_law 1521 = .ok (.iadd, 1) := by decide +kernel
theorem dL_law_1522 : decode cL_law 1522 = .ok (.iaload, 1) := by decide +kernel
theorem dL_law_1523 : decode cL_law 1523 = .ok (.invokevirtual 241, 3) := by decide +kernel
theorem dL_law_1526 : decode cL_law 1526 = .ok (.aload_n 2, 1) := by decide +kernel
theorem dL_law_1527 : decode cL_law 1527 = .ok (.aload_n 0, 1) := by decide +kernel
theorem dL_law_1528 : decode cL_law 1528 = .ok (.iload_n 3, 1) := by decide +kernel
theorem dL_law_1529 : decode cL_law 1529 = .ok (.iconst 1, 1) := by decide +kernel
theorem dL_law_1530 : decode cL_law 1530 = .ok (.iadd, 1) := by decide +kernel
theorem dL_law_1531 : decode cL_law 1531 = .ok (.iaload, 1) := by decide +kernel
theorem dL_law_1532 : decode cL_law 1532 = .ok (.aload_n 0, 1) := by decide +kernel
theorem dL_law_1533 : decode cL_law 1533 = .ok (.iload_n 3, 1) := by decide +kernel
theorem dL_law_1534 : decode cL_law 1534 = .ok (.iconst 2, 1) := by decide +kernel
theorem dL_law_1535 : decode cL_law 1535 = .ok (.iadd, 1) := by decide +kernel
theorem dL_law_1536 : decode cL_law 1536 = .ok (.iaload, 1) := by decide +kernel
theorem dL_law_1537 : decode cL_law 1537 = .ok (.invokevirtual 244, 3) := by decide +kernel
theorem dL_law_1540 : decode cL_law 1540 = .ok (.if_icmp .eq 608, 3) := by decide +kernel
theorem dL_law_1545 : decode cL_law 1545 = .ok (.aload_n 1, 1) := by decide +kernel
theorem dL_law_1546 : decode cL_law 1546 = .ok (.aload_n 0, 1) := by decide +kernel
theorem dL_law_1547 : decode cL_law 1547 = .ok (.iload_n 3, 1) := by decide +kernel
theorem dL_law_1548 : decode cL_law 1548 = .ok (.iconst 1, 1) := by decide +kernel
theorem dL_law_1549 : decode cL_law 1549 = .ok (.iadd, 1) := by decide +kernel
theorem dL_law_1550 : decode cL_law 1550 = .ok (.iaload, 1) := by decide +kernel
theorem dL_law_1551 : decode cL_law 1551 = .ok (.aload_n 0, 1) := by decide +kernel
theorem dL_law_1552 : decode cL_law 1552 = .ok (.iload_n 3, 1) := by decide +kernel
theorem dL_law_1553 : decode cL_law 1553 = .ok (.iconst 2, 1) := by decide +kernel
theorem dL_law_1554 : decode cL_law 1554 = .ok (.iadd, 1) := by decide +kernel
theorem dL_law_1555 : decode cL_law 1555 = .ok (.iaload, 1) := by decide +kernel
theorem dL_law_1556 : decode cL_law 1556 = .ok (.invokevirtual 245, 3) := by decide +kernel
theorem dL_law_1559 : decode cL_law 1559 = .ok (.aload_n 2, 1) := by decide +kernel
theorem dL_law_1560 : decode cL_law 1560 = .ok (.aload_n 0, 1) := by decide +kernel
theorem dL_law_1561 : decode cL_law 1561 = .ok (.iload_n 3, 1) := by decide +kernel
theorem dL_law_1562 : decode cL_law 1562 = .ok (.iconst 1, 1) := by decide +kernel
theorem dL_law_1563 : decode cL_law 1563 = .ok (.iadd, 1) := by decide +kernel
theorem dL_law_1564 : decode cL_law 1564 = .ok (.iaload, 1) := by decide +kernel
theorem dL_law_1565 : decode cL_law 1565 = .ok (.aload_n 0, 1) := by decide +kernel
theorem dL_law_1566 : decode cL_law 1566 = .ok (.iload_n 3, 1) := by decide +kernel
theorem dL_law_1567 : decode cL_law 1567 = .ok (.iconst 2, 1) := by decide +kernel
theorem dL_law_1568 : decode cL_law 1568 = .ok (.iadd, 1) := by decide +kernel
theorem dL_law_1569 : decode cL_law 1569 = .ok (.iaload, 1) := by decide +kernel
theorem dL_law_1570 : decode cL_law 1570 = .ok (.invokevirtual 248, 3) := by decide +kernel
theorem dL_law_1573 : decode cL_law 1573 = .ok (.if_icmp .eq 575, 3) := by decide +kernel
theorem dL_law_1578 : decode cL_law 1578 = .ok (.aload_n 1, 1) := by decide +kernel
theorem dL_law_1579 : decode cL_law 1579 = .ok (.aload_n 0, 1) := by decide +kernel
theorem dL_law_1580 : decode cL_law 1580 = .ok (.iload_n 3, 1) := by decide +kernel
theorem dL_law_1581 : decode cL_law 1581 = .ok (.iconst 1, 1) := by decide +kernel
theorem dL_law_1582 : decode cL_law 1582 = .ok (.iadd, 1) := by decide +kernel
theorem dL_law_1583 : decode cL_law 1583 = .ok (.iaload, 1) := by decide +kernel
theorem dL_law_1584 : decode cL_law 1584 = .ok (.aload_n 0, 1) := by decide +kernel
theorem dL_law_1585 : decode cL_law 1585 = .ok (.iload_n 3, 1) := by decide +kernel
theorem dL_law_1586 : decode cL_law 1586 = .ok (.iconst 2, 1) := by decide +kernel
theorem dL_law_1587 : decode cL_law 1587 = .ok (.iadd, 1) := by decide +kernel
theorem dL_law_1588 : decode cL_law 1588 = .ok (.iaload, 1) := by decide +kernel
theorem dL_law_1589 : decode cL_law 1589 = .ok (.aload_n 0, 1) := by decide +kernel
theorem dL_law_1590 : decode cL_law 1590 = .ok (.iload_n 3, 1) := by decide +kernel
theorem dL_law_1591 : decode cL_law 1591 = .ok (.iconst 3, 1) := by decide +kernel
theorem dL_law_1592 : decode cL_law 1592 = .ok (.iadd, 1) := by decide +kernel
theorem dL_law_1593 : decode cL_law 1593 = .ok (.iaload, 1) := by decide +kernel
theorem dL_law_1594 : decode cL_law 1594 = .ok (.aload_n 0, 1) := by decide +kernel
theorem dL_law_1595 : decode cL_law 1595 = .ok (.iload_n 3, 1) := by decide +kernel
theorem dL_law_1596 : decode cL_law 1596 = .ok (.iconst 4, 1) := by decide +kernel
theorem dL_law_1597 : decode cL_law 1597 = .ok (.iadd, 1) := by decide +kernel
theorem dL_law_1598 : decode cL_law 1598 = .ok (.iaload, 1) := by decide +kernel
theorem dL_law_1599 : decode cL_law 1599 = .ok (.invokevirtual 249, 3) := by decide +kernel
theorem dL_law_1602 : decode cL_law 1602 = .ok (.aload_n 2, 1) := by decide +kernel
theorem dL_law_1603 : decode cL_law 1603 = .ok (.aload_n 0, 1) := by decide +kernel
theorem dL_law_1604 : decode cL_law 1604 = .ok (.iload_n 3, 1) := by decide +kernel
theorem dL_law_1605 : decode cL_law 1605 = .ok (.iconst 1, 1) := by decide +kernel
theorem dL_law_1606 : decode cL_law 1606 = .ok (.iadd, 1) := by decide +kernel
theorem dL_law_1607 : decode cL_law 1607 = .ok (.iaload, 1) := by decide +kernel
theorem dL_law_1608 : decode cL_law 1608 = .ok (.aload_n 0, 1) := by decide +kernel
theorem dL_law_1609 : decode cL_law 1609 = .ok (.iload_n 3, 1) := by decide +kernel
theorem dL_law_1610 : decode cL_law 1610 = .ok (.iconst 2, 1) := by decide +kernel
theorem dL_law_1611 : decode cL_law 1611 = .ok (.iadd, 1) := by decide +kernel
theorem dL_law_1612 : decode cL_law 1612 = .ok (.iaload, 1) := by decide +kernel
theorem dL_law_1613 : decode cL_law 1613 = .ok (.aload_n 0, 1) := by decide +kernel
theorem dL_law_1614 : decode cL_law 1614 = .ok (.iload_n 3, 1) := by decide +kernel
theorem dL_law_1615 : decode cL_law 1615 = .ok (.iconst 3, 1) := by decide +kernel
theorem dL_law_1616 : decode cL_law 1616 = .ok (.iadd, 1) := by decide +kernel
theorem dL_law_1617 : decode cL_law 1617 = .ok (.iaload, 1) := by decide +kernel
theorem dL_law_1618 : decode cL_law 1618 = .ok (.aload_n 0, 1) := by decide +kernel
theorem dL_law_1619 : decode cL_law 1619 = .ok (.iload_n 3, 1) := by decide +kernel
theorem dL_law_1620 : decode cL_law 1620 = .ok (.iconst 4, 1) := by decide +kernel
theorem dL_law_1621 : decode cL_law 1621 = .ok (.iadd, 1) := by decide +kernel
theorem dL_law_1622 : decode cL_law 1622 = .ok (.iaload, 1) := by decide +kernel
theorem dL_law_1623 : decode cL_law 1623 = .ok (.invokevirtual 253, 3) := by decide +kernel
theorem dL_law_1626 : decode cL_law 1626 = .ok (.if_icmp .eq 522, 3) := by decide +kernel
theorem dL_law_1631 : decode cL_law 1631 = .ok (.aload_n 1, 1) := by decide +kernel
theorem dL_law_1632 : decode cL_law 1632 = .ok (.aload_n 0, 1) := by decide +kernel
theorem dL_law_1633 : decode cL_law 1633 = .ok (.iload_n 3, 1) := by decide +kernel
theorem dL_law_1634 : decode cL_law 1634 = .ok (.iconst 1, 1) := by decide +kernel
theorem dL_law_1635 : decode cL_law 1635 = .ok (.iadd, 1) := by decide +kernel
theorem dL_law_1636 : decode cL_law 1636 = .ok (.iaload, 1) := by decide +kernel
theorem dL_law_1637 : decode cL_law 1637 = .ok (.aload_n 0, 1) := by decide +kernel
theorem dL_law_1638 : decode cL_law 1638 = .ok (.iload_n 3, 1) := by decide +kernel
theorem dL_law_1639 : decode cL_law 1639 = .ok (.iconst 2, 1) := by decide +kernel
theorem dL_law_1640 : decode cL_law 1640 = .ok (.iadd, 1) := by decide +kernel
theorem dL_law_1641 : decode cL_law 1641 = .ok (.iaload, 1) := by decide +kernel
theorem dL_law_1642 : decode cL_law 1642 = .ok (.aload_n 0, 1) := by decide +kernel
theorem dL_law_1643 : decode cL_law 1643 = .ok (.iload_n 3, 1) := by decide +kernel
theorem dL_law_1644 : decode cL_law 1644 = .ok (.iconst 3, 1) := by decide +kernel
theorem dL_law_1645 : decode cL_law 1645 = .ok (.iadd, 1) := by decide +kernel
theorem dL_law_1646 : decode cL_law 1646 = .ok (.iaload, 1) := by decide +kernel
theorem dL_law_1647 : decode cL_law 1647 = .ok (.invokevirtual 254, 3) := by decide +kernel
theorem dL_law_1650 : decode cL_law 1650 = .ok (.aload_n 2, 1) := by decide +kernel
theorem dL_law_1651 : decode cL_law 1651 = .ok (.aload_n 0, 1) := by decide +kernel
theorem dL_law_1652 : decode cL_law 1652 = .ok (.iload_n 3, 1) := by decide +kernel
theorem dL_law_1653 : decode cL_law 1653 = .ok (.iconst 1, 1) := by decide +kernel
theorem dL_law_1654 : decode cL_law 1654 = .ok (.iadd, 1) := by decide +kernel
theorem dL_law_1655 : decode cL_law 1655 = .ok (.iaload, 1) := by decide +kernel
theorem dL_law_1656 : decode cL_law 1656 = .ok (.aload_n 0, 1) := by decide +kernel
theorem dL_law_1657 : decode cL_law 1657 = .ok (.iload_n 3, 1) := by decide +kernel
theorem dL_law_1658 : decode cL_law 1658 = .ok (.iconst 2, 1) := by decide +kernel
theorem dL_law_1659 : decode cL_law 1659 = .ok (.iadd, 1) := by decide +kernel
theorem dL_law_1660 : decode cL_law 1660 = .ok (.iaload, 1) := by decide +kernel
theorem dL_law_1661 : decode cL_law 1661 = .ok (.aload_n 0, 1) := by decide +kernel
theorem dL_law_1662 : decode cL_law 1662 = .ok (.iload_n 3, 1) := by decide +kernel
theorem dL_law_1663 : decode cL_law 1663 = .ok (.iconst 3, 1) := by decide +kernel
theorem dL_law_1664 : decode cL_law 1664 = .ok (.iadd, 1) := by decide +kernel
theorem dL_law_1665 : decode cL_law 1665 = .ok (.iaload, 1) := by decide +kernel
theorem dL_law_1666 : decode cL_law 1666 = .ok (.invokevirtual 258, 3) := by decide +kernel
theorem dL_law_1669 : decode cL_law 1669 = .ok (.lcmp, 1) := by decide +kernel
theorem dL_law_1670 : decode cL_law 1670 = .ok (.ifCond .eq 478, 3) := by decide +kernel
theorem dL_law_1675 : decode cL_law 1675 = .ok (.aload_n 1, 1) := by decide +kernel
theorem dL_law_1676 : decode cL_law 1676 = .ok (.aload_n 0, 1) := by decide +kernel
theorem dL_law_1677 : decode cL_law 1677 = .ok (.iload_n 3, 1) := by decide +kernel
theorem dL_law_1678 : decode cL_law 1678 = .ok (.iconst 1, 1) := by decide +kernel
theorem dL_law_1679 : decode cL_law 1679 = .ok (.iadd, 1) := by decide +kernel
theorem dL_law_1680 : decode cL_law 1680 = .ok (.iaload, 1) := by decide +kernel
theorem dL_law_1681 : decode cL_law 1681 = .ok (.aload_n 0, 1) := by decide +kernel
theorem dL_law_1682 : decode cL_law 1682 = .ok (.iload_n 3, 1) := by decide +kernel
theorem dL_law_1683 : decode cL_law 1683 = .ok (.iconst 2, 1) := by decide +kernel
theorem dL_law_1684 : decode cL_law 1684 = .ok (.iadd, 1) := by decide +kernel
theorem dL_law_1685 : decode cL_law 1685 = .ok (.iaload, 1) := by decide +kernel
theorem dL_law_1686 : decode cL_law 1686 = .ok (.invokevirtual 259, 3) := by decide +kernel
theorem dL_law_1689 : decode cL_law 1689 = .ok (.aload_n 2, 1) := by decide +kernel
theorem dL_law_1690 : decode cL_law 1690 = .ok (.aload_n 0, 1) := by decide +kernel
theorem dL_law_1691 : decode cL_law 1691 = .ok (.iload_n 3, 1) := by decide +kernel
theorem dL_law_1692 : decode cL_law 1692 = .ok (.iconst 1, 1) := by decide +kernel
theorem dL_law_1693 : decode cL_law 1693 = .ok (.iadd, 1) := by decide +kernel
theorem dL_law_1694 : decode cL_law 1694 = .ok (.iaload, 1) := by decide +kernel
theorem dL_law_1695 : decode cL_law 1695 = .ok (.aload_n 0, 1) := by decide +kernel
theorem dL_law_1696 : decode cL_law 1696 = .ok (.iload_n 3, 1) := by decide +kernel
theorem dL_law_1697 : decode cL_law 1697 = .ok (.iconst 2, 1) := by decide +kernel
theorem dL_law_1698 : decode cL_law 1698 = .ok (.iadd, 1) := by decide +kernel
theorem dL_law_1699 : decode cL_law 1699 = .ok (.iaload, 1) := by decide +kernel
theorem dL_law_1700 : decode cL_law 1700 = .ok (.invokevirtual 263, 3) := by decide +kernel
theorem dL_law_1703 : decode cL_law 1703 = .ok (.lcmp, 1) := by decide +kernel
theorem dL_law_1704 : decode cL_law 1704 = .ok (.ifCond .eq 444, 3) := by decide +kernel
theorem dL_law_1709 : decode cL_law 1709 = .ok (.aload_n 1, 1) := by decide +kernel
