theorem dL_law_1438 : decode code 1438 = .ok (.iconst 2, 1) := by decide +kernel
theorem dL_law_1439 : decode code 1439 = .ok (.iadd, 1) := by decide +kernel
theorem dL_law_1440 : decode code 1440 = .ok (.iaload, 1) := by decide +kernel
theorem dL_law_1441 : decode code 1441 = .ok (.invokevirtual 145, 3) := by decide +kernel
theorem dL_law_1444 : decode code 1444 = .ok (.pop, 1) := by decide +kernel
theorem dL_law_1445 : decode code 1445 = .ok (.goto 105, 3) := by decide +kernel
theorem dL_law_1448 : decode code 1448 = .ok (.aload_n 1, 1) := by decide +kernel
theorem dL_law_1449 : decode code 1449 = .ok (.aload_n 0, 1) := by decide +kernel
theorem dL_law_1450 : decode code 1450 = .ok (.iload_n 3, 1) := by decide +kernel
theorem dL_law_1451 : decode code 1451 = .ok (.iconst 1, 1) := by decide +kernel
theorem dL_law_1452 : decode code 1452 = .ok (.iadd, 1) := by decide +kernel
theorem dL_law_1453 : decode code 1453 = .ok (.iaload, 1) := by decide +kernel
theorem dL_law_1454 : decode code 1454 = .ok (.invokevirtual 146, 3) := by decide +kernel
theorem dL_law_1457 : decode code 1457 = .ok (.pop, 1) := by decide +kernel
theorem dL_law_1458 : decode code 1458 = .ok (.aload_n 2, 1) := by decide +kernel
theorem dL_law_1459 : decode code 1459 = .ok (.aload_n 0, 1) := by decide +kernel
theorem dL_law_1460 : decode code 1460 = .ok (.iload_n 3, 1) := by decide +kernel
theorem dL_law_1461 : decode code 1461 = .ok (.iconst 1, 1) := by decide +kernel
theorem dL_law_1462 : decode code 1462 = .ok (.iadd, 1) := by decide +kernel
theorem dL_law_1463 : decode code 1463 = .ok (.iaload, 1) := by decide +kernel
theorem dL_law_1464 : decode code 1464 = .ok (.invokevirtual 149, 3) := by decide +kernel
theorem dL_law_1467 : decode code 1467 = .ok (.pop, 1) := by decide +kernel
theorem dL_law_1468 : decode code 1468 = .ok (.goto 82, 3) := by decide +kernel
theorem dL_law_1471 : decode code 1471 = .ok (.aload_n 1, 1) := by decide +kernel
theorem dL_law_1472 : decode code 1472 = .ok (.aload_n 0, 1) := by decide +kernel
theorem dL_law_1473 : decode code 1473 = .ok (.iload_n 3, 1) := by decide +kernel
theorem dL_law_1474 : decode code 1474 = .ok (.iconst 1, 1) := by decide +kernel
theorem dL_law_1475 : decode code 1475 = .ok (.iadd, 1) := by decide +kernel
theorem dL_law_1476 : decode code 1476 = .ok (.iaload, 1) := by decide +kernel
theorem dL_law_1477 : decode code 1477 = .ok (.aload_n 0, 1) := by decide +kernel
theorem dL_law_1478 : decode code 1478 = .ok (.iload_n 3, 1) := by decide +kernel
theorem dL_law_1479 : decode code 1479 = .ok (.iconst 2, 1) := by decide +kernel
theorem dL_law_1480 : decode code 1480 = .ok (.iadd, 1) := by decide +kernel
theorem dL_law_1481 : decode code 1481 = .ok (.iaload, 1) := by decide +kernel
theorem dL_law_1482 : decode code 1482 = .ok (.invokevirtual 150, 3) := by decide +kernel
theorem dL_law_1485 : decode code 1485 = .ok (.pop, 1) := by decide +kernel
theorem dL_law_1486 : decode code 1486 = .ok (.aload_n 2, 1) := by decide +kernel
theorem dL_law_1487 : decode code 1487 = .ok (.aload_n 0, 1) := by decide +kernel
theorem dL_law_1488 : decode code 1488 = .ok (.iload_n 3, 1) := by decide +kernel
theorem dL_law_1489 : decode code 1489 = .ok (.iconst 1, 1) := by decide +kernel
theorem dL_law_1490 : decode code 1490 = .ok (.iadd, 1) := by decide +kernel
theorem dL_law_1491 : decode code 1491 = .ok (.iaload, 1) := by decide +kernel
theorem dL_law_1492 : decode code 1492 = .ok (.aload_n 0, 1) := by decide +kernel
theorem dL_law_1493 : decode code 1493 = .ok (.iload_n 3, 1) := by decide +kernel
theorem dL_law_1494 : decode code 1494 = .ok (.iconst 2, 1) := by decide +kernel
theorem dL_law_1495 : decode code 1495 = .ok (.iadd, 1) := by decide +kernel
theorem dL_law_1496 : decode code 1496 = .ok (.iaload, 1) := by decide +kernel
theorem dL_law_1497 : decode code 1497 = .ok (.invokevirtual 153, 3) := by decide +kernel
theorem dL_law_1500 : decode code 1500 = .ok (.pop, 1) := by decide +kernel
theorem dL_law_1501 : decode code 1501 = .ok (.goto 49, 3) := by decide +kernel
theorem dL_law_1504 : decode code 1504 = .ok (.aload_n 1, 1) := by decide +kernel
theorem dL_law_1505 : decode code 1505 = .ok (.aload_n 0, 1) := by decide +kernel
theorem dL_law_1506 : decode code 1506 = .ok (.iload_n 3, 1) := by decide +kernel
theorem dL_law_1507 : decode code 1507 = .ok (.iconst 1, 1) := by decide +kernel
theorem dL_law_1508 : decode code 1508 = .ok (.iadd, 1) := by decide +kernel
theorem dL_law_1509 : decode code 1509 = .ok (.iaload, 1) := by decide +kernel
theorem dL_law_1510 : decode code 1510 = .ok (.invokevirtual 154, 3) := by decide +kernel
theorem dL_law_1513 : decode code 1513 = .ok (.pop, 1) := by decide +kernel
theorem dL_law_1514 : decode code 1514 = .ok (.aload_n 2, 1) := by decide +kernel
theorem dL_law_1515 : decode code 1515 = .ok (.aload_n 0, 1) := by decide +kernel
theorem dL_law_1516 : decode code 1516 = .ok (.iload_n 3, 1) := by decide +kernel
theorem dL_law_1517 : decode code 1517 = .ok (.iconst 1, 1) := by decide +kernel
theorem dL_law_1518 : decode code 1518 = .ok (.iadd, 1) := by decide +kernel
theorem dL_law_1519 : decode code 1519 = .ok (.iaload, 1) := by decide +kernel
theorem dL_law_1520 : decode code 1520 = .ok (.invokevirtual 157, 3) := by decide +kernel
theorem dL_law_1523 : decode code 1523 = .ok (.pop, 1) := by decide +kernel
theorem dL_law_1524 : decode code 1524 = .ok (.goto 26, 3) := by decide +kernel
theorem dL_law_1527 : decode code 1527 = .ok (.aload_n 1, 1) := by decide +kernel
theorem dL_law_1528 : decode code 1528 = .ok (.aload_n 0, 1) := by decide +kernel
theorem dL_law_1529 : decode code 1529 = .ok (.iload_n 3, 1) := by decide +kernel
theorem dL_law_1530 : decode code 1530 = .ok (.iconst 1, 1) := by decide +kernel
theorem dL_law_1531 : decode code 1531 = .ok (.iadd, 1) := by decide +kernel
theorem dL_law_1532 : decode code 1532 = .ok (.iaload, 1) := by decide +kernel
theorem dL_law_1533 : decode code 1533 = .ok (.invokevirtual 158, 3) := by decide +kernel
theorem dL_law_1536 : decode code 1536 = .ok (.pop, 1) := by decide +kernel
theorem dL_law_1537 : decode code 1537 = .ok (.aload_n 2, 1) := by decide +kernel
theorem dL_law_1538 : decode code 1538 = .ok (.aload_n 0, 1) := by decide +kernel
theorem dL_law_1539 : decode code 1539 = .ok (.iload_n 3, 1) := by decide +kernel
theorem dL_law_1540 : decode code 1540 = .ok (.iconst 1, 1) := by decide +kernel
theorem dL_law_1541 : decode code 1541 = .ok (.iadd, 1) := by decide +kernel
theorem dL_law_1542 : decode code 1542 = .ok (.iaload, 1) := by decide +kernel
theorem dL_law_1543 : decode code 1543 = .ok (.invokevirtual 161, 3) := by decide +kernel
theorem dL_law_1546 : decode code 1546 = .ok (.pop, 1) := by decide +kernel
theorem dL_law_1547 : decode code 1547 = .ok (.goto 3, 3) := by decide +kernel
theorem dL_law_1550 : decode code 1550 = .ok (.iinc 3 6, 3) := by decide +kernel
theorem dL_law_1553 : decode code 1553 = .ok (.goto (-1535), 3) := by decide +kernel
theorem dL_law_1556 : decode code 1556 = .ok (.iconst 1, 1) := by decide +kernel
theorem dL_law_1557 : decode code 1557 = .ok (.ireturn, 1) := by decide +kernel
