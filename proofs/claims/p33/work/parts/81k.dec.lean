theorem dLaw_1428g : (decode code 1428 = .ok (.iadd, 1)) ∧ (decode code 1429 = .ok (.iaload, 1)) ∧ (decode code 1430 = .ok (.invokevirtual 148, 3)) ∧ (decode code 1433 = .ok (.pop, 1)) ∧ (decode code 1434 = .ok (.aload_n 2, 1)) ∧ (decode code 1435 = .ok (.aload_n 0, 1)) ∧ (decode code 1436 = .ok (.iload_n 3, 1)) ∧ (decode code 1437 = .ok (.iconst 1, 1)) ∧ (decode code 1438 = .ok (.iadd, 1)) ∧ (decode code 1439 = .ok (.iaload, 1)) := by decide +kernel
theorem dLaw_1428 : decode code 1428 = .ok (.iadd, 1) := dLaw_1428g.1
theorem dLaw_1429 : decode code 1429 = .ok (.iaload, 1) := dLaw_1428g.2.1
theorem dLaw_1430 : decode code 1430 = .ok (.invokevirtual 148, 3) := dLaw_1428g.2.2.1
theorem dLaw_1433 : decode code 1433 = .ok (.pop, 1) := dLaw_1428g.2.2.2.1
theorem dLaw_1434 : decode code 1434 = .ok (.aload_n 2, 1) := dLaw_1428g.2.2.2.2.1
theorem dLaw_1435 : decode code 1435 = .ok (.aload_n 0, 1) := dLaw_1428g.2.2.2.2.2.1
theorem dLaw_1436 : decode code 1436 = .ok (.iload_n 3, 1) := dLaw_1428g.2.2.2.2.2.2.1
theorem dLaw_1437 : decode code 1437 = .ok (.iconst 1, 1) := dLaw_1428g.2.2.2.2.2.2.2.1
theorem dLaw_1438 : decode code 1438 = .ok (.iadd, 1) := dLaw_1428g.2.2.2.2.2.2.2.2.1
theorem dLaw_1439 : decode code 1439 = .ok (.iaload, 1) := dLaw_1428g.2.2.2.2.2.2.2.2.2
theorem dLaw_1440g : (decode code 1440 = .ok (.invokevirtual 151, 3)) ∧ (decode code 1443 = .ok (.pop, 1)) ∧ (decode code 1444 = .ok (.goto 560, 3)) ∧ (decode code 1447 = .ok (.aload_n 1, 1)) ∧ (decode code 1448 = .ok (.aload_n 0, 1)) ∧ (decode code 1449 = .ok (.iload_n 3, 1)) ∧ (decode code 1450 = .ok (.iconst 1, 1)) ∧ (decode code 1451 = .ok (.iadd, 1)) ∧ (decode code 1452 = .ok (.iaload, 1)) ∧ (decode code 1453 = .ok (.aload_n 0, 1)) := by decide +kernel
theorem dLaw_1440 : decode code 1440 = .ok (.invokevirtual 151, 3) := dLaw_1440g.1
theorem dLaw_1443 : decode code 1443 = .ok (.pop, 1) := dLaw_1440g.2.1
theorem dLaw_1444 : decode code 1444 = .ok (.goto 560, 3) := dLaw_1440g.2.2.1
theorem dLaw_1447 : decode code 1447 = .ok (.aload_n 1, 1) := dLaw_1440g.2.2.2.1
theorem dLaw_1448 : decode code 1448 = .ok (.aload_n 0, 1) := dLaw_1440g.2.2.2.2.1
theorem dLaw_1449 : decode code 1449 = .ok (.iload_n 3, 1) := dLaw_1440g.2.2.2.2.2.1
theorem dLaw_1450 : decode code 1450 = .ok (.iconst 1, 1) := dLaw_1440g.2.2.2.2.2.2.1
theorem dLaw_1451 : decode code 1451 = .ok (.iadd, 1) := dLaw_1440g.2.2.2.2.2.2.2.1
theorem dLaw_1452 : decode code 1452 = .ok (.iaload, 1) := dLaw_1440g.2.2.2.2.2.2.2.2.1
theorem dLaw_1453 : decode code 1453 = .ok (.aload_n 0, 1) := dLaw_1440g.2.2.2.2.2.2.2.2.2
theorem dLaw_1454g : (decode code 1454 = .ok (.iload_n 3, 1)) ∧ (decode code 1455 = .ok (.iconst 2, 1)) ∧ (decode code 1456 = .ok (.iadd, 1)) ∧ (decode code 1457 = .ok (.iaload, 1)) ∧ (decode code 1458 = .ok (.invokevirtual 152, 3)) ∧ (decode code 1461 = .ok (.pop, 1)) ∧ (decode code 1462 = .ok (.aload_n 2, 1)) ∧ (decode code 1463 = .ok (.aload_n 0, 1)) ∧ (decode code 1464 = .ok (.iload_n 3, 1)) ∧ (decode code 1465 = .ok (.iconst 1, 1)) := by decide +kernel
theorem dLaw_1454 : decode code 1454 = .ok (.iload_n 3, 1) := dLaw_1454g.1
theorem dLaw_1455 : decode code 1455 = .ok (.iconst 2, 1) := dLaw_1454g.2.1
theorem dLaw_1456 : decode code 1456 = .ok (.iadd, 1) := dLaw_1454g.2.2.1
theorem dLaw_1457 : decode code 1457 = .ok (.iaload, 1) := dLaw_1454g.2.2.2.1
theorem dLaw_1458 : decode code 1458 = .ok (.invokevirtual 152, 3) := dLaw_1454g.2.2.2.2.1
theorem dLaw_1461 : decode code 1461 = .ok (.pop, 1) := dLaw_1454g.2.2.2.2.2.1
theorem dLaw_1462 : decode code 1462 = .ok (.aload_n 2, 1) := dLaw_1454g.2.2.2.2.2.2.1
theorem dLaw_1463 : decode code 1463 = .ok (.aload_n 0, 1) := dLaw_1454g.2.2.2.2.2.2.2.1
theorem dLaw_1464 : decode code 1464 = .ok (.iload_n 3, 1) := dLaw_1454g.2.2.2.2.2.2.2.2.1
theorem dLaw_1465 : decode code 1465 = .ok (.iconst 1, 1) := dLaw_1454g.2.2.2.2.2.2.2.2.2
theorem dLaw_1466g : (decode code 1466 = .ok (.iadd, 1)) ∧ (decode code 1467 = .ok (.iaload, 1)) ∧ (decode code 1468 = .ok (.aload_n 0, 1)) ∧ (decode code 1469 = .ok (.iload_n 3, 1)) ∧ (decode code 1470 = .ok (.iconst 2, 1)) ∧ (decode code 1471 = .ok (.iadd, 1)) ∧ (decode code 1472 = .ok (.iaload, 1)) ∧ (decode code 1473 = .ok (.invokevirtual 155, 3)) ∧ (decode code 1476 = .ok (.pop, 1)) ∧ (decode code 1477 = .ok (.goto 527, 3)) := by decide +kernel
theorem dLaw_1466 : decode code 1466 = .ok (.iadd, 1) := dLaw_1466g.1
theorem dLaw_1467 : decode code 1467 = .ok (.iaload, 1) := dLaw_1466g.2.1
theorem dLaw_1468 : decode code 1468 = .ok (.aload_n 0, 1) := dLaw_1466g.2.2.1
theorem dLaw_1469 : decode code 1469 = .ok (.iload_n 3, 1) := dLaw_1466g.2.2.2.1
theorem dLaw_1470 : decode code 1470 = .ok (.iconst 2, 1) := dLaw_1466g.2.2.2.2.1
theorem dLaw_1471 : decode code 1471 = .ok (.iadd, 1) := dLaw_1466g.2.2.2.2.2.1
theorem dLaw_1472 : decode code 1472 = .ok (.iaload, 1) := dLaw_1466g.2.2.2.2.2.2.1
theorem dLaw_1473 : decode code 1473 = .ok (.invokevirtual 155, 3) := dLaw_1466g.2.2.2.2.2.2.2.1
theorem dLaw_1476 : decode code 1476 = .ok (.pop, 1) := dLaw_1466g.2.2.2.2.2.2.2.2.1
theorem dLaw_1477 : decode code 1477 = .ok (.goto 527, 3) := dLaw_1466g.2.2.2.2.2.2.2.2.2
theorem dLaw_1480g : (decode code 1480 = .ok (.aload_n 1, 1)) ∧ (decode code 1481 = .ok (.aload_n 0, 1)) ∧ (decode code 1482 = .ok (.iload_n 3, 1)) ∧ (decode code 1483 = .ok (.iconst 1, 1)) ∧ (decode code 1484 = .ok (.iadd, 1)) ∧ (decode code 1485 = .ok (.iaload, 1)) ∧ (decode code 1486 = .ok (.invokevirtual 156, 3)) ∧ (decode code 1489 = .ok (.pop, 1)) ∧ (decode code 1490 = .ok (.aload_n 2, 1)) ∧ (decode code 1491 = .ok (.aload_n 0, 1)) := by decide +kernel
theorem dLaw_1480 : decode code 1480 = .ok (.aload_n 1, 1) := dLaw_1480g.1
theorem dLaw_1481 : decode code 1481 = .ok (.aload_n 0, 1) := dLaw_1480g.2.1
theorem dLaw_1482 : decode code 1482 = .ok (.iload_n 3, 1) := dLaw_1480g.2.2.1
theorem dLaw_1483 : decode code 1483 = .ok (.iconst 1, 1) := dLaw_1480g.2.2.2.1
theorem dLaw_1484 : decode code 1484 = .ok (.iadd, 1) := dLaw_1480g.2.2.2.2.1
theorem dLaw_1485 : decode code 1485 = .ok (.iaload, 1) := dLaw_1480g.2.2.2.2.2.1
theorem dLaw_1486 : decode code 1486 = .ok (.invokevirtual 156, 3) := dLaw_1480g.2.2.2.2.2.2.1
theorem dLaw_1489 : decode code 1489 = .ok (.pop, 1) := dLaw_1480g.2.2.2.2.2.2.2.1
theorem dLaw_1490 : decode code 1490 = .ok (.aload_n 2, 1) := dLaw_1480g.2.2.2.2.2.2.2.2.1
theorem dLaw_1491 : decode code 1491 = .ok (.aload_n 0, 1) := dLaw_1480g.2.2.2.2.2.2.2.2.2
theorem dLaw_1492g : (decode code 1492 = .ok (.iload_n 3, 1)) ∧ (decode code 1493 = .ok (.iconst 1, 1)) ∧ (decode code 1494 = .ok (.iadd, 1)) ∧ (decode code 1495 = .ok (.iaload, 1)) ∧ (decode code 1496 = .ok (.invokevirtual 159, 3)) ∧ (decode code 1499 = .ok (.pop, 1)) ∧ (decode code 1500 = .ok (.goto 504, 3)) ∧ (decode code 1503 = .ok (.aload_n 1, 1)) ∧ (decode code 1504 = .ok (.aload_n 0, 1)) ∧ (decode code 1505 = .ok (.iload_n 3, 1)) := by decide +kernel
theorem dLaw_1492 : decode code 1492 = .ok (.iload_n 3, 1) := dLaw_1492g.1
theorem dLaw_1493 : decode code 1493 = .ok (.iconst 1, 1) := dLaw_1492g.2.1
theorem dLaw_1494 : decode code 1494 = .ok (.iadd, 1) := dLaw_1492g.2.2.1
theorem dLaw_1495 : decode code 1495 = .ok (.iaload, 1) := dLaw_1492g.2.2.2.1
theorem dLaw_1496 : decode code 1496 = .ok (.invokevirtual 159, 3) := dLaw_1492g.2.2.2.2.1
theorem dLaw_1499 : decode code 1499 = .ok (.pop, 1) := dLaw_1492g.2.2.2.2.2.1
theorem dLaw_1500 : decode code 1500 = .ok (.goto 504, 3) := dLaw_1492g.2.2.2.2.2.2.1
theorem dLaw_1503 : decode code 1503 = .ok (.aload_n 1, 1) := dLaw_1492g.2.2.2.2.2.2.2.1
theorem dLaw_1504 : decode code 1504 = .ok (.aload_n 0, 1) := dLaw_1492g.2.2.2.2.2.2.2.2.1
theorem dLaw_1505 : decode code 1505 = .ok (.iload_n 3, 1) := dLaw_1492g.2.2.2.2.2.2.2.2.2
theorem dLaw_1506g : (decode code 1506 = .ok (.iconst 1, 1)) ∧ (decode code 1507 = .ok (.iadd, 1)) ∧ (decode code 1508 = .ok (.iaload, 1)) ∧ (decode code 1509 = .ok (.aload_n 0, 1)) ∧ (decode code 1510 = .ok (.iload_n 3, 1)) ∧ (decode code 1511 = .ok (.iconst 2, 1)) ∧ (decode code 1512 = .ok (.iadd, 1)) ∧ (decode code 1513 = .ok (.iaload, 1)) ∧ (decode code 1514 = .ok (.aload_n 0, 1)) ∧ (decode code 1515 = .ok (.iload_n 3, 1)) := by decide +kernel
theorem dLaw_1506 : decode code 1506 = .ok (.iconst 1, 1) := dLaw_1506g.1
theorem dLaw_1507 : decode code 1507 = .ok (.iadd, 1) := dLaw_1506g.2.1
theorem dLaw_1508 : decode code 1508 = .ok (.iaload, 1) := dLaw_1506g.2.2.1
theorem dLaw_1509 : decode code 1509 = .ok (.aload_n 0, 1) := dLaw_1506g.2.2.2.1
theorem dLaw_1510 : decode code 1510 = .ok (.iload_n 3, 1) := dLaw_1506g.2.2.2.2.1
theorem dLaw_1511 : decode code 1511 = .ok (.iconst 2, 1) := dLaw_1506g.2.2.2.2.2.1
theorem dLaw_1512 : decode code 1512 = .ok (.iadd, 1) := dLaw_1506g.2.2.2.2.2.2.1
theorem dLaw_1513 : decode code 1513 = .ok (.iaload, 1) := dLaw_1506g.2.2.2.2.2.2.2.1
theorem dLaw_1514 : decode code 1514 = .ok (.aload_n 0, 1) := dLaw_1506g.2.2.2.2.2.2.2.2.1
theorem dLaw_1515 : decode code 1515 = .ok (.iload_n 3, 1) := dLaw_1506g.2.2.2.2.2.2.2.2.2
theorem dLaw_1516g : (decode code 1516 = .ok (.iconst 3, 1)) ∧ (decode code 1517 = .ok (.iadd, 1)) ∧ (decode code 1518 = .ok (.iaload, 1)) ∧ (decode code 1519 = .ok (.invokevirtual 160, 3)) ∧ (decode code 1522 = .ok (.pop, 1)) ∧ (decode code 1523 = .ok (.aload_n 2, 1)) ∧ (decode code 1524 = .ok (.aload_n 0, 1)) ∧ (decode code 1525 = .ok (.iload_n 3, 1)) ∧ (decode code 1526 = .ok (.iconst 1, 1)) ∧ (decode code 1527 = .ok (.iadd, 1)) := by decide +kernel
theorem dLaw_1516 : decode code 1516 = .ok (.iconst 3, 1) := dLaw_1516g.1
theorem dLaw_1517 : decode code 1517 = .ok (.iadd, 1) := dLaw_1516g.2.1
theorem dLaw_1518 : decode code 1518 = .ok (.iaload, 1) := dLaw_1516g.2.2.1
theorem dLaw_1519 : decode code 1519 = .ok (.invokevirtual 160, 3) := dLaw_1516g.2.2.2.1
theorem dLaw_1522 : decode code 1522 = .ok (.pop, 1) := dLaw_1516g.2.2.2.2.1
theorem dLaw_1523 : decode code 1523 = .ok (.aload_n 2, 1) := dLaw_1516g.2.2.2.2.2.1
theorem dLaw_1524 : decode code 1524 = .ok (.aload_n 0, 1) := dLaw_1516g.2.2.2.2.2.2.1
theorem dLaw_1525 : decode code 1525 = .ok (.iload_n 3, 1) := dLaw_1516g.2.2.2.2.2.2.2.1
theorem dLaw_1526 : decode code 1526 = .ok (.iconst 1, 1) := dLaw_1516g.2.2.2.2.2.2.2.2.1
theorem dLaw_1527 : decode code 1527 = .ok (.iadd, 1) := dLaw_1516g.2.2.2.2.2.2.2.2.2
theorem dLaw_1528g : (decode code 1528 = .ok (.iaload, 1)) ∧ (decode code 1529 = .ok (.aload_n 0, 1)) ∧ (decode code 1530 = .ok (.iload_n 3, 1)) ∧ (decode code 1531 = .ok (.iconst 2, 1)) ∧ (decode code 1532 = .ok (.iadd, 1)) ∧ (decode code 1533 = .ok (.iaload, 1)) ∧ (decode code 1534 = .ok (.aload_n 0, 1)) ∧ (decode code 1535 = .ok (.iload_n 3, 1)) ∧ (decode code 1536 = .ok (.iconst 3, 1)) ∧ (decode code 1537 = .ok (.iadd, 1)) := by decide +kernel
theorem dLaw_1528 : decode code 1528 = .ok (.iaload, 1) := dLaw_1528g.1
theorem dLaw_1529 : decode code 1529 = .ok (.aload_n 0, 1) := dLaw_1528g.2.1
theorem dLaw_1530 : decode code 1530 = .ok (.iload_n 3, 1) := dLaw_1528g.2.2.1
theorem dLaw_1531 : decode code 1531 = .ok (.iconst 2, 1) := dLaw_1528g.2.2.2.1
theorem dLaw_1532 : decode code 1532 = .ok (.iadd, 1) := dLaw_1528g.2.2.2.2.1
theorem dLaw_1533 : decode code 1533 = .ok (.iaload, 1) := dLaw_1528g.2.2.2.2.2.1
theorem dLaw_1534 : decode code 1534 = .ok (.aload_n 0, 1) := dLaw_1528g.2.2.2.2.2.2.1
theorem dLaw_1535 : decode code 1535 = .ok (.iload_n 3, 1) := dLaw_1528g.2.2.2.2.2.2.2.1
theorem dLaw_1536 : decode code 1536 = .ok (.iconst 3, 1) := dLaw_1528g.2.2.2.2.2.2.2.2.1
theorem dLaw_1537 : decode code 1537 = .ok (.iadd, 1) := dLaw_1528g.2.2.2.2.2.2.2.2.2
theorem dLaw_1538g : (decode code 1538 = .ok (.iaload, 1)) ∧ (decode code 1539 = .ok (.invokevirtual 163, 3)) ∧ (decode code 1542 = .ok (.pop, 1)) ∧ (decode code 1543 = .ok (.goto 461, 3)) ∧ (decode code 1546 = .ok (.aload_n 1, 1)) ∧ (decode code 1547 = .ok (.invokevirtual 164, 3)) ∧ (decode code 1550 = .ok (.pop, 1)) ∧ (decode code 1551 = .ok (.aload_n 2, 1)) ∧ (decode code 1552 = .ok (.invokevirtual 167, 3)) ∧ (decode code 1555 = .ok (.pop, 1)) := by decide +kernel
theorem dLaw_1538 : decode code 1538 = .ok (.iaload, 1) := dLaw_1538g.1
theorem dLaw_1539 : decode code 1539 = .ok (.invokevirtual 163, 3) := dLaw_1538g.2.1
theorem dLaw_1542 : decode code 1542 = .ok (.pop, 1) := dLaw_1538g.2.2.1
theorem dLaw_1543 : decode code 1543 = .ok (.goto 461, 3) := dLaw_1538g.2.2.2.1
theorem dLaw_1546 : decode code 1546 = .ok (.aload_n 1, 1) := dLaw_1538g.2.2.2.2.1
theorem dLaw_1547 : decode code 1547 = .ok (.invokevirtual 164, 3) := dLaw_1538g.2.2.2.2.2.1
theorem dLaw_1550 : decode code 1550 = .ok (.pop, 1) := dLaw_1538g.2.2.2.2.2.2.1
theorem dLaw_1551 : decode code 1551 = .ok (.aload_n 2, 1) := dLaw_1538g.2.2.2.2.2.2.2.1
theorem dLaw_1552 : decode code 1552 = .ok (.invokevirtual 167, 3) := dLaw_1538g.2.2.2.2.2.2.2.2.1
theorem dLaw_1555 : decode code 1555 = .ok (.pop, 1) := dLaw_1538g.2.2.2.2.2.2.2.2.2
