theorem dLaw_1556g : (decode code 1556 = .ok (.goto 448, 3)) ∧ (decode code 1559 = .ok (.aload_n 1, 1)) ∧ (decode code 1560 = .ok (.aload_n 0, 1)) ∧ (decode code 1561 = .ok (.iload_n 3, 1)) ∧ (decode code 1562 = .ok (.iconst 1, 1)) ∧ (decode code 1563 = .ok (.iadd, 1)) ∧ (decode code 1564 = .ok (.iaload, 1)) ∧ (decode code 1565 = .ok (.invokevirtual 168, 3)) ∧ (decode code 1568 = .ok (.pop, 1)) ∧ (decode code 1569 = .ok (.aload_n 2, 1)) := by decide +kernel
theorem dLaw_1556 : decode code 1556 = .ok (.goto 448, 3) := dLaw_1556g.1
theorem dLaw_1559 : decode code 1559 = .ok (.aload_n 1, 1) := dLaw_1556g.2.1
theorem dLaw_1560 : decode code 1560 = .ok (.aload_n 0, 1) := dLaw_1556g.2.2.1
theorem dLaw_1561 : decode code 1561 = .ok (.iload_n 3, 1) := dLaw_1556g.2.2.2.1
theorem dLaw_1562 : decode code 1562 = .ok (.iconst 1, 1) := dLaw_1556g.2.2.2.2.1
theorem dLaw_1563 : decode code 1563 = .ok (.iadd, 1) := dLaw_1556g.2.2.2.2.2.1
theorem dLaw_1564 : decode code 1564 = .ok (.iaload, 1) := dLaw_1556g.2.2.2.2.2.2.1
theorem dLaw_1565 : decode code 1565 = .ok (.invokevirtual 168, 3) := dLaw_1556g.2.2.2.2.2.2.2.1
theorem dLaw_1568 : decode code 1568 = .ok (.pop, 1) := dLaw_1556g.2.2.2.2.2.2.2.2.1
theorem dLaw_1569 : decode code 1569 = .ok (.aload_n 2, 1) := dLaw_1556g.2.2.2.2.2.2.2.2.2
theorem dLaw_1570g : (decode code 1570 = .ok (.aload_n 0, 1)) ∧ (decode code 1571 = .ok (.iload_n 3, 1)) ∧ (decode code 1572 = .ok (.iconst 1, 1)) ∧ (decode code 1573 = .ok (.iadd, 1)) ∧ (decode code 1574 = .ok (.iaload, 1)) ∧ (decode code 1575 = .ok (.invokevirtual 171, 3)) ∧ (decode code 1578 = .ok (.pop, 1)) ∧ (decode code 1579 = .ok (.goto 425, 3)) ∧ (decode code 1582 = .ok (.aload_n 1, 1)) ∧ (decode code 1583 = .ok (.aload_n 0, 1)) := by decide +kernel
theorem dLaw_1570 : decode code 1570 = .ok (.aload_n 0, 1) := dLaw_1570g.1
theorem dLaw_1571 : decode code 1571 = .ok (.iload_n 3, 1) := dLaw_1570g.2.1
theorem dLaw_1572 : decode code 1572 = .ok (.iconst 1, 1) := dLaw_1570g.2.2.1
theorem dLaw_1573 : decode code 1573 = .ok (.iadd, 1) := dLaw_1570g.2.2.2.1
theorem dLaw_1574 : decode code 1574 = .ok (.iaload, 1) := dLaw_1570g.2.2.2.2.1
theorem dLaw_1575 : decode code 1575 = .ok (.invokevirtual 171, 3) := dLaw_1570g.2.2.2.2.2.1
theorem dLaw_1578 : decode code 1578 = .ok (.pop, 1) := dLaw_1570g.2.2.2.2.2.2.1
theorem dLaw_1579 : decode code 1579 = .ok (.goto 425, 3) := dLaw_1570g.2.2.2.2.2.2.2.1
theorem dLaw_1582 : decode code 1582 = .ok (.aload_n 1, 1) := dLaw_1570g.2.2.2.2.2.2.2.2.1
theorem dLaw_1583 : decode code 1583 = .ok (.aload_n 0, 1) := dLaw_1570g.2.2.2.2.2.2.2.2.2
theorem dLaw_1584g : (decode code 1584 = .ok (.iload_n 3, 1)) ∧ (decode code 1585 = .ok (.iconst 1, 1)) ∧ (decode code 1586 = .ok (.iadd, 1)) ∧ (decode code 1587 = .ok (.iaload, 1)) ∧ (decode code 1588 = .ok (.aload_n 0, 1)) ∧ (decode code 1589 = .ok (.iload_n 3, 1)) ∧ (decode code 1590 = .ok (.iconst 2, 1)) ∧ (decode code 1591 = .ok (.iadd, 1)) ∧ (decode code 1592 = .ok (.iaload, 1)) ∧ (decode code 1593 = .ok (.aload_n 0, 1)) := by decide +kernel
theorem dLaw_1584 : decode code 1584 = .ok (.iload_n 3, 1) := dLaw_1584g.1
theorem dLaw_1585 : decode code 1585 = .ok (.iconst 1, 1) := dLaw_1584g.2.1
theorem dLaw_1586 : decode code 1586 = .ok (.iadd, 1) := dLaw_1584g.2.2.1
theorem dLaw_1587 : decode code 1587 = .ok (.iaload, 1) := dLaw_1584g.2.2.2.1
theorem dLaw_1588 : decode code 1588 = .ok (.aload_n 0, 1) := dLaw_1584g.2.2.2.2.1
theorem dLaw_1589 : decode code 1589 = .ok (.iload_n 3, 1) := dLaw_1584g.2.2.2.2.2.1
theorem dLaw_1590 : decode code 1590 = .ok (.iconst 2, 1) := dLaw_1584g.2.2.2.2.2.2.1
theorem dLaw_1591 : decode code 1591 = .ok (.iadd, 1) := dLaw_1584g.2.2.2.2.2.2.2.1
theorem dLaw_1592 : decode code 1592 = .ok (.iaload, 1) := dLaw_1584g.2.2.2.2.2.2.2.2.1
theorem dLaw_1593 : decode code 1593 = .ok (.aload_n 0, 1) := dLaw_1584g.2.2.2.2.2.2.2.2.2
theorem dLaw_1594g : (decode code 1594 = .ok (.iload_n 3, 1)) ∧ (decode code 1595 = .ok (.iconst 3, 1)) ∧ (decode code 1596 = .ok (.iadd, 1)) ∧ (decode code 1597 = .ok (.iaload, 1)) ∧ (decode code 1598 = .ok (.aload_n 0, 1)) ∧ (decode code 1599 = .ok (.iload_n 3, 1)) ∧ (decode code 1600 = .ok (.iconst 4, 1)) ∧ (decode code 1601 = .ok (.iadd, 1)) ∧ (decode code 1602 = .ok (.iaload, 1)) ∧ (decode code 1603 = .ok (.invokevirtual 172, 3)) := by decide +kernel
theorem dLaw_1594 : decode code 1594 = .ok (.iload_n 3, 1) := dLaw_1594g.1
theorem dLaw_1595 : decode code 1595 = .ok (.iconst 3, 1) := dLaw_1594g.2.1
theorem dLaw_1596 : decode code 1596 = .ok (.iadd, 1) := dLaw_1594g.2.2.1
theorem dLaw_1597 : decode code 1597 = .ok (.iaload, 1) := dLaw_1594g.2.2.2.1
theorem dLaw_1598 : decode code 1598 = .ok (.aload_n 0, 1) := dLaw_1594g.2.2.2.2.1
theorem dLaw_1599 : decode code 1599 = .ok (.iload_n 3, 1) := dLaw_1594g.2.2.2.2.2.1
theorem dLaw_1600 : decode code 1600 = .ok (.iconst 4, 1) := dLaw_1594g.2.2.2.2.2.2.1
theorem dLaw_1601 : decode code 1601 = .ok (.iadd, 1) := dLaw_1594g.2.2.2.2.2.2.2.1
theorem dLaw_1602 : decode code 1602 = .ok (.iaload, 1) := dLaw_1594g.2.2.2.2.2.2.2.2.1
theorem dLaw_1603 : decode code 1603 = .ok (.invokevirtual 172, 3) := dLaw_1594g.2.2.2.2.2.2.2.2.2
theorem dLaw_1606g : (decode code 1606 = .ok (.pop, 1)) ∧ (decode code 1607 = .ok (.aload_n 2, 1)) ∧ (decode code 1608 = .ok (.aload_n 0, 1)) ∧ (decode code 1609 = .ok (.iload_n 3, 1)) ∧ (decode code 1610 = .ok (.iconst 1, 1)) ∧ (decode code 1611 = .ok (.iadd, 1)) ∧ (decode code 1612 = .ok (.iaload, 1)) ∧ (decode code 1613 = .ok (.aload_n 0, 1)) ∧ (decode code 1614 = .ok (.iload_n 3, 1)) ∧ (decode code 1615 = .ok (.iconst 2, 1)) := by decide +kernel
theorem dLaw_1606 : decode code 1606 = .ok (.pop, 1) := dLaw_1606g.1
theorem dLaw_1607 : decode code 1607 = .ok (.aload_n 2, 1) := dLaw_1606g.2.1
theorem dLaw_1608 : decode code 1608 = .ok (.aload_n 0, 1) := dLaw_1606g.2.2.1
theorem dLaw_1609 : decode code 1609 = .ok (.iload_n 3, 1) := dLaw_1606g.2.2.2.1
theorem dLaw_1610 : decode code 1610 = .ok (.iconst 1, 1) := dLaw_1606g.2.2.2.2.1
theorem dLaw_1611 : decode code 1611 = .ok (.iadd, 1) := dLaw_1606g.2.2.2.2.2.1
theorem dLaw_1612 : decode code 1612 = .ok (.iaload, 1) := dLaw_1606g.2.2.2.2.2.2.1
theorem dLaw_1613 : decode code 1613 = .ok (.aload_n 0, 1) := dLaw_1606g.2.2.2.2.2.2.2.1
theorem dLaw_1614 : decode code 1614 = .ok (.iload_n 3, 1) := dLaw_1606g.2.2.2.2.2.2.2.2.1
theorem dLaw_1615 : decode code 1615 = .ok (.iconst 2, 1) := dLaw_1606g.2.2.2.2.2.2.2.2.2
theorem dLaw_1616g : (decode code 1616 = .ok (.iadd, 1)) ∧ (decode code 1617 = .ok (.iaload, 1)) ∧ (decode code 1618 = .ok (.aload_n 0, 1)) ∧ (decode code 1619 = .ok (.iload_n 3, 1)) ∧ (decode code 1620 = .ok (.iconst 3, 1)) ∧ (decode code 1621 = .ok (.iadd, 1)) ∧ (decode code 1622 = .ok (.iaload, 1)) ∧ (decode code 1623 = .ok (.aload_n 0, 1)) ∧ (decode code 1624 = .ok (.iload_n 3, 1)) ∧ (decode code 1625 = .ok (.iconst 4, 1)) := by decide +kernel
theorem dLaw_1616 : decode code 1616 = .ok (.iadd, 1) := dLaw_1616g.1
theorem dLaw_1617 : decode code 1617 = .ok (.iaload, 1) := dLaw_1616g.2.1
theorem dLaw_1618 : decode code 1618 = .ok (.aload_n 0, 1) := dLaw_1616g.2.2.1
theorem dLaw_1619 : decode code 1619 = .ok (.iload_n 3, 1) := dLaw_1616g.2.2.2.1
theorem dLaw_1620 : decode code 1620 = .ok (.iconst 3, 1) := dLaw_1616g.2.2.2.2.1
theorem dLaw_1621 : decode code 1621 = .ok (.iadd, 1) := dLaw_1616g.2.2.2.2.2.1
theorem dLaw_1622 : decode code 1622 = .ok (.iaload, 1) := dLaw_1616g.2.2.2.2.2.2.1
theorem dLaw_1623 : decode code 1623 = .ok (.aload_n 0, 1) := dLaw_1616g.2.2.2.2.2.2.2.1
theorem dLaw_1624 : decode code 1624 = .ok (.iload_n 3, 1) := dLaw_1616g.2.2.2.2.2.2.2.2.1
theorem dLaw_1625 : decode code 1625 = .ok (.iconst 4, 1) := dLaw_1616g.2.2.2.2.2.2.2.2.2
theorem dLaw_1626g : (decode code 1626 = .ok (.iadd, 1)) ∧ (decode code 1627 = .ok (.iaload, 1)) ∧ (decode code 1628 = .ok (.invokevirtual 175, 3)) ∧ (decode code 1631 = .ok (.pop, 1)) ∧ (decode code 1632 = .ok (.goto 372, 3)) ∧ (decode code 1635 = .ok (.aload_n 1, 1)) ∧ (decode code 1636 = .ok (.aload_n 0, 1)) ∧ (decode code 1637 = .ok (.iload_n 3, 1)) ∧ (decode code 1638 = .ok (.iconst 1, 1)) ∧ (decode code 1639 = .ok (.iadd, 1)) := by decide +kernel
theorem dLaw_1626 : decode code 1626 = .ok (.iadd, 1) := dLaw_1626g.1
theorem dLaw_1627 : decode code 1627 = .ok (.iaload, 1) := dLaw_1626g.2.1
theorem dLaw_1628 : decode code 1628 = .ok (.invokevirtual 175, 3) := dLaw_1626g.2.2.1
theorem dLaw_1631 : decode code 1631 = .ok (.pop, 1) := dLaw_1626g.2.2.2.1
theorem dLaw_1632 : decode code 1632 = .ok (.goto 372, 3) := dLaw_1626g.2.2.2.2.1
theorem dLaw_1635 : decode code 1635 = .ok (.aload_n 1, 1) := dLaw_1626g.2.2.2.2.2.1
theorem dLaw_1636 : decode code 1636 = .ok (.aload_n 0, 1) := dLaw_1626g.2.2.2.2.2.2.1
theorem dLaw_1637 : decode code 1637 = .ok (.iload_n 3, 1) := dLaw_1626g.2.2.2.2.2.2.2.1
theorem dLaw_1638 : decode code 1638 = .ok (.iconst 1, 1) := dLaw_1626g.2.2.2.2.2.2.2.2.1
theorem dLaw_1639 : decode code 1639 = .ok (.iadd, 1) := dLaw_1626g.2.2.2.2.2.2.2.2.2
theorem dLaw_1640g : (decode code 1640 = .ok (.iaload, 1)) ∧ (decode code 1641 = .ok (.aload_n 0, 1)) ∧ (decode code 1642 = .ok (.iload_n 3, 1)) ∧ (decode code 1643 = .ok (.iconst 2, 1)) ∧ (decode code 1644 = .ok (.iadd, 1)) ∧ (decode code 1645 = .ok (.iaload, 1)) ∧ (decode code 1646 = .ok (.aload_n 0, 1)) ∧ (decode code 1647 = .ok (.iload_n 3, 1)) ∧ (decode code 1648 = .ok (.iconst 3, 1)) ∧ (decode code 1649 = .ok (.iadd, 1)) := by decide +kernel
theorem dLaw_1640 : decode code 1640 = .ok (.iaload, 1) := dLaw_1640g.1
theorem dLaw_1641 : decode code 1641 = .ok (.aload_n 0, 1) := dLaw_1640g.2.1
theorem dLaw_1642 : decode code 1642 = .ok (.iload_n 3, 1) := dLaw_1640g.2.2.1
theorem dLaw_1643 : decode code 1643 = .ok (.iconst 2, 1) := dLaw_1640g.2.2.2.1
theorem dLaw_1644 : decode code 1644 = .ok (.iadd, 1) := dLaw_1640g.2.2.2.2.1
theorem dLaw_1645 : decode code 1645 = .ok (.iaload, 1) := dLaw_1640g.2.2.2.2.2.1
theorem dLaw_1646 : decode code 1646 = .ok (.aload_n 0, 1) := dLaw_1640g.2.2.2.2.2.2.1
theorem dLaw_1647 : decode code 1647 = .ok (.iload_n 3, 1) := dLaw_1640g.2.2.2.2.2.2.2.1
theorem dLaw_1648 : decode code 1648 = .ok (.iconst 3, 1) := dLaw_1640g.2.2.2.2.2.2.2.2.1
theorem dLaw_1649 : decode code 1649 = .ok (.iadd, 1) := dLaw_1640g.2.2.2.2.2.2.2.2.2
theorem dLaw_1650g : (decode code 1650 = .ok (.iaload, 1)) ∧ (decode code 1651 = .ok (.invokevirtual 176, 3)) ∧ (decode code 1654 = .ok (.pop, 1)) ∧ (decode code 1655 = .ok (.aload_n 2, 1)) ∧ (decode code 1656 = .ok (.aload_n 0, 1)) ∧ (decode code 1657 = .ok (.iload_n 3, 1)) ∧ (decode code 1658 = .ok (.iconst 1, 1)) ∧ (decode code 1659 = .ok (.iadd, 1)) ∧ (decode code 1660 = .ok (.iaload, 1)) ∧ (decode code 1661 = .ok (.aload_n 0, 1)) := by decide +kernel
theorem dLaw_1650 : decode code 1650 = .ok (.iaload, 1) := dLaw_1650g.1
theorem dLaw_1651 : decode code 1651 = .ok (.invokevirtual 176, 3) := dLaw_1650g.2.1
theorem dLaw_1654 : decode code 1654 = .ok (.pop, 1) := dLaw_1650g.2.2.1
theorem dLaw_1655 : decode code 1655 = .ok (.aload_n 2, 1) := dLaw_1650g.2.2.2.1
theorem dLaw_1656 : decode code 1656 = .ok (.aload_n 0, 1) := dLaw_1650g.2.2.2.2.1
theorem dLaw_1657 : decode code 1657 = .ok (.iload_n 3, 1) := dLaw_1650g.2.2.2.2.2.1
theorem dLaw_1658 : decode code 1658 = .ok (.iconst 1, 1) := dLaw_1650g.2.2.2.2.2.2.1
theorem dLaw_1659 : decode code 1659 = .ok (.iadd, 1) := dLaw_1650g.2.2.2.2.2.2.2.1
theorem dLaw_1660 : decode code 1660 = .ok (.iaload, 1) := dLaw_1650g.2.2.2.2.2.2.2.2.1
theorem dLaw_1661 : decode code 1661 = .ok (.aload_n 0, 1) := dLaw_1650g.2.2.2.2.2.2.2.2.2
theorem dLaw_1662g : (decode code 1662 = .ok (.iload_n 3, 1)) ∧ (decode code 1663 = .ok (.iconst 2, 1)) ∧ (decode code 1664 = .ok (.iadd, 1)) ∧ (decode code 1665 = .ok (.iaload, 1)) ∧ (decode code 1666 = .ok (.aload_n 0, 1)) ∧ (decode code 1667 = .ok (.iload_n 3, 1)) ∧ (decode code 1668 = .ok (.iconst 3, 1)) ∧ (decode code 1669 = .ok (.iadd, 1)) ∧ (decode code 1670 = .ok (.iaload, 1)) ∧ (decode code 1671 = .ok (.invokevirtual 179, 3)) := by decide +kernel
theorem dLaw_1662 : decode code 1662 = .ok (.iload_n 3, 1) := dLaw_1662g.1
theorem dLaw_1663 : decode code 1663 = .ok (.iconst 2, 1) := dLaw_1662g.2.1
theorem dLaw_1664 : decode code 1664 = .ok (.iadd, 1) := dLaw_1662g.2.2.1
theorem dLaw_1665 : decode code 1665 = .ok (.iaload, 1) := dLaw_1662g.2.2.2.1
theorem dLaw_1666 : decode code 1666 = .ok (.aload_n 0, 1) := dLaw_1662g.2.2.2.2.1
theorem dLaw_1667 : decode code 1667 = .ok (.iload_n 3, 1) := dLaw_1662g.2.2.2.2.2.1
theorem dLaw_1668 : decode code 1668 = .ok (.iconst 3, 1) := dLaw_1662g.2.2.2.2.2.2.1
theorem dLaw_1669 : decode code 1669 = .ok (.iadd, 1) := dLaw_1662g.2.2.2.2.2.2.2.1
theorem dLaw_1670 : decode code 1670 = .ok (.iaload, 1) := dLaw_1662g.2.2.2.2.2.2.2.2.1
theorem dLaw_1671 : decode code 1671 = .ok (.invokevirtual 179, 3) := dLaw_1662g.2.2.2.2.2.2.2.2.2
