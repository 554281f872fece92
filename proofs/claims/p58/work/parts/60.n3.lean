theorem kqdL_law_1554 : kq cL_law [(1554, .iload_n 3, 1), (1555, .iconst 1, 1), (1556, .iadd, 1), (1557, .iaload, 1), (1558, .invokevirtual 221, 3), (1561, .pop, 1), (1562, .goto 394, 3), (1565, .aload_n 1, 1), (1566, .invokevirtual 222, 3), (1569, .pop, 1), (1570, .aload_n 2, 1), (1571, .invokevirtual 225, 3), (1574, .pop, 1), (1575, .goto 381, 3), (1578, .aload_n 1, 1), (1579, .aload_n 0, 1), (1580, .iload_n 3, 1), (1581, .iconst 1, 1), (1582, .iadd, 1), (1583, .iaload, 1), (1584, .aload_n 0, 1), (1585, .iload_n 3, 1), (1586, .iconst 2, 1), (1587, .iadd, 1), (1588, .iaload, 1), (1589, .invokevirtual 226, 3), (1592, .pop, 1), (1593, .aload_n 2, 1), (1594, .aload_n 0, 1), (1595, .iload_n 3, 1), (1596, .iconst 1, 1), (1597, .iadd, 1), (1598, .iaload, 1), (1599, .aload_n 0, 1), (1600, .iload_n 3, 1), (1601, .iconst 2, 1), (1602, .iadd, 1), (1603, .iaload, 1), (1604, .invokevirtual 229, 3), (1607, .pop, 1), (1608, .goto 348, 3), (1611, .aload_n 1, 1), (1612, .aload_n 0, 1), (1613, .iload_n 3, 1), (1614, .iconst 1, 1), (1615, .iadd, 1), (1616, .iaload, 1), (1617, .aload_n 0, 1), (1618, .iload_n 3, 1), (1619, .iconst 2, 1), (1620, .iadd, 1), (1621, .iaload, 1), (1622, .aload_n 0, 1), (1623, .iload_n 3, 1), (1624, .iconst 3, 1), (1625, .iadd, 1), (1626, .iaload, 1), (1627, .invokevirtual 230, 3), (1630, .pop, 1), (1631, .aload_n 2, 1), (1632, .aload_n 0, 1), (1633, .iload_n 3, 1), (1634, .iconst 1, 1), (1635, .iadd, 1)] = true := by decide +kernel
theorem dL_law_1554 : decode cL_law 1554 = .ok (.iload_n 3, 1) := kq.at kqdL_law_1554 0 rfl
theorem dL_law_1555 : decode cL_law 1555 = .ok (.iconst 1, 1) := kq.at kqdL_law_1554 1 rfl
theorem dL_law_1556 : decode cL_law 1556 = .ok (.iadd, 1) := kq.at kqdL_law_1554 2 rfl
theorem dL_law_1557 : decode cL_law 1557 = .ok (.iaload, 1) := kq.at kqdL_law_1554 3 rfl
theorem dL_law_1558 : decode cL_law 1558 = .ok (.invokevirtual 221, 3) := kq.at kqdL_law_1554 4 rfl
theorem dL_law_1561 : decode cL_law 1561 = .ok (.pop, 1) := kq.at kqdL_law_1554 5 rfl
theorem dL_law_1562 : decode cL_law 1562 = .ok (.goto 394, 3) := kq.at kqdL_law_1554 6 rfl
theorem dL_law_1565 : decode cL_law 1565 = .ok (.aload_n 1, 1) := kq.at kqdL_law_1554 7 rfl
theorem dL_law_1566 : decode cL_law 1566 = .ok (.invokevirtual 222, 3) := kq.at kqdL_law_1554 8 rfl
theorem dL_law_1569 : decode cL_law 1569 = .ok (.pop, 1) := kq.at kqdL_law_1554 9 rfl
theorem dL_law_1570 : decode cL_law 1570 = .ok (.aload_n 2, 1) := kq.at kqdL_law_1554 10 rfl
theorem dL_law_1571 : decode cL_law 1571 = .ok (.invokevirtual 225, 3) := kq.at kqdL_law_1554 11 rfl
theorem dL_law_1574 : decode cL_law 1574 = .ok (.pop, 1) := kq.at kqdL_law_1554 12 rfl
theorem dL_law_1575 : decode cL_law 1575 = .ok (.goto 381, 3) := kq.at kqdL_law_1554 13 rfl
theorem dL_law_1578 : decode cL_law 1578 = .ok (.aload_n 1, 1) := kq.at kqdL_law_1554 14 rfl
theorem dL_law_1579 : decode cL_law 1579 = .ok (.aload_n 0, 1) := kq.at kqdL_law_1554 15 rfl
theorem dL_law_1580 : decode cL_law 1580 = .ok (.iload_n 3, 1) := kq.at kqdL_law_1554 16 rfl
theorem dL_law_1581 : decode cL_law 1581 = .ok (.iconst 1, 1) := kq.at kqdL_law_1554 17 rfl
theorem dL_law_1582 : decode cL_law 1582 = .ok (.iadd, 1) := kq.at kqdL_law_1554 18 rfl
theorem dL_law_1583 : decode cL_law 1583 = .ok (.iaload, 1) := kq.at kqdL_law_1554 19 rfl
theorem dL_law_1584 : decode cL_law 1584 = .ok (.aload_n 0, 1) := kq.at kqdL_law_1554 20 rfl
theorem dL_law_1585 : decode cL_law 1585 = .ok (.iload_n 3, 1) := kq.at kqdL_law_1554 21 rfl
theorem dL_law_1586 : decode cL_law 1586 = .ok (.iconst 2, 1) := kq.at kqdL_law_1554 22 rfl
theorem dL_law_1587 : decode cL_law 1587 = .ok (.iadd, 1) := kq.at kqdL_law_1554 23 rfl
theorem dL_law_1588 : decode cL_law 1588 = .ok (.iaload, 1) := kq.at kqdL_law_1554 24 rfl
theorem dL_law_1589 : decode cL_law 1589 = .ok (.invokevirtual 226, 3) := kq.at kqdL_law_1554 25 rfl
theorem dL_law_1592 : decode cL_law 1592 = .ok (.pop, 1) := kq.at kqdL_law_1554 26 rfl
theorem dL_law_1593 : decode cL_law 1593 = .ok (.aload_n 2, 1) := kq.at kqdL_law_1554 27 rfl
theorem dL_law_1594 : decode cL_law 1594 = .ok (.aload_n 0, 1) := kq.at kqdL_law_1554 28 rfl
theorem dL_law_1595 : decode cL_law 1595 = .ok (.iload_n 3, 1) := kq.at kqdL_law_1554 29 rfl
theorem dL_law_1596 : decode cL_law 1596 = .ok (.iconst 1, 1) := kq.at kqdL_law_1554 30 rfl
theorem dL_law_1597 : decode cL_law 1597 = .ok (.iadd, 1) := kq.at kqdL_law_1554 31 rfl
theorem dL_law_1598 : decode cL_law 1598 = .ok (.iaload, 1) := kq.at kqdL_law_1554 32 rfl
theorem dL_law_1599 : decode cL_law 1599 = .ok (.aload_n 0, 1) := kq.at kqdL_law_1554 33 rfl
theorem dL_law_1600 : decode cL_law 1600 = .ok (.iload_n 3, 1) := kq.at kqdL_law_1554 34 rfl
theorem dL_law_1601 : decode cL_law 1601 = .ok (.iconst 2, 1) := kq.at kqdL_law_1554 35 rfl
theorem dL_law_1602 : decode cL_law 1602 = .ok (.iadd, 1) := kq.at kqdL_law_1554 36 rfl
theorem dL_law_1603 : decode cL_law 1603 = .ok (.iaload, 1) := kq.at kqdL_law_1554 37 rfl
theorem dL_law_1604 : decode cL_law 1604 = .ok (.invokevirtual 229, 3) := kq.at kqdL_law_1554 38 rfl
theorem dL_law_1607 : decode cL_law 1607 = .ok (.pop, 1) := kq.at kqdL_law_1554 39 rfl
theorem dL_law_1608 : decode cL_law 1608 = .ok (.goto 348, 3) := kq.at kqdL_law_1554 40 rfl
theorem dL_law_1611 : decode cL_law 1611 = .ok (.aload_n 1, 1) := kq.at kqdL_law_1554 41 rfl
theorem dL_law_1612 : decode cL_law 1612 = .ok (.aload_n 0, 1) := kq.at kqdL_law_1554 42 rfl
theorem dL_law_1613 : decode cL_law 1613 = .ok (.iload_n 3, 1) := kq.at kqdL_law_1554 43 rfl
theorem dL_law_1614 : decode cL_law 1614 = .ok (.iconst 1, 1) := kq.at kqdL_law_1554 44 rfl
theorem dL_law_1615 : decode cL_law 1615 = .ok (.iadd, 1) := kq.at kqdL_law_1554 45 rfl
theorem dL_law_1616 : decode cL_law 1616 = .ok (.iaload, 1) := kq.at kqdL_law_1554 46 rfl
theorem dL_law_1617 : decode cL_law 1617 = .ok (.aload_n 0, 1) := kq.at kqdL_law_1554 47 rfl
theorem dL_law_1618 : decode cL_law 1618 = .ok (.iload_n 3, 1) := kq.at kqdL_law_1554 48 rfl
theorem dL_law_1619 : decode cL_law 1619 = .ok (.iconst 2, 1) := kq.at kqdL_law_1554 49 rfl
theorem dL_law_1620 : decode cL_law 1620 = .ok (.iadd, 1) := kq.at kqdL_law_1554 50 rfl
theorem dL_law_1621 : decode cL_law 1621 = .ok (.iaload, 1) := kq.at kqdL_law_1554 51 rfl
theorem dL_law_1622 : decode cL_law 1622 = .ok (.aload_n 0, 1) := kq.at kqdL_law_1554 52 rfl
theorem dL_law_1623 : decode cL_law 1623 = .ok (.iload_n 3, 1) := kq.at kqdL_law_1554 53 rfl
theorem dL_law_1624 : decode cL_law 1624 = .ok (.iconst 3, 1) := kq.at kqdL_law_1554 54 rfl
theorem dL_law_1625 : decode cL_law 1625 = .ok (.iadd, 1) := kq.at kqdL_law_1554 55 rfl
theorem dL_law_1626 : decode cL_law 1626 = .ok (.iaload, 1) := kq.at kqdL_law_1554 56 rfl
theorem dL_law_1627 : decode cL_law 1627 = .ok (.invokevirtual 230, 3) := kq.at kqdL_law_1554 57 rfl
theorem dL_law_1630 : decode cL_law 1630 = .ok (.pop, 1) := kq.at kqdL_law_1554 58 rfl
theorem dL_law_1631 : decode cL_law 1631 = .ok (.aload_n 2, 1) := kq.at kqdL_law_1554 59 rfl
theorem dL_law_1632 : decode cL_law 1632 = .ok (.aload_n 0, 1) := kq.at kqdL_law_1554 60 rfl
theorem dL_law_1633 : decode cL_law 1633 = .ok (.iload_n 3, 1) := kq.at kqdL_law_1554 61 rfl
theorem dL_law_1634 : decode cL_law 1634 = .ok (.iconst 1, 1) := kq.at kqdL_law_1554 62 rfl
theorem dL_law_1635 : decode cL_law 1635 = .ok (.iadd, 1) := kq.at kqdL_law_1554 63 rfl
theorem kqdL_law_1636 : kq cL_law [(1636, .iaload, 1), (1637, .aload_n 0, 1), (1638, .iload_n 3, 1), (1639, .iconst 2, 1), (1640, .iadd, 1), (1641, .iaload, 1), (1642, .aload_n 0, 1), (1643, .iload_n 3, 1), (1644, .iconst 3, 1), (1645, .iadd, 1), (1646, .iaload, 1), (1647, .invokevirtual 233, 3), (1650, .pop, 1), (1651, .goto 305, 3), (1654, .aload_n 1, 1), (1655, .aload_n 0, 1), (1656, .iload_n 3, 1), (1657, .iconst 1, 1), (1658, .iadd, 1), (1659, .iaload, 1), (1660, .invokevirtual 234, 3), (1663, .pop, 1), (1664, .aload_n 2, 1), (1665, .aload_n 0, 1), (1666, .iload_n 3, 1), (1667, .iconst 1, 1), (1668, .iadd, 1), (1669, .iaload, 1), (1670, .invokevirtual 237, 3), (1673, .pop, 1), (1674, .goto 282, 3), (1677, .aload_n 1, 1), (1678, .aload_n 0, 1), (1679, .iload_n 3, 1), (1680, .iconst 1, 1), (1681, .iadd, 1), (1682, .iaload, 1), (1683, .invokevirtual 238, 3), (1686, .pop, 1), (1687, .aload_n 2, 1), (1688, .aload_n 0, 1), (1689, .iload_n 3, 1), (1690, .iconst 1, 1), (1691, .iadd, 1), (1692, .iaload, 1), (1693, .invokevirtual 241, 3), (1696, .pop, 1), (1697, .goto 259, 3), (1700, .aload_n 1, 1), (1701, .invokevirtual 242, 3), (1704, .pop, 1), (1705, .aload_n 2, 1), (1706, .invokevirtual 245, 3), (1709, .pop, 1), (1710, .goto 246, 3), (1713, .aload_n 1, 1), (1714, .aload_n 0, 1), (1715, .iload_n 3, 1), (1716, .iconst 1, 1), (1717, .iadd, 1), (1718, .iaload, 1), (1719, .aload_n 0, 1), (1720, .iload_n 3, 1), (1721, .iconst 2, 1)] = true := by decide +kernel
theorem dL_law_1636 : decode cL_law 1636 = .ok (.iaload, 1) := kq.at kqdL_law_1636 0 rfl
theorem dL_law_1637 : decode cL_law 1637 = .ok (.aload_n 0, 1) := kq.at kqdL_law_1636 1 rfl
theorem dL_law_1638 : decode cL_law 1638 = .ok (.iload_n 3, 1) := kq.at kqdL_law_1636 2 rfl
theorem dL_law_1639 : decode cL_law 1639 = .ok (.iconst 2, 1) := kq.at kqdL_law_1636 3 rfl
theorem dL_law_1640 : decode cL_law 1640 = .ok (.iadd, 1) := kq.at kqdL_law_1636 4 rfl
theorem dL_law_1641 : decode cL_law 1641 = .ok (.iaload, 1) := kq.at kqdL_law_1636 5 rfl
theorem dL_law_1642 : decode cL_law 1642 = .ok (.aload_n 0, 1) := kq.at kqdL_law_1636 6 rfl
theorem dL_law_1643 : decode cL_law 1643 = .ok (.iload_n 3, 1) := kq.at kqdL_law_1636 7 rfl
theorem dL_law_1644 : decode cL_law 1644 = .ok (.iconst 3, 1) := kq.at kqdL_law_1636 8 rfl
theorem dL_law_1645 : decode cL_law 1645 = .ok (.iadd, 1) := kq.at kqdL_law_1636 9 rfl
theorem dL_law_1646 : decode cL_law 1646 = .ok (.iaload, 1) := kq.at kqdL_law_1636 10 rfl
theorem dL_law_1647 : decode cL_law 1647 = .ok (.invokevirtual 233, 3) := kq.at kqdL_law_1636 11 rfl
theorem dL_law_1650 : decode cL_law 1650 = .ok (.pop, 1) := kq.at kqdL_law_1636 12 rfl
theorem dL_law_1651 : decode cL_law 1651 = .ok (.goto 305, 3) := kq.at kqdL_law_1636 13 rfl
theorem dL_law_1654 : decode cL_law 1654 = .ok (.aload_n 1, 1) := kq.at kqdL_law_1636 14 rfl
theorem dL_law_1655 : decode cL_law 1655 = .ok (.aload_n 0, 1) := kq.at kqdL_law_1636 15 rfl
theorem dL_law_1656 : decode cL_law 1656 = .ok (.iload_n 3, 1) := kq.at kqdL_law_1636 16 rfl
theorem dL_law_1657 : decode cL_law 1657 = .ok (.iconst 1, 1) := kq.at kqdL_law_1636 17 rfl
theorem dL_law_1658 : decode cL_law 1658 = .ok (.iadd, 1) := kq.at kqdL_law_1636 18 rfl
theorem dL_law_1659 : decode cL_law 1659 = .ok (.iaload, 1) := kq.at kqdL_law_1636 19 rfl
theorem dL_law_1660 : decode cL_law 1660 = .ok (.invokevirtual 234, 3) := kq.at kqdL_law_1636 20 rfl
theorem dL_law_1663 : decode cL_law 1663 = .ok (.pop, 1) := kq.at kqdL_law_1636 21 rfl
theorem dL_law_1664 : decode cL_law 1664 = .ok (.aload_n 2, 1) := kq.at kqdL_law_1636 22 rfl
theorem dL_law_1665 : decode cL_law 1665 = .ok (.aload_n 0, 1) := kq.at kqdL_law_1636 23 rfl
theorem dL_law_1666 : decode cL_law 1666 = .ok (.iload_n 3, 1) := kq.at kqdL_law_1636 24 rfl
theorem dL_law_1667 : decode cL_law 1667 = .ok (.iconst 1, 1) := kq.at kqdL_law_1636 25 rfl
theorem dL_law_1668 : decode cL_law 1668 = .ok (.iadd, 1) := kq.at kqdL_law_1636 26 rfl
theorem dL_law_1669 : decode cL_law 1669 = .ok (.iaload, 1) := kq.at kqdL_law_1636 27 rfl
theorem dL_law_1670 : decode cL_law 1670 = .ok (.invokevirtual 237, 3) := kq.at kqdL_law_1636 28 rfl
theorem dL_law_1673 : decode cL_law 1673 = .ok (.pop, 1) := kq.at kqdL_law_1636 29 rfl
theorem dL_law_1674 : decode cL_law 1674 = .ok (.goto 282, 3) := kq.at kqdL_law_1636 30 rfl
theorem dL_law_1677 : decode cL_law 1677 = .ok (.aload_n 1, 1) := kq.at kqdL_law_1636 31 rfl
theorem dL_law_1678 : decode cL_law 1678 = .ok (.aload_n 0, 1) := kq.at kqdL_law_1636 32 rfl
theorem dL_law_1679 : decode cL_law 1679 = .ok (.iload_n 3, 1) := kq.at kqdL_law_1636 33 rfl
theorem dL_law_1680 : decode cL_law 1680 = .ok (.iconst 1, 1) := kq.at kqdL_law_1636 34 rfl
theorem dL_law_1681 : decode cL_law 1681 = .ok (.iadd, 1) := kq.at kqdL_law_1636 35 rfl
theorem dL_law_1682 : decode cL_law 1682 = .ok (.iaload, 1) := kq.at kqdL_law_1636 36 rfl
theorem dL_law_1683 : decode cL_law 1683 = .ok (.invokevirtual 238, 3) := kq.at kqdL_law_1636 37 rfl
theorem dL_law_1686 : decode cL_law 1686 = .ok (.pop, 1) := kq.at kqdL_law_1636 38 rfl
theorem dL_law_1687 : decode cL_law 1687 = .ok (.aload_n 2, 1) := kq.at kqdL_law_1636 39 rfl
theorem dL_law_1688 : decode cL_law 1688 = .ok (.aload_n 0, 1) := kq.at kqdL_law_1636 40 rfl
theorem dL_law_1689 : decode cL_law 1689 = .ok (.iload_n 3, 1) := kq.at kqdL_law_1636 41 rfl
theorem dL_law_1690 : decode cL_law 1690 = .ok (.iconst 1, 1) := kq.at kqdL_law_1636 42 rfl
theorem dL_law_1691 : decode cL_law 1691 = .ok (.iadd, 1) := kq.at kqdL_law_1636 43 rfl
theorem dL_law_1692 : decode cL_law 1692 = .ok (.iaload, 1) := kq.at kqdL_law_1636 44 rfl
theorem dL_law_1693 : decode cL_law 1693 = .ok (.invokevirtual 241, 3) := kq.at kqdL_law_1636 45 rfl
theorem dL_law_1696 : decode cL_law 1696 = .ok (.pop, 1) := kq.at kqdL_law_1636 46 rfl
theorem dL_law_1697 : decode cL_law 1697 = .ok (.goto 259, 3) := kq.at kqdL_law_1636 47 rfl
theorem dL_law_1700 : decode cL_law 1700 = .ok (.aload_n 1, 1) := kq.at kqdL_law_1636 48 rfl
theorem dL_law_1701 : decode cL_law 1701 = .ok (.invokevirtual 242, 3) := kq.at kqdL_law_1636 49 rfl
theorem dL_law_1704 : decode cL_law 1704 = .ok (.pop, 1) := kq.at kqdL_law_1636 50 rfl
theorem dL_law_1705 : decode cL_law 1705 = .ok (.aload_n 2, 1) := kq.at kqdL_law_1636 51 rfl
theorem dL_law_1706 : decode cL_law 1706 = .ok (.invokevirtual 245, 3) := kq.at kqdL_law_1636 52 rfl
theorem dL_law_1709 : decode cL_law 1709 = .ok (.pop, 1) := kq.at kqdL_law_1636 53 rfl
theorem dL_law_1710 : decode cL_law 1710 = .ok (.goto 246, 3) := kq.at kqdL_law_1636 54 rfl
theorem dL_law_1713 : decode cL_law 1713 = .ok (.aload_n 1, 1) := kq.at kqdL_law_1636 55 rfl
theorem dL_law_1714 : decode cL_law 1714 = .ok (.aload_n 0, 1) := kq.at kqdL_law_1636 56 rfl
theorem dL_law_1715 : decode cL_law 1715 = .ok (.iload_n 3, 1) := kq.at kqdL_law_1636 57 rfl
theorem dL_law_1716 : decode cL_law 1716 = .ok (.iconst 1, 1) := kq.at kqdL_law_1636 58 rfl
theorem dL_law_1717 : decode cL_law 1717 = .ok (.iadd, 1) := kq.at kqdL_law_1636 59 rfl
theorem dL_law_1718 : decode cL_law 1718 = .ok (.iaload, 1) := kq.at kqdL_law_1636 60 rfl
theorem dL_law_1719 : decode cL_law 1719 = .ok (.aload_n 0, 1) := kq.at kqdL_law_1636 61 rfl
theorem dL_law_1720 : decode cL_law 1720 = .ok (.iload_n 3, 1) := kq.at kqdL_law_1636 62 rfl
theorem dL_law_1721 : decode cL_law 1721 = .ok (.iconst 2, 1) := kq.at kqdL_law_1636 63 rfl
theorem kqdL_law_1722 : kq cL_law [(1722, .iadd, 1), (1723, .iaload, 1), (1724, .invokevirtual 246, 3), (1727, .pop, 1), (1728, .aload_n 2, 1), (1729, .aload_n 0, 1), (1730, .iload_n 3, 1), (1731, .iconst 1, 1), (1732, .iadd, 1), (1733, .iaload, 1), (1734, .aload_n 0, 1), (1735, .iload_n 3, 1), (1736, .iconst 2, 1), (1737, .iadd, 1), (1738, .iaload, 1), (1739, .invokevirtual 249, 3), (1742, .pop, 1), (1743, .goto 213, 3), (1746, .aload_n 1, 1), (1747, .aload_n 0, 1), (1748, .iload_n 3, 1), (1749, .iconst 1, 1), (1750, .iadd, 1), (1751, .iaload, 1), (1752, .aload_n 0, 1), (1753, .iload_n 3, 1), (1754, .iconst 2, 1), (1755, .iadd, 1), (1756, .iaload, 1), (1757, .invokevirtual 250, 3), (1760, .aload_n 2, 1), (1761, .aload_n 0, 1), (1762, .iload_n 3, 1), (1763, .iconst 1, 1), (1764, .iadd, 1), (1765, .iaload, 1), (1766, .aload_n 0, 1), (1767, .iload_n 3, 1), (1768, .iconst 2, 1), (1769, .iadd, 1), (1770, .iaload, 1), (1771, .invokevirtual 253, 3), (1774, .if_icmp .eq 182, 3), (1777, .iconst 0, 1), (1778, .ireturn, 1), (1779, .aload_n 1, 1), (1780, .invokevirtual 254, 3), (1783, .pop, 1), (1784, .aload_n 2, 1), (1785, .invokevirtual 257, 3), (1788, .pop, 1), (1789, .goto 167, 3), (1792, .aload_n 1, 1), (1793, .invokevirtual 258, 3), (1796, .pop, 1), (1797, .aload_n 2, 1), (1798, .invokevirtual 261, 3), (1801, .pop, 1), (1802, .goto 154, 3), (1805, .aload_n 1, 1), (1806, .invokevirtual 262, 3), (1809, .pop, 1), (1810, .aload_n 2, 1), (1811, .invokevirtual 265, 3)] = true := by decide +kernel
theorem dL_law_1722 : decode cL_law 1722 = .ok (.iadd, 1) := kq.at kqdL_law_1722 0 rfl
theorem dL_law_1723 : decode cL_law 1723 = .ok (.iaload, 1) := kq.at kqdL_law_1722 1 rfl
theorem dL_law_1724 : decode cL_law 1724 = .ok (.invokevirtual 246, 3) := kq.at kqdL_law_1722 2 rfl
theorem dL_law_1727 : decode cL_law 1727 = .ok (.pop, 1) := kq.at kqdL_law_1722 3 rfl
theorem dL_law_1728 : decode cL_law 1728 = .ok (.aload_n 2, 1) := kq.at kqdL_law_1722 4 rfl
theorem dL_law_1729 : decode cL_law 1729 = .ok (.aload_n 0, 1) := kq.at kqdL_law_1722 5 rfl
theorem dL_law_1730 : decode cL_law 1730 = .ok (.iload_n 3, 1) := kq.at kqdL_law_1722 6 rfl
theorem dL_law_1731 : decode cL_law 1731 = .ok (.iconst 1, 1) := kq.at kqdL_law_1722 7 rfl
theorem dL_law_1732 : decode cL_law 1732 = .ok (.iadd, 1) := kq.at kqdL_law_1722 8 rfl
theorem dL_law_1733 : decode cL_law 1733 = .ok (.iaload, 1) := kq.at kqdL_law_1722 9 rfl
theorem dL_law_1734 : decode cL_law 1734 = .ok (.aload_n 0, 1) := kq.at kqdL_law_1722 10 rfl
theorem dL_law_1735 : decode cL_law 1735 = .ok (.iload_n 3, 1) := kq.at kqdL_law_1722 11 rfl
theorem dL_law_1736 : decode cL_law 1736 = .ok (.iconst 2, 1) := kq.at kqdL_law_1722 12 rfl
theorem dL_law_1737 : decode cL_law 1737 = .ok (.iadd, 1) := kq.at kqdL_law_1722 13 rfl
theorem dL_law_1738 : decode cL_law 1738 = .ok (.iaload, 1) := kq.at kqdL_law_1722 14 rfl
theorem dL_law_1739 : decode cL_law 1739 = .ok (.invokevirtual 249, 3) := kq.at kqdL_law_1722 15 rfl
theorem dL_law_1742 : decode cL_law 1742 = .ok (.pop, 1) := kq.at kqdL_law_1722 16 rfl
theorem dL_law_1743 : decode cL_law 1743 = .ok (.goto 213, 3) := kq.at kqdL_law_1722 17 rfl
theorem dL_law_1746 : decode cL_law 1746 = .ok (.aload_n 1, 1) := kq.at kqdL_law_1722 18 rfl
theorem dL_law_1747 : decode cL_law 1747 = .ok (.aload_n 0, 1) := kq.at kqdL_law_1722 19 rfl
theorem dL_law_1748 : decode cL_law 1748 = .ok (.iload_n 3, 1) := kq.at kqdL_law_1722 20 rfl
theorem dL_law_1749 : decode cL_law 1749 = .ok (.iconst 1, 1) := kq.at kqdL_law_1722 21 rfl
theorem dL_law_1750 : decode cL_law 1750 = .ok (.iadd, 1) := kq.at kqdL_law_1722 22 rfl
theorem dL_law_1751 : decode cL_law 1751 = .ok (.iaload, 1) := kq.at kqdL_law_1722 23 rfl
theorem dL_law_1752 : decode cL_law 1752 = .ok (.aload_n 0, 1) := kq.at kqdL_law_1722 24 rfl
theorem dL_law_1753 : decode cL_law 1753 = .ok (.iload_n 3, 1) := kq.at kqdL_law_1722 25 rfl
theorem dL_law_1754 : decode cL_law 1754 = .ok (.iconst 2, 1) := kq.at kqdL_law_1722 26 rfl
theorem dL_law_1755 : decode cL_law 1755 = .ok (.iadd, 1) := kq.at kqdL_law_1722 27 rfl
theorem dL_law_1756 : decode cL_law 1756 = .ok (.iaload, 1) := kq.at kqdL_law_1722 28 rfl
theorem dL_law_1757 : decode cL_law 1757 = .ok (.invokevirtual 250, 3) := kq.at kqdL_law_1722 29 rfl
theorem dL_law_1760 : decode cL_law 1760 = .ok (.aload_n 2, 1) := kq.at kqdL_law_1722 30 rfl
theorem dL_law_1761 : decode cL_law 1761 = .ok (.aload_n 0, 1) := kq.at kqdL_law_1722 31 rfl
theorem dL_law_1762 : decode cL_law 1762 = .ok (.iload_n 3, 1) := kq.at kqdL_law_1722 32 rfl
theorem dL_law_1763 : decode cL_law 1763 = .ok (.iconst 1, 1) := kq.at kqdL_law_1722 33 rfl
theorem dL_law_1764 : decode cL_law 1764 = .ok (.iadd, 1) := kq.at kqdL_law_1722 34 rfl
theorem dL_law_1765 : decode cL_law 1765 = .ok (.iaload, 1) := kq.at kqdL_law_1722 35 rfl
theorem dL_law_1766 : decode cL_law 1766 = .ok (.aload_n 0, 1) := kq.at kqdL_law_1722 36 rfl
theorem dL_law_1767 : decode cL_law 1767 = .ok (.iload_n 3, 1) := kq.at kqdL_law_1722 37 rfl
theorem dL_law_1768 : decode cL_law 1768 = .ok (.iconst 2, 1) := kq.at kqdL_law_1722 38 rfl
theorem dL_law_1769 : decode cL_law 1769 = .ok (.iadd, 1) := kq.at kqdL_law_1722 39 rfl
theorem dL_law_1770 : decode cL_law 1770 = .ok (.iaload, 1) := kq.at kqdL_law_1722 40 rfl
theorem dL_law_1771 : decode cL_law 1771 = .ok (.invokevirtual 253, 3) := kq.at kqdL_law_1722 41 rfl
theorem dL_law_1774 : decode cL_law 1774 = .ok (.if_icmp .eq 182, 3) := kq.at kqdL_law_1722 42 rfl
theorem dL_law_1777 : decode cL_law 1777 = .ok (.iconst 0, 1) := kq.at kqdL_law_1722 43 rfl
theorem dL_law_1778 : decode cL_law 1778 = .ok (.ireturn, 1) := kq.at kqdL_law_1722 44 rfl
theorem dL_law_1779 : decode cL_law 1779 = .ok (.aload_n 1, 1) := kq.at kqdL_law_1722 45 rfl
theorem dL_law_1780 : decode cL_law 1780 = .ok (.invokevirtual 254, 3) := kq.at kqdL_law_1722 46 rfl
theorem dL_law_1783 : decode cL_law 1783 = .ok (.pop, 1) := kq.at kqdL_law_1722 47 rfl
theorem dL_law_1784 : decode cL_law 1784 = .ok (.aload_n 2, 1) := kq.at kqdL_law_1722 48 rfl
theorem dL_law_1785 : decode cL_law 1785 = .ok (.invokevirtual 257, 3) := kq.at kqdL_law_1722 49 rfl
theorem dL_law_1788 : decode cL_law 1788 = .ok (.pop, 1) := kq.at kqdL_law_1722 50 rfl
theorem dL_law_1789 : decode cL_law 1789 = .ok (.goto 167, 3) := kq.at kqdL_law_1722 51 rfl
theorem dL_law_1792 : decode cL_law 1792 = .ok (.aload_n 1, 1) := kq.at kqdL_law_1722 52 rfl
theorem dL_law_1793 : decode cL_law 1793 = .ok (.invokevirtual 258, 3) := kq.at kqdL_law_1722 53 rfl
theorem dL_law_1796 : decode cL_law 1796 = .ok (.pop, 1) := kq.at kqdL_law_1722 54 rfl
theorem dL_law_1797 : decode cL_law 1797 = .ok (.aload_n 2, 1) := kq.at kqdL_law_1722 55 rfl
theorem dL_law_1798 : decode cL_law 1798 = .ok (.invokevirtual 261, 3) := kq.at kqdL_law_1722 56 rfl
theorem dL_law_1801 : decode cL_law 1801 = .ok (.pop, 1) := kq.at kqdL_law_1722 57 rfl
theorem dL_law_1802 : decode cL_law 1802 = .ok (.goto 154, 3) := kq.at kqdL_law_1722 58 rfl
theorem dL_law_1805 : decode cL_law 1805 = .ok (.aload_n 1, 1) := kq.at kqdL_law_1722 59 rfl
theorem dL_law_1806 : decode cL_law 1806 = .ok (.invokevirtual 262, 3) := kq.at kqdL_law_1722 60 rfl
theorem dL_law_1809 : decode cL_law 1809 = .ok (.pop, 1) := kq.at kqdL_law_1722 61 rfl
theorem dL_law_1810 : decode cL_law 1810 = .ok (.aload_n 2, 1) := kq.at kqdL_law_1722 62 rfl
theorem dL_law_1811 : decode cL_law 1811 = .ok (.invokevirtual 265, 3) := kq.at kqdL_law_1722 63 rfl
theorem kqdL_law_1814 : kq cL_law [(1814, .pop, 1), (1815, .goto 141, 3), (1818, .aload_n 1, 1), (1819, .invokevirtual 266, 3), (1822, .pop, 1), (1823, .aload_n 2, 1), (1824, .invokevirtual 269, 3), (1827, .pop, 1), (1828, .goto 128, 3), (1831, .aload_n 1, 1), (1832, .aload_n 0, 1), (1833, .iload_n 3, 1), (1834, .iconst 1, 1), (1835, .iadd, 1), (1836, .iaload, 1), (1837, .aload_n 0, 1), (1838, .iload_n 3, 1), (1839, .iconst 2, 1), (1840, .iadd, 1), (1841, .iaload, 1), (1842, .invokevirtual 270, 3), (1845, .pop, 1), (1846, .aload_n 2, 1), (1847, .aload_n 0, 1), (1848, .iload_n 3, 1), (1849, .iconst 1, 1), (1850, .iadd, 1), (1851, .iaload, 1), (1852, .aload_n 0, 1), (1853, .iload_n 3, 1), (1854, .iconst 2, 1), (1855, .iadd, 1), (1856, .iaload, 1), (1857, .invokevirtual 273, 3), (1860, .pop, 1), (1861, .goto 95, 3), (1864, .aload_n 1, 1), (1865, .aload_n 0, 1), (1866, .iload_n 3, 1), (1867, .iconst 1, 1), (1868, .iadd, 1), (1869, .iaload, 1), (1870, .invokevirtual 274, 3), (1873, .pop, 1), (1874, .aload_n 2, 1), (1875, .aload_n 0, 1), (1876, .iload_n 3, 1), (1877, .iconst 1, 1), (1878, .iadd, 1), (1879, .iaload, 1), (1880, .invokevirtual 277, 3), (1883, .pop, 1), (1884, .goto 72, 3), (1887, .aload_n 1, 1), (1888, .aload_n 0, 1), (1889, .iload_n 3, 1), (1890, .iconst 1, 1), (1891, .iadd, 1), (1892, .iaload, 1), (1893, .aload_n 0, 1), (1894, .iload_n 3, 1), (1895, .iconst 2, 1), (1896, .iadd, 1), (1897, .iaload, 1)] = true := by decide +kernel
theorem dL_law_1814 : decode cL_law 1814 = .ok (.pop, 1) := kq.at kqdL_law_1814 0 rfl
theorem dL_law_1815 : decode cL_law 1815 = .ok (.goto 141, 3) := kq.at kqdL_law_1814 1 rfl
theorem dL_law_1818 : decode cL_law 1818 = .ok (.aload_n 1, 1) := kq.at kqdL_law_1814 2 rfl
theorem dL_law_1819 : decode cL_law 1819 = .ok (.invokevirtual 266, 3) := kq.at kqdL_law_1814 3 rfl
theorem dL_law_1822 : decode cL_law 1822 = .ok (.pop, 1) := kq.at kqdL_law_1814 4 rfl
theorem dL_law_1823 : decode cL_law 1823 = .ok (.aload_n 2, 1) := kq.at kqdL_law_1814 5 rfl
theorem dL_law_1824 : decode cL_law 1824 = .ok (.invokevirtual 269, 3) := kq.at kqdL_law_1814 6 rfl
theorem dL_law_1827 : decode cL_law 1827 = .ok (.pop, 1) := kq.at kqdL_law_1814 7 rfl
theorem dL_law_1828 : decode cL_law 1828 = .ok (.goto 128, 3) := kq.at kqdL_law_1814 8 rfl
theorem dL_law_1831 : decode cL_law 1831 = .ok (.aload_n 1, 1) := kq.at kqdL_law_1814 9 rfl
theorem dL_law_1832 : decode cL_law 1832 = .ok (.aload_n 0, 1) := kq.at kqdL_law_1814 10 rfl
theorem dL_law_1833 : decode cL_law 1833 = .ok (.iload_n 3, 1) := kq.at kqdL_law_1814 11 rfl
theorem dL_law_1834 : decode cL_law 1834 = .ok (.iconst 1, 1) := kq.at kqdL_law_1814 12 rfl
theorem dL_law_1835 : decode cL_law 1835 = .ok (.iadd, 1) := kq.at kqdL_law_1814 13 rfl
theorem dL_law_1836 : decode cL_law 1836 = .ok (.iaload, 1) := kq.at kqdL_law_1814 14 rfl
theorem dL_law_1837 : decode cL_law 1837 = .ok (.aload_n 0, 1) := kq.at kqdL_law_1814 15 rfl
theorem dL_law_1838 : decode cL_law 1838 = .ok (.iload_n 3, 1) := kq.at kqdL_law_1814 16 rfl
theorem dL_law_1839 : decode cL_law 1839 = .ok (.iconst 2, 1) := kq.at kqdL_law_1814 17 rfl
theorem dL_law_1840 : decode cL_law 1840 = .ok (.iadd, 1) := kq.at kqdL_law_1814 18 rfl
theorem dL_law_1841 : decode cL_law 1841 = .ok (.iaload, 1) := kq.at kqdL_law_1814 19 rfl
theorem dL_law_1842 : decode cL_law 1842 = .ok (.invokevirtual 270, 3) := kq.at kqdL_law_1814 20 rfl
theorem dL_law_1845 : decode cL_law 1845 = .ok (.pop, 1) := kq.at kqdL_law_1814 21 rfl
theorem dL_law_1846 : decode cL_law 1846 = .ok (.aload_n 2, 1) := kq.at kqdL_law_1814 22 rfl
theorem dL_law_1847 : decode cL_law 1847 = .ok (.aload_n 0, 1) := kq.at kqdL_law_1814 23 rfl
theorem dL_law_1848 : decode cL_law 1848 = .ok (.iload_n 3, 1) := kq.at kqdL_law_1814 24 rfl
theorem dL_law_1849 : decode cL_law 1849 = .ok (.iconst 1, 1) := kq.at kqdL_law_1814 25 rfl
theorem dL_law_1850 : decode cL_law 1850 = .ok (.iadd, 1) := kq.at kqdL_law_1814 26 rfl
theorem dL_law_1851 : decode cL_law 1851 = .ok (.iaload, 1) := kq.at kqdL_law_1814 27 rfl
theorem dL_law_1852 : decode cL_law 1852 = .ok (.aload_n 0, 1) := kq.at kqdL_law_1814 28 rfl
theorem dL_law_1853 : decode cL_law 1853 = .ok (.iload_n 3, 1) := kq.at kqdL_law_1814 29 rfl
theorem dL_law_1854 : decode cL_law 1854 = .ok (.iconst 2, 1) := kq.at kqdL_law_1814 30 rfl
theorem dL_law_1855 : decode cL_law 1855 = .ok (.iadd, 1) := kq.at kqdL_law_1814 31 rfl
theorem dL_law_1856 : decode cL_law 1856 = .ok (.iaload, 1) := kq.at kqdL_law_1814 32 rfl
theorem dL_law_1857 : decode cL_law 1857 = .ok (.invokevirtual 273, 3) := kq.at kqdL_law_1814 33 rfl
theorem dL_law_1860 : decode cL_law 1860 = .ok (.pop, 1) := kq.at kqdL_law_1814 34 rfl
theorem dL_law_1861 : decode cL_law 1861 = .ok (.goto 95, 3) := kq.at kqdL_law_1814 35 rfl
theorem dL_law_1864 : decode cL_law 1864 = .ok (.aload_n 1, 1) := kq.at kqdL_law_1814 36 rfl
theorem dL_law_1865 : decode cL_law 1865 = .ok (.aload_n 0, 1) := kq.at kqdL_law_1814 37 rfl
theorem dL_law_1866 : decode cL_law 1866 = .ok (.iload_n 3, 1) := kq.at kqdL_law_1814 38 rfl
theorem dL_law_1867 : decode cL_law 1867 = .ok (.iconst 1, 1) := kq.at kqdL_law_1814 39 rfl
theorem dL_law_1868 : decode cL_law 1868 = .ok (.iadd, 1) := kq.at kqdL_law_1814 40 rfl
theorem dL_law_1869 : decode cL_law 1869 = .ok (.iaload, 1) := kq.at kqdL_law_1814 41 rfl
theorem dL_law_1870 : decode cL_law 1870 = .ok (.invokevirtual 274, 3) := kq.at kqdL_law_1814 42 rfl
theorem dL_law_1873 : decode cL_law 1873 = .ok (.pop, 1) := kq.at kqdL_law_1814 43 rfl
theorem dL_law_1874 : decode cL_law 1874 = .ok (.aload_n 2, 1) := kq.at kqdL_law_1814 44 rfl
theorem dL_law_1875 : decode cL_law 1875 = .ok (.aload_n 0, 1) := kq.at kqdL_law_1814 45 rfl
theorem dL_law_1876 : decode cL_law 1876 = .ok (.iload_n 3, 1) := kq.at kqdL_law_1814 46 rfl
theorem dL_law_1877 : decode cL_law 1877 = .ok (.iconst 1, 1) := kq.at kqdL_law_1814 47 rfl
theorem dL_law_1878 : decode cL_law 1878 = .ok (.iadd, 1) := kq.at kqdL_law_1814 48 rfl
theorem dL_law_1879 : decode cL_law 1879 = .ok (.iaload, 1) := kq.at kqdL_law_1814 49 rfl
theorem dL_law_1880 : decode cL_law 1880 = .ok (.invokevirtual 277, 3) := kq.at kqdL_law_1814 50 rfl
theorem dL_law_1883 : decode cL_law 1883 = .ok (.pop, 1) := kq.at kqdL_law_1814 51 rfl
theorem dL_law_1884 : decode cL_law 1884 = .ok (.goto 72, 3) := kq.at kqdL_law_1814 52 rfl
theorem dL_law_1887 : decode cL_law 1887 = .ok (.aload_n 1, 1) := kq.at kqdL_law_1814 53 rfl
theorem dL_law_1888 : decode cL_law 1888 = .ok (.aload_n 0, 1) := kq.at kqdL_law_1814 54 rfl
theorem dL_law_1889 : decode cL_law 1889 = .ok (.iload_n 3, 1) := kq.at kqdL_law_1814 55 rfl
theorem dL_law_1890 : decode cL_law 1890 = .ok (.iconst 1, 1) := kq.at kqdL_law_1814 56 rfl
theorem dL_law_1891 : decode cL_law 1891 = .ok (.iadd, 1) := kq.at kqdL_law_1814 57 rfl
theorem dL_law_1892 : decode cL_law 1892 = .ok (.iaload, 1) := kq.at kqdL_law_1814 58 rfl
theorem dL_law_1893 : decode cL_law 1893 = .ok (.aload_n 0, 1) := kq.at kqdL_law_1814 59 rfl
theorem dL_law_1894 : decode cL_law 1894 = .ok (.iload_n 3, 1) := kq.at kqdL_law_1814 60 rfl
theorem dL_law_1895 : decode cL_law 1895 = .ok (.iconst 2, 1) := kq.at kqdL_law_1814 61 rfl
theorem dL_law_1896 : decode cL_law 1896 = .ok (.iadd, 1) := kq.at kqdL_law_1814 62 rfl
theorem dL_law_1897 : decode cL_law 1897 = .ok (.iaload, 1) := kq.at kqdL_law_1814 63 rfl
theorem kqdL_law_1898 : kq cL_law [(1898, .aload_n 0, 1), (1899, .iload_n 3, 1), (1900, .iconst 3, 1), (1901, .iadd, 1), (1902, .iaload, 1), (1903, .invokevirtual 278, 3), (1906, .pop, 1), (1907, .aload_n 2, 1), (1908, .aload_n 0, 1), (1909, .iload_n 3, 1), (1910, .iconst 1, 1), (1911, .iadd, 1), (1912, .iaload, 1), (1913, .aload_n 0, 1), (1914, .iload_n 3, 1), (1915, .iconst 2, 1), (1916, .iadd, 1), (1917, .iaload, 1), (1918, .aload_n 0, 1), (1919, .iload_n 3, 1), (1920, .iconst 3, 1), (1921, .iadd, 1), (1922, .iaload, 1), (1923, .invokevirtual 281, 3), (1926, .pop, 1), (1927, .goto 29, 3), (1930, .aload_n 1, 1), (1931, .invokevirtual 282, 3), (1934, .pop, 1), (1935, .aload_n 2, 1), (1936, .invokevirtual 285, 3), (1939, .pop, 1), (1940, .goto 16, 3), (1943, .aload_n 1, 1), (1944, .invokevirtual 286, 3), (1947, .pop, 1), (1948, .aload_n 2, 1), (1949, .invokevirtual 289, 3), (1952, .pop, 1), (1953, .goto 3, 3), (1956, .iinc 3 6, 3), (1959, .goto (-1941), 3), (1962, .iconst 1, 1), (1963, .ireturn, 1)] = true := by decide +kernel
theorem dL_law_1898 : decode cL_law 1898 = .ok (.aload_n 0, 1) := kq.at kqdL_law_1898 0 rfl
theorem dL_law_1899 : decode cL_law 1899 = .ok (.iload_n 3, 1) := kq.at kqdL_law_1898 1 rfl
theorem dL_law_1900 : decode cL_law 1900 = .ok (.iconst 3, 1) := kq.at kqdL_law_1898 2 rfl
theorem dL_law_1901 : decode cL_law 1901 = .ok (.iadd, 1) := kq.at kqdL_law_1898 3 rfl
theorem dL_law_1902 : decode cL_law 1902 = .ok (.iaload, 1) := kq.at kqdL_law_1898 4 rfl
theorem dL_law_1903 : decode cL_law 1903 = .ok (.invokevirtual 278, 3) := kq.at kqdL_law_1898 5 rfl
theorem dL_law_1906 : decode cL_law 1906 = .ok (.pop, 1) := kq.at kqdL_law_1898 6 rfl
theorem dL_law_1907 : decode cL_law 1907 = .ok (.aload_n 2, 1) := kq.at kqdL_law_1898 7 rfl
theorem dL_law_1908 : decode cL_law 1908 = .ok (.aload_n 0, 1) := kq.at kqdL_law_1898 8 rfl
theorem dL_law_1909 : decode cL_law 1909 = .ok (.iload_n 3, 1) := kq.at kqdL_law_1898 9 rfl
theorem dL_law_1910 : decode cL_law 1910 = .ok (.iconst 1, 1) := kq.at kqdL_law_1898 10 rfl
theorem dL_law_1911 : decode cL_law 1911 = .ok (.iadd, 1) := kq.at kqdL_law_1898 11 rfl
theorem dL_law_1912 : decode cL_law 1912 = .ok (.iaload, 1) := kq.at kqdL_law_1898 12 rfl
theorem dL_law_1913 : decode cL_law 1913 = .ok (.aload_n 0, 1) := kq.at kqdL_law_1898 13 rfl
theorem dL_law_1914 : decode cL_law 1914 = .ok (.iload_n 3, 1) := kq.at kqdL_law_1898 14 rfl
theorem dL_law_1915 : decode cL_law 1915 = .ok (.iconst 2, 1) := kq.at kqdL_law_1898 15 rfl
theorem dL_law_1916 : decode cL_law 1916 = .ok (.iadd, 1) := kq.at kqdL_law_1898 16 rfl
theorem dL_law_1917 : decode cL_law 1917 = .ok (.iaload, 1) := kq.at kqdL_law_1898 17 rfl
theorem dL_law_1918 : decode cL_law 1918 = .ok (.aload_n 0, 1) := kq.at kqdL_law_1898 18 rfl
theorem dL_law_1919 : decode cL_law 1919 = .ok (.iload_n 3, 1) := kq.at kqdL_law_1898 19 rfl
theorem dL_law_1920 : decode cL_law 1920 = .ok (.iconst 3, 1) := kq.at kqdL_law_1898 20 rfl
theorem dL_law_1921 : decode cL_law 1921 = .ok (.iadd, 1) := kq.at kqdL_law_1898 21 rfl
theorem dL_law_1922 : decode cL_law 1922 = .ok (.iaload, 1) := kq.at kqdL_law_1898 22 rfl
theorem dL_law_1923 : decode cL_law 1923 = .ok (.invokevirtual 281, 3) := kq.at kqdL_law_1898 23 rfl
theorem dL_law_1926 : decode cL_law 1926 = .ok (.pop, 1) := kq.at kqdL_law_1898 24 rfl
theorem dL_law_1927 : decode cL_law 1927 = .ok (.goto 29, 3) := kq.at kqdL_law_1898 25 rfl
theorem dL_law_1930 : decode cL_law 1930 = .ok (.aload_n 1, 1) := kq.at kqdL_law_1898 26 rfl
theorem dL_law_1931 : decode cL_law 1931 = .ok (.invokevirtual 282, 3) := kq.at kqdL_law_1898 27 rfl
theorem dL_law_1934 : decode cL_law 1934 = .ok (.pop, 1) := kq.at kqdL_law_1898 28 rfl
theorem dL_law_1935 : decode cL_law 1935 = .ok (.aload_n 2, 1) := kq.at kqdL_law_1898 29 rfl
theorem dL_law_1936 : decode cL_law 1936 = .ok (.invokevirtual 285, 3) := kq.at kqdL_law_1898 30 rfl
theorem dL_law_1939 : decode cL_law 1939 = .ok (.pop, 1) := kq.at kqdL_law_1898 31 rfl
theorem dL_law_1940 : decode cL_law 1940 = .ok (.goto 16, 3) := kq.at kqdL_law_1898 32 rfl
theorem dL_law_1943 : decode cL_law 1943 = .ok (.aload_n 1, 1) := kq.at kqdL_law_1898 33 rfl
theorem dL_law_1944 : decode cL_law 1944 = .ok (.invokevirtual 286, 3) := kq.at kqdL_law_1898 34 rfl
theorem dL_law_1947 : decode cL_law 1947 = .ok (.pop, 1) := kq.at kqdL_law_1898 35 rfl
theorem dL_law_1948 : decode cL_law 1948 = .ok (.aload_n 2, 1) := kq.at kqdL_law_1898 36 rfl
theorem dL_law_1949 : decode cL_law 1949 = .ok (.invokevirtual 289, 3) := kq.at kqdL_law_1898 37 rfl
theorem dL_law_1952 : decode cL_law 1952 = .ok (.pop, 1) := kq.at kqdL_law_1898 38 rfl
theorem dL_law_1953 : decode cL_law 1953 = .ok (.goto 3, 3) := kq.at kqdL_law_1898 39 rfl
theorem dL_law_1956 : decode cL_law 1956 = .ok (.iinc 3 6, 3) := kq.at kqdL_law_1898 40 rfl
theorem dL_law_1959 : decode cL_law 1959 = .ok (.goto (-1941), 3) := kq.at kqdL_law_1898 41 rfl
theorem dL_law_1962 : decode cL_law 1962 = .ok (.iconst 1, 1) := kq.at kqdL_law_1898 42 rfl
theorem dL_law_1963 : decode cL_law 1963 = .ok (.ireturn, 1) := kq.at kqdL_law_1898 43 rfl
