theorem dL_law_1478 : decode cL_law 1478 = .ok (.iload_n 3, 1) := by decide +kernel
theorem dL_law_1479 : decode cL_law 1479 = .ok (.iconst 4, 1) := by decide +kernel
theorem dL_law_1480 : decode cL_law 1480 = .ok (.iadd, 1) := by decide +kernel
theorem dL_law_1481 : decode cL_law 1481 = .ok (.iaload, 1) := by decide +kernel
theorem dL_law_1482 : decode cL_law 1482 = .ok (.invokevirtual 182, 3) := by decide +kernel
theorem dL_law_1485 : decode cL_law 1485 = .ok (.pop, 1) := by decide +kernel
theorem dL_law_1486 : decode cL_law 1486 = .ok (.goto 1006, 3) := by decide +kernel
theorem dL_law_1489 : decode cL_law 1489 = .ok (.aload_n 1, 1) := by decide +kernel
theorem dL_law_1490 : decode cL_law 1490 = .ok (.aload_n 0, 1) := by decide +kernel
theorem dL_law_1491 : decode cL_law 1491 = .ok (.iload_n 3, 1) := by decide +kernel
theorem dL_law_1492 : decode cL_law 1492 = .ok (.iconst 1, 1) := by decide +kernel
theorem dL_law_1493 : decode cL_law 1493 = .ok (.iadd, 1) := by decide +kernel
theorem dL_law_1494 : decode cL_law 1494 = .ok (.iaload, 1) := by decide +kernel
theorem dL_law_1495 : decode cL_law 1495 = .ok (.aload_n 0, 1) := by decide +kernel
theorem dL_law_1496 : decode cL_law 1496 = .ok (.iload_n 3, 1) := by decide +kernel
theorem dL_law_1497 : decode cL_law 1497 = .ok (.iconst 2, 1) := by decide +kernel
theorem dL_law_1498 : decode cL_law 1498 = .ok (.iadd, 1) := by decide +kernel
theorem dL_law_1499 : decode cL_law 1499 = .ok (.iaload, 1) := by decide +kernel
theorem dL_law_1500 : decode cL_law 1500 = .ok (.invokevirtual 183, 3) := by decide +kernel
theorem dL_law_1503 : decode cL_law 1503 = .ok (.pop, 1) := by decide +kernel
theorem dL_law_1504 : decode cL_law 1504 = .ok (.aload_n 2, 1) := by decide +kernel
theorem dL_law_1505 : decode cL_law 1505 = .ok (.aload_n 0, 1) := by decide +kernel
theorem dL_law_1506 : decode cL_law 1506 = .ok (.iload_n 3, 1) := by decide +kernel
theorem dL_law_1507 : decode cL_law 1507 = .ok (.iconst 1, 1) := by decide +kernel
theorem dL_law_1508 : decode cL_law 1508 = .ok (.iadd, 1) := by decide +kernel
theorem dL_law_1509 : decode cL_law 1509 = .ok (.iaload, 1) := by decide +kernel
theorem dL_law_1510 : decode cL_law 1510 = .ok (.aload_n 0, 1) := by decide +kernel
theorem dL_law_1511 : decode cL_law 1511 = .ok (.iload_n 3, 1) := by decide +kernel
theorem dL_law_1512 : decode cL_law 1512 = .ok (.iconst 2, 1) := by decide +kernel
theorem dL_law_1513 : decode cL_law 1513 = .ok (.iadd, 1) := by decide +kernel
theorem dL_law_1514 : decode cL_law 1514 = .ok (.iaload, 1) := by decide +kernel
theorem dL_law_1515 : decode cL_law 1515 = .ok (.invokevirtual 186, 3) := by decide +kernel
theorem dL_law_1518 : decode cL_law 1518 = .ok (.pop, 1) := by decide +kernel
theorem dL_law_1519 : decode cL_law 1519 = .ok (.goto 973, 3) := by decide +kernel
theorem dL_law_1522 : decode cL_law 1522 = .ok (.aload_n 1, 1) := by decide +kernel
theorem dL_law_1523 : decode cL_law 1523 = .ok (.aload_n 0, 1) := by decide +kernel
theorem dL_law_1524 : decode cL_law 1524 = .ok (.iload_n 3, 1) := by decide +kernel
theorem dL_law_1525 : decode cL_law 1525 = .ok (.iconst 1, 1) := by decide +kernel
theorem dL_law_1526 : decode cL_law 1526 = .ok (.iadd, 1) := by decide +kernel
theorem dL_law_1527 : decode cL_law 1527 = .ok (.iaload, 1) := by decide +kernel
theorem dL_law_1528 : decode cL_law 1528 = .ok (.aload_n 0, 1) := by decide +kernel
theorem dL_law_1529 : decode cL_law 1529 = .ok (.iload_n 3, 1) := by decide +kernel
theorem dL_law_1530 : decode cL_law 1530 = .ok (.iconst 2, 1) := by decide +kernel
theorem dL_law_1531 : decode cL_law 1531 = .ok (.iadd, 1) := by decide +kernel
theorem dL_law_1532 : decode cL_law 1532 = .ok (.iaload, 1) := by decide +kernel
theorem dL_law_1533 : decode cL_law 1533 = .ok (.invokevirtual 187, 3) := by decide +kernel
theorem dL_law_1536 : decode cL_law 1536 = .ok (.pop, 1) := by decide +kernel
theorem dL_law_1537 : decode cL_law 1537 = .ok (.aload_n 2, 1) := by decide +kernel
theorem dL_law_1538 : decode cL_law 1538 = .ok (.aload_n 0, 1) := by decide +kernel
theorem dL_law_1539 : decode cL_law 1539 = .ok (.iload_n 3, 1) := by decide +kernel
theorem dL_law_1540 : decode cL_law 1540 = .ok (.iconst 1, 1) := by decide +kernel
theorem dL_law_1541 : decode cL_law 1541 = .ok (.iadd, 1) := by decide +kernel
theorem dL_law_1542 : decode cL_law 1542 = .ok (.iaload, 1) := by decide +kernel
theorem dL_law_1543 : decode cL_law 1543 = .ok (.aload_n 0, 1) := by decide +kernel
theorem dL_law_1544 : decode cL_law 1544 = .ok (.iload_n 3, 1) := by decide +kernel
theorem dL_law_1545 : decode cL_law 1545 = .ok (.iconst 2, 1) := by decide +kernel
theorem dL_law_1546 : decode cL_law 1546 = .ok (.iadd, 1) := by decide +kernel
theorem dL_law_1547 : decode cL_law 1547 = .ok (.iaload, 1) := by decide +kernel
theorem dL_law_1548 : decode cL_law 1548 = .ok (.invokevirtual 190, 3) := by decide +kernel
theorem dL_law_1551 : decode cL_law 1551 = .ok (.pop, 1) := by decide +kernel
theorem dL_law_1552 : decode cL_law 1552 = .ok (.goto 940, 3) := by decide +kernel
theorem dL_law_1555 : decode cL_law 1555 = .ok (.aload_n 1, 1) := by decide +kernel
theorem dL_law_1556 : decode cL_law 1556 = .ok (.aload_n 0, 1) := by decide +kernel
theorem dL_law_1557 : decode cL_law 1557 = .ok (.iload_n 3, 1) := by decide +kernel
theorem dL_law_1558 : decode cL_law 1558 = .ok (.iconst 1, 1) := by decide +kernel
theorem dL_law_1559 : decode cL_law 1559 = .ok (.iadd, 1) := by decide +kernel
theorem dL_law_1560 : decode cL_law 1560 = .ok (.iaload, 1) := by decide +kernel
theorem dL_law_1561 : decode cL_law 1561 = .ok (.aload_n 0, 1) := by decide +kernel
theorem dL_law_1562 : decode cL_law 1562 = .ok (.iload_n 3, 1) := by decide +kernel
theorem dL_law_1563 : decode cL_law 1563 = .ok (.iconst 2, 1) := by decide +kernel
theorem dL_law_1564 : decode cL_law 1564 = .ok (.iadd, 1) := by decide +kernel
theorem dL_law_1565 : decode cL_law 1565 = .ok (.iaload, 1) := by decide +kernel
theorem dL_law_1566 : decode cL_law 1566 = .ok (.aload_n 0, 1) := by decide +kernel
theorem dL_law_1567 : decode cL_law 1567 = .ok (.iload_n 3, 1) := by decide +kernel
theorem dL_law_1568 : decode cL_law 1568 = .ok (.iconst 3, 1) := by decide +kernel
theorem dL_law_1569 : decode cL_law 1569 = .ok (.iadd, 1) := by decide +kernel
theorem dL_law_1570 : decode cL_law 1570 = .ok (.iaload, 1) := by decide +kernel
theorem dL_law_1571 : decode cL_law 1571 = .ok (.invokevirtual 191, 3) := by decide +kernel
theorem dL_law_1574 : decode cL_law 1574 = .ok (.pop, 1) := by decide +kernel
theorem dL_law_1575 : decode cL_law 1575 = .ok (.aload_n 2, 1) := by decide +kernel
theorem dL_law_1576 : decode cL_law 1576 = .ok (.aload_n 0, 1) := by decide +kernel
theorem dL_law_1577 : decode cL_law 1577 = .ok (.iload_n 3, 1) := by decide +kernel
theorem dL_law_1578 : decode cL_law 1578 = .ok (.iconst 1, 1) := by decide +kernel
theorem dL_law_1579 : decode cL_law 1579 = .ok (.iadd, 1) := by decide +kernel
theorem dL_law_1580 : decode cL_law 1580 = .ok (.iaload, 1) := by decide +kernel
theorem dL_law_1581 : decode cL_law 1581 = .ok (.aload_n 0, 1) := by decide +kernel
theorem dL_law_1582 : decode cL_law 1582 = .ok (.iload_n 3, 1) := by decide +kernel
theorem dL_law_1583 : decode cL_law 1583 = .ok (.iconst 2, 1) := by decide +kernel
theorem dL_law_1584 : decode cL_law 1584 = .ok (.iadd, 1) := by decide +kernel
theorem dL_law_1585 : decode cL_law 1585 = .ok (.iaload, 1) := by decide +kernel
theorem dL_law_1586 : decode cL_law 1586 = .ok (.aload_n 0, 1) := by decide +kernel
theorem dL_law_1587 : decode cL_law 1587 = .ok (.iload_n 3, 1) := by decide +kernel
theorem dL_law_1588 : decode cL_law 1588 = .ok (.iconst 3, 1) := by decide +kernel
theorem dL_law_1589 : decode cL_law 1589 = .ok (.iadd, 1) := by decide +kernel
theorem dL_law_1590 : decode cL_law 1590 = .ok (.iaload, 1) := by decide +kernel
theorem dL_law_1591 : decode cL_law 1591 = .ok (.invokevirtual 194, 3) := by decide +kernel
theorem dL_law_1594 : decode cL_law 1594 = .ok (.pop, 1) := by decide +kernel
theorem dL_law_1595 : decode cL_law 1595 = .ok (.goto 897, 3) := by decide +kernel
theorem dL_law_1598 : decode cL_law 1598 = .ok (.aload_n 1, 1) := by decide +kernel
theorem dL_law_1599 : decode cL_law 1599 = .ok (.aload_n 0, 1) := by decide +kernel
theorem dL_law_1600 : decode cL_law 1600 = .ok (.iload_n 3, 1) := by decide +kernel
theorem dL_law_1601 : decode cL_law 1601 = .ok (.iconst 1, 1) := by decide +kernel
theorem dL_law_1602 : decode cL_law 1602 = .ok (.iadd, 1) := by decide +kernel
theorem dL_law_1603 : decode cL_law 1603 = .ok (.iaload, 1) := by decide +kernel
theorem dL_law_1604 : decode cL_law 1604 = .ok (.invokevirtual 195, 3) := by decide +kernel
theorem dL_law_1607 : decode cL_law 1607 = .ok (.pop, 1) := by decide +kernel
theorem dL_law_1608 : decode cL_law 1608 = .ok (.aload_n 2, 1) := by decide +kernel
theorem dL_law_1609 : decode cL_law 1609 = .ok (.aload_n 0, 1) := by decide +kernel
theorem dL_law_1610 : decode cL_law 1610 = .ok (.iload_n 3, 1) := by decide +kernel
theorem dL_law_1611 : decode cL_law 1611 = .ok (.iconst 1, 1) := by decide +kernel
theorem dL_law_1612 : decode cL_law 1612 = .ok (.iadd, 1) := by decide +kernel
theorem dL_law_1613 : decode cL_law 1613 = .ok (.iaload, 1) := by decide +kernel
theorem dL_law_1614 : decode cL_law 1614 = .ok (.invokevirtual 198, 3) := by decide +kernel
theorem dL_law_1617 : decode cL_law 1617 = .ok (.pop, 1) := by decide +kernel
theorem dL_law_1618 : decode cL_law 1618 = .ok (.goto 874, 3) := by decide +kernel
theorem dL_law_1621 : decode cL_law 1621 = .ok (.aload_n 1, 1) := by decide +kernel
theorem dL_law_1622 : decode cL_law 1622 = .ok (.aload_n 0, 1) := by decide +kernel
theorem dL_law_1623 : decode cL_law 1623 = .ok (.iload_n 3, 1) := by decide +kernel
theorem dL_law_1624 : decode cL_law 1624 = .ok (.iconst 1, 1) := by decide +kernel
theorem dL_law_1625 : decode cL_law 1625 = .ok (.iadd, 1) := by decide +kernel
theorem dL_law_1626 : decode cL_law 1626 = .ok (.iaload, 1) := by decide +kernel
theorem dL_law_1627 : decode cL_law 1627 = .ok (.invokevirtual 199, 3) := by decide +kernel
theorem dL_law_1630 : decode cL_law 1630 = .ok (.pop, 1) := by decide +kernel
theorem dL_law_1631 : decode cL_law 1631 = .ok (.aload_n 2, 1) := by decide +kernel
theorem dL_law_1632 : decode cL_law 1632 = .ok (.aload_n 0, 1) := by decide +kernel
theorem dL_law_1633 : decode cL_law 1633 = .ok (.iload_n 3, 1) := by decide +kernel
theorem dL_law_1634 : decode cL_law 1634 = .ok (.iconst 1, 1) := by decide +kernel
theorem dL_law_1635 : decode cL_law 1635 = .ok (.iadd, 1) := by decide +kernel
theorem dL_law_1636 : decode cL_law 1636 = .ok (.iaload, 1) := by decide +kernel
theorem dL_law_1637 : decode cL_law 1637 = .ok (.invokevirtual 202, 3) := by decide +kernel
theorem dL_law_1640 : decode cL_law 1640 = .ok (.pop, 1) := by decide +kernel
theorem dL_law_1641 : decode cL_law 1641 = .ok (.goto 851, 3) := by decide +kernel
theorem dL_law_1644 : decode cL_law 1644 = .ok (.aload_n 1, 1) := by decide +kernel
theorem dL_law_1645 : decode cL_law 1645 = .ok (.aload_n 0, 1) := by decide +kernel
theorem dL_law_1646 : decode cL_law 1646 = .ok (.iload_n 3, 1) := by decide +kernel
theorem dL_law_1647 : decode cL_law 1647 = .ok (.iconst 1, 1) := by decide +kernel
theorem dL_law_1648 : decode cL_law 1648 = .ok (.iadd, 1) := by decide +kernel
theorem dL_law_1649 : decode cL_law 1649 = .ok (.iaload, 1) := by decide +kernel
theorem dL_law_1650 : decode cL_law 1650 = .ok (.invokevirtual 203, 3) := by decide +kernel
theorem dL_law_1653 : decode cL_law 1653 = .ok (.pop, 1) := by decide +kernel
theorem dL_law_1654 : decode cL_law 1654 = .ok (.aload_n 2, 1) := by decide +kernel
theorem dL_law_1655 : decode cL_law 1655 = .ok (.aload_n 0, 1) := by decide +kernel
theorem dL_law_1656 : decode cL_law 1656 = .ok (.iload_n 3, 1) := by decide +kernel
theorem dL_law_1657 : decode cL_law 1657 = .ok (.iconst 1, 1) := by decide +kernel
theorem dL_law_1658 : decode cL_law 1658 = .ok (.iadd, 1) := by decide +kernel
theorem dL_law_1659 : decode cL_law 1659 = .ok (.iaload, 1) := by decide +kernel
theorem dL_law_1660 : decode cL_law 1660 = .ok (.invokevirtual 206, 3) := by decide +kernel
theorem dL_law_1663 : decode cL_law 1663 = .ok (.pop, 1) := by decide +kernel
theorem dL_law_1664 : decode cL_law 1664 = .ok (.goto 828, 3) := by decide +kernel
theorem dL_law_1667 : decode cL_law 1667 = .ok (.aload_n 1, 1) := by decide +kernel
theorem dL_law_1668 : decode cL_law 1668 = .ok (.aload_n 0, 1) := by decide +kernel
theorem dL_law_1669 : decode cL_law 1669 = .ok (.iload_n 3, 1) := by decide +kernel
theorem dL_law_1670 : decode cL_law 1670 = .ok (.iconst 1, 1) := by decide +kernel
theorem dL_law_1671 : decode cL_law 1671 = .ok (.iadd, 1) := by decide +kernel
theorem dL_law_1672 : decode cL_law 1672 = .ok (.iaload, 1) := by decide +kernel
theorem dL_law_1673 : decode cL_law 1673 = .ok (.invokevirtual 207, 3) := by decide +kernel
theorem dL_law_1676 : decode cL_law 1676 = .ok (.pop, 1) := by decide +kernel
theorem dL_law_1677 : decode cL_law 1677 = .ok (.aload_n 2, 1) := by decide +kernel
theorem dL_law_1678 : decode cL_law 1678 = .ok (.aload_n 0, 1) := by decide +kernel
theorem dL_law_1679 : decode cL_law 1679 = .ok (.iload_n 3, 1) := by decide +kernel
theorem dL_law_1680 : decode cL_law 1680 = .ok (.iconst 1, 1) := by decide +kernel
theorem dL_law_1681 : decode cL_law 1681 = .ok (.iadd, 1) := by decide +kernel
theorem dL_law_1682 : decode cL_law 1682 = .ok (.iaload, 1) := by decide +kernel
theorem dL_law_1683 : decode cL_law 1683 = .ok (.invokevirtual 210, 3) := by decide +kernel
theorem dL_law_1686 : decode cL_law 1686 = .ok (.pop, 1) := by decide +kernel
theorem dL_law_1687 : decode cL_law 1687 = .ok (.goto 805, 3) := by decide +kernel
theorem dL_law_1690 : decode cL_law 1690 = .ok (.aload_n 1, 1) := by decide +kernel
theorem dL_law_1691 : decode cL_law 1691 = .ok (.aload_n 0, 1) := by decide +kernel
theorem dL_law_1692 : decode cL_law 1692 = .ok (.iload_n 3, 1) := by decide +kernel
theorem dL_law_1693 : decode cL_law 1693 = .ok (.iconst 1, 1) := by decide +kernel
theorem dL_law_1694 : decode cL_law 1694 = .ok (.iadd, 1) := by decide +kernel
theorem dL_law_1695 : decode cL_law 1695 = .ok (.iaload, 1) := by decide +kernel
theorem dL_law_1696 : decode cL_law 1696 = .ok (.invokevirtual 211, 3) := by decide +kernel
theorem dL_law_1699 : decode cL_law 1699 = .ok (.pop, 1) := by decide +kernel
theorem dL_law_1700 : decode cL_law 1700 = .ok (.aload_n 2, 1) := by decide +kernel
theorem dL_law_1701 : decode cL_law 1701 = .ok (.aload_n 0, 1) := by decide +kernel
theorem dL_law_1702 : decode cL_law 1702 = .ok (.iload_n 3, 1) := by decide +kernel
theorem dL_law_1703 : decode cL_law 1703 = .ok (.iconst 1, 1) := by decide +kernel
theorem dL_law_1704 : decode cL_law 1704 = .ok (.iadd, 1) := by decide +kernel
theorem dL_law_1705 : decode cL_law 1705 = .ok (.iaload, 1) := by decide +kernel
theorem dL_law_1706 : decode cL_law 1706 = .ok (.invokevirtual 214, 3) := by decide +kernel
theorem dL_law_1709 : decode cL_law 1709 = .ok (.pop, 1) := by decide +kernel
theorem dL_law_1710 : decode cL_law 1710 = .ok (.goto 782, 3) := by decide +kernel
theorem dL_law_1713 : decode cL_law 1713 = .ok (.aload_n 1, 1) := by decide +kernel
theorem dL_law_1714 : decode cL_law 1714 = .ok (.aload_n 0, 1) := by decide +kernel
theorem dL_law_1715 : decode cL_law 1715 = .ok (.iload_n 3, 1) := by decide +kernel
theorem dL_law_1716 : decode cL_law 1716 = .ok (.iconst 1, 1) := by decide +kernel
theorem dL_law_1717 : decode cL_law 1717 = .ok (.iadd, 1) := by decide +kernel
theorem dL_law_1718 : decode cL_law 1718 = .ok (.iaload, 1) := by decide +kernel
theorem dL_law_1719 : decode cL_law 1719 = .ok (.invokevirtual 215, 3) := by decide +kernel
theorem dL_law_1722 : decode cL_law 1722 = .ok (.pop, 1) := by decide +kernel
theorem dL_law_1723 : decode cL_law 1723 = .ok (.aload_n 2, 1) := by decide +kernel
theorem dL_law_1724 : decode cL_law 1724 = .ok (.aload_n 0, 1) := by decide +kernel
theorem dL_law_1725 : decode cL_law 1725 = .ok (.iload_n 3, 1) := by decide +kernel
theorem dL_law_1726 : decode cL_law 1726 = .ok (.iconst 1, 1) := by decide +kernel
theorem dL_law_1727 : decode cL_law 1727 = .ok (.iadd, 1) := by decide +kernel
theorem dL_law_1728 : decode cL_law 1728 = .ok (.iaload, 1) := by decide +kernel
theorem dL_law_1729 : decode cL_law 1729 = .ok (.invokevirtual 218, 3) := by decide +kernel
theorem dL_law_1732 : decode cL_law 1732 = .ok (.pop, 1) := by decide +kernel
theorem dL_law_1733 : decode cL_law 1733 = .ok (.goto 759, 3) := by decide +kernel
theorem dL_law_1736 : decode cL_law 1736 = .ok (.aload_n 1, 1) := by decide +kernel
theorem dL_law_1737 : decode cL_law 1737 = .ok (.aload_n 0, 1) := by decide +kernel
theorem dL_law_1738 : decode cL_law 1738 = .ok (.iload_n 3, 1) := by decide +kernel
theorem dL_law_1739 : decode cL_law 1739 = .ok (.iconst 1, 1) := by decide +kernel
theorem dL_law_1740 : decode cL_law 1740 = .ok (.iadd, 1) := by decide +kernel
theorem dL_law_1741 : decode cL_law 1741 = .ok (.iaload, 1) := by decide +kernel
theorem dL_law_1742 : decode cL_law 1742 = .ok (.invokevirtual 219, 3) := by decide +kernel
theorem dL_law_1745 : decode cL_law 1745 = .ok (.pop, 1) := by decide +kernel
theorem dL_law_1746 : decode cL_law 1746 = .ok (.aload_n 2, 1) := by decide +kernel
theorem dL_law_1747 : decode cL_law 1747 = .ok (.aload_n 0, 1) := by decide +kernel
theorem dL_law_1748 : decode cL_law 1748 = .ok (.iload_n 3, 1) := by decide +kernel
theorem dL_law_1749 : decode cL_law 1749 = .ok (.iconst 1, 1) := by decide +kernel
theorem dL_law_1750 : decode cL_law 1750 = .ok (.iadd, 1) := by decide +kernel
theorem dL_law_1751 : decode cL_law 1751 = .ok (.iaload, 1) := by decide +kernel
theorem dL_law_1752 : decode cL_law 1752 = .ok (.invokevirtual 222, 3) := by decide +kernel
theorem dL_law_1755 : decode cL_law 1755 = .ok (.pop, 1) := by decide +kernel
theorem dL_law_1756 : decode cL_law 1756 = .ok (.goto 736, 3) := by decide +kernel
theorem dL_law_1759 : decode cL_law 1759 = .ok (.aload_n 1, 1) := by decide +kernel
theorem dL_law_1760 : decode cL_law 1760 = .ok (.aload_n 0, 1) := by decide +kernel
theorem dL_law_1761 : decode cL_law 1761 = .ok (.iload_n 3, 1) := by decide +kernel
theorem dL_law_1762 : decode cL_law 1762 = .ok (.iconst 1, 1) := by decide +kernel
theorem dL_law_1763 : decode cL_law 1763 = .ok (.iadd, 1) := by decide +kernel
theorem dL_law_1764 : decode cL_law 1764 = .ok (.iaload, 1) := by decide +kernel
theorem dL_law_1765 : decode cL_law 1765 = .ok (.aload_n 0, 1) := by decide +kernel
theorem dL_law_1766 : decode cL_law 1766 = .ok (.iload_n 3, 1) := by decide +kernel
theorem dL_law_1767 : decode cL_law 1767 = .ok (.iconst 2, 1) := by decide +kernel
theorem dL_law_1768 : decode cL_law 1768 = .ok (.iadd, 1) := by decide +kernel
theorem dL_law_1769 : decode cL_law 1769 = .ok (.iaload, 1) := by decide +kernel
theorem dL_law_1770 : decode cL_law 1770 = .ok (.invokevirtual 223, 3) := by decide +kernel
theorem dL_law_1773 : decode cL_law 1773 = .ok (.pop, 1) := by decide +kernel
theorem dL_law_1774 : decode cL_law 1774 = .ok (.aload_n 2, 1) := by decide +kernel
theorem dL_law_1775 : decode cL_law 1775 = .ok (.aload_n 0, 1) := by decide +kernel
theorem dL_law_1776 : decode cL_law 1776 = .ok (.iload_n 3, 1) := by decide +kernel
theorem dL_law_1777 : decode cL_law 1777 = .ok (.iconst 1, 1) := by decide +kernel
theorem dL_law_1778 : decode cL_law 1778 = .ok (.iadd, 1) := by decide +kernel
theorem dL_law_1779 : decode cL_law 1779 = .ok (.iaload, 1) := by decide +kernel
theorem dL_law_1780 : decode cL_law 1780 = .ok (.aload_n 0, 1) := by decide +kernel
theorem dL_law_1781 : decode cL_law 1781 = .ok (.iload_n 3, 1) := by decide +kernel
theorem dL_law_1782 : decode cL_law 1782 = .ok (.iconst 2, 1) := by decide +kernel
theorem dL_law_1783 : decode cL_law 1783 = .ok (.iadd, 1) := by decide +kernel
theorem dL_law_1784 : decode cL_law 1784 = .ok (.iaload, 1) := by decide +kernel
theorem dL_law_1785 : decode cL_law 1785 = .ok (.invokevirtual 226, 3) := by decide +kernel
theorem dL_law_1788 : decode cL_law 1788 = .ok (.pop, 1) := by decide +kernel
theorem dL_law_1789 : decode cL_law 1789 = .ok (.goto 703, 3) := by decide +kernel
theorem dL_law_1792 : decode cL_law 1792 = .ok (.aload_n 1, 1) := by decide +kernel
theorem dL_law_1793 : decode cL_law 1793 = .ok (.invokevirtual 227, 3) := by decide +kernel
theorem dL_law_1796 : decode cL_law 1796 = .ok (.pop, 1) := by decide +kernel
theorem dL_law_1797 : decode cL_law 1797 = .ok (.aload_n 2, 1) := by decide +kernel
theorem dL_law_1798 : decode cL_law 1798 = .ok (.invokevirtual 230, 3) := by decide +kernel
theorem dL_law_1801 : decode cL_law 1801 = .ok (.pop, 1) := by decide +kernel
theorem dL_law_1802 : decode cL_law 1802 = .ok (.goto 690, 3) := by decide +kernel
theorem dL_law_1805 : decode cL_law 1805 = .ok (.aload_n 1, 1) := by decide +kernel
theorem dL_law_1806 : decode cL_law 1806 = .ok (.invokevirtual 231, 3) := by decide +kernel
theorem dL_law_1809 : decode cL_law 1809 = .ok (.pop, 1) := by decide +kernel
theorem dL_law_1810 : decode cL_law 1810 = .ok (.aload_n 2, 1) := by decide +kernel
theorem dL_law_1811 : decode cL_law 1811 = .ok (.invokevirtual 234, 3) := by decide +kernel
theorem dL_law_1814 : decode cL_law 1814 = .ok (.pop, 1) := by decide +kernel
theorem dL_law_1815 : decode cL_law 1815 = .ok (.goto 677, 3) := by decide +kernel
theorem dL_law_1818 : decode cL_law 1818 = .ok (.aload_n 1, 1) := by decide +kernel
theorem dL_law_1819 : decode cL_law 1819 = .ok (.invokevirtual 235, 3) := by decide +kernel
theorem dL_law_1822 : decode cL_law 1822 = .ok (.pop, 1) := by decide +kernel
theorem dL_law_1823 : decode cL_law 1823 = .ok (.aload_n 2, 1) := by decide +kernel
theorem dL_law_1824 : decode cL_law 1824 = .ok (.invokevirtual 238, 3) := by decide +kernel
theorem dL_law_1827 : decode cL_law 1827 = .ok (.pop, 1) := by decide +kernel
theorem dL_law_1828 : decode cL_law 1828 = .ok (.goto 664, 3) := by decide +kernel
theorem dL_law_1831 : decode cL_law 1831 = .ok (.aload_n 1, 1) := by decide +kernel
theorem dL_law_1832 : decode cL_law 1832 = .ok (.aload_n 0, 1) := by decide +kernel
theorem dL_law_1833 : decode cL_law 1833 = .ok (.iload_n 3, 1) := by decide +kernel
theorem dL_law_1834 : decode cL_law 1834 = .ok (.iconst 1, 1) := by decide +kernel
theorem dL_law_1835 : decode cL_law 1835 = .ok (.iadd, 1) := by decide +kernel
theorem dL_law_1836 : decode cL_law 1836 = .ok (.iaload, 1) := by decide +kernel
theorem dL_law_1837 : decode cL_law 1837 = .ok (.aload_n 0, 1) := by decide +kernel
theorem dL_law_1838 : decode cL_law 1838 = .ok (.iload_n 3, 1) := by decide +kernel
theorem dL_law_1839 : decode cL_law 1839 = .ok (.iconst 2, 1) := by decide +kernel
theorem dL_law_1840 : decode cL_law 1840 = .ok (.iadd, 1) := by decide +kernel
theorem dL_law_1841 : decode cL_law 1841 = .ok (.iaload, 1) := by decide +kernel
theorem dL_law_1842 : decode cL_law 1842 = .ok (.invokevirtual 239, 3) := by decide +kernel
theorem dL_law_1845 : decode cL_law 1845 = .ok (.pop, 1) := by decide +kernel
theorem dL_law_1846 : decode cL_law 1846 = .ok (.aload_n 2, 1) := by decide +kernel
theorem dL_law_1847 : decode cL_law 1847 = .ok (.aload_n 0, 1) := by decide +kernel
theorem dL_law_1848 : decode cL_law 1848 = .ok (.iload_n 3, 1) := by decide +kernel
theorem dL_law_1849 : decode cL_law 1849 = .ok (.iconst 1, 1) := by decide +kernel
theorem dL_law_1850 : decode cL_law 1850 = .ok (.iadd, 1) := by decide +kernel
theorem dL_law_1851 : decode cL_law 1851 = .ok (.iaload, 1) := by decide +kernel
theorem dL_law_1852 : decode cL_law 1852 = .ok (.aload_n 0, 1) := by decide +kernel
theorem dL_law_1853 : decode cL_law 1853 = .ok (.iload_n 3, 1) := by decide +kernel
theorem dL_law_1854 : decode cL_law 1854 = .ok (.iconst 2, 1) := by decide +kernel
theorem dL_law_1855 : decode cL_law 1855 = .ok (.iadd, 1) := by decide +kernel
theorem dL_law_1856 : decode cL_law 1856 = .ok (.iaload, 1) := by decide +kernel
theorem dL_law_1857 : decode cL_law 1857 = .ok (.invokevirtual 242, 3) := by decide +kernel
theorem dL_law_1860 : decode cL_law 1860 = .ok (.pop, 1) := by decide +kernel
theorem dL_law_1861 : decode cL_law 1861 = .ok (.goto 631, 3) := by decide +kernel
theorem dL_law_1864 : decode cL_law 1864 = .ok (.aload_n 1, 1) := by decide +kernel
theorem dL_law_1865 : decode cL_law 1865 = .ok (.aload_n 0, 1) := by decide +kernel
theorem dL_law_1866 : decode cL_law 1866 = .ok (.iload_n 3, 1) := by decide +kernel
theorem dL_law_1867 : decode cL_law 1867 = .ok (.iconst 1, 1) := by decide +kernel
theorem dL_law_1868 : decode cL_law 1868 = .ok (.iadd, 1) := by decide +kernel
theorem dL_law_1869 : decode cL_law 1869 = .ok (.iaload, 1) := by decide +kernel
theorem dL_law_1870 : decode cL_law 1870 = .ok (.aload_n 0, 1) := by decide +kernel
theorem dL_law_1871 : decode cL_law 1871 = .ok (.iload_n 3, 1) := by decide +kernel
theorem dL_law_1872 : decode cL_law 1872 = .ok (.iconst 2, 1) := by decide +kernel
theorem dL_law_1873 : decode cL_law 1873 = .ok (.iadd, 1) := by decide +kernel
theorem dL_law_1874 : decode cL_law 1874 = .ok (.iaload, 1) := by decide +kernel
theorem dL_law_1875 : decode cL_law 1875 = .ok (.aload_n 0, 1) := by decide +kernel
theorem dL_law_1876 : decode cL_law 1876 = .ok (.iload_n 3, 1) := by decide +kernel
theorem dL_law_1877 : decode cL_law 1877 = .ok (.iconst 3, 1) := by decide +kernel
theorem dL_law_1878 : decode cL_law 1878 = .ok (.iadd, 1) := by decide +kernel
theorem dL_law_1879 : decode cL_law 1879 = .ok (.iaload, 1) := by decide +kernel
theorem dL_law_1880 : decode cL_law 1880 = .ok (.aload_n 0, 1) := by decide +kernel
theorem dL_law_1881 : decode cL_law 1881 = .ok (.iload_n 3, 1) := by decide +kernel
theorem dL_law_1882 : decode cL_law 1882 = .ok (.iconst 4, 1) := by decide +kernel
theorem dL_law_1883 : decode cL_law 1883 = .ok (.iadd, 1) := by decide +kernel
theorem dL_law_1884 : decode cL_law 1884 = .ok (.iaload, 1) := by decide +kernel
theorem dL_law_1885 : decode cL_law 1885 = .ok (.invokevirtual 243, 3) := by decide +kernel
theorem dL_law_1888 : decode cL_law 1888 = .ok (.pop, 1) := by decide +kernel
theorem dL_law_1889 : decode cL_law 1889 = .ok (.aload_n 2, 1) := by decide +kernel
theorem dL_law_1890 : decode cL_law 1890 = .ok (.aload_n 0, 1) := by decide +kernel
theorem dL_law_1891 : decode cL_law 1891 = .ok (.iload_n 3, 1) := by decide +kernel
theorem dL_law_1892 : decode cL_law 1892 = .ok (.iconst 1, 1) := by decide +kernel
theorem dL_law_1893 : decode cL_law 1893 = .ok (.iadd, 1) := by decide +kernel
theorem dL_law_1894 : decode cL_law 1894 = .ok (.iaload, 1) := by decide +kernel
theorem dL_law_1895 : decode cL_law 1895 = .ok (.aload_n 0, 1) := by decide +kernel
theorem dL_law_1896 : decode cL_law 1896 = .ok (.iload_n 3, 1) := by decide +kernel
theorem dL_law_1897 : decode cL_law 1897 = .ok (.iconst 2, 1) := by decide +kernel
theorem dL_law_1898 : decode cL_law 1898 = .ok (.iadd, 1) := by decide +kernel
theorem dL_law_1899 : decode cL_law 1899 = .ok (.iaload, 1) := by decide +kernel
theorem dL_law_1900 : decode cL_law 1900 = .ok (.aload_n 0, 1) := by decide +kernel
theorem dL_law_1901 : decode cL_law 1901 = .ok (.iload_n 3, 1) := by decide +kernel
theorem dL_law_1902 : decode cL_law 1902 = .ok (.iconst 3, 1) := by decide +kernel
theorem dL_law_1903 : decode cL_law 1903 = .ok (.iadd, 1) := by decide +kernel
theorem dL_law_1904 : decode cL_law 1904 = .ok (.iaload, 1) := by decide +kernel
theorem dL_law_1905 : decode cL_law 1905 = .ok (.aload_n 0, 1) := by decide +kernel
theorem dL_law_1906 : decode cL_law 1906 = .ok (.iload_n 3, 1) := by decide +kernel
theorem dL_law_1907 : decode cL_law 1907 = .ok (.iconst 4, 1) := by decide +kernel
theorem dL_law_1908 : decode cL_law 1908 = .ok (.iadd, 1) := by decide +kernel
theorem dL_law_1909 : decode cL_law 1909 = .ok (.iaload, 1) := by decide +kernel
theorem dL_law_1910 : decode cL_law 1910 = .ok (.invokevirtual 246, 3) := by decide +kernel
theorem dL_law_1913 : decode cL_law 1913 = .ok (.pop, 1) := by decide +kernel
theorem dL_law_1914 : decode cL_law 1914 = .ok (.goto 578, 3) := by decide +kernel
theorem dL_law_1917 : decode cL_law 1917 = .ok (.aload_n 1, 1) := by decide +kernel
theorem dL_law_1918 : decode cL_law 1918 = .ok (.aload_n 0, 1) := by decide +kernel
theorem dL_law_1919 : decode cL_law 1919 = .ok (.iload_n 3, 1) := by decide +kernel
theorem dL_law_1920 : decode cL_law 1920 = .ok (.iconst 1, 1) := by decide +kernel
theorem dL_law_1921 : decode cL_law 1921 = .ok (.iadd, 1) := by decide +kernel
theorem dL_law_1922 : decode cL_law 1922 = .ok (.iaload, 1) := by decide +kernel
theorem dL_law_1923 : decode cL_law 1923 = .ok (.aload_n 0, 1) := by decide +kernel
theorem dL_law_1924 : decode cL_law 1924 = .ok (.iload_n 3, 1) := by decide +kernel
theorem dL_law_1925 : decode cL_law 1925 = .ok (.iconst 2, 1) := by decide +kernel
theorem dL_law_1926 : decode cL_law 1926 = .ok (.iadd, 1) := by decide +kernel
theorem dL_law_1927 : decode cL_law 1927 = .ok (.iaload, 1) := by decide +kernel
theorem dL_law_1928 : decode cL_law 1928 = .ok (.aload_n 0, 1) := by decide +kernel
theorem dL_law_1929 : decode cL_law 1929 = .ok (.iload_n 3, 1) := by decide +kernel
theorem dL_law_1930 : decode cL_law 1930 = .ok (.iconst 3, 1) := by decide +kernel
theorem dL_law_1931 : decode cL_law 1931 = .ok (.iadd, 1) := by decide +kernel
theorem dL_law_1932 : decode cL_law 1932 = .ok (.iaload, 1) := by decide +kernel
theorem dL_law_1933 : decode cL_law 1933 = .ok (.aload_n 0, 1) := by decide +kernel
theorem dL_law_1934 : decode cL_law 1934 = .ok (.iload_n 3, 1) := by decide +kernel
theorem dL_law_1935 : decode cL_law 1935 = .ok (.iconst 4, 1) := by decide +kernel
theorem dL_law_1936 : decode cL_law 1936 = .ok (.iadd, 1) := by decide +kernel
theorem dL_law_1937 : decode cL_law 1937 = .ok (.iaload, 1) := by decide +kernel
theorem dL_law_1938 : decode cL_law 1938 = .ok (.invokevirtual 247, 3) := by decide +kernel
theorem dL_law_1941 : decode cL_law 1941 = .ok (.pop2, 1) := by decide +kernel
theorem dL_law_1942 : decode cL_law 1942 = .ok (.aload_n 2, 1) := by decide +kernel
theorem dL_law_1943 : decode cL_law 1943 = .ok (.aload_n 0, 1) := by decide +kernel
theorem dL_law_1944 : decode cL_law 1944 = .ok (.iload_n 3, 1) := by decide +kernel
theorem dL_law_1945 : decode cL_law 1945 = .ok (.iconst 1, 1) := by decide +kernel
theorem dL_law_1946 : decode cL_law 1946 = .ok (.iadd, 1) := by decide +kernel
theorem dL_law_1947 : decode cL_law 1947 = .ok (.iaload, 1) := by decide +kernel
theorem dL_law_1948 : decode cL_law 1948 = .ok (.aload_n 0, 1) := by decide +kernel
theorem dL_law_1949 : decode cL_law 1949 = .ok (.iload_n 3, 1) := by decide +kernel
theorem dL_law_1950 : decode cL_law 1950 = .ok (.iconst 2, 1) := by decide +kernel
theorem dL_law_1951 : decode cL_law 1951 = .ok (.iadd, 1) := by decide +kernel
theorem dL_law_1952 : decode cL_law 1952 = .ok (.iaload, 1) := by decide +kernel
theorem dL_law_1953 : decode cL_law 1953 = .ok (.aload_n 0, 1) := by decide +kernel
theorem dL_law_1954 : decode cL_law 1954 = .ok (.iload_n 3, 1) := by decide +kernel
theorem dL_law_1955 : decode cL_law 1955 = .ok (.iconst 3, 1) := by decide +kernel
theorem dL_law_1956 : decode cL_law 1956 = .ok (.iadd, 1) := by decide +kernel
theorem dL_law_1957 : decode cL_law 1957 = .ok (.iaload, 1) := by decide +kernel
theorem dL_law_1958 : decode cL_law 1958 = .ok (.aload_n 0, 1) := by decide +kernel
theorem dL_law_1959 : decode cL_law 1959 = .ok (.iload_n 3, 1) := by decide +kernel
theorem dL_law_1960 : decode cL_law 1960 = .ok (.iconst 4, 1) := by decide +kernel
theorem dL_law_1961 : decode cL_law 1961 = .ok (.iadd, 1) := by decide +kernel
theorem dL_law_1962 : decode cL_law 1962 = .ok (.iaload, 1) := by decide +kernel
theorem dL_law_1963 : decode cL_law 1963 = .ok (.invokevirtual 251, 3) := by decide +kernel
theorem dL_law_1966 : decode cL_law 1966 = .ok (.pop2, 1) := by decide +kernel
theorem dL_law_1967 : decode cL_law 1967 = .ok (.goto 525, 3) := by decide +kernel
theorem dL_law_1970 : decode cL_law 1970 = .ok (.aload_n 1, 1) := by decide +kernel
theorem dL_law_1971 : decode cL_law 1971 = .ok (.aload_n 0, 1) := by decide +kernel
theorem dL_law_1972 : decode cL_law 1972 = .ok (.iload_n 3, 1) := by decide +kernel
theorem dL_law_1973 : decode cL_law 1973 = .ok (.iconst 1, 1) := by decide +kernel
theorem dL_law_1974 : decode cL_law 1974 = .ok (.iadd, 1) := by decide +kernel
theorem dL_law_1975 : decode cL_law 1975 = .ok (.iaload, 1) := by decide +kernel
theorem dL_law_1976 : decode cL_law 1976 = .ok (.aload_n 0, 1) := by decide +kernel
theorem dL_law_1977 : decode cL_law 1977 = .ok (.iload_n 3, 1) := by decide +kernel
theorem dL_law_1978 : decode cL_law 1978 = .ok (.iconst 2, 1) := by decide +kernel
theorem dL_law_1979 : decode cL_law 1979 = .ok (.iadd, 1) := by decide +kernel
theorem dL_law_1980 : decode cL_law 1980 = .ok (.iaload, 1) := by decide +kernel
theorem dL_law_1981 : decode cL_law 1981 = .ok (.aload_n 0, 1) := by decide +kernel
theorem dL_law_1982 : decode cL_law 1982 = .ok (.iload_n 3, 1) := by decide +kernel
theorem dL_law_1983 : decode cL_law 1983 = .ok (.iconst 3, 1) := by decide +kernel
theorem dL_law_1984 : decode cL_law 1984 = .ok (.iadd, 1) := by decide +kernel
theorem dL_law_1985 : decode cL_law 1985 = .ok (.iaload, 1) := by decide +kernel
theorem dL_law_1986 : decode cL_law 1986 = .ok (.invokevirtual 252, 3) := by decide +kernel
theorem dL_law_1989 : decode cL_law 1989 = .ok (.pop2, 1) := by decide +kernel
theorem dL_law_1990 : decode cL_law 1990 = .ok (.aload_n 2, 1) := by decide +kernel
theorem dL_law_1991 : decode cL_law 1991 = .ok (.aload_n 0, 1) := by decide +kernel
theorem dL_law_1992 : decode cL_law 1992 = .ok (.iload_n 3, 1) := by decide +kernel
theorem dL_law_1993 : decode cL_law 1993 = .ok (.iconst 1, 1) := by decide +kernel
theorem dL_law_1994 : decode cL_law 1994 = .ok (.iadd, 1) := by decide +kernel
theorem dL_law_1995 : decode cL_law 1995 = .ok (.iaload, 1) := by decide +kernel
theorem dL_law_1996 : decode cL_law 1996 = .ok (.aload_n 0, 1) := by decide +kernel
theorem dL_law_1997 : decode cL_law 1997 = .ok (.iload_n 3, 1) := by decide +kernel
theorem dL_law_1998 : decode cL_law 1998 = .ok (.iconst 2, 1) := by decide +kernel
theorem dL_law_1999 : decode cL_law 1999 = .ok (.iadd, 1) := by decide +kernel
theorem dL_law_2000 : decode cL_law 2000 = .ok (.iaload, 1) := by decide +kernel
theorem dL_law_2001 : decode cL_law 2001 = .ok (.aload_n 0, 1) := by decide +kernel
theorem dL_law_2002 : decode cL_law 2002 = .ok (.iload_n 3, 1) := by decide +kernel
theorem dL_law_2003 : decode cL_law 2003 = .ok (.iconst 3, 1) := by decide +kernel
theorem dL_law_2004 : decode cL_law 2004 = .ok (.iadd, 1) := by decide +kernel
theorem dL_law_2005 : decode cL_law 2005 = .ok (.iaload, 1) := by decide +kernel
theorem dL_law_2006 : decode cL_law 2006 = .ok (.invokevirtual 256, 3) := by decide +kernel
theorem dL_law_2009 : decode cL_law 2009 = .ok (.pop2, 1) := by decide +kernel
theorem dL_law_2010 : decode cL_law 2010 = .ok (.goto 482, 3) := by decide +kernel
theorem dL_law_2013 : decode cL_law 2013 = .ok (.aload_n 1, 1) := by decide +kernel
theorem dL_law_2014 : decode cL_law 2014 = .ok (.aload_n 0, 1) := by decide +kernel
theorem dL_law_2015 : decode cL_law 2015 = .ok (.iload_n 3, 1) := by decide +kernel
theorem dL_law_2016 : decode cL_law 2016 = .ok (.iconst 1, 1) := by decide +kernel
theorem dL_law_2017 : decode cL_law 2017 = .ok (.iadd, 1) := by decide +kernel
theorem dL_law_2018 : decode cL_law 2018 = .ok (.iaload, 1) := by decide +kernel
theorem dL_law_2019 : decode cL_law 2019 = .ok (.aload_n 0, 1) := by decide +kernel
theorem dL_law_2020 : decode cL_law 2020 = .ok (.iload_n 3, 1) := by decide +kernel
theorem dL_law_2021 : decode cL_law 2021 = .ok (.iconst 2, 1) := by decide +kernel
theorem dL_law_2022 : decode cL_law 2022 = .ok (.iadd, 1) := by decide +kernel
theorem dL_law_2023 : decode cL_law 2023 = .ok (.iaload, 1) := by decide +kernel
theorem dL_law_2024 : decode cL_law 2024 = .ok (.aload_n 0, 1) := by decide +kernel
theorem dL_law_2025 : decode cL_law 2025 = .ok (.iload_n 3, 1) := by decide +kernel
theorem dL_law_2026 : decode cL_law 2026 = .ok (.iconst 3, 1) := by decide +kernel
theorem dL_law_2027 : decode cL_law 2027 = .ok (.iadd, 1) := by decide +kernel
theorem dL_law_2028 : decode cL_law 2028 = .ok (.iaload, 1) := by decide +kernel
theorem dL_law_2029 : decode cL_law 2029 = .ok (.invokevirtual 257, 3) := by decide +kernel
theorem dL_law_2032 : decode cL_law 2032 = .ok (.pop, 1) := by decide +kernel
theorem dL_law_2033 : decode cL_law 2033 = .ok (.aload_n 2, 1) := by decide +kernel
theorem dL_law_2034 : decode cL_law 2034 = .ok (.aload_n 0, 1) := by decide +kernel
theorem dL_law_2035 : decode cL_law 2035 = .ok (.iload_n 3, 1) := by decide +kernel
theorem dL_law_2036 : decode cL_law 2036 = .ok (.iconst 1, 1) := by decide +kernel
theorem dL_law_2037 : decode cL_law 2037 = .ok (.iadd, 1) := by decide +kernel
theorem dL_law_2038 : decode cL_law 2038 = .ok (.iaload, 1) := by decide +kernel
theorem dL_law_2039 : decode cL_law 2039 = .ok (.aload_n 0, 1) := by decide +kernel
theorem dL_law_2040 : decode cL_law 2040 = .ok (.iload_n 3, 1) := by decide +kernel
theorem dL_law_2041 : decode cL_law 2041 = .ok (.iconst 2, 1) := by decide +kernel
theorem dL_law_2042 : decode cL_law 2042 = .ok (.iadd, 1) := by decide +kernel
theorem dL_law_2043 : decode cL_law 2043 = .ok (.iaload, 1) := by decide +kernel
theorem dL_law_2044 : decode cL_law 2044 = .ok (.aload_n 0, 1) := by decide +kernel
theorem dL_law_2045 : decode cL_law 2045 = .ok (.iload_n 3, 1) := by decide +kernel
theorem dL_law_2046 : decode cL_law 2046 = .ok (.iconst 3, 1) := by decide +kernel
theorem dL_law_2047 : decode cL_law 2047 = .ok (.iadd, 1) := by decide +kernel
theorem dL_law_2048 : decode cL_law 2048 = .ok (.iaload, 1) := by decide +kernel
theorem dL_law_2049 : decode cL_law 2049 = .ok (.invokevirtual 260, 3) := by decide +kernel
theorem dL_law_2052 : decode cL_law 2052 = .ok (.pop, 1) := by decide +kernel
theorem dL_law_2053 : decode cL_law 2053 = .ok (.goto 439, 3) := by decide +kernel
theorem dL_law_2056 : decode cL_law 2056 = .ok (.aload_n 1, 1) := by decide +kernel
theorem dL_law_2057 : decode cL_law 2057 = .ok (.aload_n 0, 1) := by decide +kernel
theorem dL_law_2058 : decode cL_law 2058 = .ok (.iload_n 3, 1) := by decide +kernel
theorem dL_law_2059 : decode cL_law 2059 = .ok (.iconst 1, 1) := by decide +kernel
theorem dL_law_2060 : decode cL_law 2060 = .ok (.iadd, 1) := by decide +kernel
theorem dL_law_2061 : decode cL_law 2061 = .ok (.iaload, 1) := by decide +kernel
theorem dL_law_2062 : decode cL_law 2062 = .ok (.aload_n 0, 1) := by decide +kernel
theorem dL_law_2063 : decode cL_law 2063 = .ok (.iload_n 3, 1) := by decide +kernel
theorem dL_law_2064 : decode cL_law 2064 = .ok (.iconst 2, 1) := by decide +kernel
theorem dL_law_2065 : decode cL_law 2065 = .ok (.iadd, 1) := by decide +kernel
theorem dL_law_2066 : decode cL_law 2066 = .ok (.iaload, 1) := by decide +kernel
theorem dL_law_2067 : decode cL_law 2067 = .ok (.invokevirtual 261, 3) := by decide +kernel
theorem dL_law_2070 : decode cL_law 2070 = .ok (.pop, 1) := by decide +kernel
theorem dL_law_2071 : decode cL_law 2071 = .ok (.aload_n 2, 1) := by decide +kernel
theorem dL_law_2072 : decode cL_law 2072 = .ok (.aload_n 0, 1) := by decide +kernel
theorem dL_law_2073 : decode cL_law 2073 = .ok (.iload_n 3, 1) := by decide +kernel
theorem dL_law_2074 : decode cL_law 2074 = .ok (.iconst 1, 1) := by decide +kernel
theorem dL_law_2075 : decode cL_law 2075 = .ok (.iadd, 1) := by decide +kernel
theorem dL_law_2076 : decode cL_law 2076 = .ok (.iaload, 1) := by decide +kernel
theorem dL_law_2077 : decode cL_law 2077 = .ok (.aload_n 0, 1) := by decide +kernel
theorem dL_law_2078 : decode cL_law 2078 = .ok (.iload_n 3, 1) := by decide +kernel
theorem dL_law_2079 : decode cL_law 2079 = .ok (.iconst 2, 1) := by decide +kernel
theorem dL_law_2080 : decode cL_law 2080 = .ok (.iadd, 1) := by decide +kernel
theorem dL_law_2081 : decode cL_law 2081 = .ok (.iaload, 1) := by decide +kernel
theorem dL_law_2082 : decode cL_law 2082 = .ok (.invokevirtual 264, 3) := by decide +kernel
theorem dL_law_2085 : decode cL_law 2085 = .ok (.pop, 1) := by decide +kernel
theorem dL_law_2086 : decode cL_law 2086 = .ok (.goto 406, 3) := by decide +kernel
theorem dL_law_2089 : decode cL_law 2089 = .ok (.aload_n 1, 1) := by decide +kernel
theorem dL_law_2090 : decode cL_law 2090 = .ok (.invokevirtual 265, 3) := by decide +kernel
theorem dL_law_2093 : decode cL_law 2093 = .ok (.pop, 1) := by decide +kernel
theorem dL_law_2094 : decode cL_law 2094 = .ok (.aload_n 2, 1) := by decide +kernel
theorem dL_law_2095 : decode cL_law 2095 = .ok (.invokevirtual 268, 3) := by decide +kernel
theorem dL_law_2098 : decode cL_law 2098 = .ok (.pop, 1) := by decide +kernel
theorem dL_law_2099 : decode cL_law 2099 = .ok (.goto 393, 3) := by decide +kernel
theorem dL_law_2102 : decode cL_law 2102 = .ok (.aload_n 1, 1) := by decide +kernel
theorem dL_law_2103 : decode cL_law 2103 = .ok (.invokevirtual 269, 3) := by decide +kernel
theorem dL_law_2106 : decode cL_law 2106 = .ok (.pop, 1) := by decide +kernel
theorem dL_law_2107 : decode cL_law 2107 = .ok (.aload_n 2, 1) := by decide +kernel
theorem dL_law_2108 : decode cL_law 2108 = .ok (.invokevirtual 272, 3) := by decide +kernel
theorem dL_law_2111 : decode cL_law 2111 = .ok (.pop, 1) := by decide +kernel
theorem dL_law_2112 : decode cL_law 2112 = .ok (.goto 380, 3) := by decide +kernel
theorem dL_law_2115 : decode cL_law 2115 = .ok (.aload_n 1, 1) := by decide +kernel
theorem dL_law_2116 : decode cL_law 2116 = .ok (.aload_n 0, 1) := by decide +kernel
theorem dL_law_2117 : decode cL_law 2117 = .ok (.iload_n 3, 1) := by decide +kernel
theorem dL_law_2118 : decode cL_law 2118 = .ok (.iconst 1, 1) := by decide +kernel
theorem dL_law_2119 : decode cL_law 2119 = .ok (.iadd, 1) := by decide +kernel
theorem dL_law_2120 : decode cL_law 2120 = .ok (.iaload, 1) := by decide +kernel
theorem dL_law_2121 : decode cL_law 2121 = .ok (.aload_n 0, 1) := by decide +kernel
theorem dL_law_2122 : decode cL_law 2122 = .ok (.iload_n 3, 1) := by decide +kernel
theorem dL_law_2123 : decode cL_law 2123 = .ok (.iconst 2, 1) := by decide +kernel
theorem dL_law_2124 : decode cL_law 2124 = .ok (.iadd, 1) := by decide +kernel
theorem dL_law_2125 : decode cL_law 2125 = .ok (.iaload, 1) := by decide +kernel
theorem dL_law_2126 : decode cL_law 2126 = .ok (.aload_n 0, 1) := by decide +kernel
theorem dL_law_2127 : decode cL_law 2127 = .ok (.iload_n 3, 1) := by decide +kernel
theorem dL_law_2128 : decode cL_law 2128 = .ok (.iconst 3, 1) := by decide +kernel
theorem dL_law_2129 : decode cL_law 2129 = .ok (.iadd, 1) := by decide +kernel
theorem dL_law_2130 : decode cL_law 2130 = .ok (.iaload, 1) := by decide +kernel
theorem dL_law_2131 : decode cL_law 2131 = .ok (.invokevirtual 273, 3) := by decide +kernel
theorem dL_law_2134 : decode cL_law 2134 = .ok (.pop, 1) := by decide +kernel
theorem dL_law_2135 : decode cL_law 2135 = .ok (.aload_n 2, 1) := by decide +kernel
theorem dL_law_2136 : decode cL_law 2136 = .ok (.aload_n 0, 1) := by decide +kernel
theorem dL_law_2137 : decode cL_law 2137 = .ok (.iload_n 3, 1) := by decide +kernel
theorem dL_law_2138 : decode cL_law 2138 = .ok (.iconst 1, 1) := by decide +kernel
theorem dL_law_2139 : decode cL_law 2139 = .ok (.iadd, 1) := by decide +kernel
theorem dL_law_2140 : decode cL_law 2140 = .ok (.iaload, 1) := by decide +kernel
theorem dL_law_2141 : decode cL_law 2141 = .ok (.aload_n 0, 1) := by decide +kernel
theorem dL_law_2142 : decode cL_law 2142 = .ok (.iload_n 3, 1) := by decide +kernel
theorem dL_law_2143 : decode cL_law 2143 = .ok (.iconst 2, 1) := by decide +kernel
theorem dL_law_2144 : decode cL_law 2144 = .ok (.iadd, 1) := by decide +kernel
theorem dL_law_2145 : decode cL_law 2145 = .ok (.iaload, 1) := by decide +kernel
theorem dL_law_2146 : decode cL_law 2146 = .ok (.aload_n 0, 1) := by decide +kernel
theorem dL_law_2147 : decode cL_law 2147 = .ok (.iload_n 3, 1) := by decide +kernel
theorem dL_law_2148 : decode cL_law 2148 = .ok (.iconst 3, 1) := by decide +kernel
theorem dL_law_2149 : decode cL_law 2149 = .ok (.iadd, 1) := by decide +kernel
theorem dL_law_2150 : decode cL_law 2150 = .ok (.iaload, 1) := by decide +kernel
theorem dL_law_2151 : decode cL_law 2151 = .ok (.invokevirtual 276, 3) := by decide +kernel
theorem dL_law_2154 : decode cL_law 2154 = .ok (.pop, 1) := by decide +kernel
theorem dL_law_2155 : decode cL_law 2155 = .ok (.goto 337, 3) := by decide +kernel
theorem dL_law_2158 : decode cL_law 2158 = .ok (.aload_n 1, 1) := by decide +kernel
theorem dL_law_2159 : decode cL_law 2159 = .ok (.aload_n 0, 1) := by decide +kernel
theorem dL_law_2160 : decode cL_law 2160 = .ok (.iload_n 3, 1) := by decide +kernel
theorem dL_law_2161 : decode cL_law 2161 = .ok (.iconst 1, 1) := by decide +kernel
theorem dL_law_2162 : decode cL_law 2162 = .ok (.iadd, 1) := by decide +kernel
theorem dL_law_2163 : decode cL_law 2163 = .ok (.iaload, 1) := by decide +kernel
theorem dL_law_2164 : decode cL_law 2164 = .ok (.aload_n 0, 1) := by decide +kernel
theorem dL_law_2165 : decode cL_law 2165 = .ok (.iload_n 3, 1) := by decide +kernel
theorem dL_law_2166 : decode cL_law 2166 = .ok (.iconst 2, 1) := by decide +kernel
theorem dL_law_2167 : decode cL_law 2167 = .ok (.iadd, 1) := by decide +kernel
theorem dL_law_2168 : decode cL_law 2168 = .ok (.iaload, 1) := by decide +kernel
theorem dL_law_2169 : decode cL_law 2169 = .ok (.aload_n 0, 1) := by decide +kernel
theorem dL_law_2170 : decode cL_law 2170 = .ok (.iload_n 3, 1) := by decide +kernel
theorem dL_law_2171 : decode cL_law 2171 = .ok (.iconst 3, 1) := by decide +kernel
theorem dL_law_2172 : decode cL_law 2172 = .ok (.iadd, 1) := by decide +kernel
theorem dL_law_2173 : decode cL_law 2173 = .ok (.iaload, 1) := by decide +kernel
theorem dL_law_2174 : decode cL_law 2174 = .ok (.aload_n 0, 1) := by decide +kernel
theorem dL_law_2175 : decode cL_law 2175 = .ok (.iload_n 3, 1) := by decide +kernel
theorem dL_law_2176 : decode cL_law 2176 = .ok (.iconst 4, 1) := by decide +kernel
theorem dL_law_2177 : decode cL_law 2177 = .ok (.iadd, 1) := by decide +kernel
theorem dL_law_2178 : decode cL_law 2178 = .ok (.iaload, 1) := by decide +kernel
theorem dL_law_2179 : decode cL_law 2179 = .ok (.invokevirtual 277, 3) := by decide +kernel
theorem dL_law_2182 : decode cL_law 2182 = .ok (.pop, 1) := by decide +kernel
theorem dL_law_2183 : decode cL_law 2183 = .ok (.aload_n 2, 1) := by decide +kernel
theorem dL_law_2184 : decode cL_law 2184 = .ok (.aload_n 0, 1) := by decide +kernel
theorem dL_law_2185 : decode cL_law 2185 = .ok (.iload_n 3, 1) := by decide +kernel
theorem dL_law_2186 : decode cL_law 2186 = .ok (.iconst 1, 1) := by decide +kernel
theorem dL_law_2187 : decode cL_law 2187 = .ok (.iadd, 1) := by decide +kernel
theorem dL_law_2188 : decode cL_law 2188 = .ok (.iaload, 1) := by decide +kernel
theorem dL_law_2189 : decode cL_law 2189 = .ok (.aload_n 0, 1) := by decide +kernel
theorem dL_law_2190 : decode cL_law 2190 = .ok (.iload_n 3, 1) := by decide +kernel
theorem dL_law_2191 : decode cL_law 2191 = .ok (.iconst 2, 1) := by decide +kernel
theorem dL_law_2192 : decode cL_law 2192 = .ok (.iadd, 1) := by decide +kernel
theorem dL_law_2193 : decode cL_law 2193 = .ok (.iaload, 1) := by decide +kernel
theorem dL_law_2194 : decode cL_law 2194 = .ok (.aload_n 0, 1) := by decide +kernel
theorem dL_law_2195 : decode cL_law 2195 = .ok (.iload_n 3, 1) := by decide +kernel
theorem dL_law_2196 : decode cL_law 2196 = .ok (.iconst 3, 1) := by decide +kernel
theorem dL_law_2197 : decode cL_law 2197 = .ok (.iadd, 1) := by decide +kernel
theorem dL_law_2198 : decode cL_law 2198 = .ok (.iaload, 1) := by decide +kernel
theorem dL_law_2199 : decode cL_law 2199 = .ok (.aload_n 0, 1) := by decide +kernel
theorem dL_law_2200 : decode cL_law 2200 = .ok (.iload_n 3, 1) := by decide +kernel
theorem dL_law_2201 : decode cL_law 2201 = .ok (.iconst 4, 1) := by decide +kernel
theorem dL_law_2202 : decode cL_law 2202 = .ok (.iadd, 1) := by decide +kernel
theorem dL_law_2203 : decode cL_law 2203 = .ok (.iaload, 1) := by decide +kernel
theorem dL_law_2204 : decode cL_law 2204 = .ok (.invokevirtual 280, 3) := by decide +kernel
theorem dL_law_2207 : decode cL_law 2207 = .ok (.pop, 1) := by decide +kernel
theorem dL_law_2208 : decode cL_law 2208 = .ok (.goto 284, 3) := by decide +kernel
theorem dL_law_2211 : decode cL_law 2211 = .ok (.aload_n 1, 1) := by decide +kernel
theorem dL_law_2212 : decode cL_law 2212 = .ok (.aload_n 0, 1) := by decide +kernel
theorem dL_law_2213 : decode cL_law 2213 = .ok (.iload_n 3, 1) := by decide +kernel
theorem dL_law_2214 : decode cL_law 2214 = .ok (.iconst 1, 1) := by decide +kernel
theorem dL_law_2215 : decode cL_law 2215 = .ok (.iadd, 1) := by decide +kernel
theorem dL_law_2216 : decode cL_law 2216 = .ok (.iaload, 1) := by decide +kernel
theorem dL_law_2217 : decode cL_law 2217 = .ok (.aload_n 0, 1) := by decide +kernel
theorem dL_law_2218 : decode cL_law 2218 = .ok (.iload_n 3, 1) := by decide +kernel
theorem dL_law_2219 : decode cL_law 2219 = .ok (.iconst 2, 1) := by decide +kernel
theorem dL_law_2220 : decode cL_law 2220 = .ok (.iadd, 1) := by decide +kernel
theorem dL_law_2221 : decode cL_law 2221 = .ok (.iaload, 1) := by decide +kernel
theorem dL_law_2222 : decode cL_law 2222 = .ok (.invokevirtual 281, 3) := by decide +kernel
theorem dL_law_2225 : decode cL_law 2225 = .ok (.pop, 1) := by decide +kernel
theorem dL_law_2226 : decode cL_law 2226 = .ok (.aload_n 2, 1) := by decide +kernel
theorem dL_law_2227 : decode cL_law 2227 = .ok (.aload_n 0, 1) := by decide +kernel
theorem dL_law_2228 : decode cL_law 2228 = .ok (.iload_n 3, 1) := by decide +kernel
theorem dL_law_2229 : decode cL_law 2229 = .ok (.iconst 1, 1) := by decide +kernel
theorem dL_law_2230 : decode cL_law 2230 = .ok (.iadd, 1) := by decide +kernel
theorem dL_law_2231 : decode cL_law 2231 = .ok (.iaload, 1) := by decide +kernel
theorem dL_law_2232 : decode cL_law 2232 = .ok (.aload_n 0, 1) := by decide +kernel
theorem dL_law_2233 : decode cL_law 2233 = .ok (.iload_n 3, 1) := by decide +kernel
theorem dL_law_2234 : decode cL_law 2234 = .ok (.iconst 2, 1) := by decide +kernel
theorem dL_law_2235 : decode cL_law 2235 = .ok (.iadd, 1) := by decide +kernel
theorem dL_law_2236 : decode cL_law 2236 = .ok (.iaload, 1) := by decide +kernel
theorem dL_law_2237 : decode cL_law 2237 = .ok (.invokevirtual 284, 3) := by decide +kernel
theorem dL_law_2240 : decode cL_law 2240 = .ok (.pop, 1) := by decide +kernel
theorem dL_law_2241 : decode cL_law 2241 = .ok (.goto 251, 3) := by decide +kernel
theorem dL_law_2244 : decode cL_law 2244 = .ok (.aload_n 1, 1) := by decide +kernel
theorem dL_law_2245 : decode cL_law 2245 = .ok (.aload_n 0, 1) := by decide +kernel
theorem dL_law_2246 : decode cL_law 2246 = .ok (.iload_n 3, 1) := by decide +kernel
theorem dL_law_2247 : decode cL_law 2247 = .ok (.iconst 1, 1) := by decide +kernel
theorem dL_law_2248 : decode cL_law 2248 = .ok (.iadd, 1) := by decide +kernel
theorem dL_law_2249 : decode cL_law 2249 = .ok (.iaload, 1) := by decide +kernel
theorem dL_law_2250 : decode cL_law 2250 = .ok (.invokevirtual 285, 3) := by decide +kernel
theorem dL_law_2253 : decode cL_law 2253 = .ok (.pop, 1) := by decide +kernel
theorem dL_law_2254 : decode cL_law 2254 = .ok (.aload_n 2, 1) := by decide +kernel
theorem dL_law_2255 : decode cL_law 2255 = .ok (.aload_n 0, 1) := by decide +kernel
theorem dL_law_2256 : decode cL_law 2256 = .ok (.iload_n 3, 1) := by decide +kernel
theorem dL_law_2257 : decode cL_law 2257 = .ok (.iconst 1, 1) := by decide +kernel
theorem dL_law_2258 : decode cL_law 2258 = .ok (.iadd, 1) := by decide +kernel
theorem dL_law_2259 : decode cL_law 2259 = .ok (.iaload, 1) := by decide +kernel
theorem dL_law_2260 : decode cL_law 2260 = .ok (.invokevirtual 288, 3) := by decide +kernel
theorem dL_law_2263 : decode cL_law 2263 = .ok (.pop, 1) := by decide +kernel
theorem dL_law_2264 : decode cL_law 2264 = .ok (.goto 228, 3) := by decide +kernel
theorem dL_law_2267 : decode cL_law 2267 = .ok (.aload_n 1, 1) := by decide +kernel
theorem dL_law_2268 : decode cL_law 2268 = .ok (.aload_n 0, 1) := by decide +kernel
theorem dL_law_2269 : decode cL_law 2269 = .ok (.iload_n 3, 1) := by decide +kernel
theorem dL_law_2270 : decode cL_law 2270 = .ok (.iconst 1, 1) := by decide +kernel
theorem dL_law_2271 : decode cL_law 2271 = .ok (.iadd, 1) := by decide +kernel
theorem dL_law_2272 : decode cL_law 2272 = .ok (.iaload, 1) := by decide +kernel
theorem dL_law_2273 : decode cL_law 2273 = .ok (.invokevirtual 289, 3) := by decide +kernel
theorem dL_law_2276 : decode cL_law 2276 = .ok (.pop, 1) := by decide +kernel
theorem dL_law_2277 : decode cL_law 2277 = .ok (.aload_n 2, 1) := by decide +kernel
theorem dL_law_2278 : decode cL_law 2278 = .ok (.aload_n 0, 1) := by decide +kernel
theorem dL_law_2279 : decode cL_law 2279 = .ok (.iload_n 3, 1) := by decide +kernel
theorem dL_law_2280 : decode cL_law 2280 = .ok (.iconst 1, 1) := by decide +kernel
theorem dL_law_2281 : decode cL_law 2281 = .ok (.iadd, 1) := by decide +kernel
theorem dL_law_2282 : decode cL_law 2282 = .ok (.iaload, 1) := by decide +kernel
theorem dL_law_2283 : decode cL_law 2283 = .ok (.invokevirtual 292, 3) := by decide +kernel
theorem dL_law_2286 : decode cL_law 2286 = .ok (.pop, 1) := by decide +kernel
theorem dL_law_2287 : decode cL_law 2287 = .ok (.goto 205, 3) := by decide +kernel
theorem dL_law_2290 : decode cL_law 2290 = .ok (.aload_n 1, 1) := by decide +kernel
theorem dL_law_2291 : decode cL_law 2291 = .ok (.aload_n 0, 1) := by decide +kernel
theorem dL_law_2292 : decode cL_law 2292 = .ok (.iload_n 3, 1) := by decide +kernel
theorem dL_law_2293 : decode cL_law 2293 = .ok (.iconst 1, 1) := by decide +kernel
theorem dL_law_2294 : decode cL_law 2294 = .ok (.iadd, 1) := by decide +kernel
theorem dL_law_2295 : decode cL_law 2295 = .ok (.iaload, 1) := by decide +kernel
theorem dL_law_2296 : decode cL_law 2296 = .ok (.invokevirtual 293, 3) := by decide +kernel
theorem dL_law_2299 : decode cL_law 2299 = .ok (.pop, 1) := by decide +kernel
theorem dL_law_2300 : decode cL_law 2300 = .ok (.aload_n 2, 1) := by decide +kernel
theorem dL_law_2301 : decode cL_law 2301 = .ok (.aload_n 0, 1) := by decide +kernel
theorem dL_law_2302 : decode cL_law 2302 = .ok (.iload_n 3, 1) := by decide +kernel
theorem dL_law_2303 : decode cL_law 2303 = .ok (.iconst 1, 1) := by decide +kernel
theorem dL_law_2304 : decode cL_law 2304 = .ok (.iadd, 1) := by decide +kernel
theorem dL_law_2305 : decode cL_law 2305 = .ok (.iaload, 1) := by decide +kernel
theorem dL_law_2306 : decode cL_law 2306 = .ok (.invokevirtual 296, 3) := by decide +kernel
theorem dL_law_2309 : decode cL_law 2309 = .ok (.pop, 1) := by decide +kernel
theorem dL_law_2310 : decode cL_law 2310 = .ok (.goto 182, 3) := by decide +kernel
theorem dL_law_2313 : decode cL_law 2313 = .ok (.aload_n 1, 1) := by decide +kernel
theorem dL_law_2314 : decode cL_law 2314 = .ok (.aload_n 0, 1) := by decide +kernel
theorem dL_law_2315 : decode cL_law 2315 = .ok (.iload_n 3, 1) := by decide +kernel
theorem dL_law_2316 : decode cL_law 2316 = .ok (.iconst 1, 1) := by decide +kernel
theorem dL_law_2317 : decode cL_law 2317 = .ok (.iadd, 1) := by decide +kernel
theorem dL_law_2318 : decode cL_law 2318 = .ok (.iaload, 1) := by decide +kernel
theorem dL_law_2319 : decode cL_law 2319 = .ok (.aload_n 0, 1) := by decide +kernel
theorem dL_law_2320 : decode cL_law 2320 = .ok (.iload_n 3, 1) := by decide +kernel
theorem dL_law_2321 : decode cL_law 2321 = .ok (.iconst 2, 1) := by decide +kernel
theorem dL_law_2322 : decode cL_law 2322 = .ok (.iadd, 1) := by decide +kernel
theorem dL_law_2323 : decode cL_law 2323 = .ok (.iaload, 1) := by decide +kernel
theorem dL_law_2324 : decode cL_law 2324 = .ok (.aload_n 0, 1) := by decide +kernel
theorem dL_law_2325 : decode cL_law 2325 = .ok (.iload_n 3, 1) := by decide +kernel
theorem dL_law_2326 : decode cL_law 2326 = .ok (.iconst 3, 1) := by decide +kernel
theorem dL_law_2327 : decode cL_law 2327 = .ok (.iadd, 1) := by decide +kernel
theorem dL_law_2328 : decode cL_law 2328 = .ok (.iaload, 1) := by decide +kernel
theorem dL_law_2329 : decode cL_law 2329 = .ok (.invokevirtual 297, 3) := by decide +kernel
theorem dL_law_2332 : decode cL_law 2332 = .ok (.pop, 1) := by decide +kernel
theorem dL_law_2333 : decode cL_law 2333 = .ok (.aload_n 2, 1) := by decide +kernel
theorem dL_law_2334 : decode cL_law 2334 = .ok (.aload_n 0, 1) := by decide +kernel
theorem dL_law_2335 : decode cL_law 2335 = .ok (.iload_n 3, 1) := by decide +kernel
theorem dL_law_2336 : decode cL_law 2336 = .ok (.iconst 1, 1) := by decide +kernel
theorem dL_law_2337 : decode cL_law 2337 = .ok (.iadd, 1) := by decide +kernel
theorem dL_law_2338 : decode cL_law 2338 = .ok (.iaload, 1) := by decide +kernel
theorem dL_law_2339 : decode cL_law 2339 = .ok (.aload_n 0, 1) := by decide +kernel
theorem dL_law_2340 : decode cL_law 2340 = .ok (.iload_n 3, 1) := by decide +kernel
theorem dL_law_2341 : decode cL_law 2341 = .ok (.iconst 2, 1) := by decide +kernel
theorem dL_law_2342 : decode cL_law 2342 = .ok (.iadd, 1) := by decide +kernel
theorem dL_law_2343 : decode cL_law 2343 = .ok (.iaload, 1) := by decide +kernel
theorem dL_law_2344 : decode cL_law 2344 = .ok (.aload_n 0, 1) := by decide +kernel
theorem dL_law_2345 : decode cL_law 2345 = .ok (.iload_n 3, 1) := by decide +kernel
theorem dL_law_2346 : decode cL_law 2346 = .ok (.iconst 3, 1) := by decide +kernel
theorem dL_law_2347 : decode cL_law 2347 = .ok (.iadd, 1) := by decide +kernel
theorem dL_law_2348 : decode cL_law 2348 = .ok (.iaload, 1) := by decide +kernel
theorem dL_law_2349 : decode cL_law 2349 = .ok (.invokevirtual 300, 3) := by decide +kernel
theorem dL_law_2352 : decode cL_law 2352 = .ok (.pop, 1) := by decide +kernel
theorem dL_law_2353 : decode cL_law 2353 = .ok (.goto 139, 3) := by decide +kernel
theorem dL_law_2356 : decode cL_law 2356 = .ok (.aload_n 1, 1) := by decide +kernel
theorem dL_law_2357 : decode cL_law 2357 = .ok (.aload_n 0, 1) := by decide +kernel
theorem dL_law_2358 : decode cL_law 2358 = .ok (.iload_n 3, 1) := by decide +kernel
theorem dL_law_2359 : decode cL_law 2359 = .ok (.iconst 1, 1) := by decide +kernel
theorem dL_law_2360 : decode cL_law 2360 = .ok (.iadd, 1) := by decide +kernel
theorem dL_law_2361 : decode cL_law 2361 = .ok (.iaload, 1) := by decide +kernel
theorem dL_law_2362 : decode cL_law 2362 = .ok (.aload_n 0, 1) := by decide +kernel
theorem dL_law_2363 : decode cL_law 2363 = .ok (.iload_n 3, 1) := by decide +kernel
theorem dL_law_2364 : decode cL_law 2364 = .ok (.iconst 2, 1) := by decide +kernel
theorem dL_law_2365 : decode cL_law 2365 = .ok (.iadd, 1) := by decide +kernel
theorem dL_law_2366 : decode cL_law 2366 = .ok (.iaload, 1) := by decide +kernel
theorem dL_law_2367 : decode cL_law 2367 = .ok (.aload_n 0, 1) := by decide +kernel
theorem dL_law_2368 : decode cL_law 2368 = .ok (.iload_n 3, 1) := by decide +kernel
theorem dL_law_2369 : decode cL_law 2369 = .ok (.iconst 3, 1) := by decide +kernel
theorem dL_law_2370 : decode cL_law 2370 = .ok (.iadd, 1) := by decide +kernel
theorem dL_law_2371 : decode cL_law 2371 = .ok (.iaload, 1) := by decide +kernel
theorem dL_law_2372 : decode cL_law 2372 = .ok (.i2l, 1) := by decide +kernel
theorem dL_law_2373 : decode cL_law 2373 = .ok (.bipush 32, 2) := by decide +kernel
theorem dL_law_2375 : decode cL_law 2375 = .ok (.lshl, 1) := by decide +kernel
theorem dL_law_2376 : decode cL_law 2376 = .ok (.aload_n 0, 1) := by decide +kernel
theorem dL_law_2377 : decode cL_law 2377 = .ok (.iload_n 3, 1) := by decide +kernel
theorem dL_law_2378 : decode cL_law 2378 = .ok (.iconst 4, 1) := by decide +kernel
theorem dL_law_2379 : decode cL_law 2379 = .ok (.iadd, 1) := by decide +kernel
theorem dL_law_2380 : decode cL_law 2380 = .ok (.iaload, 1) := by decide +kernel
theorem dL_law_2381 : decode cL_law 2381 = .ok (.i2l, 1) := by decide +kernel
theorem dL_law_2382 : decode cL_law 2382 = .ok (.ldc2_w 301, 3) := by decide +kernel
theorem dL_law_2385 : decode cL_law 2385 = .ok (.land, 1) := by decide +kernel
theorem dL_law_2386 : decode cL_law 2386 = .ok (.lor, 1) := by decide +kernel
theorem dL_law_2387 : decode cL_law 2387 = .ok (.invokevirtual 303, 3) := by decide +kernel
theorem dL_law_2390 : decode cL_law 2390 = .ok (.aload_n 2, 1) := by decide +kernel
theorem dL_law_2391 : decode cL_law 2391 = .ok (.aload_n 0, 1) := by decide +kernel
theorem dL_law_2392 : decode cL_law 2392 = .ok (.iload_n 3, 1) := by decide +kernel
theorem dL_law_2393 : decode cL_law 2393 = .ok (.iconst 1, 1) := by decide +kernel
theorem dL_law_2394 : decode cL_law 2394 = .ok (.iadd, 1) := by decide +kernel
theorem dL_law_2395 : decode cL_law 2395 = .ok (.iaload, 1) := by decide +kernel
theorem dL_law_2396 : decode cL_law 2396 = .ok (.aload_n 0, 1) := by decide +kernel
theorem dL_law_2397 : decode cL_law 2397 = .ok (.iload_n 3, 1) := by decide +kernel
theorem dL_law_2398 : decode cL_law 2398 = .ok (.iconst 2, 1) := by decide +kernel
theorem dL_law_2399 : decode cL_law 2399 = .ok (.iadd, 1) := by decide +kernel
theorem dL_law_2400 : decode cL_law 2400 = .ok (.iaload, 1) := by decide +kernel
theorem dL_law_2401 : decode cL_law 2401 = .ok (.aload_n 0, 1) := by decide +kernel
theorem dL_law_2402 : decode cL_law 2402 = .ok (.iload_n 3, 1) := by decide +kernel
theorem dL_law_2403 : decode cL_law 2403 = .ok (.iconst 3, 1) := by decide +kernel
theorem dL_law_2404 : decode cL_law 2404 = .ok (.iadd, 1) := by decide +kernel
theorem dL_law_2405 : decode cL_law 2405 = .ok (.iaload, 1) := by decide +kernel
theorem dL_law_2406 : decode cL_law 2406 = .ok (.i2l, 1) := by decide +kernel
theorem dL_law_2407 : decode cL_law 2407 = .ok (.bipush 32, 2) := by decide +kernel
theorem dL_law_2409 : decode cL_law 2409 = .ok (.lshl, 1) := by decide +kernel
theorem dL_law_2410 : decode cL_law 2410 = .ok (.aload_n 0, 1) := by decide +kernel
theorem dL_law_2411 : decode cL_law 2411 = .ok (.iload_n 3, 1) := by decide +kernel
theorem dL_law_2412 : decode cL_law 2412 = .ok (.iconst 4, 1) := by decide +kernel
theorem dL_law_2413 : decode cL_law 2413 = .ok (.iadd, 1) := by decide +kernel
theorem dL_law_2414 : decode cL_law 2414 = .ok (.iaload, 1) := by decide +kernel
theorem dL_law_2415 : decode cL_law 2415 = .ok (.i2l, 1) := by decide +kernel
theorem dL_law_2416 : decode cL_law 2416 = .ok (.ldc2_w 301, 3) := by decide +kernel
theorem dL_law_2419 : decode cL_law 2419 = .ok (.land, 1) := by decide +kernel
theorem dL_law_2420 : decode cL_law 2420 = .ok (.lor, 1) := by decide +kernel
theorem dL_law_2421 : decode cL_law 2421 = .ok (.invokevirtual 307, 3) := by decide +kernel
theorem dL_law_2424 : decode cL_law 2424 = .ok (.if_icmp .eq 68, 3) := by decide +kernel
theorem dL_law_2429 : decode cL_law 2429 = .ok (.aload_n 1, 1) := by decide +kernel
theorem dL_law_2430 : decode cL_law 2430 = .ok (.aload_n 0, 1) := by decide +kernel
theorem dL_law_2431 : decode cL_law 2431 = .ok (.iload_n 3, 1) := by decide +kernel
theorem dL_law_2432 : decode cL_law 2432 = .ok (.iconst 1, 1) := by decide +kernel
theorem dL_law_2433 : decode cL_law 2433 = .ok (.iadd, 1) := by decide +kernel
theorem dL_law_2434 : decode cL_law 2434 = .ok (.iaload, 1) := by decide +kernel
theorem dL_law_2435 : decode cL_law 2435 = .ok (.aload_n 0, 1) := by decide +kernel
theorem dL_law_2436 : decode cL_law 2436 = .ok (.iload_n 3, 1) := by decide +kernel
theorem dL_law_2437 : decode cL_law 2437 = .ok (.iconst 2, 1) := by decide +kernel
theorem dL_law_2438 : decode cL_law 2438 = .ok (.iadd, 1) := by decide +kernel
theorem dL_law_2439 : decode cL_law 2439 = .ok (.iaload, 1) := by decide +kernel
theorem dL_law_2440 : decode cL_law 2440 = .ok (.aload_n 0, 1) := by decide +kernel
theorem dL_law_2441 : decode cL_law 2441 = .ok (.iload_n 3, 1) := by decide +kernel
theorem dL_law_2442 : decode cL_law 2442 = .ok (.iconst 3, 1) := by decide +kernel
theorem dL_law_2443 : decode cL_law 2443 = .ok (.iadd, 1) := by decide +kernel
theorem dL_law_2444 : decode cL_law 2444 = .ok (.iaload, 1) := by decide +kernel
theorem dL_law_2445 : decode cL_law 2445 = .ok (.aload_n 0, 1) := by decide +kernel
theorem dL_law_2446 : decode cL_law 2446 = .ok (.iload_n 3, 1) := by decide +kernel
theorem dL_law_2447 : decode cL_law 2447 = .ok (.iconst 4, 1) := by decide +kernel
theorem dL_law_2448 : decode cL_law 2448 = .ok (.iadd, 1) := by decide +kernel
theorem dL_law_2449 : decode cL_law 2449 = .ok (.iaload, 1) := by decide +kernel
theorem dL_law_2450 : decode cL_law 2450 = .ok (.aload_n 0, 1) := by decide +kernel
theorem dL_law_2451 : decode cL_law 2451 = .ok (.iload_n 3, 1) := by decide +kernel
theorem dL_law_2452 : decode cL_law 2452 = .ok (.iconst 5, 1) := by decide +kernel
theorem dL_law_2453 : decode cL_law 2453 = .ok (.iadd, 1) := by decide +kernel
theorem dL_law_2454 : decode cL_law 2454 = .ok (.iaload, 1) := by decide +kernel
theorem dL_law_2455 : decode cL_law 2455 = .ok (.invokevirtual 308, 3) := by decide +kernel
theorem dL_law_2458 : decode cL_law 2458 = .ok (.pop, 1) := by decide +kernel
theorem dL_law_2459 : decode cL_law 2459 = .ok (.aload_n 2, 1) := by decide +kernel
theorem dL_law_2460 : decode cL_law 2460 = .ok (.aload_n 0, 1) := by decide +kernel
theorem dL_law_2461 : decode cL_law 2461 = .ok (.iload_n 3, 1) := by decide +kernel
theorem dL_law_2462 : decode cL_law 2462 = .ok (.iconst 1, 1) := by decide +kernel
theorem dL_law_2463 : decode cL_law 2463 = .ok (.iadd, 1) := by decide +kernel
theorem dL_law_2464 : decode cL_law 2464 = .ok (.iaload, 1) := by decide +kernel
theorem dL_law_2465 : decode cL_law 2465 = .ok (.aload_n 0, 1) := by decide +kernel
theorem dL_law_2466 : decode cL_law 2466 = .ok (.iload_n 3, 1) := by decide +kernel
theorem dL_law_2467 : decode cL_law 2467 = .ok (.iconst 2, 1) := by decide +kernel
theorem dL_law_2468 : decode cL_law 2468 = .ok (.iadd, 1) := by decide +kernel
theorem dL_law_2469 : decode cL_law 2469 = .ok (.iaload, 1) := by decide +kernel
theorem dL_law_2470 : decode cL_law 2470 = .ok (.aload_n 0, 1) := by decide +kernel
theorem dL_law_2471 : decode cL_law 2471 = .ok (.iload_n 3, 1) := by decide +kernel
theorem dL_law_2472 : decode cL_law 2472 = .ok (.iconst 3, 1) := by decide +kernel
theorem dL_law_2473 : decode cL_law 2473 = .ok (.iadd, 1) := by decide +kernel
theorem dL_law_2474 : decode cL_law 2474 = .ok (.iaload, 1) := by decide +kernel
theorem dL_law_2475 : decode cL_law 2475 = .ok (.aload_n 0, 1) := by decide +kernel
theorem dL_law_2476 : decode cL_law 2476 = .ok (.iload_n 3, 1) := by decide +kernel
theorem dL_law_2477 : decode cL_law 2477 = .ok (.iconst 4, 1) := by decide +kernel
theorem dL_law_2478 : decode cL_law 2478 = .ok (.iadd, 1) := by decide +kernel
theorem dL_law_2479 : decode cL_law 2479 = .ok (.iaload, 1) := by decide +kernel
theorem dL_law_2480 : decode cL_law 2480 = .ok (.aload_n 0, 1) := by decide +kernel
theorem dL_law_2481 : decode cL_law 2481 = .ok (.iload_n 3, 1) := by decide +kernel
theorem dL_law_2482 : decode cL_law 2482 = .ok (.iconst 5, 1) := by decide +kernel
theorem dL_law_2483 : decode cL_law 2483 = .ok (.iadd, 1) := by decide +kernel
theorem dL_law_2484 : decode cL_law 2484 = .ok (.iaload, 1) := by decide +kernel
theorem dL_law_2485 : decode cL_law 2485 = .ok (.invokevirtual 311, 3) := by decide +kernel
theorem dL_law_2488 : decode cL_law 2488 = .ok (.pop, 1) := by decide +kernel
theorem dL_law_2489 : decode cL_law 2489 = .ok (.goto 3, 3) := by decide +kernel
theorem dL_law_33 : decode cL_law 33 = .ok (.tableswitch 2459 0 71 #[303, 366, 389, 402, 425, 458, 491, 524, 567, 600, 633, 666, 699, 722, 745, 778, 811, 834, 847, 860, 883, 926, 949, 972, 995, 1018, 1041, 1064, 1097, 1110, 1133, 1146, 1179, 1212, 1245, 1268, 1281, 1304, 1327, 1360, 1403, 1456, 1489, 1522, 1565, 1588, 1611, 1634, 1657, 1680, 1703, 1726, 1759, 1772, 1785, 1798, 1831, 1884, 1937, 1980, 2023, 2056, 2069, 2082, 2125, 2178, 2211, 2234, 2257, 2280, 2323, 2396], 303) := by decide +kernel
theorem dL_law_18 : decode cL_law 18 = .ok (.iload_n 3, 1) := by decide +kernel
theorem dL_law_19 : decode cL_law 19 = .ok (.aload_n 0, 1) := by decide +kernel
theorem dL_law_20 : decode cL_law 20 = .ok (.arraylength, 1) := by decide +kernel
theorem dL_law_21 : decode cL_law 21 = .ok (.bipush 6, 2) := by decide +kernel
theorem dL_law_23 : decode cL_law 23 = .ok (.isub, 1) := by decide +kernel
theorem dL_law_24 : decode cL_law 24 = .ok (.if_icmp .gt 2474, 3) := by decide +kernel
theorem dL_law_2498 : decode cL_law 2498 = .ok (.iconst 1, 1) := by decide +kernel
theorem dL_law_2499 : decode cL_law 2499 = .ok (.ireturn, 1) := by decide +kernel
theorem dL_law_27 : decode cL_law 27 = .ok (.aload_n 0, 1) := by decide +kernel
theorem dL_law_28 : decode cL_law 28 = .ok (.iload_n 3, 1) := by decide +kernel
theorem dL_law_29 : decode cL_law 29 = .ok (.iaload, 1) := by decide +kernel
theorem dL_law_30 : decode cL_law 30 = .ok (.bipush 127, 2) := by decide +kernel
theorem dL_law_32 : decode cL_law 32 = .ok (.iand, 1) := by decide +kernel
theorem dL_law_2492 : decode cL_law 2492 = .ok (.iinc 3 6, 3) := by decide +kernel
theorem dL_law_2495 : decode cL_law 2495 = .ok (.goto (-2477), 3) := by decide +kernel
theorem dL_law_0 : decode cL_law 0 = .ok (.new 7, 3) := by decide +kernel
theorem dL_law_3 : decode cL_law 3 = .ok (.dup, 1) := by decide +kernel
theorem dL_law_4 : decode cL_law 4 = .ok (.invokespecial 9, 3) := by decide +kernel
theorem dL_law_7 : decode cL_law 7 = .ok (.astore_n 1, 1) := by decide +kernel
theorem dL_law_8 : decode cL_law 8 = .ok (.new 10, 3) := by decide +kernel
theorem dL_law_11 : decode cL_law 11 = .ok (.dup, 1) := by decide +kernel
theorem dL_law_12 : decode cL_law 12 = .ok (.invokespecial 12, 3) := by decide +kernel
theorem dL_law_15 : decode cL_law 15 = .ok (.astore_n 2, 1) := by decide +kernel
theorem dL_law_16 : decode cL_law 16 = .ok (.iconst 0, 1) := by decide +kernel
theorem dL_law_17 : decode cL_law 17 = .ok (.istore_n 3, 1) := by decide +kernel
