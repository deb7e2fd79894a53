theorem dL_law_1486 : decode cL_law 1486 = .ok (.iaload, 1) := by decide +kernel
theorem dL_law_1487 : decode cL_law 1487 = .ok (.aload_n 0, 1) := by decide +kernel
theorem dL_law_1488 : decode cL_law 1488 = .ok (.iload_n 3, 1) := by decide +kernel
theorem dL_law_1489 : decode cL_law 1489 = .ok (.iconst 2, 1) := by decide +kernel
theorem dL_law_1490 : decode cL_law 1490 = .ok (.iadd, 1) := by decide +kernel
theorem dL_law_1491 : decode cL_law 1491 = .ok (.iaload, 1) := by decide +kernel
theorem dL_law_1492 : decode cL_law 1492 = .ok (.aload_n 0, 1) := by decide +kernel
theorem dL_law_1493 : decode cL_law 1493 = .ok (.iload_n 3, 1) := by decide +kernel
theorem dL_law_1494 : decode cL_law 1494 = .ok (.iconst 3, 1) := by decide +kernel
theorem dL_law_1495 : decode cL_law 1495 = .ok (.iadd, 1) := by decide +kernel
theorem dL_law_1496 : decode cL_law 1496 = .ok (.iaload, 1) := by decide +kernel
theorem dL_law_1497 : decode cL_law 1497 = .ok (.invokevirtual 201, 3) := by decide +kernel
theorem dL_law_1500 : decode cL_law 1500 = .ok (.pop, 1) := by decide +kernel
theorem dL_law_1501 : decode cL_law 1501 = .ok (.goto 861, 3) := by decide +kernel
theorem dL_law_1504 : decode cL_law 1504 = .ok (.aload_n 1, 1) := by decide +kernel
theorem dL_law_1505 : decode cL_law 1505 = .ok (.aload_n 0, 1) := by decide +kernel
theorem dL_law_1506 : decode cL_law 1506 = .ok (.iload_n 3, 1) := by decide +kernel
theorem dL_law_1507 : decode cL_law 1507 = .ok (.iconst 1, 1) := by decide +kernel
theorem dL_law_1508 : decode cL_law 1508 = .ok (.iadd, 1) := by decide +kernel
theorem dL_law_1509 : decode cL_law 1509 = .ok (.iaload, 1) := by decide +kernel
theorem dL_law_1510 : decode cL_law 1510 = .ok (.aload_n 0, 1) := by decide +kernel
theorem dL_law_1511 : decode cL_law 1511 = .ok (.iload_n 3, 1) := by decide +kernel
theorem dL_law_1512 : decode cL_law 1512 = .ok (.iconst 2, 1) := by decide +kernel
theorem dL_law_1513 : decode cL_law 1513 = .ok (.iadd, 1) := by decide +kernel
theorem dL_law_1514 : decode cL_law 1514 = .ok (.iaload, 1) := by decide +kernel
theorem dL_law_1515 : decode cL_law 1515 = .ok (.aload_n 0, 1) := by decide +kernel
theorem dL_law_1516 : decode cL_law 1516 = .ok (.iload_n 3, 1) := by decide +kernel
theorem dL_law_1517 : decode cL_law 1517 = .ok (.iconst 3, 1) := by decide +kernel
theorem dL_law_1518 : decode cL_law 1518 = .ok (.iadd, 1) := by decide +kernel
theorem dL_law_1519 : decode cL_law 1519 = .ok (.iaload, 1) := by decide +kernel
theorem dL_law_1520 : decode cL_law 1520 = .ok (.invokevirtual 202, 3) := by decide +kernel
theorem dL_law_1523 : decode cL_law 1523 = .ok (.pop, 1) := by decide +kernel
theorem dL_law_1524 : decode cL_law 1524 = .ok (.aload_n 2, 1) := by decide +kernel
theorem dL_law_1525 : decode cL_law 1525 = .ok (.aload_n 0, 1) := by decide +kernel
theorem dL_law_1526 : decode cL_law 1526 = .ok (.iload_n 3, 1) := by decide +kernel
theorem dL_law_1527 : decode cL_law 1527 = .ok (.iconst 1, 1) := by decide +kernel
theorem dL_law_1528 : decode cL_law 1528 = .ok (.iadd, 1) := by decide +kernel
theorem dL_law_1529 : decode cL_law 1529 = .ok (.iaload, 1) := by decide +kernel
theorem dL_law_1530 : decode cL_law 1530 = .ok (.aload_n 0, 1) := by decide +kernel
theorem dL_law_1531 : decode cL_law 1531 = .ok (.iload_n 3, 1) := by decide +kernel
theorem dL_law_1532 : decode cL_law 1532 = .ok (.iconst 2, 1) := by decide +kernel
theorem dL_law_1533 : decode cL_law 1533 = .ok (.iadd, 1) := by decide +kernel
theorem dL_law_1534 : decode cL_law 1534 = .ok (.iaload, 1) := by decide +kernel
theorem dL_law_1535 : decode cL_law 1535 = .ok (.aload_n 0, 1) := by decide +kernel
theorem dL_law_1536 : decode cL_law 1536 = .ok (.iload_n 3, 1) := by decide +kernel
theorem dL_law_1537 : decode cL_law 1537 = .ok (.iconst 3, 1) := by decide +kernel
theorem dL_law_1538 : decode cL_law 1538 = .ok (.iadd, 1) := by decide +kernel
theorem dL_law_1539 : decode cL_law 1539 = .ok (.iaload, 1) := by decide +kernel
theorem dL_law_1540 : decode cL_law 1540 = .ok (.invokevirtual 205, 3) := by decide +kernel
theorem dL_law_1543 : decode cL_law 1543 = .ok (.pop, 1) := by decide +kernel
theorem dL_law_1544 : decode cL_law 1544 = .ok (.goto 818, 3) := by decide +kernel
theorem dL_law_1547 : decode cL_law 1547 = .ok (.aload_n 1, 1) := by decide +kernel
theorem dL_law_1548 : decode cL_law 1548 = .ok (.aload_n 0, 1) := by decide +kernel
theorem dL_law_1549 : decode cL_law 1549 = .ok (.iload_n 3, 1) := by decide +kernel
theorem dL_law_1550 : decode cL_law 1550 = .ok (.iconst 1, 1) := by decide +kernel
theorem dL_law_1551 : decode cL_law 1551 = .ok (.iadd, 1) := by decide +kernel
theorem dL_law_1552 : decode cL_law 1552 = .ok (.iaload, 1) := by decide +kernel
theorem dL_law_1553 : decode cL_law 1553 = .ok (.aload_n 0, 1) := by decide +kernel
theorem dL_law_1554 : decode cL_law 1554 = .ok (.iload_n 3, 1) := by decide +kernel
theorem dL_law_1555 : decode cL_law 1555 = .ok (.iconst 2, 1) := by decide +kernel
theorem dL_law_1556 : decode cL_law 1556 = .ok (.iadd, 1) := by decide +kernel
theorem dL_law_1557 : decode cL_law 1557 = .ok (.iaload, 1) := by decide +kernel
theorem dL_law_1558 : decode cL_law 1558 = .ok (.aload_n 0, 1) := by decide +kernel
theorem dL_law_1559 : decode cL_law 1559 = .ok (.iload_n 3, 1) := by decide +kernel
theorem dL_law_1560 : decode cL_law 1560 = .ok (.iconst 3, 1) := by decide +kernel
theorem dL_law_1561 : decode cL_law 1561 = .ok (.iadd, 1) := by decide +kernel
theorem dL_law_1562 : decode cL_law 1562 = .ok (.iaload, 1) := by decide +kernel
theorem dL_law_1563 : decode cL_law 1563 = .ok (.invokevirtual 206, 3) := by decide +kernel
theorem dL_law_1566 : decode cL_law 1566 = .ok (.pop, 1) := by decide +kernel
theorem dL_law_1567 : decode cL_law 1567 = .ok (.aload_n 2, 1) := by decide +kernel
theorem dL_law_1568 : decode cL_law 1568 = .ok (.aload_n 0, 1) := by decide +kernel
theorem dL_law_1569 : decode cL_law 1569 = .ok (.iload_n 3, 1) := by decide +kernel
theorem dL_law_1570 : decode cL_law 1570 = .ok (.iconst 1, 1) := by decide +kernel
theorem dL_law_1571 : decode cL_law 1571 = .ok (.iadd, 1) := by decide +kernel
theorem dL_law_1572 : decode cL_law 1572 = .ok (.iaload, 1) := by decide +kernel
theorem dL_law_1573 : decode cL_law 1573 = .ok (.aload_n 0, 1) := by decide +kernel
theorem dL_law_1574 : decode cL_law 1574 = .ok (.iload_n 3, 1) := by decide +kernel
theorem dL_law_1575 : decode cL_law 1575 = .ok (.iconst 2, 1) := by decide +kernel
theorem dL_law_1576 : decode cL_law 1576 = .ok (.iadd, 1) := by decide +kernel
theorem dL_law_1577 : decode cL_law 1577 = .ok (.iaload, 1) := by decide +kernel
theorem dL_law_1578 : decode cL_law 1578 = .ok (.aload_n 0, 1) := by decide +kernel
theorem dL_law_1579 : decode cL_law 1579 = .ok (.iload_n 3, 1) := by decide +kernel
theorem dL_law_1580 : decode cL_law 1580 = .ok (.iconst 3, 1) := by decide +kernel
theorem dL_law_1581 : decode cL_law 1581 = .ok (.iadd, 1) := by decide +kernel
theorem dL_law_1582 : decode cL_law 1582 = .ok (.iaload, 1) := by decide +kernel
theorem dL_law_1583 : decode cL_law 1583 = .ok (.invokevirtual 209, 3) := by decide +kernel
theorem dL_law_1586 : decode cL_law 1586 = .ok (.pop, 1) := by decide +kernel
theorem dL_law_1587 : decode cL_law 1587 = .ok (.goto 775, 3) := by decide +kernel
theorem dL_law_1590 : decode cL_law 1590 = .ok (.aload_n 1, 1) := by decide +kernel
theorem dL_law_1591 : decode cL_law 1591 = .ok (.aload_n 0, 1) := by decide +kernel
theorem dL_law_1592 : decode cL_law 1592 = .ok (.iload_n 3, 1) := by decide +kernel
theorem dL_law_1593 : decode cL_law 1593 = .ok (.iconst 1, 1) := by decide +kernel
theorem dL_law_1594 : decode cL_law 1594 = .ok (.iadd, 1) := by decide +kernel
theorem dL_law_1595 : decode cL_law 1595 = .ok (.iaload, 1) := by decide +kernel
theorem dL_law_1596 : decode cL_law 1596 = .ok (.invokevirtual 210, 3) := by decide +kernel
theorem dL_law_1599 : decode cL_law 1599 = .ok (.pop, 1) := by decide +kernel
theorem dL_law_1600 : decode cL_law 1600 = .ok (.aload_n 2, 1) := by decide +kernel
theorem dL_law_1601 : decode cL_law 1601 = .ok (.aload_n 0, 1) := by decide +kernel
theorem dL_law_1602 : decode cL_law 1602 = .ok (.iload_n 3, 1) := by decide +kernel
theorem dL_law_1603 : decode cL_law 1603 = .ok (.iconst 1, 1) := by decide +kernel
theorem dL_law_1604 : decode cL_law 1604 = .ok (.iadd, 1) := by decide +kernel
theorem dL_law_1605 : decode cL_law 1605 = .ok (.iaload, 1) := by decide +kernel
theorem dL_law_1606 : decode cL_law 1606 = .ok (.invokevirtual 213, 3) := by decide +kernel
theorem dL_law_1609 : decode cL_law 1609 = .ok (.pop, 1) := by decide +kernel
theorem dL_law_1610 : decode cL_law 1610 = .ok (.goto 752, 3) := by decide +kernel
theorem dL_law_1613 : decode cL_law 1613 = .ok (.aload_n 1, 1) := by decide +kernel
theorem dL_law_1614 : decode cL_law 1614 = .ok (.aload_n 0, 1) := by decide +kernel
theorem dL_law_1615 : decode cL_law 1615 = .ok (.iload_n 3, 1) := by decide +kernel
theorem dL_law_1616 : decode cL_law 1616 = .ok (.iconst 1, 1) := by decide +kernel
theorem dL_law_1617 : decode cL_law 1617 = .ok (.iadd, 1) := by decide +kernel
theorem dL_law_1618 : decode cL_law 1618 = .ok (.iaload, 1) := by decide +kernel
theorem dL_law_1619 : decode cL_law 1619 = .ok (.invokevirtual 214, 3) := by decide +kernel
theorem dL_law_1622 : decode cL_law 1622 = .ok (.pop, 1) := by decide +kernel
theorem dL_law_1623 : decode cL_law 1623 = .ok (.aload_n 2, 1) := by decide +kernel
theorem dL_law_1624 : decode cL_law 1624 = .ok (.aload_n 0, 1) := by decide +kernel
theorem dL_law_1625 : decode cL_law 1625 = .ok (.iload_n 3, 1) := by decide +kernel
theorem dL_law_1626 : decode cL_law 1626 = .ok (.iconst 1, 1) := by decide +kernel
theorem dL_law_1627 : decode cL_law 1627 = .ok (.iadd, 1) := by decide +kernel
theorem dL_law_1628 : decode cL_law 1628 = .ok (.iaload, 1) := by decide +kernel
theorem dL_law_1629 : decode cL_law 1629 = .ok (.invokevirtual 217, 3) := by decide +kernel
theorem dL_law_1632 : decode cL_law 1632 = .ok (.pop, 1) := by decide +kernel
theorem dL_law_1633 : decode cL_law 1633 = .ok (.goto 729, 3) := by decide +kernel
theorem dL_law_1636 : decode cL_law 1636 = .ok (.aload_n 1, 1) := by decide +kernel
theorem dL_law_1637 : decode cL_law 1637 = .ok (.aload_n 0, 1) := by decide +kernel
theorem dL_law_1638 : decode cL_law 1638 = .ok (.iload_n 3, 1) := by decide +kernel
theorem dL_law_1639 : decode cL_law 1639 = .ok (.iconst 1, 1) := by decide +kernel
theorem dL_law_1640 : decode cL_law 1640 = .ok (.iadd, 1) := by decide +kernel
theorem dL_law_1641 : decode cL_law 1641 = .ok (.iaload, 1) := by decide +kernel
theorem dL_law_1642 : decode cL_law 1642 = .ok (.invokevirtual 218, 3) := by decide +kernel
theorem dL_law_1645 : decode cL_law 1645 = .ok (.pop, 1) := by decide +kernel
theorem dL_law_1646 : decode cL_law 1646 = .ok (.aload_n 2, 1) := by decide +kernel
theorem dL_law_1647 : decode cL_law 1647 = .ok (.aload_n 0, 1) := by decide +kernel
theorem dL_law_1648 : decode cL_law 1648 = .ok (.iload_n 3, 1) := by decide +kernel
theorem dL_law_1649 : decode cL_law 1649 = .ok (.iconst 1, 1) := by decide +kernel
theorem dL_law_1650 : decode cL_law 1650 = .ok (.iadd, 1) := by decide +kernel
theorem dL_law_1651 : decode cL_law 1651 = .ok (.iaload, 1) := by decide +kernel
theorem dL_law_1652 : decode cL_law 1652 = .ok (.invokevirtual 221, 3) := by decide +kernel
theorem dL_law_1655 : decode cL_law 1655 = .ok (.pop, 1) := by decide +kernel
theorem dL_law_1656 : decode cL_law 1656 = .ok (.goto 706, 3) := by decide +kernel
theorem dL_law_1659 : decode cL_law 1659 = .ok (.aload_n 1, 1) := by decide +kernel
theorem dL_law_1660 : decode cL_law 1660 = .ok (.aload_n 0, 1) := by decide +kernel
theorem dL_law_1661 : decode cL_law 1661 = .ok (.iload_n 3, 1) := by decide +kernel
theorem dL_law_1662 : decode cL_law 1662 = .ok (.iconst 1, 1) := by decide +kernel
theorem dL_law_1663 : decode cL_law 1663 = .ok (.iadd, 1) := by decide +kernel
theorem dL_law_1664 : decode cL_law 1664 = .ok (.iaload, 1) := by decide +kernel
theorem dL_law_1665 : decode cL_law 1665 = .ok (.invokevirtual 222, 3) := by decide +kernel
theorem dL_law_1668 : decode cL_law 1668 = .ok (.pop, 1) := by decide +kernel
theorem dL_law_1669 : decode cL_law 1669 = .ok (.aload_n 2, 1) := by decide +kernel
theorem dL_law_1670 : decode cL_law 1670 = .ok (.aload_n 0, 1) := by decide +kernel
theorem dL_law_1671 : decode cL_law 1671 = .ok (.iload_n 3, 1) := by decide +kernel
theorem dL_law_1672 : decode cL_law 1672 = .ok (.iconst 1, 1) := by decide +kernel
theorem dL_law_1673 : decode cL_law 1673 = .ok (.iadd, 1) := by decide +kernel
theorem dL_law_1674 : decode cL_law 1674 = .ok (.iaload, 1) := by decide +kernel
theorem dL_law_1675 : decode cL_law 1675 = .ok (.invokevirtual 225, 3) := by decide +kernel
theorem dL_law_1678 : decode cL_law 1678 = .ok (.pop, 1) := by decide +kernel
theorem dL_law_1679 : decode cL_law 1679 = .ok (.goto 683, 3) := by decide +kernel
theorem dL_law_1682 : decode cL_law 1682 = .ok (.aload_n 1, 1) := by decide +kernel
theorem dL_law_1683 : decode cL_law 1683 = .ok (.aload_n 0, 1) := by decide +kernel
theorem dL_law_1684 : decode cL_law 1684 = .ok (.iload_n 3, 1) := by decide +kernel
theorem dL_law_1685 : decode cL_law 1685 = .ok (.iconst 1, 1) := by decide +kernel
theorem dL_law_1686 : decode cL_law 1686 = .ok (.iadd, 1) := by decide +kernel
theorem dL_law_1687 : decode cL_law 1687 = .ok (.iaload, 1) := by decide +kernel
theorem dL_law_1688 : decode cL_law 1688 = .ok (.invokevirtual 226, 3) := by decide +kernel
theorem dL_law_1691 : decode cL_law 1691 = .ok (.pop, 1) := by decide +kernel
theorem dL_law_1692 : decode cL_law 1692 = .ok (.aload_n 2, 1) := by decide +kernel
theorem dL_law_1693 : decode cL_law 1693 = .ok (.aload_n 0, 1) := by decide +kernel
theorem dL_law_1694 : decode cL_law 1694 = .ok (.iload_n 3, 1) := by decide +kernel
theorem dL_law_1695 : decode cL_law 1695 = .ok (.iconst 1, 1) := by decide +kernel
theorem dL_law_1696 : decode cL_law 1696 = .ok (.iadd, 1) := by decide +kernel
theorem dL_law_1697 : decode cL_law 1697 = .ok (.iaload, 1) := by decide +kernel
theorem dL_law_1698 : decode cL_law 1698 = .ok (.invokevirtual 229, 3) := by decide +kernel
theorem dL_law_1701 : decode cL_law 1701 = .ok (.pop, 1) := by decide +kernel
theorem dL_law_1702 : decode cL_law 1702 = .ok (.goto 660, 3) := by decide +kernel
theorem dL_law_1705 : decode cL_law 1705 = .ok (.aload_n 1, 1) := by decide +kernel
theorem dL_law_1706 : decode cL_law 1706 = .ok (.aload_n 0, 1) := by decide +kernel
theorem dL_law_1707 : decode cL_law 1707 = .ok (.iload_n 3, 1) := by decide +kernel
theorem dL_law_1708 : decode cL_law 1708 = .ok (.iconst 1, 1) := by decide +kernel
theorem dL_law_1709 : decode cL_law 1709 = .ok (.iadd, 1) := by decide +kernel
theorem dL_law_1710 : decode cL_law 1710 = .ok (.iaload, 1) := by decide +kernel
theorem dL_law_1711 : decode cL_law 1711 = .ok (.invokevirtual 230, 3) := by decide +kernel
theorem dL_law_1714 : decode cL_law 1714 = .ok (.pop, 1) := by decide +kernel
theorem dL_law_1715 : decode cL_law 1715 = .ok (.aload_n 2, 1) := by decide +kernel
theorem dL_law_1716 : decode cL_law 1716 = .ok (.aload_n 0, 1) := by decide +kernel
theorem dL_law_1717 : decode cL_law 1717 = .ok (.iload_n 3, 1) := by decide +kernel
theorem dL_law_1718 : decode cL_law 1718 = .ok (.iconst 1, 1) := by decide +kernel
theorem dL_law_1719 : decode cL_law 1719 = .ok (.iadd, 1) := by decide +kernel
theorem dL_law_1720 : decode cL_law 1720 = .ok (.iaload, 1) := by decide +kernel
theorem dL_law_1721 : decode cL_law 1721 = .ok (.invokevirtual 233, 3) := by decide +kernel
theorem dL_law_1724 : decode cL_law 1724 = .ok (.pop, 1) := by decide +kernel
theorem dL_law_1725 : decode cL_law 1725 = .ok (.goto 637, 3) := by decide +kernel
theorem dL_law_1728 : decode cL_law 1728 = .ok (.aload_n 1, 1) := by decide +kernel
theorem dL_law_1729 : decode cL_law 1729 = .ok (.aload_n 0, 1) := by decide +kernel
theorem dL_law_1730 : decode cL_law 1730 = .ok (.iload_n 3, 1) := by decide +kernel
theorem dL_law_1731 : decode cL_law 1731 = .ok (.iconst 1, 1) := by decide +kernel
theorem dL_law_1732 : decode cL_law 1732 = .ok (.iadd, 1) := by decide +kernel
theorem dL_law_1733 : decode cL_law 1733 = .ok (.iaload, 1) := by decide +kernel
theorem dL_law_1734 : decode cL_law 1734 = .ok (.aload_n 0, 1) := by decide +kernel
theorem dL_law_1735 : decode cL_law 1735 = .ok (.iload_n 3, 1) := by decide +kernel
theorem dL_law_1736 : decode cL_law 1736 = .ok (.iconst 2, 1) := by decide +kernel
theorem dL_law_1737 : decode cL_law 1737 = .ok (.iadd, 1) := by decide +kernel
theorem dL_law_1738 : decode cL_law 1738 = .ok (.iaload, 1) := by decide +kernel
theorem dL_law_1739 : decode cL_law 1739 = .ok (.aload_n 0, 1) := by decide +kernel
theorem dL_law_1740 : decode cL_law 1740 = .ok (.iload_n 3, 1) := by decide +kernel
theorem dL_law_1741 : decode cL_law 1741 = .ok (.iconst 3, 1) := by decide +kernel
theorem dL_law_1742 : decode cL_law 1742 = .ok (.iadd, 1) := by decide +kernel
theorem dL_law_1743 : decode cL_law 1743 = .ok (.iaload, 1) := by decide +kernel
theorem dL_law_1744 : decode cL_law 1744 = .ok (.invokevirtual 234, 3) := by decide +kernel
theorem dL_law_1747 : decode cL_law 1747 = .ok (.pop, 1) := by decide +kernel
theorem dL_law_1748 : decode cL_law 1748 = .ok (.aload_n 2, 1) := by decide +kernel
theorem dL_law_1749 : decode cL_law 1749 = .ok (.aload_n 0, 1) := by decide +kernel
theorem dL_law_1750 : decode cL_law 1750 = .ok (.iload_n 3, 1) := by decide +kernel
theorem dL_law_1751 : decode cL_law 1751 = .ok (.iconst 1, 1) := by decide +kernel
theorem dL_law_1752 : decode cL_law 1752 = .ok (.iadd, 1) := by decide +kernel
theorem dL_law_1753 : decode cL_law 1753 = .ok (.iaload, 1) := by decide +kernel
theorem dL_law_1754 : decode cL_law 1754 = .ok (.aload_n 0, 1) := by decide +kernel
theorem dL_law_1755 : decode cL_law 1755 = .ok (.iload_n 3, 1) := by decide +kernel
theorem dL_law_1756 : decode cL_law 1756 = .ok (.iconst 2, 1) := by decide +kernel
theorem dL_law_1757 : decode cL_law 1757 = .ok (.iadd, 1) := by decide +kernel
theorem dL_law_1758 : decode cL_law 1758 = .ok (.iaload, 1) := by decide +kernel
theorem dL_law_1759 : decode cL_law 1759 = .ok (.aload_n 0, 1) := by decide +kernel
theorem dL_law_1760 : decode cL_law 1760 = .ok (.iload_n 3, 1) := by decide +kernel
theorem dL_law_1761 : decode cL_law 1761 = .ok (.iconst 3, 1) := by decide +kernel
theorem dL_law_1762 : decode cL_law 1762 = .ok (.iadd, 1) := by decide +kernel
theorem dL_law_1763 : decode cL_law 1763 = .ok (.iaload, 1) := by decide +kernel
theorem dL_law_1764 : decode cL_law 1764 = .ok (.invokevirtual 237, 3) := by decide +kernel
theorem dL_law_1767 : decode cL_law 1767 = .ok (.pop, 1) := by decide +kernel
theorem dL_law_1768 : decode cL_law 1768 = .ok (.goto 594, 3) := by decide +kernel
theorem dL_law_1771 : decode cL_law 1771 = .ok (.aload_n 1, 1) := by decide +kernel
theorem dL_law_1772 : decode cL_law 1772 = .ok (.aload_n 0, 1) := by decide +kernel
theorem dL_law_1773 : decode cL_law 1773 = .ok (.iload_n 3, 1) := by decide +kernel
theorem dL_law_1774 : decode cL_law 1774 = .ok (.iconst 1, 1) := by decide +kernel
theorem dL_law_1775 : decode cL_law 1775 = .ok (.iadd, 1) := by decide +kernel
theorem dL_law_1776 : decode cL_law 1776 = .ok (.iaload, 1) := by decide +kernel
theorem dL_law_1777 : decode cL_law 1777 = .ok (.aload_n 0, 1) := by decide +kernel
theorem dL_law_1778 : decode cL_law 1778 = .ok (.iload_n 3, 1) := by decide +kernel
theorem dL_law_1779 : decode cL_law 1779 = .ok (.iconst 2, 1) := by decide +kernel
theorem dL_law_1780 : decode cL_law 1780 = .ok (.iadd, 1) := by decide +kernel
theorem dL_law_1781 : decode cL_law 1781 = .ok (.iaload, 1) := by decide +kernel
theorem dL_law_1782 : decode cL_law 1782 = .ok (.invokevirtual 238, 3) := by decide +kernel
theorem dL_law_1785 : decode cL_law 1785 = .ok (.pop, 1) := by decide +kernel
theorem dL_law_1786 : decode cL_law 1786 = .ok (.aload_n 2, 1) := by decide +kernel
theorem dL_law_1787 : decode cL_law 1787 = .ok (.aload_n 0, 1) := by decide +kernel
theorem dL_law_1788 : decode cL_law 1788 = .ok (.iload_n 3, 1) := by decide +kernel
theorem dL_law_1789 : decode cL_law 1789 = .ok (.iconst 1, 1) := by decide +kernel
theorem dL_law_1790 : decode cL_law 1790 = .ok (.iadd, 1) := by decide +kernel
theorem dL_law_1791 : decode cL_law 1791 = .ok (.iaload, 1) := by decide +kernel
theorem dL_law_1792 : decode cL_law 1792 = .ok (.aload_n 0, 1) := by decide +kernel
theorem dL_law_1793 : decode cL_law 1793 = .ok (.iload_n 3, 1) := by decide +kernel
theorem dL_law_1794 : decode cL_law 1794 = .ok (.iconst 2, 1) := by decide +kernel
theorem dL_law_1795 : decode cL_law 1795 = .ok (.iadd, 1) := by decide +kernel
theorem dL_law_1796 : decode cL_law 1796 = .ok (.iaload, 1) := by decide +kernel
theorem dL_law_1797 : decode cL_law 1797 = .ok (.invokevirtual 241, 3) := by decide +kernel
theorem dL_law_1800 : decode cL_law 1800 = .ok (.pop, 1) := by decide +kernel
theorem dL_law_1801 : decode cL_law 1801 = .ok (.goto 561, 3) := by decide +kernel
theorem dL_law_1804 : decode cL_law 1804 = .ok (.aload_n 1, 1) := by decide +kernel
theorem dL_law_1805 : decode cL_law 1805 = .ok (.aload_n 0, 1) := by decide +kernel
theorem dL_law_1806 : decode cL_law 1806 = .ok (.iload_n 3, 1) := by decide +kernel
theorem dL_law_1807 : decode cL_law 1807 = .ok (.iconst 1, 1) := by decide +kernel
theorem dL_law_1808 : decode cL_law 1808 = .ok (.iadd, 1) := by decide +kernel
theorem dL_law_1809 : decode cL_law 1809 = .ok (.iaload, 1) := by decide +kernel
theorem dL_law_1810 : decode cL_law 1810 = .ok (.invokevirtual 242, 3) := by decide +kernel
theorem dL_law_1813 : decode cL_law 1813 = .ok (.pop, 1) := by decide +kernel
theorem dL_law_1814 : decode cL_law 1814 = .ok (.aload_n 2, 1) := by decide +kernel
theorem dL_law_1815 : decode cL_law 1815 = .ok (.aload_n 0, 1) := by decide +kernel
theorem dL_law_1816 : decode cL_law 1816 = .ok (.iload_n 3, 1) := by decide +kernel
theorem dL_law_1817 : decode cL_law 1817 = .ok (.iconst 1, 1) := by decide +kernel
theorem dL_law_1818 : decode cL_law 1818 = .ok (.iadd, 1) := by decide +kernel
theorem dL_law_1819 : decode cL_law 1819 = .ok (.iaload, 1) := by decide +kernel
theorem dL_law_1820 : decode cL_law 1820 = .ok (.invokevirtual 245, 3) := by decide +kernel
theorem dL_law_1823 : decode cL_law 1823 = .ok (.pop, 1) := by decide +kernel
theorem dL_law_1824 : decode cL_law 1824 = .ok (.goto 538, 3) := by decide +kernel
theorem dL_law_1827 : decode cL_law 1827 = .ok (.aload_n 1, 1) := by decide +kernel
theorem dL_law_1828 : decode cL_law 1828 = .ok (.aload_n 0, 1) := by decide +kernel
theorem dL_law_1829 : decode cL_law 1829 = .ok (.iload_n 3, 1) := by decide +kernel
theorem dL_law_1830 : decode cL_law 1830 = .ok (.iconst 1, 1) := by decide +kernel
theorem dL_law_1831 : decode cL_law 1831 = .ok (.iadd, 1) := by decide +kernel
theorem dL_law_1832 : decode cL_law 1832 = .ok (.iaload, 1) := by decide +kernel
theorem dL_law_1833 : decode cL_law 1833 = .ok (.aload_n 0, 1) := by decide +kernel
theorem dL_law_1834 : decode cL_law 1834 = .ok (.iload_n 3, 1) := by decide +kernel
theorem dL_law_1835 : decode cL_law 1835 = .ok (.iconst 2, 1) := by decide +kernel
theorem dL_law_1836 : decode cL_law 1836 = .ok (.iadd, 1) := by decide +kernel
theorem dL_law_1837 : decode cL_law 1837 = .ok (.iaload, 1) := by decide +kernel
theorem dL_law_1838 : decode cL_law 1838 = .ok (.invokevirtual 246, 3) := by decide +kernel
theorem dL_law_1841 : decode cL_law 1841 = .ok (.pop, 1) := by decide +kernel
theorem dL_law_1842 : decode cL_law 1842 = .ok (.aload_n 2, 1) := by decide +kernel
theorem dL_law_1843 : decode cL_law 1843 = .ok (.aload_n 0, 1) := by decide +kernel
theorem dL_law_1844 : decode cL_law 1844 = .ok (.iload_n 3, 1) := by decide +kernel
theorem dL_law_1845 : decode cL_law 1845 = .ok (.iconst 1, 1) := by decide +kernel
theorem dL_law_1846 : decode cL_law 1846 = .ok (.iadd, 1) := by decide +kernel
theorem dL_law_1847 : decode cL_law 1847 = .ok (.iaload, 1) := by decide +kernel
theorem dL_law_1848 : decode cL_law 1848 = .ok (.aload_n 0, 1) := by decide +kernel
theorem dL_law_1849 : decode cL_law 1849 = .ok (.iload_n 3, 1) := by decide +kernel
theorem dL_law_1850 : decode cL_law 1850 = .ok (.iconst 2, 1) := by decide +kernel
theorem dL_law_1851 : decode cL_law 1851 = .ok (.iadd, 1) := by decide +kernel
theorem dL_law_1852 : decode cL_law 1852 = .ok (.iaload, 1) := by decide +kernel
theorem dL_law_1853 : decode cL_law 1853 = .ok (.invokevirtual 249, 3) := by decide +kernel
theorem dL_law_1856 : decode cL_law 1856 = .ok (.pop, 1) := by decide +kernel
theorem dL_law_1857 : decode cL_law 1857 = .ok (.goto 505, 3) := by decide +kernel
theorem dL_law_1860 : decode cL_law 1860 = .ok (.aload_n 1, 1) := by decide +kernel
theorem dL_law_1861 : decode cL_law 1861 = .ok (.aload_n 0, 1) := by decide +kernel
