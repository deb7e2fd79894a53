theorem dL_law_1600 : decode cL_law 1600 = .ok (.aload_n 0, 1) := by decide +kernel
theorem dL_law_1601 : decode cL_law 1601 = .ok (.iload_n 3, 1) := by decide +kernel
theorem dL_law_1602 : decode cL_law 1602 = .ok (.iconst 1, 1) := by decide +kernel
theorem dL_law_1603 : decode cL_law 1603 = .ok (.iadd, 1) := by decide +kernel
theorem dL_law_1604 : decode cL_law 1604 = .ok (.iaload, 1) := by decide +kernel
theorem dL_law_1605 : decode cL_law 1605 = .ok (.invokevirtual 213, 3) := by decide +kernel
theorem dL_law_1608 : decode cL_law 1608 = .ok (.if_icmp .eq 754, 3) := by decide +kernel
theorem dL_law_1613 : decode cL_law 1613 = .ok (.aload_n 1, 1) := by decide +kernel
theorem dL_law_1614 : decode cL_law 1614 = .ok (.aload_n 0, 1) := by decide +kernel
theorem dL_law_1615 : decode cL_law 1615 = .ok (.iload_n 3, 1) := by decide +kernel
theorem dL_law_1616 : decode cL_law 1616 = .ok (.iconst 1, 1) := by decide +kernel
theorem dL_law_1617 : decode cL_law 1617 = .ok (.iadd, 1) := by decide +kernel
theorem dL_law_1618 : decode cL_law 1618 = .ok (.iaload, 1) := by decide +kernel
theorem dL_law_1619 : decode cL_law 1619 = .ok (.invokevirtual 214, 3) := by decide +kernel
theorem dL_law_1622 : decode cL_law 1622 = .ok (.aload_n 2, 1) := by decide +kernel
theorem dL_law_1623 : decode cL_law 1623 = .ok (.aload_n 0, 1) := by decide +kernel
theorem dL_law_1624 : decode cL_law 1624 = .ok (.iload_n 3, 1) := by decide +kernel
theorem dL_law_1625 : decode cL_law 1625 = .ok (.iconst 1, 1) := by decide +kernel
theorem dL_law_1626 : decode cL_law 1626 = .ok (.iadd, 1) := by decide +kernel
theorem dL_law_1627 : decode cL_law 1627 = .ok (.iaload, 1) := by decide +kernel
theorem dL_law_1628 : decode cL_law 1628 = .ok (.invokevirtual 217, 3) := by decide +kernel
theorem dL_law_1631 : decode cL_law 1631 = .ok (.if_icmp .eq 731, 3) := by decide +kernel
theorem dL_law_1636 : decode cL_law 1636 = .ok (.aload_n 1, 1) := by decide +kernel
theorem dL_law_1637 : decode cL_law 1637 = .ok (.aload_n 0, 1) := by decide +kernel
theorem dL_law_1638 : decode cL_law 1638 = .ok (.iload_n 3, 1) := by decide +kernel
theorem dL_law_1639 : decode cL_law 1639 = .ok (.iconst 1, 1) := by decide +kernel
theorem dL_law_1640 : decode cL_law 1640 = .ok (.iadd, 1) := by decide +kernel
theorem dL_law_1641 : decode cL_law 1641 = .ok (.iaload, 1) := by decide +kernel
theorem dL_law_1642 : decode cL_law 1642 = .ok (.invokevirtual 218, 3) := by decide +kernel
theorem dL_law_1645 : decode cL_law 1645 = .ok (.aload_n 2, 1) := by decide +kernel
theorem dL_law_1646 : decode cL_law 1646 = .ok (.aload_n 0, 1) := by decide +kernel
theorem dL_law_1647 : decode cL_law 1647 = .ok (.iload_n 3, 1) := by decide +kernel
theorem dL_law_1648 : decode cL_law 1648 = .ok (.iconst 1, 1) := by decide +kernel
theorem dL_law_1649 : decode cL_law 1649 = .ok (.iadd, 1) := by decide +kernel
theorem dL_law_1650 : decode cL_law 1650 = .ok (.iaload, 1) := by decide +kernel
theorem dL_law_1651 : decode cL_law 1651 = .ok (.invokevirtual 221, 3) := by decide +kernel
theorem dL_law_1654 : decode cL_law 1654 = .ok (.if_icmp .eq 708, 3) := by decide +kernel
theorem dL_law_1659 : decode cL_law 1659 = .ok (.aload_n 1, 1) := by decide +kernel
theorem dL_law_1660 : decode cL_law 1660 = .ok (.aload_n 0, 1) := by decide +kernel
theorem dL_law_1661 : decode cL_law 1661 = .ok (.iload_n 3, 1) := by decide +kernel
theorem dL_law_1662 : decode cL_law 1662 = .ok (.iconst 1, 1) := by decide +kernel
theorem dL_law_1663 : decode cL_law 1663 = .ok (.iadd, 1) := by decide +kernel
theorem dL_law_1664 : decode cL_law 1664 = .ok (.iaload, 1) := by decide +kernel
theorem dL_law_1665 : decode cL_law 1665 = .ok (.invokevirtual 222, 3) := by decide +kernel
theorem dL_law_1668 : decode cL_law 1668 = .ok (.aload_n 2, 1) := by decide +kernel
theorem dL_law_1669 : decode cL_law 1669 = .ok (.aload_n 0, 1) := by decide +kernel
theorem dL_law_1670 : decode cL_law 1670 = .ok (.iload_n 3, 1) := by decide +kernel
theorem dL_law_1671 : decode cL_law 1671 = .ok (.iconst 1, 1) := by decide +kernel
theorem dL_law_1672 : decode cL_law 1672 = .ok (.iadd, 1) := by decide +kernel
theorem dL_law_1673 : decode cL_law 1673 = .ok (.iaload, 1) := by decide +kernel
theorem dL_law_1674 : decode cL_law 1674 = .ok (.invokevirtual 225, 3) := by decide +kernel
theorem dL_law_1677 : decode cL_law 1677 = .ok (.if_icmp .eq 685, 3) := by decide +kernel
theorem dL_law_1682 : decode cL_law 1682 = .ok (.aload_n 1, 1) := by decide +kernel
theorem dL_law_1683 : decode cL_law 1683 = .ok (.aload_n 0, 1) := by decide +kernel
theorem dL_law_1684 : decode cL_law 1684 = .ok (.iload_n 3, 1) := by decide +kernel
theorem dL_law_1685 : decode cL_law 1685 = .ok (.iconst 1, 1) := by decide +kernel
theorem dL_law_1686 : decode cL_law 1686 = .ok (.iadd, 1) := by decide +kernel
theorem dL_law_1687 : decode cL_law 1687 = .ok (.iaload, 1) := by decide +kernel
theorem dL_law_1688 : decode cL_law 1688 = .ok (.invokevirtual 226, 3) := by decide +kernel
theorem dL_law_1691 : decode cL_law 1691 = .ok (.aload_n 2, 1) := by decide +kernel
theorem dL_law_1692 : decode cL_law 1692 = .ok (.aload_n 0, 1) := by decide +kernel
theorem dL_law_1693 : decode cL_law 1693 = .ok (.iload_n 3, 1) := by decide +kernel
theorem dL_law_1694 : decode cL_law 1694 = .ok (.iconst 1, 1) := by decide +kernel
theorem dL_law_1695 : decode cL_law 1695 = .ok (.iadd, 1) := by decide +kernel
theorem dL_law_1696 : decode cL_law 1696 = .ok (.iaload, 1) := by decide +kernel
theorem dL_law_1697 : decode cL_law 1697 = .ok (.invokevirtual 229, 3) := by decide +kernel
theorem dL_law_1700 : decode cL_law 1700 = .ok (.if_icmp .eq 662, 3) := by decide +kernel
theorem dL_law_1705 : decode cL_law 1705 = .ok (.aload_n 1, 1) := by decide +kernel
theorem dL_law_1706 : decode cL_law 1706 = .ok (.aload_n 0, 1) := by decide +kernel
theorem dL_law_1707 : decode cL_law 1707 = .ok (.iload_n 3, 1) := by decide +kernel
theorem dL_law_1708 : decode cL_law 1708 = .ok (.iconst 1, 1) := by decide +kernel
theorem dL_law_1709 : decode cL_law 1709 = .ok (.iadd, 1) := by decide +kernel
theorem dL_law_1710 : decode cL_law 1710 = .ok (.iaload, 1) := by decide +kernel
theorem dL_law_1711 : decode cL_law 1711 = .ok (.invokevirtual 230, 3) := by decide +kernel
theorem dL_law_1714 : decode cL_law 1714 = .ok (.aload_n 2, 1) := by decide +kernel
theorem dL_law_1715 : decode cL_law 1715 = .ok (.aload_n 0, 1) := by decide +kernel
theorem dL_law_1716 : decode cL_law 1716 = .ok (.iload_n 3, 1) := by decide +kernel
theorem dL_law_1717 : decode cL_law 1717 = .ok (.iconst 1, 1) := by decide +kernel
theorem dL_law_1718 : decode cL_law 1718 = .ok (.iadd, 1) := by decide +kernel
theorem dL_law_1719 : decode cL_law 1719 = .ok (.iaload, 1) := by decide +kernel
theorem dL_law_1720 : decode cL_law 1720 = .ok (.invokevirtual 233, 3) := by decide +kernel
theorem dL_law_1723 : decode cL_law 1723 = .ok (.if_icmp .eq 639, 3) := by decide +kernel
theorem dL_law_1728 : decode cL_law 1728 = .ok (.aload_n 1, 1) := by decide +kernel
theorem dL_law_1729 : decode cL_law 1729 = .ok (.aload_n 0, 1) := by decide +kernel
theorem dL_law_1730 : decode cL_law 1730 = .ok (.iload_n 3, 1) := by decide +kernel
theorem dL_law_1731 : decode cL_law 1731 = .ok (.iconst 1, 1) := by decide +kernel
theorem dL_law_1732 : decode cL_law 1732 = .ok (.iadd, 1) := by decide +kernel
theorem dL_law_1733 : decode cL_law 1733 = .ok (.iaload, 1) := by decide +kernel
theorem dL_law_1734 : decode cL_law 1734 = .ok (.aload_n 0, 1) := by decide +kernel
theorem dL_law_1735 : decode cL_law 1735 = .ok (.iload_n 3, 1) := by decide +kernel
theorem dL_law_1736 : decode cL_law 1736 = .ok (.iconst 2, 1) := by decide +kernel
theorem dL_law_1737 : decode cL_law 1737 = .ok (.iadd, 1) := by decide +kernel
theorem dL_law_1738 : decode cL_law 1738 = .ok (.iaload, 1) := by decide +kernel
theorem dL_law_1739 : decode cL_law 1739 = .ok (.aload_n 0, 1) := by decide +kernel
theorem dL_law_1740 : decode cL_law 1740 = .ok (.iload_n 3, 1) := by decide +kernel
theorem dL_law_1741 : decode cL_law 1741 = .ok (.iconst 3, 1) := by decide +kernel
theorem dL_law_1742 : decode cL_law 1742 = .ok (.iadd, 1) := by decide +kernel
theorem dL_law_1743 : decode cL_law 1743 = .ok (.iaload, 1) := by decide +kernel
theorem dL_law_1744 : decode cL_law 1744 = .ok (.invokevirtual 234, 3) := by decide +kernel
theorem dL_law_1747 : decode cL_law 1747 = .ok (.aload_n 2, 1) := by decide +kernel
theorem dL_law_1748 : decode cL_law 1748 = .ok (.aload_n 0, 1) := by decide +kernel
theorem dL_law_1749 : decode cL_law 1749 = .ok (.iload_n 3, 1) := by decide +kernel
theorem dL_law_1750 : decode cL_law 1750 = .ok (.iconst 1, 1) := by decide +kernel
theorem dL_law_1751 : decode cL_law 1751 = .ok (.iadd, 1) := by decide +kernel
theorem dL_law_1752 : decode cL_law 1752 = .ok (.iaload, 1) := by decide +kernel
theorem dL_law_1753 : decode cL_law 1753 = .ok (.aload_n 0, 1) := by decide +kernel
theorem dL_law_1754 : decode cL_law 1754 = .ok (.iload_n 3, 1) := by decide +kernel
theorem dL_law_1755 : decode cL_law 1755 = .ok (.iconst 2, 1) := by decide +kernel
theorem dL_law_1756 : decode cL_law 1756 = .ok (.iadd, 1) := by decide +kernel
theorem dL_law_1757 : decode cL_law 1757 = .ok (.iaload, 1) := by decide +kernel
theorem dL_law_1758 : decode cL_law 1758 = .ok (.aload_n 0, 1) := by decide +kernel
theorem dL_law_1759 : decode cL_law 1759 = .ok (.iload_n 3, 1) := by decide +kernel
theorem dL_law_1760 : decode cL_law 1760 = .ok (.iconst 3, 1) := by decide +kernel
theorem dL_law_1761 : decode cL_law 1761 = .ok (.iadd, 1) := by decide +kernel
theorem dL_law_1762 : decode cL_law 1762 = .ok (.iaload, 1) := by decide +kernel
theorem dL_law_1763 : decode cL_law 1763 = .ok (.invokevirtual 237, 3) := by decide +kernel
theorem dL_law_1766 : decode cL_law 1766 = .ok (.if_icmp .eq 596, 3) := by decide +kernel
theorem dL_law_1771 : decode cL_law 1771 = .ok (.aload_n 1, 1) := by decide +kernel
theorem dL_law_1772 : decode cL_law 1772 = .ok (.aload_n 0, 1) := by decide +kernel
theorem dL_law_1773 : decode cL_law 1773 = .ok (.iload_n 3, 1) := by decide +kernel
theorem dL_law_1774 : decode cL_law 1774 = .ok (.iconst 1, 1) := by decide +kernel
theorem dL_law_1775 : decode cL_law 1775 = .ok (.iadd, 1) := by decide +kernel
theorem dL_law_1776 : decode cL_law 1776 = .ok (.iaload, 1) := by decide +kernel
theorem dL_law_1777 : decode cL_law 1777 = .ok (.aload_n 0, 1) := by decide +kernel
theorem dL_law_1778 : decode cL_law 1778 = .ok (.iload_n 3, 1) := by decide +kernel
theorem dL_law_1779 : decode cL_law 1779 = .ok (.iconst 2, 1) := by decide +kernel
theorem dL_law_1780 : decode cL_law 1780 = .ok (.iadd, 1) := by decide +kernel
theorem dL_law_1781 : decode cL_law 1781 = .ok (.iaload, 1) := by decide +kernel
theorem dL_law_1782 : decode cL_law 1782 = .ok (.invokevirtual 238, 3) := by decide +kernel
theorem dL_law_1785 : decode cL_law 1785 = .ok (.aload_n 2, 1) := by decide +kernel
theorem dL_law_1786 : decode cL_law 1786 = .ok (.aload_n 0, 1) := by decide +kernel
theorem dL_law_1787 : decode cL_law 1787 = .ok (.iload_n 3, 1) := by decide +kernel
theorem dL_law_1788 : decode cL_law 1788 = .ok (.iconst 1, 1) := by decide +kernel
theorem dL_law_1789 : decode cL_law 1789 = .ok (.iadd, 1) := by decide +kernel
theorem dL_law_1790 : decode cL_law 1790 = .ok (.iaload, 1) := by decide +kernel
theorem dL_law_1791 : decode cL_law 1791 = .ok (.aload_n 0, 1) := by decide +kernel
theorem dL_law_1792 : decode cL_law 1792 = .ok (.iload_n 3, 1) := by decide +kernel
theorem dL_law_1793 : decode cL_law 1793 = .ok (.iconst 2, 1) := by decide +kernel
theorem dL_law_1794 : decode cL_law 1794 = .ok (.iadd, 1) := by decide +kernel
theorem dL_law_1795 : decode cL_law 1795 = .ok (.iaload, 1) := by decide +kernel
theorem dL_law_1796 : decode cL_law 1796 = .ok (.invokevirtual 241, 3) := by decide +kernel
theorem dL_law_1799 : decode cL_law 1799 = .ok (.if_icmp .eq 563, 3) := by decide +kernel
theorem dL_law_1804 : decode cL_law 1804 = .ok (.aload_n 1, 1) := by decide +kernel
theorem dL_law_1805 : decode cL_law 1805 = .ok (.aload_n 0, 1) := by decide +kernel
theorem dL_law_1806 : decode cL_law 1806 = .ok (.iload_n 3, 1) := by decide +kernel
theorem dL_law_1807 : decode cL_law 1807 = .ok (.iconst 1, 1) := by decide +kernel
theorem dL_law_1808 : decode cL_law 1808 = .ok (.iadd, 1) := by decide +kernel
theorem dL_law_1809 : decode cL_law 1809 = .ok (.iaload, 1) := by decide +kernel
theorem dL_law_1810 : decode cL_law 1810 = .ok (.invokevirtual 242, 3) := by decide +kernel
theorem dL_law_1813 : decode cL_law 1813 = .ok (.aload_n 2, 1) := by decide +kernel
theorem dL_law_1814 : decode cL_law 1814 = .ok (.aload_n 0, 1) := by decide +kernel
theorem dL_law_1815 : decode cL_law 1815 = .ok (.iload_n 3, 1) := by decide +kernel
theorem dL_law_1816 : decode cL_law 1816 = .ok (.iconst 1, 1) := by decide +kernel
theorem dL_law_1817 : decode cL_law 1817 = .ok (.iadd, 1) := by decide +kernel
theorem dL_law_1818 : decode cL_law 1818 = .ok (.iaload, 1) := by decide +kernel
theorem dL_law_1819 : decode cL_law 1819 = .ok (.invokevirtual 245, 3) := by decide +kernel
theorem dL_law_1822 : decode cL_law 1822 = .ok (.if_icmp .eq 540, 3) := by decide +kernel
theorem dL_law_1827 : decode cL_law 1827 = .ok (.aload_n 1, 1) := by decide +kernel
theorem dL_law_1828 : decode cL_law 1828 = .ok (.aload_n 0, 1) := by decide +kernel
theorem dL_law_1829 : decode cL_law 1829 = .ok (.iload_n 3, 1) := by decide +kernel
theorem dL_law_1830 : decode cL_law 1830 = .ok (.iconst 1, 1) := by decide +kernel
theorem dL_law_1831 : decode cL_law 1831 = .ok (.iadd, 1) := by decide +kernel
theorem dL_law_1832 : decode cL_law 1832 = .ok (.iaload, 1) := by decide +kernel
theorem dL_law_1833 : decode cL_law 1833 = .ok (.aload_n 0, 1) := by decide +kernel
theorem dL_law_1834 : decode cL_law 1834 = .ok (.iload_n 3, 1) := by decide +kernel
theorem dL_law_1835 : decode cL_law 1835 = .ok (.iconst 2, 1) := by decide +kernel
theorem dL_law_1836 : decode cL_law 1836 = .ok (.iadd, 1) := by decide +kernel
theorem dL_law_1837 : decode cL_law 1837 = .ok (.iaload, 1) := by decide +kernel
theorem dL_law_1838 : decode cL_law 1838 = .ok (.invokevirtual 246, 3) := by decide +kernel
theorem dL_law_1841 : decode cL_law 1841 = .ok (.aload_n 2, 1) := by decide +kernel
theorem dL_law_1842 : decode cL_law 1842 = .ok (.aload_n 0, 1) := by decide +kernel
theorem dL_law_1843 : decode cL_law 1843 = .ok (.iload_n 3, 1) := by decide +kernel
theorem dL_law_1844 : decode cL_law 1844 = .ok (.iconst 1, 1) := by decide +kernel
theorem dL_law_1845 : decode cL_law 1845 = .ok (.iadd, 1) := by decide +kernel
theorem dL_law_1846 : decode cL_law 1846 = .ok (.iaload, 1) := by decide +kernel
theorem dL_law_1847 : decode cL_law 1847 = .ok (.aload_n 0, 1) := by decide +kernel
theorem dL_law_1848 : decode cL_law 1848 = .ok (.iload_n 3, 1) := by decide +kernel
theorem dL_law_1849 : decode cL_law 1849 = .ok (.iconst 2, 1) := by decide +kernel
theorem dL_law_1850 : decode cL_law 1850 = .ok (.iadd, 1) := by decide +kernel
theorem dL_law_1851 : decode cL_law 1851 = .ok (.iaload, 1) := by decide +kernel
theorem dL_law_1852 : decode cL_law 1852 = .ok (.invokevirtual 249, 3) := by decide +kernel
theorem dL_law_1855 : decode cL_law 1855 = .ok (.if_icmp .eq 507, 3) := by decide +kernel
theorem dL_law_1860 : decode cL_law 1860 = .ok (.aload_n 1, 1) := by decide +kernel
theorem dL_law_1861 : decode cL_law 1861 = .ok (.aload_n 0, 1) := by decide +kernel
theorem dL_law_1862 : decode cL_law 1862 = .ok (.iload_n 3, 1) := by decide +kernel
theorem dL_law_1863 : decode cL_law 1863 = .ok (.iconst 1, 1) := by decide +kernel
theorem dL_law_1864 : decode cL_law 1864 = .ok (.iadd, 1) := by decide +kernel
theorem dL_law_1865 : decode cL_law 1865 = .ok (.iaload, 1) := by decide +kernel
theorem dL_law_1866 : decode cL_law 1866 = .ok (.aload_n 0, 1) := by decide +kernel
theorem dL_law_1867 : decode cL_law 1867 = .ok (.iload_n 3, 1) := by decide +kernel
theorem dL_law_1868 : decode cL_law 1868 = .ok (.iconst 2, 1) := by decide +kernel
theorem dL_law_1869 : decode cL_law 1869 = .ok (.iadd, 1) := by decide +kernel
theorem dL_law_1870 : decode cL_law 1870 = .ok (.iaload, 1) := by decide +kernel
theorem dL_law_1871 : decode cL_law 1871 = .ok (.invokevirtual 250, 3) := by decide +kernel
theorem dL_law_1874 : decode cL_law 1874 = .ok (.aload_n 2, 1) := by decide +kernel
theorem dL_law_1875 : decode cL_law 1875 = .ok (.aload_n 0, 1) := by decide +kernel
theorem dL_law_1876 : decode cL_law 1876 = .ok (.iload_n 3, 1) := by decide +kernel
theorem dL_law_1877 : decode cL_law 1877 = .ok (.iconst 1, 1) := by decide +kernel
theorem dL_law_1878 : decode cL_law 1878 = .ok (.iadd, 1) := by decide +kernel
theorem dL_law_1879 : decode cL_law 1879 = .ok (.iaload, 1) := by decide +kernel
theorem dL_law_1880 : decode cL_law 1880 = .ok (.aload_n 0, 1) := by decide +kernel
theorem dL_law_1881 : decode cL_law 1881 = .ok (.iload_n 3, 1) := by decide +kernel
theorem dL_law_1882 : decode cL_law 1882 = .ok (.iconst 2, 1) := by decide +kernel
theorem dL_law_1883 : decode cL_law 1883 = .ok (.iadd, 1) := by decide +kernel
theorem dL_law_1884 : decode cL_law 1884 = .ok (.iaload, 1) := by decide +kernel
theorem dL_law_1885 : decode cL_law 1885 = .ok (.invokevirtual 253, 3) := by decide +kernel
theorem dL_law_1888 : decode cL_law 1888 = .ok (.if_icmp .eq 474, 3) := by decide +kernel
theorem dL_law_1893 : decode cL_law 1893 = .ok (.aload_n 1, 1) := by decide +kernel
theorem dL_law_1894 : decode cL_law 1894 = .ok (.aload_n 0, 1) := by decide +kernel
theorem dL_law_1895 : decode cL_law 1895 = .ok (.iload_n 3, 1) := by decide +kernel
theorem dL_law_1896 : decode cL_law 1896 = .ok (.iconst 1, 1) := by decide +kernel
theorem dL_law_1897 : decode cL_law 1897 = .ok (.iadd, 1) := by decide +kernel
theorem dL_law_1898 : decode cL_law 1898 = .ok (.iaload, 1) := by decide +kernel
theorem dL_law_1899 : decode cL_law 1899 = .ok (.aload_n 0, 1) := by decide +kernel
theorem dL_law_1900 : decode cL_law 1900 = .ok (.iload_n 3, 1) := by decide +kernel
theorem dL_law_1901 : decode cL_law 1901 = .ok (.iconst 2, 1) := by decide +kernel
theorem dL_law_1902 : decode cL_law 1902 = .ok (.iadd, 1) := by decide +kernel
theorem dL_law_1903 : decode cL_law 1903 = .ok (.iaload, 1) := by decide +kernel
theorem dL_law_1904 : decode cL_law 1904 = .ok (.invokevirtual 254, 3) := by decide +kernel
theorem dL_law_1907 : decode cL_law 1907 = .ok (.aload_n 2, 1) := by decide +kernel
theorem dL_law_1908 : decode cL_law 1908 = .ok (.aload_n 0, 1) := by decide +kernel
theorem dL_law_1909 : decode cL_law 1909 = .ok (.iload_n 3, 1) := by decide +kernel
theorem dL_law_1910 : decode cL_law 1910 = .ok (.iconst 1, 1) := by decide +kernel
theorem dL_law_1911 : decode cL_law 1911 = .ok (.iadd, 1) := by decide +kernel
theorem dL_law_1912 : decode cL_law 1912 = .ok (.iaload, 1) := by decide +kernel
theorem dL_law_1913 : decode cL_law 1913 = .ok (.aload_n 0, 1) := by decide +kernel
theorem dL_law_1914 : decode cL_law 1914 = .ok (.iload_n 3, 1) := by decide +kernel
theorem dL_law_1915 : decode cL_law 1915 = .ok (.iconst 2, 1) := by decide +kernel
theorem dL_law_1916 : decode cL_law 1916 = .ok (.iadd, 1) := by decide +kernel
theorem dL_law_1917 : decode cL_law 1917 = .ok (.iaload, 1) := by decide +kernel
theorem dL_law_1918 : decode cL_law 1918 = .ok (.invokevirtual 257, 3) := by decide +kernel
theorem dL_law_1921 : decode cL_law 1921 = .ok (.if_icmp .eq 441, 3) := by decide +kernel
theorem dL_law_1926 : decode cL_law 1926 = .ok (.aload_n 1, 1) := by decide +kernel
theorem dL_law_1927 : decode cL_law 1927 = .ok (.aload_n 0, 1) := by decide +kernel
theorem dL_law_1928 : decode cL_law 1928 = .ok (.iload_n 3, 1) := by decide +kernel
theorem dL_law_1929 : decode cL_law 1929 = .ok (.iconst 1, 1) := by decide +kernel
theorem dL_law_1930 : decode cL_law 1930 = .ok (.iadd, 1) := by decide +kernel
theorem dL_law_1931 : decode cL_law 1931 = .ok (.iaload, 1) := by decide +kernel
theorem dL_law_1932 : decode cL_law 1932 = .ok (.aload_n 0, 1) := by decide +kernel
theorem dL_law_1933 : decode cL_law 1933 = .ok (.iload_n 3, 1) := by decide +kernel
theorem dL_law_1934 : decode cL_law 1934 = .ok (.iconst 2, 1) := by decide +kernel
theorem dL_law_1935 : decode cL_law 1935 = .ok (.iadd, 1) := by decide +kernel
theorem dL_law_1936 : decode cL_law 1936 = .ok (.iaload, 1) := by decide +kernel
theorem dL_law_1937 : decode cL_law 1937 = .ok (.aload_n 0, 1) := by decide +kernel
theorem dL_law_1938 : decode cL_law 1938 = .ok (.iload_n 3, 1) := by decide +kernel
theorem dL_law_1939 : decode cL_law 1939 = .ok (.iconst 3, 1) := by decide +kernel
theorem dL_law_1940 : decode cL_law 1940 = .ok (.iadd, 1) := by decide +kernel
theorem dL_law_1941 : decode cL_law 1941 = .ok (.iaload, 1) := by decide +kernel
theorem dL_law_1942 : decode cL_law 1942 = .ok (.invokevirtual 258, 3) := by decide +kernel
theorem dL_law_1945 : decode cL_law 1945 = .ok (.aload_n 2, 1) := by decide +kernel
theorem dL_law_1946 : decode cL_law 1946 = .ok (.aload_n 0, 1) := by decide +kernel
theorem dL_law_1947 : decode cL_law 1947 = .ok (.iload_n 3, 1) := by decide +kernel
theorem dL_law_1948 : decode cL_law 1948 = .ok (.iconst 1, 1) := by decide +kernel
theorem dL_law_1949 : decode cL_law 1949 = .ok (.iadd, 1) := by decide +kernel
theorem dL_law_1950 : decode cL_law 1950 = .ok (.iaload, 1) := by decide +kernel
theorem dL_law_1951 : decode cL_law 1951 = .ok (.aload_n 0, 1) := by decide +kernel
theorem dL_law_1952 : decode cL_law 1952 = .ok (.iload_n 3, 1) := by decide +kernel
theorem dL_law_1953 : decode cL_law 1953 = .ok (.iconst 2, 1) := by decide +kernel
theorem dL_law_1954 : decode cL_law 1954 = .ok (.iadd, 1) := by decide +kernel
theorem dL_law_1955 : decode cL_law 1955 = .ok (.iaload, 1) := by decide +kernel
theorem dL_law_1956 : decode cL_law 1956 = .ok (.aload_n 0, 1) := by decide +kernel
theorem dL_law_1957 : decode cL_law 1957 = .ok (.iload_n 3, 1) := by decide +kernel
theorem dL_law_1958 : decode cL_law 1958 = .ok (.iconst 3, 1) := by decide +kernel
theorem dL_law_1959 : decode cL_law 1959 = .ok (.iadd, 1) := by decide +kernel
theorem dL_law_1960 : decode cL_law 1960 = .ok (.iaload, 1) := by decide +kernel
theorem dL_law_1961 : decode cL_law 1961 = .ok (.invokevirtual 261, 3) := by decide +kernel
theorem dL_law_1964 : decode cL_law 1964 = .ok (.if_icmp .eq 398, 3) := by decide +kernel
theorem dL_law_1969 : decode cL_law 1969 = .ok (.aload_n 1, 1) := by decide +kernel
theorem dL_law_1970 : decode cL_law 1970 = .ok (.invokevirtual 262, 3) := by decide +kernel
theorem dL_law_1973 : decode cL_law 1973 = .ok (.aload_n 2, 1) := by decide +kernel
theorem dL_law_1974 : decode cL_law 1974 = .ok (.invokevirtual 265, 3) := by decide +kernel
theorem dL_law_1977 : decode cL_law 1977 = .ok (.if_icmp .eq 385, 3) := by decide +kernel
theorem dL_law_1982 : decode cL_law 1982 = .ok (.aload_n 1, 1) := by decide +kernel
theorem dL_law_1983 : decode cL_law 1983 = .ok (.invokevirtual 266, 3) := by decide +kernel
theorem dL_law_1986 : decode cL_law 1986 = .ok (.aload_n 2, 1) := by decide +kernel
theorem dL_law_1987 : decode cL_law 1987 = .ok (.invokevirtual 269, 3) := by decide +kernel
theorem dL_law_1990 : decode cL_law 1990 = .ok (.if_icmp .eq 372, 3) := by decide +kernel
theorem dL_law_1995 : decode cL_law 1995 = .ok (.aload_n 1, 1) := by decide +kernel
theorem dL_law_1996 : decode cL_law 1996 = .ok (.aload_n 0, 1) := by decide +kernel
theorem dL_law_1997 : decode cL_law 1997 = .ok (.iload_n 3, 1) := by decide +kernel
theorem dL_law_1998 : decode cL_law 1998 = .ok (.iconst 1, 1) := by decide +kernel
theorem dL_law_1999 : decode cL_law 1999 = .ok (.iadd, 1) := by decide +kernel
theorem dL_law_2000 : decode cL_law 2000 = .ok (.iaload, 1) := by decide +kernel
theorem dL_law_2001 : decode cL_law 2001 = .ok (.aload_n 0, 1) := by decide +kernel
theorem dL_law_2002 : decode cL_law 2002 = .ok (.iload_n 3, 1) := by decide +kernel
theorem dL_law_2003 : decode cL_law 2003 = .ok (.iconst 2, 1) := by decide +kernel
theorem dL_law_2004 : decode cL_law 2004 = .ok (.iadd, 1) := by decide +kernel
theorem dL_law_2005 : decode cL_law 2005 = .ok (.iaload, 1) := by decide +kernel
theorem dL_law_2006 : decode cL_law 2006 = .ok (.invokevirtual 270, 3) := by decide +kernel
theorem dL_law_2009 : decode cL_law 2009 = .ok (.aload_n 2, 1) := by decide +kernel
theorem dL_law_2010 : decode cL_law 2010 = .ok (.aload_n 0, 1) := by decide +kernel
theorem dL_law_2011 : decode cL_law 2011 = .ok (.iload_n 3, 1) := by decide +kernel
theorem dL_law_2012 : decode cL_law 2012 = .ok (.iconst 1, 1) := by decide +kernel
theorem dL_law_2013 : decode cL_law 2013 = .ok (.iadd, 1) := by decide +kernel
theorem dL_law_2014 : decode cL_law 2014 = .ok (.iaload, 1) := by decide +kernel
theorem dL_law_2015 : decode cL_law 2015 = .ok (.aload_n 0, 1) := by decide +kernel
theorem dL_law_2016 : decode cL_law 2016 = .ok (.iload_n 3, 1) := by decide +kernel
theorem dL_law_2017 : decode cL_law 2017 = .ok (.iconst 2, 1) := by decide +kernel
theorem dL_law_2018 : decode cL_law 2018 = .ok (.iadd, 1) := by decide +kernel
theorem dL_law_2019 : decode cL_law 2019 = .ok (.iaload, 1) := by decide +kernel
