theorem dk_1592 : decode code 1592 = .ok (.iconst 2, 1) := by decide +kernel
theorem dk_1593 : decode code 1593 = .ok (.iadd, 1) := by decide +kernel
theorem dk_1594 : decode code 1594 = .ok (.iaload, 1) := by decide +kernel
theorem dk_1595 : decode code 1595 = .ok (.invokevirtual 187, 3) := by decide +kernel
theorem dk_1598 : decode code 1598 = .ok (.pop, 1) := by decide +kernel
theorem dk_1599 : decode code 1599 = .ok (.aload_n 2, 1) := by decide +kernel
theorem dk_1600 : decode code 1600 = .ok (.aload_n 0, 1) := by decide +kernel
theorem dk_1601 : decode code 1601 = .ok (.iload_n 3, 1) := by decide +kernel
theorem dk_1602 : decode code 1602 = .ok (.iconst 1, 1) := by decide +kernel
theorem dk_1603 : decode code 1603 = .ok (.iadd, 1) := by decide +kernel
theorem dk_1604 : decode code 1604 = .ok (.iaload, 1) := by decide +kernel
theorem dk_1605 : decode code 1605 = .ok (.aload_n 0, 1) := by decide +kernel
theorem dk_1606 : decode code 1606 = .ok (.iload_n 3, 1) := by decide +kernel
theorem dk_1607 : decode code 1607 = .ok (.iconst 2, 1) := by decide +kernel
theorem dk_1608 : decode code 1608 = .ok (.iadd, 1) := by decide +kernel
theorem dk_1609 : decode code 1609 = .ok (.iaload, 1) := by decide +kernel
theorem dk_1610 : decode code 1610 = .ok (.invokevirtual 190, 3) := by decide +kernel
theorem dk_1613 : decode code 1613 = .ok (.pop, 1) := by decide +kernel
theorem dk_1614 : decode code 1614 = .ok (.goto (809), 3) := by decide +kernel
theorem dk_1617 : decode code 1617 = .ok (.aload_n 1, 1) := by decide +kernel
theorem dk_1618 : decode code 1618 = .ok (.aload_n 0, 1) := by decide +kernel
theorem dk_1619 : decode code 1619 = .ok (.iload_n 3, 1) := by decide +kernel
theorem dk_1620 : decode code 1620 = .ok (.iconst 1, 1) := by decide +kernel
theorem dk_1621 : decode code 1621 = .ok (.iadd, 1) := by decide +kernel
theorem dk_1622 : decode code 1622 = .ok (.iaload, 1) := by decide +kernel
theorem dk_1623 : decode code 1623 = .ok (.aload_n 0, 1) := by decide +kernel
theorem dk_1624 : decode code 1624 = .ok (.iload_n 3, 1) := by decide +kernel
theorem dk_1625 : decode code 1625 = .ok (.iconst 2, 1) := by decide +kernel
theorem dk_1626 : decode code 1626 = .ok (.iadd, 1) := by decide +kernel
theorem dk_1627 : decode code 1627 = .ok (.iaload, 1) := by decide +kernel
theorem dk_1628 : decode code 1628 = .ok (.aload_n 0, 1) := by decide +kernel
theorem dk_1629 : decode code 1629 = .ok (.iload_n 3, 1) := by decide +kernel
theorem dk_1630 : decode code 1630 = .ok (.iconst 3, 1) := by decide +kernel
theorem dk_1631 : decode code 1631 = .ok (.iadd, 1) := by decide +kernel
theorem dk_1632 : decode code 1632 = .ok (.iaload, 1) := by decide +kernel
theorem dk_1633 : decode code 1633 = .ok (.invokevirtual 191, 3) := by decide +kernel
theorem dk_1636 : decode code 1636 = .ok (.pop, 1) := by decide +kernel
theorem dk_1637 : decode code 1637 = .ok (.aload_n 2, 1) := by decide +kernel
theorem dk_1638 : decode code 1638 = .ok (.aload_n 0, 1) := by decide +kernel
theorem dk_1639 : decode code 1639 = .ok (.iload_n 3, 1) := by decide +kernel
theorem dk_1640 : decode code 1640 = .ok (.iconst 1, 1) := by decide +kernel
theorem dk_1641 : decode code 1641 = .ok (.iadd, 1) := by decide +kernel
theorem dk_1642 : decode code 1642 = .ok (.iaload, 1) := by decide +kernel
theorem dk_1643 : decode code 1643 = .ok (.aload_n 0, 1) := by decide +kernel
theorem dk_1644 : decode code 1644 = .ok (.iload_n 3, 1) := by decide +kernel
theorem dk_1645 : decode code 1645 = .ok (.iconst 2, 1) := by decide +kernel
theorem dk_1646 : decode code 1646 = .ok (.iadd, 1) := by decide +kernel
theorem dk_1647 : decode code 1647 = .ok (.iaload, 1) := by decide +kernel
theorem dk_1648 : decode code 1648 = .ok (.aload_n 0, 1) := by decide +kernel
theorem dk_1649 : decode code 1649 = .ok (.iload_n 3, 1) := by decide +kernel
theorem dk_1650 : decode code 1650 = .ok (.iconst 3, 1) := by decide +kernel
theorem dk_1651 : decode code 1651 = .ok (.iadd, 1) := by decide +kernel
theorem dk_1652 : decode code 1652 = .ok (.iaload, 1) := by decide +kernel
theorem dk_1653 : decode code 1653 = .ok (.invokevirtual 194, 3) := by decide +kernel
theorem dk_1656 : decode code 1656 = .ok (.pop, 1) := by decide +kernel
theorem dk_1657 : decode code 1657 = .ok (.goto (766), 3) := by decide +kernel
theorem dk_1660 : decode code 1660 = .ok (.aload_n 1, 1) := by decide +kernel
theorem dk_1661 : decode code 1661 = .ok (.aload_n 0, 1) := by decide +kernel
theorem dk_1662 : decode code 1662 = .ok (.iload_n 3, 1) := by decide +kernel
theorem dk_1663 : decode code 1663 = .ok (.iconst 1, 1) := by decide +kernel
theorem dk_1664 : decode code 1664 = .ok (.iadd, 1) := by decide +kernel
theorem dk_1665 : decode code 1665 = .ok (.iaload, 1) := by decide +kernel
theorem dk_1666 : decode code 1666 = .ok (.aload_n 0, 1) := by decide +kernel
theorem dk_1667 : decode code 1667 = .ok (.iload_n 3, 1) := by decide +kernel
theorem dk_1668 : decode code 1668 = .ok (.iconst 2, 1) := by decide +kernel
theorem dk_1669 : decode code 1669 = .ok (.iadd, 1) := by decide +kernel
theorem dk_1670 : decode code 1670 = .ok (.iaload, 1) := by decide +kernel
theorem dk_1671 : decode code 1671 = .ok (.aload_n 0, 1) := by decide +kernel
theorem dk_1672 : decode code 1672 = .ok (.iload_n 3, 1) := by decide +kernel
theorem dk_1673 : decode code 1673 = .ok (.iconst 3, 1) := by decide +kernel
theorem dk_1674 : decode code 1674 = .ok (.iadd, 1) := by decide +kernel
theorem dk_1675 : decode code 1675 = .ok (.iaload, 1) := by decide +kernel
theorem dk_1676 : decode code 1676 = .ok (.aload_n 0, 1) := by decide +kernel
theorem dk_1677 : decode code 1677 = .ok (.iload_n 3, 1) := by decide +kernel
theorem dk_1678 : decode code 1678 = .ok (.iconst 4, 1) := by decide +kernel
theorem dk_1679 : decode code 1679 = .ok (.iadd, 1) := by decide +kernel
theorem dk_1680 : decode code 1680 = .ok (.iaload, 1) := by decide +kernel
theorem dk_1681 : decode code 1681 = .ok (.invokevirtual 195, 3) := by decide +kernel
theorem dk_1684 : decode code 1684 = .ok (.pop, 1) := by decide +kernel
theorem dk_1685 : decode code 1685 = .ok (.aload_n 2, 1) := by decide +kernel
theorem dk_1686 : decode code 1686 = .ok (.aload_n 0, 1) := by decide +kernel
theorem dk_1687 : decode code 1687 = .ok (.iload_n 3, 1) := by decide +kernel
theorem dk_1688 : decode code 1688 = .ok (.iconst 1, 1) := by decide +kernel
theorem dk_1689 : decode code 1689 = .ok (.iadd, 1) := by decide +kernel
theorem dk_1690 : decode code 1690 = .ok (.iaload, 1) := by decide +kernel
theorem dk_1691 : decode code 1691 = .ok (.aload_n 0, 1) := by decide +kernel
theorem dk_1692 : decode code 1692 = .ok (.iload_n 3, 1) := by decide +kernel
theorem dk_1693 : decode code 1693 = .ok (.iconst 2, 1) := by decide +kernel
theorem dk_1694 : decode code 1694 = .ok (.iadd, 1) := by decide +kernel
theorem dk_1695 : decode code 1695 = .ok (.iaload, 1) := by decide +kernel
theorem dk_1696 : decode code 1696 = .ok (.aload_n 0, 1) := by decide +kernel
theorem dk_1697 : decode code 1697 = .ok (.iload_n 3, 1) := by decide +kernel
theorem dk_1698 : decode code 1698 = .ok (.iconst 3, 1) := by decide +kernel
theorem dk_1699 : decode code 1699 = .ok (.iadd, 1) := by decide +kernel
theorem dk_1700 : decode code 1700 = .ok (.iaload, 1) := by decide +kernel
theorem dk_1701 : decode code 1701 = .ok (.aload_n 0, 1) := by decide +kernel
theorem dk_1702 : decode code 1702 = .ok (.iload_n 3, 1) := by decide +kernel
theorem dk_1703 : decode code 1703 = .ok (.iconst 4, 1) := by decide +kernel
theorem dk_1704 : decode code 1704 = .ok (.iadd, 1) := by decide +kernel
theorem dk_1705 : decode code 1705 = .ok (.iaload, 1) := by decide +kernel
theorem dk_1706 : decode code 1706 = .ok (.invokevirtual 198, 3) := by decide +kernel
theorem dk_1709 : decode code 1709 = .ok (.pop, 1) := by decide +kernel
theorem dk_1710 : decode code 1710 = .ok (.goto (713), 3) := by decide +kernel
theorem dk_1713 : decode code 1713 = .ok (.aload_n 1, 1) := by decide +kernel
theorem dk_1714 : decode code 1714 = .ok (.aload_n 0, 1) := by decide +kernel
theorem dk_1715 : decode code 1715 = .ok (.iload_n 3, 1) := by decide +kernel
theorem dk_1716 : decode code 1716 = .ok (.iconst 1, 1) := by decide +kernel
theorem dk_1717 : decode code 1717 = .ok (.iadd, 1) := by decide +kernel
theorem dk_1718 : decode code 1718 = .ok (.iaload, 1) := by decide +kernel
theorem dk_1719 : decode code 1719 = .ok (.invokevirtual 199, 3) := by decide +kernel
theorem dk_1722 : decode code 1722 = .ok (.pop, 1) := by decide +kernel
theorem dk_1723 : decode code 1723 = .ok (.aload_n 2, 1) := by decide +kernel
theorem dk_1724 : decode code 1724 = .ok (.aload_n 0, 1) := by decide +kernel
theorem dk_1725 : decode code 1725 = .ok (.iload_n 3, 1) := by decide +kernel
theorem dk_1726 : decode code 1726 = .ok (.iconst 1, 1) := by decide +kernel
theorem dk_1727 : decode code 1727 = .ok (.iadd, 1) := by decide +kernel
theorem dk_1728 : decode code 1728 = .ok (.iaload, 1) := by decide +kernel
theorem dk_1729 : decode code 1729 = .ok (.invokevirtual 202, 3) := by decide +kernel
theorem dk_1732 : decode code 1732 = .ok (.pop, 1) := by decide +kernel
theorem dk_1733 : decode code 1733 = .ok (.goto (690), 3) := by decide +kernel
theorem dk_1736 : decode code 1736 = .ok (.aload_n 1, 1) := by decide +kernel
theorem dk_1737 : decode code 1737 = .ok (.aload_n 0, 1) := by decide +kernel
theorem dk_1738 : decode code 1738 = .ok (.iload_n 3, 1) := by decide +kernel
theorem dk_1739 : decode code 1739 = .ok (.iconst 1, 1) := by decide +kernel
theorem dk_1740 : decode code 1740 = .ok (.iadd, 1) := by decide +kernel
theorem dk_1741 : decode code 1741 = .ok (.iaload, 1) := by decide +kernel
theorem dk_1742 : decode code 1742 = .ok (.aload_n 0, 1) := by decide +kernel
theorem dk_1743 : decode code 1743 = .ok (.iload_n 3, 1) := by decide +kernel
theorem dk_1744 : decode code 1744 = .ok (.iconst 2, 1) := by decide +kernel
theorem dk_1745 : decode code 1745 = .ok (.iadd, 1) := by decide +kernel
theorem dk_1746 : decode code 1746 = .ok (.iaload, 1) := by decide +kernel
theorem dk_1747 : decode code 1747 = .ok (.invokevirtual 203, 3) := by decide +kernel
theorem dk_1750 : decode code 1750 = .ok (.pop, 1) := by decide +kernel
theorem dk_1751 : decode code 1751 = .ok (.aload_n 2, 1) := by decide +kernel
theorem dk_1752 : decode code 1752 = .ok (.aload_n 0, 1) := by decide +kernel
theorem dk_1753 : decode code 1753 = .ok (.iload_n 3, 1) := by decide +kernel
theorem dk_1754 : decode code 1754 = .ok (.iconst 1, 1) := by decide +kernel
theorem dk_1755 : decode code 1755 = .ok (.iadd, 1) := by decide +kernel
theorem dk_1756 : decode code 1756 = .ok (.iaload, 1) := by decide +kernel
theorem dk_1757 : decode code 1757 = .ok (.aload_n 0, 1) := by decide +kernel
theorem dk_1758 : decode code 1758 = .ok (.iload_n 3, 1) := by decide +kernel
theorem dk_1759 : decode code 1759 = .ok (.iconst 2, 1) := by decide +kernel
theorem dk_1760 : decode code 1760 = .ok (.iadd, 1) := by decide +kernel
theorem dk_1761 : decode code 1761 = .ok (.iaload, 1) := by decide +kernel
theorem dk_1762 : decode code 1762 = .ok (.invokevirtual 206, 3) := by decide +kernel
theorem dk_1765 : decode code 1765 = .ok (.pop, 1) := by decide +kernel
theorem dk_1766 : decode code 1766 = .ok (.goto (657), 3) := by decide +kernel
theorem dk_1769 : decode code 1769 = .ok (.aload_n 1, 1) := by decide +kernel
theorem dk_1770 : decode code 1770 = .ok (.aload_n 0, 1) := by decide +kernel
theorem dk_1771 : decode code 1771 = .ok (.iload_n 3, 1) := by decide +kernel
theorem dk_1772 : decode code 1772 = .ok (.iconst 1, 1) := by decide +kernel
theorem dk_1773 : decode code 1773 = .ok (.iadd, 1) := by decide +kernel
theorem dk_1774 : decode code 1774 = .ok (.iaload, 1) := by decide +kernel
theorem dk_1775 : decode code 1775 = .ok (.invokevirtual 207, 3) := by decide +kernel
theorem dk_1778 : decode code 1778 = .ok (.pop, 1) := by decide +kernel
theorem dk_1779 : decode code 1779 = .ok (.aload_n 2, 1) := by decide +kernel
theorem dk_1780 : decode code 1780 = .ok (.aload_n 0, 1) := by decide +kernel
theorem dk_1781 : decode code 1781 = .ok (.iload_n 3, 1) := by decide +kernel
theorem dk_1782 : decode code 1782 = .ok (.iconst 1, 1) := by decide +kernel
theorem dk_1783 : decode code 1783 = .ok (.iadd, 1) := by decide +kernel
theorem dk_1784 : decode code 1784 = .ok (.iaload, 1) := by decide +kernel
theorem dk_1785 : decode code 1785 = .ok (.invokevirtual 210, 3) := by decide +kernel
theorem dk_1788 : decode code 1788 = .ok (.pop, 1) := by decide +kernel
theorem dk_1789 : decode code 1789 = .ok (.goto (634), 3) := by decide +kernel
theorem dk_1792 : decode code 1792 = .ok (.aload_n 1, 1) := by decide +kernel
theorem dk_1793 : decode code 1793 = .ok (.aload_n 0, 1) := by decide +kernel
theorem dk_1794 : decode code 1794 = .ok (.iload_n 3, 1) := by decide +kernel
theorem dk_1795 : decode code 1795 = .ok (.iconst 1, 1) := by decide +kernel
theorem dk_1796 : decode code 1796 = .ok (.iadd, 1) := by decide +kernel
theorem dk_1797 : decode code 1797 = .ok (.iaload, 1) := by decide +kernel
theorem dk_1798 : decode code 1798 = .ok (.invokevirtual 211, 3) := by decide +kernel
theorem dk_1801 : decode code 1801 = .ok (.pop, 1) := by decide +kernel
theorem dk_1802 : decode code 1802 = .ok (.aload_n 2, 1) := by decide +kernel
theorem dk_1803 : decode code 1803 = .ok (.aload_n 0, 1) := by decide +kernel
theorem dk_1804 : decode code 1804 = .ok (.iload_n 3, 1) := by decide +kernel
theorem dk_1805 : decode code 1805 = .ok (.iconst 1, 1) := by decide +kernel
theorem dk_1806 : decode code 1806 = .ok (.iadd, 1) := by decide +kernel
theorem dk_1807 : decode code 1807 = .ok (.iaload, 1) := by decide +kernel
theorem dk_1808 : decode code 1808 = .ok (.invokevirtual 214, 3) := by decide +kernel
theorem dk_1811 : decode code 1811 = .ok (.pop, 1) := by decide +kernel
theorem dk_1812 : decode code 1812 = .ok (.goto (611), 3) := by decide +kernel
theorem dk_1815 : decode code 1815 = .ok (.aload_n 1, 1) := by decide +kernel
theorem dk_1816 : decode code 1816 = .ok (.aload_n 0, 1) := by decide +kernel
theorem dk_1817 : decode code 1817 = .ok (.iload_n 3, 1) := by decide +kernel
theorem dk_1818 : decode code 1818 = .ok (.iconst 1, 1) := by decide +kernel
theorem dk_1819 : decode code 1819 = .ok (.iadd, 1) := by decide +kernel
theorem dk_1820 : decode code 1820 = .ok (.iaload, 1) := by decide +kernel
theorem dk_1821 : decode code 1821 = .ok (.invokevirtual 215, 3) := by decide +kernel
theorem dk_1824 : decode code 1824 = .ok (.pop, 1) := by decide +kernel
theorem dk_1825 : decode code 1825 = .ok (.aload_n 2, 1) := by decide +kernel
theorem dk_1826 : decode code 1826 = .ok (.aload_n 0, 1) := by decide +kernel
theorem dk_1827 : decode code 1827 = .ok (.iload_n 3, 1) := by decide +kernel
theorem dk_1828 : decode code 1828 = .ok (.iconst 1, 1) := by decide +kernel
theorem dk_1829 : decode code 1829 = .ok (.iadd, 1) := by decide +kernel
theorem dk_1830 : decode code 1830 = .ok (.iaload, 1) := by decide +kernel
theorem dk_1831 : decode code 1831 = .ok (.invokevirtual 218, 3) := by decide +kernel
theorem dk_1834 : decode code 1834 = .ok (.pop, 1) := by decide +kernel
theorem dk_1835 : decode code 1835 = .ok (.goto (588), 3) := by decide +kernel
theorem dk_1838 : decode code 1838 = .ok (.aload_n 1, 1) := by decide +kernel
theorem dk_1839 : decode code 1839 = .ok (.aload_n 0, 1) := by decide +kernel
theorem dk_1840 : decode code 1840 = .ok (.iload_n 3, 1) := by decide +kernel
theorem dk_1841 : decode code 1841 = .ok (.iconst 1, 1) := by decide +kernel
theorem dk_1842 : decode code 1842 = .ok (.iadd, 1) := by decide +kernel
theorem dk_1843 : decode code 1843 = .ok (.iaload, 1) := by decide +kernel
theorem dk_1844 : decode code 1844 = .ok (.aload_n 0, 1) := by decide +kernel
theorem dk_1845 : decode code 1845 = .ok (.iload_n 3, 1) := by decide +kernel
theorem dk_1846 : decode code 1846 = .ok (.iconst 2, 1) := by decide +kernel
theorem dk_1847 : decode code 1847 = .ok (.iadd, 1) := by decide +kernel
theorem dk_1848 : decode code 1848 = .ok (.iaload, 1) := by decide +kernel
theorem dk_1849 : decode code 1849 = .ok (.aload_n 0, 1) := by decide +kernel
theorem dk_1850 : decode code 1850 = .ok (.iload_n 3, 1) := by decide +kernel
theorem dk_1851 : decode code 1851 = .ok (.iconst 3, 1) := by decide +kernel
theorem dk_1852 : decode code 1852 = .ok (.iadd, 1) := by decide +kernel
theorem dk_1853 : decode code 1853 = .ok (.iaload, 1) := by decide +kernel
theorem dk_1854 : decode code 1854 = .ok (.invokevirtual 219, 3) := by decide +kernel
theorem dk_1857 : decode code 1857 = .ok (.pop, 1) := by decide +kernel
theorem dk_1858 : decode code 1858 = .ok (.aload_n 2, 1) := by decide +kernel
theorem dk_1859 : decode code 1859 = .ok (.aload_n 0, 1) := by decide +kernel
theorem dk_1860 : decode code 1860 = .ok (.iload_n 3, 1) := by decide +kernel
theorem dk_1861 : decode code 1861 = .ok (.iconst 1, 1) := by decide +kernel
theorem dk_1862 : decode code 1862 = .ok (.iadd, 1) := by decide +kernel
theorem dk_1863 : decode code 1863 = .ok (.iaload, 1) := by decide +kernel
theorem dk_1864 : decode code 1864 = .ok (.aload_n 0, 1) := by decide +kernel
theorem dk_1865 : decode code 1865 = .ok (.iload_n 3, 1) := by decide +kernel
theorem dk_1866 : decode code 1866 = .ok (.iconst 2, 1) := by decide +kernel
theorem dk_1867 : decode code 1867 = .ok (.iadd, 1) := by decide +kernel
theorem dk_1868 : decode code 1868 = .ok (.iaload, 1) := by decide +kernel
theorem dk_1869 : decode code 1869 = .ok (.aload_n 0, 1) := by decide +kernel
theorem dk_1870 : decode code 1870 = .ok (.iload_n 3, 1) := by decide +kernel
theorem dk_1871 : decode code 1871 = .ok (.iconst 3, 1) := by decide +kernel
theorem dk_1872 : decode code 1872 = .ok (.iadd, 1) := by decide +kernel
theorem dk_1873 : decode code 1873 = .ok (.iaload, 1) := by decide +kernel
theorem dk_1874 : decode code 1874 = .ok (.invokevirtual 222, 3) := by decide +kernel
theorem dk_1877 : decode code 1877 = .ok (.pop, 1) := by decide +kernel
theorem dk_1878 : decode code 1878 = .ok (.goto (545), 3) := by decide +kernel
theorem dk_1881 : decode code 1881 = .ok (.aload_n 1, 1) := by decide +kernel
theorem dk_1882 : decode code 1882 = .ok (.aload_n 0, 1) := by decide +kernel
theorem dk_1883 : decode code 1883 = .ok (.iload_n 3, 1) := by decide +kernel
theorem dk_1884 : decode code 1884 = .ok (.iconst 1, 1) := by decide +kernel
theorem dk_1885 : decode code 1885 = .ok (.iadd, 1) := by decide +kernel
theorem dk_1886 : decode code 1886 = .ok (.iaload, 1) := by decide +kernel
theorem dk_1887 : decode code 1887 = .ok (.aload_n 0, 1) := by decide +kernel
theorem dk_1888 : decode code 1888 = .ok (.iload_n 3, 1) := by decide +kernel
theorem dk_1889 : decode code 1889 = .ok (.iconst 2, 1) := by decide +kernel
theorem dk_1890 : decode code 1890 = .ok (.iadd, 1) := by decide +kernel
theorem dk_1891 : decode code 1891 = .ok (.iaload, 1) := by decide +kernel
theorem dk_1892 : decode code 1892 = .ok (.invokevirtual 223, 3) := by decide +kernel
theorem dk_1895 : decode code 1895 = .ok (.pop, 1) := by decide +kernel
theorem dk_1896 : decode code 1896 = .ok (.aload_n 2, 1) := by decide +kernel
theorem dk_1897 : decode code 1897 = .ok (.aload_n 0, 1) := by decide +kernel
theorem dk_1898 : decode code 1898 = .ok (.iload_n 3, 1) := by decide +kernel
theorem dk_1899 : decode code 1899 = .ok (.iconst 1, 1) := by decide +kernel
theorem dk_1900 : decode code 1900 = .ok (.iadd, 1) := by decide +kernel
theorem dk_1901 : decode code 1901 = .ok (.iaload, 1) := by decide +kernel
theorem dk_1902 : decode code 1902 = .ok (.aload_n 0, 1) := by decide +kernel
theorem dk_1903 : decode code 1903 = .ok (.iload_n 3, 1) := by decide +kernel
theorem dk_1904 : decode code 1904 = .ok (.iconst 2, 1) := by decide +kernel
theorem dk_1905 : decode code 1905 = .ok (.iadd, 1) := by decide +kernel
theorem dk_1906 : decode code 1906 = .ok (.iaload, 1) := by decide +kernel
theorem dk_1907 : decode code 1907 = .ok (.invokevirtual 226, 3) := by decide +kernel
theorem dk_1910 : decode code 1910 = .ok (.pop, 1) := by decide +kernel
theorem dk_1911 : decode code 1911 = .ok (.goto (512), 3) := by decide +kernel
theorem dk_1914 : decode code 1914 = .ok (.aload_n 1, 1) := by decide +kernel
theorem dk_1915 : decode code 1915 = .ok (.aload_n 0, 1) := by decide +kernel
theorem dk_1916 : decode code 1916 = .ok (.iload_n 3, 1) := by decide +kernel
theorem dk_1917 : decode code 1917 = .ok (.iconst 1, 1) := by decide +kernel
theorem dk_1918 : decode code 1918 = .ok (.iadd, 1) := by decide +kernel
theorem dk_1919 : decode code 1919 = .ok (.iaload, 1) := by decide +kernel
theorem dk_1920 : decode code 1920 = .ok (.invokevirtual 227, 3) := by decide +kernel
theorem dk_1923 : decode code 1923 = .ok (.pop, 1) := by decide +kernel
theorem dk_1924 : decode code 1924 = .ok (.aload_n 2, 1) := by decide +kernel
theorem dk_1925 : decode code 1925 = .ok (.aload_n 0, 1) := by decide +kernel
theorem dk_1926 : decode code 1926 = .ok (.iload_n 3, 1) := by decide +kernel
theorem dk_1927 : decode code 1927 = .ok (.iconst 1, 1) := by decide +kernel
theorem dk_1928 : decode code 1928 = .ok (.iadd, 1) := by decide +kernel
theorem dk_1929 : decode code 1929 = .ok (.iaload, 1) := by decide +kernel
theorem dk_1930 : decode code 1930 = .ok (.invokevirtual 230, 3) := by decide +kernel
theorem dk_1933 : decode code 1933 = .ok (.pop, 1) := by decide +kernel
theorem dk_1934 : decode code 1934 = .ok (.goto (489), 3) := by decide +kernel
theorem dk_1937 : decode code 1937 = .ok (.aload_n 1, 1) := by decide +kernel
theorem dk_1938 : decode code 1938 = .ok (.aload_n 0, 1) := by decide +kernel
theorem dk_1939 : decode code 1939 = .ok (.iload_n 3, 1) := by decide +kernel
theorem dk_1940 : decode code 1940 = .ok (.iconst 1, 1) := by decide +kernel
theorem dk_1941 : decode code 1941 = .ok (.iadd, 1) := by decide +kernel
theorem dk_1942 : decode code 1942 = .ok (.iaload, 1) := by decide +kernel
theorem dk_1943 : decode code 1943 = .ok (.invokevirtual 231, 3) := by decide +kernel
theorem dk_1946 : decode code 1946 = .ok (.pop, 1) := by decide +kernel
theorem dk_1947 : decode code 1947 = .ok (.aload_n 2, 1) := by decide +kernel
theorem dk_1948 : decode code 1948 = .ok (.aload_n 0, 1) := by decide +kernel
theorem dk_1949 : decode code 1949 = .ok (.iload_n 3, 1) := by decide +kernel
theorem dk_1950 : decode code 1950 = .ok (.iconst 1, 1) := by decide +kernel
theorem dk_1951 : decode code 1951 = .ok (.iadd, 1) := by decide +kernel
theorem dk_1952 : decode code 1952 = .ok (.iaload, 1) := by decide +kernel
theorem dk_1953 : decode code 1953 = .ok (.invokevirtual 234, 3) := by decide +kernel
theorem dk_1956 : decode code 1956 = .ok (.pop, 1) := by decide +kernel
theorem dk_1957 : decode code 1957 = .ok (.goto (466), 3) := by decide +kernel
theorem dk_1960 : decode code 1960 = .ok (.aload_n 1, 1) := by decide +kernel
theorem dk_1961 : decode code 1961 = .ok (.aload_n 0, 1) := by decide +kernel
theorem dk_1962 : decode code 1962 = .ok (.iload_n 3, 1) := by decide +kernel
theorem dk_1963 : decode code 1963 = .ok (.iconst 1, 1) := by decide +kernel
theorem dk_1964 : decode code 1964 = .ok (.iadd, 1) := by decide +kernel
theorem dk_1965 : decode code 1965 = .ok (.iaload, 1) := by decide +kernel
theorem dk_1966 : decode code 1966 = .ok (.invokevirtual 235, 3) := by decide +kernel
theorem dk_1969 : decode code 1969 = .ok (.pop, 1) := by decide +kernel
theorem dk_1970 : decode code 1970 = .ok (.aload_n 2, 1) := by decide +kernel
theorem dk_1971 : decode code 1971 = .ok (.aload_n 0, 1) := by decide +kernel
theorem dk_1972 : decode code 1972 = .ok (.iload_n 3, 1) := by decide +kernel
theorem dk_1973 : decode code 1973 = .ok (.iconst 1, 1) := by decide +kernel
theorem dk_1974 : decode code 1974 = .ok (.iadd, 1) := by decide +kernel
theorem dk_1975 : decode code 1975 = .ok (.iaload, 1) := by decide +kernel
theorem dk_1976 : decode code 1976 = .ok (.invokevirtual 238, 3) := by decide +kernel
theorem dk_1979 : decode code 1979 = .ok (.pop, 1) := by decide +kernel
theorem dk_1980 : decode code 1980 = .ok (.goto (443), 3) := by decide +kernel
theorem dk_1983 : decode code 1983 = .ok (.aload_n 1, 1) := by decide +kernel
theorem dk_1984 : decode code 1984 = .ok (.aload_n 0, 1) := by decide +kernel
theorem dk_1985 : decode code 1985 = .ok (.iload_n 3, 1) := by decide +kernel
theorem dk_1986 : decode code 1986 = .ok (.iconst 1, 1) := by decide +kernel
theorem dk_1987 : decode code 1987 = .ok (.iadd, 1) := by decide +kernel
theorem dk_1988 : decode code 1988 = .ok (.iaload, 1) := by decide +kernel
theorem dk_1989 : decode code 1989 = .ok (.aload_n 0, 1) := by decide +kernel
theorem dk_1990 : decode code 1990 = .ok (.iload_n 3, 1) := by decide +kernel
theorem dk_1991 : decode code 1991 = .ok (.iconst 2, 1) := by decide +kernel
theorem dk_1992 : decode code 1992 = .ok (.iadd, 1) := by decide +kernel
theorem dk_1993 : decode code 1993 = .ok (.iaload, 1) := by decide +kernel
theorem dk_1994 : decode code 1994 = .ok (.aload_n 0, 1) := by decide +kernel
theorem dk_1995 : decode code 1995 = .ok (.iload_n 3, 1) := by decide +kernel
theorem dk_1996 : decode code 1996 = .ok (.iconst 3, 1) := by decide +kernel
theorem dk_1997 : decode code 1997 = .ok (.iadd, 1) := by decide +kernel
theorem dk_1998 : decode code 1998 = .ok (.iaload, 1) := by decide +kernel
theorem dk_1999 : decode code 1999 = .ok (.invokevirtual 239, 3) := by decide +kernel
theorem dk_2002 : decode code 2002 = .ok (.pop2, 1) := by decide +kernel
theorem dk_2003 : decode code 2003 = .ok (.aload_n 2, 1) := by decide +kernel
theorem dk_2004 : decode code 2004 = .ok (.aload_n 0, 1) := by decide +kernel
theorem dk_2005 : decode code 2005 = .ok (.iload_n 3, 1) := by decide +kernel
theorem dk_2006 : decode code 2006 = .ok (.iconst 1, 1) := by decide +kernel
theorem dk_2007 : decode code 2007 = .ok (.iadd, 1) := by decide +kernel
theorem dk_2008 : decode code 2008 = .ok (.iaload, 1) := by decide +kernel
theorem dk_2009 : decode code 2009 = .ok (.aload_n 0, 1) := by decide +kernel
theorem dk_2010 : decode code 2010 = .ok (.iload_n 3, 1) := by decide +kernel
theorem dk_2011 : decode code 2011 = .ok (.iconst 2, 1) := by decide +kernel
theorem dk_2012 : decode code 2012 = .ok (.iadd, 1) := by decide +kernel
theorem dk_2013 : decode code 2013 = .ok (.iaload, 1) := by decide +kernel
theorem dk_2014 : decode code 2014 = .ok (.aload_n 0, 1) := by decide +kernel
theorem dk_2015 : decode code 2015 = .ok (.iload_n 3, 1) := by decide +kernel
