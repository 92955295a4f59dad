theorem dL_law_1660 : decode code 1660 = .ok (.invokevirtual 113, 3) := by decide +kernel
theorem dL_law_1663 : decode code 1663 = .ok (.iload 5, 2) := by decide +kernel
theorem dL_law_1665 : decode code 1665 = .ok (.if_icmp .eq 5, 3) := by decide +kernel
theorem dL_law_1668 : decode code 1668 = .ok (.iconst 0, 1) := by decide +kernel
theorem dL_law_1669 : decode code 1669 = .ok (.ireturn, 1) := by decide +kernel
theorem dL_law_1670 : decode code 1670 = .ok (.iload 5, 2) := by decide +kernel
theorem dL_law_1672 : decode code 1672 = .ok (.ifCond .ne 15, 3) := by decide +kernel
theorem dL_law_1675 : decode code 1675 = .ok (.aload_n 3, 1) := by decide +kernel
theorem dL_law_1676 : decode code 1676 = .ok (.iconst 0, 1) := by decide +kernel
theorem dL_law_1677 : decode code 1677 = .ok (.laload, 1) := by decide +kernel
theorem dL_law_1678 : decode code 1678 = .ok (.iload 6, 2) := by decide +kernel
theorem dL_law_1680 : decode code 1680 = .ok (.i2l, 1) := by decide +kernel
theorem dL_law_1681 : decode code 1681 = .ok (.lcmp, 1) := by decide +kernel
theorem dL_law_1682 : decode code 1682 = .ok (.ifCond .eq 5, 3) := by decide +kernel
theorem dL_law_1685 : decode code 1685 = .ok (.iconst 0, 1) := by decide +kernel
theorem dL_law_1686 : decode code 1686 = .ok (.ireturn, 1) := by decide +kernel
theorem dL_law_1687 : decode code 1687 = .ok (.goto 194, 3) := by decide +kernel
theorem dL_law_1690 : decode code 1690 = .ok (.aload_n 1, 1) := by decide +kernel
theorem dL_law_1691 : decode code 1691 = .ok (.aload_n 0, 1) := by decide +kernel
theorem dL_law_1692 : decode code 1692 = .ok (.iload 4, 2) := by decide +kernel
theorem dL_law_1694 : decode code 1694 = .ok (.iconst 1, 1) := by decide +kernel
theorem dL_law_1695 : decode code 1695 = .ok (.iadd, 1) := by decide +kernel
theorem dL_law_1696 : decode code 1696 = .ok (.iaload, 1) := by decide +kernel
theorem dL_law_1697 : decode code 1697 = .ok (.aload_n 3, 1) := by decide +kernel
theorem dL_law_1698 : decode code 1698 = .ok (.invokestatic 190, 3) := by decide +kernel
theorem dL_law_1701 : decode code 1701 = .ok (.istore 5, 2) := by decide +kernel
theorem dL_law_1703 : decode code 1703 = .ok (.aload_n 2, 1) := by decide +kernel
theorem dL_law_1704 : decode code 1704 = .ok (.aload_n 0, 1) := by decide +kernel
theorem dL_law_1705 : decode code 1705 = .ok (.iload 4, 2) := by decide +kernel
theorem dL_law_1707 : decode code 1707 = .ok (.iconst 1, 1) := by decide +kernel
theorem dL_law_1708 : decode code 1708 = .ok (.iadd, 1) := by decide +kernel
theorem dL_law_1709 : decode code 1709 = .ok (.iaload, 1) := by decide +kernel
theorem dL_law_1710 : decode code 1710 = .ok (.invokevirtual 192, 3) := by decide +kernel
theorem dL_law_1713 : decode code 1713 = .ok (.lstore 6, 2) := by decide +kernel
theorem dL_law_1715 : decode code 1715 = .ok (.aload_n 2, 1) := by decide +kernel
theorem dL_law_1716 : decode code 1716 = .ok (.invokevirtual 113, 3) := by decide +kernel
theorem dL_law_1719 : decode code 1719 = .ok (.iload 5, 2) := by decide +kernel
theorem dL_law_1721 : decode code 1721 = .ok (.if_icmp .eq 5, 3) := by decide +kernel
theorem dL_law_1724 : decode code 1724 = .ok (.iconst 0, 1) := by decide +kernel
theorem dL_law_1725 : decode code 1725 = .ok (.ireturn, 1) := by decide +kernel
theorem dL_law_1726 : decode code 1726 = .ok (.iload 5, 2) := by decide +kernel
theorem dL_law_1728 : decode code 1728 = .ok (.ifCond .ne 14, 3) := by decide +kernel
theorem dL_law_1731 : decode code 1731 = .ok (.aload_n 3, 1) := by decide +kernel
theorem dL_law_1732 : decode code 1732 = .ok (.iconst 0, 1) := by decide +kernel
theorem dL_law_1733 : decode code 1733 = .ok (.laload, 1) := by decide +kernel
theorem dL_law_1734 : decode code 1734 = .ok (.lload 6, 2) := by decide +kernel
theorem dL_law_1736 : decode code 1736 = .ok (.lcmp, 1) := by decide +kernel
theorem dL_law_1737 : decode code 1737 = .ok (.ifCond .eq 5, 3) := by decide +kernel
theorem dL_law_1740 : decode code 1740 = .ok (.iconst 0, 1) := by decide +kernel
theorem dL_law_1741 : decode code 1741 = .ok (.ireturn, 1) := by decide +kernel
theorem dL_law_1742 : decode code 1742 = .ok (.goto 139, 3) := by decide +kernel
theorem dL_law_1745 : decode code 1745 = .ok (.aload_n 1, 1) := by decide +kernel
theorem dL_law_1746 : decode code 1746 = .ok (.aload_n 0, 1) := by decide +kernel
theorem dL_law_1747 : decode code 1747 = .ok (.iload 4, 2) := by decide +kernel
theorem dL_law_1749 : decode code 1749 = .ok (.iconst 1, 1) := by decide +kernel
theorem dL_law_1750 : decode code 1750 = .ok (.iadd, 1) := by decide +kernel
theorem dL_law_1751 : decode code 1751 = .ok (.iaload, 1) := by decide +kernel
theorem dL_law_1752 : decode code 1752 = .ok (.aload_n 3, 1) := by decide +kernel
theorem dL_law_1753 : decode code 1753 = .ok (.invokestatic 193, 3) := by decide +kernel
theorem dL_law_1756 : decode code 1756 = .ok (.istore 5, 2) := by decide +kernel
theorem dL_law_1758 : decode code 1758 = .ok (.aload_n 2, 1) := by decide +kernel
theorem dL_law_1759 : decode code 1759 = .ok (.aload_n 0, 1) := by decide +kernel
theorem dL_law_1760 : decode code 1760 = .ok (.iload 4, 2) := by decide +kernel
theorem dL_law_1762 : decode code 1762 = .ok (.iconst 1, 1) := by decide +kernel
theorem dL_law_1763 : decode code 1763 = .ok (.iadd, 1) := by decide +kernel
theorem dL_law_1764 : decode code 1764 = .ok (.iaload, 1) := by decide +kernel
theorem dL_law_1765 : decode code 1765 = .ok (.invokevirtual 195, 3) := by decide +kernel
theorem dL_law_1768 : decode code 1768 = .ok (.istore 6, 2) := by decide +kernel
theorem dL_law_1770 : decode code 1770 = .ok (.aload_n 2, 1) := by decide +kernel
theorem dL_law_1771 : decode code 1771 = .ok (.invokevirtual 113, 3) := by decide +kernel
theorem dL_law_1774 : decode code 1774 = .ok (.iload 5, 2) := by decide +kernel
theorem dL_law_1776 : decode code 1776 = .ok (.if_icmp .eq 5, 3) := by decide +kernel
theorem dL_law_1779 : decode code 1779 = .ok (.iconst 0, 1) := by decide +kernel
theorem dL_law_1780 : decode code 1780 = .ok (.ireturn, 1) := by decide +kernel
theorem dL_law_1781 : decode code 1781 = .ok (.iload 5, 2) := by decide +kernel
theorem dL_law_1783 : decode code 1783 = .ok (.ifCond .ne 15, 3) := by decide +kernel
theorem dL_law_1786 : decode code 1786 = .ok (.aload_n 3, 1) := by decide +kernel
theorem dL_law_1787 : decode code 1787 = .ok (.iconst 0, 1) := by decide +kernel
theorem dL_law_1788 : decode code 1788 = .ok (.laload, 1) := by decide +kernel
theorem dL_law_1789 : decode code 1789 = .ok (.iload 6, 2) := by decide +kernel
theorem dL_law_1791 : decode code 1791 = .ok (.i2l, 1) := by decide +kernel
theorem dL_law_1792 : decode code 1792 = .ok (.lcmp, 1) := by decide +kernel
theorem dL_law_1793 : decode code 1793 = .ok (.ifCond .eq 5, 3) := by decide +kernel
theorem dL_law_1796 : decode code 1796 = .ok (.iconst 0, 1) := by decide +kernel
theorem dL_law_1797 : decode code 1797 = .ok (.ireturn, 1) := by decide +kernel
theorem dL_law_1798 : decode code 1798 = .ok (.goto 83, 3) := by decide +kernel
theorem dL_law_1801 : decode code 1801 = .ok (.aload_n 1, 1) := by decide +kernel
theorem dL_law_1802 : decode code 1802 = .ok (.aload_n 0, 1) := by decide +kernel
theorem dL_law_1803 : decode code 1803 = .ok (.iload 4, 2) := by decide +kernel
theorem dL_law_1805 : decode code 1805 = .ok (.iconst 1, 1) := by decide +kernel
theorem dL_law_1806 : decode code 1806 = .ok (.iadd, 1) := by decide +kernel
theorem dL_law_1807 : decode code 1807 = .ok (.iaload, 1) := by decide +kernel
theorem dL_law_1808 : decode code 1808 = .ok (.aload_n 0, 1) := by decide +kernel
theorem dL_law_1809 : decode code 1809 = .ok (.iload 4, 2) := by decide +kernel
theorem dL_law_1811 : decode code 1811 = .ok (.iconst 2, 1) := by decide +kernel
theorem dL_law_1812 : decode code 1812 = .ok (.iadd, 1) := by decide +kernel
theorem dL_law_1813 : decode code 1813 = .ok (.iaload, 1) := by decide +kernel
theorem dL_law_1814 : decode code 1814 = .ok (.aload_n 0, 1) := by decide +kernel
theorem dL_law_1815 : decode code 1815 = .ok (.iload 4, 2) := by decide +kernel
theorem dL_law_1817 : decode code 1817 = .ok (.iconst 3, 1) := by decide +kernel
theorem dL_law_1818 : decode code 1818 = .ok (.iadd, 1) := by decide +kernel
theorem dL_law_1819 : decode code 1819 = .ok (.iaload, 1) := by decide +kernel
theorem dL_law_1820 : decode code 1820 = .ok (.aload_n 3, 1) := by decide +kernel
theorem dL_law_1821 : decode code 1821 = .ok (.invokestatic 196, 3) := by decide +kernel
theorem dL_law_1824 : decode code 1824 = .ok (.istore 5, 2) := by decide +kernel
theorem dL_law_1826 : decode code 1826 = .ok (.aload_n 2, 1) := by decide +kernel
theorem dL_law_1827 : decode code 1827 = .ok (.aload_n 0, 1) := by decide +kernel
theorem dL_law_1828 : decode code 1828 = .ok (.iload 4, 2) := by decide +kernel
theorem dL_law_1830 : decode code 1830 = .ok (.iconst 1, 1) := by decide +kernel
theorem dL_law_1831 : decode code 1831 = .ok (.iadd, 1) := by decide +kernel
theorem dL_law_1832 : decode code 1832 = .ok (.iaload, 1) := by decide +kernel
theorem dL_law_1833 : decode code 1833 = .ok (.aload_n 0, 1) := by decide +kernel
theorem dL_law_1834 : decode code 1834 = .ok (.iload 4, 2) := by decide +kernel
theorem dL_law_1836 : decode code 1836 = .ok (.iconst 2, 1) := by decide +kernel
theorem dL_law_1837 : decode code 1837 = .ok (.iadd, 1) := by decide +kernel
theorem dL_law_1838 : decode code 1838 = .ok (.iaload, 1) := by decide +kernel
theorem dL_law_1839 : decode code 1839 = .ok (.aload_n 0, 1) := by decide +kernel
theorem dL_law_1840 : decode code 1840 = .ok (.iload 4, 2) := by decide +kernel
theorem dL_law_1842 : decode code 1842 = .ok (.iconst 3, 1) := by decide +kernel
theorem dL_law_1843 : decode code 1843 = .ok (.iadd, 1) := by decide +kernel
theorem dL_law_1844 : decode code 1844 = .ok (.iaload, 1) := by decide +kernel
theorem dL_law_1845 : decode code 1845 = .ok (.invokevirtual 198, 3) := by decide +kernel
theorem dL_law_1848 : decode code 1848 = .ok (.istore 6, 2) := by decide +kernel
theorem dL_law_1850 : decode code 1850 = .ok (.aload_n 2, 1) := by decide +kernel
theorem dL_law_1851 : decode code 1851 = .ok (.invokevirtual 113, 3) := by decide +kernel
theorem dL_law_1854 : decode code 1854 = .ok (.iload 5, 2) := by decide +kernel
theorem dL_law_1856 : decode code 1856 = .ok (.if_icmp .eq 5, 3) := by decide +kernel
theorem dL_law_1859 : decode code 1859 = .ok (.iconst 0, 1) := by decide +kernel
theorem dL_law_1860 : decode code 1860 = .ok (.ireturn, 1) := by decide +kernel
theorem dL_law_1861 : decode code 1861 = .ok (.iload 5, 2) := by decide +kernel
theorem dL_law_1863 : decode code 1863 = .ok (.ifCond .ne 15, 3) := by decide +kernel
theorem dL_law_1866 : decode code 1866 = .ok (.aload_n 3, 1) := by decide +kernel
theorem dL_law_1867 : decode code 1867 = .ok (.iconst 0, 1) := by decide +kernel
theorem dL_law_1868 : decode code 1868 = .ok (.laload, 1) := by decide +kernel
theorem dL_law_1869 : decode code 1869 = .ok (.iload 6, 2) := by decide +kernel
theorem dL_law_1871 : decode code 1871 = .ok (.i2l, 1) := by decide +kernel
theorem dL_law_1872 : decode code 1872 = .ok (.lcmp, 1) := by decide +kernel
theorem dL_law_1873 : decode code 1873 = .ok (.ifCond .eq 5, 3) := by decide +kernel
theorem dL_law_1876 : decode code 1876 = .ok (.iconst 0, 1) := by decide +kernel
theorem dL_law_1877 : decode code 1877 = .ok (.ireturn, 1) := by decide +kernel
theorem dL_law_1878 : decode code 1878 = .ok (.goto 3, 3) := by decide +kernel
theorem dL_law_1881 : decode code 1881 = .ok (.iinc 4 6, 3) := by decide +kernel
theorem dL_law_1884 : decode code 1884 = .ok (.goto (-1861), 3) := by decide +kernel
theorem dL_law_1887 : decode code 1887 = .ok (.iconst 1, 1) := by decide +kernel
theorem dL_law_1888 : decode code 1888 = .ok (.ireturn, 1) := by decide +kernel
