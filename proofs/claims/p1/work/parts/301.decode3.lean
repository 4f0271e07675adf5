theorem dL_law_1710 : decode cL_law 1710 = .ok (.aload_n 0, 1) := by decide +kernel
theorem dL_law_1711 : decode cL_law 1711 = .ok (.iload_n 3, 1) := by decide +kernel
theorem dL_law_1712 : decode cL_law 1712 = .ok (.iconst 1, 1) := by decide +kernel
theorem dL_law_1713 : decode cL_law 1713 = .ok (.iadd, 1) := by decide +kernel
theorem dL_law_1714 : decode cL_law 1714 = .ok (.iaload, 1) := by decide +kernel
theorem dL_law_1715 : decode cL_law 1715 = .ok (.aload_n 0, 1) := by decide +kernel
theorem dL_law_1716 : decode cL_law 1716 = .ok (.iload_n 3, 1) := by decide +kernel
theorem dL_law_1717 : decode cL_law 1717 = .ok (.iconst 2, 1) := by decide +kernel
theorem dL_law_1718 : decode cL_law 1718 = .ok (.iadd, 1) := by decide +kernel
theorem dL_law_1719 : decode cL_law 1719 = .ok (.iaload, 1) := by decide +kernel
theorem dL_law_1720 : decode cL_law 1720 = .ok (.aload_n 0, 1) := by decide +kernel
theorem dL_law_1721 : decode cL_law 1721 = .ok (.iload_n 3, 1) := by decide +kernel
theorem dL_law_1722 : decode cL_law 1722 = .ok (.iconst 3, 1) := by decide +kernel
theorem dL_law_1723 : decode cL_law 1723 = .ok (.iadd, 1) := by decide +kernel
theorem dL_law_1724 : decode cL_law 1724 = .ok (.iaload, 1) := by decide +kernel
theorem dL_law_1725 : decode cL_law 1725 = .ok (.invokevirtual 264, 3) := by decide +kernel
theorem dL_law_1728 : decode cL_law 1728 = .ok (.aload_n 2, 1) := by decide +kernel
theorem dL_law_1729 : decode cL_law 1729 = .ok (.aload_n 0, 1) := by decide +kernel
theorem dL_law_1730 : decode cL_law 1730 = .ok (.iload_n 3, 1) := by decide +kernel
theorem dL_law_1731 : decode cL_law 1731 = .ok (.iconst 1, 1) := by decide +kernel
theorem dL_law_1732 : decode cL_law 1732 = .ok (.iadd, 1) := by decide +kernel
theorem dL_law_1733 : decode cL_law 1733 = .ok (.iaload, 1) := by decide +kernel
theorem dL_law_1734 : decode cL_law 1734 = .ok (.aload_n 0, 1) := by decide +kernel
theorem dL_law_1735 : decode cL_law 1735 = .ok (.iload_n 3, 1) := by decide +kernel
theorem dL_law_1736 : decode cL_law 1736 = .ok (.iconst 2, 1) := by decide +kernel
theorem dL_law_1737 : decode cL_law 1737 = .ok (.iadd, 1) := by decide +kernel
theorem dL_law_1738 : decode cL_law 1738 = .ok (.iaload, 1) := by decide +kernel
theorem dL_law_1739 : decode cL_law 1739 = .ok (.aload_n 0, 1) := by decide +kernel
theorem dL_law_1740 : decode cL_law 1740 = .ok (.iload_n 3, 1) := by decide +kernel
theorem dL_law_1741 : decode cL_law 1741 = .ok (.iconst 3, 1) := by decide +kernel
theorem dL_law_1742 : decode cL_law 1742 = .ok (.iadd, 1) := by decide +kernel
theorem dL_law_1743 : decode cL_law 1743 = .ok (.iaload, 1) := by decide +kernel
theorem dL_law_1744 : decode cL_law 1744 = .ok (.invokevirtual 268, 3) := by decide +kernel
theorem dL_law_1747 : decode cL_law 1747 = .ok (.if_icmp .eq 401, 3) := by decide +kernel
theorem dL_law_1752 : decode cL_law 1752 = .ok (.aload_n 1, 1) := by decide +kernel
theorem dL_law_1753 : decode cL_law 1753 = .ok (.aload_n 0, 1) := by decide +kernel
theorem dL_law_1754 : decode cL_law 1754 = .ok (.iload_n 3, 1) := by decide +kernel
theorem dL_law_1755 : decode cL_law 1755 = .ok (.iconst 1, 1) := by decide +kernel
theorem dL_law_1756 : decode cL_law 1756 = .ok (.iadd, 1) := by decide +kernel
theorem dL_law_1757 : decode cL_law 1757 = .ok (.iaload, 1) := by decide +kernel
theorem dL_law_1758 : decode cL_law 1758 = .ok (.aload_n 0, 1) := by decide +kernel
theorem dL_law_1759 : decode cL_law 1759 = .ok (.iload_n 3, 1) := by decide +kernel
theorem dL_law_1760 : decode cL_law 1760 = .ok (.iconst 2, 1) := by decide +kernel
theorem dL_law_1761 : decode cL_law 1761 = .ok (.iadd, 1) := by decide +kernel
theorem dL_law_1762 : decode cL_law 1762 = .ok (.iaload, 1) := by decide +kernel
theorem dL_law_1763 : decode cL_law 1763 = .ok (.invokevirtual 269, 3) := by decide +kernel
theorem dL_law_1766 : decode cL_law 1766 = .ok (.aload_n 2, 1) := by decide +kernel
theorem dL_law_1767 : decode cL_law 1767 = .ok (.aload_n 0, 1) := by decide +kernel
theorem dL_law_1768 : decode cL_law 1768 = .ok (.iload_n 3, 1) := by decide +kernel
theorem dL_law_1769 : decode cL_law 1769 = .ok (.iconst 1, 1) := by decide +kernel
theorem dL_law_1770 : decode cL_law 1770 = .ok (.iadd, 1) := by decide +kernel
theorem dL_law_1771 : decode cL_law 1771 = .ok (.iaload, 1) := by decide +kernel
theorem dL_law_1772 : decode cL_law 1772 = .ok (.aload_n 0, 1) := by decide +kernel
theorem dL_law_1773 : decode cL_law 1773 = .ok (.iload_n 3, 1) := by decide +kernel
theorem dL_law_1774 : decode cL_law 1774 = .ok (.iconst 2, 1) := by decide +kernel
theorem dL_law_1775 : decode cL_law 1775 = .ok (.iadd, 1) := by decide +kernel
theorem dL_law_1776 : decode cL_law 1776 = .ok (.iaload, 1) := by decide +kernel
theorem dL_law_1777 : decode cL_law 1777 = .ok (.invokevirtual 272, 3) := by decide +kernel
theorem dL_law_1780 : decode cL_law 1780 = .ok (.if_icmp .eq 368, 3) := by decide +kernel
theorem dL_law_1785 : decode cL_law 1785 = .ok (.aload_n 1, 1) := by decide +kernel
theorem dL_law_1786 : decode cL_law 1786 = .ok (.invokevirtual 273, 3) := by decide +kernel
theorem dL_law_1789 : decode cL_law 1789 = .ok (.aload_n 2, 1) := by decide +kernel
theorem dL_law_1790 : decode cL_law 1790 = .ok (.invokevirtual 276, 3) := by decide +kernel
theorem dL_law_1793 : decode cL_law 1793 = .ok (.if_icmp .eq 355, 3) := by decide +kernel
theorem dL_law_1798 : decode cL_law 1798 = .ok (.aload_n 1, 1) := by decide +kernel
theorem dL_law_1799 : decode cL_law 1799 = .ok (.invokevirtual 277, 3) := by decide +kernel
theorem dL_law_1802 : decode cL_law 1802 = .ok (.aload_n 2, 1) := by decide +kernel
theorem dL_law_1803 : decode cL_law 1803 = .ok (.invokevirtual 280, 3) := by decide +kernel
theorem dL_law_1806 : decode cL_law 1806 = .ok (.if_icmp .eq 342, 3) := by decide +kernel
theorem dL_law_1811 : decode cL_law 1811 = .ok (.aload_n 1, 1) := by decide +kernel
theorem dL_law_1812 : decode cL_law 1812 = .ok (.aload_n 0, 1) := by decide +kernel
theorem dL_law_1813 : decode cL_law 1813 = .ok (.iload_n 3, 1) := by decide +kernel
theorem dL_law_1814 : decode cL_law 1814 = .ok (.iconst 1, 1) := by decide +kernel
theorem dL_law_1815 : decode cL_law 1815 = .ok (.iadd, 1) := by decide +kernel
theorem dL_law_1816 : decode cL_law 1816 = .ok (.iaload, 1) := by decide +kernel
theorem dL_law_1817 : decode cL_law 1817 = .ok (.aload_n 0, 1) := by decide +kernel
theorem dL_law_1818 : decode cL_law 1818 = .ok (.iload_n 3, 1) := by decide +kernel
theorem dL_law_1819 : decode cL_law 1819 = .ok (.iconst 2, 1) := by decide +kernel
theorem dL_law_1820 : decode cL_law 1820 = .ok (.iadd, 1) := by decide +kernel
theorem dL_law_1821 : decode cL_law 1821 = .ok (.iaload, 1) := by decide +kernel
theorem dL_law_1822 : decode cL_law 1822 = .ok (.invokevirtual 281, 3) := by decide +kernel
theorem dL_law_1825 : decode cL_law 1825 = .ok (.aload_n 2, 1) := by decide +kernel
theorem dL_law_1826 : decode cL_law 1826 = .ok (.aload_n 0, 1) := by decide +kernel
theorem dL_law_1827 : decode cL_law 1827 = .ok (.iload_n 3, 1) := by decide +kernel
theorem dL_law_1828 : decode cL_law 1828 = .ok (.iconst 1, 1) := by decide +kernel
theorem dL_law_1829 : decode cL_law 1829 = .ok (.iadd, 1) := by decide +kernel
theorem dL_law_1830 : decode cL_law 1830 = .ok (.iaload, 1) := by decide +kernel
theorem dL_law_1831 : decode cL_law 1831 = .ok (.aload_n 0, 1) := by decide +kernel
theorem dL_law_1832 : decode cL_law 1832 = .ok (.iload_n 3, 1) := by decide +kernel
theorem dL_law_1833 : decode cL_law 1833 = .ok (.iconst 2, 1) := by decide +kernel
theorem dL_law_1834 : decode cL_law 1834 = .ok (.iadd, 1) := by decide +kernel
theorem dL_law_1835 : decode cL_law 1835 = .ok (.iaload, 1) := by decide +kernel
theorem dL_law_1836 : decode cL_law 1836 = .ok (.invokevirtual 284, 3) := by decide +kernel
theorem dL_law_1839 : decode cL_law 1839 = .ok (.if_icmp .eq 309, 3) := by decide +kernel
theorem dL_law_1844 : decode cL_law 1844 = .ok (.aload_n 1, 1) := by decide +kernel
theorem dL_law_1845 : decode cL_law 1845 = .ok (.aload_n 0, 1) := by decide +kernel
theorem dL_law_1846 : decode cL_law 1846 = .ok (.iload_n 3, 1) := by decide +kernel
theorem dL_law_1847 : decode cL_law 1847 = .ok (.iconst 1, 1) := by decide +kernel
theorem dL_law_1848 : decode cL_law 1848 = .ok (.iadd, 1) := by decide +kernel
theorem dL_law_1849 : decode cL_law 1849 = .ok (.iaload, 1) := by decide +kernel
theorem dL_law_1850 : decode cL_law 1850 = .ok (.aload_n 0, 1) := by decide +kernel
theorem dL_law_1851 : decode cL_law 1851 = .ok (.iload_n 3, 1) := by decide +kernel
theorem dL_law_1852 : decode cL_law 1852 = .ok (.iconst 2, 1) := by decide +kernel
theorem dL_law_1853 : decode cL_law 1853 = .ok (.iadd, 1) := by decide +kernel
theorem dL_law_1854 : decode cL_law 1854 = .ok (.iaload, 1) := by decide +kernel
theorem dL_law_1855 : decode cL_law 1855 = .ok (.invokevirtual 285, 3) := by decide +kernel
theorem dL_law_1858 : decode cL_law 1858 = .ok (.aload_n 2, 1) := by decide +kernel
theorem dL_law_1859 : decode cL_law 1859 = .ok (.aload_n 0, 1) := by decide +kernel
theorem dL_law_1860 : decode cL_law 1860 = .ok (.iload_n 3, 1) := by decide +kernel
theorem dL_law_1861 : decode cL_law 1861 = .ok (.iconst 1, 1) := by decide +kernel
theorem dL_law_1862 : decode cL_law 1862 = .ok (.iadd, 1) := by decide +kernel
theorem dL_law_1863 : decode cL_law 1863 = .ok (.iaload, 1) := by decide +kernel
theorem dL_law_1864 : decode cL_law 1864 = .ok (.aload_n 0, 1) := by decide +kernel
theorem dL_law_1865 : decode cL_law 1865 = .ok (.iload_n 3, 1) := by decide +kernel
theorem dL_law_1866 : decode cL_law 1866 = .ok (.iconst 2, 1) := by decide +kernel
theorem dL_law_1867 : decode cL_law 1867 = .ok (.iadd, 1) := by decide +kernel
theorem dL_law_1868 : decode cL_law 1868 = .ok (.iaload, 1) := by decide +kernel
theorem dL_law_1869 : decode cL_law 1869 = .ok (.invokevirtual 288, 3) := by decide +kernel
theorem dL_law_1872 : decode cL_law 1872 = .ok (.if_icmp .eq 276, 3) := by decide +kernel
theorem dL_law_1877 : decode cL_law 1877 = .ok (.aload_n 1, 1) := by decide +kernel
theorem dL_law_1878 : decode cL_law 1878 = .ok (.aload_n 0, 1) := by decide +kernel
theorem dL_law_1879 : decode cL_law 1879 = .ok (.iload_n 3, 1) := by decide +kernel
theorem dL_law_1880 : decode cL_law 1880 = .ok (.iconst 1, 1) := by decide +kernel
theorem dL_law_1881 : decode cL_law 1881 = .ok (.iadd, 1) := by decide +kernel
theorem dL_law_1882 : decode cL_law 1882 = .ok (.iaload, 1) := by decide +kernel
theorem dL_law_1883 : decode cL_law 1883 = .ok (.invokevirtual 289, 3) := by decide +kernel
theorem dL_law_1886 : decode cL_law 1886 = .ok (.aload_n 2, 1) := by decide +kernel
theorem dL_law_1887 : decode cL_law 1887 = .ok (.aload_n 0, 1) := by decide +kernel
theorem dL_law_1888 : decode cL_law 1888 = .ok (.iload_n 3, 1) := by decide +kernel
theorem dL_law_1889 : decode cL_law 1889 = .ok (.iconst 1, 1) := by decide +kernel
theorem dL_law_1890 : decode cL_law 1890 = .ok (.iadd, 1) := by decide +kernel
theorem dL_law_1891 : decode cL_law 1891 = .ok (.iaload, 1) := by decide +kernel
theorem dL_law_1892 : decode cL_law 1892 = .ok (.invokevirtual 292, 3) := by decide +kernel
theorem dL_law_1895 : decode cL_law 1895 = .ok (.if_icmp .eq 253, 3) := by decide +kernel
theorem dL_law_1900 : decode cL_law 1900 = .ok (.aload_n 1, 1) := by decide +kernel
theorem dL_law_1901 : decode cL_law 1901 = .ok (.aload_n 0, 1) := by decide +kernel
theorem dL_law_1902 : decode cL_law 1902 = .ok (.iload_n 3, 1) := by decide +kernel
theorem dL_law_1903 : decode cL_law 1903 = .ok (.iconst 1, 1) := by decide +kernel
theorem dL_law_1904 : decode cL_law 1904 = .ok (.iadd, 1) := by decide +kernel
theorem dL_law_1905 : decode cL_law 1905 = .ok (.iaload, 1) := by decide +kernel
theorem dL_law_1906 : decode cL_law 1906 = .ok (.invokevirtual 293, 3) := by decide +kernel
theorem dL_law_1909 : decode cL_law 1909 = .ok (.aload_n 2, 1) := by decide +kernel
theorem dL_law_1910 : decode cL_law 1910 = .ok (.aload_n 0, 1) := by decide +kernel
theorem dL_law_1911 : decode cL_law 1911 = .ok (.iload_n 3, 1) := by decide +kernel
theorem dL_law_1912 : decode cL_law 1912 = .ok (.iconst 1, 1) := by decide +kernel
theorem dL_law_1913 : decode cL_law 1913 = .ok (.iadd, 1) := by decide +kernel
theorem dL_law_1914 : decode cL_law 1914 = .ok (.iaload, 1) := by decide +kernel
theorem dL_law_1915 : decode cL_law 1915 = .ok (.invokevirtual 296, 3) := by decide +kernel
theorem dL_law_1918 : decode cL_law 1918 = .ok (.if_icmp .eq 230, 3) := by decide +kernel
theorem dL_law_1923 : decode cL_law 1923 = .ok (.aload_n 1, 1) := by decide +kernel
theorem dL_law_1924 : decode cL_law 1924 = .ok (.aload_n 0, 1) := by decide +kernel
theorem dL_law_1925 : decode cL_law 1925 = .ok (.iload_n 3, 1) := by decide +kernel
theorem dL_law_1926 : decode cL_law 1926 = .ok (.iconst 1, 1) := by decide +kernel
theorem dL_law_1927 : decode cL_law 1927 = .ok (.iadd, 1) := by decide +kernel
theorem dL_law_1928 : decode cL_law 1928 = .ok (.iaload, 1) := by decide +kernel
theorem dL_law_1929 : decode cL_law 1929 = .ok (.invokevirtual 297, 3) := by decide +kernel
theorem dL_law_1932 : decode cL_law 1932 = .ok (.aload_n 2, 1) := by decide +kernel
theorem dL_law_1933 : decode cL_law 1933 = .ok (.aload_n 0, 1) := by decide +kernel
theorem dL_law_1934 : decode cL_law 1934 = .ok (.iload_n 3, 1) := by decide +kernel
theorem dL_law_1935 : decode cL_law 1935 = .ok (.iconst 1, 1) := by decide +kernel
theorem dL_law_1936 : decode cL_law 1936 = .ok (.iadd, 1) := by decide +kernel
theorem dL_law_1937 : decode cL_law 1937 = .ok (.iaload, 1) := by decide +kernel
theorem dL_law_1938 : decode cL_law 1938 = .ok (.invokevirtual 300, 3) := by decide +kernel
theorem dL_law_1941 : decode cL_law 1941 = .ok (.if_icmp .eq 207, 3) := by decide +kernel
theorem dL_law_1946 : decode cL_law 1946 = .ok (.aload_n 1, 1) := by decide +kernel
theorem dL_law_1947 : decode cL_law 1947 = .ok (.aload_n 0, 1) := by decide +kernel
theorem dL_law_1948 : decode cL_law 1948 = .ok (.iload_n 3, 1) := by decide +kernel
theorem dL_law_1949 : decode cL_law 1949 = .ok (.iconst 1, 1) := by decide +kernel
theorem dL_law_1950 : decode cL_law 1950 = .ok (.iadd, 1) := by decide +kernel
theorem dL_law_1951 : decode cL_law 1951 = .ok (.iaload, 1) := by decide +kernel
theorem dL_law_1952 : decode cL_law 1952 = .ok (.invokevirtual 301, 3) := by decide +kernel
theorem dL_law_1955 : decode cL_law 1955 = .ok (.aload_n 2, 1) := by decide +kernel
theorem dL_law_1956 : decode cL_law 1956 = .ok (.aload_n 0, 1) := by decide +kernel
theorem dL_law_1957 : decode cL_law 1957 = .ok (.iload_n 3, 1) := by decide +kernel
theorem dL_law_1958 : decode cL_law 1958 = .ok (.iconst 1, 1) := by decide +kernel
theorem dL_law_1959 : decode cL_law 1959 = .ok (.iadd, 1) := by decide +kernel
theorem dL_law_1960 : decode cL_law 1960 = .ok (.iaload, 1) := by decide +kernel
theorem dL_law_1961 : decode cL_law 1961 = .ok (.invokevirtual 304, 3) := by decide +kernel
theorem dL_law_1964 : decode cL_law 1964 = .ok (.if_icmp .eq 184, 3) := by decide +kernel
theorem dL_law_1969 : decode cL_law 1969 = .ok (.aload_n 1, 1) := by decide +kernel
theorem dL_law_1970 : decode cL_law 1970 = .ok (.aload_n 0, 1) := by decide +kernel
theorem dL_law_1971 : decode cL_law 1971 = .ok (.iload_n 3, 1) := by decide +kernel
theorem dL_law_1972 : decode cL_law 1972 = .ok (.iconst 1, 1) := by decide +kernel
theorem dL_law_1973 : decode cL_law 1973 = .ok (.iadd, 1) := by decide +kernel
theorem dL_law_1974 : decode cL_law 1974 = .ok (.iaload, 1) := by decide +kernel
theorem dL_law_1975 : decode cL_law 1975 = .ok (.aload_n 0, 1) := by decide +kernel
theorem dL_law_1976 : decode cL_law 1976 = .ok (.iload_n 3, 1) := by decide +kernel
theorem dL_law_1977 : decode cL_law 1977 = .ok (.iconst 2, 1) := by decide +kernel
theorem dL_law_1978 : decode cL_law 1978 = .ok (.iadd, 1) := by decide +kernel
theorem dL_law_1979 : decode cL_law 1979 = .ok (.iaload, 1) := by decide +kernel
theorem dL_law_1980 : decode cL_law 1980 = .ok (.aload_n 0, 1) := by decide +kernel
theorem dL_law_1981 : decode cL_law 1981 = .ok (.iload_n 3, 1) := by decide +kernel
theorem dL_law_1982 : decode cL_law 1982 = .ok (.iconst 3, 1) := by decide +kernel
theorem dL_law_1983 : decode cL_law 1983 = .ok (.iadd, 1) := by decide +kernel
theorem dL_law_1984 : decode cL_law 1984 = .ok (.iaload, 1) := by decide +kernel
theorem dL_law_1985 : decode cL_law 1985 = .ok (.invokevirtual 305, 3) := by decide +kernel
theorem dL_law_1988 : decode cL_law 1988 = .ok (.aload_n 2, 1) := by decide +kernel
theorem dL_law_1989 : decode cL_law 1989 = .ok (.aload_n 0, 1) := by decide +kernel
theorem dL_law_1990 : decode cL_law 1990 = .ok (.iload_n 3, 1) := by decide +kernel
theorem dL_law_1991 : decode cL_law 1991 = .ok (.iconst 1, 1) := by decide +kernel
theorem dL_law_1992 : decode cL_law 1992 = .ok (.iadd, 1) := by decide +kernel
theorem dL_law_1993 : decode cL_law 1993 = .ok (.iaload, 1) := by decide +kernel
theorem dL_law_1994 : decode cL_law 1994 = .ok (.aload_n 0, 1) := by decide +kernel
theorem dL_law_1995 : decode cL_law 1995 = .ok (.iload_n 3, 1) := by decide +kernel
theorem dL_law_1996 : decode cL_law 1996 = .ok (.iconst 2, 1) := by decide +kernel
theorem dL_law_1997 : decode cL_law 1997 = .ok (.iadd, 1) := by decide +kernel
theorem dL_law_1998 : decode cL_law 1998 = .ok (.iaload, 1) := by decide +kernel
theorem dL_law_1999 : decode cL_law 1999 = .ok (.aload_n 0, 1) := by decide +kernel
theorem dL_law_2000 : decode cL_law 2000 = .ok (.iload_n 3, 1) := by decide +kernel
theorem dL_law_2001 : decode cL_law 2001 = .ok (.iconst 3, 1) := by decide +kernel
theorem dL_law_2002 : decode cL_law 2002 = .ok (.iadd, 1) := by decide +kernel
theorem dL_law_2003 : decode cL_law 2003 = .ok (.iaload, 1) := by decide +kernel
theorem dL_law_2004 : decode cL_law 2004 = .ok (.invokevirtual 308, 3) := by decide +kernel
theorem dL_law_2007 : decode cL_law 2007 = .ok (.if_icmp .eq 141, 3) := by decide +kernel
theorem dL_law_2012 : decode cL_law 2012 = .ok (.aload_n 1, 1) := by decide +kernel
theorem dL_law_2013 : decode cL_law 2013 = .ok (.aload_n 0, 1) := by decide +kernel
theorem dL_law_2014 : decode cL_law 2014 = .ok (.iload_n 3, 1) := by decide +kernel
theorem dL_law_2015 : decode cL_law 2015 = .ok (.iconst 1, 1) := by decide +kernel
theorem dL_law_2016 : decode cL_law 2016 = .ok (.iadd, 1) := by decide +kernel
theorem dL_law_2017 : decode cL_law 2017 = .ok (.iaload, 1) := by decide +kernel
theorem dL_law_2018 : decode cL_law 2018 = .ok (.aload_n 0, 1) := by decide +kernel
theorem dL_law_2019 : decode cL_law 2019 = .ok (.iload_n 3, 1) := by decide +kernel
theorem dL_law_2020 : decode cL_law 2020 = .ok (.iconst 2, 1) := by decide +kernel
theorem dL_law_2021 : decode cL_law 2021 = .ok (.iadd, 1) := by decide +kernel
theorem dL_law_2022 : decode cL_law 2022 = .ok (.iaload, 1) := by decide +kernel
theorem dL_law_2023 : decode cL_law 2023 = .ok (.aload_n 0, 1) := by decide +kernel
theorem dL_law_2024 : decode cL_law 2024 = .ok (.iload_n 3, 1) := by decide +kernel
theorem dL_law_2025 : decode cL_law 2025 = .ok (.iconst 3, 1) := by decide +kernel
theorem dL_law_2026 : decode cL_law 2026 = .ok (.iadd, 1) := by decide +kernel
theorem dL_law_2027 : decode cL_law 2027 = .ok (.iaload, 1) := by decide +kernel
theorem dL_law_2028 : decode cL_law 2028 = .ok (.i2l, 1) := by decide +kernel
theorem dL_law_2029 : decode cL_law 2029 = .ok (.bipush 32, 2) := by decide +kernel
theorem dL_law_2031 : decode cL_law 2031 = .ok (.lshl, 1) := by decide +kernel
theorem dL_law_2032 : decode cL_law 2032 = .ok (.aload_n 0, 1) := by decide +kernel
theorem dL_law_2033 : decode cL_law 2033 = .ok (.iload_n 3, 1) := by decide +kernel
theorem dL_law_2034 : decode cL_law 2034 = .ok (.iconst 4, 1) := by decide +kernel
theorem dL_law_2035 : decode cL_law 2035 = .ok (.iadd, 1) := by decide +kernel
theorem dL_law_2036 : decode cL_law 2036 = .ok (.iaload, 1) := by decide +kernel
theorem dL_law_2037 : decode cL_law 2037 = .ok (.i2l, 1) := by decide +kernel
theorem dL_law_2038 : decode cL_law 2038 = .ok (.ldc2_w 309, 3) := by decide +kernel
theorem dL_law_2041 : decode cL_law 2041 = .ok (.land, 1) := by decide +kernel
theorem dL_law_2042 : decode cL_law 2042 = .ok (.lor, 1) := by decide +kernel
theorem dL_law_2043 : decode cL_law 2043 = .ok (.invokevirtual 311, 3) := by decide +kernel
theorem dL_law_2046 : decode cL_law 2046 = .ok (.aload_n 2, 1) := by decide +kernel
theorem dL_law_2047 : decode cL_law 2047 = .ok (.aload_n 0, 1) := by decide +kernel
theorem dL_law_2048 : decode cL_law 2048 = .ok (.iload_n 3, 1) := by decide +kernel
theorem dL_law_2049 : decode cL_law 2049 = .ok (.iconst 1, 1) := by decide +kernel
theorem dL_law_2050 : decode cL_law 2050 = .ok (.iadd, 1) := by decide +kernel
theorem dL_law_2051 : decode cL_law 2051 = .ok (.iaload, 1) := by decide +kernel
theorem dL_law_2052 : decode cL_law 2052 = .ok (.aload_n 0, 1) := by decide +kernel
theorem dL_law_2053 : decode cL_law 2053 = .ok (.iload_n 3, 1) := by decide +kernel
theorem dL_law_2054 : decode cL_law 2054 = .ok (.iconst 2, 1) := by decide +kernel
theorem dL_law_2055 : decode cL_law 2055 = .ok (.iadd, 1) := by decide +kernel
theorem dL_law_2056 : decode cL_law 2056 = .ok (.iaload, 1) := by decide +kernel
theorem dL_law_2057 : decode cL_law 2057 = .ok (.aload_n 0, 1) := by decide +kernel
theorem dL_law_2058 : decode cL_law 2058 = .ok (.iload_n 3, 1) := by decide +kernel
theorem dL_law_2059 : decode cL_law 2059 = .ok (.iconst 3, 1) := by decide +kernel
theorem dL_law_2060 : decode cL_law 2060 = .ok (.iadd, 1) := by decide +kernel
theorem dL_law_2061 : decode cL_law 2061 = .ok (.iaload, 1) := by decide +kernel
theorem dL_law_2062 : decode cL_law 2062 = .ok (.i2l, 1) := by decide +kernel
theorem dL_law_2063 : decode cL_law 2063 = .ok (.bipush 32, 2) := by decide +kernel
theorem dL_law_2065 : decode cL_law 2065 = .ok (.lshl, 1) := by decide +kernel
theorem dL_law_2066 : decode cL_law 2066 = .ok (.aload_n 0, 1) := by decide +kernel
theorem dL_law_2067 : decode cL_law 2067 = .ok (.iload_n 3, 1) := by decide +kernel
theorem dL_law_2068 : decode cL_law 2068 = .ok (.iconst 4, 1) := by decide +kernel
theorem dL_law_2069 : decode cL_law 2069 = .ok (.iadd, 1) := by decide +kernel
theorem dL_law_2070 : decode cL_law 2070 = .ok (.iaload, 1) := by decide +kernel
theorem dL_law_2071 : decode cL_law 2071 = .ok (.i2l, 1) := by decide +kernel
theorem dL_law_2072 : decode cL_law 2072 = .ok (.ldc2_w 309, 3) := by decide +kernel
theorem dL_law_2075 : decode cL_law 2075 = .ok (.land, 1) := by decide +kernel
theorem dL_law_2076 : decode cL_law 2076 = .ok (.lor, 1) := by decide +kernel
theorem dL_law_2077 : decode cL_law 2077 = .ok (.invokevirtual 315, 3) := by decide +kernel
theorem dL_law_2080 : decode cL_law 2080 = .ok (.if_icmp .eq 68, 3) := by decide +kernel
theorem dL_law_2085 : decode cL_law 2085 = .ok (.aload_n 1, 1) := by decide +kernel
theorem dL_law_2086 : decode cL_law 2086 = .ok (.aload_n 0, 1) := by decide +kernel
theorem dL_law_2087 : decode cL_law 2087 = .ok (.iload_n 3, 1) := by decide +kernel
theorem dL_law_2088 : decode cL_law 2088 = .ok (.iconst 1, 1) := by decide +kernel
theorem dL_law_2089 : decode cL_law 2089 = .ok (.iadd, 1) := by decide +kernel
theorem dL_law_2090 : decode cL_law 2090 = .ok (.iaload, 1) := by decide +kernel
theorem dL_law_2091 : decode cL_law 2091 = .ok (.aload_n 0, 1) := by decide +kernel
theorem dL_law_2092 : decode cL_law 2092 = .ok (.iload_n 3, 1) := by decide +kernel
theorem dL_law_2093 : decode cL_law 2093 = .ok (.iconst 2, 1) := by decide +kernel
theorem dL_law_2094 : decode cL_law 2094 = .ok (.iadd, 1) := by decide +kernel
theorem dL_law_2095 : decode cL_law 2095 = .ok (.iaload, 1) := by decide +kernel
theorem dL_law_2096 : decode cL_law 2096 = .ok (.aload_n 0, 1) := by decide +kernel
theorem dL_law_2097 : decode cL_law 2097 = .ok (.iload_n 3, 1) := by decide +kernel
theorem dL_law_2098 : decode cL_law 2098 = .ok (.iconst 3, 1) := by decide +kernel
theorem dL_law_2099 : decode cL_law 2099 = .ok (.iadd, 1) := by decide +kernel
theorem dL_law_2100 : decode cL_law 2100 = .ok (.iaload, 1) := by decide +kernel
theorem dL_law_2101 : decode cL_law 2101 = .ok (.aload_n 0, 1) := by decide +kernel
theorem dL_law_2102 : decode cL_law 2102 = .ok (.iload_n 3, 1) := by decide +kernel
theorem dL_law_2103 : decode cL_law 2103 = .ok (.iconst 4, 1) := by decide +kernel
theorem dL_law_2104 : decode cL_law 2104 = .ok (.iadd, 1) := by decide +kernel
theorem dL_law_2105 : decode cL_law 2105 = .ok (.iaload, 1) := by decide +kernel
theorem dL_law_2106 : decode cL_law 2106 = .ok (.aload_n 0, 1) := by decide +kernel
theorem dL_law_2107 : decode cL_law 2107 = .ok (.iload_n 3, 1) := by decide +kernel
theorem dL_law_2108 : decode cL_law 2108 = .ok (.iconst 5, 1) := by decide +kernel
theorem dL_law_2109 : decode cL_law 2109 = .ok (.iadd, 1) := by decide +kernel
theorem dL_law_2110 : decode cL_law 2110 = .ok (.iaload, 1) := by decide +kernel
theorem dL_law_2111 : decode cL_law 2111 = .ok (.invokevirtual 316, 3) := by decide +kernel
