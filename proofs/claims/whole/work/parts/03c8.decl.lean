/-! the law's instructions -/
theorem dL_law__1767 : decode cL_law_ 1767 = .ok (.iadd, 1) := by decide +kernel
theorem dL_law__1768 : decode cL_law_ 1768 = .ok (.iaload, 1) := by decide +kernel
theorem dL_law__1769 : decode cL_law_ 1769 = .ok (.i2l, 1) := by decide +kernel
theorem dL_law__1770 : decode cL_law_ 1770 = .ok (.ldc2_w 178, 3) := by decide +kernel
theorem dL_law__1773 : decode cL_law_ 1773 = .ok (.land, 1) := by decide +kernel
theorem dL_law__1774 : decode cL_law_ 1774 = .ok (.lor, 1) := by decide +kernel
theorem dL_law__1775 : decode cL_law_ 1775 = .ok (.aload_n 0, 1) := by decide +kernel
theorem dL_law__1776 : decode cL_law_ 1776 = .ok (.iload 4, 2) := by decide +kernel
theorem dL_law__1778 : decode cL_law_ 1778 = .ok (.iconst 3, 1) := by decide +kernel
theorem dL_law__1779 : decode cL_law_ 1779 = .ok (.iadd, 1) := by decide +kernel
theorem dL_law__1780 : decode cL_law_ 1780 = .ok (.iaload, 1) := by decide +kernel
theorem dL_law__1781 : decode cL_law_ 1781 = .ok (.i2l, 1) := by decide +kernel
theorem dL_law__1782 : decode cL_law_ 1782 = .ok (.bipush 32, 2) := by decide +kernel
theorem dL_law__1784 : decode cL_law_ 1784 = .ok (.lshl, 1) := by decide +kernel
theorem dL_law__1785 : decode cL_law_ 1785 = .ok (.aload_n 0, 1) := by decide +kernel
theorem dL_law__1786 : decode cL_law_ 1786 = .ok (.iload 4, 2) := by decide +kernel
theorem dL_law__1788 : decode cL_law_ 1788 = .ok (.iconst 4, 1) := by decide +kernel
theorem dL_law__1789 : decode cL_law_ 1789 = .ok (.iadd, 1) := by decide +kernel
theorem dL_law__1790 : decode cL_law_ 1790 = .ok (.iaload, 1) := by decide +kernel
theorem dL_law__1791 : decode cL_law_ 1791 = .ok (.i2l, 1) := by decide +kernel
theorem dL_law__1792 : decode cL_law_ 1792 = .ok (.ldc2_w 178, 3) := by decide +kernel
theorem dL_law__1795 : decode cL_law_ 1795 = .ok (.land, 1) := by decide +kernel
theorem dL_law__1796 : decode cL_law_ 1796 = .ok (.lor, 1) := by decide +kernel
theorem dL_law__1797 : decode cL_law_ 1797 = .ok (.aload_n 3, 1) := by decide +kernel
theorem dL_law__1798 : decode cL_law_ 1798 = .ok (.invokestatic 224, 3) := by decide +kernel
theorem dL_law__1801 : decode cL_law_ 1801 = .ok (.istore 5, 2) := by decide +kernel
theorem dL_law__1803 : decode cL_law_ 1803 = .ok (.aload_n 2, 1) := by decide +kernel
theorem dL_law__1804 : decode cL_law_ 1804 = .ok (.aload_n 0, 1) := by decide +kernel
theorem dL_law__1805 : decode cL_law_ 1805 = .ok (.iload 4, 2) := by decide +kernel
theorem dL_law__1807 : decode cL_law_ 1807 = .ok (.iconst 1, 1) := by decide +kernel
theorem dL_law__1808 : decode cL_law_ 1808 = .ok (.iadd, 1) := by decide +kernel
theorem dL_law__1809 : decode cL_law_ 1809 = .ok (.iaload, 1) := by decide +kernel
theorem dL_law__1810 : decode cL_law_ 1810 = .ok (.i2l, 1) := by decide +kernel
theorem dL_law__1811 : decode cL_law_ 1811 = .ok (.bipush 32, 2) := by decide +kernel
theorem dL_law__1813 : decode cL_law_ 1813 = .ok (.lshl, 1) := by decide +kernel
theorem dL_law__1814 : decode cL_law_ 1814 = .ok (.aload_n 0, 1) := by decide +kernel
theorem dL_law__1815 : decode cL_law_ 1815 = .ok (.iload 4, 2) := by decide +kernel
theorem dL_law__1817 : decode cL_law_ 1817 = .ok (.iconst 2, 1) := by decide +kernel
theorem dL_law__1818 : decode cL_law_ 1818 = .ok (.iadd, 1) := by decide +kernel
theorem dL_law__1819 : decode cL_law_ 1819 = .ok (.iaload, 1) := by decide +kernel
theorem dL_law__1820 : decode cL_law_ 1820 = .ok (.i2l, 1) := by decide +kernel
theorem dL_law__1821 : decode cL_law_ 1821 = .ok (.ldc2_w 178, 3) := by decide +kernel
theorem dL_law__1824 : decode cL_law_ 1824 = .ok (.land, 1) := by decide +kernel
theorem dL_law__1825 : decode cL_law_ 1825 = .ok (.lor, 1) := by decide +kernel
theorem dL_law__1826 : decode cL_law_ 1826 = .ok (.aload_n 0, 1) := by decide +kernel
theorem dL_law__1827 : decode cL_law_ 1827 = .ok (.iload 4, 2) := by decide +kernel
theorem dL_law__1829 : decode cL_law_ 1829 = .ok (.iconst 3, 1) := by decide +kernel
theorem dL_law__1830 : decode cL_law_ 1830 = .ok (.iadd, 1) := by decide +kernel
theorem dL_law__1831 : decode cL_law_ 1831 = .ok (.iaload, 1) := by decide +kernel
theorem dL_law__1832 : decode cL_law_ 1832 = .ok (.i2l, 1) := by decide +kernel
theorem dL_law__1833 : decode cL_law_ 1833 = .ok (.bipush 32, 2) := by decide +kernel
theorem dL_law__1835 : decode cL_law_ 1835 = .ok (.lshl, 1) := by decide +kernel
theorem dL_law__1836 : decode cL_law_ 1836 = .ok (.aload_n 0, 1) := by decide +kernel
theorem dL_law__1837 : decode cL_law_ 1837 = .ok (.iload 4, 2) := by decide +kernel
theorem dL_law__1839 : decode cL_law_ 1839 = .ok (.iconst 4, 1) := by decide +kernel
theorem dL_law__1840 : decode cL_law_ 1840 = .ok (.iadd, 1) := by decide +kernel
theorem dL_law__1841 : decode cL_law_ 1841 = .ok (.iaload, 1) := by decide +kernel
theorem dL_law__1842 : decode cL_law_ 1842 = .ok (.i2l, 1) := by decide +kernel
theorem dL_law__1843 : decode cL_law_ 1843 = .ok (.ldc2_w 178, 3) := by decide +kernel
theorem dL_law__1846 : decode cL_law_ 1846 = .ok (.land, 1) := by decide +kernel
theorem dL_law__1847 : decode cL_law_ 1847 = .ok (.lor, 1) := by decide +kernel
theorem dL_law__1848 : decode cL_law_ 1848 = .ok (.invokevirtual 226, 3) := by decide +kernel
theorem dL_law__1851 : decode cL_law_ 1851 = .ok (.istore 6, 2) := by decide +kernel
theorem dL_law__1853 : decode cL_law_ 1853 = .ok (.aload_n 2, 1) := by decide +kernel
theorem dL_law__1854 : decode cL_law_ 1854 = .ok (.invokevirtual 157, 3) := by decide +kernel
theorem dL_law__1857 : decode cL_law_ 1857 = .ok (.iload 5, 2) := by decide +kernel
theorem dL_law__1859 : decode cL_law_ 1859 = .ok (.if_icmp .eq 5, 3) := by decide +kernel
theorem dL_law__1862 : decode cL_law_ 1862 = .ok (.iconst 0, 1) := by decide +kernel
theorem dL_law__1863 : decode cL_law_ 1863 = .ok (.ireturn, 1) := by decide +kernel
theorem dL_law__1864 : decode cL_law_ 1864 = .ok (.iload 5, 2) := by decide +kernel
theorem dL_law__1866 : decode cL_law_ 1866 = .ok (.ifCond .ne 22, 3) := by decide +kernel
theorem dL_law__1869 : decode cL_law_ 1869 = .ok (.aload_n 3, 1) := by decide +kernel
theorem dL_law__1870 : decode cL_law_ 1870 = .ok (.iconst 0, 1) := by decide +kernel
theorem dL_law__1871 : decode cL_law_ 1871 = .ok (.laload, 1) := by decide +kernel
theorem dL_law__1872 : decode cL_law_ 1872 = .ok (.iload 6, 2) := by decide +kernel
theorem dL_law__1874 : decode cL_law_ 1874 = .ok (.ifCond .eq 7, 3) := by decide +kernel
theorem dL_law__1877 : decode cL_law_ 1877 = .ok (.lconst 1, 1) := by decide +kernel
theorem dL_law__1878 : decode cL_law_ 1878 = .ok (.goto 4, 3) := by decide +kernel
theorem dL_law__1881 : decode cL_law_ 1881 = .ok (.lconst 0, 1) := by decide +kernel
theorem dL_law__1882 : decode cL_law_ 1882 = .ok (.lcmp, 1) := by decide +kernel
theorem dL_law__1883 : decode cL_law_ 1883 = .ok (.ifCond .eq 5, 3) := by decide +kernel
theorem dL_law__1886 : decode cL_law_ 1886 = .ok (.iconst 0, 1) := by decide +kernel
theorem dL_law__1887 : decode cL_law_ 1887 = .ok (.ireturn, 1) := by decide +kernel
theorem dL_law__1888 : decode cL_law_ 1888 = .ok (.goto 1447, 3) := by decide +kernel
theorem dL_law__1891 : decode cL_law_ 1891 = .ok (.aload_n 1, 1) := by decide +kernel
theorem dL_law__1892 : decode cL_law_ 1892 = .ok (.aload_n 0, 1) := by decide +kernel
theorem dL_law__1893 : decode cL_law_ 1893 = .ok (.iload 4, 2) := by decide +kernel
theorem dL_law__1895 : decode cL_law_ 1895 = .ok (.iconst 1, 1) := by decide +kernel
theorem dL_law__1896 : decode cL_law_ 1896 = .ok (.iadd, 1) := by decide +kernel
theorem dL_law__1897 : decode cL_law_ 1897 = .ok (.iaload, 1) := by decide +kernel
theorem dL_law__1898 : decode cL_law_ 1898 = .ok (.i2l, 1) := by decide +kernel
theorem dL_law__1899 : decode cL_law_ 1899 = .ok (.bipush 32, 2) := by decide +kernel
theorem dL_law__1901 : decode cL_law_ 1901 = .ok (.lshl, 1) := by decide +kernel
theorem dL_law__1902 : decode cL_law_ 1902 = .ok (.aload_n 0, 1) := by decide +kernel
theorem dL_law__1903 : decode cL_law_ 1903 = .ok (.iload 4, 2) := by decide +kernel
theorem dL_law__1905 : decode cL_law_ 1905 = .ok (.iconst 2, 1) := by decide +kernel
theorem dL_law__1906 : decode cL_law_ 1906 = .ok (.iadd, 1) := by decide +kernel
theorem dL_law__1907 : decode cL_law_ 1907 = .ok (.iaload, 1) := by decide +kernel
theorem dL_law__1908 : decode cL_law_ 1908 = .ok (.i2l, 1) := by decide +kernel
theorem dL_law__1909 : decode cL_law_ 1909 = .ok (.ldc2_w 178, 3) := by decide +kernel
theorem dL_law__1912 : decode cL_law_ 1912 = .ok (.land, 1) := by decide +kernel
theorem dL_law__1913 : decode cL_law_ 1913 = .ok (.lor, 1) := by decide +kernel
theorem dL_law__1914 : decode cL_law_ 1914 = .ok (.aload_n 0, 1) := by decide +kernel
theorem dL_law__1915 : decode cL_law_ 1915 = .ok (.iload 4, 2) := by decide +kernel
theorem dL_law__1917 : decode cL_law_ 1917 = .ok (.iconst 3, 1) := by decide +kernel
theorem dL_law__1918 : decode cL_law_ 1918 = .ok (.iadd, 1) := by decide +kernel
theorem dL_law__1919 : decode cL_law_ 1919 = .ok (.iaload, 1) := by decide +kernel
theorem dL_law__1920 : decode cL_law_ 1920 = .ok (.aload_n 0, 1) := by decide +kernel
theorem dL_law__1921 : decode cL_law_ 1921 = .ok (.iload 4, 2) := by decide +kernel
theorem dL_law__1923 : decode cL_law_ 1923 = .ok (.iconst 4, 1) := by decide +kernel
theorem dL_law__1924 : decode cL_law_ 1924 = .ok (.iadd, 1) := by decide +kernel
theorem dL_law__1925 : decode cL_law_ 1925 = .ok (.iaload, 1) := by decide +kernel
theorem dL_law__1926 : decode cL_law_ 1926 = .ok (.aload_n 3, 1) := by decide +kernel
theorem dL_law__1927 : decode cL_law_ 1927 = .ok (.invokestatic 227, 3) := by decide +kernel
theorem dL_law__1930 : decode cL_law_ 1930 = .ok (.istore 5, 2) := by decide +kernel
theorem dL_law__1932 : decode cL_law_ 1932 = .ok (.aload_n 2, 1) := by decide +kernel
theorem dL_law__1933 : decode cL_law_ 1933 = .ok (.aload_n 0, 1) := by decide +kernel
theorem dL_law__1934 : decode cL_law_ 1934 = .ok (.iload 4, 2) := by decide +kernel
theorem dL_law__1936 : decode cL_law_ 1936 = .ok (.iconst 1, 1) := by decide +kernel
theorem dL_law__1937 : decode cL_law_ 1937 = .ok (.iadd, 1) := by decide +kernel
theorem dL_law__1938 : decode cL_law_ 1938 = .ok (.iaload, 1) := by decide +kernel
theorem dL_law__1939 : decode cL_law_ 1939 = .ok (.i2l, 1) := by decide +kernel
theorem dL_law__1940 : decode cL_law_ 1940 = .ok (.bipush 32, 2) := by decide +kernel
theorem dL_law__1942 : decode cL_law_ 1942 = .ok (.lshl, 1) := by decide +kernel
theorem dL_law__1943 : decode cL_law_ 1943 = .ok (.aload_n 0, 1) := by decide +kernel
theorem dL_law__1944 : decode cL_law_ 1944 = .ok (.iload 4, 2) := by decide +kernel
theorem dL_law__1946 : decode cL_law_ 1946 = .ok (.iconst 2, 1) := by decide +kernel
theorem dL_law__1947 : decode cL_law_ 1947 = .ok (.iadd, 1) := by decide +kernel
theorem dL_law__1948 : decode cL_law_ 1948 = .ok (.iaload, 1) := by decide +kernel
theorem dL_law__1949 : decode cL_law_ 1949 = .ok (.i2l, 1) := by decide +kernel
theorem dL_law__1950 : decode cL_law_ 1950 = .ok (.ldc2_w 178, 3) := by decide +kernel
theorem dL_law__1953 : decode cL_law_ 1953 = .ok (.land, 1) := by decide +kernel
theorem dL_law__1954 : decode cL_law_ 1954 = .ok (.lor, 1) := by decide +kernel
theorem dL_law__1955 : decode cL_law_ 1955 = .ok (.aload_n 0, 1) := by decide +kernel
theorem dL_law__1956 : decode cL_law_ 1956 = .ok (.iload 4, 2) := by decide +kernel
theorem dL_law__1958 : decode cL_law_ 1958 = .ok (.iconst 3, 1) := by decide +kernel
theorem dL_law__1959 : decode cL_law_ 1959 = .ok (.iadd, 1) := by decide +kernel
theorem dL_law__1960 : decode cL_law_ 1960 = .ok (.iaload, 1) := by decide +kernel
theorem dL_law__1961 : decode cL_law_ 1961 = .ok (.aload_n 0, 1) := by decide +kernel
theorem dL_law__1962 : decode cL_law_ 1962 = .ok (.iload 4, 2) := by decide +kernel
theorem dL_law__1964 : decode cL_law_ 1964 = .ok (.iconst 4, 1) := by decide +kernel
theorem dL_law__1965 : decode cL_law_ 1965 = .ok (.iadd, 1) := by decide +kernel
theorem dL_law__1966 : decode cL_law_ 1966 = .ok (.iaload, 1) := by decide +kernel
theorem dL_law__1967 : decode cL_law_ 1967 = .ok (.invokevirtual 229, 3) := by decide +kernel
theorem dL_law__1970 : decode cL_law_ 1970 = .ok (.lstore 6, 2) := by decide +kernel
theorem dL_law__1972 : decode cL_law_ 1972 = .ok (.aload_n 2, 1) := by decide +kernel
theorem dL_law__1973 : decode cL_law_ 1973 = .ok (.invokevirtual 157, 3) := by decide +kernel
theorem dL_law__1976 : decode cL_law_ 1976 = .ok (.iload 5, 2) := by decide +kernel
theorem dL_law__1978 : decode cL_law_ 1978 = .ok (.if_icmp .eq 5, 3) := by decide +kernel
theorem dL_law__1981 : decode cL_law_ 1981 = .ok (.iconst 0, 1) := by decide +kernel
