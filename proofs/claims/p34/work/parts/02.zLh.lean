theorem dL_law_1745 : decode cL_law 1745 = .ok (.iconst 4, 1) := by decide +kernel
theorem dL_law_1746 : decode cL_law 1746 = .ok (.ishr, 1) := by decide +kernel
theorem dL_law_1747 : decode cL_law 1747 = .ok (.iconst 2, 1) := by decide +kernel
theorem dL_law_1748 : decode cL_law 1748 = .ok (.invokestatic 153, 3) := by decide +kernel
theorem dL_law_1751 : decode cL_law 1751 = .ok (.istore 17, 2) := by decide +kernel
theorem dL_law_1753 : decode cL_law 1753 = .ok (.iconst 0, 1) := by decide +kernel
theorem dL_law_1754 : decode cL_law 1754 = .ok (.istore 18, 2) := by decide +kernel
theorem dL_law_1756 : decode cL_law 1756 = .ok (.iconst 0, 1) := by decide +kernel
theorem dL_law_1757 : decode cL_law 1757 = .ok (.istore 19, 2) := by decide +kernel
theorem dL_law_1759 : decode cL_law 1759 = .ok (.iload 19, 2) := by decide +kernel
theorem dL_law_1761 : decode cL_law 1761 = .ok (.aload_n 2, 1) := by decide +kernel
theorem dL_law_1762 : decode cL_law 1762 = .ok (.iconst 4, 1) := by decide +kernel
theorem dL_law_1763 : decode cL_law 1763 = .ok (.iaload, 1) := by decide +kernel
theorem dL_law_1764 : decode cL_law 1764 = .ok (.if_icmp .ge 54, 3) := by decide +kernel
theorem dL_law_1767 : decode cL_law 1767 = .ok (.iload 19, 2) := by decide +kernel
theorem dL_law_1769 : decode cL_law 1769 = .ok (.aload_n 2, 1) := by decide +kernel
theorem dL_law_1770 : decode cL_law 1770 = .ok (.aload_n 3, 1) := by decide +kernel
theorem dL_law_1771 : decode cL_law 1771 = .ok (.aload 4, 2) := by decide +kernel
theorem dL_law_1773 : decode cL_law 1773 = .ok (.invokestatic 27, 3) := by decide +kernel
theorem dL_law_1776 : decode cL_law 1776 = .ok (.ifCond .eq 36, 3) := by decide +kernel
theorem dL_law_1779 : decode cL_law 1779 = .ok (.aload 4, 2) := by decide +kernel
theorem dL_law_1781 : decode cL_law 1781 = .ok (.iconst 5, 1) := by decide +kernel
theorem dL_law_1782 : decode cL_law 1782 = .ok (.iload 19, 2) := by decide +kernel
theorem dL_law_1784 : decode cL_law 1784 = .ok (.imul, 1) := by decide +kernel
theorem dL_law_1785 : decode cL_law 1785 = .ok (.iconst 1, 1) := by decide +kernel
theorem dL_law_1786 : decode cL_law 1786 = .ok (.iadd, 1) := by decide +kernel
theorem dL_law_1787 : decode cL_law 1787 = .ok (.iaload, 1) := by decide +kernel
theorem dL_law_1788 : decode cL_law 1788 = .ok (.iload 17, 2) := by decide +kernel
theorem dL_law_1790 : decode cL_law 1790 = .ok (.invokestatic 31, 3) := by decide +kernel
theorem dL_law_1793 : decode cL_law 1793 = .ok (.ifCond .ne 6, 3) := by decide +kernel
theorem dL_law_1796 : decode cL_law 1796 = .ok (.goto 16, 3) := by decide +kernel
theorem dL_law_1799 : decode cL_law 1799 = .ok (.aload 4, 2) := by decide +kernel
theorem dL_law_1801 : decode cL_law 1801 = .ok (.iconst 5, 1) := by decide +kernel
theorem dL_law_1802 : decode cL_law 1802 = .ok (.iload 19, 2) := by decide +kernel
theorem dL_law_1804 : decode cL_law 1804 = .ok (.imul, 1) := by decide +kernel
theorem dL_law_1805 : decode cL_law 1805 = .ok (.iconst 4, 1) := by decide +kernel
theorem dL_law_1806 : decode cL_law 1806 = .ok (.iadd, 1) := by decide +kernel
theorem dL_law_1807 : decode cL_law 1807 = .ok (.iconst 1, 1) := by decide +kernel
theorem dL_law_1808 : decode cL_law 1808 = .ok (.iastore, 1) := by decide +kernel
theorem dL_law_1809 : decode cL_law 1809 = .ok (.iinc 18 1, 3) := by decide +kernel
theorem dL_law_1812 : decode cL_law 1812 = .ok (.iinc 19 1, 3) := by decide +kernel
theorem dL_law_1815 : decode cL_law 1815 = .ok (.goto (-56), 3) := by decide +kernel
theorem dL_law_1818 : decode cL_law 1818 = .ok (.aload_n 1, 1) := by decide +kernel
theorem dL_law_1819 : decode cL_law 1819 = .ok (.iload 17, 2) := by decide +kernel
theorem dL_law_1821 : decode cL_law 1821 = .ok (.invokevirtual 177, 3) := by decide +kernel
theorem dL_law_1824 : decode cL_law 1824 = .ok (.iload 18, 2) := by decide +kernel
theorem dL_law_1826 : decode cL_law 1826 = .ok (.if_icmp .ne 17, 3) := by decide +kernel
theorem dL_law_1829 : decode cL_law 1829 = .ok (.aload_n 1, 1) := by decide +kernel
theorem dL_law_1830 : decode cL_law 1830 = .ok (.iconst 4, 1) := by decide +kernel
theorem dL_law_1831 : decode cL_law 1831 = .ok (.iconst 0, 1) := by decide +kernel
theorem dL_law_1832 : decode cL_law 1832 = .ok (.iload 18, 2) := by decide +kernel
theorem dL_law_1834 : decode cL_law 1834 = .ok (.aload_n 2, 1) := by decide +kernel
theorem dL_law_1835 : decode cL_law 1835 = .ok (.aload 9, 2) := by decide +kernel
theorem dL_law_1837 : decode cL_law 1837 = .ok (.invokestatic 163, 3) := by decide +kernel
theorem dL_law_1840 : decode cL_law 1840 = .ok (.ifCond .ne 5, 3) := by decide +kernel
theorem dL_law_1843 : decode cL_law 1843 = .ok (.iconst 0, 1) := by decide +kernel
theorem dL_law_1844 : decode cL_law 1844 = .ok (.ireturn, 1) := by decide +kernel
theorem dL_law_1845 : decode cL_law 1845 = .ok (.goto 85, 3) := by decide +kernel
theorem dL_law_1848 : decode cL_law 1848 = .ok (.iconst 1, 1) := by decide +kernel
theorem dL_law_1849 : decode cL_law 1849 = .ok (.iload 12, 2) := by decide +kernel
theorem dL_law_1851 : decode cL_law 1851 = .ok (.iconst 4, 1) := by decide +kernel
theorem dL_law_1852 : decode cL_law 1852 = .ok (.ishr, 1) := by decide +kernel
theorem dL_law_1853 : decode cL_law 1853 = .ok (.iload 13, 2) := by decide +kernel
theorem dL_law_1855 : decode cL_law 1855 = .ok (.bipush 17, 2) := by decide +kernel
theorem dL_law_1857 : decode cL_law 1857 = .ok (.if_icmp .ne 8, 3) := by decide +kernel
theorem dL_law_1860 : decode cL_law 1860 = .ok (.bipush 30, 2) := by decide +kernel
theorem dL_law_1862 : decode cL_law 1862 = .ok (.goto 4, 3) := by decide +kernel
theorem dL_law_1865 : decode cL_law 1865 = .ok (.iconst 5, 1) := by decide +kernel
theorem dL_law_1866 : decode cL_law 1866 = .ok (.invokestatic 113, 3) := by decide +kernel
theorem dL_law_1869 : decode cL_law 1869 = .ok (.iadd, 1) := by decide +kernel
theorem dL_law_1870 : decode cL_law 1870 = .ok (.istore 17, 2) := by decide +kernel
theorem dL_law_1872 : decode cL_law 1872 = .ok (.aload_n 2, 1) := by decide +kernel
theorem dL_law_1873 : decode cL_law 1873 = .ok (.iconst 0, 1) := by decide +kernel
theorem dL_law_1874 : decode cL_law 1874 = .ok (.dup2, 1) := by decide +kernel
theorem dL_law_1875 : decode cL_law 1875 = .ok (.iaload, 1) := by decide +kernel
theorem dL_law_1876 : decode cL_law 1876 = .ok (.iload 17, 2) := by decide +kernel
theorem dL_law_1878 : decode cL_law 1878 = .ok (.iadd, 1) := by decide +kernel
theorem dL_law_1879 : decode cL_law 1879 = .ok (.iastore, 1) := by decide +kernel
theorem dL_law_1880 : decode cL_law 1880 = .ok (.iload 16, 2) := by decide +kernel
theorem dL_law_1882 : decode cL_law 1882 = .ok (.aload_n 2, 1) := by decide +kernel
theorem dL_law_1883 : decode cL_law 1883 = .ok (.aload_n 3, 1) := by decide +kernel
theorem dL_law_1884 : decode cL_law 1884 = .ok (.invokestatic 126, 3) := by decide +kernel
theorem dL_law_1887 : decode cL_law 1887 = .ok (.isub, 1) := by decide +kernel
theorem dL_law_1888 : decode cL_law 1888 = .ok (.aload_n 2, 1) := by decide +kernel
theorem dL_law_1889 : decode cL_law 1889 = .ok (.aload_n 3, 1) := by decide +kernel
theorem dL_law_1890 : decode cL_law 1890 = .ok (.aload 4, 2) := by decide +kernel
theorem dL_law_1892 : decode cL_law 1892 = .ok (.invokestatic 133, 3) := by decide +kernel
theorem dL_law_1895 : decode cL_law 1895 = .ok (.isub, 1) := by decide +kernel
theorem dL_law_1896 : decode cL_law 1896 = .ok (.istore 18, 2) := by decide +kernel
theorem dL_law_1898 : decode cL_law 1898 = .ok (.aload_n 1, 1) := by decide +kernel
theorem dL_law_1899 : decode cL_law 1899 = .ok (.iload 17, 2) := by decide +kernel
theorem dL_law_1901 : decode cL_law 1901 = .ok (.invokevirtual 180, 3) := by decide +kernel
theorem dL_law_1904 : decode cL_law 1904 = .ok (.iload 18, 2) := by decide +kernel
theorem dL_law_1906 : decode cL_law 1906 = .ok (.if_icmp .ne 22, 3) := by decide +kernel
theorem dL_law_1909 : decode cL_law 1909 = .ok (.iload 18, 2) := by decide +kernel
theorem dL_law_1911 : decode cL_law 1911 = .ok (.ifCond .le 19, 3) := by decide +kernel
theorem dL_law_1914 : decode cL_law 1914 = .ok (.aload_n 1, 1) := by decide +kernel
theorem dL_law_1915 : decode cL_law 1915 = .ok (.iconst 5, 1) := by decide +kernel
theorem dL_law_1916 : decode cL_law 1916 = .ok (.iconst 0, 1) := by decide +kernel
theorem dL_law_1917 : decode cL_law 1917 = .ok (.iload 18, 2) := by decide +kernel
theorem dL_law_1919 : decode cL_law 1919 = .ok (.aload_n 2, 1) := by decide +kernel
theorem dL_law_1920 : decode cL_law 1920 = .ok (.aload 9, 2) := by decide +kernel
theorem dL_law_1922 : decode cL_law 1922 = .ok (.invokestatic 163, 3) := by decide +kernel
theorem dL_law_1925 : decode cL_law 1925 = .ok (.ifCond .ne 5, 3) := by decide +kernel
theorem dL_law_1928 : decode cL_law 1928 = .ok (.iconst 0, 1) := by decide +kernel
theorem dL_law_1929 : decode cL_law 1929 = .ok (.ireturn, 1) := by decide +kernel
theorem dL_law_1930 : decode cL_law 1930 = .ok (.aload_n 1, 1) := by decide +kernel
theorem dL_law_1931 : decode cL_law 1931 = .ok (.iload 11, 2) := by decide +kernel
theorem dL_law_1933 : decode cL_law 1933 = .ok (.iconst 5, 1) := by decide +kernel
theorem dL_law_1934 : decode cL_law 1934 = .ok (.ishr, 1) := by decide +kernel
theorem dL_law_1935 : decode cL_law 1935 = .ok (.aload_n 2, 1) := by decide +kernel
theorem dL_law_1936 : decode cL_law 1936 = .ok (.aload_n 3, 1) := by decide +kernel
theorem dL_law_1937 : decode cL_law 1937 = .ok (.aload 4, 2) := by decide +kernel
theorem dL_law_1939 : decode cL_law 1939 = .ok (.invokestatic 183, 3) := by decide +kernel
theorem dL_law_1942 : decode cL_law 1942 = .ok (.ifCond .ne 5, 3) := by decide +kernel
theorem dL_law_1945 : decode cL_law 1945 = .ok (.iconst 0, 1) := by decide +kernel
theorem dL_law_1946 : decode cL_law 1946 = .ok (.ireturn, 1) := by decide +kernel
theorem dL_law_1947 : decode cL_law 1947 = .ok (.iinc 10 1, 3) := by decide +kernel
theorem dL_law_1950 : decode cL_law 1950 = .ok (.goto (-1850), 3) := by decide +kernel
theorem dL_law_1953 : decode cL_law 1953 = .ok (.iconst 1, 1) := by decide +kernel
theorem dL_law_1954 : decode cL_law 1954 = .ok (.ireturn, 1) := by decide +kernel
