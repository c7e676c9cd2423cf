theorem dL_law_1792 : decode cL_law 1792 = .ok (.if_icmp .ne 114, 3) := by decide +kernel
theorem dL_law_1795 : decode cL_law 1795 = .ok (.aload_n 1, 1) := by decide +kernel
theorem dL_law_1796 : decode cL_law 1796 = .ok (.iload 33, 2) := by decide +kernel
theorem dL_law_1798 : decode cL_law 1798 = .ok (.invokestatic 159, 3) := by decide +kernel
theorem dL_law_1801 : decode cL_law 1801 = .ok (.aload 7, 2) := by decide +kernel
theorem dL_law_1803 : decode cL_law 1803 = .ok (.iload 33, 2) := by decide +kernel
theorem dL_law_1805 : decode cL_law 1805 = .ok (.iaload, 1) := by decide +kernel
theorem dL_law_1806 : decode cL_law 1806 = .ok (.if_icmp .ne 100, 3) := by decide +kernel
theorem dL_law_1809 : decode cL_law 1809 = .ok (.aload_n 1, 1) := by decide +kernel
theorem dL_law_1810 : decode cL_law 1810 = .ok (.iload 33, 2) := by decide +kernel
theorem dL_law_1812 : decode cL_law 1812 = .ok (.invokestatic 189, 3) := by decide +kernel
theorem dL_law_1815 : decode cL_law 1815 = .ok (.aload 23, 2) := by decide +kernel
theorem dL_law_1817 : decode cL_law 1817 = .ok (.iload 33, 2) := by decide +kernel
theorem dL_law_1819 : decode cL_law 1819 = .ok (.iaload, 1) := by decide +kernel
theorem dL_law_1820 : decode cL_law 1820 = .ok (.if_icmp .ne 86, 3) := by decide +kernel
theorem dL_law_1823 : decode cL_law 1823 = .ok (.aload_n 1, 1) := by decide +kernel
theorem dL_law_1824 : decode cL_law 1824 = .ok (.iload 33, 2) := by decide +kernel
theorem dL_law_1826 : decode cL_law 1826 = .ok (.invokestatic 191, 3) := by decide +kernel
theorem dL_law_1829 : decode cL_law 1829 = .ok (.aload 10, 2) := by decide +kernel
theorem dL_law_1831 : decode cL_law 1831 = .ok (.iload 33, 2) := by decide +kernel
theorem dL_law_1833 : decode cL_law 1833 = .ok (.iaload, 1) := by decide +kernel
theorem dL_law_1834 : decode cL_law 1834 = .ok (.if_icmp .ne 72, 3) := by decide +kernel
theorem dL_law_1837 : decode cL_law 1837 = .ok (.aload_n 1, 1) := by decide +kernel
theorem dL_law_1838 : decode cL_law 1838 = .ok (.iload 33, 2) := by decide +kernel
theorem dL_law_1840 : decode cL_law 1840 = .ok (.invokestatic 193, 3) := by decide +kernel
theorem dL_law_1843 : decode cL_law 1843 = .ok (.aload 32, 2) := by decide +kernel
theorem dL_law_1845 : decode cL_law 1845 = .ok (.iload 33, 2) := by decide +kernel
theorem dL_law_1847 : decode cL_law 1847 = .ok (.iaload, 1) := by decide +kernel
theorem dL_law_1848 : decode cL_law 1848 = .ok (.if_icmp .ne 58, 3) := by decide +kernel
theorem dL_law_1851 : decode cL_law 1851 = .ok (.aload_n 1, 1) := by decide +kernel
theorem dL_law_1852 : decode cL_law 1852 = .ok (.iload 33, 2) := by decide +kernel
theorem dL_law_1854 : decode cL_law 1854 = .ok (.invokestatic 195, 3) := by decide +kernel
theorem dL_law_1857 : decode cL_law 1857 = .ok (.aload 13, 2) := by decide +kernel
theorem dL_law_1859 : decode cL_law 1859 = .ok (.iload 33, 2) := by decide +kernel
theorem dL_law_1861 : decode cL_law 1861 = .ok (.baload, 1) := by decide +kernel
theorem dL_law_1862 : decode cL_law 1862 = .ok (.ifCond .eq 7, 3) := by decide +kernel
theorem dL_law_1865 : decode cL_law 1865 = .ok (.iconst 1, 1) := by decide +kernel
theorem dL_law_1866 : decode cL_law 1866 = .ok (.goto 4, 3) := by decide +kernel
theorem dL_law_1869 : decode cL_law 1869 = .ok (.iconst 0, 1) := by decide +kernel
theorem dL_law_1870 : decode cL_law 1870 = .ok (.if_icmp .ne 36, 3) := by decide +kernel
theorem dL_law_1873 : decode cL_law 1873 = .ok (.aload_n 1, 1) := by decide +kernel
theorem dL_law_1874 : decode cL_law 1874 = .ok (.iload 33, 2) := by decide +kernel
theorem dL_law_1876 : decode cL_law 1876 = .ok (.iconst 1, 1) := by decide +kernel
theorem dL_law_1877 : decode cL_law 1877 = .ok (.invokestatic 197, 3) := by decide +kernel
theorem dL_law_1880 : decode cL_law 1880 = .ok (.aload_n 3, 1) := by decide +kernel
theorem dL_law_1881 : decode cL_law 1881 = .ok (.iload 33, 2) := by decide +kernel
theorem dL_law_1883 : decode cL_law 1883 = .ok (.iaload, 1) := by decide +kernel
theorem dL_law_1884 : decode cL_law 1884 = .ok (.if_icmp .ne 22, 3) := by decide +kernel
theorem dL_law_1887 : decode cL_law 1887 = .ok (.aload_n 1, 1) := by decide +kernel
theorem dL_law_1888 : decode cL_law 1888 = .ok (.iload 33, 2) := by decide +kernel
theorem dL_law_1890 : decode cL_law 1890 = .ok (.iconst 0, 1) := by decide +kernel
theorem dL_law_1891 : decode cL_law 1891 = .ok (.invokestatic 197, 3) := by decide +kernel
theorem dL_law_1894 : decode cL_law 1894 = .ok (.aload 4, 2) := by decide +kernel
theorem dL_law_1896 : decode cL_law 1896 = .ok (.iload 33, 2) := by decide +kernel
theorem dL_law_1898 : decode cL_law 1898 = .ok (.iaload, 1) := by decide +kernel
theorem dL_law_1899 : decode cL_law 1899 = .ok (.if_icmp .ne 7, 3) := by decide +kernel
theorem dL_law_1902 : decode cL_law 1902 = .ok (.iconst 1, 1) := by decide +kernel
theorem dL_law_1903 : decode cL_law 1903 = .ok (.goto 4, 3) := by decide +kernel
theorem dL_law_1907 : decode cL_law 1907 = .ok (.iand, 1) := by decide +kernel
theorem dL_law_1908 : decode cL_law 1908 = .ok (.istore_n 2, 1) := by decide +kernel
theorem dL_law_1909 : decode cL_law 1909 = .ok (.iload_n 2, 1) := by decide +kernel
theorem dL_law_1910 : decode cL_law 1910 = .ok (.aload_n 1, 1) := by decide +kernel
theorem dL_law_1911 : decode cL_law 1911 = .ok (.iload 33, 2) := by decide +kernel
theorem dL_law_1913 : decode cL_law 1913 = .ok (.invokestatic 200, 3) := by decide +kernel
theorem dL_law_1916 : decode cL_law 1916 = .ok (.aload 28, 2) := by decide +kernel
theorem dL_law_1918 : decode cL_law 1918 = .ok (.iload 33, 2) := by decide +kernel
theorem dL_law_1920 : decode cL_law 1920 = .ok (.baload, 1) := by decide +kernel
theorem dL_law_1921 : decode cL_law 1921 = .ok (.ifCond .eq 9, 3) := by decide +kernel
theorem dL_law_1924 : decode cL_law 1924 = .ok (.sipush 200, 3) := by decide +kernel
theorem dL_law_1927 : decode cL_law 1927 = .ok (.goto 5, 3) := by decide +kernel
theorem dL_law_1930 : decode cL_law 1930 = .ok (.ldc 20, 2) := by decide +kernel
theorem dL_law_1932 : decode cL_law 1932 = .ok (.if_icmp .ne 7, 3) := by decide +kernel
theorem dL_law_1935 : decode cL_law 1935 = .ok (.iconst 1, 1) := by decide +kernel
theorem dL_law_1936 : decode cL_law 1936 = .ok (.goto 4, 3) := by decide +kernel
theorem dL_law_1940 : decode cL_law 1940 = .ok (.iand, 1) := by decide +kernel
theorem dL_law_1941 : decode cL_law 1941 = .ok (.istore_n 2, 1) := by decide +kernel
theorem dL_law_1942 : decode cL_law 1942 = .ok (.iinc 33 1, 3) := by decide +kernel
theorem dL_law_1945 : decode cL_law 1945 = .ok (.goto (-520), 3) := by decide +kernel
theorem dL_law_1948 : decode cL_law 1948 = .ok (.iinc 24 1, 3) := by decide +kernel
theorem dL_law_1951 : decode cL_law 1951 = .ok (.iinc 25 1, 3) := by decide +kernel
theorem dL_law_1954 : decode cL_law 1954 = .ok (.goto (-1180), 3) := by decide +kernel
