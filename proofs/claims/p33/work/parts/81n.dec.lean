theorem dLaw_1790g : (decode code 1790 = .ok (.invokevirtual 191, 3)) ∧ (decode code 1793 = .ok (.pop, 1)) ∧ (decode code 1794 = .ok (.goto 210, 3)) ∧ (decode code 1797 = .ok (.aload_n 1, 1)) ∧ (decode code 1798 = .ok (.invokevirtual 192, 3)) ∧ (decode code 1801 = .ok (.pop, 1)) ∧ (decode code 1802 = .ok (.aload_n 2, 1)) ∧ (decode code 1803 = .ok (.invokevirtual 195, 3)) ∧ (decode code 1806 = .ok (.pop, 1)) ∧ (decode code 1807 = .ok (.goto 197, 3)) := by decide +kernel
theorem dLaw_1790 : decode code 1790 = .ok (.invokevirtual 191, 3) := dLaw_1790g.1
theorem dLaw_1793 : decode code 1793 = .ok (.pop, 1) := dLaw_1790g.2.1
theorem dLaw_1794 : decode code 1794 = .ok (.goto 210, 3) := dLaw_1790g.2.2.1
theorem dLaw_1797 : decode code 1797 = .ok (.aload_n 1, 1) := dLaw_1790g.2.2.2.1
theorem dLaw_1798 : decode code 1798 = .ok (.invokevirtual 192, 3) := dLaw_1790g.2.2.2.2.1
theorem dLaw_1801 : decode code 1801 = .ok (.pop, 1) := dLaw_1790g.2.2.2.2.2.1
theorem dLaw_1802 : decode code 1802 = .ok (.aload_n 2, 1) := dLaw_1790g.2.2.2.2.2.2.1
theorem dLaw_1803 : decode code 1803 = .ok (.invokevirtual 195, 3) := dLaw_1790g.2.2.2.2.2.2.2.1
theorem dLaw_1806 : decode code 1806 = .ok (.pop, 1) := dLaw_1790g.2.2.2.2.2.2.2.2.1
theorem dLaw_1807 : decode code 1807 = .ok (.goto 197, 3) := dLaw_1790g.2.2.2.2.2.2.2.2.2
theorem dLaw_1810g : (decode code 1810 = .ok (.aload_n 1, 1)) ∧ (decode code 1811 = .ok (.aload_n 0, 1)) ∧ (decode code 1812 = .ok (.iload_n 3, 1)) ∧ (decode code 1813 = .ok (.iconst 1, 1)) ∧ (decode code 1814 = .ok (.iadd, 1)) ∧ (decode code 1815 = .ok (.iaload, 1)) ∧ (decode code 1816 = .ok (.aload_n 0, 1)) ∧ (decode code 1817 = .ok (.iload_n 3, 1)) ∧ (decode code 1818 = .ok (.iconst 2, 1)) ∧ (decode code 1819 = .ok (.iadd, 1)) := by decide +kernel
theorem dLaw_1810 : decode code 1810 = .ok (.aload_n 1, 1) := dLaw_1810g.1
theorem dLaw_1811 : decode code 1811 = .ok (.aload_n 0, 1) := dLaw_1810g.2.1
theorem dLaw_1812 : decode code 1812 = .ok (.iload_n 3, 1) := dLaw_1810g.2.2.1
theorem dLaw_1813 : decode code 1813 = .ok (.iconst 1, 1) := dLaw_1810g.2.2.2.1
theorem dLaw_1814 : decode code 1814 = .ok (.iadd, 1) := dLaw_1810g.2.2.2.2.1
theorem dLaw_1815 : decode code 1815 = .ok (.iaload, 1) := dLaw_1810g.2.2.2.2.2.1
theorem dLaw_1816 : decode code 1816 = .ok (.aload_n 0, 1) := dLaw_1810g.2.2.2.2.2.2.1
theorem dLaw_1817 : decode code 1817 = .ok (.iload_n 3, 1) := dLaw_1810g.2.2.2.2.2.2.2.1
theorem dLaw_1818 : decode code 1818 = .ok (.iconst 2, 1) := dLaw_1810g.2.2.2.2.2.2.2.2.1
theorem dLaw_1819 : decode code 1819 = .ok (.iadd, 1) := dLaw_1810g.2.2.2.2.2.2.2.2.2
theorem dLaw_1820g : (decode code 1820 = .ok (.iaload, 1)) ∧ (decode code 1821 = .ok (.invokevirtual 196, 3)) ∧ (decode code 1824 = .ok (.pop, 1)) ∧ (decode code 1825 = .ok (.aload_n 2, 1)) ∧ (decode code 1826 = .ok (.aload_n 0, 1)) ∧ (decode code 1827 = .ok (.iload_n 3, 1)) ∧ (decode code 1828 = .ok (.iconst 1, 1)) ∧ (decode code 1829 = .ok (.iadd, 1)) ∧ (decode code 1830 = .ok (.iaload, 1)) ∧ (decode code 1831 = .ok (.aload_n 0, 1)) := by decide +kernel
theorem dLaw_1820 : decode code 1820 = .ok (.iaload, 1) := dLaw_1820g.1
theorem dLaw_1821 : decode code 1821 = .ok (.invokevirtual 196, 3) := dLaw_1820g.2.1
theorem dLaw_1824 : decode code 1824 = .ok (.pop, 1) := dLaw_1820g.2.2.1
theorem dLaw_1825 : decode code 1825 = .ok (.aload_n 2, 1) := dLaw_1820g.2.2.2.1
theorem dLaw_1826 : decode code 1826 = .ok (.aload_n 0, 1) := dLaw_1820g.2.2.2.2.1
theorem dLaw_1827 : decode code 1827 = .ok (.iload_n 3, 1) := dLaw_1820g.2.2.2.2.2.1
theorem dLaw_1828 : decode code 1828 = .ok (.iconst 1, 1) := dLaw_1820g.2.2.2.2.2.2.1
theorem dLaw_1829 : decode code 1829 = .ok (.iadd, 1) := dLaw_1820g.2.2.2.2.2.2.2.1
theorem dLaw_1830 : decode code 1830 = .ok (.iaload, 1) := dLaw_1820g.2.2.2.2.2.2.2.2.1
theorem dLaw_1831 : decode code 1831 = .ok (.aload_n 0, 1) := dLaw_1820g.2.2.2.2.2.2.2.2.2
theorem dLaw_1832g : (decode code 1832 = .ok (.iload_n 3, 1)) ∧ (decode code 1833 = .ok (.iconst 2, 1)) ∧ (decode code 1834 = .ok (.iadd, 1)) ∧ (decode code 1835 = .ok (.iaload, 1)) ∧ (decode code 1836 = .ok (.invokevirtual 199, 3)) ∧ (decode code 1839 = .ok (.pop, 1)) ∧ (decode code 1840 = .ok (.goto 164, 3)) ∧ (decode code 1843 = .ok (.aload_n 1, 1)) ∧ (decode code 1844 = .ok (.aload_n 0, 1)) ∧ (decode code 1845 = .ok (.iload_n 3, 1)) := by decide +kernel
theorem dLaw_1832 : decode code 1832 = .ok (.iload_n 3, 1) := dLaw_1832g.1
theorem dLaw_1833 : decode code 1833 = .ok (.iconst 2, 1) := dLaw_1832g.2.1
theorem dLaw_1834 : decode code 1834 = .ok (.iadd, 1) := dLaw_1832g.2.2.1
theorem dLaw_1835 : decode code 1835 = .ok (.iaload, 1) := dLaw_1832g.2.2.2.1
theorem dLaw_1836 : decode code 1836 = .ok (.invokevirtual 199, 3) := dLaw_1832g.2.2.2.2.1
theorem dLaw_1839 : decode code 1839 = .ok (.pop, 1) := dLaw_1832g.2.2.2.2.2.1
theorem dLaw_1840 : decode code 1840 = .ok (.goto 164, 3) := dLaw_1832g.2.2.2.2.2.2.1
theorem dLaw_1843 : decode code 1843 = .ok (.aload_n 1, 1) := dLaw_1832g.2.2.2.2.2.2.2.1
theorem dLaw_1844 : decode code 1844 = .ok (.aload_n 0, 1) := dLaw_1832g.2.2.2.2.2.2.2.2.1
theorem dLaw_1845 : decode code 1845 = .ok (.iload_n 3, 1) := dLaw_1832g.2.2.2.2.2.2.2.2.2
theorem dLaw_1846g : (decode code 1846 = .ok (.iconst 1, 1)) ∧ (decode code 1847 = .ok (.iadd, 1)) ∧ (decode code 1848 = .ok (.iaload, 1)) ∧ (decode code 1849 = .ok (.invokevirtual 200, 3)) ∧ (decode code 1852 = .ok (.pop, 1)) ∧ (decode code 1853 = .ok (.aload_n 2, 1)) ∧ (decode code 1854 = .ok (.aload_n 0, 1)) ∧ (decode code 1855 = .ok (.iload_n 3, 1)) ∧ (decode code 1856 = .ok (.iconst 1, 1)) ∧ (decode code 1857 = .ok (.iadd, 1)) := by decide +kernel
theorem dLaw_1846 : decode code 1846 = .ok (.iconst 1, 1) := dLaw_1846g.1
theorem dLaw_1847 : decode code 1847 = .ok (.iadd, 1) := dLaw_1846g.2.1
theorem dLaw_1848 : decode code 1848 = .ok (.iaload, 1) := dLaw_1846g.2.2.1
theorem dLaw_1849 : decode code 1849 = .ok (.invokevirtual 200, 3) := dLaw_1846g.2.2.2.1
theorem dLaw_1852 : decode code 1852 = .ok (.pop, 1) := dLaw_1846g.2.2.2.2.1
theorem dLaw_1853 : decode code 1853 = .ok (.aload_n 2, 1) := dLaw_1846g.2.2.2.2.2.1
theorem dLaw_1854 : decode code 1854 = .ok (.aload_n 0, 1) := dLaw_1846g.2.2.2.2.2.2.1
theorem dLaw_1855 : decode code 1855 = .ok (.iload_n 3, 1) := dLaw_1846g.2.2.2.2.2.2.2.1
theorem dLaw_1856 : decode code 1856 = .ok (.iconst 1, 1) := dLaw_1846g.2.2.2.2.2.2.2.2.1
theorem dLaw_1857 : decode code 1857 = .ok (.iadd, 1) := dLaw_1846g.2.2.2.2.2.2.2.2.2
theorem dLaw_1858g : (decode code 1858 = .ok (.iaload, 1)) ∧ (decode code 1859 = .ok (.invokevirtual 203, 3)) ∧ (decode code 1862 = .ok (.pop, 1)) ∧ (decode code 1863 = .ok (.goto 141, 3)) ∧ (decode code 1866 = .ok (.aload_n 1, 1)) ∧ (decode code 1867 = .ok (.aload_n 0, 1)) ∧ (decode code 1868 = .ok (.iload_n 3, 1)) ∧ (decode code 1869 = .ok (.iconst 1, 1)) ∧ (decode code 1870 = .ok (.iadd, 1)) ∧ (decode code 1871 = .ok (.iaload, 1)) := by decide +kernel
theorem dLaw_1858 : decode code 1858 = .ok (.iaload, 1) := dLaw_1858g.1
theorem dLaw_1859 : decode code 1859 = .ok (.invokevirtual 203, 3) := dLaw_1858g.2.1
theorem dLaw_1862 : decode code 1862 = .ok (.pop, 1) := dLaw_1858g.2.2.1
theorem dLaw_1863 : decode code 1863 = .ok (.goto 141, 3) := dLaw_1858g.2.2.2.1
theorem dLaw_1866 : decode code 1866 = .ok (.aload_n 1, 1) := dLaw_1858g.2.2.2.2.1
theorem dLaw_1867 : decode code 1867 = .ok (.aload_n 0, 1) := dLaw_1858g.2.2.2.2.2.1
theorem dLaw_1868 : decode code 1868 = .ok (.iload_n 3, 1) := dLaw_1858g.2.2.2.2.2.2.1
theorem dLaw_1869 : decode code 1869 = .ok (.iconst 1, 1) := dLaw_1858g.2.2.2.2.2.2.2.1
theorem dLaw_1870 : decode code 1870 = .ok (.iadd, 1) := dLaw_1858g.2.2.2.2.2.2.2.2.1
theorem dLaw_1871 : decode code 1871 = .ok (.iaload, 1) := dLaw_1858g.2.2.2.2.2.2.2.2.2
theorem dLaw_1872g : (decode code 1872 = .ok (.aload_n 0, 1)) ∧ (decode code 1873 = .ok (.iload_n 3, 1)) ∧ (decode code 1874 = .ok (.iconst 2, 1)) ∧ (decode code 1875 = .ok (.iadd, 1)) ∧ (decode code 1876 = .ok (.iaload, 1)) ∧ (decode code 1877 = .ok (.invokevirtual 204, 3)) ∧ (decode code 1880 = .ok (.pop, 1)) ∧ (decode code 1881 = .ok (.aload_n 2, 1)) ∧ (decode code 1882 = .ok (.aload_n 0, 1)) ∧ (decode code 1883 = .ok (.iload_n 3, 1)) := by decide +kernel
theorem dLaw_1872 : decode code 1872 = .ok (.aload_n 0, 1) := dLaw_1872g.1
theorem dLaw_1873 : decode code 1873 = .ok (.iload_n 3, 1) := dLaw_1872g.2.1
theorem dLaw_1874 : decode code 1874 = .ok (.iconst 2, 1) := dLaw_1872g.2.2.1
theorem dLaw_1875 : decode code 1875 = .ok (.iadd, 1) := dLaw_1872g.2.2.2.1
theorem dLaw_1876 : decode code 1876 = .ok (.iaload, 1) := dLaw_1872g.2.2.2.2.1
theorem dLaw_1877 : decode code 1877 = .ok (.invokevirtual 204, 3) := dLaw_1872g.2.2.2.2.2.1
theorem dLaw_1880 : decode code 1880 = .ok (.pop, 1) := dLaw_1872g.2.2.2.2.2.2.1
theorem dLaw_1881 : decode code 1881 = .ok (.aload_n 2, 1) := dLaw_1872g.2.2.2.2.2.2.2.1
theorem dLaw_1882 : decode code 1882 = .ok (.aload_n 0, 1) := dLaw_1872g.2.2.2.2.2.2.2.2.1
theorem dLaw_1883 : decode code 1883 = .ok (.iload_n 3, 1) := dLaw_1872g.2.2.2.2.2.2.2.2.2
theorem dLaw_1884g : (decode code 1884 = .ok (.iconst 1, 1)) ∧ (decode code 1885 = .ok (.iadd, 1)) ∧ (decode code 1886 = .ok (.iaload, 1)) ∧ (decode code 1887 = .ok (.aload_n 0, 1)) ∧ (decode code 1888 = .ok (.iload_n 3, 1)) ∧ (decode code 1889 = .ok (.iconst 2, 1)) ∧ (decode code 1890 = .ok (.iadd, 1)) ∧ (decode code 1891 = .ok (.iaload, 1)) ∧ (decode code 1892 = .ok (.invokevirtual 207, 3)) ∧ (decode code 1895 = .ok (.pop, 1)) := by decide +kernel
theorem dLaw_1884 : decode code 1884 = .ok (.iconst 1, 1) := dLaw_1884g.1
theorem dLaw_1885 : decode code 1885 = .ok (.iadd, 1) := dLaw_1884g.2.1
theorem dLaw_1886 : decode code 1886 = .ok (.iaload, 1) := dLaw_1884g.2.2.1
theorem dLaw_1887 : decode code 1887 = .ok (.aload_n 0, 1) := dLaw_1884g.2.2.2.1
theorem dLaw_1888 : decode code 1888 = .ok (.iload_n 3, 1) := dLaw_1884g.2.2.2.2.1
theorem dLaw_1889 : decode code 1889 = .ok (.iconst 2, 1) := dLaw_1884g.2.2.2.2.2.1
theorem dLaw_1890 : decode code 1890 = .ok (.iadd, 1) := dLaw_1884g.2.2.2.2.2.2.1
theorem dLaw_1891 : decode code 1891 = .ok (.iaload, 1) := dLaw_1884g.2.2.2.2.2.2.2.1
theorem dLaw_1892 : decode code 1892 = .ok (.invokevirtual 207, 3) := dLaw_1884g.2.2.2.2.2.2.2.2.1
theorem dLaw_1895 : decode code 1895 = .ok (.pop, 1) := dLaw_1884g.2.2.2.2.2.2.2.2.2
theorem dLaw_1896g : (decode code 1896 = .ok (.goto 108, 3)) ∧ (decode code 1899 = .ok (.aload_n 1, 1)) ∧ (decode code 1900 = .ok (.aload_n 0, 1)) ∧ (decode code 1901 = .ok (.iload_n 3, 1)) ∧ (decode code 1902 = .ok (.iconst 1, 1)) ∧ (decode code 1903 = .ok (.iadd, 1)) ∧ (decode code 1904 = .ok (.iaload, 1)) ∧ (decode code 1905 = .ok (.invokevirtual 208, 3)) ∧ (decode code 1908 = .ok (.pop, 1)) ∧ (decode code 1909 = .ok (.aload_n 2, 1)) := by decide +kernel
theorem dLaw_1896 : decode code 1896 = .ok (.goto 108, 3) := dLaw_1896g.1
theorem dLaw_1899 : decode code 1899 = .ok (.aload_n 1, 1) := dLaw_1896g.2.1
theorem dLaw_1900 : decode code 1900 = .ok (.aload_n 0, 1) := dLaw_1896g.2.2.1
theorem dLaw_1901 : decode code 1901 = .ok (.iload_n 3, 1) := dLaw_1896g.2.2.2.1
theorem dLaw_1902 : decode code 1902 = .ok (.iconst 1, 1) := dLaw_1896g.2.2.2.2.1
theorem dLaw_1903 : decode code 1903 = .ok (.iadd, 1) := dLaw_1896g.2.2.2.2.2.1
theorem dLaw_1904 : decode code 1904 = .ok (.iaload, 1) := dLaw_1896g.2.2.2.2.2.2.1
theorem dLaw_1905 : decode code 1905 = .ok (.invokevirtual 208, 3) := dLaw_1896g.2.2.2.2.2.2.2.1
theorem dLaw_1908 : decode code 1908 = .ok (.pop, 1) := dLaw_1896g.2.2.2.2.2.2.2.2.1
theorem dLaw_1909 : decode code 1909 = .ok (.aload_n 2, 1) := dLaw_1896g.2.2.2.2.2.2.2.2.2
theorem dLaw_1910g : (decode code 1910 = .ok (.aload_n 0, 1)) ∧ (decode code 1911 = .ok (.iload_n 3, 1)) ∧ (decode code 1912 = .ok (.iconst 1, 1)) ∧ (decode code 1913 = .ok (.iadd, 1)) ∧ (decode code 1914 = .ok (.iaload, 1)) ∧ (decode code 1915 = .ok (.invokevirtual 211, 3)) ∧ (decode code 1918 = .ok (.pop, 1)) ∧ (decode code 1919 = .ok (.goto 85, 3)) ∧ (decode code 1922 = .ok (.aload_n 1, 1)) ∧ (decode code 1923 = .ok (.aload_n 0, 1)) := by decide +kernel
theorem dLaw_1910 : decode code 1910 = .ok (.aload_n 0, 1) := dLaw_1910g.1
theorem dLaw_1911 : decode code 1911 = .ok (.iload_n 3, 1) := dLaw_1910g.2.1
theorem dLaw_1912 : decode code 1912 = .ok (.iconst 1, 1) := dLaw_1910g.2.2.1
theorem dLaw_1913 : decode code 1913 = .ok (.iadd, 1) := dLaw_1910g.2.2.2.1
theorem dLaw_1914 : decode code 1914 = .ok (.iaload, 1) := dLaw_1910g.2.2.2.2.1
theorem dLaw_1915 : decode code 1915 = .ok (.invokevirtual 211, 3) := dLaw_1910g.2.2.2.2.2.1
theorem dLaw_1918 : decode code 1918 = .ok (.pop, 1) := dLaw_1910g.2.2.2.2.2.2.1
theorem dLaw_1919 : decode code 1919 = .ok (.goto 85, 3) := dLaw_1910g.2.2.2.2.2.2.2.1
theorem dLaw_1922 : decode code 1922 = .ok (.aload_n 1, 1) := dLaw_1910g.2.2.2.2.2.2.2.2.1
theorem dLaw_1923 : decode code 1923 = .ok (.aload_n 0, 1) := dLaw_1910g.2.2.2.2.2.2.2.2.2
