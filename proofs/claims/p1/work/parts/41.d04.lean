theorem dL_law_1828 : decode cL_law 1828 = .ok (.invokevirtual 178, 3) := by decide +kernel
theorem dL_law_1831 : decode cL_law 1831 = .ok (.if_icmp .eq 1322, 3) := by decide +kernel
theorem dL_law_1836 : decode cL_law 1836 = .ok (.aload_n 1, 1) := by decide +kernel
theorem dL_law_1837 : decode cL_law 1837 = .ok (.aload_n 0, 1) := by decide +kernel
theorem dL_law_1838 : decode cL_law 1838 = .ok (.iload_n 3, 1) := by decide +kernel
theorem dL_law_1839 : decode cL_law 1839 = .ok (.iconst 1, 1) := by decide +kernel
theorem dL_law_1840 : decode cL_law 1840 = .ok (.iadd, 1) := by decide +kernel
theorem dL_law_1841 : decode cL_law 1841 = .ok (.iaload, 1) := by decide +kernel
theorem dL_law_1842 : decode cL_law 1842 = .ok (.aload_n 0, 1) := by decide +kernel
theorem dL_law_1843 : decode cL_law 1843 = .ok (.iload_n 3, 1) := by decide +kernel
theorem dL_law_1844 : decode cL_law 1844 = .ok (.iconst 2, 1) := by decide +kernel
theorem dL_law_1845 : decode cL_law 1845 = .ok (.iadd, 1) := by decide +kernel
theorem dL_law_1846 : decode cL_law 1846 = .ok (.iaload, 1) := by decide +kernel
theorem dL_law_1847 : decode cL_law 1847 = .ok (.aload_n 0, 1) := by decide +kernel
theorem dL_law_1848 : decode cL_law 1848 = .ok (.iload_n 3, 1) := by decide +kernel
theorem dL_law_1849 : decode cL_law 1849 = .ok (.iconst 3, 1) := by decide +kernel
theorem dL_law_1850 : decode cL_law 1850 = .ok (.iadd, 1) := by decide +kernel
theorem dL_law_1851 : decode cL_law 1851 = .ok (.iaload, 1) := by decide +kernel
theorem dL_law_1852 : decode cL_law 1852 = .ok (.invokevirtual 179, 3) := by decide +kernel
theorem dL_law_1855 : decode cL_law 1855 = .ok (.aload_n 2, 1) := by decide +kernel
theorem dL_law_1856 : decode cL_law 1856 = .ok (.aload_n 0, 1) := by decide +kernel
theorem dL_law_1857 : decode cL_law 1857 = .ok (.iload_n 3, 1) := by decide +kernel
theorem dL_law_1858 : decode cL_law 1858 = .ok (.iconst 1, 1) := by decide +kernel
theorem dL_law_1859 : decode cL_law 1859 = .ok (.iadd, 1) := by decide +kernel
theorem dL_law_1860 : decode cL_law 1860 = .ok (.iaload, 1) := by decide +kernel
theorem dL_law_1861 : decode cL_law 1861 = .ok (.aload_n 0, 1) := by decide +kernel
theorem dL_law_1862 : decode cL_law 1862 = .ok (.iload_n 3, 1) := by decide +kernel
theorem dL_law_1863 : decode cL_law 1863 = .ok (.iconst 2, 1) := by decide +kernel
theorem dL_law_1864 : decode cL_law 1864 = .ok (.iadd, 1) := by decide +kernel
theorem dL_law_1865 : decode cL_law 1865 = .ok (.iaload, 1) := by decide +kernel
theorem dL_law_1866 : decode cL_law 1866 = .ok (.aload_n 0, 1) := by decide +kernel
theorem dL_law_1867 : decode cL_law 1867 = .ok (.iload_n 3, 1) := by decide +kernel
theorem dL_law_1868 : decode cL_law 1868 = .ok (.iconst 3, 1) := by decide +kernel
theorem dL_law_1869 : decode cL_law 1869 = .ok (.iadd, 1) := by decide +kernel
theorem dL_law_1870 : decode cL_law 1870 = .ok (.iaload, 1) := by decide +kernel
theorem dL_law_1871 : decode cL_law 1871 = .ok (.invokevirtual 182, 3) := by decide +kernel
theorem dL_law_1874 : decode cL_law 1874 = .ok (.if_icmp .eq 1279, 3) := by decide +kernel
theorem dL_law_1879 : decode cL_law 1879 = .ok (.aload_n 1, 1) := by decide +kernel
theorem dL_law_1880 : decode cL_law 1880 = .ok (.aload_n 0, 1) := by decide +kernel
theorem dL_law_1881 : decode cL_law 1881 = .ok (.iload_n 3, 1) := by decide +kernel
theorem dL_law_1882 : decode cL_law 1882 = .ok (.iconst 1, 1) := by decide +kernel
theorem dL_law_1883 : decode cL_law 1883 = .ok (.iadd, 1) := by decide +kernel
theorem dL_law_1884 : decode cL_law 1884 = .ok (.iaload, 1) := by decide +kernel
theorem dL_law_1885 : decode cL_law 1885 = .ok (.aload_n 0, 1) := by decide +kernel
theorem dL_law_1886 : decode cL_law 1886 = .ok (.iload_n 3, 1) := by decide +kernel
theorem dL_law_1887 : decode cL_law 1887 = .ok (.iconst 2, 1) := by decide +kernel
theorem dL_law_1888 : decode cL_law 1888 = .ok (.iadd, 1) := by decide +kernel
theorem dL_law_1889 : decode cL_law 1889 = .ok (.iaload, 1) := by decide +kernel
theorem dL_law_1890 : decode cL_law 1890 = .ok (.aload_n 0, 1) := by decide +kernel
theorem dL_law_1891 : decode cL_law 1891 = .ok (.iload_n 3, 1) := by decide +kernel
theorem dL_law_1892 : decode cL_law 1892 = .ok (.iconst 3, 1) := by decide +kernel
theorem dL_law_1893 : decode cL_law 1893 = .ok (.iadd, 1) := by decide +kernel
theorem dL_law_1894 : decode cL_law 1894 = .ok (.iaload, 1) := by decide +kernel
theorem dL_law_1895 : decode cL_law 1895 = .ok (.aload_n 0, 1) := by decide +kernel
theorem dL_law_1896 : decode cL_law 1896 = .ok (.iload_n 3, 1) := by decide +kernel
theorem dL_law_1897 : decode cL_law 1897 = .ok (.iconst 4, 1) := by decide +kernel
theorem dL_law_1898 : decode cL_law 1898 = .ok (.iadd, 1) := by decide +kernel
theorem dL_law_1899 : decode cL_law 1899 = .ok (.iaload, 1) := by decide +kernel
theorem dL_law_1900 : decode cL_law 1900 = .ok (.aload_n 0, 1) := by decide +kernel
theorem dL_law_1901 : decode cL_law 1901 = .ok (.iload_n 3, 1) := by decide +kernel
theorem dL_law_1902 : decode cL_law 1902 = .ok (.iconst 5, 1) := by decide +kernel
theorem dL_law_1903 : decode cL_law 1903 = .ok (.iadd, 1) := by decide +kernel
theorem dL_law_1904 : decode cL_law 1904 = .ok (.iaload, 1) := by decide +kernel
theorem dL_law_1905 : decode cL_law 1905 = .ok (.invokevirtual 183, 3) := by decide +kernel
theorem dL_law_1908 : decode cL_law 1908 = .ok (.aload_n 2, 1) := by decide +kernel
theorem dL_law_1909 : decode cL_law 1909 = .ok (.aload_n 0, 1) := by decide +kernel
theorem dL_law_1910 : decode cL_law 1910 = .ok (.iload_n 3, 1) := by decide +kernel
theorem dL_law_1911 : decode cL_law 1911 = .ok (.iconst 1, 1) := by decide +kernel
theorem dL_law_1912 : decode cL_law 1912 = .ok (.iadd, 1) := by decide +kernel
theorem dL_law_1913 : decode cL_law 1913 = .ok (.iaload, 1) := by decide +kernel
theorem dL_law_1914 : decode cL_law 1914 = .ok (.aload_n 0, 1) := by decide +kernel
theorem dL_law_1915 : decode cL_law 1915 = .ok (.iload_n 3, 1) := by decide +kernel
theorem dL_law_1916 : decode cL_law 1916 = .ok (.iconst 2, 1) := by decide +kernel
theorem dL_law_1917 : decode cL_law 1917 = .ok (.iadd, 1) := by decide +kernel
theorem dL_law_1918 : decode cL_law 1918 = .ok (.iaload, 1) := by decide +kernel
theorem dL_law_1919 : decode cL_law 1919 = .ok (.aload_n 0, 1) := by decide +kernel
theorem dL_law_1920 : decode cL_law 1920 = .ok (.iload_n 3, 1) := by decide +kernel
theorem dL_law_1921 : decode cL_law 1921 = .ok (.iconst 3, 1) := by decide +kernel
theorem dL_law_1922 : decode cL_law 1922 = .ok (.iadd, 1) := by decide +kernel
theorem dL_law_1923 : decode cL_law 1923 = .ok (.iaload, 1) := by decide +kernel
theorem dL_law_1924 : decode cL_law 1924 = .ok (.aload_n 0, 1) := by decide +kernel
theorem dL_law_1925 : decode cL_law 1925 = .ok (.iload_n 3, 1) := by decide +kernel
theorem dL_law_1926 : decode cL_law 1926 = .ok (.iconst 4, 1) := by decide +kernel
theorem dL_law_1927 : decode cL_law 1927 = .ok (.iadd, 1) := by decide +kernel
theorem dL_law_1928 : decode cL_law 1928 = .ok (.iaload, 1) := by decide +kernel
theorem dL_law_1929 : decode cL_law 1929 = .ok (.aload_n 0, 1) := by decide +kernel
theorem dL_law_1930 : decode cL_law 1930 = .ok (.iload_n 3, 1) := by decide +kernel
theorem dL_law_1931 : decode cL_law 1931 = .ok (.iconst 5, 1) := by decide +kernel
theorem dL_law_1932 : decode cL_law 1932 = .ok (.iadd, 1) := by decide +kernel
theorem dL_law_1933 : decode cL_law 1933 = .ok (.iaload, 1) := by decide +kernel
theorem dL_law_1934 : decode cL_law 1934 = .ok (.invokevirtual 186, 3) := by decide +kernel
theorem dL_law_1937 : decode cL_law 1937 = .ok (.if_icmp .eq 1216, 3) := by decide +kernel
theorem dL_law_1942 : decode cL_law 1942 = .ok (.aload_n 1, 1) := by decide +kernel
theorem dL_law_1943 : decode cL_law 1943 = .ok (.aload_n 0, 1) := by decide +kernel
theorem dL_law_1944 : decode cL_law 1944 = .ok (.iload_n 3, 1) := by decide +kernel
theorem dL_law_1945 : decode cL_law 1945 = .ok (.iconst 1, 1) := by decide +kernel
theorem dL_law_1946 : decode cL_law 1946 = .ok (.iadd, 1) := by decide +kernel
theorem dL_law_1947 : decode cL_law 1947 = .ok (.iaload, 1) := by decide +kernel
theorem dL_law_1948 : decode cL_law 1948 = .ok (.aload_n 0, 1) := by decide +kernel
theorem dL_law_1949 : decode cL_law 1949 = .ok (.iload_n 3, 1) := by decide +kernel
theorem dL_law_1950 : decode cL_law 1950 = .ok (.iconst 2, 1) := by decide +kernel
theorem dL_law_1951 : decode cL_law 1951 = .ok (.iadd, 1) := by decide +kernel
theorem dL_law_1952 : decode cL_law 1952 = .ok (.iaload, 1) := by decide +kernel
theorem dL_law_1953 : decode cL_law 1953 = .ok (.aload_n 0, 1) := by decide +kernel
theorem dL_law_1954 : decode cL_law 1954 = .ok (.iload_n 3, 1) := by decide +kernel
theorem dL_law_1955 : decode cL_law 1955 = .ok (.iconst 3, 1) := by decide +kernel
theorem dL_law_1956 : decode cL_law 1956 = .ok (.iadd, 1) := by decide +kernel
theorem dL_law_1957 : decode cL_law 1957 = .ok (.iaload, 1) := by decide +kernel
theorem dL_law_1958 : decode cL_law 1958 = .ok (.aload_n 0, 1) := by decide +kernel
theorem dL_law_1959 : decode cL_law 1959 = .ok (.iload_n 3, 1) := by decide +kernel
theorem dL_law_1960 : decode cL_law 1960 = .ok (.iconst 4, 1) := by decide +kernel
theorem dL_law_1961 : decode cL_law 1961 = .ok (.iadd, 1) := by decide +kernel
theorem dL_law_1962 : decode cL_law 1962 = .ok (.iaload, 1) := by decide +kernel
theorem dL_law_1963 : decode cL_law 1963 = .ok (.aload_n 0, 1) := by decide +kernel
theorem dL_law_1964 : decode cL_law 1964 = .ok (.iload_n 3, 1) := by decide +kernel
theorem dL_law_1965 : decode cL_law 1965 = .ok (.iconst 5, 1) := by decide +kernel
theorem dL_law_1966 : decode cL_law 1966 = .ok (.iadd, 1) := by decide +kernel
theorem dL_law_1967 : decode cL_law 1967 = .ok (.iaload, 1) := by decide +kernel
theorem dL_law_1968 : decode cL_law 1968 = .ok (.invokevirtual 187, 3) := by decide +kernel
theorem dL_law_1971 : decode cL_law 1971 = .ok (.aload_n 2, 1) := by decide +kernel
theorem dL_law_1972 : decode cL_law 1972 = .ok (.aload_n 0, 1) := by decide +kernel
theorem dL_law_1973 : decode cL_law 1973 = .ok (.iload_n 3, 1) := by decide +kernel
theorem dL_law_1974 : decode cL_law 1974 = .ok (.iconst 1, 1) := by decide +kernel
theorem dL_law_1975 : decode cL_law 1975 = .ok (.iadd, 1) := by decide +kernel
theorem dL_law_1976 : decode cL_law 1976 = .ok (.iaload, 1) := by decide +kernel
theorem dL_law_1977 : decode cL_law 1977 = .ok (.aload_n 0, 1) := by decide +kernel
theorem dL_law_1978 : decode cL_law 1978 = .ok (.iload_n 3, 1) := by decide +kernel
theorem dL_law_1979 : decode cL_law 1979 = .ok (.iconst 2, 1) := by decide +kernel
theorem dL_law_1980 : decode cL_law 1980 = .ok (.iadd, 1) := by decide +kernel
theorem dL_law_1981 : decode cL_law 1981 = .ok (.iaload, 1) := by decide +kernel
theorem dL_law_1982 : decode cL_law 1982 = .ok (.aload_n 0, 1) := by decide +kernel
theorem dL_law_1983 : decode cL_law 1983 = .ok (.iload_n 3, 1) := by decide +kernel
theorem dL_law_1984 : decode cL_law 1984 = .ok (.iconst 3, 1) := by decide +kernel
theorem dL_law_1985 : decode cL_law 1985 = .ok (.iadd, 1) := by decide +kernel
theorem dL_law_1986 : decode cL_law 1986 = .ok (.iaload, 1) := by decide +kernel
theorem dL_law_1987 : decode cL_law 1987 = .ok (.aload_n 0, 1) := by decide +kernel
theorem dL_law_1988 : decode cL_law 1988 = .ok (.iload_n 3, 1) := by decide +kernel
theorem dL_law_1989 : decode cL_law 1989 = .ok (.iconst 4, 1) := by decide +kernel
theorem dL_law_1990 : decode cL_law 1990 = .ok (.iadd, 1) := by decide +kernel
theorem dL_law_1991 : decode cL_law 1991 = .ok (.iaload, 1) := by decide +kernel
theorem dL_law_1992 : decode cL_law 1992 = .ok (.aload_n 0, 1) := by decide +kernel
theorem dL_law_1993 : decode cL_law 1993 = .ok (.iload_n 3, 1) := by decide +kernel
theorem dL_law_1994 : decode cL_law 1994 = .ok (.iconst 5, 1) := by decide +kernel
theorem dL_law_1995 : decode cL_law 1995 = .ok (.iadd, 1) := by decide +kernel
theorem dL_law_1996 : decode cL_law 1996 = .ok (.iaload, 1) := by decide +kernel
theorem dL_law_1997 : decode cL_law 1997 = .ok (.invokevirtual 190, 3) := by decide +kernel
theorem dL_law_2000 : decode cL_law 2000 = .ok (.if_icmp .eq 1153, 3) := by decide +kernel
theorem dL_law_2005 : decode cL_law 2005 = .ok (.aload_n 1, 1) := by decide +kernel
theorem dL_law_2006 : decode cL_law 2006 = .ok (.aload_n 0, 1) := by decide +kernel
theorem dL_law_2007 : decode cL_law 2007 = .ok (.iload_n 3, 1) := by decide +kernel
theorem dL_law_2008 : decode cL_law 2008 = .ok (.iconst 1, 1) := by decide +kernel
theorem dL_law_2009 : decode cL_law 2009 = .ok (.iadd, 1) := by decide +kernel
theorem dL_law_2010 : decode cL_law 2010 = .ok (.iaload, 1) := by decide +kernel
theorem dL_law_2011 : decode cL_law 2011 = .ok (.aload_n 0, 1) := by decide +kernel
theorem dL_law_2012 : decode cL_law 2012 = .ok (.iload_n 3, 1) := by decide +kernel
theorem dL_law_2013 : decode cL_law 2013 = .ok (.iconst 2, 1) := by decide +kernel
theorem dL_law_2014 : decode cL_law 2014 = .ok (.iadd, 1) := by decide +kernel
theorem dL_law_2015 : decode cL_law 2015 = .ok (.iaload, 1) := by decide +kernel
theorem dL_law_2016 : decode cL_law 2016 = .ok (.invokevirtual 191, 3) := by decide +kernel
theorem dL_law_2019 : decode cL_law 2019 = .ok (.aload_n 2, 1) := by decide +kernel
theorem dL_law_2020 : decode cL_law 2020 = .ok (.aload_n 0, 1) := by decide +kernel
theorem dL_law_2021 : decode cL_law 2021 = .ok (.iload_n 3, 1) := by decide +kernel
theorem dL_law_2022 : decode cL_law 2022 = .ok (.iconst 1, 1) := by decide +kernel
theorem dL_law_2023 : decode cL_law 2023 = .ok (.iadd, 1) := by decide +kernel
theorem dL_law_2024 : decode cL_law 2024 = .ok (.iaload, 1) := by decide +kernel
theorem dL_law_2025 : decode cL_law 2025 = .ok (.aload_n 0, 1) := by decide +kernel
theorem dL_law_2026 : decode cL_law 2026 = .ok (.iload_n 3, 1) := by decide +kernel
theorem dL_law_2027 : decode cL_law 2027 = .ok (.iconst 2, 1) := by decide +kernel
theorem dL_law_2028 : decode cL_law 2028 = .ok (.iadd, 1) := by decide +kernel
theorem dL_law_2029 : decode cL_law 2029 = .ok (.iaload, 1) := by decide +kernel
theorem dL_law_2030 : decode cL_law 2030 = .ok (.invokevirtual 194, 3) := by decide +kernel
theorem dL_law_2033 : decode cL_law 2033 = .ok (.if_icmp .eq 1120, 3) := by decide +kernel
theorem dL_law_2038 : decode cL_law 2038 = .ok (.aload_n 1, 1) := by decide +kernel
theorem dL_law_2039 : decode cL_law 2039 = .ok (.aload_n 0, 1) := by decide +kernel
theorem dL_law_2040 : decode cL_law 2040 = .ok (.iload_n 3, 1) := by decide +kernel
theorem dL_law_2041 : decode cL_law 2041 = .ok (.iconst 1, 1) := by decide +kernel
theorem dL_law_2042 : decode cL_law 2042 = .ok (.iadd, 1) := by decide +kernel
theorem dL_law_2043 : decode cL_law 2043 = .ok (.iaload, 1) := by decide +kernel
theorem dL_law_2044 : decode cL_law 2044 = .ok (.aload_n 0, 1) := by decide +kernel
theorem dL_law_2045 : decode cL_law 2045 = .ok (.iload_n 3, 1) := by decide +kernel
theorem dL_law_2046 : decode cL_law 2046 = .ok (.iconst 2, 1) := by decide +kernel
theorem dL_law_2047 : decode cL_law 2047 = .ok (.iadd, 1) := by decide +kernel
theorem dL_law_2048 : decode cL_law 2048 = .ok (.iaload, 1) := by decide +kernel
theorem dL_law_2049 : decode cL_law 2049 = .ok (.invokevirtual 195, 3) := by decide +kernel
theorem dL_law_2052 : decode cL_law 2052 = .ok (.aload_n 2, 1) := by decide +kernel
theorem dL_law_2053 : decode cL_law 2053 = .ok (.aload_n 0, 1) := by decide +kernel
theorem dL_law_2054 : decode cL_law 2054 = .ok (.iload_n 3, 1) := by decide +kernel
theorem dL_law_2055 : decode cL_law 2055 = .ok (.iconst 1, 1) := by decide +kernel
theorem dL_law_2056 : decode cL_law 2056 = .ok (.iadd, 1) := by decide +kernel
theorem dL_law_2057 : decode cL_law 2057 = .ok (.iaload, 1) := by decide +kernel
theorem dL_law_2058 : decode cL_law 2058 = .ok (.aload_n 0, 1) := by decide +kernel
theorem dL_law_2059 : decode cL_law 2059 = .ok (.iload_n 3, 1) := by decide +kernel
theorem dL_law_2060 : decode cL_law 2060 = .ok (.iconst 2, 1) := by decide +kernel
theorem dL_law_2061 : decode cL_law 2061 = .ok (.iadd, 1) := by decide +kernel
theorem dL_law_2062 : decode cL_law 2062 = .ok (.iaload, 1) := by decide +kernel
theorem dL_law_2063 : decode cL_law 2063 = .ok (.invokevirtual 198, 3) := by decide +kernel
theorem dL_law_2066 : decode cL_law 2066 = .ok (.if_icmp .eq 1087, 3) := by decide +kernel
theorem dL_law_2071 : decode cL_law 2071 = .ok (.aload_n 1, 1) := by decide +kernel
theorem dL_law_2072 : decode cL_law 2072 = .ok (.aload_n 0, 1) := by decide +kernel
theorem dL_law_2073 : decode cL_law 2073 = .ok (.iload_n 3, 1) := by decide +kernel
theorem dL_law_2074 : decode cL_law 2074 = .ok (.iconst 1, 1) := by decide +kernel
theorem dL_law_2075 : decode cL_law 2075 = .ok (.iadd, 1) := by decide +kernel
theorem dL_law_2076 : decode cL_law 2076 = .ok (.iaload, 1) := by decide +kernel
theorem dL_law_2077 : decode cL_law 2077 = .ok (.aload_n 0, 1) := by decide +kernel
theorem dL_law_2078 : decode cL_law 2078 = .ok (.iload_n 3, 1) := by decide +kernel
theorem dL_law_2079 : decode cL_law 2079 = .ok (.iconst 2, 1) := by decide +kernel
theorem dL_law_2080 : decode cL_law 2080 = .ok (.iadd, 1) := by decide +kernel
theorem dL_law_2081 : decode cL_law 2081 = .ok (.iaload, 1) := by decide +kernel
theorem dL_law_2082 : decode cL_law 2082 = .ok (.aload_n 0, 1) := by decide +kernel
theorem dL_law_2083 : decode cL_law 2083 = .ok (.iload_n 3, 1) := by decide +kernel
theorem dL_law_2084 : decode cL_law 2084 = .ok (.iconst 3, 1) := by decide +kernel
theorem dL_law_2085 : decode cL_law 2085 = .ok (.iadd, 1) := by decide +kernel
theorem dL_law_2086 : decode cL_law 2086 = .ok (.iaload, 1) := by decide +kernel
theorem dL_law_2087 : decode cL_law 2087 = .ok (.invokevirtual 199, 3) := by decide +kernel
theorem dL_law_2090 : decode cL_law 2090 = .ok (.aload_n 2, 1) := by decide +kernel
theorem dL_law_2091 : decode cL_law 2091 = .ok (.aload_n 0, 1) := by decide +kernel
theorem dL_law_2092 : decode cL_law 2092 = .ok (.iload_n 3, 1) := by decide +kernel
theorem dL_law_2093 : decode cL_law 2093 = .ok (.iconst 1, 1) := by decide +kernel
theorem dL_law_2094 : decode cL_law 2094 = .ok (.iadd, 1) := by decide +kernel
theorem dL_law_2095 : decode cL_law 2095 = .ok (.iaload, 1) := by decide +kernel
theorem dL_law_2096 : decode cL_law 2096 = .ok (.aload_n 0, 1) := by decide +kernel
theorem dL_law_2097 : decode cL_law 2097 = .ok (.iload_n 3, 1) := by decide +kernel
theorem dL_law_2098 : decode cL_law 2098 = .ok (.iconst 2, 1) := by decide +kernel
theorem dL_law_2099 : decode cL_law 2099 = .ok (.iadd, 1) := by decide +kernel
theorem dL_law_2100 : decode cL_law 2100 = .ok (.iaload, 1) := by decide +kernel
theorem dL_law_2101 : decode cL_law 2101 = .ok (.aload_n 0, 1) := by decide +kernel
theorem dL_law_2102 : decode cL_law 2102 = .ok (.iload_n 3, 1) := by decide +kernel
theorem dL_law_2103 : decode cL_law 2103 = .ok (.iconst 3, 1) := by decide +kernel
theorem dL_law_2104 : decode cL_law 2104 = .ok (.iadd, 1) := by decide +kernel
theorem dL_law_2105 : decode cL_law 2105 = .ok (.iaload, 1) := by decide +kernel
theorem dL_law_2106 : decode cL_law 2106 = .ok (.invokevirtual 202, 3) := by decide +kernel
theorem dL_law_2109 : decode cL_law 2109 = .ok (.if_icmp .eq 1044, 3) := by decide +kernel
theorem dL_law_2114 : decode cL_law 2114 = .ok (.aload_n 1, 1) := by decide +kernel
theorem dL_law_2115 : decode cL_law 2115 = .ok (.aload_n 0, 1) := by decide +kernel
theorem dL_law_2116 : decode cL_law 2116 = .ok (.iload_n 3, 1) := by decide +kernel
theorem dL_law_2117 : decode cL_law 2117 = .ok (.iconst 1, 1) := by decide +kernel
theorem dL_law_2118 : decode cL_law 2118 = .ok (.iadd, 1) := by decide +kernel
theorem dL_law_2119 : decode cL_law 2119 = .ok (.iaload, 1) := by decide +kernel
theorem dL_law_2120 : decode cL_law 2120 = .ok (.aload_n 0, 1) := by decide +kernel
theorem dL_law_2121 : decode cL_law 2121 = .ok (.iload_n 3, 1) := by decide +kernel
theorem dL_law_2122 : decode cL_law 2122 = .ok (.iconst 2, 1) := by decide +kernel
theorem dL_law_2123 : decode cL_law 2123 = .ok (.iadd, 1) := by decide +kernel
theorem dL_law_2124 : decode cL_law 2124 = .ok (.iaload, 1) := by decide +kernel
theorem dL_law_2125 : decode cL_law 2125 = .ok (.invokevirtual 203, 3) := by decide +kernel
theorem dL_law_2128 : decode cL_law 2128 = .ok (.aload_n 2, 1) := by decide +kernel
theorem dL_law_2129 : decode cL_law 2129 = .ok (.aload_n 0, 1) := by decide +kernel
theorem dL_law_2130 : decode cL_law 2130 = .ok (.iload_n 3, 1) := by decide +kernel
theorem dL_law_2131 : decode cL_law 2131 = .ok (.iconst 1, 1) := by decide +kernel
theorem dL_law_2132 : decode cL_law 2132 = .ok (.iadd, 1) := by decide +kernel
theorem dL_law_2133 : decode cL_law 2133 = .ok (.iaload, 1) := by decide +kernel
theorem dL_law_2134 : decode cL_law 2134 = .ok (.aload_n 0, 1) := by decide +kernel
theorem dL_law_2135 : decode cL_law 2135 = .ok (.iload_n 3, 1) := by decide +kernel
theorem dL_law_2136 : decode cL_law 2136 = .ok (.iconst 2, 1) := by decide +kernel
theorem dL_law_2137 : decode cL_law 2137 = .ok (.iadd, 1) := by decide +kernel
theorem dL_law_2138 : decode cL_law 2138 = .ok (.iaload, 1) := by decide +kernel
theorem dL_law_2139 : decode cL_law 2139 = .ok (.invokevirtual 206, 3) := by decide +kernel
theorem dL_law_2142 : decode cL_law 2142 = .ok (.if_icmp .eq 1011, 3) := by decide +kernel
theorem dL_law_2147 : decode cL_law 2147 = .ok (.aload_n 1, 1) := by decide +kernel
theorem dL_law_2148 : decode cL_law 2148 = .ok (.aload_n 0, 1) := by decide +kernel
theorem dL_law_2149 : decode cL_law 2149 = .ok (.iload_n 3, 1) := by decide +kernel
theorem dL_law_2150 : decode cL_law 2150 = .ok (.iconst 1, 1) := by decide +kernel
theorem dL_law_2151 : decode cL_law 2151 = .ok (.iadd, 1) := by decide +kernel
theorem dL_law_2152 : decode cL_law 2152 = .ok (.iaload, 1) := by decide +kernel
theorem dL_law_2153 : decode cL_law 2153 = .ok (.aload_n 0, 1) := by decide +kernel
theorem dL_law_2154 : decode cL_law 2154 = .ok (.iload_n 3, 1) := by decide +kernel
theorem dL_law_2155 : decode cL_law 2155 = .ok (.iconst 2, 1) := by decide +kernel
theorem dL_law_2156 : decode cL_law 2156 = .ok (.iadd, 1) := by decide +kernel
theorem dL_law_2157 : decode cL_law 2157 = .ok (.iaload, 1) := by decide +kernel
theorem dL_law_2158 : decode cL_law 2158 = .ok (.aload_n 0, 1) := by decide +kernel
theorem dL_law_2159 : decode cL_law 2159 = .ok (.iload_n 3, 1) := by decide +kernel
theorem dL_law_2160 : decode cL_law 2160 = .ok (.iconst 3, 1) := by decide +kernel
theorem dL_law_2161 : decode cL_law 2161 = .ok (.iadd, 1) := by decide +kernel
theorem dL_law_2162 : decode cL_law 2162 = .ok (.iaload, 1) := by decide +kernel
theorem dL_law_2163 : decode cL_law 2163 = .ok (.invokevirtual 207, 3) := by decide +kernel
theorem dL_law_2166 : decode cL_law 2166 = .ok (.aload_n 2, 1) := by decide +kernel
theorem dL_law_2167 : decode cL_law 2167 = .ok (.aload_n 0, 1) := by decide +kernel
theorem dL_law_2168 : decode cL_law 2168 = .ok (.iload_n 3, 1) := by decide +kernel
theorem dL_law_2169 : decode cL_law 2169 = .ok (.iconst 1, 1) := by decide +kernel
theorem dL_law_2170 : decode cL_law 2170 = .ok (.iadd, 1) := by decide +kernel
theorem dL_law_2171 : decode cL_law 2171 = .ok (.iaload, 1) := by decide +kernel
theorem dL_law_2172 : decode cL_law 2172 = .ok (.aload_n 0, 1) := by decide +kernel
theorem dL_law_2173 : decode cL_law 2173 = .ok (.iload_n 3, 1) := by decide +kernel
theorem dL_law_2174 : decode cL_law 2174 = .ok (.iconst 2, 1) := by decide +kernel
theorem dL_law_2175 : decode cL_law 2175 = .ok (.iadd, 1) := by decide +kernel
theorem dL_law_2176 : decode cL_law 2176 = .ok (.iaload, 1) := by decide +kernel
theorem dL_law_2177 : decode cL_law 2177 = .ok (.aload_n 0, 1) := by decide +kernel
theorem dL_law_2178 : decode cL_law 2178 = .ok (.iload_n 3, 1) := by decide +kernel
theorem dL_law_2179 : decode cL_law 2179 = .ok (.iconst 3, 1) := by decide +kernel
theorem dL_law_2180 : decode cL_law 2180 = .ok (.iadd, 1) := by decide +kernel
theorem dL_law_2181 : decode cL_law 2181 = .ok (.iaload, 1) := by decide +kernel
theorem dL_law_2182 : decode cL_law 2182 = .ok (.invokevirtual 210, 3) := by decide +kernel
theorem dL_law_2185 : decode cL_law 2185 = .ok (.if_icmp .eq 968, 3) := by decide +kernel
theorem dL_law_2190 : decode cL_law 2190 = .ok (.aload_n 1, 1) := by decide +kernel
theorem dL_law_2191 : decode cL_law 2191 = .ok (.aload_n 0, 1) := by decide +kernel
theorem dL_law_2192 : decode cL_law 2192 = .ok (.iload_n 3, 1) := by decide +kernel
theorem dL_law_2193 : decode cL_law 2193 = .ok (.iconst 1, 1) := by decide +kernel
theorem dL_law_2194 : decode cL_law 2194 = .ok (.iadd, 1) := by decide +kernel
theorem dL_law_2195 : decode cL_law 2195 = .ok (.iaload, 1) := by decide +kernel
theorem dL_law_2196 : decode cL_law 2196 = .ok (.aload_n 0, 1) := by decide +kernel
theorem dL_law_2197 : decode cL_law 2197 = .ok (.iload_n 3, 1) := by decide +kernel
