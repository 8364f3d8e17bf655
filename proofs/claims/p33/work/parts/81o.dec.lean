theorem dLaw_1924g : (decode code 1924 = .ok (.iload_n 3, 1)) ∧ (decode code 1925 = .ok (.iconst 1, 1)) ∧ (decode code 1926 = .ok (.iadd, 1)) ∧ (decode code 1927 = .ok (.iaload, 1)) ∧ (decode code 1928 = .ok (.invokevirtual 212, 3)) ∧ (decode code 1931 = .ok (.pop, 1)) ∧ (decode code 1932 = .ok (.aload_n 2, 1)) ∧ (decode code 1933 = .ok (.aload_n 0, 1)) ∧ (decode code 1934 = .ok (.iload_n 3, 1)) ∧ (decode code 1935 = .ok (.iconst 1, 1)) := by decide +kernel
theorem dLaw_1924 : decode code 1924 = .ok (.iload_n 3, 1) := dLaw_1924g.1
theorem dLaw_1925 : decode code 1925 = .ok (.iconst 1, 1) := dLaw_1924g.2.1
theorem dLaw_1926 : decode code 1926 = .ok (.iadd, 1) := dLaw_1924g.2.2.1
theorem dLaw_1927 : decode code 1927 = .ok (.iaload, 1) := dLaw_1924g.2.2.2.1
theorem dLaw_1928 : decode code 1928 = .ok (.invokevirtual 212, 3) := dLaw_1924g.2.2.2.2.1
theorem dLaw_1931 : decode code 1931 = .ok (.pop, 1) := dLaw_1924g.2.2.2.2.2.1
theorem dLaw_1932 : decode code 1932 = .ok (.aload_n 2, 1) := dLaw_1924g.2.2.2.2.2.2.1
theorem dLaw_1933 : decode code 1933 = .ok (.aload_n 0, 1) := dLaw_1924g.2.2.2.2.2.2.2.1
theorem dLaw_1934 : decode code 1934 = .ok (.iload_n 3, 1) := dLaw_1924g.2.2.2.2.2.2.2.2.1
theorem dLaw_1935 : decode code 1935 = .ok (.iconst 1, 1) := dLaw_1924g.2.2.2.2.2.2.2.2.2
theorem dLaw_1936g : (decode code 1936 = .ok (.iadd, 1)) ∧ (decode code 1937 = .ok (.iaload, 1)) ∧ (decode code 1938 = .ok (.invokevirtual 215, 3)) ∧ (decode code 1941 = .ok (.pop, 1)) ∧ (decode code 1942 = .ok (.goto 62, 3)) ∧ (decode code 1945 = .ok (.aload_n 1, 1)) ∧ (decode code 1946 = .ok (.aload_n 0, 1)) ∧ (decode code 1947 = .ok (.iload_n 3, 1)) ∧ (decode code 1948 = .ok (.iconst 1, 1)) ∧ (decode code 1949 = .ok (.iadd, 1)) := by decide +kernel
theorem dLaw_1936 : decode code 1936 = .ok (.iadd, 1) := dLaw_1936g.1
theorem dLaw_1937 : decode code 1937 = .ok (.iaload, 1) := dLaw_1936g.2.1
theorem dLaw_1938 : decode code 1938 = .ok (.invokevirtual 215, 3) := dLaw_1936g.2.2.1
theorem dLaw_1941 : decode code 1941 = .ok (.pop, 1) := dLaw_1936g.2.2.2.1
theorem dLaw_1942 : decode code 1942 = .ok (.goto 62, 3) := dLaw_1936g.2.2.2.2.1
theorem dLaw_1945 : decode code 1945 = .ok (.aload_n 1, 1) := dLaw_1936g.2.2.2.2.2.1
theorem dLaw_1946 : decode code 1946 = .ok (.aload_n 0, 1) := dLaw_1936g.2.2.2.2.2.2.1
theorem dLaw_1947 : decode code 1947 = .ok (.iload_n 3, 1) := dLaw_1936g.2.2.2.2.2.2.2.1
theorem dLaw_1948 : decode code 1948 = .ok (.iconst 1, 1) := dLaw_1936g.2.2.2.2.2.2.2.2.1
theorem dLaw_1949 : decode code 1949 = .ok (.iadd, 1) := dLaw_1936g.2.2.2.2.2.2.2.2.2
theorem dLaw_1950g : (decode code 1950 = .ok (.iaload, 1)) ∧ (decode code 1951 = .ok (.invokevirtual 216, 3)) ∧ (decode code 1954 = .ok (.pop, 1)) ∧ (decode code 1955 = .ok (.aload_n 2, 1)) ∧ (decode code 1956 = .ok (.aload_n 0, 1)) ∧ (decode code 1957 = .ok (.iload_n 3, 1)) ∧ (decode code 1958 = .ok (.iconst 1, 1)) ∧ (decode code 1959 = .ok (.iadd, 1)) ∧ (decode code 1960 = .ok (.iaload, 1)) ∧ (decode code 1961 = .ok (.invokevirtual 219, 3)) := by decide +kernel
theorem dLaw_1950 : decode code 1950 = .ok (.iaload, 1) := dLaw_1950g.1
theorem dLaw_1951 : decode code 1951 = .ok (.invokevirtual 216, 3) := dLaw_1950g.2.1
theorem dLaw_1954 : decode code 1954 = .ok (.pop, 1) := dLaw_1950g.2.2.1
theorem dLaw_1955 : decode code 1955 = .ok (.aload_n 2, 1) := dLaw_1950g.2.2.2.1
theorem dLaw_1956 : decode code 1956 = .ok (.aload_n 0, 1) := dLaw_1950g.2.2.2.2.1
theorem dLaw_1957 : decode code 1957 = .ok (.iload_n 3, 1) := dLaw_1950g.2.2.2.2.2.1
theorem dLaw_1958 : decode code 1958 = .ok (.iconst 1, 1) := dLaw_1950g.2.2.2.2.2.2.1
theorem dLaw_1959 : decode code 1959 = .ok (.iadd, 1) := dLaw_1950g.2.2.2.2.2.2.2.1
theorem dLaw_1960 : decode code 1960 = .ok (.iaload, 1) := dLaw_1950g.2.2.2.2.2.2.2.2.1
theorem dLaw_1961 : decode code 1961 = .ok (.invokevirtual 219, 3) := dLaw_1950g.2.2.2.2.2.2.2.2.2
theorem dLaw_1964g : (decode code 1964 = .ok (.pop, 1)) ∧ (decode code 1965 = .ok (.goto 39, 3)) ∧ (decode code 1968 = .ok (.aload_n 1, 1)) ∧ (decode code 1969 = .ok (.aload_n 0, 1)) ∧ (decode code 1970 = .ok (.iload_n 3, 1)) ∧ (decode code 1971 = .ok (.iconst 1, 1)) ∧ (decode code 1972 = .ok (.iadd, 1)) ∧ (decode code 1973 = .ok (.iaload, 1)) ∧ (decode code 1974 = .ok (.invokevirtual 220, 3)) ∧ (decode code 1977 = .ok (.pop, 1)) := by decide +kernel
theorem dLaw_1964 : decode code 1964 = .ok (.pop, 1) := dLaw_1964g.1
theorem dLaw_1965 : decode code 1965 = .ok (.goto 39, 3) := dLaw_1964g.2.1
theorem dLaw_1968 : decode code 1968 = .ok (.aload_n 1, 1) := dLaw_1964g.2.2.1
theorem dLaw_1969 : decode code 1969 = .ok (.aload_n 0, 1) := dLaw_1964g.2.2.2.1
theorem dLaw_1970 : decode code 1970 = .ok (.iload_n 3, 1) := dLaw_1964g.2.2.2.2.1
theorem dLaw_1971 : decode code 1971 = .ok (.iconst 1, 1) := dLaw_1964g.2.2.2.2.2.1
theorem dLaw_1972 : decode code 1972 = .ok (.iadd, 1) := dLaw_1964g.2.2.2.2.2.2.1
theorem dLaw_1973 : decode code 1973 = .ok (.iaload, 1) := dLaw_1964g.2.2.2.2.2.2.2.1
theorem dLaw_1974 : decode code 1974 = .ok (.invokevirtual 220, 3) := dLaw_1964g.2.2.2.2.2.2.2.2.1
theorem dLaw_1977 : decode code 1977 = .ok (.pop, 1) := dLaw_1964g.2.2.2.2.2.2.2.2.2
theorem dLaw_1978g : (decode code 1978 = .ok (.aload_n 2, 1)) ∧ (decode code 1979 = .ok (.aload_n 0, 1)) ∧ (decode code 1980 = .ok (.iload_n 3, 1)) ∧ (decode code 1981 = .ok (.iconst 1, 1)) ∧ (decode code 1982 = .ok (.iadd, 1)) ∧ (decode code 1983 = .ok (.iaload, 1)) ∧ (decode code 1984 = .ok (.invokevirtual 223, 3)) ∧ (decode code 1987 = .ok (.pop, 1)) ∧ (decode code 1988 = .ok (.goto 16, 3)) ∧ (decode code 1991 = .ok (.aload_n 1, 1)) := by decide +kernel
theorem dLaw_1978 : decode code 1978 = .ok (.aload_n 2, 1) := dLaw_1978g.1
theorem dLaw_1979 : decode code 1979 = .ok (.aload_n 0, 1) := dLaw_1978g.2.1
theorem dLaw_1980 : decode code 1980 = .ok (.iload_n 3, 1) := dLaw_1978g.2.2.1
theorem dLaw_1981 : decode code 1981 = .ok (.iconst 1, 1) := dLaw_1978g.2.2.2.1
theorem dLaw_1982 : decode code 1982 = .ok (.iadd, 1) := dLaw_1978g.2.2.2.2.1
theorem dLaw_1983 : decode code 1983 = .ok (.iaload, 1) := dLaw_1978g.2.2.2.2.2.1
theorem dLaw_1984 : decode code 1984 = .ok (.invokevirtual 223, 3) := dLaw_1978g.2.2.2.2.2.2.1
theorem dLaw_1987 : decode code 1987 = .ok (.pop, 1) := dLaw_1978g.2.2.2.2.2.2.2.1
theorem dLaw_1988 : decode code 1988 = .ok (.goto 16, 3) := dLaw_1978g.2.2.2.2.2.2.2.2.1
theorem dLaw_1991 : decode code 1991 = .ok (.aload_n 1, 1) := dLaw_1978g.2.2.2.2.2.2.2.2.2
theorem dLaw_1992g : (decode code 1992 = .ok (.invokevirtual 224, 3)) ∧ (decode code 1995 = .ok (.pop, 1)) ∧ (decode code 1996 = .ok (.aload_n 2, 1)) ∧ (decode code 1997 = .ok (.invokevirtual 227, 3)) ∧ (decode code 2000 = .ok (.pop, 1)) ∧ (decode code 2001 = .ok (.goto 3, 3)) ∧ (decode code 2004 = .ok (.iinc 3 7, 3)) ∧ (decode code 2007 = .ok (.goto (-1989), 3)) ∧ (decode code 2010 = .ok (.iconst 1, 1)) ∧ (decode code 2011 = .ok (.ireturn, 1)) := by decide +kernel
theorem dLaw_1992 : decode code 1992 = .ok (.invokevirtual 224, 3) := dLaw_1992g.1
theorem dLaw_1995 : decode code 1995 = .ok (.pop, 1) := dLaw_1992g.2.1
theorem dLaw_1996 : decode code 1996 = .ok (.aload_n 2, 1) := dLaw_1992g.2.2.1
theorem dLaw_1997 : decode code 1997 = .ok (.invokevirtual 227, 3) := dLaw_1992g.2.2.2.1
theorem dLaw_2000 : decode code 2000 = .ok (.pop, 1) := dLaw_1992g.2.2.2.2.1
theorem dLaw_2001 : decode code 2001 = .ok (.goto 3, 3) := dLaw_1992g.2.2.2.2.2.1
theorem dLaw_2004 : decode code 2004 = .ok (.iinc 3 7, 3) := dLaw_1992g.2.2.2.2.2.2.1
theorem dLaw_2007 : decode code 2007 = .ok (.goto (-1989), 3) := dLaw_1992g.2.2.2.2.2.2.2.1
theorem dLaw_2010 : decode code 2010 = .ok (.iconst 1, 1) := dLaw_1992g.2.2.2.2.2.2.2.2.1
theorem dLaw_2011 : decode code 2011 = .ok (.ireturn, 1) := dLaw_1992g.2.2.2.2.2.2.2.2.2
