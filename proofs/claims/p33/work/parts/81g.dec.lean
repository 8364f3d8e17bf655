theorem dLaw_958g : (decode code 958 = .ok (.iaload, 1)) ∧ (decode code 959 = .ok (.aload_n 0, 1)) ∧ (decode code 960 = .ok (.iload_n 3, 1)) ∧ (decode code 961 = .ok (.iconst 2, 1)) ∧ (decode code 962 = .ok (.iadd, 1)) ∧ (decode code 963 = .ok (.iaload, 1)) ∧ (decode code 964 = .ok (.invokevirtual 102, 3)) ∧ (decode code 967 = .ok (.pop, 1)) ∧ (decode code 968 = .ok (.goto 1036, 3)) ∧ (decode code 971 = .ok (.aload_n 1, 1)) := by decide +kernel
theorem dLaw_958 : decode code 958 = .ok (.iaload, 1) := dLaw_958g.1
theorem dLaw_959 : decode code 959 = .ok (.aload_n 0, 1) := dLaw_958g.2.1
theorem dLaw_960 : decode code 960 = .ok (.iload_n 3, 1) := dLaw_958g.2.2.1
theorem dLaw_961 : decode code 961 = .ok (.iconst 2, 1) := dLaw_958g.2.2.2.1
theorem dLaw_962 : decode code 962 = .ok (.iadd, 1) := dLaw_958g.2.2.2.2.1
theorem dLaw_963 : decode code 963 = .ok (.iaload, 1) := dLaw_958g.2.2.2.2.2.1
theorem dLaw_964 : decode code 964 = .ok (.invokevirtual 102, 3) := dLaw_958g.2.2.2.2.2.2.1
theorem dLaw_967 : decode code 967 = .ok (.pop, 1) := dLaw_958g.2.2.2.2.2.2.2.1
theorem dLaw_968 : decode code 968 = .ok (.goto 1036, 3) := dLaw_958g.2.2.2.2.2.2.2.2.1
theorem dLaw_971 : decode code 971 = .ok (.aload_n 1, 1) := dLaw_958g.2.2.2.2.2.2.2.2.2
theorem dLaw_972g : (decode code 972 = .ok (.aload_n 0, 1)) ∧ (decode code 973 = .ok (.iload_n 3, 1)) ∧ (decode code 974 = .ok (.iconst 1, 1)) ∧ (decode code 975 = .ok (.iadd, 1)) ∧ (decode code 976 = .ok (.iaload, 1)) ∧ (decode code 977 = .ok (.aload_n 0, 1)) ∧ (decode code 978 = .ok (.iload_n 3, 1)) ∧ (decode code 979 = .ok (.iconst 2, 1)) ∧ (decode code 980 = .ok (.iadd, 1)) ∧ (decode code 981 = .ok (.iaload, 1)) := by decide +kernel
theorem dLaw_972 : decode code 972 = .ok (.aload_n 0, 1) := dLaw_972g.1
theorem dLaw_973 : decode code 973 = .ok (.iload_n 3, 1) := dLaw_972g.2.1
theorem dLaw_974 : decode code 974 = .ok (.iconst 1, 1) := dLaw_972g.2.2.1
theorem dLaw_975 : decode code 975 = .ok (.iadd, 1) := dLaw_972g.2.2.2.1
theorem dLaw_976 : decode code 976 = .ok (.iaload, 1) := dLaw_972g.2.2.2.2.1
theorem dLaw_977 : decode code 977 = .ok (.aload_n 0, 1) := dLaw_972g.2.2.2.2.2.1
theorem dLaw_978 : decode code 978 = .ok (.iload_n 3, 1) := dLaw_972g.2.2.2.2.2.2.1
theorem dLaw_979 : decode code 979 = .ok (.iconst 2, 1) := dLaw_972g.2.2.2.2.2.2.2.1
theorem dLaw_980 : decode code 980 = .ok (.iadd, 1) := dLaw_972g.2.2.2.2.2.2.2.2.1
theorem dLaw_981 : decode code 981 = .ok (.iaload, 1) := dLaw_972g.2.2.2.2.2.2.2.2.2
theorem dLaw_982g : (decode code 982 = .ok (.aload_n 0, 1)) ∧ (decode code 983 = .ok (.iload_n 3, 1)) ∧ (decode code 984 = .ok (.iconst 3, 1)) ∧ (decode code 985 = .ok (.iadd, 1)) ∧ (decode code 986 = .ok (.iaload, 1)) ∧ (decode code 987 = .ok (.invokevirtual 103, 3)) ∧ (decode code 990 = .ok (.pop, 1)) ∧ (decode code 991 = .ok (.aload_n 2, 1)) ∧ (decode code 992 = .ok (.aload_n 0, 1)) ∧ (decode code 993 = .ok (.iload_n 3, 1)) := by decide +kernel
theorem dLaw_982 : decode code 982 = .ok (.aload_n 0, 1) := dLaw_982g.1
theorem dLaw_983 : decode code 983 = .ok (.iload_n 3, 1) := dLaw_982g.2.1
theorem dLaw_984 : decode code 984 = .ok (.iconst 3, 1) := dLaw_982g.2.2.1
theorem dLaw_985 : decode code 985 = .ok (.iadd, 1) := dLaw_982g.2.2.2.1
theorem dLaw_986 : decode code 986 = .ok (.iaload, 1) := dLaw_982g.2.2.2.2.1
theorem dLaw_987 : decode code 987 = .ok (.invokevirtual 103, 3) := dLaw_982g.2.2.2.2.2.1
theorem dLaw_990 : decode code 990 = .ok (.pop, 1) := dLaw_982g.2.2.2.2.2.2.1
theorem dLaw_991 : decode code 991 = .ok (.aload_n 2, 1) := dLaw_982g.2.2.2.2.2.2.2.1
theorem dLaw_992 : decode code 992 = .ok (.aload_n 0, 1) := dLaw_982g.2.2.2.2.2.2.2.2.1
theorem dLaw_993 : decode code 993 = .ok (.iload_n 3, 1) := dLaw_982g.2.2.2.2.2.2.2.2.2
theorem dLaw_994g : (decode code 994 = .ok (.iconst 1, 1)) ∧ (decode code 995 = .ok (.iadd, 1)) ∧ (decode code 996 = .ok (.iaload, 1)) ∧ (decode code 997 = .ok (.aload_n 0, 1)) ∧ (decode code 998 = .ok (.iload_n 3, 1)) ∧ (decode code 999 = .ok (.iconst 2, 1)) ∧ (decode code 1000 = .ok (.iadd, 1)) ∧ (decode code 1001 = .ok (.iaload, 1)) ∧ (decode code 1002 = .ok (.aload_n 0, 1)) ∧ (decode code 1003 = .ok (.iload_n 3, 1)) := by decide +kernel
theorem dLaw_994 : decode code 994 = .ok (.iconst 1, 1) := dLaw_994g.1
theorem dLaw_995 : decode code 995 = .ok (.iadd, 1) := dLaw_994g.2.1
theorem dLaw_996 : decode code 996 = .ok (.iaload, 1) := dLaw_994g.2.2.1
theorem dLaw_997 : decode code 997 = .ok (.aload_n 0, 1) := dLaw_994g.2.2.2.1
theorem dLaw_998 : decode code 998 = .ok (.iload_n 3, 1) := dLaw_994g.2.2.2.2.1
theorem dLaw_999 : decode code 999 = .ok (.iconst 2, 1) := dLaw_994g.2.2.2.2.2.1
theorem dLaw_1000 : decode code 1000 = .ok (.iadd, 1) := dLaw_994g.2.2.2.2.2.2.1
theorem dLaw_1001 : decode code 1001 = .ok (.iaload, 1) := dLaw_994g.2.2.2.2.2.2.2.1
theorem dLaw_1002 : decode code 1002 = .ok (.aload_n 0, 1) := dLaw_994g.2.2.2.2.2.2.2.2.1
theorem dLaw_1003 : decode code 1003 = .ok (.iload_n 3, 1) := dLaw_994g.2.2.2.2.2.2.2.2.2
theorem dLaw_1004g : (decode code 1004 = .ok (.iconst 3, 1)) ∧ (decode code 1005 = .ok (.iadd, 1)) ∧ (decode code 1006 = .ok (.iaload, 1)) ∧ (decode code 1007 = .ok (.invokevirtual 106, 3)) ∧ (decode code 1010 = .ok (.pop, 1)) ∧ (decode code 1011 = .ok (.goto 993, 3)) ∧ (decode code 1014 = .ok (.aload_n 1, 1)) ∧ (decode code 1015 = .ok (.aload_n 0, 1)) ∧ (decode code 1016 = .ok (.iload_n 3, 1)) ∧ (decode code 1017 = .ok (.iconst 1, 1)) := by decide +kernel
theorem dLaw_1004 : decode code 1004 = .ok (.iconst 3, 1) := dLaw_1004g.1
theorem dLaw_1005 : decode code 1005 = .ok (.iadd, 1) := dLaw_1004g.2.1
theorem dLaw_1006 : decode code 1006 = .ok (.iaload, 1) := dLaw_1004g.2.2.1
theorem dLaw_1007 : decode code 1007 = .ok (.invokevirtual 106, 3) := dLaw_1004g.2.2.2.1
theorem dLaw_1010 : decode code 1010 = .ok (.pop, 1) := dLaw_1004g.2.2.2.2.1
theorem dLaw_1011 : decode code 1011 = .ok (.goto 993, 3) := dLaw_1004g.2.2.2.2.2.1
theorem dLaw_1014 : decode code 1014 = .ok (.aload_n 1, 1) := dLaw_1004g.2.2.2.2.2.2.1
theorem dLaw_1015 : decode code 1015 = .ok (.aload_n 0, 1) := dLaw_1004g.2.2.2.2.2.2.2.1
theorem dLaw_1016 : decode code 1016 = .ok (.iload_n 3, 1) := dLaw_1004g.2.2.2.2.2.2.2.2.1
theorem dLaw_1017 : decode code 1017 = .ok (.iconst 1, 1) := dLaw_1004g.2.2.2.2.2.2.2.2.2
theorem dLaw_1018g : (decode code 1018 = .ok (.iadd, 1)) ∧ (decode code 1019 = .ok (.iaload, 1)) ∧ (decode code 1020 = .ok (.aload_n 0, 1)) ∧ (decode code 1021 = .ok (.iload_n 3, 1)) ∧ (decode code 1022 = .ok (.iconst 2, 1)) ∧ (decode code 1023 = .ok (.iadd, 1)) ∧ (decode code 1024 = .ok (.iaload, 1)) ∧ (decode code 1025 = .ok (.aload_n 0, 1)) ∧ (decode code 1026 = .ok (.iload_n 3, 1)) ∧ (decode code 1027 = .ok (.iconst 3, 1)) := by decide +kernel
theorem dLaw_1018 : decode code 1018 = .ok (.iadd, 1) := dLaw_1018g.1
theorem dLaw_1019 : decode code 1019 = .ok (.iaload, 1) := dLaw_1018g.2.1
theorem dLaw_1020 : decode code 1020 = .ok (.aload_n 0, 1) := dLaw_1018g.2.2.1
theorem dLaw_1021 : decode code 1021 = .ok (.iload_n 3, 1) := dLaw_1018g.2.2.2.1
theorem dLaw_1022 : decode code 1022 = .ok (.iconst 2, 1) := dLaw_1018g.2.2.2.2.1
theorem dLaw_1023 : decode code 1023 = .ok (.iadd, 1) := dLaw_1018g.2.2.2.2.2.1
theorem dLaw_1024 : decode code 1024 = .ok (.iaload, 1) := dLaw_1018g.2.2.2.2.2.2.1
theorem dLaw_1025 : decode code 1025 = .ok (.aload_n 0, 1) := dLaw_1018g.2.2.2.2.2.2.2.1
theorem dLaw_1026 : decode code 1026 = .ok (.iload_n 3, 1) := dLaw_1018g.2.2.2.2.2.2.2.2.1
theorem dLaw_1027 : decode code 1027 = .ok (.iconst 3, 1) := dLaw_1018g.2.2.2.2.2.2.2.2.2
theorem dLaw_1028g : (decode code 1028 = .ok (.iadd, 1)) ∧ (decode code 1029 = .ok (.iaload, 1)) ∧ (decode code 1030 = .ok (.invokevirtual 107, 3)) ∧ (decode code 1033 = .ok (.pop, 1)) ∧ (decode code 1034 = .ok (.aload_n 2, 1)) ∧ (decode code 1035 = .ok (.aload_n 0, 1)) ∧ (decode code 1036 = .ok (.iload_n 3, 1)) ∧ (decode code 1037 = .ok (.iconst 1, 1)) ∧ (decode code 1038 = .ok (.iadd, 1)) ∧ (decode code 1039 = .ok (.iaload, 1)) := by decide +kernel
theorem dLaw_1028 : decode code 1028 = .ok (.iadd, 1) := dLaw_1028g.1
theorem dLaw_1029 : decode code 1029 = .ok (.iaload, 1) := dLaw_1028g.2.1
theorem dLaw_1030 : decode code 1030 = .ok (.invokevirtual 107, 3) := dLaw_1028g.2.2.1
theorem dLaw_1033 : decode code 1033 = .ok (.pop, 1) := dLaw_1028g.2.2.2.1
theorem dLaw_1034 : decode code 1034 = .ok (.aload_n 2, 1) := dLaw_1028g.2.2.2.2.1
theorem dLaw_1035 : decode code 1035 = .ok (.aload_n 0, 1) := dLaw_1028g.2.2.2.2.2.1
theorem dLaw_1036 : decode code 1036 = .ok (.iload_n 3, 1) := dLaw_1028g.2.2.2.2.2.2.1
theorem dLaw_1037 : decode code 1037 = .ok (.iconst 1, 1) := dLaw_1028g.2.2.2.2.2.2.2.1
theorem dLaw_1038 : decode code 1038 = .ok (.iadd, 1) := dLaw_1028g.2.2.2.2.2.2.2.2.1
theorem dLaw_1039 : decode code 1039 = .ok (.iaload, 1) := dLaw_1028g.2.2.2.2.2.2.2.2.2
theorem dLaw_1040g : (decode code 1040 = .ok (.aload_n 0, 1)) ∧ (decode code 1041 = .ok (.iload_n 3, 1)) ∧ (decode code 1042 = .ok (.iconst 2, 1)) ∧ (decode code 1043 = .ok (.iadd, 1)) ∧ (decode code 1044 = .ok (.iaload, 1)) ∧ (decode code 1045 = .ok (.aload_n 0, 1)) ∧ (decode code 1046 = .ok (.iload_n 3, 1)) ∧ (decode code 1047 = .ok (.iconst 3, 1)) ∧ (decode code 1048 = .ok (.iadd, 1)) ∧ (decode code 1049 = .ok (.iaload, 1)) := by decide +kernel
theorem dLaw_1040 : decode code 1040 = .ok (.aload_n 0, 1) := dLaw_1040g.1
theorem dLaw_1041 : decode code 1041 = .ok (.iload_n 3, 1) := dLaw_1040g.2.1
theorem dLaw_1042 : decode code 1042 = .ok (.iconst 2, 1) := dLaw_1040g.2.2.1
theorem dLaw_1043 : decode code 1043 = .ok (.iadd, 1) := dLaw_1040g.2.2.2.1
theorem dLaw_1044 : decode code 1044 = .ok (.iaload, 1) := dLaw_1040g.2.2.2.2.1
theorem dLaw_1045 : decode code 1045 = .ok (.aload_n 0, 1) := dLaw_1040g.2.2.2.2.2.1
theorem dLaw_1046 : decode code 1046 = .ok (.iload_n 3, 1) := dLaw_1040g.2.2.2.2.2.2.1
theorem dLaw_1047 : decode code 1047 = .ok (.iconst 3, 1) := dLaw_1040g.2.2.2.2.2.2.2.1
theorem dLaw_1048 : decode code 1048 = .ok (.iadd, 1) := dLaw_1040g.2.2.2.2.2.2.2.2.1
theorem dLaw_1049 : decode code 1049 = .ok (.iaload, 1) := dLaw_1040g.2.2.2.2.2.2.2.2.2
theorem dLaw_1050g : (decode code 1050 = .ok (.invokevirtual 110, 3)) ∧ (decode code 1053 = .ok (.pop, 1)) ∧ (decode code 1054 = .ok (.goto 950, 3)) ∧ (decode code 1057 = .ok (.aload_n 1, 1)) ∧ (decode code 1058 = .ok (.aload_n 0, 1)) ∧ (decode code 1059 = .ok (.iload_n 3, 1)) ∧ (decode code 1060 = .ok (.iconst 1, 1)) ∧ (decode code 1061 = .ok (.iadd, 1)) ∧ (decode code 1062 = .ok (.iaload, 1)) ∧ (decode code 1063 = .ok (.aload_n 0, 1)) := by decide +kernel
theorem dLaw_1050 : decode code 1050 = .ok (.invokevirtual 110, 3) := dLaw_1050g.1
theorem dLaw_1053 : decode code 1053 = .ok (.pop, 1) := dLaw_1050g.2.1
theorem dLaw_1054 : decode code 1054 = .ok (.goto 950, 3) := dLaw_1050g.2.2.1
theorem dLaw_1057 : decode code 1057 = .ok (.aload_n 1, 1) := dLaw_1050g.2.2.2.1
theorem dLaw_1058 : decode code 1058 = .ok (.aload_n 0, 1) := dLaw_1050g.2.2.2.2.1
theorem dLaw_1059 : decode code 1059 = .ok (.iload_n 3, 1) := dLaw_1050g.2.2.2.2.2.1
theorem dLaw_1060 : decode code 1060 = .ok (.iconst 1, 1) := dLaw_1050g.2.2.2.2.2.2.1
theorem dLaw_1061 : decode code 1061 = .ok (.iadd, 1) := dLaw_1050g.2.2.2.2.2.2.2.1
theorem dLaw_1062 : decode code 1062 = .ok (.iaload, 1) := dLaw_1050g.2.2.2.2.2.2.2.2.1
theorem dLaw_1063 : decode code 1063 = .ok (.aload_n 0, 1) := dLaw_1050g.2.2.2.2.2.2.2.2.2
theorem dLaw_1064g : (decode code 1064 = .ok (.iload_n 3, 1)) ∧ (decode code 1065 = .ok (.iconst 2, 1)) ∧ (decode code 1066 = .ok (.iadd, 1)) ∧ (decode code 1067 = .ok (.iaload, 1)) ∧ (decode code 1068 = .ok (.aload_n 0, 1)) ∧ (decode code 1069 = .ok (.iload_n 3, 1)) ∧ (decode code 1070 = .ok (.iconst 3, 1)) ∧ (decode code 1071 = .ok (.iadd, 1)) ∧ (decode code 1072 = .ok (.iaload, 1)) ∧ (decode code 1073 = .ok (.invokevirtual 111, 3)) := by decide +kernel
theorem dLaw_1064 : decode code 1064 = .ok (.iload_n 3, 1) := dLaw_1064g.1
theorem dLaw_1065 : decode code 1065 = .ok (.iconst 2, 1) := dLaw_1064g.2.1
theorem dLaw_1066 : decode code 1066 = .ok (.iadd, 1) := dLaw_1064g.2.2.1
theorem dLaw_1067 : decode code 1067 = .ok (.iaload, 1) := dLaw_1064g.2.2.2.1
theorem dLaw_1068 : decode code 1068 = .ok (.aload_n 0, 1) := dLaw_1064g.2.2.2.2.1
theorem dLaw_1069 : decode code 1069 = .ok (.iload_n 3, 1) := dLaw_1064g.2.2.2.2.2.1
theorem dLaw_1070 : decode code 1070 = .ok (.iconst 3, 1) := dLaw_1064g.2.2.2.2.2.2.1
theorem dLaw_1071 : decode code 1071 = .ok (.iadd, 1) := dLaw_1064g.2.2.2.2.2.2.2.1
theorem dLaw_1072 : decode code 1072 = .ok (.iaload, 1) := dLaw_1064g.2.2.2.2.2.2.2.2.1
theorem dLaw_1073 : decode code 1073 = .ok (.invokevirtual 111, 3) := dLaw_1064g.2.2.2.2.2.2.2.2.2
