theorem dL_acts_946 : decode cL_acts 946 = .ok (.iaload, 1) := by decide +kernel
theorem dL_acts_947 : decode cL_acts 947 = .ok (.iadd, 1) := by decide +kernel
theorem dL_acts_948 : decode cL_acts 948 = .ok (.iastore, 1) := by decide +kernel
theorem dL_acts_949 : decode cL_acts 949 = .ok (.iinc 12 1, 3) := by decide +kernel
theorem dL_acts_952 : decode cL_acts 952 = .ok (.goto (-54), 3) := by decide +kernel
theorem dL_acts_955 : decode cL_acts 955 = .ok (.iconst 0, 1) := by decide +kernel
theorem dL_acts_956 : decode cL_acts 956 = .ok (.istore 12, 2) := by decide +kernel
theorem dL_acts_958 : decode cL_acts 958 = .ok (.iload 12, 2) := by decide +kernel
theorem dL_acts_960 : decode cL_acts 960 = .ok (.bipush 24, 2) := by decide +kernel
theorem dL_acts_962 : decode cL_acts 962 = .ok (.if_icmp .ge 15, 3) := by decide +kernel
theorem dL_acts_965 : decode cL_acts 965 = .ok (.aload 4, 2) := by decide +kernel
theorem dL_acts_967 : decode cL_acts 967 = .ok (.iload 12, 2) := by decide +kernel
theorem dL_acts_969 : decode cL_acts 969 = .ok (.iconst 0, 1) := by decide +kernel
theorem dL_acts_970 : decode cL_acts 970 = .ok (.iastore, 1) := by decide +kernel
theorem dL_acts_971 : decode cL_acts 971 = .ok (.iinc 12 1, 3) := by decide +kernel
theorem dL_acts_974 : decode cL_acts 974 = .ok (.goto (-16), 3) := by decide +kernel
theorem dL_acts_977 : decode cL_acts 977 = .ok (.aload_n 1, 1) := by decide +kernel
theorem dL_acts_978 : decode cL_acts 978 = .ok (.iconst 0, 1) := by decide +kernel
theorem dL_acts_979 : decode cL_acts 979 = .ok (.dup2, 1) := by decide +kernel
theorem dL_acts_980 : decode cL_acts 980 = .ok (.iaload, 1) := by decide +kernel
theorem dL_acts_981 : decode cL_acts 981 = .ok (.iconst 1, 1) := by decide +kernel
theorem dL_acts_982 : decode cL_acts 982 = .ok (.iadd, 1) := by decide +kernel
theorem dL_acts_983 : decode cL_acts 983 = .ok (.iastore, 1) := by decide +kernel
theorem dL_acts_984 : decode cL_acts 984 = .ok (.aload_n 1, 1) := by decide +kernel
theorem dL_acts_985 : decode cL_acts 985 = .ok (.iconst 3, 1) := by decide +kernel
theorem dL_acts_986 : decode cL_acts 986 = .ok (.iconst 0, 1) := by decide +kernel
theorem dL_acts_987 : decode cL_acts 987 = .ok (.iastore, 1) := by decide +kernel
theorem dL_acts_988 : decode cL_acts 988 = .ok (.aload_n 1, 1) := by decide +kernel
theorem dL_acts_989 : decode cL_acts 989 = .ok (.iconst 4, 1) := by decide +kernel
theorem dL_acts_990 : decode cL_acts 990 = .ok (.iconst 0, 1) := by decide +kernel
theorem dL_acts_991 : decode cL_acts 991 = .ok (.iastore, 1) := by decide +kernel
theorem dL_acts_992 : decode cL_acts 992 = .ok (.aload_n 0, 1) := by decide +kernel
theorem dL_acts_993 : decode cL_acts 993 = .ok (.invokevirtual 75, 3) := by decide +kernel
theorem dL_acts_996 : decode cL_acts 996 = .ok (.iload 11, 2) := by decide +kernel
theorem dL_acts_998 : decode cL_acts 998 = .ok (.if_icmp .ne 7, 3) := by decide +kernel
theorem dL_acts_1001 : decode cL_acts 1001 = .ok (.iconst 1, 1) := by decide +kernel
theorem dL_acts_1002 : decode cL_acts 1002 = .ok (.goto 4, 3) := by decide +kernel
theorem dL_acts_1005 : decode cL_acts 1005 = .ok (.iconst 0, 1) := by decide +kernel
theorem dL_acts_1006 : decode cL_acts 1006 = .ok (.ireturn, 1) := by decide +kernel
theorem dL_acts_1007 : decode cL_acts 1007 = .ok (.iload 7, 2) := by decide +kernel
theorem dL_acts_1009 : decode cL_acts 1009 = .ok (.bipush 10, 2) := by decide +kernel
theorem dL_acts_1011 : decode cL_acts 1011 = .ok (.irem, 1) := by decide +kernel
theorem dL_acts_1012 : decode cL_acts 1012 = .ok (.istore 11, 2) := by decide +kernel
theorem dL_acts_1014 : decode cL_acts 1014 = .ok (.iload 7, 2) := by decide +kernel
theorem dL_acts_1016 : decode cL_acts 1016 = .ok (.bipush 10, 2) := by decide +kernel
theorem dL_acts_1018 : decode cL_acts 1018 = .ok (.idiv, 1) := by decide +kernel
theorem dL_acts_1019 : decode cL_acts 1019 = .ok (.iconst 3, 1) := by decide +kernel
theorem dL_acts_1020 : decode cL_acts 1020 = .ok (.irem, 1) := by decide +kernel
theorem dL_acts_1021 : decode cL_acts 1021 = .ok (.ifCond .le 7, 3) := by decide +kernel
theorem dL_acts_1024 : decode cL_acts 1024 = .ok (.iconst 0, 1) := by decide +kernel
theorem dL_acts_1025 : decode cL_acts 1025 = .ok (.goto 11, 3) := by decide +kernel
theorem dL_acts_1028 : decode cL_acts 1028 = .ok (.iload 7, 2) := by decide +kernel
theorem dL_acts_1030 : decode cL_acts 1030 = .ok (.bipush 30, 2) := by decide +kernel
theorem dL_acts_1032 : decode cL_acts 1032 = .ok (.idiv, 1) := by decide +kernel
theorem dL_acts_1033 : decode cL_acts 1033 = .ok (.bipush 10, 2) := by decide +kernel
theorem dL_acts_1035 : decode cL_acts 1035 = .ok (.irem, 1) := by decide +kernel
theorem dL_acts_1036 : decode cL_acts 1036 = .ok (.istore 12, 2) := by decide +kernel
theorem dL_acts_1038 : decode cL_acts 1038 = .ok (.iconst 0, 1) := by decide +kernel
theorem dL_acts_1039 : decode cL_acts 1039 = .ok (.istore 13, 2) := by decide +kernel
theorem dL_acts_1041 : decode cL_acts 1041 = .ok (.iload 13, 2) := by decide +kernel
theorem dL_acts_1043 : decode cL_acts 1043 = .ok (.aload_n 1, 1) := by decide +kernel
theorem dL_acts_1044 : decode cL_acts 1044 = .ok (.iconst 3, 1) := by decide +kernel
theorem dL_acts_1045 : decode cL_acts 1045 = .ok (.iaload, 1) := by decide +kernel
theorem dL_acts_1046 : decode cL_acts 1046 = .ok (.if_icmp .ge 43, 3) := by decide +kernel
theorem dL_acts_1049 : decode cL_acts 1049 = .ok (.aload 5, 2) := by decide +kernel
theorem dL_acts_1051 : decode cL_acts 1051 = .ok (.iconst 5, 1) := by decide +kernel
theorem dL_acts_1052 : decode cL_acts 1052 = .ok (.iload 13, 2) := by decide +kernel
theorem dL_acts_1054 : decode cL_acts 1054 = .ok (.imul, 1) := by decide +kernel
theorem dL_acts_1055 : decode cL_acts 1055 = .ok (.iconst 3, 1) := by decide +kernel
theorem dL_acts_1056 : decode cL_acts 1056 = .ok (.iadd, 1) := by decide +kernel
theorem dL_acts_1057 : decode cL_acts 1057 = .ok (.aload 5, 2) := by decide +kernel
theorem dL_acts_1059 : decode cL_acts 1059 = .ok (.iconst 5, 1) := by decide +kernel
theorem dL_acts_1060 : decode cL_acts 1060 = .ok (.iload 13, 2) := by decide +kernel
theorem dL_acts_1062 : decode cL_acts 1062 = .ok (.imul, 1) := by decide +kernel
theorem dL_acts_1063 : decode cL_acts 1063 = .ok (.iconst 3, 1) := by decide +kernel
theorem dL_acts_1064 : decode cL_acts 1064 = .ok (.iadd, 1) := by decide +kernel
theorem dL_acts_1065 : decode cL_acts 1065 = .ok (.iaload, 1) := by decide +kernel
theorem dL_acts_1066 : decode cL_acts 1066 = .ok (.aload 5, 2) := by decide +kernel
theorem dL_acts_1068 : decode cL_acts 1068 = .ok (.iconst 5, 1) := by decide +kernel
theorem dL_acts_1069 : decode cL_acts 1069 = .ok (.iload 13, 2) := by decide +kernel
theorem dL_acts_1071 : decode cL_acts 1071 = .ok (.imul, 1) := by decide +kernel
theorem dL_acts_1072 : decode cL_acts 1072 = .ok (.iconst 4, 1) := by decide +kernel
theorem dL_acts_1073 : decode cL_acts 1073 = .ok (.iadd, 1) := by decide +kernel
theorem dL_acts_1074 : decode cL_acts 1074 = .ok (.iaload, 1) := by decide +kernel
theorem dL_acts_1075 : decode cL_acts 1075 = .ok (.iload 11, 2) := by decide +kernel
theorem dL_acts_1077 : decode cL_acts 1077 = .ok (.iload 12, 2) := by decide +kernel
theorem dL_acts_1079 : decode cL_acts 1079 = .ok (.invokestatic 79, 3) := by decide +kernel
theorem dL_acts_1082 : decode cL_acts 1082 = .ok (.iastore, 1) := by decide +kernel
theorem dL_acts_1083 : decode cL_acts 1083 = .ok (.iinc 13 1, 3) := by decide +kernel
theorem dL_acts_1086 : decode cL_acts 1086 = .ok (.goto (-45), 3) := by decide +kernel
theorem dL_acts_1089 : decode cL_acts 1089 = .ok (.aload_n 1, 1) := by decide +kernel
theorem dL_acts_1090 : decode cL_acts 1090 = .ok (.iconst 4, 1) := by decide +kernel
theorem dL_acts_1091 : decode cL_acts 1091 = .ok (.iload 12, 2) := by decide +kernel
theorem dL_acts_1093 : decode cL_acts 1093 = .ok (.iastore, 1) := by decide +kernel
theorem dL_acts_1094 : decode cL_acts 1094 = .ok (.aload_n 1, 1) := by decide +kernel
theorem dL_acts_1095 : decode cL_acts 1095 = .ok (.iconst 5, 1) := by decide +kernel
theorem dL_acts_1096 : decode cL_acts 1096 = .ok (.dup2, 1) := by decide +kernel
theorem dL_acts_1097 : decode cL_acts 1097 = .ok (.iaload, 1) := by decide +kernel
theorem dL_acts_1098 : decode cL_acts 1098 = .ok (.iconst 1, 1) := by decide +kernel
theorem dL_acts_1099 : decode cL_acts 1099 = .ok (.iadd, 1) := by decide +kernel
theorem dL_acts_1100 : decode cL_acts 1100 = .ok (.iastore, 1) := by decide +kernel
theorem dL_acts_1101 : decode cL_acts 1101 = .ok (.aload_n 0, 1) := by decide +kernel
theorem dL_acts_1102 : decode cL_acts 1102 = .ok (.iload 11, 2) := by decide +kernel
theorem dL_acts_1104 : decode cL_acts 1104 = .ok (.iload 12, 2) := by decide +kernel
theorem dL_acts_1106 : decode cL_acts 1106 = .ok (.invokevirtual 83, 3) := by decide +kernel
theorem dL_acts_1109 : decode cL_acts 1109 = .ok (.aload_n 1, 1) := by decide +kernel
theorem dL_acts_1110 : decode cL_acts 1110 = .ok (.aload 5, 2) := by decide +kernel
theorem dL_acts_1112 : decode cL_acts 1112 = .ok (.invokestatic 86, 3) := by decide +kernel
theorem dL_acts_1115 : decode cL_acts 1115 = .ok (.if_icmp .ne 7, 3) := by decide +kernel
theorem dL_acts_1118 : decode cL_acts 1118 = .ok (.iconst 1, 1) := by decide +kernel
