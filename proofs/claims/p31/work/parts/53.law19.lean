theorem dL_isSo_927 : decode cL_isSo 927 = .ok (.aload 5, 2) := by decide +kernel
theorem dL_isSo_929 : decode cL_isSo 929 = .ok (.iconst 5, 1) := by decide +kernel
theorem dL_isSo_930 : decode cL_isSo 930 = .ok (.iload 7, 2) := by decide +kernel
theorem dL_isSo_932 : decode cL_isSo 932 = .ok (.imul, 1) := by decide +kernel
theorem dL_isSo_933 : decode cL_isSo 933 = .ok (.iconst 3, 1) := by decide +kernel
theorem dL_isSo_934 : decode cL_isSo 934 = .ok (.iadd, 1) := by decide +kernel
theorem dL_isSo_935 : decode cL_isSo 935 = .ok (.iaload, 1) := by decide +kernel
theorem dL_isSo_936 : decode cL_isSo 936 = .ok (.sipush 30000, 3) := by decide +kernel
theorem dL_isSo_939 : decode cL_isSo 939 = .ok (.if_icmp .le 7, 3) := by decide +kernel
theorem dL_isSo_942 : decode cL_isSo 942 = .ok (.iconst 0, 1) := by decide +kernel
theorem dL_isSo_943 : decode cL_isSo 943 = .ok (.goto 4, 3) := by decide +kernel
theorem dL_isSo_946 : decode cL_isSo 946 = .ok (.iconst 1, 1) := by decide +kernel
theorem dL_isSo_947 : decode cL_isSo 947 = .ok (.if_icmp .ne 7, 3) := by decide +kernel
theorem dL_isSo_950 : decode cL_isSo 950 = .ok (.iconst 1, 1) := by decide +kernel
theorem dL_isSo_951 : decode cL_isSo 951 = .ok (.goto 4, 3) := by decide +kernel
theorem dL_isSo_954 : decode cL_isSo 954 = .ok (.iconst 0, 1) := by decide +kernel
theorem dL_isSo_955 : decode cL_isSo 955 = .ok (.istore 6, 2) := by decide +kernel
theorem dL_isSo_957 : decode cL_isSo 957 = .ok (.iinc 7 1, 3) := by decide +kernel
theorem dL_isSo_960 : decode cL_isSo 960 = .ok (.goto (-173), 3) := by decide +kernel
theorem dL_isSo_963 : decode cL_isSo 963 = .ok (.iload 6, 2) := by decide +kernel
theorem dL_isSo_965 : decode cL_isSo 965 = .ok (.ifCond .eq 43, 3) := by decide +kernel
theorem dL_isSo_968 : decode cL_isSo 968 = .ok (.aload_n 0, 1) := by decide +kernel
theorem dL_isSo_969 : decode cL_isSo 969 = .ok (.aload_n 1, 1) := by decide +kernel
theorem dL_isSo_970 : decode cL_isSo 970 = .ok (.iconst 1, 1) := by decide +kernel
theorem dL_isSo_971 : decode cL_isSo 971 = .ok (.iaload, 1) := by decide +kernel
theorem dL_isSo_972 : decode cL_isSo 972 = .ok (.iconst 0, 1) := by decide +kernel
theorem dL_isSo_973 : decode cL_isSo 973 = .ok (.invokevirtual 96, 3) := by decide +kernel
theorem dL_isSo_976 : decode cL_isSo 976 = .ok (.iconst (-1), 1) := by decide +kernel
theorem dL_isSo_977 : decode cL_isSo 977 = .ok (.if_icmp .ne 31, 3) := by decide +kernel
theorem dL_isSo_980 : decode cL_isSo 980 = .ok (.aload_n 0, 1) := by decide +kernel
theorem dL_isSo_981 : decode cL_isSo 981 = .ok (.aload_n 1, 1) := by decide +kernel
theorem dL_isSo_982 : decode cL_isSo 982 = .ok (.iconst 2, 1) := by decide +kernel
theorem dL_isSo_983 : decode cL_isSo 983 = .ok (.iaload, 1) := by decide +kernel
theorem dL_isSo_984 : decode cL_isSo 984 = .ok (.iconst 0, 1) := by decide +kernel
theorem dL_isSo_985 : decode cL_isSo 985 = .ok (.invokevirtual 99, 3) := by decide +kernel
theorem dL_isSo_988 : decode cL_isSo 988 = .ok (.iconst (-1), 1) := by decide +kernel
theorem dL_isSo_989 : decode cL_isSo 989 = .ok (.if_icmp .ne 19, 3) := by decide +kernel
theorem dL_isSo_992 : decode cL_isSo 992 = .ok (.aload_n 0, 1) := by decide +kernel
theorem dL_isSo_993 : decode cL_isSo 993 = .ok (.aload_n 1, 1) := by decide +kernel
theorem dL_isSo_994 : decode cL_isSo 994 = .ok (.iconst 3, 1) := by decide +kernel
theorem dL_isSo_995 : decode cL_isSo 995 = .ok (.iaload, 1) := by decide +kernel
theorem dL_isSo_996 : decode cL_isSo 996 = .ok (.iconst 0, 1) := by decide +kernel
theorem dL_isSo_997 : decode cL_isSo 997 = .ok (.invokevirtual 102, 3) := by decide +kernel
theorem dL_isSo_1000 : decode cL_isSo 1000 = .ok (.iconst (-1), 1) := by decide +kernel
theorem dL_isSo_1001 : decode cL_isSo 1001 = .ok (.if_icmp .ne 7, 3) := by decide +kernel
theorem dL_isSo_1004 : decode cL_isSo 1004 = .ok (.iconst 1, 1) := by decide +kernel
theorem dL_isSo_1005 : decode cL_isSo 1005 = .ok (.goto 4, 3) := by decide +kernel
theorem dL_isSo_1008 : decode cL_isSo 1008 = .ok (.iconst 0, 1) := by decide +kernel
theorem dL_isSo_1009 : decode cL_isSo 1009 = .ok (.ireturn, 1) := by decide +kernel
theorem dL_law_0 : decode cL_law 0 = .ok (.new 17, 3) := by decide +kernel
theorem dL_law_3 : decode cL_law 3 = .ok (.dup, 1) := by decide +kernel
theorem dL_law_4 : decode cL_law 4 = .ok (.invokespecial 105, 3) := by decide +kernel
theorem dL_law_7 : decode cL_law 7 = .ok (.astore_n 1, 1) := by decide +kernel
theorem dL_law_8 : decode cL_law 8 = .ok (.bipush 6, 2) := by decide +kernel
theorem dL_law_10 : decode cL_law 10 = .ok (.newarray .int, 2) := by decide +kernel
theorem dL_law_12 : decode cL_law 12 = .ok (.astore_n 2, 1) := by decide +kernel
theorem dL_law_13 : decode cL_law 13 = .ok (.bipush 18, 2) := by decide +kernel
theorem dL_law_15 : decode cL_law 15 = .ok (.newarray .int, 2) := by decide +kernel
theorem dL_law_17 : decode cL_law 17 = .ok (.astore_n 3, 1) := by decide +kernel
theorem dL_law_18 : decode cL_law 18 = .ok (.bipush 28, 2) := by decide +kernel
theorem dL_law_20 : decode cL_law 20 = .ok (.newarray .int, 2) := by decide +kernel
theorem dL_law_22 : decode cL_law 22 = .ok (.astore 4, 2) := by decide +kernel
theorem dL_law_24 : decode cL_law 24 = .ok (.bipush 24, 2) := by decide +kernel
theorem dL_law_26 : decode cL_law 26 = .ok (.newarray .int, 2) := by decide +kernel
theorem dL_law_28 : decode cL_law 28 = .ok (.astore 5, 2) := by decide +kernel
theorem dL_law_30 : decode cL_law 30 = .ok (.bipush 60, 2) := by decide +kernel
theorem dL_law_32 : decode cL_law 32 = .ok (.newarray .int, 2) := by decide +kernel
theorem dL_law_34 : decode cL_law 34 = .ok (.astore 6, 2) := by decide +kernel
theorem dL_law_36 : decode cL_law 36 = .ok (.aload_n 1, 1) := by decide +kernel
theorem dL_law_37 : decode cL_law 37 = .ok (.aload_n 2, 1) := by decide +kernel
theorem dL_law_38 : decode cL_law 38 = .ok (.aload_n 3, 1) := by decide +kernel
theorem dL_law_39 : decode cL_law 39 = .ok (.aload 4, 2) := by decide +kernel
theorem dL_law_41 : decode cL_law 41 = .ok (.aload 5, 2) := by decide +kernel
theorem dL_law_43 : decode cL_law 43 = .ok (.aload 6, 2) := by decide +kernel
theorem dL_law_45 : decode cL_law 45 = .ok (.invokestatic 106, 3) := by decide +kernel
theorem dL_law_48 : decode cL_law 48 = .ok (.istore 7, 2) := by decide +kernel
theorem dL_law_50 : decode cL_law 50 = .ok (.iconst 0, 1) := by decide +kernel
theorem dL_law_51 : decode cL_law 51 = .ok (.istore 8, 2) := by decide +kernel
theorem dL_law_53 : decode cL_law 53 = .ok (.iload 8, 2) := by decide +kernel
theorem dL_law_55 : decode cL_law 55 = .ok (.bipush 12, 2) := by decide +kernel
theorem dL_law_57 : decode cL_law 57 = .ok (.if_icmp .ge 81, 3) := by decide +kernel
theorem dL_law_60 : decode cL_law 60 = .ok (.iload 7, 2) := by decide +kernel
theorem dL_law_62 : decode cL_law 62 = .ok (.ifCond .eq 76, 3) := by decide +kernel
theorem dL_law_65 : decode cL_law 65 = .ok (.aload_n 1, 1) := by decide +kernel
theorem dL_law_66 : decode cL_law 66 = .ok (.aload_n 2, 1) := by decide +kernel
theorem dL_law_67 : decode cL_law 67 = .ok (.aload_n 3, 1) := by decide +kernel
theorem dL_law_68 : decode cL_law 68 = .ok (.aload 4, 2) := by decide +kernel
theorem dL_law_70 : decode cL_law 70 = .ok (.aload 5, 2) := by decide +kernel
theorem dL_law_72 : decode cL_law 72 = .ok (.aload 6, 2) := by decide +kernel
theorem dL_law_74 : decode cL_law 74 = .ok (.aload_n 0, 1) := by decide +kernel
theorem dL_law_75 : decode cL_law 75 = .ok (.iconst 1, 1) := by decide +kernel
theorem dL_law_76 : decode cL_law 76 = .ok (.iload 8, 2) := by decide +kernel
theorem dL_law_78 : decode cL_law 78 = .ok (.iadd, 1) := by decide +kernel
theorem dL_law_79 : decode cL_law 79 = .ok (.invokestatic 110, 3) := by decide +kernel
theorem dL_law_82 : decode cL_law 82 = .ok (.ldc 8, 2) := by decide +kernel
theorem dL_law_84 : decode cL_law 84 = .ok (.iand, 1) := by decide +kernel
theorem dL_law_85 : decode cL_law 85 = .ok (.sipush 832, 3) := by decide +kernel
theorem dL_law_88 : decode cL_law 88 = .ok (.idiv, 1) := by decide +kernel
theorem dL_law_89 : decode cL_law 89 = .ok (.sipush 832, 3) := by decide +kernel
theorem dL_law_92 : decode cL_law 92 = .ok (.imul, 1) := by decide +kernel
theorem dL_law_93 : decode cL_law 93 = .ok (.iload 8, 2) := by decide +kernel
theorem dL_law_95 : decode cL_law 95 = .ok (.iconst 3, 1) := by decide +kernel
theorem dL_law_96 : decode cL_law 96 = .ok (.if_icmp .ge 7, 3) := by decide +kernel
theorem dL_law_99 : decode cL_law 99 = .ok (.iconst 0, 1) := by decide +kernel
theorem dL_law_100 : decode cL_law 100 = .ok (.goto 26, 3) := by decide +kernel
theorem dL_law_103 : decode cL_law 103 = .ok (.iload 8, 2) := by decide +kernel
theorem dL_law_105 : decode cL_law 105 = .ok (.iconst 5, 1) := by decide +kernel
theorem dL_law_106 : decode cL_law 106 = .ok (.if_icmp .ge 7, 3) := by decide +kernel
theorem dL_law_109 : decode cL_law 109 = .ok (.iconst 1, 1) := by decide +kernel
theorem dL_law_110 : decode cL_law 110 = .ok (.goto 16, 3) := by decide +kernel
