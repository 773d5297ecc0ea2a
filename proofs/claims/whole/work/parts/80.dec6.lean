theorem d_lw_973 : decode code 973 = .ok (.iaload, 1) := by decide +kernel
theorem d_lw_974 : decode code 974 = .ok (.aload_n 0, 1) := by decide +kernel
theorem d_lw_975 : decode code 975 = .ok (.iload 4, 2) := by decide +kernel
theorem d_lw_977 : decode code 977 = .ok (.iconst 2, 1) := by decide +kernel
theorem d_lw_978 : decode code 978 = .ok (.iadd, 1) := by decide +kernel
theorem d_lw_979 : decode code 979 = .ok (.iaload, 1) := by decide +kernel
theorem d_lw_980 : decode code 980 = .ok (.aload_n 0, 1) := by decide +kernel
theorem d_lw_981 : decode code 981 = .ok (.iload 4, 2) := by decide +kernel
theorem d_lw_983 : decode code 983 = .ok (.iconst 3, 1) := by decide +kernel
theorem d_lw_984 : decode code 984 = .ok (.iadd, 1) := by decide +kernel
theorem d_lw_985 : decode code 985 = .ok (.iaload, 1) := by decide +kernel
theorem d_lw_986 : decode code 986 = .ok (.invokevirtual 115, 3) := by decide +kernel
theorem d_lw_989 : decode code 989 = .ok (.if_icmp .eq 207, 3) := by decide +kernel
theorem d_lw_992 : decode code 992 = .ok (.iconst 0, 1) := by decide +kernel
theorem d_lw_993 : decode code 993 = .ok (.ireturn, 1) := by decide +kernel
theorem d_lw_994 : decode code 994 = .ok (.aload_n 1, 1) := by decide +kernel
theorem d_lw_995 : decode code 995 = .ok (.aload_n 0, 1) := by decide +kernel
theorem d_lw_996 : decode code 996 = .ok (.iload 4, 2) := by decide +kernel
theorem d_lw_998 : decode code 998 = .ok (.iconst 1, 1) := by decide +kernel
theorem d_lw_999 : decode code 999 = .ok (.iadd, 1) := by decide +kernel
theorem d_lw_1000 : decode code 1000 = .ok (.iaload, 1) := by decide +kernel
theorem d_lw_1001 : decode code 1001 = .ok (.invokevirtual 116, 3) := by decide +kernel
theorem d_lw_1004 : decode code 1004 = .ok (.aload_n 2, 1) := by decide +kernel
theorem d_lw_1005 : decode code 1005 = .ok (.aload_n 0, 1) := by decide +kernel
theorem d_lw_1006 : decode code 1006 = .ok (.iload 4, 2) := by decide +kernel
theorem d_lw_1008 : decode code 1008 = .ok (.iconst 1, 1) := by decide +kernel
theorem d_lw_1009 : decode code 1009 = .ok (.iadd, 1) := by decide +kernel
theorem d_lw_1010 : decode code 1010 = .ok (.iaload, 1) := by decide +kernel
theorem d_lw_1011 : decode code 1011 = .ok (.invokevirtual 120, 3) := by decide +kernel
theorem d_lw_1014 : decode code 1014 = .ok (.lcmp, 1) := by decide +kernel
theorem d_lw_1015 : decode code 1015 = .ok (.ifCond .eq 181, 3) := by decide +kernel
theorem d_lw_1018 : decode code 1018 = .ok (.iconst 0, 1) := by decide +kernel
theorem d_lw_1019 : decode code 1019 = .ok (.ireturn, 1) := by decide +kernel
theorem d_lw_1020 : decode code 1020 = .ok (.aload_n 1, 1) := by decide +kernel
theorem d_lw_1021 : decode code 1021 = .ok (.aload_n 0, 1) := by decide +kernel
theorem d_lw_1022 : decode code 1022 = .ok (.iload 4, 2) := by decide +kernel
theorem d_lw_1024 : decode code 1024 = .ok (.iconst 1, 1) := by decide +kernel
theorem d_lw_1025 : decode code 1025 = .ok (.iadd, 1) := by decide +kernel
theorem d_lw_1026 : decode code 1026 = .ok (.iaload, 1) := by decide +kernel
theorem d_lw_1027 : decode code 1027 = .ok (.invokevirtual 121, 3) := by decide +kernel
theorem d_lw_1030 : decode code 1030 = .ok (.aload_n 2, 1) := by decide +kernel
theorem d_lw_1031 : decode code 1031 = .ok (.aload_n 0, 1) := by decide +kernel
theorem d_lw_1032 : decode code 1032 = .ok (.iload 4, 2) := by decide +kernel
theorem d_lw_1034 : decode code 1034 = .ok (.iconst 1, 1) := by decide +kernel
theorem d_lw_1035 : decode code 1035 = .ok (.iadd, 1) := by decide +kernel
theorem d_lw_1036 : decode code 1036 = .ok (.iaload, 1) := by decide +kernel
theorem d_lw_1037 : decode code 1037 = .ok (.invokevirtual 124, 3) := by decide +kernel
theorem d_lw_1040 : decode code 1040 = .ok (.lcmp, 1) := by decide +kernel
theorem d_lw_1041 : decode code 1041 = .ok (.ifCond .eq 155, 3) := by decide +kernel
theorem d_lw_1044 : decode code 1044 = .ok (.iconst 0, 1) := by decide +kernel
theorem d_lw_1045 : decode code 1045 = .ok (.ireturn, 1) := by decide +kernel
theorem d_lw_1046 : decode code 1046 = .ok (.aload_n 1, 1) := by decide +kernel
theorem d_lw_1047 : decode code 1047 = .ok (.aload_n 0, 1) := by decide +kernel
theorem d_lw_1048 : decode code 1048 = .ok (.iload 4, 2) := by decide +kernel
theorem d_lw_1050 : decode code 1050 = .ok (.iconst 1, 1) := by decide +kernel
theorem d_lw_1051 : decode code 1051 = .ok (.iadd, 1) := by decide +kernel
theorem d_lw_1052 : decode code 1052 = .ok (.iaload, 1) := by decide +kernel
theorem d_lw_1053 : decode code 1053 = .ok (.aload_n 0, 1) := by decide +kernel
theorem d_lw_1054 : decode code 1054 = .ok (.iload 4, 2) := by decide +kernel
theorem d_lw_1056 : decode code 1056 = .ok (.iconst 2, 1) := by decide +kernel
theorem d_lw_1057 : decode code 1057 = .ok (.iadd, 1) := by decide +kernel
theorem d_lw_1058 : decode code 1058 = .ok (.iaload, 1) := by decide +kernel
theorem d_lw_1059 : decode code 1059 = .ok (.invokevirtual 125, 3) := by decide +kernel
theorem d_lw_1062 : decode code 1062 = .ok (.aload_n 2, 1) := by decide +kernel
theorem d_lw_1063 : decode code 1063 = .ok (.aload_n 0, 1) := by decide +kernel
theorem d_lw_1064 : decode code 1064 = .ok (.iload 4, 2) := by decide +kernel
theorem d_lw_1066 : decode code 1066 = .ok (.iconst 1, 1) := by decide +kernel
theorem d_lw_1067 : decode code 1067 = .ok (.iadd, 1) := by decide +kernel
theorem d_lw_1068 : decode code 1068 = .ok (.iaload, 1) := by decide +kernel
theorem d_lw_1069 : decode code 1069 = .ok (.aload_n 0, 1) := by decide +kernel
theorem d_lw_1070 : decode code 1070 = .ok (.iload 4, 2) := by decide +kernel
theorem d_lw_1072 : decode code 1072 = .ok (.iconst 2, 1) := by decide +kernel
theorem d_lw_1073 : decode code 1073 = .ok (.iadd, 1) := by decide +kernel
theorem d_lw_1074 : decode code 1074 = .ok (.iaload, 1) := by decide +kernel
theorem d_lw_1075 : decode code 1075 = .ok (.invokevirtual 128, 3) := by decide +kernel
theorem d_lw_1078 : decode code 1078 = .ok (.if_icmp .eq 118, 3) := by decide +kernel
theorem d_lw_1081 : decode code 1081 = .ok (.iconst 0, 1) := by decide +kernel
theorem d_lw_1082 : decode code 1082 = .ok (.ireturn, 1) := by decide +kernel
theorem d_lw_1083 : decode code 1083 = .ok (.aload_n 1, 1) := by decide +kernel
theorem d_lw_1084 : decode code 1084 = .ok (.aload_n 0, 1) := by decide +kernel
theorem d_lw_1085 : decode code 1085 = .ok (.iload 4, 2) := by decide +kernel
theorem d_lw_1087 : decode code 1087 = .ok (.iconst 1, 1) := by decide +kernel
theorem d_lw_1088 : decode code 1088 = .ok (.iadd, 1) := by decide +kernel
theorem d_lw_1089 : decode code 1089 = .ok (.iaload, 1) := by decide +kernel
theorem d_lw_1090 : decode code 1090 = .ok (.aload_n 0, 1) := by decide +kernel
theorem d_lw_1091 : decode code 1091 = .ok (.iload 4, 2) := by decide +kernel
theorem d_lw_1093 : decode code 1093 = .ok (.iconst 2, 1) := by decide +kernel
theorem d_lw_1094 : decode code 1094 = .ok (.iadd, 1) := by decide +kernel
theorem d_lw_1095 : decode code 1095 = .ok (.iaload, 1) := by decide +kernel
theorem d_lw_1096 : decode code 1096 = .ok (.invokevirtual 129, 3) := by decide +kernel
theorem d_lw_1099 : decode code 1099 = .ok (.aload_n 2, 1) := by decide +kernel
theorem d_lw_1100 : decode code 1100 = .ok (.aload_n 0, 1) := by decide +kernel
theorem d_lw_1101 : decode code 1101 = .ok (.iload 4, 2) := by decide +kernel
theorem d_lw_1103 : decode code 1103 = .ok (.iconst 1, 1) := by decide +kernel
theorem d_lw_1104 : decode code 1104 = .ok (.iadd, 1) := by decide +kernel
theorem d_lw_1105 : decode code 1105 = .ok (.iaload, 1) := by decide +kernel
theorem d_lw_1106 : decode code 1106 = .ok (.aload_n 0, 1) := by decide +kernel
theorem d_lw_1107 : decode code 1107 = .ok (.iload 4, 2) := by decide +kernel
theorem d_lw_1109 : decode code 1109 = .ok (.iconst 2, 1) := by decide +kernel
theorem d_lw_1110 : decode code 1110 = .ok (.iadd, 1) := by decide +kernel
