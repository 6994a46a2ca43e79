/-! The law: its instructions -/
theorem nb_dL_law_1020 : bls_w cL_law [(1020, [87]), (1021, [167, 1, 114]), (1024, [43]), (1025, [42]), (1026, [29]), (1027, [4]), (1028, [96]), (1029, [46]), (1030, [42]), (1031, [29]), (1032, [5]), (1033, [96])] := bls_of (by decide +kernel)
theorem dL_law_1020 : decode cL_law 1020 = .ok (.pop, 1) := op_87 nb_dL_law_1020.1
set_option maxRecDepth 100000 in
theorem dL_law_1021 : decode cL_law 1021 = .ok (.goto 370, 3) := (op_167 nb_dL_law_1020.2.1).trans rfl
theorem dL_law_1024 : decode cL_law 1024 = .ok (.aload_n 1, 1) := op_43 nb_dL_law_1020.2.2.1
theorem dL_law_1025 : decode cL_law 1025 = .ok (.aload_n 0, 1) := op_42 nb_dL_law_1020.2.2.2.1
theorem dL_law_1026 : decode cL_law 1026 = .ok (.iload_n 3, 1) := op_29 nb_dL_law_1020.2.2.2.2.1
theorem dL_law_1027 : decode cL_law 1027 = .ok (.iconst 1, 1) := op_4 nb_dL_law_1020.2.2.2.2.2.1
theorem dL_law_1028 : decode cL_law 1028 = .ok (.iadd, 1) := op_96 nb_dL_law_1020.2.2.2.2.2.2.1
theorem dL_law_1029 : decode cL_law 1029 = .ok (.iaload, 1) := op_46 nb_dL_law_1020.2.2.2.2.2.2.2.1
theorem dL_law_1030 : decode cL_law 1030 = .ok (.aload_n 0, 1) := op_42 nb_dL_law_1020.2.2.2.2.2.2.2.2.1
theorem dL_law_1031 : decode cL_law 1031 = .ok (.iload_n 3, 1) := op_29 nb_dL_law_1020.2.2.2.2.2.2.2.2.2.1
theorem dL_law_1032 : decode cL_law 1032 = .ok (.iconst 2, 1) := op_5 nb_dL_law_1020.2.2.2.2.2.2.2.2.2.2.1
theorem dL_law_1033 : decode cL_law 1033 = .ok (.iadd, 1) := op_96 nb_dL_law_1020.2.2.2.2.2.2.2.2.2.2.2.1
theorem nb_dL_law_1034 : bls_w cL_law [(1034, [46]), (1035, [42]), (1036, [29]), (1037, [6]), (1038, [96]), (1039, [46]), (1040, [182, 0, 137]), (1043, [87]), (1044, [44]), (1045, [42]), (1046, [29]), (1047, [4])] := bls_of (by decide +kernel)
theorem dL_law_1034 : decode cL_law 1034 = .ok (.iaload, 1) := op_46 nb_dL_law_1034.1
theorem dL_law_1035 : decode cL_law 1035 = .ok (.aload_n 0, 1) := op_42 nb_dL_law_1034.2.1
theorem dL_law_1036 : decode cL_law 1036 = .ok (.iload_n 3, 1) := op_29 nb_dL_law_1034.2.2.1
theorem dL_law_1037 : decode cL_law 1037 = .ok (.iconst 3, 1) := op_6 nb_dL_law_1034.2.2.2.1
theorem dL_law_1038 : decode cL_law 1038 = .ok (.iadd, 1) := op_96 nb_dL_law_1034.2.2.2.2.1
theorem dL_law_1039 : decode cL_law 1039 = .ok (.iaload, 1) := op_46 nb_dL_law_1034.2.2.2.2.2.1
set_option maxRecDepth 100000 in
theorem dL_law_1040 : decode cL_law 1040 = .ok (.invokevirtual 137, 3) := (op_182 nb_dL_law_1034.2.2.2.2.2.2.1).trans rfl
theorem dL_law_1043 : decode cL_law 1043 = .ok (.pop, 1) := op_87 nb_dL_law_1034.2.2.2.2.2.2.2.1
theorem dL_law_1044 : decode cL_law 1044 = .ok (.aload_n 2, 1) := op_44 nb_dL_law_1034.2.2.2.2.2.2.2.2.1
theorem dL_law_1045 : decode cL_law 1045 = .ok (.aload_n 0, 1) := op_42 nb_dL_law_1034.2.2.2.2.2.2.2.2.2.1
theorem dL_law_1046 : decode cL_law 1046 = .ok (.iload_n 3, 1) := op_29 nb_dL_law_1034.2.2.2.2.2.2.2.2.2.2.1
theorem dL_law_1047 : decode cL_law 1047 = .ok (.iconst 1, 1) := op_4 nb_dL_law_1034.2.2.2.2.2.2.2.2.2.2.2.1
theorem nb_dL_law_1048 : bls_w cL_law [(1048, [96]), (1049, [46]), (1050, [42]), (1051, [29]), (1052, [5]), (1053, [96]), (1054, [46]), (1055, [42]), (1056, [29]), (1057, [6]), (1058, [96]), (1059, [46])] := bls_of (by decide +kernel)
theorem dL_law_1048 : decode cL_law 1048 = .ok (.iadd, 1) := op_96 nb_dL_law_1048.1
theorem dL_law_1049 : decode cL_law 1049 = .ok (.iaload, 1) := op_46 nb_dL_law_1048.2.1
theorem dL_law_1050 : decode cL_law 1050 = .ok (.aload_n 0, 1) := op_42 nb_dL_law_1048.2.2.1
theorem dL_law_1051 : decode cL_law 1051 = .ok (.iload_n 3, 1) := op_29 nb_dL_law_1048.2.2.2.1
theorem dL_law_1052 : decode cL_law 1052 = .ok (.iconst 2, 1) := op_5 nb_dL_law_1048.2.2.2.2.1
theorem dL_law_1053 : decode cL_law 1053 = .ok (.iadd, 1) := op_96 nb_dL_law_1048.2.2.2.2.2.1
theorem dL_law_1054 : decode cL_law 1054 = .ok (.iaload, 1) := op_46 nb_dL_law_1048.2.2.2.2.2.2.1
theorem dL_law_1055 : decode cL_law 1055 = .ok (.aload_n 0, 1) := op_42 nb_dL_law_1048.2.2.2.2.2.2.2.1
theorem dL_law_1056 : decode cL_law 1056 = .ok (.iload_n 3, 1) := op_29 nb_dL_law_1048.2.2.2.2.2.2.2.2.1
theorem dL_law_1057 : decode cL_law 1057 = .ok (.iconst 3, 1) := op_6 nb_dL_law_1048.2.2.2.2.2.2.2.2.2.1
theorem dL_law_1058 : decode cL_law 1058 = .ok (.iadd, 1) := op_96 nb_dL_law_1048.2.2.2.2.2.2.2.2.2.2.1
theorem dL_law_1059 : decode cL_law 1059 = .ok (.iaload, 1) := op_46 nb_dL_law_1048.2.2.2.2.2.2.2.2.2.2.2.1
theorem nb_dL_law_1060 : bls_w cL_law [(1060, [182, 0, 140]), (1063, [87]), (1064, [167, 1, 71]), (1067, [43]), (1068, [42]), (1069, [29]), (1070, [4]), (1071, [96]), (1072, [46]), (1073, [182, 0, 141]), (1076, [87]), (1077, [44])] := bls_of (by decide +kernel)
set_option maxRecDepth 100000 in
theorem dL_law_1060 : decode cL_law 1060 = .ok (.invokevirtual 140, 3) := (op_182 nb_dL_law_1060.1).trans rfl
theorem dL_law_1063 : decode cL_law 1063 = .ok (.pop, 1) := op_87 nb_dL_law_1060.2.1
set_option maxRecDepth 100000 in
theorem dL_law_1064 : decode cL_law 1064 = .ok (.goto 327, 3) := (op_167 nb_dL_law_1060.2.2.1).trans rfl
theorem dL_law_1067 : decode cL_law 1067 = .ok (.aload_n 1, 1) := op_43 nb_dL_law_1060.2.2.2.1
theorem dL_law_1068 : decode cL_law 1068 = .ok (.aload_n 0, 1) := op_42 nb_dL_law_1060.2.2.2.2.1
theorem dL_law_1069 : decode cL_law 1069 = .ok (.iload_n 3, 1) := op_29 nb_dL_law_1060.2.2.2.2.2.1
theorem dL_law_1070 : decode cL_law 1070 = .ok (.iconst 1, 1) := op_4 nb_dL_law_1060.2.2.2.2.2.2.1
theorem dL_law_1071 : decode cL_law 1071 = .ok (.iadd, 1) := op_96 nb_dL_law_1060.2.2.2.2.2.2.2.1
theorem dL_law_1072 : decode cL_law 1072 = .ok (.iaload, 1) := op_46 nb_dL_law_1060.2.2.2.2.2.2.2.2.1
set_option maxRecDepth 100000 in
theorem dL_law_1073 : decode cL_law 1073 = .ok (.invokevirtual 141, 3) := (op_182 nb_dL_law_1060.2.2.2.2.2.2.2.2.2.1).trans rfl
theorem dL_law_1076 : decode cL_law 1076 = .ok (.pop, 1) := op_87 nb_dL_law_1060.2.2.2.2.2.2.2.2.2.2.1
theorem dL_law_1077 : decode cL_law 1077 = .ok (.aload_n 2, 1) := op_44 nb_dL_law_1060.2.2.2.2.2.2.2.2.2.2.2.1
theorem nb_dL_law_1078 : bls_w cL_law [(1078, [42]), (1079, [29]), (1080, [4]), (1081, [96]), (1082, [46]), (1083, [182, 0, 144]), (1086, [87]), (1087, [167, 1, 48]), (1090, [43]), (1091, [42]), (1092, [29]), (1093, [4])] := bls_of (by decide +kernel)
theorem dL_law_1078 : decode cL_law 1078 = .ok (.aload_n 0, 1) := op_42 nb_dL_law_1078.1
theorem dL_law_1079 : decode cL_law 1079 = .ok (.iload_n 3, 1) := op_29 nb_dL_law_1078.2.1
theorem dL_law_1080 : decode cL_law 1080 = .ok (.iconst 1, 1) := op_4 nb_dL_law_1078.2.2.1
theorem dL_law_1081 : decode cL_law 1081 = .ok (.iadd, 1) := op_96 nb_dL_law_1078.2.2.2.1
theorem dL_law_1082 : decode cL_law 1082 = .ok (.iaload, 1) := op_46 nb_dL_law_1078.2.2.2.2.1
set_option maxRecDepth 100000 in
theorem dL_law_1083 : decode cL_law 1083 = .ok (.invokevirtual 144, 3) := (op_182 nb_dL_law_1078.2.2.2.2.2.1).trans rfl
theorem dL_law_1086 : decode cL_law 1086 = .ok (.pop, 1) := op_87 nb_dL_law_1078.2.2.2.2.2.2.1
set_option maxRecDepth 100000 in
theorem dL_law_1087 : decode cL_law 1087 = .ok (.goto 304, 3) := (op_167 nb_dL_law_1078.2.2.2.2.2.2.2.1).trans rfl
theorem dL_law_1090 : decode cL_law 1090 = .ok (.aload_n 1, 1) := op_43 nb_dL_law_1078.2.2.2.2.2.2.2.2.1
theorem dL_law_1091 : decode cL_law 1091 = .ok (.aload_n 0, 1) := op_42 nb_dL_law_1078.2.2.2.2.2.2.2.2.2.1
theorem dL_law_1092 : decode cL_law 1092 = .ok (.iload_n 3, 1) := op_29 nb_dL_law_1078.2.2.2.2.2.2.2.2.2.2.1
theorem dL_law_1093 : decode cL_law 1093 = .ok (.iconst 1, 1) := op_4 nb_dL_law_1078.2.2.2.2.2.2.2.2.2.2.2.1
theorem nb_dL_law_1094 : bls_w cL_law [(1094, [96]), (1095, [46]), (1096, [42]), (1097, [29]), (1098, [5]), (1099, [96]), (1100, [46]), (1101, [182, 0, 145]), (1104, [87]), (1105, [44]), (1106, [42]), (1107, [29])] := bls_of (by decide +kernel)
theorem dL_law_1094 : decode cL_law 1094 = .ok (.iadd, 1) := op_96 nb_dL_law_1094.1
theorem dL_law_1095 : decode cL_law 1095 = .ok (.iaload, 1) := op_46 nb_dL_law_1094.2.1
theorem dL_law_1096 : decode cL_law 1096 = .ok (.aload_n 0, 1) := op_42 nb_dL_law_1094.2.2.1
theorem dL_law_1097 : decode cL_law 1097 = .ok (.iload_n 3, 1) := op_29 nb_dL_law_1094.2.2.2.1
theorem dL_law_1098 : decode cL_law 1098 = .ok (.iconst 2, 1) := op_5 nb_dL_law_1094.2.2.2.2.1
theorem dL_law_1099 : decode cL_law 1099 = .ok (.iadd, 1) := op_96 nb_dL_law_1094.2.2.2.2.2.1
theorem dL_law_1100 : decode cL_law 1100 = .ok (.iaload, 1) := op_46 nb_dL_law_1094.2.2.2.2.2.2.1
set_option maxRecDepth 100000 in
theorem dL_law_1101 : decode cL_law 1101 = .ok (.invokevirtual 145, 3) := (op_182 nb_dL_law_1094.2.2.2.2.2.2.2.1).trans rfl
theorem dL_law_1104 : decode cL_law 1104 = .ok (.pop, 1) := op_87 nb_dL_law_1094.2.2.2.2.2.2.2.2.1
theorem dL_law_1105 : decode cL_law 1105 = .ok (.aload_n 2, 1) := op_44 nb_dL_law_1094.2.2.2.2.2.2.2.2.2.1
theorem dL_law_1106 : decode cL_law 1106 = .ok (.aload_n 0, 1) := op_42 nb_dL_law_1094.2.2.2.2.2.2.2.2.2.2.1
theorem dL_law_1107 : decode cL_law 1107 = .ok (.iload_n 3, 1) := op_29 nb_dL_law_1094.2.2.2.2.2.2.2.2.2.2.2.1
theorem nb_dL_law_1108 : bls_w cL_law [(1108, [4]), (1109, [96]), (1110, [46]), (1111, [42]), (1112, [29]), (1113, [5]), (1114, [96]), (1115, [46]), (1116, [182, 0, 148]), (1119, [87]), (1120, [167, 1, 15]), (1123, [43])] := bls_of (by decide +kernel)
theorem dL_law_1108 : decode cL_law 1108 = .ok (.iconst 1, 1) := op_4 nb_dL_law_1108.1
theorem dL_law_1109 : decode cL_law 1109 = .ok (.iadd, 1) := op_96 nb_dL_law_1108.2.1
theorem dL_law_1110 : decode cL_law 1110 = .ok (.iaload, 1) := op_46 nb_dL_law_1108.2.2.1
theorem dL_law_1111 : decode cL_law 1111 = .ok (.aload_n 0, 1) := op_42 nb_dL_law_1108.2.2.2.1
theorem dL_law_1112 : decode cL_law 1112 = .ok (.iload_n 3, 1) := op_29 nb_dL_law_1108.2.2.2.2.1
theorem dL_law_1113 : decode cL_law 1113 = .ok (.iconst 2, 1) := op_5 nb_dL_law_1108.2.2.2.2.2.1
theorem dL_law_1114 : decode cL_law 1114 = .ok (.iadd, 1) := op_96 nb_dL_law_1108.2.2.2.2.2.2.1
theorem dL_law_1115 : decode cL_law 1115 = .ok (.iaload, 1) := op_46 nb_dL_law_1108.2.2.2.2.2.2.2.1
set_option maxRecDepth 100000 in
theorem dL_law_1116 : decode cL_law 1116 = .ok (.invokevirtual 148, 3) := (op_182 nb_dL_law_1108.2.2.2.2.2.2.2.2.1).trans rfl
theorem dL_law_1119 : decode cL_law 1119 = .ok (.pop, 1) := op_87 nb_dL_law_1108.2.2.2.2.2.2.2.2.2.1
set_option maxRecDepth 100000 in
theorem dL_law_1120 : decode cL_law 1120 = .ok (.goto 271, 3) := (op_167 nb_dL_law_1108.2.2.2.2.2.2.2.2.2.2.1).trans rfl
theorem dL_law_1123 : decode cL_law 1123 = .ok (.aload_n 1, 1) := op_43 nb_dL_law_1108.2.2.2.2.2.2.2.2.2.2.2.1
theorem nb_dL_law_1124 : bls_w cL_law [(1124, [42]), (1125, [29]), (1126, [4]), (1127, [96]), (1128, [46]), (1129, [42]), (1130, [29]), (1131, [5]), (1132, [96]), (1133, [46]), (1134, [42]), (1135, [29])] := bls_of (by decide +kernel)
theorem dL_law_1124 : decode cL_law 1124 = .ok (.aload_n 0, 1) := op_42 nb_dL_law_1124.1
theorem dL_law_1125 : decode cL_law 1125 = .ok (.iload_n 3, 1) := op_29 nb_dL_law_1124.2.1
theorem dL_law_1126 : decode cL_law 1126 = .ok (.iconst 1, 1) := op_4 nb_dL_law_1124.2.2.1
theorem dL_law_1127 : decode cL_law 1127 = .ok (.iadd, 1) := op_96 nb_dL_law_1124.2.2.2.1
theorem dL_law_1128 : decode cL_law 1128 = .ok (.iaload, 1) := op_46 nb_dL_law_1124.2.2.2.2.1
theorem dL_law_1129 : decode cL_law 1129 = .ok (.aload_n 0, 1) := op_42 nb_dL_law_1124.2.2.2.2.2.1
theorem dL_law_1130 : decode cL_law 1130 = .ok (.iload_n 3, 1) := op_29 nb_dL_law_1124.2.2.2.2.2.2.1
theorem dL_law_1131 : decode cL_law 1131 = .ok (.iconst 2, 1) := op_5 nb_dL_law_1124.2.2.2.2.2.2.2.1
theorem dL_law_1132 : decode cL_law 1132 = .ok (.iadd, 1) := op_96 nb_dL_law_1124.2.2.2.2.2.2.2.2.1
theorem dL_law_1133 : decode cL_law 1133 = .ok (.iaload, 1) := op_46 nb_dL_law_1124.2.2.2.2.2.2.2.2.2.1
theorem dL_law_1134 : decode cL_law 1134 = .ok (.aload_n 0, 1) := op_42 nb_dL_law_1124.2.2.2.2.2.2.2.2.2.2.1
theorem dL_law_1135 : decode cL_law 1135 = .ok (.iload_n 3, 1) := op_29 nb_dL_law_1124.2.2.2.2.2.2.2.2.2.2.2.1
theorem nb_dL_law_1136 : bls_w cL_law [(1136, [6]), (1137, [96]), (1138, [46]), (1139, [182, 0, 149]), (1142, [87]), (1143, [44]), (1144, [42]), (1145, [29]), (1146, [4]), (1147, [96]), (1148, [46]), (1149, [42])] := bls_of (by decide +kernel)
theorem dL_law_1136 : decode cL_law 1136 = .ok (.iconst 3, 1) := op_6 nb_dL_law_1136.1
theorem dL_law_1137 : decode cL_law 1137 = .ok (.iadd, 1) := op_96 nb_dL_law_1136.2.1
theorem dL_law_1138 : decode cL_law 1138 = .ok (.iaload, 1) := op_46 nb_dL_law_1136.2.2.1
set_option maxRecDepth 100000 in
theorem dL_law_1139 : decode cL_law 1139 = .ok (.invokevirtual 149, 3) := (op_182 nb_dL_law_1136.2.2.2.1).trans rfl
theorem dL_law_1142 : decode cL_law 1142 = .ok (.pop, 1) := op_87 nb_dL_law_1136.2.2.2.2.1
theorem dL_law_1143 : decode cL_law 1143 = .ok (.aload_n 2, 1) := op_44 nb_dL_law_1136.2.2.2.2.2.1
theorem dL_law_1144 : decode cL_law 1144 = .ok (.aload_n 0, 1) := op_42 nb_dL_law_1136.2.2.2.2.2.2.1
theorem dL_law_1145 : decode cL_law 1145 = .ok (.iload_n 3, 1) := op_29 nb_dL_law_1136.2.2.2.2.2.2.2.1
theorem dL_law_1146 : decode cL_law 1146 = .ok (.iconst 1, 1) := op_4 nb_dL_law_1136.2.2.2.2.2.2.2.2.1
theorem dL_law_1147 : decode cL_law 1147 = .ok (.iadd, 1) := op_96 nb_dL_law_1136.2.2.2.2.2.2.2.2.2.1
theorem dL_law_1148 : decode cL_law 1148 = .ok (.iaload, 1) := op_46 nb_dL_law_1136.2.2.2.2.2.2.2.2.2.2.1
theorem dL_law_1149 : decode cL_law 1149 = .ok (.aload_n 0, 1) := op_42 nb_dL_law_1136.2.2.2.2.2.2.2.2.2.2.2.1
theorem nb_dL_law_1150 : bls_w cL_law [(1150, [29]), (1151, [5]), (1152, [96]), (1153, [46]), (1154, [42]), (1155, [29]), (1156, [6]), (1157, [96]), (1158, [46]), (1159, [182, 0, 152]), (1162, [87]), (1163, [167, 0, 228])] := bls_of (by decide +kernel)
theorem dL_law_1150 : decode cL_law 1150 = .ok (.iload_n 3, 1) := op_29 nb_dL_law_1150.1
theorem dL_law_1151 : decode cL_law 1151 = .ok (.iconst 2, 1) := op_5 nb_dL_law_1150.2.1
theorem dL_law_1152 : decode cL_law 1152 = .ok (.iadd, 1) := op_96 nb_dL_law_1150.2.2.1
theorem dL_law_1153 : decode cL_law 1153 = .ok (.iaload, 1) := op_46 nb_dL_law_1150.2.2.2.1
theorem dL_law_1154 : decode cL_law 1154 = .ok (.aload_n 0, 1) := op_42 nb_dL_law_1150.2.2.2.2.1
theorem dL_law_1155 : decode cL_law 1155 = .ok (.iload_n 3, 1) := op_29 nb_dL_law_1150.2.2.2.2.2.1
theorem dL_law_1156 : decode cL_law 1156 = .ok (.iconst 3, 1) := op_6 nb_dL_law_1150.2.2.2.2.2.2.1
theorem dL_law_1157 : decode cL_law 1157 = .ok (.iadd, 1) := op_96 nb_dL_law_1150.2.2.2.2.2.2.2.1
theorem dL_law_1158 : decode cL_law 1158 = .ok (.iaload, 1) := op_46 nb_dL_law_1150.2.2.2.2.2.2.2.2.1
set_option maxRecDepth 100000 in
theorem dL_law_1159 : decode cL_law 1159 = .ok (.invokevirtual 152, 3) := (op_182 nb_dL_law_1150.2.2.2.2.2.2.2.2.2.1).trans rfl
theorem dL_law_1162 : decode cL_law 1162 = .ok (.pop, 1) := op_87 nb_dL_law_1150.2.2.2.2.2.2.2.2.2.2.1
set_option maxRecDepth 100000 in
theorem dL_law_1163 : decode cL_law 1163 = .ok (.goto 228, 3) := (op_167 nb_dL_law_1150.2.2.2.2.2.2.2.2.2.2.2.1).trans rfl
theorem nb_dL_law_1166 : bls_w cL_law [(1166, [43]), (1167, [42]), (1168, [29]), (1169, [4]), (1170, [96]), (1171, [46]), (1172, [42]), (1173, [29]), (1174, [5]), (1175, [96]), (1176, [46]), (1177, [42])] := bls_of (by decide +kernel)
theorem dL_law_1166 : decode cL_law 1166 = .ok (.aload_n 1, 1) := op_43 nb_dL_law_1166.1
theorem dL_law_1167 : decode cL_law 1167 = .ok (.aload_n 0, 1) := op_42 nb_dL_law_1166.2.1
theorem dL_law_1168 : decode cL_law 1168 = .ok (.iload_n 3, 1) := op_29 nb_dL_law_1166.2.2.1
theorem dL_law_1169 : decode cL_law 1169 = .ok (.iconst 1, 1) := op_4 nb_dL_law_1166.2.2.2.1
theorem dL_law_1170 : decode cL_law 1170 = .ok (.iadd, 1) := op_96 nb_dL_law_1166.2.2.2.2.1
theorem dL_law_1171 : decode cL_law 1171 = .ok (.iaload, 1) := op_46 nb_dL_law_1166.2.2.2.2.2.1
theorem dL_law_1172 : decode cL_law 1172 = .ok (.aload_n 0, 1) := op_42 nb_dL_law_1166.2.2.2.2.2.2.1
theorem dL_law_1173 : decode cL_law 1173 = .ok (.iload_n 3, 1) := op_29 nb_dL_law_1166.2.2.2.2.2.2.2.1
theorem dL_law_1174 : decode cL_law 1174 = .ok (.iconst 2, 1) := op_5 nb_dL_law_1166.2.2.2.2.2.2.2.2.1
theorem dL_law_1175 : decode cL_law 1175 = .ok (.iadd, 1) := op_96 nb_dL_law_1166.2.2.2.2.2.2.2.2.2.1
theorem dL_law_1176 : decode cL_law 1176 = .ok (.iaload, 1) := op_46 nb_dL_law_1166.2.2.2.2.2.2.2.2.2.2.1
theorem dL_law_1177 : decode cL_law 1177 = .ok (.aload_n 0, 1) := op_42 nb_dL_law_1166.2.2.2.2.2.2.2.2.2.2.2.1
theorem nb_dL_law_1178 : bls_w cL_law [(1178, [29]), (1179, [6]), (1180, [96]), (1181, [46]), (1182, [133]), (1183, [16, 32]), (1185, [121]), (1186, [42]), (1187, [29]), (1188, [7]), (1189, [96]), (1190, [46])] := bls_of (by decide +kernel)
theorem dL_law_1178 : decode cL_law 1178 = .ok (.iload_n 3, 1) := op_29 nb_dL_law_1178.1
theorem dL_law_1179 : decode cL_law 1179 = .ok (.iconst 3, 1) := op_6 nb_dL_law_1178.2.1
theorem dL_law_1180 : decode cL_law 1180 = .ok (.iadd, 1) := op_96 nb_dL_law_1178.2.2.1
theorem dL_law_1181 : decode cL_law 1181 = .ok (.iaload, 1) := op_46 nb_dL_law_1178.2.2.2.1
theorem dL_law_1182 : decode cL_law 1182 = .ok (.i2l, 1) := op_133 nb_dL_law_1178.2.2.2.2.1
set_option maxRecDepth 100000 in
theorem dL_law_1183 : decode cL_law 1183 = .ok (.bipush 32, 2) := (op_16 nb_dL_law_1178.2.2.2.2.2.1).trans rfl
theorem dL_law_1185 : decode cL_law 1185 = .ok (.lshl, 1) := op_121 nb_dL_law_1178.2.2.2.2.2.2.1
theorem dL_law_1186 : decode cL_law 1186 = .ok (.aload_n 0, 1) := op_42 nb_dL_law_1178.2.2.2.2.2.2.2.1
theorem dL_law_1187 : decode cL_law 1187 = .ok (.iload_n 3, 1) := op_29 nb_dL_law_1178.2.2.2.2.2.2.2.2.1
theorem dL_law_1188 : decode cL_law 1188 = .ok (.iconst 4, 1) := op_7 nb_dL_law_1178.2.2.2.2.2.2.2.2.2.1
theorem dL_law_1189 : decode cL_law 1189 = .ok (.iadd, 1) := op_96 nb_dL_law_1178.2.2.2.2.2.2.2.2.2.2.1
theorem dL_law_1190 : decode cL_law 1190 = .ok (.iaload, 1) := op_46 nb_dL_law_1178.2.2.2.2.2.2.2.2.2.2.2.1
theorem nb_dL_law_1191 : bls_w cL_law [(1191, [133]), (1192, [20, 0, 153]), (1195, [127]), (1196, [129]), (1197, [182, 0, 155]), (1200, [87]), (1201, [44]), (1202, [42]), (1203, [29]), (1204, [4]), (1205, [96]), (1206, [46])] := bls_of (by decide +kernel)
theorem dL_law_1191 : decode cL_law 1191 = .ok (.i2l, 1) := op_133 nb_dL_law_1191.1
set_option maxRecDepth 100000 in
theorem dL_law_1192 : decode cL_law 1192 = .ok (.ldc2_w 153, 3) := (op_20 nb_dL_law_1191.2.1).trans rfl
theorem dL_law_1195 : decode cL_law 1195 = .ok (.land, 1) := op_127 nb_dL_law_1191.2.2.1
theorem dL_law_1196 : decode cL_law 1196 = .ok (.lor, 1) := op_129 nb_dL_law_1191.2.2.2.1
set_option maxRecDepth 100000 in
theorem dL_law_1197 : decode cL_law 1197 = .ok (.invokevirtual 155, 3) := (op_182 nb_dL_law_1191.2.2.2.2.1).trans rfl
theorem dL_law_1200 : decode cL_law 1200 = .ok (.pop, 1) := op_87 nb_dL_law_1191.2.2.2.2.2.1
theorem dL_law_1201 : decode cL_law 1201 = .ok (.aload_n 2, 1) := op_44 nb_dL_law_1191.2.2.2.2.2.2.1
theorem dL_law_1202 : decode cL_law 1202 = .ok (.aload_n 0, 1) := op_42 nb_dL_law_1191.2.2.2.2.2.2.2.1
theorem dL_law_1203 : decode cL_law 1203 = .ok (.iload_n 3, 1) := op_29 nb_dL_law_1191.2.2.2.2.2.2.2.2.1
theorem dL_law_1204 : decode cL_law 1204 = .ok (.iconst 1, 1) := op_4 nb_dL_law_1191.2.2.2.2.2.2.2.2.2.1
theorem dL_law_1205 : decode cL_law 1205 = .ok (.iadd, 1) := op_96 nb_dL_law_1191.2.2.2.2.2.2.2.2.2.2.1
theorem dL_law_1206 : decode cL_law 1206 = .ok (.iaload, 1) := op_46 nb_dL_law_1191.2.2.2.2.2.2.2.2.2.2.2.1
theorem nb_dL_law_1207 : bls_w cL_law [(1207, [42]), (1208, [29]), (1209, [5]), (1210, [96]), (1211, [46]), (1212, [42]), (1213, [29]), (1214, [6]), (1215, [96]), (1216, [46]), (1217, [133]), (1218, [16, 32])] := bls_of (by decide +kernel)
theorem dL_law_1207 : decode cL_law 1207 = .ok (.aload_n 0, 1) := op_42 nb_dL_law_1207.1
theorem dL_law_1208 : decode cL_law 1208 = .ok (.iload_n 3, 1) := op_29 nb_dL_law_1207.2.1
theorem dL_law_1209 : decode cL_law 1209 = .ok (.iconst 2, 1) := op_5 nb_dL_law_1207.2.2.1
theorem dL_law_1210 : decode cL_law 1210 = .ok (.iadd, 1) := op_96 nb_dL_law_1207.2.2.2.1
theorem dL_law_1211 : decode cL_law 1211 = .ok (.iaload, 1) := op_46 nb_dL_law_1207.2.2.2.2.1
theorem dL_law_1212 : decode cL_law 1212 = .ok (.aload_n 0, 1) := op_42 nb_dL_law_1207.2.2.2.2.2.1
theorem dL_law_1213 : decode cL_law 1213 = .ok (.iload_n 3, 1) := op_29 nb_dL_law_1207.2.2.2.2.2.2.1
theorem dL_law_1214 : decode cL_law 1214 = .ok (.iconst 3, 1) := op_6 nb_dL_law_1207.2.2.2.2.2.2.2.1
theorem dL_law_1215 : decode cL_law 1215 = .ok (.iadd, 1) := op_96 nb_dL_law_1207.2.2.2.2.2.2.2.2.1
theorem dL_law_1216 : decode cL_law 1216 = .ok (.iaload, 1) := op_46 nb_dL_law_1207.2.2.2.2.2.2.2.2.2.1
theorem dL_law_1217 : decode cL_law 1217 = .ok (.i2l, 1) := op_133 nb_dL_law_1207.2.2.2.2.2.2.2.2.2.2.1
set_option maxRecDepth 100000 in
theorem dL_law_1218 : decode cL_law 1218 = .ok (.bipush 32, 2) := (op_16 nb_dL_law_1207.2.2.2.2.2.2.2.2.2.2.2.1).trans rfl
theorem nb_dL_law_1220 : bls_w cL_law [(1220, [121]), (1221, [42]), (1222, [29]), (1223, [7]), (1224, [96]), (1225, [46]), (1226, [133]), (1227, [20, 0, 153]), (1230, [127]), (1231, [129]), (1232, [182, 0, 159]), (1235, [87])] := bls_of (by decide +kernel)
theorem dL_law_1220 : decode cL_law 1220 = .ok (.lshl, 1) := op_121 nb_dL_law_1220.1
theorem dL_law_1221 : decode cL_law 1221 = .ok (.aload_n 0, 1) := op_42 nb_dL_law_1220.2.1
theorem dL_law_1222 : decode cL_law 1222 = .ok (.iload_n 3, 1) := op_29 nb_dL_law_1220.2.2.1
theorem dL_law_1223 : decode cL_law 1223 = .ok (.iconst 4, 1) := op_7 nb_dL_law_1220.2.2.2.1
theorem dL_law_1224 : decode cL_law 1224 = .ok (.iadd, 1) := op_96 nb_dL_law_1220.2.2.2.2.1
theorem dL_law_1225 : decode cL_law 1225 = .ok (.iaload, 1) := op_46 nb_dL_law_1220.2.2.2.2.2.1
theorem dL_law_1226 : decode cL_law 1226 = .ok (.i2l, 1) := op_133 nb_dL_law_1220.2.2.2.2.2.2.1
set_option maxRecDepth 100000 in
theorem dL_law_1227 : decode cL_law 1227 = .ok (.ldc2_w 153, 3) := (op_20 nb_dL_law_1220.2.2.2.2.2.2.2.1).trans rfl
theorem dL_law_1230 : decode cL_law 1230 = .ok (.land, 1) := op_127 nb_dL_law_1220.2.2.2.2.2.2.2.2.1
theorem dL_law_1231 : decode cL_law 1231 = .ok (.lor, 1) := op_129 nb_dL_law_1220.2.2.2.2.2.2.2.2.2.1
set_option maxRecDepth 100000 in
theorem dL_law_1232 : decode cL_law 1232 = .ok (.invokevirtual 159, 3) := (op_182 nb_dL_law_1220.2.2.2.2.2.2.2.2.2.2.1).trans rfl
theorem dL_law_1235 : decode cL_law 1235 = .ok (.pop, 1) := op_87 nb_dL_law_1220.2.2.2.2.2.2.2.2.2.2.2.1
theorem nb_dL_law_1236 : bls_w cL_law [(1236, [167, 0, 155]), (1239, [43]), (1240, [42]), (1241, [29]), (1242, [4]), (1243, [96]), (1244, [46]), (1245, [42]), (1246, [29]), (1247, [5]), (1248, [96]), (1249, [46])] := bls_of (by decide +kernel)
set_option maxRecDepth 100000 in
theorem dL_law_1236 : decode cL_law 1236 = .ok (.goto 155, 3) := (op_167 nb_dL_law_1236.1).trans rfl
theorem dL_law_1239 : decode cL_law 1239 = .ok (.aload_n 1, 1) := op_43 nb_dL_law_1236.2.1
theorem dL_law_1240 : decode cL_law 1240 = .ok (.aload_n 0, 1) := op_42 nb_dL_law_1236.2.2.1
theorem dL_law_1241 : decode cL_law 1241 = .ok (.iload_n 3, 1) := op_29 nb_dL_law_1236.2.2.2.1
theorem dL_law_1242 : decode cL_law 1242 = .ok (.iconst 1, 1) := op_4 nb_dL_law_1236.2.2.2.2.1
theorem dL_law_1243 : decode cL_law 1243 = .ok (.iadd, 1) := op_96 nb_dL_law_1236.2.2.2.2.2.1
theorem dL_law_1244 : decode cL_law 1244 = .ok (.iaload, 1) := op_46 nb_dL_law_1236.2.2.2.2.2.2.1
theorem dL_law_1245 : decode cL_law 1245 = .ok (.aload_n 0, 1) := op_42 nb_dL_law_1236.2.2.2.2.2.2.2.1
theorem dL_law_1246 : decode cL_law 1246 = .ok (.iload_n 3, 1) := op_29 nb_dL_law_1236.2.2.2.2.2.2.2.2.1
theorem dL_law_1247 : decode cL_law 1247 = .ok (.iconst 2, 1) := op_5 nb_dL_law_1236.2.2.2.2.2.2.2.2.2.1
theorem dL_law_1248 : decode cL_law 1248 = .ok (.iadd, 1) := op_96 nb_dL_law_1236.2.2.2.2.2.2.2.2.2.2.1
theorem dL_law_1249 : decode cL_law 1249 = .ok (.iaload, 1) := op_46 nb_dL_law_1236.2.2.2.2.2.2.2.2.2.2.2.1
theorem nb_dL_law_1250 : bls_w cL_law [(1250, [182, 0, 160]), (1253, [88]), (1254, [44]), (1255, [42]), (1256, [29]), (1257, [4]), (1258, [96]), (1259, [46]), (1260, [42]), (1261, [29]), (1262, [5]), (1263, [96])] := bls_of (by decide +kernel)
set_option maxRecDepth 100000 in
theorem dL_law_1250 : decode cL_law 1250 = .ok (.invokevirtual 160, 3) := (op_182 nb_dL_law_1250.1).trans rfl
theorem dL_law_1253 : decode cL_law 1253 = .ok (.pop2, 1) := op_88 nb_dL_law_1250.2.1
theorem dL_law_1254 : decode cL_law 1254 = .ok (.aload_n 2, 1) := op_44 nb_dL_law_1250.2.2.1
theorem dL_law_1255 : decode cL_law 1255 = .ok (.aload_n 0, 1) := op_42 nb_dL_law_1250.2.2.2.1
theorem dL_law_1256 : decode cL_law 1256 = .ok (.iload_n 3, 1) := op_29 nb_dL_law_1250.2.2.2.2.1
theorem dL_law_1257 : decode cL_law 1257 = .ok (.iconst 1, 1) := op_4 nb_dL_law_1250.2.2.2.2.2.1
theorem dL_law_1258 : decode cL_law 1258 = .ok (.iadd, 1) := op_96 nb_dL_law_1250.2.2.2.2.2.2.1
theorem dL_law_1259 : decode cL_law 1259 = .ok (.iaload, 1) := op_46 nb_dL_law_1250.2.2.2.2.2.2.2.1
theorem dL_law_1260 : decode cL_law 1260 = .ok (.aload_n 0, 1) := op_42 nb_dL_law_1250.2.2.2.2.2.2.2.2.1
theorem dL_law_1261 : decode cL_law 1261 = .ok (.iload_n 3, 1) := op_29 nb_dL_law_1250.2.2.2.2.2.2.2.2.2.1
theorem dL_law_1262 : decode cL_law 1262 = .ok (.iconst 2, 1) := op_5 nb_dL_law_1250.2.2.2.2.2.2.2.2.2.2.1
theorem dL_law_1263 : decode cL_law 1263 = .ok (.iadd, 1) := op_96 nb_dL_law_1250.2.2.2.2.2.2.2.2.2.2.2.1
theorem nb_dL_law_1264 : bls_w cL_law [(1264, [46]), (1265, [182, 0, 164]), (1268, [88]), (1269, [167, 0, 122]), (1272, [43]), (1273, [42]), (1274, [29]), (1275, [4]), (1276, [96]), (1277, [46]), (1278, [42]), (1279, [29])] := bls_of (by decide +kernel)
theorem dL_law_1264 : decode cL_law 1264 = .ok (.iaload, 1) := op_46 nb_dL_law_1264.1
set_option maxRecDepth 100000 in
theorem dL_law_1265 : decode cL_law 1265 = .ok (.invokevirtual 164, 3) := (op_182 nb_dL_law_1264.2.1).trans rfl
theorem dL_law_1268 : decode cL_law 1268 = .ok (.pop2, 1) := op_88 nb_dL_law_1264.2.2.1
set_option maxRecDepth 100000 in
theorem dL_law_1269 : decode cL_law 1269 = .ok (.goto 122, 3) := (op_167 nb_dL_law_1264.2.2.2.1).trans rfl
theorem dL_law_1272 : decode cL_law 1272 = .ok (.aload_n 1, 1) := op_43 nb_dL_law_1264.2.2.2.2.1
theorem dL_law_1273 : decode cL_law 1273 = .ok (.aload_n 0, 1) := op_42 nb_dL_law_1264.2.2.2.2.2.1
theorem dL_law_1274 : decode cL_law 1274 = .ok (.iload_n 3, 1) := op_29 nb_dL_law_1264.2.2.2.2.2.2.1
theorem dL_law_1275 : decode cL_law 1275 = .ok (.iconst 1, 1) := op_4 nb_dL_law_1264.2.2.2.2.2.2.2.1
theorem dL_law_1276 : decode cL_law 1276 = .ok (.iadd, 1) := op_96 nb_dL_law_1264.2.2.2.2.2.2.2.2.1
theorem dL_law_1277 : decode cL_law 1277 = .ok (.iaload, 1) := op_46 nb_dL_law_1264.2.2.2.2.2.2.2.2.2.1
theorem dL_law_1278 : decode cL_law 1278 = .ok (.aload_n 0, 1) := op_42 nb_dL_law_1264.2.2.2.2.2.2.2.2.2.2.1
theorem dL_law_1279 : decode cL_law 1279 = .ok (.iload_n 3, 1) := op_29 nb_dL_law_1264.2.2.2.2.2.2.2.2.2.2.2.1
theorem nb_dL_law_1280 : bls_w cL_law [(1280, [5]), (1281, [96]), (1282, [46]), (1283, [42]), (1284, [29]), (1285, [6]), (1286, [96]), (1287, [46]), (1288, [42]), (1289, [29]), (1290, [7]), (1291, [96])] := bls_of (by decide +kernel)
theorem dL_law_1280 : decode cL_law 1280 = .ok (.iconst 2, 1) := op_5 nb_dL_law_1280.1
theorem dL_law_1281 : decode cL_law 1281 = .ok (.iadd, 1) := op_96 nb_dL_law_1280.2.1
theorem dL_law_1282 : decode cL_law 1282 = .ok (.iaload, 1) := op_46 nb_dL_law_1280.2.2.1
theorem dL_law_1283 : decode cL_law 1283 = .ok (.aload_n 0, 1) := op_42 nb_dL_law_1280.2.2.2.1
theorem dL_law_1284 : decode cL_law 1284 = .ok (.iload_n 3, 1) := op_29 nb_dL_law_1280.2.2.2.2.1
theorem dL_law_1285 : decode cL_law 1285 = .ok (.iconst 3, 1) := op_6 nb_dL_law_1280.2.2.2.2.2.1
theorem dL_law_1286 : decode cL_law 1286 = .ok (.iadd, 1) := op_96 nb_dL_law_1280.2.2.2.2.2.2.1
theorem dL_law_1287 : decode cL_law 1287 = .ok (.iaload, 1) := op_46 nb_dL_law_1280.2.2.2.2.2.2.2.1
theorem dL_law_1288 : decode cL_law 1288 = .ok (.aload_n 0, 1) := op_42 nb_dL_law_1280.2.2.2.2.2.2.2.2.1
theorem dL_law_1289 : decode cL_law 1289 = .ok (.iload_n 3, 1) := op_29 nb_dL_law_1280.2.2.2.2.2.2.2.2.2.1
theorem dL_law_1290 : decode cL_law 1290 = .ok (.iconst 4, 1) := op_7 nb_dL_law_1280.2.2.2.2.2.2.2.2.2.2.1
theorem dL_law_1291 : decode cL_law 1291 = .ok (.iadd, 1) := op_96 nb_dL_law_1280.2.2.2.2.2.2.2.2.2.2.2.1
theorem nb_dL_law_1292 : bls_w cL_law [(1292, [46]), (1293, [42]), (1294, [29]), (1295, [8]), (1296, [96]), (1297, [46]), (1298, [182, 0, 165]), (1301, [87]), (1302, [44]), (1303, [42]), (1304, [29]), (1305, [4])] := bls_of (by decide +kernel)
theorem dL_law_1292 : decode cL_law 1292 = .ok (.iaload, 1) := op_46 nb_dL_law_1292.1
theorem dL_law_1293 : decode cL_law 1293 = .ok (.aload_n 0, 1) := op_42 nb_dL_law_1292.2.1
theorem dL_law_1294 : decode cL_law 1294 = .ok (.iload_n 3, 1) := op_29 nb_dL_law_1292.2.2.1
theorem dL_law_1295 : decode cL_law 1295 = .ok (.iconst 5, 1) := op_8 nb_dL_law_1292.2.2.2.1
theorem dL_law_1296 : decode cL_law 1296 = .ok (.iadd, 1) := op_96 nb_dL_law_1292.2.2.2.2.1
theorem dL_law_1297 : decode cL_law 1297 = .ok (.iaload, 1) := op_46 nb_dL_law_1292.2.2.2.2.2.1
set_option maxRecDepth 100000 in
theorem dL_law_1298 : decode cL_law 1298 = .ok (.invokevirtual 165, 3) := (op_182 nb_dL_law_1292.2.2.2.2.2.2.1).trans rfl
theorem dL_law_1301 : decode cL_law 1301 = .ok (.pop, 1) := op_87 nb_dL_law_1292.2.2.2.2.2.2.2.1
theorem dL_law_1302 : decode cL_law 1302 = .ok (.aload_n 2, 1) := op_44 nb_dL_law_1292.2.2.2.2.2.2.2.2.1
theorem dL_law_1303 : decode cL_law 1303 = .ok (.aload_n 0, 1) := op_42 nb_dL_law_1292.2.2.2.2.2.2.2.2.2.1
theorem dL_law_1304 : decode cL_law 1304 = .ok (.iload_n 3, 1) := op_29 nb_dL_law_1292.2.2.2.2.2.2.2.2.2.2.1
theorem dL_law_1305 : decode cL_law 1305 = .ok (.iconst 1, 1) := op_4 nb_dL_law_1292.2.2.2.2.2.2.2.2.2.2.2.1
theorem nb_dL_law_1306 : bls_w cL_law [(1306, [96]), (1307, [46]), (1308, [42]), (1309, [29]), (1310, [5]), (1311, [96]), (1312, [46]), (1313, [42]), (1314, [29]), (1315, [6]), (1316, [96]), (1317, [46])] := bls_of (by decide +kernel)
theorem dL_law_1306 : decode cL_law 1306 = .ok (.iadd, 1) := op_96 nb_dL_law_1306.1
theorem dL_law_1307 : decode cL_law 1307 = .ok (.iaload, 1) := op_46 nb_dL_law_1306.2.1
theorem dL_law_1308 : decode cL_law 1308 = .ok (.aload_n 0, 1) := op_42 nb_dL_law_1306.2.2.1
theorem dL_law_1309 : decode cL_law 1309 = .ok (.iload_n 3, 1) := op_29 nb_dL_law_1306.2.2.2.1
theorem dL_law_1310 : decode cL_law 1310 = .ok (.iconst 2, 1) := op_5 nb_dL_law_1306.2.2.2.2.1
theorem dL_law_1311 : decode cL_law 1311 = .ok (.iadd, 1) := op_96 nb_dL_law_1306.2.2.2.2.2.1
theorem dL_law_1312 : decode cL_law 1312 = .ok (.iaload, 1) := op_46 nb_dL_law_1306.2.2.2.2.2.2.1
theorem dL_law_1313 : decode cL_law 1313 = .ok (.aload_n 0, 1) := op_42 nb_dL_law_1306.2.2.2.2.2.2.2.1
theorem dL_law_1314 : decode cL_law 1314 = .ok (.iload_n 3, 1) := op_29 nb_dL_law_1306.2.2.2.2.2.2.2.2.1
theorem dL_law_1315 : decode cL_law 1315 = .ok (.iconst 3, 1) := op_6 nb_dL_law_1306.2.2.2.2.2.2.2.2.2.1
theorem dL_law_1316 : decode cL_law 1316 = .ok (.iadd, 1) := op_96 nb_dL_law_1306.2.2.2.2.2.2.2.2.2.2.1
theorem dL_law_1317 : decode cL_law 1317 = .ok (.iaload, 1) := op_46 nb_dL_law_1306.2.2.2.2.2.2.2.2.2.2.2.1
theorem nb_dL_law_1318 : bls_w cL_law [(1318, [42]), (1319, [29]), (1320, [7]), (1321, [96]), (1322, [46]), (1323, [42]), (1324, [29]), (1325, [8]), (1326, [96]), (1327, [46]), (1328, [182, 0, 169]), (1331, [87])] := bls_of (by decide +kernel)
theorem dL_law_1318 : decode cL_law 1318 = .ok (.aload_n 0, 1) := op_42 nb_dL_law_1318.1
theorem dL_law_1319 : decode cL_law 1319 = .ok (.iload_n 3, 1) := op_29 nb_dL_law_1318.2.1
theorem dL_law_1320 : decode cL_law 1320 = .ok (.iconst 4, 1) := op_7 nb_dL_law_1318.2.2.1
theorem dL_law_1321 : decode cL_law 1321 = .ok (.iadd, 1) := op_96 nb_dL_law_1318.2.2.2.1
theorem dL_law_1322 : decode cL_law 1322 = .ok (.iaload, 1) := op_46 nb_dL_law_1318.2.2.2.2.1
theorem dL_law_1323 : decode cL_law 1323 = .ok (.aload_n 0, 1) := op_42 nb_dL_law_1318.2.2.2.2.2.1
theorem dL_law_1324 : decode cL_law 1324 = .ok (.iload_n 3, 1) := op_29 nb_dL_law_1318.2.2.2.2.2.2.1
theorem dL_law_1325 : decode cL_law 1325 = .ok (.iconst 5, 1) := op_8 nb_dL_law_1318.2.2.2.2.2.2.2.1
theorem dL_law_1326 : decode cL_law 1326 = .ok (.iadd, 1) := op_96 nb_dL_law_1318.2.2.2.2.2.2.2.2.1
theorem dL_law_1327 : decode cL_law 1327 = .ok (.iaload, 1) := op_46 nb_dL_law_1318.2.2.2.2.2.2.2.2.2.1
set_option maxRecDepth 100000 in
theorem dL_law_1328 : decode cL_law 1328 = .ok (.invokevirtual 169, 3) := (op_182 nb_dL_law_1318.2.2.2.2.2.2.2.2.2.2.1).trans rfl
theorem dL_law_1331 : decode cL_law 1331 = .ok (.pop, 1) := op_87 nb_dL_law_1318.2.2.2.2.2.2.2.2.2.2.2.1
theorem nb_dL_law_1332 : bls_w cL_law [(1332, [167, 0, 59]), (1335, [43]), (1336, [42]), (1337, [29]), (1338, [4]), (1339, [96]), (1340, [46]), (1341, [42]), (1342, [29]), (1343, [5]), (1344, [96]), (1345, [46])] := bls_of (by decide +kernel)
set_option maxRecDepth 100000 in
theorem dL_law_1332 : decode cL_law 1332 = .ok (.goto 59, 3) := (op_167 nb_dL_law_1332.1).trans rfl
theorem dL_law_1335 : decode cL_law 1335 = .ok (.aload_n 1, 1) := op_43 nb_dL_law_1332.2.1
theorem dL_law_1336 : decode cL_law 1336 = .ok (.aload_n 0, 1) := op_42 nb_dL_law_1332.2.2.1
theorem dL_law_1337 : decode cL_law 1337 = .ok (.iload_n 3, 1) := op_29 nb_dL_law_1332.2.2.2.1
theorem dL_law_1338 : decode cL_law 1338 = .ok (.iconst 1, 1) := op_4 nb_dL_law_1332.2.2.2.2.1
theorem dL_law_1339 : decode cL_law 1339 = .ok (.iadd, 1) := op_96 nb_dL_law_1332.2.2.2.2.2.1
theorem dL_law_1340 : decode cL_law 1340 = .ok (.iaload, 1) := op_46 nb_dL_law_1332.2.2.2.2.2.2.1
theorem dL_law_1341 : decode cL_law 1341 = .ok (.aload_n 0, 1) := op_42 nb_dL_law_1332.2.2.2.2.2.2.2.1
theorem dL_law_1342 : decode cL_law 1342 = .ok (.iload_n 3, 1) := op_29 nb_dL_law_1332.2.2.2.2.2.2.2.2.1
theorem dL_law_1343 : decode cL_law 1343 = .ok (.iconst 2, 1) := op_5 nb_dL_law_1332.2.2.2.2.2.2.2.2.2.1
theorem dL_law_1344 : decode cL_law 1344 = .ok (.iadd, 1) := op_96 nb_dL_law_1332.2.2.2.2.2.2.2.2.2.2.1
theorem dL_law_1345 : decode cL_law 1345 = .ok (.iaload, 1) := op_46 nb_dL_law_1332.2.2.2.2.2.2.2.2.2.2.2.1
theorem nb_dL_law_1346 : bls_w cL_law [(1346, [182, 0, 170]), (1349, [87]), (1350, [44]), (1351, [42]), (1352, [29]), (1353, [4]), (1354, [96]), (1355, [46]), (1356, [42]), (1357, [29]), (1358, [5]), (1359, [96])] := bls_of (by decide +kernel)
set_option maxRecDepth 100000 in
theorem dL_law_1346 : decode cL_law 1346 = .ok (.invokevirtual 170, 3) := (op_182 nb_dL_law_1346.1).trans rfl
theorem dL_law_1349 : decode cL_law 1349 = .ok (.pop, 1) := op_87 nb_dL_law_1346.2.1
theorem dL_law_1350 : decode cL_law 1350 = .ok (.aload_n 2, 1) := op_44 nb_dL_law_1346.2.2.1
theorem dL_law_1351 : decode cL_law 1351 = .ok (.aload_n 0, 1) := op_42 nb_dL_law_1346.2.2.2.1
theorem dL_law_1352 : decode cL_law 1352 = .ok (.iload_n 3, 1) := op_29 nb_dL_law_1346.2.2.2.2.1
theorem dL_law_1353 : decode cL_law 1353 = .ok (.iconst 1, 1) := op_4 nb_dL_law_1346.2.2.2.2.2.1
theorem dL_law_1354 : decode cL_law 1354 = .ok (.iadd, 1) := op_96 nb_dL_law_1346.2.2.2.2.2.2.1
theorem dL_law_1355 : decode cL_law 1355 = .ok (.iaload, 1) := op_46 nb_dL_law_1346.2.2.2.2.2.2.2.1
theorem dL_law_1356 : decode cL_law 1356 = .ok (.aload_n 0, 1) := op_42 nb_dL_law_1346.2.2.2.2.2.2.2.2.1
theorem dL_law_1357 : decode cL_law 1357 = .ok (.iload_n 3, 1) := op_29 nb_dL_law_1346.2.2.2.2.2.2.2.2.2.1
theorem dL_law_1358 : decode cL_law 1358 = .ok (.iconst 2, 1) := op_5 nb_dL_law_1346.2.2.2.2.2.2.2.2.2.2.1
theorem dL_law_1359 : decode cL_law 1359 = .ok (.iadd, 1) := op_96 nb_dL_law_1346.2.2.2.2.2.2.2.2.2.2.2.1
theorem nb_dL_law_1360 : bls_w cL_law [(1360, [46]), (1361, [182, 0, 173]), (1364, [87]), (1365, [167, 0, 26]), (1368, [43]), (1369, [42]), (1370, [29]), (1371, [4]), (1372, [96]), (1373, [46]), (1374, [182, 0, 174]), (1377, [87])] := bls_of (by decide +kernel)
theorem dL_law_1360 : decode cL_law 1360 = .ok (.iaload, 1) := op_46 nb_dL_law_1360.1
set_option maxRecDepth 100000 in
theorem dL_law_1361 : decode cL_law 1361 = .ok (.invokevirtual 173, 3) := (op_182 nb_dL_law_1360.2.1).trans rfl
theorem dL_law_1364 : decode cL_law 1364 = .ok (.pop, 1) := op_87 nb_dL_law_1360.2.2.1
set_option maxRecDepth 100000 in
theorem dL_law_1365 : decode cL_law 1365 = .ok (.goto 26, 3) := (op_167 nb_dL_law_1360.2.2.2.1).trans rfl
theorem dL_law_1368 : decode cL_law 1368 = .ok (.aload_n 1, 1) := op_43 nb_dL_law_1360.2.2.2.2.1
theorem dL_law_1369 : decode cL_law 1369 = .ok (.aload_n 0, 1) := op_42 nb_dL_law_1360.2.2.2.2.2.1
theorem dL_law_1370 : decode cL_law 1370 = .ok (.iload_n 3, 1) := op_29 nb_dL_law_1360.2.2.2.2.2.2.1
theorem dL_law_1371 : decode cL_law 1371 = .ok (.iconst 1, 1) := op_4 nb_dL_law_1360.2.2.2.2.2.2.2.1
theorem dL_law_1372 : decode cL_law 1372 = .ok (.iadd, 1) := op_96 nb_dL_law_1360.2.2.2.2.2.2.2.2.1
theorem dL_law_1373 : decode cL_law 1373 = .ok (.iaload, 1) := op_46 nb_dL_law_1360.2.2.2.2.2.2.2.2.2.1
set_option maxRecDepth 100000 in
theorem dL_law_1374 : decode cL_law 1374 = .ok (.invokevirtual 174, 3) := (op_182 nb_dL_law_1360.2.2.2.2.2.2.2.2.2.2.1).trans rfl
theorem dL_law_1377 : decode cL_law 1377 = .ok (.pop, 1) := op_87 nb_dL_law_1360.2.2.2.2.2.2.2.2.2.2.2.1
theorem nb_dL_law_1378 : bls_w cL_law [(1378, [44]), (1379, [42]), (1380, [29]), (1381, [4]), (1382, [96]), (1383, [46]), (1384, [182, 0, 177]), (1387, [87]), (1388, [167, 0, 3]), (1391, [132, 3, 6]), (1394, [167, 250, 160]), (1397, [4])] := bls_of (by decide +kernel)
theorem dL_law_1378 : decode cL_law 1378 = .ok (.aload_n 2, 1) := op_44 nb_dL_law_1378.1
theorem dL_law_1379 : decode cL_law 1379 = .ok (.aload_n 0, 1) := op_42 nb_dL_law_1378.2.1
theorem dL_law_1380 : decode cL_law 1380 = .ok (.iload_n 3, 1) := op_29 nb_dL_law_1378.2.2.1
theorem dL_law_1381 : decode cL_law 1381 = .ok (.iconst 1, 1) := op_4 nb_dL_law_1378.2.2.2.1
theorem dL_law_1382 : decode cL_law 1382 = .ok (.iadd, 1) := op_96 nb_dL_law_1378.2.2.2.2.1
theorem dL_law_1383 : decode cL_law 1383 = .ok (.iaload, 1) := op_46 nb_dL_law_1378.2.2.2.2.2.1
set_option maxRecDepth 100000 in
theorem dL_law_1384 : decode cL_law 1384 = .ok (.invokevirtual 177, 3) := (op_182 nb_dL_law_1378.2.2.2.2.2.2.1).trans rfl
theorem dL_law_1387 : decode cL_law 1387 = .ok (.pop, 1) := op_87 nb_dL_law_1378.2.2.2.2.2.2.2.1
set_option maxRecDepth 100000 in
theorem dL_law_1388 : decode cL_law 1388 = .ok (.goto 3, 3) := (op_167 nb_dL_law_1378.2.2.2.2.2.2.2.2.1).trans rfl
set_option maxRecDepth 100000 in
theorem dL_law_1391 : decode cL_law 1391 = .ok (.iinc 3 6, 3) := (op_132 nb_dL_law_1378.2.2.2.2.2.2.2.2.2.1).trans rfl
set_option maxRecDepth 100000 in
theorem dL_law_1394 : decode cL_law 1394 = .ok (.goto (-1376), 3) := (op_167 nb_dL_law_1378.2.2.2.2.2.2.2.2.2.2.1).trans rfl
theorem dL_law_1397 : decode cL_law 1397 = .ok (.iconst 1, 1) := op_4 nb_dL_law_1378.2.2.2.2.2.2.2.2.2.2.2.1
theorem nb_dL_law_1398 : bls_w cL_law [(1398, [172])] := bls_of (by decide +kernel)
theorem dL_law_1398 : decode cL_law 1398 = .ok (.ireturn, 1) := op_172 nb_dL_law_1398.1
