theorem dL_law_1000 : decode cL_law 1000 = .ok (.aload_n 0, 1) := k42 hC_cL_law rfl
theorem dL_law_1001 : decode cL_law 1001 = .ok (.iload_n 3, 1) := k29 hC_cL_law rfl
theorem dL_law_1002 : decode cL_law 1002 = .ok (.iconst 1, 1) := k4 hC_cL_law rfl
theorem dL_law_1003 : decode cL_law 1003 = .ok (.iadd, 1) := k96 hC_cL_law rfl
theorem dL_law_1004 : decode cL_law 1004 = .ok (.iaload, 1) := k46 hC_cL_law rfl
theorem dL_law_1005 : decode cL_law 1005 = .ok (.invokevirtual 106, 3) := k182 (y := 0) (z := 106) hC_cL_law rfl rfl
theorem dL_law_1008 : decode cL_law 1008 = .ok (.pop, 1) := k87 hC_cL_law rfl
theorem dL_law_1009 : decode cL_law 1009 = .ok (.aload_n 2, 1) := k44 hC_cL_law rfl
theorem dL_law_1010 : decode cL_law 1010 = .ok (.aload_n 0, 1) := k42 hC_cL_law rfl
theorem dL_law_1011 : decode cL_law 1011 = .ok (.iload_n 3, 1) := k29 hC_cL_law rfl
theorem dL_law_1012 : decode cL_law 1012 = .ok (.iconst 1, 1) := k4 hC_cL_law rfl
theorem dL_law_1013 : decode cL_law 1013 = .ok (.iadd, 1) := k96 hC_cL_law rfl
theorem dL_law_1014 : decode cL_law 1014 = .ok (.iaload, 1) := k46 hC_cL_law rfl
theorem dL_law_1015 : decode cL_law 1015 = .ok (.invokevirtual 109, 3) := k182 (y := 0) (z := 109) hC_cL_law rfl rfl
theorem dL_law_1018 : decode cL_law 1018 = .ok (.pop, 1) := k87 hC_cL_law rfl
theorem dL_law_1019 : decode cL_law 1019 = .ok (.goto 550, 3) := k167 (y := 2) (z := 38) hC_cL_law rfl rfl
theorem dL_law_1022 : decode cL_law 1022 = .ok (.aload_n 1, 1) := k43 hC_cL_law rfl
theorem dL_law_1023 : decode cL_law 1023 = .ok (.aload_n 0, 1) := k42 hC_cL_law rfl
theorem dL_law_1024 : decode cL_law 1024 = .ok (.iload_n 3, 1) := k29 hC_cL_law rfl
theorem dL_law_1025 : decode cL_law 1025 = .ok (.iconst 1, 1) := k4 hC_cL_law rfl
theorem dL_law_1026 : decode cL_law 1026 = .ok (.iadd, 1) := k96 hC_cL_law rfl
theorem dL_law_1027 : decode cL_law 1027 = .ok (.iaload, 1) := k46 hC_cL_law rfl
theorem dL_law_1028 : decode cL_law 1028 = .ok (.aload_n 0, 1) := k42 hC_cL_law rfl
theorem dL_law_1029 : decode cL_law 1029 = .ok (.iload_n 3, 1) := k29 hC_cL_law rfl
theorem dL_law_1030 : decode cL_law 1030 = .ok (.iconst 2, 1) := k5 hC_cL_law rfl
theorem dL_law_1031 : decode cL_law 1031 = .ok (.iadd, 1) := k96 hC_cL_law rfl
theorem dL_law_1032 : decode cL_law 1032 = .ok (.iaload, 1) := k46 hC_cL_law rfl
theorem dL_law_1033 : decode cL_law 1033 = .ok (.aload_n 0, 1) := k42 hC_cL_law rfl
theorem dL_law_1034 : decode cL_law 1034 = .ok (.iload_n 3, 1) := k29 hC_cL_law rfl
theorem dL_law_1035 : decode cL_law 1035 = .ok (.iconst 3, 1) := k6 hC_cL_law rfl
theorem dL_law_1036 : decode cL_law 1036 = .ok (.iadd, 1) := k96 hC_cL_law rfl
theorem dL_law_1037 : decode cL_law 1037 = .ok (.iaload, 1) := k46 hC_cL_law rfl
theorem dL_law_1038 : decode cL_law 1038 = .ok (.invokevirtual 110, 3) := k182 (y := 0) (z := 110) hC_cL_law rfl rfl
theorem dL_law_1041 : decode cL_law 1041 = .ok (.pop, 1) := k87 hC_cL_law rfl
theorem dL_law_1042 : decode cL_law 1042 = .ok (.aload_n 2, 1) := k44 hC_cL_law rfl
theorem dL_law_1043 : decode cL_law 1043 = .ok (.aload_n 0, 1) := k42 hC_cL_law rfl
theorem dL_law_1044 : decode cL_law 1044 = .ok (.iload_n 3, 1) := k29 hC_cL_law rfl
theorem dL_law_1045 : decode cL_law 1045 = .ok (.iconst 1, 1) := k4 hC_cL_law rfl
theorem dL_law_1046 : decode cL_law 1046 = .ok (.iadd, 1) := k96 hC_cL_law rfl
theorem dL_law_1047 : decode cL_law 1047 = .ok (.iaload, 1) := k46 hC_cL_law rfl
theorem dL_law_1048 : decode cL_law 1048 = .ok (.aload_n 0, 1) := k42 hC_cL_law rfl
theorem dL_law_1049 : decode cL_law 1049 = .ok (.iload_n 3, 1) := k29 hC_cL_law rfl
theorem dL_law_1050 : decode cL_law 1050 = .ok (.iconst 2, 1) := k5 hC_cL_law rfl
theorem dL_law_1051 : decode cL_law 1051 = .ok (.iadd, 1) := k96 hC_cL_law rfl
theorem dL_law_1052 : decode cL_law 1052 = .ok (.iaload, 1) := k46 hC_cL_law rfl
theorem dL_law_1053 : decode cL_law 1053 = .ok (.aload_n 0, 1) := k42 hC_cL_law rfl
theorem dL_law_1054 : decode cL_law 1054 = .ok (.iload_n 3, 1) := k29 hC_cL_law rfl
theorem dL_law_1055 : decode cL_law 1055 = .ok (.iconst 3, 1) := k6 hC_cL_law rfl
theorem dL_law_1056 : decode cL_law 1056 = .ok (.iadd, 1) := k96 hC_cL_law rfl
theorem dL_law_1057 : decode cL_law 1057 = .ok (.iaload, 1) := k46 hC_cL_law rfl
theorem dL_law_1058 : decode cL_law 1058 = .ok (.invokevirtual 113, 3) := k182 (y := 0) (z := 113) hC_cL_law rfl rfl
theorem dL_law_1061 : decode cL_law 1061 = .ok (.pop, 1) := k87 hC_cL_law rfl
theorem dL_law_1062 : decode cL_law 1062 = .ok (.goto 507, 3) := k167 (y := 1) (z := 251) hC_cL_law rfl rfl
theorem dL_law_1065 : decode cL_law 1065 = .ok (.aload_n 1, 1) := k43 hC_cL_law rfl
theorem dL_law_1066 : decode cL_law 1066 = .ok (.aload_n 0, 1) := k42 hC_cL_law rfl
theorem dL_law_1067 : decode cL_law 1067 = .ok (.iload_n 3, 1) := k29 hC_cL_law rfl
theorem dL_law_1068 : decode cL_law 1068 = .ok (.iconst 1, 1) := k4 hC_cL_law rfl
theorem dL_law_1069 : decode cL_law 1069 = .ok (.iadd, 1) := k96 hC_cL_law rfl
theorem dL_law_1070 : decode cL_law 1070 = .ok (.iaload, 1) := k46 hC_cL_law rfl
theorem dL_law_1071 : decode cL_law 1071 = .ok (.aload_n 0, 1) := k42 hC_cL_law rfl
theorem dL_law_1072 : decode cL_law 1072 = .ok (.iload_n 3, 1) := k29 hC_cL_law rfl
theorem dL_law_1073 : decode cL_law 1073 = .ok (.iconst 2, 1) := k5 hC_cL_law rfl
theorem dL_law_1074 : decode cL_law 1074 = .ok (.iadd, 1) := k96 hC_cL_law rfl
theorem dL_law_1075 : decode cL_law 1075 = .ok (.iaload, 1) := k46 hC_cL_law rfl
theorem dL_law_1076 : decode cL_law 1076 = .ok (.aload_n 0, 1) := k42 hC_cL_law rfl
theorem dL_law_1077 : decode cL_law 1077 = .ok (.iload_n 3, 1) := k29 hC_cL_law rfl
theorem dL_law_1078 : decode cL_law 1078 = .ok (.iconst 3, 1) := k6 hC_cL_law rfl
theorem dL_law_1079 : decode cL_law 1079 = .ok (.iadd, 1) := k96 hC_cL_law rfl
theorem dL_law_1080 : decode cL_law 1080 = .ok (.iaload, 1) := k46 hC_cL_law rfl
theorem dL_law_1081 : decode cL_law 1081 = .ok (.invokevirtual 114, 3) := k182 (y := 0) (z := 114) hC_cL_law rfl rfl
theorem dL_law_1084 : decode cL_law 1084 = .ok (.pop, 1) := k87 hC_cL_law rfl
theorem dL_law_1085 : decode cL_law 1085 = .ok (.aload_n 2, 1) := k44 hC_cL_law rfl
theorem dL_law_1086 : decode cL_law 1086 = .ok (.aload_n 0, 1) := k42 hC_cL_law rfl
theorem dL_law_1087 : decode cL_law 1087 = .ok (.iload_n 3, 1) := k29 hC_cL_law rfl
theorem dL_law_1088 : decode cL_law 1088 = .ok (.iconst 1, 1) := k4 hC_cL_law rfl
theorem dL_law_1089 : decode cL_law 1089 = .ok (.iadd, 1) := k96 hC_cL_law rfl
theorem dL_law_1090 : decode cL_law 1090 = .ok (.iaload, 1) := k46 hC_cL_law rfl
theorem dL_law_1091 : decode cL_law 1091 = .ok (.aload_n 0, 1) := k42 hC_cL_law rfl
theorem dL_law_1092 : decode cL_law 1092 = .ok (.iload_n 3, 1) := k29 hC_cL_law rfl
theorem dL_law_1093 : decode cL_law 1093 = .ok (.iconst 2, 1) := k5 hC_cL_law rfl
theorem dL_law_1094 : decode cL_law 1094 = .ok (.iadd, 1) := k96 hC_cL_law rfl
theorem dL_law_1095 : decode cL_law 1095 = .ok (.iaload, 1) := k46 hC_cL_law rfl
theorem dL_law_1096 : decode cL_law 1096 = .ok (.aload_n 0, 1) := k42 hC_cL_law rfl
theorem dL_law_1097 : decode cL_law 1097 = .ok (.iload_n 3, 1) := k29 hC_cL_law rfl
theorem dL_law_1098 : decode cL_law 1098 = .ok (.iconst 3, 1) := k6 hC_cL_law rfl
theorem dL_law_1099 : decode cL_law 1099 = .ok (.iadd, 1) := k96 hC_cL_law rfl
theorem dL_law_1100 : decode cL_law 1100 = .ok (.iaload, 1) := k46 hC_cL_law rfl
theorem dL_law_1101 : decode cL_law 1101 = .ok (.invokevirtual 117, 3) := k182 (y := 0) (z := 117) hC_cL_law rfl rfl
theorem dL_law_1104 : decode cL_law 1104 = .ok (.pop, 1) := k87 hC_cL_law rfl
theorem dL_law_1105 : decode cL_law 1105 = .ok (.goto 464, 3) := k167 (y := 1) (z := 208) hC_cL_law rfl rfl
theorem dL_law_1108 : decode cL_law 1108 = .ok (.aload_n 1, 1) := k43 hC_cL_law rfl
theorem dL_law_1109 : decode cL_law 1109 = .ok (.aload_n 0, 1) := k42 hC_cL_law rfl
theorem dL_law_1110 : decode cL_law 1110 = .ok (.iload_n 3, 1) := k29 hC_cL_law rfl
theorem dL_law_1111 : decode cL_law 1111 = .ok (.iconst 1, 1) := k4 hC_cL_law rfl
theorem dL_law_1112 : decode cL_law 1112 = .ok (.iadd, 1) := k96 hC_cL_law rfl
theorem dL_law_1113 : decode cL_law 1113 = .ok (.iaload, 1) := k46 hC_cL_law rfl
theorem dL_law_1114 : decode cL_law 1114 = .ok (.aload_n 0, 1) := k42 hC_cL_law rfl
theorem dL_law_1115 : decode cL_law 1115 = .ok (.iload_n 3, 1) := k29 hC_cL_law rfl
theorem dL_law_1116 : decode cL_law 1116 = .ok (.iconst 2, 1) := k5 hC_cL_law rfl
theorem dL_law_1117 : decode cL_law 1117 = .ok (.iadd, 1) := k96 hC_cL_law rfl
theorem dL_law_1118 : decode cL_law 1118 = .ok (.iaload, 1) := k46 hC_cL_law rfl
theorem dL_law_1119 : decode cL_law 1119 = .ok (.invokevirtual 118, 3) := k182 (y := 0) (z := 118) hC_cL_law rfl rfl
theorem dL_law_1122 : decode cL_law 1122 = .ok (.pop, 1) := k87 hC_cL_law rfl
theorem dL_law_1123 : decode cL_law 1123 = .ok (.aload_n 2, 1) := k44 hC_cL_law rfl
theorem dL_law_1124 : decode cL_law 1124 = .ok (.aload_n 0, 1) := k42 hC_cL_law rfl
theorem dL_law_1125 : decode cL_law 1125 = .ok (.iload_n 3, 1) := k29 hC_cL_law rfl
theorem dL_law_1126 : decode cL_law 1126 = .ok (.iconst 1, 1) := k4 hC_cL_law rfl
theorem dL_law_1127 : decode cL_law 1127 = .ok (.iadd, 1) := k96 hC_cL_law rfl
theorem dL_law_1128 : decode cL_law 1128 = .ok (.iaload, 1) := k46 hC_cL_law rfl
theorem dL_law_1129 : decode cL_law 1129 = .ok (.aload_n 0, 1) := k42 hC_cL_law rfl
theorem dL_law_1130 : decode cL_law 1130 = .ok (.iload_n 3, 1) := k29 hC_cL_law rfl
theorem dL_law_1131 : decode cL_law 1131 = .ok (.iconst 2, 1) := k5 hC_cL_law rfl
theorem dL_law_1132 : decode cL_law 1132 = .ok (.iadd, 1) := k96 hC_cL_law rfl
theorem dL_law_1133 : decode cL_law 1133 = .ok (.iaload, 1) := k46 hC_cL_law rfl
theorem dL_law_1134 : decode cL_law 1134 = .ok (.invokevirtual 121, 3) := k182 (y := 0) (z := 121) hC_cL_law rfl rfl
theorem dL_law_1137 : decode cL_law 1137 = .ok (.pop, 1) := k87 hC_cL_law rfl
theorem dL_law_1138 : decode cL_law 1138 = .ok (.goto 431, 3) := k167 (y := 1) (z := 175) hC_cL_law rfl rfl
theorem dL_law_1141 : decode cL_law 1141 = .ok (.aload_n 1, 1) := k43 hC_cL_law rfl
theorem dL_law_1142 : decode cL_law 1142 = .ok (.aload_n 0, 1) := k42 hC_cL_law rfl
theorem dL_law_1143 : decode cL_law 1143 = .ok (.iload_n 3, 1) := k29 hC_cL_law rfl
theorem dL_law_1144 : decode cL_law 1144 = .ok (.iconst 1, 1) := k4 hC_cL_law rfl
theorem dL_law_1145 : decode cL_law 1145 = .ok (.iadd, 1) := k96 hC_cL_law rfl
theorem dL_law_1146 : decode cL_law 1146 = .ok (.iaload, 1) := k46 hC_cL_law rfl
theorem dL_law_1147 : decode cL_law 1147 = .ok (.aload_n 0, 1) := k42 hC_cL_law rfl
theorem dL_law_1148 : decode cL_law 1148 = .ok (.iload_n 3, 1) := k29 hC_cL_law rfl
theorem dL_law_1149 : decode cL_law 1149 = .ok (.iconst 2, 1) := k5 hC_cL_law rfl
theorem dL_law_1150 : decode cL_law 1150 = .ok (.iadd, 1) := k96 hC_cL_law rfl
theorem dL_law_1151 : decode cL_law 1151 = .ok (.iaload, 1) := k46 hC_cL_law rfl
theorem dL_law_1152 : decode cL_law 1152 = .ok (.invokevirtual 122, 3) := k182 (y := 0) (z := 122) hC_cL_law rfl rfl
theorem dL_law_1155 : decode cL_law 1155 = .ok (.pop, 1) := k87 hC_cL_law rfl
theorem dL_law_1156 : decode cL_law 1156 = .ok (.aload_n 2, 1) := k44 hC_cL_law rfl
theorem dL_law_1157 : decode cL_law 1157 = .ok (.aload_n 0, 1) := k42 hC_cL_law rfl
theorem dL_law_1158 : decode cL_law 1158 = .ok (.iload_n 3, 1) := k29 hC_cL_law rfl
theorem dL_law_1159 : decode cL_law 1159 = .ok (.iconst 1, 1) := k4 hC_cL_law rfl
theorem dL_law_1160 : decode cL_law 1160 = .ok (.iadd, 1) := k96 hC_cL_law rfl
theorem dL_law_1161 : decode cL_law 1161 = .ok (.iaload, 1) := k46 hC_cL_law rfl
theorem dL_law_1162 : decode cL_law 1162 = .ok (.aload_n 0, 1) := k42 hC_cL_law rfl
theorem dL_law_1163 : decode cL_law 1163 = .ok (.iload_n 3, 1) := k29 hC_cL_law rfl
theorem dL_law_1164 : decode cL_law 1164 = .ok (.iconst 2, 1) := k5 hC_cL_law rfl
theorem dL_law_1165 : decode cL_law 1165 = .ok (.iadd, 1) := k96 hC_cL_law rfl
theorem dL_law_1166 : decode cL_law 1166 = .ok (.iaload, 1) := k46 hC_cL_law rfl
theorem dL_law_1167 : decode cL_law 1167 = .ok (.invokevirtual 126, 3) := k182 (y := 0) (z := 126) hC_cL_law rfl rfl
theorem dL_law_1170 : decode cL_law 1170 = .ok (.pop, 1) := k87 hC_cL_law rfl
theorem dL_law_1171 : decode cL_law 1171 = .ok (.goto 398, 3) := k167 (y := 1) (z := 142) hC_cL_law rfl rfl
theorem dL_law_1174 : decode cL_law 1174 = .ok (.aload_n 1, 1) := k43 hC_cL_law rfl
theorem dL_law_1175 : decode cL_law 1175 = .ok (.aload_n 0, 1) := k42 hC_cL_law rfl
theorem dL_law_1176 : decode cL_law 1176 = .ok (.iload_n 3, 1) := k29 hC_cL_law rfl
theorem dL_law_1177 : decode cL_law 1177 = .ok (.iconst 1, 1) := k4 hC_cL_law rfl
theorem dL_law_1178 : decode cL_law 1178 = .ok (.iadd, 1) := k96 hC_cL_law rfl
theorem dL_law_1179 : decode cL_law 1179 = .ok (.iaload, 1) := k46 hC_cL_law rfl
theorem dL_law_1180 : decode cL_law 1180 = .ok (.aload_n 0, 1) := k42 hC_cL_law rfl
theorem dL_law_1181 : decode cL_law 1181 = .ok (.iload_n 3, 1) := k29 hC_cL_law rfl
theorem dL_law_1182 : decode cL_law 1182 = .ok (.iconst 2, 1) := k5 hC_cL_law rfl
theorem dL_law_1183 : decode cL_law 1183 = .ok (.iadd, 1) := k96 hC_cL_law rfl
theorem dL_law_1184 : decode cL_law 1184 = .ok (.iaload, 1) := k46 hC_cL_law rfl
theorem dL_law_1185 : decode cL_law 1185 = .ok (.invokevirtual 127, 3) := k182 (y := 0) (z := 127) hC_cL_law rfl rfl
theorem dL_law_1188 : decode cL_law 1188 = .ok (.pop, 1) := k87 hC_cL_law rfl
theorem dL_law_1189 : decode cL_law 1189 = .ok (.aload_n 2, 1) := k44 hC_cL_law rfl
theorem dL_law_1190 : decode cL_law 1190 = .ok (.aload_n 0, 1) := k42 hC_cL_law rfl
theorem dL_law_1191 : decode cL_law 1191 = .ok (.iload_n 3, 1) := k29 hC_cL_law rfl
theorem dL_law_1192 : decode cL_law 1192 = .ok (.iconst 1, 1) := k4 hC_cL_law rfl
theorem dL_law_1193 : decode cL_law 1193 = .ok (.iadd, 1) := k96 hC_cL_law rfl
theorem dL_law_1194 : decode cL_law 1194 = .ok (.iaload, 1) := k46 hC_cL_law rfl
theorem dL_law_1195 : decode cL_law 1195 = .ok (.aload_n 0, 1) := k42 hC_cL_law rfl
theorem dL_law_1196 : decode cL_law 1196 = .ok (.iload_n 3, 1) := k29 hC_cL_law rfl
theorem dL_law_1197 : decode cL_law 1197 = .ok (.iconst 2, 1) := k5 hC_cL_law rfl
theorem dL_law_1198 : decode cL_law 1198 = .ok (.iadd, 1) := k96 hC_cL_law rfl
theorem dL_law_1199 : decode cL_law 1199 = .ok (.iaload, 1) := k46 hC_cL_law rfl
theorem dL_law_1200 : decode cL_law 1200 = .ok (.invokevirtual 130, 3) := k182 (y := 0) (z := 130) hC_cL_law rfl rfl
theorem dL_law_1203 : decode cL_law 1203 = .ok (.pop, 1) := k87 hC_cL_law rfl
theorem dL_law_1204 : decode cL_law 1204 = .ok (.goto 365, 3) := k167 (y := 1) (z := 109) hC_cL_law rfl rfl
theorem dL_law_1207 : decode cL_law 1207 = .ok (.aload_n 1, 1) := k43 hC_cL_law rfl
theorem dL_law_1208 : decode cL_law 1208 = .ok (.aload_n 0, 1) := k42 hC_cL_law rfl
theorem dL_law_1209 : decode cL_law 1209 = .ok (.iload_n 3, 1) := k29 hC_cL_law rfl
theorem dL_law_1210 : decode cL_law 1210 = .ok (.iconst 1, 1) := k4 hC_cL_law rfl
theorem dL_law_1211 : decode cL_law 1211 = .ok (.iadd, 1) := k96 hC_cL_law rfl
theorem dL_law_1212 : decode cL_law 1212 = .ok (.iaload, 1) := k46 hC_cL_law rfl
theorem dL_law_1213 : decode cL_law 1213 = .ok (.invokevirtual 131, 3) := k182 (y := 0) (z := 131) hC_cL_law rfl rfl
theorem dL_law_1216 : decode cL_law 1216 = .ok (.pop, 1) := k87 hC_cL_law rfl
theorem dL_law_1217 : decode cL_law 1217 = .ok (.aload_n 2, 1) := k44 hC_cL_law rfl
theorem dL_law_1218 : decode cL_law 1218 = .ok (.aload_n 0, 1) := k42 hC_cL_law rfl
theorem dL_law_1219 : decode cL_law 1219 = .ok (.iload_n 3, 1) := k29 hC_cL_law rfl
theorem dL_law_1220 : decode cL_law 1220 = .ok (.iconst 1, 1) := k4 hC_cL_law rfl
theorem dL_law_1221 : decode cL_law 1221 = .ok (.iadd, 1) := k96 hC_cL_law rfl
theorem dL_law_1222 : decode cL_law 1222 = .ok (.iaload, 1) := k46 hC_cL_law rfl
theorem dL_law_1223 : decode cL_law 1223 = .ok (.invokevirtual 134, 3) := k182 (y := 0) (z := 134) hC_cL_law rfl rfl
theorem dL_law_1226 : decode cL_law 1226 = .ok (.pop, 1) := k87 hC_cL_law rfl
theorem dL_law_1227 : decode cL_law 1227 = .ok (.goto 342, 3) := k167 (y := 1) (z := 86) hC_cL_law rfl rfl
theorem dL_law_1230 : decode cL_law 1230 = .ok (.aload_n 1, 1) := k43 hC_cL_law rfl
theorem dL_law_1231 : decode cL_law 1231 = .ok (.invokevirtual 135, 3) := k182 (y := 0) (z := 135) hC_cL_law rfl rfl
theorem dL_law_1234 : decode cL_law 1234 = .ok (.pop, 1) := k87 hC_cL_law rfl
theorem dL_law_1235 : decode cL_law 1235 = .ok (.aload_n 2, 1) := k44 hC_cL_law rfl
theorem dL_law_1236 : decode cL_law 1236 = .ok (.invokevirtual 139, 3) := k182 (y := 0) (z := 139) hC_cL_law rfl rfl
theorem dL_law_1239 : decode cL_law 1239 = .ok (.pop, 1) := k87 hC_cL_law rfl
theorem dL_law_1240 : decode cL_law 1240 = .ok (.goto 329, 3) := k167 (y := 1) (z := 73) hC_cL_law rfl rfl
theorem dL_law_1243 : decode cL_law 1243 = .ok (.aload_n 1, 1) := k43 hC_cL_law rfl
theorem dL_law_1244 : decode cL_law 1244 = .ok (.aload_n 0, 1) := k42 hC_cL_law rfl
theorem dL_law_1245 : decode cL_law 1245 = .ok (.iload_n 3, 1) := k29 hC_cL_law rfl
theorem dL_law_1246 : decode cL_law 1246 = .ok (.iconst 1, 1) := k4 hC_cL_law rfl
theorem dL_law_1247 : decode cL_law 1247 = .ok (.iadd, 1) := k96 hC_cL_law rfl
theorem dL_law_1248 : decode cL_law 1248 = .ok (.iaload, 1) := k46 hC_cL_law rfl
theorem dL_law_1249 : decode cL_law 1249 = .ok (.invokevirtual 140, 3) := k182 (y := 0) (z := 140) hC_cL_law rfl rfl
theorem dL_law_1252 : decode cL_law 1252 = .ok (.pop, 1) := k87 hC_cL_law rfl
theorem dL_law_1253 : decode cL_law 1253 = .ok (.aload_n 2, 1) := k44 hC_cL_law rfl
theorem dL_law_1254 : decode cL_law 1254 = .ok (.aload_n 0, 1) := k42 hC_cL_law rfl
theorem dL_law_1255 : decode cL_law 1255 = .ok (.iload_n 3, 1) := k29 hC_cL_law rfl
theorem dL_law_1256 : decode cL_law 1256 = .ok (.iconst 1, 1) := k4 hC_cL_law rfl
theorem dL_law_1257 : decode cL_law 1257 = .ok (.iadd, 1) := k96 hC_cL_law rfl
theorem dL_law_1258 : decode cL_law 1258 = .ok (.iaload, 1) := k46 hC_cL_law rfl
theorem dL_law_1259 : decode cL_law 1259 = .ok (.invokevirtual 143, 3) := k182 (y := 0) (z := 143) hC_cL_law rfl rfl
theorem dL_law_1262 : decode cL_law 1262 = .ok (.pop, 1) := k87 hC_cL_law rfl
theorem dL_law_1263 : decode cL_law 1263 = .ok (.goto 306, 3) := k167 (y := 1) (z := 50) hC_cL_law rfl rfl
theorem dL_law_966 : decode cL_law 966 = .ok (.aload_n 1, 1) := k43 hC_cL_law rfl
theorem dL_law_967 : decode cL_law 967 = .ok (.aload_n 0, 1) := k42 hC_cL_law rfl
theorem dL_law_968 : decode cL_law 968 = .ok (.iload_n 3, 1) := k29 hC_cL_law rfl
theorem dL_law_969 : decode cL_law 969 = .ok (.iconst 1, 1) := k4 hC_cL_law rfl
theorem dL_law_970 : decode cL_law 970 = .ok (.iadd, 1) := k96 hC_cL_law rfl
theorem dL_law_971 : decode cL_law 971 = .ok (.iaload, 1) := k46 hC_cL_law rfl
theorem dL_law_972 : decode cL_law 972 = .ok (.aload_n 0, 1) := k42 hC_cL_law rfl
theorem dL_law_973 : decode cL_law 973 = .ok (.iload_n 3, 1) := k29 hC_cL_law rfl
theorem dL_law_974 : decode cL_law 974 = .ok (.iconst 2, 1) := k5 hC_cL_law rfl
theorem dL_law_975 : decode cL_law 975 = .ok (.iadd, 1) := k96 hC_cL_law rfl
theorem dL_law_976 : decode cL_law 976 = .ok (.iaload, 1) := k46 hC_cL_law rfl
theorem dL_law_977 : decode cL_law 977 = .ok (.invokevirtual 102, 3) := k182 (y := 0) (z := 102) hC_cL_law rfl rfl
theorem dL_law_980 : decode cL_law 980 = .ok (.pop, 1) := k87 hC_cL_law rfl
theorem dL_law_981 : decode cL_law 981 = .ok (.aload_n 2, 1) := k44 hC_cL_law rfl
theorem dL_law_982 : decode cL_law 982 = .ok (.aload_n 0, 1) := k42 hC_cL_law rfl
theorem dL_law_983 : decode cL_law 983 = .ok (.iload_n 3, 1) := k29 hC_cL_law rfl
theorem dL_law_984 : decode cL_law 984 = .ok (.iconst 1, 1) := k4 hC_cL_law rfl
theorem dL_law_985 : decode cL_law 985 = .ok (.iadd, 1) := k96 hC_cL_law rfl
theorem dL_law_986 : decode cL_law 986 = .ok (.iaload, 1) := k46 hC_cL_law rfl
theorem dL_law_987 : decode cL_law 987 = .ok (.aload_n 0, 1) := k42 hC_cL_law rfl
theorem dL_law_988 : decode cL_law 988 = .ok (.iload_n 3, 1) := k29 hC_cL_law rfl
theorem dL_law_989 : decode cL_law 989 = .ok (.iconst 2, 1) := k5 hC_cL_law rfl
theorem dL_law_990 : decode cL_law 990 = .ok (.iadd, 1) := k96 hC_cL_law rfl
theorem dL_law_991 : decode cL_law 991 = .ok (.iaload, 1) := k46 hC_cL_law rfl
theorem dL_law_992 : decode cL_law 992 = .ok (.invokevirtual 105, 3) := k182 (y := 0) (z := 105) hC_cL_law rfl rfl
theorem dL_law_995 : decode cL_law 995 = .ok (.pop, 1) := k87 hC_cL_law rfl
theorem dL_law_996 : decode cL_law 996 = .ok (.goto 573, 3) := k167 (y := 2) (z := 61) hC_cL_law rfl rfl
theorem dL_law_999 : decode cL_law 999 = .ok (.aload_n 1, 1) := k43 hC_cL_law rfl
set_option maxHeartbeats 4000000 in
set_option maxRecDepth 100000 in
theorem law_case_20 {p : Program} {l : Launch} {e : Env} {s : State} {m : MethodId} {below : List Frame} {meth : Method} {c : Code} {b : Nat} {xs : Nat → Int32} {L : Nat} (C0 : lw_At p s m meth c b L xs) {D : va_G} {ct : Nat → ClassId} {tN : Nat} (E : Ev p s m #[Value.ref b] c R_law 4 code D (TY ct) tN (fun q : Nat => s.heap.size ≤ q)) {ad am : Nat → Nat} {n : Nat} {H : Heap} {locs : List Loc} {cells slots : Nat} (hS : va_S (fun q : Nat => s.heap.size ≤ q) s.heap H locs) (h : LI D (fun q : Nat => s.heap.size ≤ q) ct ad am tN n H) {ls : Array Slot} {i : Int32} (hl : lv_has ls 4 [(3, .int i), (2, .ref (am 0)), (1, .ref (ad 0)), (0, .ref b)]) (hi0 : 0 ≤ i.toInt) (hi1 : i.toInt + 5 < (L : Int)) (hLb : (L : Int) ≤ 3072) (hin : i.toInt = 6 * (n : Int)) (hcl : cells + 8 ≤ 600000) (hsl : slots + 160 ≤ 7302250) (kk : ∀ (H1 : Heap) (locs1 : List Loc) (ls1 : Array Slot), LI D (fun q : Nat => s.heap.size ≤ q) ct ad am tN (n + 1) H1 → va_S (fun q : Nat => s.heap.size ≤ q) s.heap H1 locs1 → lv_has ls1 4 [(3, .int i), (2, .ref (am 0)), (1, .ref (ad 0)), (0, .ref b)] → W p l e room_1 s m #[Value.ref b] below meth c H1 locs1 (cells + 8) (slots + 160) (lw_Z below #[Value.ref b] s) (F0 m 1569 ls1 [])) : W p l e room_1 s m #[Value.ref b] below meth c H locs cells slots (lw_Z below #[Value.ref b] s) (F0 m 966 ls []) := by
  obtain ⟨hx, hb, hr0, hml, hown, hts, hX, hbl, hlocks, hgv⟩ := id C0
  refine h _ (fun i0 i1 i2 i3 i4 i5 i6 i7 i8 i9 i10 i11 i12 i13 i14 i15 i16 i17 i18 i19 i20 i21 i22 i23 i24 i25 i26 i27 i28 i29 i30 i31 i32 i33 i34 i35 a1 a2 a4 a5 a7 a8 a10 a11 a13 a14 a15 a18 a19 a20 a21 a22 a23 a24 a25 a26 a29 a30 a31 a32 a43 a44 a45 a51 a52 a53 a54 a55 l46 r9n r9c og ogn ogc rtn rtc ptn ptc p0 p1 Pl j0 j1 j2 j3 j4 j5 j6 j7 j8 j9 j10 j11 j12 j13 j14 j15 j16 j17 j18 j19 j20 j21 j22 j23 j24 j25 j26 j27 j28 j29 b1 b2 b3 b4 b5 b6 b7 b8 b9 b10 b11 b12 b13 b14 b15 b16 b17 b18 b19 b20 b21 b22 b23 b24 b25 b26 b27 b28 b29 b30 b31 b32 b33 b34 b35 b36 b37 b38 b39 b40 b41 b42 b43 b44 b45 b46 b47 b48 b49 b50 b51 b52 b53 b55 b56 b57 b58 b61 b62 b63 b64 b65 b66 iam B hM hr hp hk hcn hxR1 => ?_)
  refine lv_aload_n hx hb dL_law_966 rfl (lv_at hl 2 rfl) ?_
  refine law_arg (kv := 1) C0 E hS hl (by decide) (by decide) (by omega) (by omega) (by omega) dL_law_967 dL_law_968 dL_law_969 dL_law_970 dL_law_971 ?_
  refine at_pc (n := 972) rfl ?_
  refine law_arg (kv := 2) C0 E hS hl (by decide) (by decide) (by omega) (by omega) (by omega) dL_law_972 dL_law_973 dL_law_974 dL_law_975 dL_law_976 ?_
  refine at_pc (n := 977) rfl ?_
  obtain ⟨_, Rz⟩ := B.rec0
  refine hc_VI (kn := 2) E hS B (x11_fixedOn l D tN (fun q : Nat => s.heap.size ≤ q) ((xs (i.toInt + 1).toNat)) ((xs (i.toInt + 2).toNat))) (good_V w_ea55c330 w_87d6eadd w_cbca2035 w_93c426f0 w_b6edabee) Rz rfl ⟨rfl, by decide +kernel⟩ rfl rfl rfl ⟨Nat.le_of_ble_eq_true rfl, Nat.le_of_ble_eq_true rfl⟩ rfl hl (Nat.le_of_ble_eq_true rfl) dL_law_977 ⟨by show _ ≤ 600000; omega, by show _ ≤ 7302250; omega⟩ (fun v_1 H locs w_2 hS => ?_)
  have B0 := B
  have B := w_2
  refine at_n (n := 980) (k1 := cells + 0) (k2 := slots + 0) rfl rfl rfl ?_
  refine lv_pop hx hb dL_law_980 rfl ?_
  refine lv_aload_n hx hb dL_law_981 rfl (lv_at hl 1 rfl) ?_
  refine law_arg (kv := 1) C0 E hS hl (by decide) (by decide) (by omega) (by omega) (by omega) dL_law_982 dL_law_983 dL_law_984 dL_law_985 dL_law_986 ?_
  refine at_pc (n := 987) rfl ?_
  refine law_arg (kv := 2) C0 E hS hl (by decide) (by decide) (by omega) (by omega) (by omega) dL_law_987 dL_law_988 dL_law_989 dL_law_990 dL_law_991 ?_
  refine at_pc (n := 992) rfl ?_
  obtain ⟨Rw, B, back⟩ := toM B hM
  obtain ⟨_, Rz⟩ := B.rec
  refine hc_VI (kn := 2) E hS B (m12_fixedOn l D tN (fun q : Nat => s.heap.size ≤ q) ((xs (i.toInt + 1).toNat)) ((xs (i.toInt + 2).toNat))) (good_V w_fc7d9d5d w_7b976c0a w_66738380 w_2e12d08c w_04d863e7) Rz rfl ⟨rfl, by decide +kernel⟩ rfl rfl rfl ⟨Nat.le_of_ble_eq_true rfl, Nat.le_of_ble_eq_true rfl⟩ rfl hl (Nat.le_of_ble_eq_true rfl) dL_law_992 ⟨by show _ ≤ 600000; omega, by show _ ≤ 7302250; omega⟩ (fun v_3 H locs w_4 hS => ?_)
  obtain ⟨hv_5, B⟩ := w_4
  obtain ⟨_, B, hM⟩ := back B
  refine at_n (n := 995) (k1 := cells + 0) (k2 := slots + 0) rfl rfl rfl ?_
  refine lv_pop hx hb dL_law_995 rfl ?_
  refine lv_goto (tgt := 1569) hx hb dL_law_996 (by decide) ?_
  refine W.widen (k := cells + 8) (n := slots + 160) (by omega) (by omega) ?_
  refine kk _ _ _ (LI.mk B hM hr hp hk (by omega) hxR1) hS hl
set_option maxHeartbeats 4000000 in
set_option maxRecDepth 100000 in
theorem law_case_21 {p : Program} {l : Launch} {e : Env} {s : State} {m : MethodId} {below : List Frame} {meth : Method} {c : Code} {b : Nat} {xs : Nat → Int32} {L : Nat} (C0 : lw_At p s m meth c b L xs) {D : va_G} {ct : Nat → ClassId} {tN : Nat} (E : Ev p s m #[Value.ref b] c R_law 4 code D (TY ct) tN (fun q : Nat => s.heap.size ≤ q)) {ad am : Nat → Nat} {n : Nat} {H : Heap} {locs : List Loc} {cells slots : Nat} (hS : va_S (fun q : Nat => s.heap.size ≤ q) s.heap H locs) (h : LI D (fun q : Nat => s.heap.size ≤ q) ct ad am tN n H) {ls : Array Slot} {i : Int32} (hl : lv_has ls 4 [(3, .int i), (2, .ref (am 0)), (1, .ref (ad 0)), (0, .ref b)]) (hi0 : 0 ≤ i.toInt) (hi1 : i.toInt + 5 < (L : Int)) (hLb : (L : Int) ≤ 3072) (hin : i.toInt = 6 * (n : Int)) (hcl : cells + 8 ≤ 600000) (hsl : slots + 160 ≤ 7302250) (kk : ∀ (H1 : Heap) (locs1 : List Loc) (ls1 : Array Slot), LI D (fun q : Nat => s.heap.size ≤ q) ct ad am tN (n + 1) H1 → va_S (fun q : Nat => s.heap.size ≤ q) s.heap H1 locs1 → lv_has ls1 4 [(3, .int i), (2, .ref (am 0)), (1, .ref (ad 0)), (0, .ref b)] → W p l e room_1 s m #[Value.ref b] below meth c H1 locs1 (cells + 8) (slots + 160) (lw_Z below #[Value.ref b] s) (F0 m 1569 ls1 [])) : W p l e room_1 s m #[Value.ref b] below meth c H locs cells slots (lw_Z below #[Value.ref b] s) (F0 m 999 ls []) := by
  obtain ⟨hx, hb, hr0, hml, hown, hts, hX, hbl, hlocks, hgv⟩ := id C0
  refine h _ (fun i0 i1 i2 i3 i4 i5 i6 i7 i8 i9 i10 i11 i12 i13 i14 i15 i16 i17 i18 i19 i20 i21 i22 i23 i24 i25 i26 i27 i28 i29 i30 i31 i32 i33 i34 i35 a1 a2 a4 a5 a7 a8 a10 a11 a13 a14 a15 a18 a19 a20 a21 a22 a23 a24 a25 a26 a29 a30 a31 a32 a43 a44 a45 a51 a52 a53 a54 a55 l46 r9n r9c og ogn ogc rtn rtc ptn ptc p0 p1 Pl j0 j1 j2 j3 j4 j5 j6 j7 j8 j9 j10 j11 j12 j13 j14 j15 j16 j17 j18 j19 j20 j21 j22 j23 j24 j25 j26 j27 j28 j29 b1 b2 b3 b4 b5 b6 b7 b8 b9 b10 b11 b12 b13 b14 b15 b16 b17 b18 b19 b20 b21 b22 b23 b24 b25 b26 b27 b28 b29 b30 b31 b32 b33 b34 b35 b36 b37 b38 b39 b40 b41 b42 b43 b44 b45 b46 b47 b48 b49 b50 b51 b52 b53 b55 b56 b57 b58 b61 b62 b63 b64 b65 b66 iam B hM hr hp hk hcn hxR1 => ?_)
  refine lv_aload_n hx hb dL_law_999 rfl (lv_at hl 2 rfl) ?_
  refine law_arg (kv := 1) C0 E hS hl (by decide) (by decide) (by omega) (by omega) (by omega) dL_law_1000 dL_law_1001 dL_law_1002 dL_law_1003 dL_law_1004 ?_
  refine at_pc (n := 1005) rfl ?_
  obtain ⟨_, Rz⟩ := B.rec0
  refine hc_VI (kn := 1) E hS B (x11_breaches l D tN (fun q : Nat => s.heap.size ≤ q) ((xs (i.toInt + 1).toNat))) (good_V w_75676819 w_68b45229 w_d06a0e36 w_93c426f0 w_14bfdc48) Rz rfl ⟨rfl, by decide +kernel⟩ rfl rfl rfl ⟨Nat.le_of_ble_eq_true rfl, Nat.le_of_ble_eq_true rfl⟩ rfl hl (Nat.le_of_ble_eq_true rfl) dL_law_1005 ⟨by show _ ≤ 600000; omega, by show _ ≤ 7302250; omega⟩ (fun v_1 H locs w_2 hS => ?_)
  have B0 := B
  obtain ⟨ni17_3, ni18_4, ni19_5, ni20_6, ni21_7, ni22_8, ni23_9, ni24_10, ni25_11, ni26_12, ni27_13, ni29_14, nptn_15, nptc_16, np1_17, B⟩ := w_2
  refine at_n (n := 1008) (k1 := cells + 0) (k2 := slots + 0) rfl rfl rfl ?_
  refine lv_pop hx hb dL_law_1008 rfl ?_
  refine lv_aload_n hx hb dL_law_1009 rfl (lv_at hl 1 rfl) ?_
  refine law_arg (kv := 1) C0 E hS hl (by decide) (by decide) (by omega) (by omega) (by omega) dL_law_1010 dL_law_1011 dL_law_1012 dL_law_1013 dL_law_1014 ?_
  refine at_pc (n := 1015) rfl ?_
  obtain ⟨Rw, B, back⟩ := toM B hM
  obtain ⟨_, Rz⟩ := B.rec
  refine hc_VI (kn := 1) E hS B (m12_breaches l D tN (fun q : Nat => s.heap.size ≤ q) ((xs (i.toInt + 1).toNat)) hp hk) (good_V w_99c82c69 w_76c87f62 w_6502be60 w_2e12d08c w_d427f642) Rz rfl ⟨rfl, by decide +kernel⟩ rfl rfl rfl ⟨Nat.le_of_ble_eq_true rfl, Nat.le_of_ble_eq_true rfl⟩ rfl hl (Nat.le_of_ble_eq_true rfl) dL_law_1015 ⟨by show _ ≤ 600000; omega, by show _ ≤ 7302250; omega⟩ (fun v_18 H locs w_19 hS => ?_)
  obtain ⟨ni19_20, ni20_21, na28_22, na29_23, B⟩ := w_19
  obtain ⟨_, B, hM⟩ := back B
  refine at_n (n := 1018) (k1 := cells + 0) (k2 := slots + 0) rfl rfl rfl ?_
  refine lv_pop hx hb dL_law_1018 rfl ?_
  refine lv_goto (tgt := 1569) hx hb dL_law_1019 (by decide) ?_
  refine W.widen (k := cells + 8) (n := slots + 160) (by omega) (by omega) ?_
  refine kk _ _ _ (LI.mk B hM hr hp hk (by omega) hxR1) hS hl
set_option maxHeartbeats 4000000 in
set_option maxRecDepth 100000 in
theorem law_case_22 {p : Program} {l : Launch} {e : Env} {s : State} {m : MethodId} {below : List Frame} {meth : Method} {c : Code} {b : Nat} {xs : Nat → Int32} {L : Nat} (C0 : lw_At p s m meth c b L xs) {D : va_G} {ct : Nat → ClassId} {tN : Nat} (E : Ev p s m #[Value.ref b] c R_law 4 code D (TY ct) tN (fun q : Nat => s.heap.size ≤ q)) {ad am : Nat → Nat} {n : Nat} {H : Heap} {locs : List Loc} {cells slots : Nat} (hS : va_S (fun q : Nat => s.heap.size ≤ q) s.heap H locs) (h : LI D (fun q : Nat => s.heap.size ≤ q) ct ad am tN n H) {ls : Array Slot} {i : Int32} (hl : lv_has ls 4 [(3, .int i), (2, .ref (am 0)), (1, .ref (ad 0)), (0, .ref b)]) (hi0 : 0 ≤ i.toInt) (hi1 : i.toInt + 5 < (L : Int)) (hLb : (L : Int) ≤ 3072) (hin : i.toInt = 6 * (n : Int)) (hcl : cells + 8 ≤ 600000) (hsl : slots + 160 ≤ 7302250) (kk : ∀ (H1 : Heap) (locs1 : List Loc) (ls1 : Array Slot), LI D (fun q : Nat => s.heap.size ≤ q) ct ad am tN (n + 1) H1 → va_S (fun q : Nat => s.heap.size ≤ q) s.heap H1 locs1 → lv_has ls1 4 [(3, .int i), (2, .ref (am 0)), (1, .ref (ad 0)), (0, .ref b)] → W p l e room_1 s m #[Value.ref b] below meth c H1 locs1 (cells + 8) (slots + 160) (lw_Z below #[Value.ref b] s) (F0 m 1569 ls1 [])) : W p l e room_1 s m #[Value.ref b] below meth c H locs cells slots (lw_Z below #[Value.ref b] s) (F0 m 1022 ls []) := by
  obtain ⟨hx, hb, hr0, hml, hown, hts, hX, hbl, hlocks, hgv⟩ := id C0
  refine h _ (fun i0 i1 i2 i3 i4 i5 i6 i7 i8 i9 i10 i11 i12 i13 i14 i15 i16 i17 i18 i19 i20 i21 i22 i23 i24 i25 i26 i27 i28 i29 i30 i31 i32 i33 i34 i35 a1 a2 a4 a5 a7 a8 a10 a11 a13 a14 a15 a18 a19 a20 a21 a22 a23 a24 a25 a26 a29 a30 a31 a32 a43 a44 a45 a51 a52 a53 a54 a55 l46 r9n r9c og ogn ogc rtn rtc ptn ptc p0 p1 Pl j0 j1 j2 j3 j4 j5 j6 j7 j8 j9 j10 j11 j12 j13 j14 j15 j16 j17 j18 j19 j20 j21 j22 j23 j24 j25 j26 j27 j28 j29 b1 b2 b3 b4 b5 b6 b7 b8 b9 b10 b11 b12 b13 b14 b15 b16 b17 b18 b19 b20 b21 b22 b23 b24 b25 b26 b27 b28 b29 b30 b31 b32 b33 b34 b35 b36 b37 b38 b39 b40 b41 b42 b43 b44 b45 b46 b47 b48 b49 b50 b51 b52 b53 b55 b56 b57 b58 b61 b62 b63 b64 b65 b66 iam B hM hr hp hk hcn hxR1 => ?_)
  refine lv_aload_n hx hb dL_law_1022 rfl (lv_at hl 2 rfl) ?_
  refine law_arg (kv := 1) C0 E hS hl (by decide) (by decide) (by omega) (by omega) (by omega) dL_law_1023 dL_law_1024 dL_law_1025 dL_law_1026 dL_law_1027 ?_
  refine at_pc (n := 1028) rfl ?_
  refine law_arg (kv := 2) C0 E hS hl (by decide) (by decide) (by omega) (by omega) (by omega) dL_law_1028 dL_law_1029 dL_law_1030 dL_law_1031 dL_law_1032 ?_
  refine at_pc (n := 1033) rfl ?_
  refine law_arg (kv := 3) C0 E hS hl (by decide) (by decide) (by omega) (by omega) (by omega) dL_law_1033 dL_law_1034 dL_law_1035 dL_law_1036 dL_law_1037 ?_
  refine at_pc (n := 1038) rfl ?_
  obtain ⟨_, Rz⟩ := B.rec0
  refine hc_VI (kn := 3) E hS B (x11_breach l D tN (fun q : Nat => s.heap.size ≤ q) ((xs (i.toInt + 1).toNat)) ((xs (i.toInt + 2).toNat)) ((xs (i.toInt + 3).toNat))) (good_V w_bf6b5d19 w_7ca1a192 w_e5ca493a w_93c426f0 w_0b575149) Rz rfl ⟨rfl, by decide +kernel⟩ rfl rfl rfl ⟨Nat.le_of_ble_eq_true rfl, Nat.le_of_ble_eq_true rfl⟩ rfl hl (Nat.le_of_ble_eq_true rfl) dL_law_1038 ⟨by show _ ≤ 600000; omega, by show _ ≤ 7302250; omega⟩ (fun v_1 H locs w_2 hS => ?_)
  have B0 := B
  obtain ⟨ni17_3, ni18_4, ni19_5, ni20_6, ni21_7, ni22_8, ni23_9, ni24_10, ni25_11, ni26_12, ni27_13, ni29_14, nptn_15, nptc_16, np1_17, B⟩ := w_2
  refine at_n (n := 1041) (k1 := cells + 0) (k2 := slots + 0) rfl rfl rfl ?_
  refine lv_pop hx hb dL_law_1041 rfl ?_
  refine lv_aload_n hx hb dL_law_1042 rfl (lv_at hl 1 rfl) ?_
  refine law_arg (kv := 1) C0 E hS hl (by decide) (by decide) (by omega) (by omega) (by omega) dL_law_1043 dL_law_1044 dL_law_1045 dL_law_1046 dL_law_1047 ?_
  refine at_pc (n := 1048) rfl ?_
  refine law_arg (kv := 2) C0 E hS hl (by decide) (by decide) (by omega) (by omega) (by omega) dL_law_1048 dL_law_1049 dL_law_1050 dL_law_1051 dL_law_1052 ?_
  refine at_pc (n := 1053) rfl ?_
  refine law_arg (kv := 3) C0 E hS hl (by decide) (by decide) (by omega) (by omega) (by omega) dL_law_1053 dL_law_1054 dL_law_1055 dL_law_1056 dL_law_1057 ?_
  refine at_pc (n := 1058) rfl ?_
  obtain ⟨Rw, B, back⟩ := toM B hM
  obtain ⟨_, Rz⟩ := B.rec
  refine hc_VI (kn := 3) E hS B (m12_breach l D tN (fun q : Nat => s.heap.size ≤ q) ((xs (i.toInt + 1).toNat)) ((xs (i.toInt + 2).toNat)) ((xs (i.toInt + 3).toNat)) hp hk) (good_V w_57af4bff w_33982bb8 w_85953e96 w_2e12d08c w_09930176) Rz rfl ⟨rfl, by decide +kernel⟩ rfl rfl rfl ⟨Nat.le_of_ble_eq_true rfl, Nat.le_of_ble_eq_true rfl⟩ rfl hl (Nat.le_of_ble_eq_true rfl) dL_law_1058 ⟨by show _ ≤ 600000; omega, by show _ ≤ 7302250; omega⟩ (fun v_18 H locs w_19 hS => ?_)
  obtain ⟨ni19_20, ni20_21, na28_22, na29_23, B⟩ := w_19
  obtain ⟨_, B, hM⟩ := back B
  refine at_n (n := 1061) (k1 := cells + 0) (k2 := slots + 0) rfl rfl rfl ?_
  refine lv_pop hx hb dL_law_1061 rfl ?_
  refine lv_goto (tgt := 1569) hx hb dL_law_1062 (by decide) ?_
  refine W.widen (k := cells + 8) (n := slots + 160) (by omega) (by omega) ?_
  refine kk _ _ _ (LI.mk B hM hr hp hk (by omega) hxR1) hS hl
set_option maxHeartbeats 4000000 in
set_option maxRecDepth 100000 in
theorem law_case_23 {p : Program} {l : Launch} {e : Env} {s : State} {m : MethodId} {below : List Frame} {meth : Method} {c : Code} {b : Nat} {xs : Nat → Int32} {L : Nat} (C0 : lw_At p s m meth c b L xs) {D : va_G} {ct : Nat → ClassId} {tN : Nat} (E : Ev p s m #[Value.ref b] c R_law 4 code D (TY ct) tN (fun q : Nat => s.heap.size ≤ q)) {ad am : Nat → Nat} {n : Nat} {H : Heap} {locs : List Loc} {cells slots : Nat} (hS : va_S (fun q : Nat => s.heap.size ≤ q) s.heap H locs) (h : LI D (fun q : Nat => s.heap.size ≤ q) ct ad am tN n H) {ls : Array Slot} {i : Int32} (hl : lv_has ls 4 [(3, .int i), (2, .ref (am 0)), (1, .ref (ad 0)), (0, .ref b)]) (hi0 : 0 ≤ i.toInt) (hi1 : i.toInt + 5 < (L : Int)) (hLb : (L : Int) ≤ 3072) (hin : i.toInt = 6 * (n : Int)) (hcl : cells + 8 ≤ 600000) (hsl : slots + 160 ≤ 7302250) (kk : ∀ (H1 : Heap) (locs1 : List Loc) (ls1 : Array Slot), LI D (fun q : Nat => s.heap.size ≤ q) ct ad am tN (n + 1) H1 → va_S (fun q : Nat => s.heap.size ≤ q) s.heap H1 locs1 → lv_has ls1 4 [(3, .int i), (2, .ref (am 0)), (1, .ref (ad 0)), (0, .ref b)] → W p l e room_1 s m #[Value.ref b] below meth c H1 locs1 (cells + 8) (slots + 160) (lw_Z below #[Value.ref b] s) (F0 m 1569 ls1 [])) : W p l e room_1 s m #[Value.ref b] below meth c H locs cells slots (lw_Z below #[Value.ref b] s) (F0 m 1065 ls []) := by
  obtain ⟨hx, hb, hr0, hml, hown, hts, hX, hbl, hlocks, hgv⟩ := id C0
  refine h _ (fun i0 i1 i2 i3 i4 i5 i6 i7 i8 i9 i10 i11 i12 i13 i14 i15 i16 i17 i18 i19 i20 i21 i22 i23 i24 i25 i26 i27 i28 i29 i30 i31 i32 i33 i34 i35 a1 a2 a4 a5 a7 a8 a10 a11 a13 a14 a15 a18 a19 a20 a21 a22 a23 a24 a25 a26 a29 a30 a31 a32 a43 a44 a45 a51 a52 a53 a54 a55 l46 r9n r9c og ogn ogc rtn rtc ptn ptc p0 p1 Pl j0 j1 j2 j3 j4 j5 j6 j7 j8 j9 j10 j11 j12 j13 j14 j15 j16 j17 j18 j19 j20 j21 j22 j23 j24 j25 j26 j27 j28 j29 b1 b2 b3 b4 b5 b6 b7 b8 b9 b10 b11 b12 b13 b14 b15 b16 b17 b18 b19 b20 b21 b22 b23 b24 b25 b26 b27 b28 b29 b30 b31 b32 b33 b34 b35 b36 b37 b38 b39 b40 b41 b42 b43 b44 b45 b46 b47 b48 b49 b50 b51 b52 b53 b55 b56 b57 b58 b61 b62 b63 b64 b65 b66 iam B hM hr hp hk hcn hxR1 => ?_)
  refine lv_aload_n hx hb dL_law_1065 rfl (lv_at hl 2 rfl) ?_
  refine law_arg (kv := 1) C0 E hS hl (by decide) (by decide) (by omega) (by omega) (by omega) dL_law_1066 dL_law_1067 dL_law_1068 dL_law_1069 dL_law_1070 ?_
  refine at_pc (n := 1071) rfl ?_
  refine law_arg (kv := 2) C0 E hS hl (by decide) (by decide) (by omega) (by omega) (by omega) dL_law_1071 dL_law_1072 dL_law_1073 dL_law_1074 dL_law_1075 ?_
  refine at_pc (n := 1076) rfl ?_
  refine law_arg (kv := 3) C0 E hS hl (by decide) (by decide) (by omega) (by omega) (by omega) dL_law_1076 dL_law_1077 dL_law_1078 dL_law_1079 dL_law_1080 ?_
  refine at_pc (n := 1081) rfl ?_
  obtain ⟨_, Rz⟩ := B.rec0
  refine hc_VI (kn := 3) E hS B (x11_quarrel l D tN (fun q : Nat => s.heap.size ≤ q) ((xs (i.toInt + 1).toNat)) ((xs (i.toInt + 2).toNat)) ((xs (i.toInt + 3).toNat))) (good_V w_47d56ff5 w_32313a4b w_5af96c7d w_93c426f0 w_531da04b) Rz rfl ⟨rfl, by decide +kernel⟩ rfl rfl rfl ⟨Nat.le_of_ble_eq_true rfl, Nat.le_of_ble_eq_true rfl⟩ rfl hl (Nat.le_of_ble_eq_true rfl) dL_law_1081 ⟨by show _ ≤ 600000; omega, by show _ ≤ 7302250; omega⟩ (fun v_1 H locs w_2 hS => ?_)
  have B0 := B
  obtain ⟨ni17_3, ni18_4, ni19_5, ni20_6, ni21_7, ni22_8, ni23_9, ni24_10, ni25_11, ni26_12, ni27_13, ni29_14, nptn_15, nptc_16, np1_17, B⟩ := w_2
  refine at_n (n := 1084) (k1 := cells + 0) (k2 := slots + 0) rfl rfl rfl ?_
  refine lv_pop hx hb dL_law_1084 rfl ?_
  refine lv_aload_n hx hb dL_law_1085 rfl (lv_at hl 1 rfl) ?_
  refine law_arg (kv := 1) C0 E hS hl (by decide) (by decide) (by omega) (by omega) (by omega) dL_law_1086 dL_law_1087 dL_law_1088 dL_law_1089 dL_law_1090 ?_
  refine at_pc (n := 1091) rfl ?_
  refine law_arg (kv := 2) C0 E hS hl (by decide) (by decide) (by omega) (by omega) (by omega) dL_law_1091 dL_law_1092 dL_law_1093 dL_law_1094 dL_law_1095 ?_
  refine at_pc (n := 1096) rfl ?_
  refine law_arg (kv := 3) C0 E hS hl (by decide) (by decide) (by omega) (by omega) (by omega) dL_law_1096 dL_law_1097 dL_law_1098 dL_law_1099 dL_law_1100 ?_
  refine at_pc (n := 1101) rfl ?_
  obtain ⟨Rw, B, back⟩ := toM B hM
  obtain ⟨_, Rz⟩ := B.rec
  refine hc_VI (kn := 3) E hS B (m12_quarrel l D tN (fun q : Nat => s.heap.size ≤ q) ((xs (i.toInt + 1).toNat)) ((xs (i.toInt + 2).toNat)) ((xs (i.toInt + 3).toNat)) hp hk) (good_V w_843f1b99 w_8180f0dd w_56449f8e w_2e12d08c w_00468a34) Rz rfl ⟨rfl, by decide +kernel⟩ rfl rfl rfl ⟨Nat.le_of_ble_eq_true rfl, Nat.le_of_ble_eq_true rfl⟩ rfl hl (Nat.le_of_ble_eq_true rfl) dL_law_1101 ⟨by show _ ≤ 600000; omega, by show _ ≤ 7302250; omega⟩ (fun v_18 H locs w_19 hS => ?_)
  obtain ⟨ni19_20, ni20_21, ni21_22, na28_23, na29_24, B⟩ := w_19
  obtain ⟨_, B, hM⟩ := back B
  refine at_n (n := 1104) (k1 := cells + 0) (k2 := slots + 0) rfl rfl rfl ?_
  refine lv_pop hx hb dL_law_1104 rfl ?_
  refine lv_goto (tgt := 1569) hx hb dL_law_1105 (by decide) ?_
  refine W.widen (k := cells + 8) (n := slots + 160) (by omega) (by omega) ?_
  refine kk _ _ _ (LI.mk B hM hr hp hk (by omega) hxR1) hS hl
set_option maxHeartbeats 4000000 in
set_option maxRecDepth 100000 in
theorem law_case_24 {p : Program} {l : Launch} {e : Env} {s : State} {m : MethodId} {below : List Frame} {meth : Method} {c : Code} {b : Nat} {xs : Nat → Int32} {L : Nat} (C0 : lw_At p s m meth c b L xs) {D : va_G} {ct : Nat → ClassId} {tN : Nat} (E : Ev p s m #[Value.ref b] c R_law 4 code D (TY ct) tN (fun q : Nat => s.heap.size ≤ q)) {ad am : Nat → Nat} {n : Nat} {H : Heap} {locs : List Loc} {cells slots : Nat} (hS : va_S (fun q : Nat => s.heap.size ≤ q) s.heap H locs) (h : LI D (fun q : Nat => s.heap.size ≤ q) ct ad am tN n H) {ls : Array Slot} {i : Int32} (hl : lv_has ls 4 [(3, .int i), (2, .ref (am 0)), (1, .ref (ad 0)), (0, .ref b)]) (hi0 : 0 ≤ i.toInt) (hi1 : i.toInt + 5 < (L : Int)) (hLb : (L : Int) ≤ 3072) (hin : i.toInt = 6 * (n : Int)) (hcl : cells + 8 ≤ 600000) (hsl : slots + 160 ≤ 7302250) (kk : ∀ (H1 : Heap) (locs1 : List Loc) (ls1 : Array Slot), LI D (fun q : Nat => s.heap.size ≤ q) ct ad am tN (n + 1) H1 → va_S (fun q : Nat => s.heap.size ≤ q) s.heap H1 locs1 → lv_has ls1 4 [(3, .int i), (2, .ref (am 0)), (1, .ref (ad 0)), (0, .ref b)] → W p l e room_1 s m #[Value.ref b] below meth c H1 locs1 (cells + 8) (slots + 160) (lw_Z below #[Value.ref b] s) (F0 m 1569 ls1 [])) : W p l e room_1 s m #[Value.ref b] below meth c H locs cells slots (lw_Z below #[Value.ref b] s) (F0 m 1108 ls []) := by
  obtain ⟨hx, hb, hr0, hml, hown, hts, hX, hbl, hlocks, hgv⟩ := id C0
  refine h _ (fun i0 i1 i2 i3 i4 i5 i6 i7 i8 i9 i10 i11 i12 i13 i14 i15 i16 i17 i18 i19 i20 i21 i22 i23 i24 i25 i26 i27 i28 i29 i30 i31 i32 i33 i34 i35 a1 a2 a4 a5 a7 a8 a10 a11 a13 a14 a15 a18 a19 a20 a21 a22 a23 a24 a25 a26 a29 a30 a31 a32 a43 a44 a45 a51 a52 a53 a54 a55 l46 r9n r9c og ogn ogc rtn rtc ptn ptc p0 p1 Pl j0 j1 j2 j3 j4 j5 j6 j7 j8 j9 j10 j11 j12 j13 j14 j15 j16 j17 j18 j19 j20 j21 j22 j23 j24 j25 j26 j27 j28 j29 b1 b2 b3 b4 b5 b6 b7 b8 b9 b10 b11 b12 b13 b14 b15 b16 b17 b18 b19 b20 b21 b22 b23 b24 b25 b26 b27 b28 b29 b30 b31 b32 b33 b34 b35 b36 b37 b38 b39 b40 b41 b42 b43 b44 b45 b46 b47 b48 b49 b50 b51 b52 b53 b55 b56 b57 b58 b61 b62 b63 b64 b65 b66 iam B hM hr hp hk hcn hxR1 => ?_)
  refine lv_aload_n hx hb dL_law_1108 rfl (lv_at hl 2 rfl) ?_
  refine law_arg (kv := 1) C0 E hS hl (by decide) (by decide) (by omega) (by omega) (by omega) dL_law_1109 dL_law_1110 dL_law_1111 dL_law_1112 dL_law_1113 ?_
  refine at_pc (n := 1114) rfl ?_
  refine law_arg (kv := 2) C0 E hS hl (by decide) (by decide) (by omega) (by omega) (by omega) dL_law_1114 dL_law_1115 dL_law_1116 dL_law_1117 dL_law_1118 ?_
  refine at_pc (n := 1119) rfl ?_
  obtain ⟨_, Rz⟩ := B.rec0
  refine hc_VI (kn := 2) E hS B (x11_unlike l D tN (fun q : Nat => s.heap.size ≤ q) ((xs (i.toInt + 1).toNat)) ((xs (i.toInt + 2).toNat))) (good_V w_1b09bd8a w_3b05809d w_f5fa100a w_93c426f0 w_1aad94ba) Rz rfl ⟨rfl, by decide +kernel⟩ rfl rfl rfl ⟨Nat.le_of_ble_eq_true rfl, Nat.le_of_ble_eq_true rfl⟩ rfl hl (Nat.le_of_ble_eq_true rfl) dL_law_1119 ⟨by show _ ≤ 600000; omega, by show _ ≤ 7302250; omega⟩ (fun v_1 H locs w_2 hS => ?_)
  have B0 := B
  obtain ⟨ni17_3, ni18_4, ni19_5, ni20_6, ni21_7, ni22_8, ni23_9, ni24_10, ni25_11, ni26_12, ni28_13, ni29_14, nptn_15, nptc_16, np1_17, B⟩ := w_2
  refine at_n (n := 1122) (k1 := cells + 0) (k2 := slots + 0) rfl rfl rfl ?_
  refine lv_pop hx hb dL_law_1122 rfl ?_
  refine lv_aload_n hx hb dL_law_1123 rfl (lv_at hl 1 rfl) ?_
  refine law_arg (kv := 1) C0 E hS hl (by decide) (by decide) (by omega) (by omega) (by omega) dL_law_1124 dL_law_1125 dL_law_1126 dL_law_1127 dL_law_1128 ?_
  refine at_pc (n := 1129) rfl ?_
  refine law_arg (kv := 2) C0 E hS hl (by decide) (by decide) (by omega) (by omega) (by omega) dL_law_1129 dL_law_1130 dL_law_1131 dL_law_1132 dL_law_1133 ?_
  refine at_pc (n := 1134) rfl ?_
  obtain ⟨Rw, B, back⟩ := toM B hM
  obtain ⟨_, Rz⟩ := B.rec
  refine hc_VI (kn := 2) E hS B (m12_unlike l D tN (fun q : Nat => s.heap.size ≤ q) ((xs (i.toInt + 1).toNat)) ((xs (i.toInt + 2).toNat)) hp hk) (good_V w_603f5662 w_7c1faddf w_3c0bd07f w_2e12d08c w_cb6c5362) Rz rfl ⟨rfl, by decide +kernel⟩ rfl rfl rfl ⟨Nat.le_of_ble_eq_true rfl, Nat.le_of_ble_eq_true rfl⟩ rfl hl (Nat.le_of_ble_eq_true rfl) dL_law_1134 ⟨by show _ ≤ 600000; omega, by show _ ≤ 7302250; omega⟩ (fun v_18 H locs w_19 hS => ?_)
  obtain ⟨ni22_20, ni23_21, ni24_22, ni25_23, na28_24, na29_25, B⟩ := w_19
  obtain ⟨_, B, hM⟩ := back B
  refine at_n (n := 1137) (k1 := cells + 0) (k2 := slots + 0) rfl rfl rfl ?_
  refine lv_pop hx hb dL_law_1137 rfl ?_
  refine lv_goto (tgt := 1569) hx hb dL_law_1138 (by decide) ?_
  refine W.widen (k := cells + 8) (n := slots + 160) (by omega) (by omega) ?_
  refine kk _ _ _ (LI.mk B hM hr hp hk (by omega) hxR1) hS hl
set_option maxHeartbeats 4000000 in
set_option maxRecDepth 100000 in
theorem law_case_25 {p : Program} {l : Launch} {e : Env} {s : State} {m : MethodId} {below : List Frame} {meth : Method} {c : Code} {b : Nat} {xs : Nat → Int32} {L : Nat} (C0 : lw_At p s m meth c b L xs) {D : va_G} {ct : Nat → ClassId} {tN : Nat} (E : Ev p s m #[Value.ref b] c R_law 4 code D (TY ct) tN (fun q : Nat => s.heap.size ≤ q)) {ad am : Nat → Nat} {n : Nat} {H : Heap} {locs : List Loc} {cells slots : Nat} (hS : va_S (fun q : Nat => s.heap.size ≤ q) s.heap H locs) (h : LI D (fun q : Nat => s.heap.size ≤ q) ct ad am tN n H) {ls : Array Slot} {i : Int32} (hl : lv_has ls 4 [(3, .int i), (2, .ref (am 0)), (1, .ref (ad 0)), (0, .ref b)]) (hi0 : 0 ≤ i.toInt) (hi1 : i.toInt + 5 < (L : Int)) (hLb : (L : Int) ≤ 3072) (hin : i.toInt = 6 * (n : Int)) (hcl : cells + 8 ≤ 600000) (hsl : slots + 160 ≤ 7302250) (kk : ∀ (H1 : Heap) (locs1 : List Loc) (ls1 : Array Slot), LI D (fun q : Nat => s.heap.size ≤ q) ct ad am tN (n + 1) H1 → va_S (fun q : Nat => s.heap.size ≤ q) s.heap H1 locs1 → lv_has ls1 4 [(3, .int i), (2, .ref (am 0)), (1, .ref (ad 0)), (0, .ref b)] → W p l e room_1 s m #[Value.ref b] below meth c H1 locs1 (cells + 8) (slots + 160) (lw_Z below #[Value.ref b] s) (F0 m 1569 ls1 [])) : W p l e room_1 s m #[Value.ref b] below meth c H locs cells slots (lw_Z below #[Value.ref b] s) (F0 m 1141 ls []) := by
  obtain ⟨hx, hb, hr0, hml, hown, hts, hX, hbl, hlocks, hgv⟩ := id C0
  refine h _ (fun i0 i1 i2 i3 i4 i5 i6 i7 i8 i9 i10 i11 i12 i13 i14 i15 i16 i17 i18 i19 i20 i21 i22 i23 i24 i25 i26 i27 i28 i29 i30 i31 i32 i33 i34 i35 a1 a2 a4 a5 a7 a8 a10 a11 a13 a14 a15 a18 a19 a20 a21 a22 a23 a24 a25 a26 a29 a30 a31 a32 a43 a44 a45 a51 a52 a53 a54 a55 l46 r9n r9c og ogn ogc rtn rtc ptn ptc p0 p1 Pl j0 j1 j2 j3 j4 j5 j6 j7 j8 j9 j10 j11 j12 j13 j14 j15 j16 j17 j18 j19 j20 j21 j22 j23 j24 j25 j26 j27 j28 j29 b1 b2 b3 b4 b5 b6 b7 b8 b9 b10 b11 b12 b13 b14 b15 b16 b17 b18 b19 b20 b21 b22 b23 b24 b25 b26 b27 b28 b29 b30 b31 b32 b33 b34 b35 b36 b37 b38 b39 b40 b41 b42 b43 b44 b45 b46 b47 b48 b49 b50 b51 b52 b53 b55 b56 b57 b58 b61 b62 b63 b64 b65 b66 iam B hM hr hp hk hcn hxR1 => ?_)
  refine lv_aload_n hx hb dL_law_1141 rfl (lv_at hl 2 rfl) ?_
  refine law_arg (kv := 1) C0 E hS hl (by decide) (by decide) (by omega) (by omega) (by omega) dL_law_1142 dL_law_1143 dL_law_1144 dL_law_1145 dL_law_1146 ?_
  refine at_pc (n := 1147) rfl ?_
  refine law_arg (kv := 2) C0 E hS hl (by decide) (by decide) (by omega) (by omega) (by omega) dL_law_1147 dL_law_1148 dL_law_1149 dL_law_1150 dL_law_1151 ?_
  refine at_pc (n := 1152) rfl ?_
  obtain ⟨_, Rz⟩ := B.rec0
  refine hc_VI (kn := 2) E hS B (x11_option l D tN (fun q : Nat => s.heap.size ≤ q) ((xs (i.toInt + 1).toNat)) ((xs (i.toInt + 2).toNat))) (good_V w_5987fd6f w_ec815cd7 w_3590d7ab w_93c426f0 w_8d08b777) Rz rfl ⟨rfl, by decide +kernel⟩ rfl rfl rfl ⟨Nat.le_of_ble_eq_true rfl, Nat.le_of_ble_eq_true rfl⟩ rfl hl (Nat.le_of_ble_eq_true rfl) dL_law_1152 ⟨by show _ ≤ 600000; omega, by show _ ≤ 7302250; omega⟩ (fun v_1 H locs w_2 hS => ?_)
  have B0 := B
  obtain ⟨ni30_3, na43_4, na44_5, na45_6, hv_7, B⟩ := w_2
  refine at_n (n := 1155) (k1 := cells + 0) (k2 := slots + 0) rfl rfl rfl ?_
  refine lv_pop hx hb dL_law_1155 rfl ?_
  refine lv_aload_n hx hb dL_law_1156 rfl (lv_at hl 1 rfl) ?_
  refine law_arg (kv := 1) C0 E hS hl (by decide) (by decide) (by omega) (by omega) (by omega) dL_law_1157 dL_law_1158 dL_law_1159 dL_law_1160 dL_law_1161 ?_
  refine at_pc (n := 1162) rfl ?_
  refine law_arg (kv := 2) C0 E hS hl (by decide) (by decide) (by omega) (by omega) (by omega) dL_law_1162 dL_law_1163 dL_law_1164 dL_law_1165 dL_law_1166 ?_
  refine at_pc (n := 1167) rfl ?_
  obtain ⟨Rw, B, back⟩ := toM B hM
  obtain ⟨_, Rz⟩ := B.rec
  refine hc_VI (kn := 2) E hS B (m12_option l D tN (fun q : Nat => s.heap.size ≤ q) ((xs (i.toInt + 1).toNat)) ((xs (i.toInt + 2).toNat))) (good_V w_a6ec61f1 w_9e71d848 w_c53cbdc7 w_2e12d08c w_0de97573) Rz rfl ⟨rfl, by decide +kernel⟩ rfl rfl rfl ⟨Nat.le_of_ble_eq_true rfl, Nat.le_of_ble_eq_true rfl⟩ rfl hl (Nat.le_of_ble_eq_true rfl) dL_law_1167 ⟨by show _ ≤ 600000; omega, by show _ ≤ 7302250; omega⟩ (fun v_8 H locs w_9 hS => ?_)
  obtain ⟨ni26_10, na55_11, na56_12, na57_13, hv_14, B⟩ := w_9
  obtain ⟨_, B, hM⟩ := back B
  refine at_n (n := 1170) (k1 := cells + 0) (k2 := slots + 0) rfl rfl rfl ?_
  refine lv_pop hx hb dL_law_1170 rfl ?_
  refine lv_goto (tgt := 1569) hx hb dL_law_1171 (by decide) ?_
  refine W.widen (k := cells + 8) (n := slots + 160) (by omega) (by omega) ?_
  refine kk _ _ _ (LI.mk B hM hr hp hk (by omega) hxR1) hS hl
set_option maxHeartbeats 4000000 in
set_option maxRecDepth 100000 in
theorem law_case_26 {p : Program} {l : Launch} {e : Env} {s : State} {m : MethodId} {below : List Frame} {meth : Method} {c : Code} {b : Nat} {xs : Nat → Int32} {L : Nat} (C0 : lw_At p s m meth c b L xs) {D : va_G} {ct : Nat → ClassId} {tN : Nat} (E : Ev p s m #[Value.ref b] c R_law 4 code D (TY ct) tN (fun q : Nat => s.heap.size ≤ q)) {ad am : Nat → Nat} {n : Nat} {H : Heap} {locs : List Loc} {cells slots : Nat} (hS : va_S (fun q : Nat => s.heap.size ≤ q) s.heap H locs) (h : LI D (fun q : Nat => s.heap.size ≤ q) ct ad am tN n H) {ls : Array Slot} {i : Int32} (hl : lv_has ls 4 [(3, .int i), (2, .ref (am 0)), (1, .ref (ad 0)), (0, .ref b)]) (hi0 : 0 ≤ i.toInt) (hi1 : i.toInt + 5 < (L : Int)) (hLb : (L : Int) ≤ 3072) (hin : i.toInt = 6 * (n : Int)) (hcl : cells + 8 ≤ 600000) (hsl : slots + 160 ≤ 7302250) (kk : ∀ (H1 : Heap) (locs1 : List Loc) (ls1 : Array Slot), LI D (fun q : Nat => s.heap.size ≤ q) ct ad am tN (n + 1) H1 → va_S (fun q : Nat => s.heap.size ≤ q) s.heap H1 locs1 → lv_has ls1 4 [(3, .int i), (2, .ref (am 0)), (1, .ref (ad 0)), (0, .ref b)] → W p l e room_1 s m #[Value.ref b] below meth c H1 locs1 (cells + 8) (slots + 160) (lw_Z below #[Value.ref b] s) (F0 m 1569 ls1 [])) : W p l e room_1 s m #[Value.ref b] below meth c H locs cells slots (lw_Z below #[Value.ref b] s) (F0 m 1174 ls []) := by
  obtain ⟨hx, hb, hr0, hml, hown, hts, hX, hbl, hlocks, hgv⟩ := id C0
  refine h _ (fun i0 i1 i2 i3 i4 i5 i6 i7 i8 i9 i10 i11 i12 i13 i14 i15 i16 i17 i18 i19 i20 i21 i22 i23 i24 i25 i26 i27 i28 i29 i30 i31 i32 i33 i34 i35 a1 a2 a4 a5 a7 a8 a10 a11 a13 a14 a15 a18 a19 a20 a21 a22 a23 a24 a25 a26 a29 a30 a31 a32 a43 a44 a45 a51 a52 a53 a54 a55 l46 r9n r9c og ogn ogc rtn rtc ptn ptc p0 p1 Pl j0 j1 j2 j3 j4 j5 j6 j7 j8 j9 j10 j11 j12 j13 j14 j15 j16 j17 j18 j19 j20 j21 j22 j23 j24 j25 j26 j27 j28 j29 b1 b2 b3 b4 b5 b6 b7 b8 b9 b10 b11 b12 b13 b14 b15 b16 b17 b18 b19 b20 b21 b22 b23 b24 b25 b26 b27 b28 b29 b30 b31 b32 b33 b34 b35 b36 b37 b38 b39 b40 b41 b42 b43 b44 b45 b46 b47 b48 b49 b50 b51 b52 b53 b55 b56 b57 b58 b61 b62 b63 b64 b65 b66 iam B hM hr hp hk hcn hxR1 => ?_)
  refine lv_aload_n hx hb dL_law_1174 rfl (lv_at hl 2 rfl) ?_
  refine law_arg (kv := 1) C0 E hS hl (by decide) (by decide) (by omega) (by omega) (by omega) dL_law_1175 dL_law_1176 dL_law_1177 dL_law_1178 dL_law_1179 ?_
  refine at_pc (n := 1180) rfl ?_
  refine law_arg (kv := 2) C0 E hS hl (by decide) (by decide) (by omega) (by omega) (by omega) dL_law_1180 dL_law_1181 dL_law_1182 dL_law_1183 dL_law_1184 ?_
  refine at_pc (n := 1185) rfl ?_
  obtain ⟨_, Rz⟩ := B.rec0
  refine hc_VI (kn := 2) E hS B (x11_apart l D tN (fun q : Nat => s.heap.size ≤ q) ((xs (i.toInt + 1).toNat)) ((xs (i.toInt + 2).toNat))) (good_V w_99008525 w_10a64ef0 w_2dca50cb w_93c426f0 w_7ce0c5d9) Rz rfl ⟨rfl, by decide +kernel⟩ rfl rfl rfl ⟨Nat.le_of_ble_eq_true rfl, Nat.le_of_ble_eq_true rfl⟩ rfl hl (Nat.le_of_ble_eq_true rfl) dL_law_1185 ⟨by show _ ≤ 600000; omega, by show _ ≤ 7302250; omega⟩ (fun v_1 H locs w_2 hS => ?_)
  have B0 := B
  obtain ⟨nl46_3, hv_4, B⟩ := w_2
  refine at_n (n := 1188) (k1 := cells + 0) (k2 := slots + 0) rfl rfl rfl ?_
  refine lv_pop hx hb dL_law_1188 rfl ?_
  refine lv_aload_n hx hb dL_law_1189 rfl (lv_at hl 1 rfl) ?_
  refine law_arg (kv := 1) C0 E hS hl (by decide) (by decide) (by omega) (by omega) (by omega) dL_law_1190 dL_law_1191 dL_law_1192 dL_law_1193 dL_law_1194 ?_
  refine at_pc (n := 1195) rfl ?_
  refine law_arg (kv := 2) C0 E hS hl (by decide) (by decide) (by omega) (by omega) (by omega) dL_law_1195 dL_law_1196 dL_law_1197 dL_law_1198 dL_law_1199 ?_
  refine at_pc (n := 1200) rfl ?_
  obtain ⟨Rw, B, back⟩ := toM B hM
  obtain ⟨_, Rz⟩ := B.rec
  refine hc_VI (kn := 2) E hS B (m12_apart l D tN (fun q : Nat => s.heap.size ≤ q) ((xs (i.toInt + 1).toNat)) ((xs (i.toInt + 2).toNat))) (good_V w_18b25828 w_d5e1b10c w_d81a5080 w_2e12d08c w_958c8ad5) Rz rfl ⟨rfl, by decide +kernel⟩ rfl rfl rfl ⟨Nat.le_of_ble_eq_true rfl, Nat.le_of_ble_eq_true rfl⟩ rfl hl (Nat.le_of_ble_eq_true rfl) dL_law_1200 ⟨by show _ ≤ 600000; omega, by show _ ≤ 7302250; omega⟩ (fun v_5 H locs w_6 hS => ?_)
  obtain ⟨na58_7, hv_8, B⟩ := w_6
  obtain ⟨_, B, hM⟩ := back B
  refine at_n (n := 1203) (k1 := cells + 0) (k2 := slots + 0) rfl rfl rfl ?_
  refine lv_pop hx hb dL_law_1203 rfl ?_
  refine lv_goto (tgt := 1569) hx hb dL_law_1204 (by decide) ?_
  refine W.widen (k := cells + 8) (n := slots + 160) (by omega) (by omega) ?_
  refine kk _ _ _ (LI.mk B hM hr hp hk (by omega) hxR1) hS hl
set_option maxHeartbeats 4000000 in
set_option maxRecDepth 100000 in
theorem law_case_27 {p : Program} {l : Launch} {e : Env} {s : State} {m : MethodId} {below : List Frame} {meth : Method} {c : Code} {b : Nat} {xs : Nat → Int32} {L : Nat} (C0 : lw_At p s m meth c b L xs) {D : va_G} {ct : Nat → ClassId} {tN : Nat} (E : Ev p s m #[Value.ref b] c R_law 4 code D (TY ct) tN (fun q : Nat => s.heap.size ≤ q)) {ad am : Nat → Nat} {n : Nat} {H : Heap} {locs : List Loc} {cells slots : Nat} (hS : va_S (fun q : Nat => s.heap.size ≤ q) s.heap H locs) (h : LI D (fun q : Nat => s.heap.size ≤ q) ct ad am tN n H) {ls : Array Slot} {i : Int32} (hl : lv_has ls 4 [(3, .int i), (2, .ref (am 0)), (1, .ref (ad 0)), (0, .ref b)]) (hi0 : 0 ≤ i.toInt) (hi1 : i.toInt + 5 < (L : Int)) (hLb : (L : Int) ≤ 3072) (hin : i.toInt = 6 * (n : Int)) (hcl : cells + 8 ≤ 600000) (hsl : slots + 160 ≤ 7302250) (kk : ∀ (H1 : Heap) (locs1 : List Loc) (ls1 : Array Slot), LI D (fun q : Nat => s.heap.size ≤ q) ct ad am tN (n + 1) H1 → va_S (fun q : Nat => s.heap.size ≤ q) s.heap H1 locs1 → lv_has ls1 4 [(3, .int i), (2, .ref (am 0)), (1, .ref (ad 0)), (0, .ref b)] → W p l e room_1 s m #[Value.ref b] below meth c H1 locs1 (cells + 8) (slots + 160) (lw_Z below #[Value.ref b] s) (F0 m 1569 ls1 [])) : W p l e room_1 s m #[Value.ref b] below meth c H locs cells slots (lw_Z below #[Value.ref b] s) (F0 m 1207 ls []) := by
  obtain ⟨hx, hb, hr0, hml, hown, hts, hX, hbl, hlocks, hgv⟩ := id C0
  refine h _ (fun i0 i1 i2 i3 i4 i5 i6 i7 i8 i9 i10 i11 i12 i13 i14 i15 i16 i17 i18 i19 i20 i21 i22 i23 i24 i25 i26 i27 i28 i29 i30 i31 i32 i33 i34 i35 a1 a2 a4 a5 a7 a8 a10 a11 a13 a14 a15 a18 a19 a20 a21 a22 a23 a24 a25 a26 a29 a30 a31 a32 a43 a44 a45 a51 a52 a53 a54 a55 l46 r9n r9c og ogn ogc rtn rtc ptn ptc p0 p1 Pl j0 j1 j2 j3 j4 j5 j6 j7 j8 j9 j10 j11 j12 j13 j14 j15 j16 j17 j18 j19 j20 j21 j22 j23 j24 j25 j26 j27 j28 j29 b1 b2 b3 b4 b5 b6 b7 b8 b9 b10 b11 b12 b13 b14 b15 b16 b17 b18 b19 b20 b21 b22 b23 b24 b25 b26 b27 b28 b29 b30 b31 b32 b33 b34 b35 b36 b37 b38 b39 b40 b41 b42 b43 b44 b45 b46 b47 b48 b49 b50 b51 b52 b53 b55 b56 b57 b58 b61 b62 b63 b64 b65 b66 iam B hM hr hp hk hcn hxR1 => ?_)
  refine lv_aload_n hx hb dL_law_1207 rfl (lv_at hl 2 rfl) ?_
  refine law_arg (kv := 1) C0 E hS hl (by decide) (by decide) (by omega) (by omega) (by omega) dL_law_1208 dL_law_1209 dL_law_1210 dL_law_1211 dL_law_1212 ?_
  refine at_pc (n := 1213) rfl ?_
  obtain ⟨_, Rz⟩ := B.rec0
  refine hc_VI (kn := 1) E hS B (x11_cost l D tN (fun q : Nat => s.heap.size ≤ q) ((xs (i.toInt + 1).toNat))) (good_V w_49837052 w_c5e30d9a w_65f1b0ce w_93c426f0 w_4a52cd4b) Rz rfl ⟨rfl, by decide +kernel⟩ rfl rfl rfl ⟨Nat.le_of_ble_eq_true rfl, Nat.le_of_ble_eq_true rfl⟩ rfl hl (Nat.le_of_ble_eq_true rfl) dL_law_1213 ⟨by show _ ≤ 600000; omega, by show _ ≤ 7302250; omega⟩ (fun v_1 H locs w_2 hS => ?_)
  have B0 := B
  obtain ⟨ni17_3, ni18_4, ni19_5, ni20_6, ni21_7, ni22_8, ni23_9, ni24_10, ni25_11, ni26_12, nptn_13, nptc_14, np1_15, B⟩ := w_2
  refine at_n (n := 1216) (k1 := cells + 0) (k2 := slots + 0) rfl rfl rfl ?_
  refine lv_pop hx hb dL_law_1216 rfl ?_
  refine lv_aload_n hx hb dL_law_1217 rfl (lv_at hl 1 rfl) ?_
  refine law_arg (kv := 1) C0 E hS hl (by decide) (by decide) (by omega) (by omega) (by omega) dL_law_1218 dL_law_1219 dL_law_1220 dL_law_1221 dL_law_1222 ?_
  refine at_pc (n := 1223) rfl ?_
  obtain ⟨Rw, B, back⟩ := toM B hM
  obtain ⟨_, Rz⟩ := B.rec
  refine hc_VI (kn := 1) E hS B (m12_cost l D tN (fun q : Nat => s.heap.size ≤ q) ((xs (i.toInt + 1).toNat)) hp hk) (good_V w_45d777e4 w_ff465bcf w_202a9f26 w_2e12d08c w_d04b287b) Rz rfl ⟨rfl, by decide +kernel⟩ rfl rfl rfl ⟨Nat.le_of_ble_eq_true rfl, Nat.le_of_ble_eq_true rfl⟩ rfl hl (Nat.le_of_ble_eq_true rfl) dL_law_1223 ⟨by show _ ≤ 600000; omega, by show _ ≤ 7302250; omega⟩ (fun v_16 H locs w_17 hS => ?_)
  obtain ⟨na28_18, na29_19, B⟩ := w_17
  obtain ⟨_, B, hM⟩ := back B
  refine at_n (n := 1226) (k1 := cells + 0) (k2 := slots + 0) rfl rfl rfl ?_
  refine lv_pop hx hb dL_law_1226 rfl ?_
  refine lv_goto (tgt := 1569) hx hb dL_law_1227 (by decide) ?_
  refine W.widen (k := cells + 8) (n := slots + 160) (by omega) (by omega) ?_
  refine kk _ _ _ (LI.mk B hM hr hp hk (by omega) hxR1) hS hl
set_option maxHeartbeats 4000000 in
set_option maxRecDepth 100000 in
theorem law_case_28 {p : Program} {l : Launch} {e : Env} {s : State} {m : MethodId} {below : List Frame} {meth : Method} {c : Code} {b : Nat} {xs : Nat → Int32} {L : Nat} (C0 : lw_At p s m meth c b L xs) {D : va_G} {ct : Nat → ClassId} {tN : Nat} (E : Ev p s m #[Value.ref b] c R_law 4 code D (TY ct) tN (fun q : Nat => s.heap.size ≤ q)) {ad am : Nat → Nat} {n : Nat} {H : Heap} {locs : List Loc} {cells slots : Nat} (hS : va_S (fun q : Nat => s.heap.size ≤ q) s.heap H locs) (h : LI D (fun q : Nat => s.heap.size ≤ q) ct ad am tN n H) {ls : Array Slot} {i : Int32} (hl : lv_has ls 4 [(3, .int i), (2, .ref (am 0)), (1, .ref (ad 0)), (0, .ref b)]) (hi0 : 0 ≤ i.toInt) (hi1 : i.toInt + 5 < (L : Int)) (hLb : (L : Int) ≤ 3072) (hin : i.toInt = 6 * (n : Int)) (hcl : cells + 8 ≤ 600000) (hsl : slots + 160 ≤ 7302250) (kk : ∀ (H1 : Heap) (locs1 : List Loc) (ls1 : Array Slot), LI D (fun q : Nat => s.heap.size ≤ q) ct ad am tN (n + 1) H1 → va_S (fun q : Nat => s.heap.size ≤ q) s.heap H1 locs1 → lv_has ls1 4 [(3, .int i), (2, .ref (am 0)), (1, .ref (ad 0)), (0, .ref b)] → W p l e room_1 s m #[Value.ref b] below meth c H1 locs1 (cells + 8) (slots + 160) (lw_Z below #[Value.ref b] s) (F0 m 1569 ls1 [])) : W p l e room_1 s m #[Value.ref b] below meth c H locs cells slots (lw_Z below #[Value.ref b] s) (F0 m 1230 ls []) := by
  obtain ⟨hx, hb, hr0, hml, hown, hts, hX, hbl, hlocks, hgv⟩ := id C0
  refine h _ (fun i0 i1 i2 i3 i4 i5 i6 i7 i8 i9 i10 i11 i12 i13 i14 i15 i16 i17 i18 i19 i20 i21 i22 i23 i24 i25 i26 i27 i28 i29 i30 i31 i32 i33 i34 i35 a1 a2 a4 a5 a7 a8 a10 a11 a13 a14 a15 a18 a19 a20 a21 a22 a23 a24 a25 a26 a29 a30 a31 a32 a43 a44 a45 a51 a52 a53 a54 a55 l46 r9n r9c og ogn ogc rtn rtc ptn ptc p0 p1 Pl j0 j1 j2 j3 j4 j5 j6 j7 j8 j9 j10 j11 j12 j13 j14 j15 j16 j17 j18 j19 j20 j21 j22 j23 j24 j25 j26 j27 j28 j29 b1 b2 b3 b4 b5 b6 b7 b8 b9 b10 b11 b12 b13 b14 b15 b16 b17 b18 b19 b20 b21 b22 b23 b24 b25 b26 b27 b28 b29 b30 b31 b32 b33 b34 b35 b36 b37 b38 b39 b40 b41 b42 b43 b44 b45 b46 b47 b48 b49 b50 b51 b52 b53 b55 b56 b57 b58 b61 b62 b63 b64 b65 b66 iam B hM hr hp hk hcn hxR1 => ?_)
  refine lv_aload_n hx hb dL_law_1230 rfl (lv_at hl 2 rfl) ?_
  obtain ⟨_, Rz⟩ := B.rec0
  refine hc_VI (kn := 0) E hS B (x11_one l D tN (fun q : Nat => s.heap.size ≤ q) ) (good_V w_b446383c w_dc094fcd w_5bc0ac41 w_93c426f0 w_05e4f42c) Rz rfl ⟨rfl, by decide +kernel⟩ rfl rfl rfl ⟨Nat.le_of_ble_eq_true rfl, Nat.le_of_ble_eq_true rfl⟩ rfl hl (Nat.le_of_ble_eq_true rfl) dL_law_1231 ⟨by show _ ≤ 600000; omega, by show _ ≤ 7302250; omega⟩ (fun v_1 H locs w_2 hS => ?_)
  have B0 := B
  obtain ⟨ni17_3, ni18_4, ni19_5, ni20_6, ni21_7, ni22_8, ni23_9, ni24_10, ni25_11, ni26_12, ni31_13, ni32_14, nptn_15, nptc_16, np1_17, B⟩ := w_2
  refine at_n (n := 1234) (k1 := cells + 0) (k2 := slots + 0) rfl rfl rfl ?_
  refine lv_pop hx hb dL_law_1234 rfl ?_
  refine lv_aload_n hx hb dL_law_1235 rfl (lv_at hl 1 rfl) ?_
  obtain ⟨Rw, B, back⟩ := toM B hM
  obtain ⟨_, Rz⟩ := B.rec
  refine hc_VI (kn := 0) E hS B (m12_one l D tN (fun q : Nat => s.heap.size ≤ q) hp hk) (good_V w_0b692a03 w_8720f3e8 w_bbea2c1d w_2e12d08c w_9c9cd915) Rz rfl ⟨rfl, by decide +kernel⟩ rfl rfl rfl ⟨Nat.le_of_ble_eq_true rfl, Nat.le_of_ble_eq_true rfl⟩ rfl hl (Nat.le_of_ble_eq_true rfl) dL_law_1236 ⟨by show _ ≤ 600000; omega, by show _ ≤ 7302250; omega⟩ (fun v_18 H locs w_19 hS => ?_)
  obtain ⟨na28_20, na29_21, hv_22, B⟩ := w_19
  obtain ⟨_, B, hM⟩ := back B
  refine at_n (n := 1239) (k1 := cells + 0) (k2 := slots + 0) rfl rfl rfl ?_
  refine lv_pop hx hb dL_law_1239 rfl ?_
  refine lv_goto (tgt := 1569) hx hb dL_law_1240 (by decide) ?_
  refine W.widen (k := cells + 8) (n := slots + 160) (by omega) (by omega) ?_
  refine kk _ _ _ (LI.mk B hM hr hp hk (by omega) hxR1) hS hl
set_option maxHeartbeats 4000000 in
set_option maxRecDepth 100000 in
theorem law_case_29 {p : Program} {l : Launch} {e : Env} {s : State} {m : MethodId} {below : List Frame} {meth : Method} {c : Code} {b : Nat} {xs : Nat → Int32} {L : Nat} (C0 : lw_At p s m meth c b L xs) {D : va_G} {ct : Nat → ClassId} {tN : Nat} (E : Ev p s m #[Value.ref b] c R_law 4 code D (TY ct) tN (fun q : Nat => s.heap.size ≤ q)) {ad am : Nat → Nat} {n : Nat} {H : Heap} {locs : List Loc} {cells slots : Nat} (hS : va_S (fun q : Nat => s.heap.size ≤ q) s.heap H locs) (h : LI D (fun q : Nat => s.heap.size ≤ q) ct ad am tN n H) {ls : Array Slot} {i : Int32} (hl : lv_has ls 4 [(3, .int i), (2, .ref (am 0)), (1, .ref (ad 0)), (0, .ref b)]) (hi0 : 0 ≤ i.toInt) (hi1 : i.toInt + 5 < (L : Int)) (hLb : (L : Int) ≤ 3072) (hin : i.toInt = 6 * (n : Int)) (hcl : cells + 8 ≤ 600000) (hsl : slots + 160 ≤ 7302250) (kk : ∀ (H1 : Heap) (locs1 : List Loc) (ls1 : Array Slot), LI D (fun q : Nat => s.heap.size ≤ q) ct ad am tN (n + 1) H1 → va_S (fun q : Nat => s.heap.size ≤ q) s.heap H1 locs1 → lv_has ls1 4 [(3, .int i), (2, .ref (am 0)), (1, .ref (ad 0)), (0, .ref b)] → W p l e room_1 s m #[Value.ref b] below meth c H1 locs1 (cells + 8) (slots + 160) (lw_Z below #[Value.ref b] s) (F0 m 1569 ls1 [])) : W p l e room_1 s m #[Value.ref b] below meth c H locs cells slots (lw_Z below #[Value.ref b] s) (F0 m 1243 ls []) := by
  obtain ⟨hx, hb, hr0, hml, hown, hts, hX, hbl, hlocks, hgv⟩ := id C0
  refine h _ (fun i0 i1 i2 i3 i4 i5 i6 i7 i8 i9 i10 i11 i12 i13 i14 i15 i16 i17 i18 i19 i20 i21 i22 i23 i24 i25 i26 i27 i28 i29 i30 i31 i32 i33 i34 i35 a1 a2 a4 a5 a7 a8 a10 a11 a13 a14 a15 a18 a19 a20 a21 a22 a23 a24 a25 a26 a29 a30 a31 a32 a43 a44 a45 a51 a52 a53 a54 a55 l46 r9n r9c og ogn ogc rtn rtc ptn ptc p0 p1 Pl j0 j1 j2 j3 j4 j5 j6 j7 j8 j9 j10 j11 j12 j13 j14 j15 j16 j17 j18 j19 j20 j21 j22 j23 j24 j25 j26 j27 j28 j29 b1 b2 b3 b4 b5 b6 b7 b8 b9 b10 b11 b12 b13 b14 b15 b16 b17 b18 b19 b20 b21 b22 b23 b24 b25 b26 b27 b28 b29 b30 b31 b32 b33 b34 b35 b36 b37 b38 b39 b40 b41 b42 b43 b44 b45 b46 b47 b48 b49 b50 b51 b52 b53 b55 b56 b57 b58 b61 b62 b63 b64 b65 b66 iam B hM hr hp hk hcn hxR1 => ?_)
  refine lv_aload_n hx hb dL_law_1243 rfl (lv_at hl 2 rfl) ?_
  refine law_arg (kv := 1) C0 E hS hl (by decide) (by decide) (by omega) (by omega) (by omega) dL_law_1244 dL_law_1245 dL_law_1246 dL_law_1247 dL_law_1248 ?_
  refine at_pc (n := 1249) rfl ?_
  obtain ⟨_, Rz⟩ := B.rec0
  refine hc_VI (kn := 1) E hS B (x11_line l D tN (fun q : Nat => s.heap.size ≤ q) ((xs (i.toInt + 1).toNat))) (good_V w_f2163cd9 w_9f58f46a w_b0e28e52 w_93c426f0 w_7afe1be6) Rz rfl ⟨rfl, by decide +kernel⟩ rfl rfl rfl ⟨Nat.le_of_ble_eq_true rfl, Nat.le_of_ble_eq_true rfl⟩ rfl hl (Nat.le_of_ble_eq_true rfl) dL_law_1249 ⟨by show _ ≤ 600000; omega, by show _ ≤ 7302250; omega⟩ (fun v_1 H locs w_2 hS => ?_)
  have B0 := B
  have B := w_2
  refine at_n (n := 1252) (k1 := cells + 0) (k2 := slots + 0) rfl rfl rfl ?_
  refine lv_pop hx hb dL_law_1252 rfl ?_
  refine lv_aload_n hx hb dL_law_1253 rfl (lv_at hl 1 rfl) ?_
  refine law_arg (kv := 1) C0 E hS hl (by decide) (by decide) (by omega) (by omega) (by omega) dL_law_1254 dL_law_1255 dL_law_1256 dL_law_1257 dL_law_1258 ?_
  refine at_pc (n := 1259) rfl ?_
  obtain ⟨Rw, B, back⟩ := toM B hM
  obtain ⟨_, Rz⟩ := B.rec
  refine hc_VI (kn := 1) E hS B (m12_line l D tN (fun q : Nat => s.heap.size ≤ q) ((xs (i.toInt + 1).toNat))) (good_V w_e443e065 w_a30cd829 w_1f20460e w_2e12d08c w_fdf4bdd8) Rz rfl ⟨rfl, by decide +kernel⟩ rfl rfl rfl ⟨Nat.le_of_ble_eq_true rfl, Nat.le_of_ble_eq_true rfl⟩ rfl hl (Nat.le_of_ble_eq_true rfl) dL_law_1259 ⟨by show _ ≤ 600000; omega, by show _ ≤ 7302250; omega⟩ (fun v_3 H locs w_4 hS => ?_)
  obtain ⟨hv_5, B⟩ := w_4
  obtain ⟨_, B, hM⟩ := back B
  refine at_n (n := 1262) (k1 := cells + 0) (k2 := slots + 0) rfl rfl rfl ?_
  refine lv_pop hx hb dL_law_1262 rfl ?_
  refine lv_goto (tgt := 1569) hx hb dL_law_1263 (by decide) ?_
  refine W.widen (k := cells + 8) (n := slots + 160) (by omega) (by omega) ?_
  refine kk _ _ _ (LI.mk B hM hr hp hk (by omega) hxR1) hS hl
