theorem dL_986 : decode code 986 = .ok (.iadd, 1) := by decide +kernel
theorem dL_987 : decode code 987 = .ok (.iaload, 1) := by decide +kernel
theorem dL_988 : decode code 988 = .ok (.invokevirtual 121, 3) := by decide +kernel
theorem dL_991 : decode code 991 = .ok (.pop, 1) := by decide +kernel
theorem dL_992 : decode code 992 = .ok (.aload_n 2, 1) := by decide +kernel
theorem dL_993 : decode code 993 = .ok (.aload_n 0, 1) := by decide +kernel
theorem dL_994 : decode code 994 = .ok (.iload_n 3, 1) := by decide +kernel
theorem dL_995 : decode code 995 = .ok (.iconst 1, 1) := by decide +kernel
theorem dL_996 : decode code 996 = .ok (.iadd, 1) := by decide +kernel
theorem dL_997 : decode code 997 = .ok (.iaload, 1) := by decide +kernel
theorem dL_998 : decode code 998 = .ok (.aload_n 0, 1) := by decide +kernel
theorem dL_999 : decode code 999 = .ok (.iload_n 3, 1) := by decide +kernel
theorem dL_1000 : decode code 1000 = .ok (.iconst 2, 1) := by decide +kernel
theorem dL_1001 : decode code 1001 = .ok (.iadd, 1) := by decide +kernel
theorem dL_1002 : decode code 1002 = .ok (.iaload, 1) := by decide +kernel
theorem dL_1003 : decode code 1003 = .ok (.invokevirtual 124, 3) := by decide +kernel
theorem dL_1006 : decode code 1006 = .ok (.pop, 1) := by decide +kernel
theorem dL_1007 : decode code 1007 = .ok (.goto 738, 3) := by decide +kernel
theorem dL_1010 : decode code 1010 = .ok (.aload_n 1, 1) := by decide +kernel
theorem dL_1011 : decode code 1011 = .ok (.aload_n 0, 1) := by decide +kernel
theorem dL_1012 : decode code 1012 = .ok (.iload_n 3, 1) := by decide +kernel
theorem dL_1013 : decode code 1013 = .ok (.iconst 1, 1) := by decide +kernel
theorem dL_1014 : decode code 1014 = .ok (.iadd, 1) := by decide +kernel
theorem dL_1015 : decode code 1015 = .ok (.iaload, 1) := by decide +kernel
theorem dL_1016 : decode code 1016 = .ok (.invokevirtual 125, 3) := by decide +kernel
theorem dL_1019 : decode code 1019 = .ok (.pop, 1) := by decide +kernel
theorem dL_1020 : decode code 1020 = .ok (.aload_n 2, 1) := by decide +kernel
theorem dL_1021 : decode code 1021 = .ok (.aload_n 0, 1) := by decide +kernel
theorem dL_1022 : decode code 1022 = .ok (.iload_n 3, 1) := by decide +kernel
theorem dL_1023 : decode code 1023 = .ok (.iconst 1, 1) := by decide +kernel
theorem dL_1024 : decode code 1024 = .ok (.iadd, 1) := by decide +kernel
theorem dL_1025 : decode code 1025 = .ok (.iaload, 1) := by decide +kernel
theorem dL_1026 : decode code 1026 = .ok (.invokevirtual 128, 3) := by decide +kernel
theorem dL_1029 : decode code 1029 = .ok (.pop, 1) := by decide +kernel
theorem dL_1030 : decode code 1030 = .ok (.goto 715, 3) := by decide +kernel
theorem dL_1033 : decode code 1033 = .ok (.aload_n 1, 1) := by decide +kernel
theorem dL_1034 : decode code 1034 = .ok (.aload_n 0, 1) := by decide +kernel
theorem dL_1035 : decode code 1035 = .ok (.iload_n 3, 1) := by decide +kernel
theorem dL_1036 : decode code 1036 = .ok (.iconst 1, 1) := by decide +kernel
theorem dL_1037 : decode code 1037 = .ok (.iadd, 1) := by decide +kernel
theorem dL_1038 : decode code 1038 = .ok (.iaload, 1) := by decide +kernel
theorem dL_1039 : decode code 1039 = .ok (.invokevirtual 129, 3) := by decide +kernel
theorem dL_1042 : decode code 1042 = .ok (.pop, 1) := by decide +kernel
theorem dL_1043 : decode code 1043 = .ok (.aload_n 2, 1) := by decide +kernel
theorem dL_1044 : decode code 1044 = .ok (.aload_n 0, 1) := by decide +kernel
theorem dL_1045 : decode code 1045 = .ok (.iload_n 3, 1) := by decide +kernel
theorem dL_1046 : decode code 1046 = .ok (.iconst 1, 1) := by decide +kernel
theorem dL_1047 : decode code 1047 = .ok (.iadd, 1) := by decide +kernel
theorem dL_1048 : decode code 1048 = .ok (.iaload, 1) := by decide +kernel
theorem dL_1049 : decode code 1049 = .ok (.invokevirtual 132, 3) := by decide +kernel
theorem dL_1052 : decode code 1052 = .ok (.pop, 1) := by decide +kernel
theorem dL_1053 : decode code 1053 = .ok (.goto 692, 3) := by decide +kernel
theorem dL_1056 : decode code 1056 = .ok (.aload_n 1, 1) := by decide +kernel
theorem dL_1057 : decode code 1057 = .ok (.aload_n 0, 1) := by decide +kernel
theorem dL_1058 : decode code 1058 = .ok (.iload_n 3, 1) := by decide +kernel
theorem dL_1059 : decode code 1059 = .ok (.iconst 1, 1) := by decide +kernel
theorem dL_1060 : decode code 1060 = .ok (.iadd, 1) := by decide +kernel
theorem dL_1061 : decode code 1061 = .ok (.iaload, 1) := by decide +kernel
theorem dL_1062 : decode code 1062 = .ok (.aload_n 0, 1) := by decide +kernel
theorem dL_1063 : decode code 1063 = .ok (.iload_n 3, 1) := by decide +kernel
theorem dL_1064 : decode code 1064 = .ok (.iconst 2, 1) := by decide +kernel
theorem dL_1065 : decode code 1065 = .ok (.iadd, 1) := by decide +kernel
theorem dL_1066 : decode code 1066 = .ok (.iaload, 1) := by decide +kernel
theorem dL_1067 : decode code 1067 = .ok (.aload_n 0, 1) := by decide +kernel
theorem dL_1068 : decode code 1068 = .ok (.iload_n 3, 1) := by decide +kernel
theorem dL_1069 : decode code 1069 = .ok (.iconst 3, 1) := by decide +kernel
theorem dL_1070 : decode code 1070 = .ok (.iadd, 1) := by decide +kernel
theorem dL_1071 : decode code 1071 = .ok (.iaload, 1) := by decide +kernel
theorem dL_1072 : decode code 1072 = .ok (.aload_n 0, 1) := by decide +kernel
theorem dL_1073 : decode code 1073 = .ok (.iload_n 3, 1) := by decide +kernel
theorem dL_1074 : decode code 1074 = .ok (.iconst 4, 1) := by decide +kernel
theorem dL_1075 : decode code 1075 = .ok (.iadd, 1) := by decide +kernel
theorem dL_1076 : decode code 1076 = .ok (.iaload, 1) := by decide +kernel
theorem dL_1077 : decode code 1077 = .ok (.invokevirtual 133, 3) := by decide +kernel
theorem dL_1080 : decode code 1080 = .ok (.pop, 1) := by decide +kernel
theorem dL_1081 : decode code 1081 = .ok (.aload_n 2, 1) := by decide +kernel
theorem dL_1082 : decode code 1082 = .ok (.aload_n 0, 1) := by decide +kernel
theorem dL_1083 : decode code 1083 = .ok (.iload_n 3, 1) := by decide +kernel
theorem dL_1084 : decode code 1084 = .ok (.iconst 1, 1) := by decide +kernel
theorem dL_1085 : decode code 1085 = .ok (.iadd, 1) := by decide +kernel
theorem dL_1086 : decode code 1086 = .ok (.iaload, 1) := by decide +kernel
theorem dL_1087 : decode code 1087 = .ok (.aload_n 0, 1) := by decide +kernel
theorem dL_1088 : decode code 1088 = .ok (.iload_n 3, 1) := by decide +kernel
theorem dL_1089 : decode code 1089 = .ok (.iconst 2, 1) := by decide +kernel
theorem dL_1090 : decode code 1090 = .ok (.iadd, 1) := by decide +kernel
theorem dL_1091 : decode code 1091 = .ok (.iaload, 1) := by decide +kernel
theorem dL_1092 : decode code 1092 = .ok (.aload_n 0, 1) := by decide +kernel
theorem dL_1093 : decode code 1093 = .ok (.iload_n 3, 1) := by decide +kernel
theorem dL_1094 : decode code 1094 = .ok (.iconst 3, 1) := by decide +kernel
theorem dL_1095 : decode code 1095 = .ok (.iadd, 1) := by decide +kernel
theorem dL_1096 : decode code 1096 = .ok (.iaload, 1) := by decide +kernel
theorem dL_1097 : decode code 1097 = .ok (.aload_n 0, 1) := by decide +kernel
theorem dL_1098 : decode code 1098 = .ok (.iload_n 3, 1) := by decide +kernel
theorem dL_1099 : decode code 1099 = .ok (.iconst 4, 1) := by decide +kernel
theorem dL_1100 : decode code 1100 = .ok (.iadd, 1) := by decide +kernel
theorem dL_1101 : decode code 1101 = .ok (.iaload, 1) := by decide +kernel
theorem dL_1102 : decode code 1102 = .ok (.invokevirtual 136, 3) := by decide +kernel
theorem dL_1105 : decode code 1105 = .ok (.pop, 1) := by decide +kernel
theorem dL_1106 : decode code 1106 = .ok (.goto 639, 3) := by decide +kernel
theorem dL_1109 : decode code 1109 = .ok (.aload_n 1, 1) := by decide +kernel
theorem dL_1110 : decode code 1110 = .ok (.invokevirtual 137, 3) := by decide +kernel
theorem dL_1113 : decode code 1113 = .ok (.pop, 1) := by decide +kernel
theorem dL_1114 : decode code 1114 = .ok (.aload_n 2, 1) := by decide +kernel
theorem dL_1115 : decode code 1115 = .ok (.invokevirtual 140, 3) := by decide +kernel
theorem dL_1118 : decode code 1118 = .ok (.pop, 1) := by decide +kernel
theorem dL_1119 : decode code 1119 = .ok (.goto 626, 3) := by decide +kernel
theorem dL_1122 : decode code 1122 = .ok (.aload_n 1, 1) := by decide +kernel
theorem dL_1123 : decode code 1123 = .ok (.aload_n 0, 1) := by decide +kernel
theorem dL_1124 : decode code 1124 = .ok (.iload_n 3, 1) := by decide +kernel
theorem dL_1125 : decode code 1125 = .ok (.iconst 1, 1) := by decide +kernel
theorem dL_1126 : decode code 1126 = .ok (.iadd, 1) := by decide +kernel
theorem dL_1127 : decode code 1127 = .ok (.iaload, 1) := by decide +kernel
theorem dL_1128 : decode code 1128 = .ok (.invokevirtual 141, 3) := by decide +kernel
theorem dL_1131 : decode code 1131 = .ok (.pop, 1) := by decide +kernel
theorem dL_1132 : decode code 1132 = .ok (.aload_n 2, 1) := by decide +kernel
theorem dL_1133 : decode code 1133 = .ok (.aload_n 0, 1) := by decide +kernel
theorem dL_1134 : decode code 1134 = .ok (.iload_n 3, 1) := by decide +kernel
theorem dL_1135 : decode code 1135 = .ok (.iconst 1, 1) := by decide +kernel
theorem dL_1136 : decode code 1136 = .ok (.iadd, 1) := by decide +kernel
theorem dL_1137 : decode code 1137 = .ok (.iaload, 1) := by decide +kernel
theorem dL_1138 : decode code 1138 = .ok (.invokevirtual 144, 3) := by decide +kernel
theorem dL_1141 : decode code 1141 = .ok (.pop, 1) := by decide +kernel
theorem dL_1142 : decode code 1142 = .ok (.goto 603, 3) := by decide +kernel
theorem dL_1145 : decode code 1145 = .ok (.aload_n 1, 1) := by decide +kernel
theorem dL_1146 : decode code 1146 = .ok (.invokevirtual 145, 3) := by decide +kernel
theorem dL_1149 : decode code 1149 = .ok (.pop, 1) := by decide +kernel
theorem dL_1150 : decode code 1150 = .ok (.aload_n 2, 1) := by decide +kernel
theorem dL_1151 : decode code 1151 = .ok (.invokevirtual 148, 3) := by decide +kernel
theorem dL_1154 : decode code 1154 = .ok (.pop, 1) := by decide +kernel
theorem dL_1155 : decode code 1155 = .ok (.goto 590, 3) := by decide +kernel
theorem dL_1158 : decode code 1158 = .ok (.aload_n 1, 1) := by decide +kernel
theorem dL_1159 : decode code 1159 = .ok (.aload_n 0, 1) := by decide +kernel
theorem dL_1160 : decode code 1160 = .ok (.iload_n 3, 1) := by decide +kernel
theorem dL_1161 : decode code 1161 = .ok (.iconst 1, 1) := by decide +kernel
theorem dL_1162 : decode code 1162 = .ok (.iadd, 1) := by decide +kernel
theorem dL_1163 : decode code 1163 = .ok (.iaload, 1) := by decide +kernel
theorem dL_1164 : decode code 1164 = .ok (.invokevirtual 149, 3) := by decide +kernel
theorem dL_1167 : decode code 1167 = .ok (.pop, 1) := by decide +kernel
theorem dL_1168 : decode code 1168 = .ok (.aload_n 2, 1) := by decide +kernel
theorem dL_1169 : decode code 1169 = .ok (.aload_n 0, 1) := by decide +kernel
theorem dL_1170 : decode code 1170 = .ok (.iload_n 3, 1) := by decide +kernel
theorem dL_1171 : decode code 1171 = .ok (.iconst 1, 1) := by decide +kernel
theorem dL_1172 : decode code 1172 = .ok (.iadd, 1) := by decide +kernel
theorem dL_1173 : decode code 1173 = .ok (.iaload, 1) := by decide +kernel
theorem dL_1174 : decode code 1174 = .ok (.invokevirtual 152, 3) := by decide +kernel
theorem dL_1177 : decode code 1177 = .ok (.pop, 1) := by decide +kernel
theorem dL_1178 : decode code 1178 = .ok (.goto 567, 3) := by decide +kernel
theorem dL_1181 : decode code 1181 = .ok (.aload_n 1, 1) := by decide +kernel
theorem dL_1182 : decode code 1182 = .ok (.invokevirtual 153, 3) := by decide +kernel
theorem dL_1185 : decode code 1185 = .ok (.pop, 1) := by decide +kernel
theorem dL_1186 : decode code 1186 = .ok (.aload_n 2, 1) := by decide +kernel
theorem dL_1187 : decode code 1187 = .ok (.invokevirtual 156, 3) := by decide +kernel
theorem dL_1190 : decode code 1190 = .ok (.pop, 1) := by decide +kernel
theorem dL_1191 : decode code 1191 = .ok (.goto 554, 3) := by decide +kernel
theorem dL_1194 : decode code 1194 = .ok (.aload_n 1, 1) := by decide +kernel
theorem dL_1195 : decode code 1195 = .ok (.aload_n 0, 1) := by decide +kernel
theorem dL_1196 : decode code 1196 = .ok (.iload_n 3, 1) := by decide +kernel
theorem dL_1197 : decode code 1197 = .ok (.iconst 1, 1) := by decide +kernel
theorem dL_1198 : decode code 1198 = .ok (.iadd, 1) := by decide +kernel
theorem dL_1199 : decode code 1199 = .ok (.iaload, 1) := by decide +kernel
theorem dL_1200 : decode code 1200 = .ok (.aload_n 0, 1) := by decide +kernel
theorem dL_1201 : decode code 1201 = .ok (.iload_n 3, 1) := by decide +kernel
theorem dL_1202 : decode code 1202 = .ok (.iconst 2, 1) := by decide +kernel
theorem dL_1203 : decode code 1203 = .ok (.iadd, 1) := by decide +kernel
theorem dL_1204 : decode code 1204 = .ok (.iaload, 1) := by decide +kernel
theorem dL_1205 : decode code 1205 = .ok (.invokevirtual 157, 3) := by decide +kernel
theorem dL_1208 : decode code 1208 = .ok (.pop, 1) := by decide +kernel
theorem dL_1209 : decode code 1209 = .ok (.aload_n 2, 1) := by decide +kernel
theorem dL_1210 : decode code 1210 = .ok (.aload_n 0, 1) := by decide +kernel
theorem dL_1211 : decode code 1211 = .ok (.iload_n 3, 1) := by decide +kernel
theorem dL_1212 : decode code 1212 = .ok (.iconst 1, 1) := by decide +kernel
theorem dL_1213 : decode code 1213 = .ok (.iadd, 1) := by decide +kernel
theorem dL_1214 : decode code 1214 = .ok (.iaload, 1) := by decide +kernel
theorem dL_1215 : decode code 1215 = .ok (.aload_n 0, 1) := by decide +kernel
theorem dL_1216 : decode code 1216 = .ok (.iload_n 3, 1) := by decide +kernel
theorem dL_1217 : decode code 1217 = .ok (.iconst 2, 1) := by decide +kernel
theorem dL_1218 : decode code 1218 = .ok (.iadd, 1) := by decide +kernel
theorem dL_1219 : decode code 1219 = .ok (.iaload, 1) := by decide +kernel
theorem dL_1220 : decode code 1220 = .ok (.invokevirtual 160, 3) := by decide +kernel
theorem dL_1223 : decode code 1223 = .ok (.pop, 1) := by decide +kernel
theorem dL_1224 : decode code 1224 = .ok (.goto 521, 3) := by decide +kernel
theorem dL_1227 : decode code 1227 = .ok (.aload_n 1, 1) := by decide +kernel
theorem dL_1228 : decode code 1228 = .ok (.aload_n 0, 1) := by decide +kernel
theorem dL_1229 : decode code 1229 = .ok (.iload_n 3, 1) := by decide +kernel
theorem dL_1230 : decode code 1230 = .ok (.iconst 1, 1) := by decide +kernel
theorem dL_1231 : decode code 1231 = .ok (.iadd, 1) := by decide +kernel
theorem dL_1232 : decode code 1232 = .ok (.iaload, 1) := by decide +kernel
theorem dL_1233 : decode code 1233 = .ok (.invokevirtual 161, 3) := by decide +kernel
theorem dL_1236 : decode code 1236 = .ok (.aload_n 2, 1) := by decide +kernel
theorem dL_1237 : decode code 1237 = .ok (.aload_n 0, 1) := by decide +kernel
theorem dL_1238 : decode code 1238 = .ok (.iload_n 3, 1) := by decide +kernel
theorem dL_1239 : decode code 1239 = .ok (.iconst 1, 1) := by decide +kernel
theorem dL_1240 : decode code 1240 = .ok (.iadd, 1) := by decide +kernel
theorem dL_1241 : decode code 1241 = .ok (.iaload, 1) := by decide +kernel
theorem dL_1242 : decode code 1242 = .ok (.invokevirtual 164, 3) := by decide +kernel
theorem dL_1245 : decode code 1245 = .ok (.if_icmp .eq 500, 3) := by decide +kernel
theorem dL_1250 : decode code 1250 = .ok (.aload_n 1, 1) := by decide +kernel
theorem dL_1251 : decode code 1251 = .ok (.aload_n 0, 1) := by decide +kernel
theorem dL_1252 : decode code 1252 = .ok (.iload_n 3, 1) := by decide +kernel
theorem dL_1253 : decode code 1253 = .ok (.iconst 1, 1) := by decide +kernel
theorem dL_1254 : decode code 1254 = .ok (.iadd, 1) := by decide +kernel
theorem dL_1255 : decode code 1255 = .ok (.iaload, 1) := by decide +kernel
theorem dL_1256 : decode code 1256 = .ok (.aload_n 0, 1) := by decide +kernel
theorem dL_1257 : decode code 1257 = .ok (.iload_n 3, 1) := by decide +kernel
theorem dL_1258 : decode code 1258 = .ok (.iconst 2, 1) := by decide +kernel
theorem dL_1259 : decode code 1259 = .ok (.iadd, 1) := by decide +kernel
theorem dL_1260 : decode code 1260 = .ok (.iaload, 1) := by decide +kernel
theorem dL_1261 : decode code 1261 = .ok (.invokevirtual 165, 3) := by decide +kernel
theorem dL_1264 : decode code 1264 = .ok (.pop, 1) := by decide +kernel
theorem dL_1265 : decode code 1265 = .ok (.aload_n 2, 1) := by decide +kernel
theorem dL_1266 : decode code 1266 = .ok (.aload_n 0, 1) := by decide +kernel
theorem dL_1267 : decode code 1267 = .ok (.iload_n 3, 1) := by decide +kernel
theorem dL_1268 : decode code 1268 = .ok (.iconst 1, 1) := by decide +kernel
theorem dL_1269 : decode code 1269 = .ok (.iadd, 1) := by decide +kernel
theorem dL_1270 : decode code 1270 = .ok (.iaload, 1) := by decide +kernel
theorem dL_1271 : decode code 1271 = .ok (.aload_n 0, 1) := by decide +kernel
theorem dL_1272 : decode code 1272 = .ok (.iload_n 3, 1) := by decide +kernel
theorem dL_1273 : decode code 1273 = .ok (.iconst 2, 1) := by decide +kernel
theorem dL_1274 : decode code 1274 = .ok (.iadd, 1) := by decide +kernel
theorem dL_1275 : decode code 1275 = .ok (.iaload, 1) := by decide +kernel
