theorem dL_law_935 : decode cL_law 935 = .ok (.iconst 2, 1) := by decide +kernel
theorem dL_law_936 : decode cL_law 936 = .ok (.if_icmp .ne 193, 3) := by decide +kernel
theorem dL_law_939 : decode cL_law 939 = .ok (.aload 7, 2) := by decide +kernel
theorem dL_law_941 : decode cL_law 941 = .ok (.bipush 9, 2) := by decide +kernel
theorem dL_law_943 : decode cL_law 943 = .ok (.iconst 1, 1) := by decide +kernel
theorem dL_law_944 : decode cL_law 944 = .ok (.invokevirtual 101, 3) := by decide +kernel
theorem dL_law_947 : decode cL_law 947 = .ok (.iconst 2, 1) := by decide +kernel
theorem dL_law_948 : decode cL_law 948 = .ok (.if_icmp .ne 181, 3) := by decide +kernel
theorem dL_law_951 : decode cL_law 951 = .ok (.aload 7, 2) := by decide +kernel
theorem dL_law_953 : decode cL_law 953 = .ok (.iconst 1, 1) := by decide +kernel
theorem dL_law_954 : decode cL_law 954 = .ok (.iconst 1, 1) := by decide +kernel
theorem dL_law_955 : decode cL_law 955 = .ok (.invokevirtual 98, 3) := by decide +kernel
theorem dL_law_958 : decode cL_law 958 = .ok (.iconst 2, 1) := by decide +kernel
theorem dL_law_959 : decode cL_law 959 = .ok (.if_icmp .ne 170, 3) := by decide +kernel
theorem dL_law_962 : decode cL_law 962 = .ok (.aload 7, 2) := by decide +kernel
theorem dL_law_964 : decode cL_law 964 = .ok (.iconst 1, 1) := by decide +kernel
theorem dL_law_965 : decode cL_law 965 = .ok (.bipush 6, 2) := by decide +kernel
theorem dL_law_967 : decode cL_law 967 = .ok (.invokevirtual 101, 3) := by decide +kernel
theorem dL_law_970 : decode cL_law 970 = .ok (.iconst 1, 1) := by decide +kernel
theorem dL_law_971 : decode cL_law 971 = .ok (.if_icmp .ne 158, 3) := by decide +kernel
theorem dL_law_974 : decode cL_law 974 = .ok (.aload 7, 2) := by decide +kernel
theorem dL_law_976 : decode cL_law 976 = .ok (.bipush 18, 2) := by decide +kernel
theorem dL_law_978 : decode cL_law 978 = .ok (.bipush 7, 2) := by decide +kernel
theorem dL_law_980 : decode cL_law 980 = .ok (.iconst 1, 1) := by decide +kernel
theorem dL_law_981 : decode cL_law 981 = .ok (.invokestatic 34, 3) := by decide +kernel
theorem dL_law_984 : decode cL_law 984 = .ok (.bipush (-5), 2) := by decide +kernel
theorem dL_law_986 : decode cL_law 986 = .ok (.if_icmp .ne 143, 3) := by decide +kernel
theorem dL_law_989 : decode cL_law 989 = .ok (.aload 7, 2) := by decide +kernel
theorem dL_law_991 : decode cL_law 991 = .ok (.invokevirtual 130, 3) := by decide +kernel
theorem dL_law_994 : decode cL_law 994 = .ok (.bipush 90, 2) := by decide +kernel
theorem dL_law_996 : decode cL_law 996 = .ok (.if_icmp .ne 133, 3) := by decide +kernel
theorem dL_law_999 : decode cL_law 999 = .ok (.aload 7, 2) := by decide +kernel
theorem dL_law_1001 : decode cL_law 1001 = .ok (.invokevirtual 136, 3) := by decide +kernel
theorem dL_law_1004 : decode cL_law 1004 = .ok (.bipush 90, 2) := by decide +kernel
theorem dL_law_1006 : decode cL_law 1006 = .ok (.bipush 7, 2) := by decide +kernel
theorem dL_law_1008 : decode cL_law 1008 = .ok (.iload 6, 2) := by decide +kernel
theorem dL_law_1010 : decode cL_law 1010 = .ok (.imul, 1) := by decide +kernel
theorem dL_law_1011 : decode cL_law 1011 = .ok (.isub, 1) := by decide +kernel
theorem dL_law_1012 : decode cL_law 1012 = .ok (.if_icmp .ne 117, 3) := by decide +kernel
theorem dL_law_1015 : decode cL_law 1015 = .ok (.aload 7, 2) := by decide +kernel
theorem dL_law_1017 : decode cL_law 1017 = .ok (.invokevirtual 133, 3) := by decide +kernel
theorem dL_law_1020 : decode cL_law 1020 = .ok (.iconst 1, 1) := by decide +kernel
theorem dL_law_1021 : decode cL_law 1021 = .ok (.if_icmp .ne 108, 3) := by decide +kernel
theorem dL_law_1024 : decode cL_law 1024 = .ok (.aload 7, 2) := by decide +kernel
theorem dL_law_1026 : decode cL_law 1026 = .ok (.invokevirtual 254, 3) := by decide +kernel
theorem dL_law_1029 : decode cL_law 1029 = .ok (.ldc2_w 258, 3) := by decide +kernel
theorem dL_law_1032 : decode cL_law 1032 = .ok (.dcmp .l, 1) := by decide +kernel
theorem dL_law_1033 : decode cL_law 1033 = .ok (.ifCond .ne 96, 3) := by decide +kernel
theorem dL_law_1036 : decode cL_law 1036 = .ok (.aload 7, 2) := by decide +kernel
theorem dL_law_1038 : decode cL_law 1038 = .ok (.invokevirtual 260, 3) := by decide +kernel
theorem dL_law_1041 : decode cL_law 1041 = .ok (.ldc_w 264, 3) := by decide +kernel
theorem dL_law_1044 : decode cL_law 1044 = .ok (.fcmp .l, 1) := by decide +kernel
theorem dL_law_1045 : decode cL_law 1045 = .ok (.ifCond .ne 84, 3) := by decide +kernel
theorem dL_law_1048 : decode cL_law 1048 = .ok (.aload 7, 2) := by decide +kernel
theorem dL_law_1050 : decode cL_law 1050 = .ok (.aload 7, 2) := by decide +kernel
theorem dL_law_1052 : decode cL_law 1052 = .ok (.iconst 0, 1) := by decide +kernel
theorem dL_law_1053 : decode cL_law 1053 = .ok (.invokevirtual 265, 3) := by decide +kernel
theorem dL_law_1056 : decode cL_law 1056 = .ok (.new 268, 3) := by decide +kernel
theorem dL_law_1059 : decode cL_law 1059 = .ok (.dup, 1) := by decide +kernel
theorem dL_law_1060 : decode cL_law 1060 = .ok (.invokespecial 270, 3) := by decide +kernel
theorem dL_law_1063 : decode cL_law 1063 = .ok (.ldc_w 271, 3) := by decide +kernel
theorem dL_law_1066 : decode cL_law 1066 = .ok (.invokevirtual 273, 3) := by decide +kernel
theorem dL_law_1069 : decode cL_law 1069 = .ok (.bipush 90, 2) := by decide +kernel
theorem dL_law_1071 : decode cL_law 1071 = .ok (.bipush 7, 2) := by decide +kernel
theorem dL_law_1073 : decode cL_law 1073 = .ok (.iload 6, 2) := by decide +kernel
theorem dL_law_1075 : decode cL_law 1075 = .ok (.imul, 1) := by decide +kernel
theorem dL_law_1076 : decode cL_law 1076 = .ok (.isub, 1) := by decide +kernel
theorem dL_law_1077 : decode cL_law 1077 = .ok (.invokevirtual 277, 3) := by decide +kernel
theorem dL_law_1080 : decode cL_law 1080 = .ok (.ldc_w 280, 3) := by decide +kernel
theorem dL_law_1083 : decode cL_law 1083 = .ok (.invokevirtual 273, 3) := by decide +kernel
theorem dL_law_1086 : decode cL_law 1086 = .ok (.invokevirtual 282, 3) := by decide +kernel
theorem dL_law_1089 : decode cL_law 1089 = .ok (.invokestatic 286, 3) := by decide +kernel
theorem dL_law_1092 : decode cL_law 1092 = .ok (.ifCond .eq 37, 3) := by decide +kernel
theorem dL_law_1095 : decode cL_law 1095 = .ok (.aload 7, 2) := by decide +kernel
theorem dL_law_1097 : decode cL_law 1097 = .ok (.aload 7, 2) := by decide +kernel
theorem dL_law_1099 : decode cL_law 1099 = .ok (.iconst 1, 1) := by decide +kernel
theorem dL_law_1100 : decode cL_law 1100 = .ok (.invokevirtual 265, 3) := by decide +kernel
theorem dL_law_1103 : decode cL_law 1103 = .ok (.ldc_w 290, 3) := by decide +kernel
theorem dL_law_1106 : decode cL_law 1106 = .ok (.invokestatic 286, 3) := by decide +kernel
theorem dL_law_1109 : decode cL_law 1109 = .ok (.ifCond .eq 20, 3) := by decide +kernel
theorem dL_law_1112 : decode cL_law 1112 = .ok (.aload 7, 2) := by decide +kernel
theorem dL_law_1114 : decode cL_law 1114 = .ok (.aload 7, 2) := by decide +kernel
theorem dL_law_1116 : decode cL_law 1116 = .ok (.iconst 2, 1) := by decide +kernel
theorem dL_law_1117 : decode cL_law 1117 = .ok (.invokevirtual 292, 3) := by decide +kernel
theorem dL_law_1120 : decode cL_law 1120 = .ok (.ldc_w 295, 3) := by decide +kernel
theorem dL_law_1123 : decode cL_law 1123 = .ok (.invokestatic 286, 3) := by decide +kernel
theorem dL_law_1126 : decode cL_law 1126 = .ok (.ifCond .ne 5, 3) := by decide +kernel
theorem dL_law_1129 : decode cL_law 1129 = .ok (.iconst 0, 1) := by decide +kernel
theorem dL_law_1130 : decode cL_law 1130 = .ok (.ireturn, 1) := by decide +kernel
theorem dL_law_1131 : decode cL_law 1131 = .ok (.aload 7, 2) := by decide +kernel
theorem dL_law_1133 : decode cL_law 1133 = .ok (.iconst 0, 1) := by decide +kernel
theorem dL_law_1134 : decode cL_law 1134 = .ok (.bipush 20, 2) := by decide +kernel
theorem dL_law_1136 : decode cL_law 1136 = .ok (.invokevirtual 66, 3) := by decide +kernel
theorem dL_law_1139 : decode cL_law 1139 = .ok (.bipush 12, 2) := by decide +kernel
theorem dL_law_1141 : decode cL_law 1141 = .ok (.iload 6, 2) := by decide +kernel
theorem dL_law_1143 : decode cL_law 1143 = .ok (.isub, 1) := by decide +kernel
theorem dL_law_1144 : decode cL_law 1144 = .ok (.if_icmp .ne 239, 3) := by decide +kernel
theorem dL_law_1147 : decode cL_law 1147 = .ok (.aload 7, 2) := by decide +kernel
theorem dL_law_1149 : decode cL_law 1149 = .ok (.iconst 1, 1) := by decide +kernel
theorem dL_law_1150 : decode cL_law 1150 = .ok (.invokevirtual 149, 3) := by decide +kernel
theorem dL_law_1153 : decode cL_law 1153 = .ok (.ifCond .eq 230, 3) := by decide +kernel
theorem dL_law_1156 : decode cL_law 1156 = .ok (.aload 7, 2) := by decide +kernel
theorem dL_law_1158 : decode cL_law 1158 = .ok (.iconst 0, 1) := by decide +kernel
theorem dL_law_1159 : decode cL_law 1159 = .ok (.invokevirtual 82, 3) := by decide +kernel
theorem dL_law_1162 : decode cL_law 1162 = .ok (.bipush 6, 2) := by decide +kernel
theorem dL_law_1164 : decode cL_law 1164 = .ok (.if_icmp .ne 219, 3) := by decide +kernel
theorem dL_law_1167 : decode cL_law 1167 = .ok (.aload 7, 2) := by decide +kernel
theorem dL_law_1169 : decode cL_law 1169 = .ok (.invokevirtual 133, 3) := by decide +kernel
theorem dL_law_1172 : decode cL_law 1172 = .ok (.iconst 2, 1) := by decide +kernel
theorem dL_law_1173 : decode cL_law 1173 = .ok (.if_icmp .ne 210, 3) := by decide +kernel
theorem dL_law_1176 : decode cL_law 1176 = .ok (.aload 7, 2) := by decide +kernel
theorem dL_law_1178 : decode cL_law 1178 = .ok (.iconst 3, 1) := by decide +kernel
theorem dL_law_1179 : decode cL_law 1179 = .ok (.invokevirtual 243, 3) := by decide +kernel
theorem dL_law_1182 : decode cL_law 1182 = .ok (.bipush 8, 2) := by decide +kernel
theorem dL_law_1184 : decode cL_law 1184 = .ok (.if_icmp .ne 199, 3) := by decide +kernel
theorem dL_law_1187 : decode cL_law 1187 = .ok (.aload 7, 2) := by decide +kernel
theorem dL_law_1189 : decode cL_law 1189 = .ok (.iconst 0, 1) := by decide +kernel
theorem dL_law_1190 : decode cL_law 1190 = .ok (.iconst 1, 1) := by decide +kernel
theorem dL_law_1191 : decode cL_law 1191 = .ok (.invokevirtual 66, 3) := by decide +kernel
theorem dL_law_1194 : decode cL_law 1194 = .ok (.ifCond .ne 189, 3) := by decide +kernel
theorem dL_law_1197 : decode cL_law 1197 = .ok (.aload 7, 2) := by decide +kernel
theorem dL_law_1199 : decode cL_law 1199 = .ok (.invokevirtual 133, 3) := by decide +kernel
theorem dL_law_1202 : decode cL_law 1202 = .ok (.iconst 2, 1) := by decide +kernel
theorem dL_law_1203 : decode cL_law 1203 = .ok (.if_icmp .ne 180, 3) := by decide +kernel
theorem dL_law_1206 : decode cL_law 1206 = .ok (.aload 7, 2) := by decide +kernel
theorem dL_law_1208 : decode cL_law 1208 = .ok (.iconst 2, 1) := by decide +kernel
theorem dL_law_1209 : decode cL_law 1209 = .ok (.iconst 1, 1) := by decide +kernel
theorem dL_law_1210 : decode cL_law 1210 = .ok (.invokevirtual 53, 3) := by decide +kernel
theorem dL_law_1213 : decode cL_law 1213 = .ok (.iconst 2, 1) := by decide +kernel
theorem dL_law_1214 : decode cL_law 1214 = .ok (.if_icmp .ne 169, 3) := by decide +kernel
theorem dL_law_1217 : decode cL_law 1217 = .ok (.aload 7, 2) := by decide +kernel
theorem dL_law_1219 : decode cL_law 1219 = .ok (.iconst 3, 1) := by decide +kernel
theorem dL_law_1220 : decode cL_law 1220 = .ok (.invokevirtual 240, 3) := by decide +kernel
theorem dL_law_1223 : decode cL_law 1223 = .ok (.iconst 2, 1) := by decide +kernel
theorem dL_law_1224 : decode cL_law 1224 = .ok (.if_icmp .ne 159, 3) := by decide +kernel
theorem dL_law_1227 : decode cL_law 1227 = .ok (.aload 7, 2) := by decide +kernel
theorem dL_law_1229 : decode cL_law 1229 = .ok (.iconst 0, 1) := by decide +kernel
theorem dL_law_1230 : decode cL_law 1230 = .ok (.iconst 3, 1) := by decide +kernel
theorem dL_law_1231 : decode cL_law 1231 = .ok (.invokevirtual 297, 3) := by decide +kernel
theorem dL_law_1234 : decode cL_law 1234 = .ok (.ifCond .ne 149, 3) := by decide +kernel
theorem dL_law_1237 : decode cL_law 1237 = .ok (.aload 7, 2) := by decide +kernel
theorem dL_law_1239 : decode cL_law 1239 = .ok (.bipush 16, 2) := by decide +kernel
theorem dL_law_1241 : decode cL_law 1241 = .ok (.iconst 3, 1) := by decide +kernel
theorem dL_law_1242 : decode cL_law 1242 = .ok (.iconst 0, 1) := by decide +kernel
theorem dL_law_1243 : decode cL_law 1243 = .ok (.invokestatic 34, 3) := by decide +kernel
theorem dL_law_1246 : decode cL_law 1246 = .ok (.bipush (-5), 2) := by decide +kernel
theorem dL_law_1248 : decode cL_law 1248 = .ok (.if_icmp .ne 135, 3) := by decide +kernel
theorem dL_law_1251 : decode cL_law 1251 = .ok (.aload 7, 2) := by decide +kernel
theorem dL_law_1253 : decode cL_law 1253 = .ok (.iconst 2, 1) := by decide +kernel
theorem dL_law_1254 : decode cL_law 1254 = .ok (.bipush 10, 2) := by decide +kernel
theorem dL_law_1256 : decode cL_law 1256 = .ok (.invokevirtual 56, 3) := by decide +kernel
theorem dL_law_1259 : decode cL_law 1259 = .ok (.iconst 2, 1) := by decide +kernel
theorem dL_law_1260 : decode cL_law 1260 = .ok (.if_icmp .ne 123, 3) := by decide +kernel
theorem dL_law_1263 : decode cL_law 1263 = .ok (.aload 7, 2) := by decide +kernel
theorem dL_law_1265 : decode cL_law 1265 = .ok (.iconst 2, 1) := by decide +kernel
theorem dL_law_1266 : decode cL_law 1266 = .ok (.iconst 4, 1) := by decide +kernel
theorem dL_law_1267 : decode cL_law 1267 = .ok (.invokevirtual 59, 3) := by decide +kernel
theorem dL_law_1270 : decode cL_law 1270 = .ok (.iconst 4, 1) := by decide +kernel
theorem dL_law_1271 : decode cL_law 1271 = .ok (.if_icmp .ne 112, 3) := by decide +kernel
theorem dL_law_1274 : decode cL_law 1274 = .ok (.aload 7, 2) := by decide +kernel
theorem dL_law_1276 : decode cL_law 1276 = .ok (.iconst 2, 1) := by decide +kernel
theorem dL_law_1277 : decode cL_law 1277 = .ok (.invokevirtual 104, 3) := by decide +kernel
theorem dL_law_1280 : decode cL_law 1280 = .ok (.iconst 1, 1) := by decide +kernel
theorem dL_law_1281 : decode cL_law 1281 = .ok (.if_icmp .ne 102, 3) := by decide +kernel
theorem dL_law_1284 : decode cL_law 1284 = .ok (.aload 7, 2) := by decide +kernel
theorem dL_law_1286 : decode cL_law 1286 = .ok (.iconst 2, 1) := by decide +kernel
theorem dL_law_1287 : decode cL_law 1287 = .ok (.iconst 1, 1) := by decide +kernel
theorem dL_law_1288 : decode cL_law 1288 = .ok (.invokevirtual 66, 3) := by decide +kernel
theorem dL_law_1291 : decode cL_law 1291 = .ok (.iconst 1, 1) := by decide +kernel
theorem dL_law_1292 : decode cL_law 1292 = .ok (.if_icmp .ne 91, 3) := by decide +kernel
theorem dL_law_1295 : decode cL_law 1295 = .ok (.aload 7, 2) := by decide +kernel
theorem dL_law_1297 : decode cL_law 1297 = .ok (.iconst 3, 1) := by decide +kernel
theorem dL_law_1298 : decode cL_law 1298 = .ok (.invokevirtual 139, 3) := by decide +kernel
theorem dL_law_1301 : decode cL_law 1301 = .ok (.ldc2_w 300, 3) := by decide +kernel
theorem dL_law_1304 : decode cL_law 1304 = .ok (.lcmp, 1) := by decide +kernel
theorem dL_law_1305 : decode cL_law 1305 = .ok (.ifCond .ne 78, 3) := by decide +kernel
theorem dL_law_1308 : decode cL_law 1308 = .ok (.aload 7, 2) := by decide +kernel
theorem dL_law_1310 : decode cL_law 1310 = .ok (.iconst 2, 1) := by decide +kernel
theorem dL_law_1311 : decode cL_law 1311 = .ok (.invokevirtual 139, 3) := by decide +kernel
theorem dL_law_1314 : decode cL_law 1314 = .ok (.lconst 0, 1) := by decide +kernel
theorem dL_law_1315 : decode cL_law 1315 = .ok (.lcmp, 1) := by decide +kernel
theorem dL_law_1316 : decode cL_law 1316 = .ok (.ifCond .ne 67, 3) := by decide +kernel
theorem dL_law_1319 : decode cL_law 1319 = .ok (.aload 7, 2) := by decide +kernel
theorem dL_law_1321 : decode cL_law 1321 = .ok (.iconst 1, 1) := by decide +kernel
theorem dL_law_1322 : decode cL_law 1322 = .ok (.iconst 0, 1) := by decide +kernel
theorem dL_law_1323 : decode cL_law 1323 = .ok (.iconst 3, 1) := by decide +kernel
theorem dL_law_1324 : decode cL_law 1324 = .ok (.invokestatic 34, 3) := by decide +kernel
theorem dL_law_1327 : decode cL_law 1327 = .ok (.bipush (-3), 2) := by decide +kernel
theorem dL_law_1329 : decode cL_law 1329 = .ok (.if_icmp .ne 54, 3) := by decide +kernel
theorem dL_law_1332 : decode cL_law 1332 = .ok (.aload 7, 2) := by decide +kernel
theorem dL_law_1334 : decode cL_law 1334 = .ok (.iconst 0, 1) := by decide +kernel
theorem dL_law_1335 : decode cL_law 1335 = .ok (.iconst 0, 1) := by decide +kernel
theorem dL_law_1336 : decode cL_law 1336 = .ok (.iconst 1, 1) := by decide +kernel
theorem dL_law_1337 : decode cL_law 1337 = .ok (.iconst 2, 1) := by decide +kernel
theorem dL_law_1338 : decode cL_law 1338 = .ok (.invokestatic 250, 3) := by decide +kernel
theorem dL_law_1341 : decode cL_law 1341 = .ok (.bipush (-3), 2) := by decide +kernel
theorem dL_law_1343 : decode cL_law 1343 = .ok (.if_icmp .ne 40, 3) := by decide +kernel
theorem dL_law_1346 : decode cL_law 1346 = .ok (.aload 7, 2) := by decide +kernel
theorem dL_law_1348 : decode cL_law 1348 = .ok (.invokevirtual 224, 3) := by decide +kernel
theorem dL_law_1351 : decode cL_law 1351 = .ok (.bipush 6, 2) := by decide +kernel
theorem dL_law_1353 : decode cL_law 1353 = .ok (.if_icmp .ne 30, 3) := by decide +kernel
theorem dL_law_1356 : decode cL_law 1356 = .ok (.aload 7, 2) := by decide +kernel
theorem dL_law_1358 : decode cL_law 1358 = .ok (.invokevirtual 183, 3) := by decide +kernel
theorem dL_law_1361 : decode cL_law 1361 = .ok (.ifCond .lt 22, 3) := by decide +kernel
theorem dL_law_1364 : decode cL_law 1364 = .ok (.aload 7, 2) := by decide +kernel
theorem dL_law_1366 : decode cL_law 1366 = .ok (.iconst 3, 1) := by decide +kernel
theorem dL_law_1367 : decode cL_law 1367 = .ok (.invokevirtual 139, 3) := by decide +kernel
theorem dL_law_1370 : decode cL_law 1370 = .ok (.lconst 0, 1) := by decide +kernel
theorem dL_law_1371 : decode cL_law 1371 = .ok (.lcmp, 1) := by decide +kernel
theorem dL_law_1372 : decode cL_law 1372 = .ok (.ifCond .ne 11, 3) := by decide +kernel
theorem dL_law_1375 : decode cL_law 1375 = .ok (.aload 7, 2) := by decide +kernel
theorem dL_law_1377 : decode cL_law 1377 = .ok (.invokevirtual 220, 3) := by decide +kernel
theorem dL_law_1380 : decode cL_law 1380 = .ok (.ifCond .ne 5, 3) := by decide +kernel
theorem dL_law_1383 : decode cL_law 1383 = .ok (.iconst 0, 1) := by decide +kernel
theorem dL_law_1384 : decode cL_law 1384 = .ok (.ireturn, 1) := by decide +kernel
theorem dL_law_1385 : decode cL_law 1385 = .ok (.aload_n 1, 1) := by decide +kernel
theorem dL_law_1386 : decode cL_law 1386 = .ok (.invokevirtual 302, 3) := by decide +kernel
theorem dL_law_1389 : decode cL_law 1389 = .ok (.iload_n 3, 1) := by decide +kernel
theorem dL_law_1390 : decode cL_law 1390 = .ok (.if_icmp .ne 16, 3) := by decide +kernel
theorem dL_law_1393 : decode cL_law 1393 = .ok (.aload_n 1, 1) := by decide +kernel
theorem dL_law_1394 : decode cL_law 1394 = .ok (.invokestatic 170, 3) := by decide +kernel
theorem dL_law_1397 : decode cL_law 1397 = .ok (.iload 4, 2) := by decide +kernel
theorem dL_law_1399 : decode cL_law 1399 = .ok (.if_icmp .ne 7, 3) := by decide +kernel
theorem dL_law_1402 : decode cL_law 1402 = .ok (.iconst 1, 1) := by decide +kernel
theorem dL_law_1403 : decode cL_law 1403 = .ok (.goto 4, 3) := by decide +kernel
theorem dL_law_1406 : decode cL_law 1406 = .ok (.iconst 0, 1) := by decide +kernel
theorem dL_law_1407 : decode cL_law 1407 = .ok (.ireturn, 1) := by decide +kernel
