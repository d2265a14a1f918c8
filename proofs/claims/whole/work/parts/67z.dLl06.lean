theorem dL_law_1150 : decode jL_law.2.1 1150 = .ok (.ireturn, 1) := by decide +kernel
theorem dL_law_1151 : decode jL_law.2.1 1151 = .ok (.iload 5, 2) := by decide +kernel
theorem dL_law_1153 : decode jL_law.2.1 1153 = .ok (.ifCond .ne 15, 3) := by decide +kernel
theorem dL_law_1156 : decode jL_law.2.1 1156 = .ok (.aload_n 3, 1) := by decide +kernel
theorem dL_law_1157 : decode jL_law.2.1 1157 = .ok (.iconst 0, 1) := by decide +kernel
theorem dL_law_1158 : decode jL_law.2.1 1158 = .ok (.laload, 1) := by decide +kernel
theorem dL_law_1159 : decode jL_law.2.1 1159 = .ok (.iload 6, 2) := by decide +kernel
theorem dL_law_1161 : decode jL_law.2.1 1161 = .ok (.i2l, 1) := by decide +kernel
theorem dL_law_1162 : decode jL_law.2.1 1162 = .ok (.lcmp, 1) := by decide +kernel
theorem dL_law_1163 : decode jL_law.2.1 1163 = .ok (.ifCond .eq 5, 3) := by decide +kernel
theorem dL_law_1166 : decode jL_law.2.1 1166 = .ok (.iconst 0, 1) := by decide +kernel
theorem dL_law_1167 : decode jL_law.2.1 1167 = .ok (.ireturn, 1) := by decide +kernel
theorem dL_law_1168 : decode jL_law.2.1 1168 = .ok (.goto 345, 3) := by decide +kernel
theorem dL_law_1171 : decode jL_law.2.1 1171 = .ok (.aload_n 1, 1) := by decide +kernel
theorem dL_law_1172 : decode jL_law.2.1 1172 = .ok (.aload_n 0, 1) := by decide +kernel
theorem dL_law_1173 : decode jL_law.2.1 1173 = .ok (.iload 4, 2) := by decide +kernel
theorem dL_law_1175 : decode jL_law.2.1 1175 = .ok (.iconst 1, 1) := by decide +kernel
theorem dL_law_1176 : decode jL_law.2.1 1176 = .ok (.iadd, 1) := by decide +kernel
theorem dL_law_1177 : decode jL_law.2.1 1177 = .ok (.iaload, 1) := by decide +kernel
theorem dL_law_1178 : decode jL_law.2.1 1178 = .ok (.invokestatic 125, 3) := by decide +kernel
theorem dL_law_1181 : decode jL_law.2.1 1181 = .ok (.istore 5, 2) := by decide +kernel
theorem dL_law_1183 : decode jL_law.2.1 1183 = .ok (.aload_n 2, 1) := by decide +kernel
theorem dL_law_1184 : decode jL_law.2.1 1184 = .ok (.aload_n 0, 1) := by decide +kernel
theorem dL_law_1185 : decode jL_law.2.1 1185 = .ok (.iload 4, 2) := by decide +kernel
theorem dL_law_1187 : decode jL_law.2.1 1187 = .ok (.iconst 1, 1) := by decide +kernel
theorem dL_law_1188 : decode jL_law.2.1 1188 = .ok (.iadd, 1) := by decide +kernel
theorem dL_law_1189 : decode jL_law.2.1 1189 = .ok (.iaload, 1) := by decide +kernel
theorem dL_law_1190 : decode jL_law.2.1 1190 = .ok (.invokevirtual 128, 3) := by decide +kernel
theorem dL_law_1193 : decode jL_law.2.1 1193 = .ok (.aload_n 2, 1) := by decide +kernel
theorem dL_law_1194 : decode jL_law.2.1 1194 = .ok (.invokevirtual 87, 3) := by decide +kernel
theorem dL_law_1197 : decode jL_law.2.1 1197 = .ok (.iload 5, 2) := by decide +kernel
theorem dL_law_1199 : decode jL_law.2.1 1199 = .ok (.if_icmp .eq 5, 3) := by decide +kernel
theorem dL_law_1202 : decode jL_law.2.1 1202 = .ok (.iconst 0, 1) := by decide +kernel
theorem dL_law_1203 : decode jL_law.2.1 1203 = .ok (.ireturn, 1) := by decide +kernel
theorem dL_law_1204 : decode jL_law.2.1 1204 = .ok (.goto 309, 3) := by decide +kernel
theorem dL_law_1207 : decode jL_law.2.1 1207 = .ok (.aload_n 1, 1) := by decide +kernel
theorem dL_law_1208 : decode jL_law.2.1 1208 = .ok (.aload_n 0, 1) := by decide +kernel
theorem dL_law_1209 : decode jL_law.2.1 1209 = .ok (.iload 4, 2) := by decide +kernel
theorem dL_law_1211 : decode jL_law.2.1 1211 = .ok (.iconst 1, 1) := by decide +kernel
theorem dL_law_1212 : decode jL_law.2.1 1212 = .ok (.iadd, 1) := by decide +kernel
theorem dL_law_1213 : decode jL_law.2.1 1213 = .ok (.iaload, 1) := by decide +kernel
theorem dL_law_1214 : decode jL_law.2.1 1214 = .ok (.aload_n 3, 1) := by decide +kernel
theorem dL_law_1215 : decode jL_law.2.1 1215 = .ok (.invokestatic 129, 3) := by decide +kernel
theorem dL_law_1218 : decode jL_law.2.1 1218 = .ok (.istore 5, 2) := by decide +kernel
theorem dL_law_1220 : decode jL_law.2.1 1220 = .ok (.aload_n 2, 1) := by decide +kernel
theorem dL_law_1221 : decode jL_law.2.1 1221 = .ok (.aload_n 0, 1) := by decide +kernel
theorem dL_law_1222 : decode jL_law.2.1 1222 = .ok (.iload 4, 2) := by decide +kernel
theorem dL_law_1224 : decode jL_law.2.1 1224 = .ok (.iconst 1, 1) := by decide +kernel
theorem dL_law_1225 : decode jL_law.2.1 1225 = .ok (.iadd, 1) := by decide +kernel
theorem dL_law_1226 : decode jL_law.2.1 1226 = .ok (.iaload, 1) := by decide +kernel
theorem dL_law_1227 : decode jL_law.2.1 1227 = .ok (.invokevirtual 132, 3) := by decide +kernel
theorem dL_law_1230 : decode jL_law.2.1 1230 = .ok (.istore 6, 2) := by decide +kernel
theorem dL_law_1232 : decode jL_law.2.1 1232 = .ok (.aload_n 2, 1) := by decide +kernel
theorem dL_law_1233 : decode jL_law.2.1 1233 = .ok (.invokevirtual 87, 3) := by decide +kernel
theorem dL_law_1236 : decode jL_law.2.1 1236 = .ok (.iload 5, 2) := by decide +kernel
theorem dL_law_1238 : decode jL_law.2.1 1238 = .ok (.if_icmp .eq 5, 3) := by decide +kernel
theorem dL_law_1241 : decode jL_law.2.1 1241 = .ok (.iconst 0, 1) := by decide +kernel
theorem dL_law_1242 : decode jL_law.2.1 1242 = .ok (.ireturn, 1) := by decide +kernel
theorem dL_law_1243 : decode jL_law.2.1 1243 = .ok (.iload 5, 2) := by decide +kernel
theorem dL_law_1245 : decode jL_law.2.1 1245 = .ok (.ifCond .ne 22, 3) := by decide +kernel
theorem dL_law_1248 : decode jL_law.2.1 1248 = .ok (.aload_n 3, 1) := by decide +kernel
theorem dL_law_1249 : decode jL_law.2.1 1249 = .ok (.iconst 0, 1) := by decide +kernel
theorem dL_law_1250 : decode jL_law.2.1 1250 = .ok (.laload, 1) := by decide +kernel
theorem dL_law_1251 : decode jL_law.2.1 1251 = .ok (.iload 6, 2) := by decide +kernel
theorem dL_law_1253 : decode jL_law.2.1 1253 = .ok (.ifCond .eq 7, 3) := by decide +kernel
theorem dL_law_1256 : decode jL_law.2.1 1256 = .ok (.lconst 1, 1) := by decide +kernel
theorem dL_law_1257 : decode jL_law.2.1 1257 = .ok (.goto 4, 3) := by decide +kernel
theorem dL_law_1260 : decode jL_law.2.1 1260 = .ok (.lconst 0, 1) := by decide +kernel
theorem dL_law_1261 : decode jL_law.2.1 1261 = .ok (.lcmp, 1) := by decide +kernel
theorem dL_law_1262 : decode jL_law.2.1 1262 = .ok (.ifCond .eq 5, 3) := by decide +kernel
theorem dL_law_1265 : decode jL_law.2.1 1265 = .ok (.iconst 0, 1) := by decide +kernel
theorem dL_law_1266 : decode jL_law.2.1 1266 = .ok (.ireturn, 1) := by decide +kernel
theorem dL_law_1267 : decode jL_law.2.1 1267 = .ok (.goto 246, 3) := by decide +kernel
theorem dL_law_1270 : decode jL_law.2.1 1270 = .ok (.aload_n 1, 1) := by decide +kernel
theorem dL_law_1271 : decode jL_law.2.1 1271 = .ok (.aload_n 0, 1) := by decide +kernel
theorem dL_law_1272 : decode jL_law.2.1 1272 = .ok (.iload 4, 2) := by decide +kernel
theorem dL_law_1274 : decode jL_law.2.1 1274 = .ok (.iconst 1, 1) := by decide +kernel
theorem dL_law_1275 : decode jL_law.2.1 1275 = .ok (.iadd, 1) := by decide +kernel
theorem dL_law_1276 : decode jL_law.2.1 1276 = .ok (.iaload, 1) := by decide +kernel
theorem dL_law_1277 : decode jL_law.2.1 1277 = .ok (.aload_n 3, 1) := by decide +kernel
theorem dL_law_1278 : decode jL_law.2.1 1278 = .ok (.invokestatic 133, 3) := by decide +kernel
theorem dL_law_1281 : decode jL_law.2.1 1281 = .ok (.istore 5, 2) := by decide +kernel
theorem dL_law_1283 : decode jL_law.2.1 1283 = .ok (.aload_n 2, 1) := by decide +kernel
theorem dL_law_1284 : decode jL_law.2.1 1284 = .ok (.aload_n 0, 1) := by decide +kernel
theorem dL_law_1285 : decode jL_law.2.1 1285 = .ok (.iload 4, 2) := by decide +kernel
theorem dL_law_1287 : decode jL_law.2.1 1287 = .ok (.iconst 1, 1) := by decide +kernel
theorem dL_law_1288 : decode jL_law.2.1 1288 = .ok (.iadd, 1) := by decide +kernel
theorem dL_law_1289 : decode jL_law.2.1 1289 = .ok (.iaload, 1) := by decide +kernel
theorem dL_law_1290 : decode jL_law.2.1 1290 = .ok (.invokevirtual 135, 3) := by decide +kernel
theorem dL_law_1293 : decode jL_law.2.1 1293 = .ok (.istore 6, 2) := by decide +kernel
theorem dL_law_1295 : decode jL_law.2.1 1295 = .ok (.aload_n 2, 1) := by decide +kernel
theorem dL_law_1296 : decode jL_law.2.1 1296 = .ok (.invokevirtual 87, 3) := by decide +kernel
theorem dL_law_1299 : decode jL_law.2.1 1299 = .ok (.iload 5, 2) := by decide +kernel
theorem dL_law_1301 : decode jL_law.2.1 1301 = .ok (.if_icmp .eq 5, 3) := by decide +kernel
theorem dL_law_1304 : decode jL_law.2.1 1304 = .ok (.iconst 0, 1) := by decide +kernel
theorem dL_law_1305 : decode jL_law.2.1 1305 = .ok (.ireturn, 1) := by decide +kernel
theorem dL_law_1306 : decode jL_law.2.1 1306 = .ok (.iload 5, 2) := by decide +kernel
theorem dL_law_1308 : decode jL_law.2.1 1308 = .ok (.ifCond .ne 15, 3) := by decide +kernel
theorem dL_law_1311 : decode jL_law.2.1 1311 = .ok (.aload_n 3, 1) := by decide +kernel
theorem dL_law_1312 : decode jL_law.2.1 1312 = .ok (.iconst 0, 1) := by decide +kernel
theorem dL_law_1313 : decode jL_law.2.1 1313 = .ok (.laload, 1) := by decide +kernel
theorem dL_law_1314 : decode jL_law.2.1 1314 = .ok (.iload 6, 2) := by decide +kernel
theorem dL_law_1316 : decode jL_law.2.1 1316 = .ok (.i2l, 1) := by decide +kernel
theorem dL_law_1317 : decode jL_law.2.1 1317 = .ok (.lcmp, 1) := by decide +kernel
theorem dL_law_1318 : decode jL_law.2.1 1318 = .ok (.ifCond .eq 5, 3) := by decide +kernel
theorem dL_law_1321 : decode jL_law.2.1 1321 = .ok (.iconst 0, 1) := by decide +kernel
theorem dL_law_1322 : decode jL_law.2.1 1322 = .ok (.ireturn, 1) := by decide +kernel
theorem dL_law_1323 : decode jL_law.2.1 1323 = .ok (.goto 190, 3) := by decide +kernel
theorem dL_law_1326 : decode jL_law.2.1 1326 = .ok (.aload_n 1, 1) := by decide +kernel
theorem dL_law_1327 : decode jL_law.2.1 1327 = .ok (.aload_n 0, 1) := by decide +kernel
theorem dL_law_1328 : decode jL_law.2.1 1328 = .ok (.iload 4, 2) := by decide +kernel
theorem dL_law_1330 : decode jL_law.2.1 1330 = .ok (.iconst 1, 1) := by decide +kernel
theorem dL_law_1331 : decode jL_law.2.1 1331 = .ok (.iadd, 1) := by decide +kernel
theorem dL_law_1332 : decode jL_law.2.1 1332 = .ok (.iaload, 1) := by decide +kernel
theorem dL_law_1333 : decode jL_law.2.1 1333 = .ok (.aload_n 0, 1) := by decide +kernel
theorem dL_law_1334 : decode jL_law.2.1 1334 = .ok (.iload 4, 2) := by decide +kernel
theorem dL_law_1336 : decode jL_law.2.1 1336 = .ok (.iconst 2, 1) := by decide +kernel
theorem dL_law_1337 : decode jL_law.2.1 1337 = .ok (.iadd, 1) := by decide +kernel
theorem dL_law_1338 : decode jL_law.2.1 1338 = .ok (.iaload, 1) := by decide +kernel
theorem dL_law_1339 : decode jL_law.2.1 1339 = .ok (.aload_n 3, 1) := by decide +kernel
