/-! THE LAW: instructions and calls (of claim/NAMES.whole.lean.txt) -/
theorem dL_acts_1230 : decode cL_acts 1230 = .ok (.iconst 1, 1) := by decide +kernel
theorem dL_acts_1231 : decode cL_acts 1231 = .ok (.goto 4, 3) := by decide +kernel
theorem dL_acts_1234 : decode cL_acts 1234 = .ok (.iconst 0, 1) := by decide +kernel
theorem dL_acts_1235 : decode cL_acts 1235 = .ok (.ireturn, 1) := by decide +kernel
theorem dL_acts_1236 : decode cL_acts 1236 = .ok (.aload_n 1, 1) := by decide +kernel
theorem dL_acts_1237 : decode cL_acts 1237 = .ok (.aload 5, 2) := by decide +kernel
theorem dL_acts_1239 : decode cL_acts 1239 = .ok (.iload 11, 2) := by decide +kernel
theorem dL_acts_1241 : decode cL_acts 1241 = .ok (.iconst 0, 1) := by decide +kernel
theorem dL_acts_1242 : decode cL_acts 1242 = .ok (.iload 10, 2) := by decide +kernel
theorem dL_acts_1244 : decode cL_acts 1244 = .ok (.iload 12, 2) := by decide +kernel
theorem dL_acts_1246 : decode cL_acts 1246 = .ok (.iload 13, 2) := by decide +kernel
theorem dL_acts_1248 : decode cL_acts 1248 = .ok (.invokestatic 53, 3) := by decide +kernel
theorem dL_acts_1251 : decode cL_acts 1251 = .ok (.aload_n 0, 1) := by decide +kernel
theorem dL_acts_1252 : decode cL_acts 1252 = .ok (.iload 10, 2) := by decide +kernel
theorem dL_acts_1254 : decode cL_acts 1254 = .ok (.iload 11, 2) := by decide +kernel
theorem dL_acts_1256 : decode cL_acts 1256 = .ok (.iload 12, 2) := by decide +kernel
theorem dL_acts_1258 : decode cL_acts 1258 = .ok (.iload 13, 2) := by decide +kernel
theorem dL_acts_1260 : decode cL_acts 1260 = .ok (.invokevirtual 62, 3) := by decide +kernel
theorem dL_acts_1263 : decode cL_acts 1263 = .ok (.aload_n 1, 1) := by decide +kernel
theorem dL_acts_1264 : decode cL_acts 1264 = .ok (.iconst 2, 1) := by decide +kernel
theorem dL_acts_1265 : decode cL_acts 1265 = .ok (.iaload, 1) := by decide +kernel
theorem dL_acts_1266 : decode cL_acts 1266 = .ok (.if_icmp .ne 7, 3) := by decide +kernel
theorem dL_acts_1269 : decode cL_acts 1269 = .ok (.iconst 1, 1) := by decide +kernel
theorem dL_acts_1270 : decode cL_acts 1270 = .ok (.goto 4, 3) := by decide +kernel
theorem dL_acts_1273 : decode cL_acts 1273 = .ok (.iconst 0, 1) := by decide +kernel
theorem dL_acts_1274 : decode cL_acts 1274 = .ok (.ireturn, 1) := by decide +kernel
theorem dL_acts_1275 : decode cL_acts 1275 = .ok (.iload 9, 2) := by decide +kernel
theorem dL_acts_1277 : decode cL_acts 1277 = .ok (.bipush 15, 2) := by decide +kernel
theorem dL_acts_1279 : decode cL_acts 1279 = .ok (.if_icmp .ne 58, 3) := by decide +kernel
theorem dL_acts_1282 : decode cL_acts 1282 = .ok (.aload_n 1, 1) := by decide +kernel
theorem dL_acts_1283 : decode cL_acts 1283 = .ok (.iconst 2, 1) := by decide +kernel
theorem dL_acts_1284 : decode cL_acts 1284 = .ok (.iaload, 1) := by decide +kernel
theorem dL_acts_1285 : decode cL_acts 1285 = .ok (.ifCond .ne 18, 3) := by decide +kernel
theorem dL_acts_1288 : decode cL_acts 1288 = .ok (.aload_n 0, 1) := by decide +kernel
theorem dL_acts_1289 : decode cL_acts 1289 = .ok (.iconst 0, 1) := by decide +kernel
theorem dL_acts_1290 : decode cL_acts 1290 = .ok (.invokevirtual 66, 3) := by decide +kernel
theorem dL_acts_1293 : decode cL_acts 1293 = .ok (.iconst (-1), 1) := by decide +kernel
theorem dL_acts_1294 : decode cL_acts 1294 = .ok (.if_icmp .ne 7, 3) := by decide +kernel
theorem dL_acts_1297 : decode cL_acts 1297 = .ok (.iconst 1, 1) := by decide +kernel
theorem dL_acts_1298 : decode cL_acts 1298 = .ok (.goto 4, 3) := by decide +kernel
theorem dL_acts_1301 : decode cL_acts 1301 = .ok (.iconst 0, 1) := by decide +kernel
theorem dL_acts_1302 : decode cL_acts 1302 = .ok (.ireturn, 1) := by decide +kernel
theorem dL_acts_1303 : decode cL_acts 1303 = .ok (.iload 8, 2) := by decide +kernel
theorem dL_acts_1305 : decode cL_acts 1305 = .ok (.aload_n 1, 1) := by decide +kernel
theorem dL_acts_1306 : decode cL_acts 1306 = .ok (.iconst 2, 1) := by decide +kernel
theorem dL_acts_1307 : decode cL_acts 1307 = .ok (.iaload, 1) := by decide +kernel
theorem dL_acts_1308 : decode cL_acts 1308 = .ok (.irem, 1) := by decide +kernel
theorem dL_acts_1309 : decode cL_acts 1309 = .ok (.istore 11, 2) := by decide +kernel
theorem dL_acts_1311 : decode cL_acts 1311 = .ok (.aload_n 1, 1) := by decide +kernel
theorem dL_acts_1312 : decode cL_acts 1312 = .ok (.aload 5, 2) := by decide +kernel
theorem dL_acts_1314 : decode cL_acts 1314 = .ok (.iload 11, 2) := by decide +kernel
theorem dL_acts_1316 : decode cL_acts 1316 = .ok (.invokestatic 15, 3) := by decide +kernel
theorem dL_acts_1319 : decode cL_acts 1319 = .ok (.aload_n 0, 1) := by decide +kernel
theorem dL_acts_1320 : decode cL_acts 1320 = .ok (.iload 11, 2) := by decide +kernel
theorem dL_acts_1322 : decode cL_acts 1322 = .ok (.invokevirtual 66, 3) := by decide +kernel
theorem dL_acts_1325 : decode cL_acts 1325 = .ok (.aload_n 1, 1) := by decide +kernel
theorem dL_acts_1326 : decode cL_acts 1326 = .ok (.iconst 2, 1) := by decide +kernel
theorem dL_acts_1327 : decode cL_acts 1327 = .ok (.iaload, 1) := by decide +kernel
theorem dL_acts_1328 : decode cL_acts 1328 = .ok (.if_icmp .ne 7, 3) := by decide +kernel
theorem dL_acts_1331 : decode cL_acts 1331 = .ok (.iconst 1, 1) := by decide +kernel
theorem dL_acts_1332 : decode cL_acts 1332 = .ok (.goto 4, 3) := by decide +kernel
theorem dL_acts_1335 : decode cL_acts 1335 = .ok (.iconst 0, 1) := by decide +kernel
theorem dL_acts_1336 : decode cL_acts 1336 = .ok (.ireturn, 1) := by decide +kernel
theorem dL_acts_1337 : decode cL_acts 1337 = .ok (.iconst 1, 1) := by decide +kernel
theorem dL_acts_1338 : decode cL_acts 1338 = .ok (.iload 8, 2) := by decide +kernel
theorem dL_acts_1340 : decode cL_acts 1340 = .ok (.bipush 6, 2) := by decide +kernel
theorem dL_acts_1342 : decode cL_acts 1342 = .ok (.irem, 1) := by decide +kernel
theorem dL_acts_1343 : decode cL_acts 1343 = .ok (.iadd, 1) := by decide +kernel
theorem dL_acts_1344 : decode cL_acts 1344 = .ok (.istore 11, 2) := by decide +kernel
theorem dL_acts_1346 : decode cL_acts 1346 = .ok (.iconst 0, 1) := by decide +kernel
theorem dL_acts_1347 : decode cL_acts 1347 = .ok (.istore 12, 2) := by decide +kernel
theorem dL_acts_1349 : decode cL_acts 1349 = .ok (.iload 12, 2) := by decide +kernel
theorem dL_acts_1351 : decode cL_acts 1351 = .ok (.iload 11, 2) := by decide +kernel
theorem dL_acts_1353 : decode cL_acts 1353 = .ok (.if_icmp .ge 21, 3) := by decide +kernel
theorem dL_acts_1356 : decode cL_acts 1356 = .ok (.aload_n 1, 1) := by decide +kernel
theorem dL_acts_1357 : decode cL_acts 1357 = .ok (.aload_n 2, 1) := by decide +kernel
theorem dL_acts_1358 : decode cL_acts 1358 = .ok (.aload_n 3, 1) := by decide +kernel
theorem dL_acts_1359 : decode cL_acts 1359 = .ok (.aload 4, 2) := by decide +kernel
theorem dL_acts_1361 : decode cL_acts 1361 = .ok (.aload 5, 2) := by decide +kernel
theorem dL_acts_1363 : decode cL_acts 1363 = .ok (.aload 6, 2) := by decide +kernel
theorem dL_acts_1365 : decode cL_acts 1365 = .ok (.invokestatic 70, 3) := by decide +kernel
theorem dL_acts_1368 : decode cL_acts 1368 = .ok (.iinc 12 1, 3) := by decide +kernel
theorem dL_acts_1371 : decode cL_acts 1371 = .ok (.goto (-22), 3) := by decide +kernel
theorem dL_acts_1374 : decode cL_acts 1374 = .ok (.aload_n 0, 1) := by decide +kernel
theorem dL_acts_1375 : decode cL_acts 1375 = .ok (.iload 11, 2) := by decide +kernel
theorem dL_acts_1377 : decode cL_acts 1377 = .ok (.invokevirtual 74, 3) := by decide +kernel
theorem dL_acts_1380 : decode cL_acts 1380 = .ok (.aload_n 1, 1) := by decide +kernel
theorem dL_acts_1381 : decode cL_acts 1381 = .ok (.iconst 3, 1) := by decide +kernel
theorem dL_acts_1382 : decode cL_acts 1382 = .ok (.iaload, 1) := by decide +kernel
theorem dL_acts_1383 : decode cL_acts 1383 = .ok (.if_icmp .ne 7, 3) := by decide +kernel
theorem dL_acts_1386 : decode cL_acts 1386 = .ok (.iconst 1, 1) := by decide +kernel
theorem dL_acts_1387 : decode cL_acts 1387 = .ok (.goto 4, 3) := by decide +kernel
theorem dL_acts_1390 : decode cL_acts 1390 = .ok (.iconst 0, 1) := by decide +kernel
theorem dL_acts_1391 : decode cL_acts 1391 = .ok (.ireturn, 1) := by decide +kernel
