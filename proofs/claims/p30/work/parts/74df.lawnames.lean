/-! THE LAW: instructions and calls (of claim/NAMES.whole.lean.txt) -/
theorem dL_acts_1230 : decode cL_acts 1230 = .ok (.iconst 1, 1) := by decide +kernel
theorem dL_acts_1231 : decode cL_acts 1231 = .ok (.goto 4, 3) := by decide +kernel
theorem dL_acts_1234 : decode cL_acts 1234 = .ok (.iconst 0, 1) := by decide +kernel
theorem dL_acts_1235 : decode cL_acts 1235 = .ok (.ireturn, 1) := by decide +kernel
theorem dL_acts_1236 : decode cL_acts 1236 = .ok (.aload_n 1, 1) := by decide +kernel
theorem dL_acts_1237 : decode cL_acts 1237 = .ok (.aload 5, 2) := by decide +kernel
theorem dL_acts_1239 : decode cL_acts 1239 = .ok (.iload 11, 2) := by decide +kernel
theorem dL_acts_1241 : decode cL_acts 1241 = .ok (.iconst 0, 1) := by decide +kernel
theorem dL_acts_1242 : decode cL_acts 1242 = .ok (.iload 10, 2) := by decide +kernel
theorem dL_acts_1244 : decode cL_acts 1244 = .ok (.iload 12, 2) := by decide +kernel
theorem dL_acts_1246 : decode cL_acts 1246 = .ok (.iload 13, 2) := by decide +kernel
theorem dL_acts_1248 : decode cL_acts 1248 = .ok (.invokestatic 53, 3) := by decide +kernel
theorem dL_acts_1251 : decode cL_acts 1251 = .ok (.aload_n 0, 1) := by decide +kernel
theorem dL_acts_1252 : decode cL_acts 1252 = .ok (.iload 10, 2) := by decide +kernel
theorem dL_acts_1254 : decode cL_acts 1254 = .ok (.iload 11, 2) := by decide +kernel
theorem dL_acts_1256 : decode cL_acts 1256 = .ok (.iload 12, 2) := by decide +kernel
theorem dL_acts_1258 : decode cL_acts 1258 = .ok (.iload 13, 2) := by decide +kernel
theorem dL_acts_1260 : decode cL_acts 1260 = .ok (.invokevirtual 62, 3) := by decide +kernel
theorem dL_acts_1263 : decode cL_acts 1263 = .ok (.aload_n 1, 1) := by decide +kernel
theorem dL_acts_1264 : decode cL_acts 1264 = .ok (.iconst 2, 1) := by decide +kernel
theorem dL_acts_1265 : decode cL_acts 1265 = .ok (.iaload, 1) := by decide +kernel
theorem dL_acts_1266 : decode cL_acts 1266 = .ok (.if_icmp .ne 7, 3) := by decide +kernel
theorem dL_acts_1269 : decode cL_acts 1269 = .ok (.iconst 1, 1) := by decide +kernel
theorem dL_acts_1270 : decode cL_acts 1270 = .ok (.goto 4, 3) := by decide +kernel
theorem dL_acts_1273 : decode cL_acts 1273 = .ok (.iconst 0, 1) := by decide +kernel
theorem dL_acts_1274 : decode cL_acts 1274 = .ok (.ireturn, 1) := by decide +kernel
theorem dL_acts_1275 : decode cL_acts 1275 = .ok (.iload 9, 2) := by decide +kernel
theorem dL_acts_1277 : decode cL_acts 1277 = .ok (.bipush 15, 2) := by decide +kernel
theorem dL_acts_1279 : decode cL_acts 1279 = .ok (.if_icmp .ne 58, 3) := by decide +kernel
theorem dL_acts_1282 : decode cL_acts 1282 = .ok (.aload_n 1, 1) := by decide +kernel
theorem dL_acts_1283 : decode cL_acts 1283 = .ok (.iconst 2, 1) := by decide +kernel
theorem dL_acts_1284 : decode cL_acts 1284 = .ok (.iaload, 1) := by decide +kernel
theorem dL_acts_1285 : decode cL_acts 1285 = .ok (.ifCond .ne 18, 3) := by decide +kernel
theorem dL_acts_1288 : decode cL_acts 1288 = .ok (.aload_n 0, 1) := by decide +kernel
theorem dL_acts_1289 : decode cL_acts 1289 = .ok (.iconst 0, 1) := by decide +kernel
theorem dL_acts_1290 : decode cL_acts 1290 = .ok (.invokevirtual 66, 3) := by decide +kernel
theorem dL_acts_1293 : decode cL_acts 1293 = .ok (.iconst (-1), 1) := by decide +kernel
theorem dL_acts_1294 : decode cL_acts 1294 = .ok (.if_icmp .ne 7, 3) := by decide +kernel
theorem dL_acts_1297 : decode cL_acts 1297 = .ok (.iconst 1, 1) := by decide +kernel
theorem dL_acts_1298 : decode cL_acts 1298 = .ok (.goto 4, 3) := by decide +kernel
theorem dL_acts_1301 : decode cL_acts 1301 = .ok (.iconst 0, 1) := by decide +kernel
theorem dL_acts_1302 : decode cL_acts 1302 = .ok (.ireturn, 1) := by decide +kernel
theorem dL_acts_1303 : decode cL_acts 1303 = .ok (.iload 8, 2) := by decide +kernel
theorem dL_acts_1305 : decode cL_acts 1305 = .ok (.aload_n 1, 1) := by decide +kernel
theorem dL_acts_1306 : decode cL_acts 1306 = .ok (.iconst 2, 1) := by decide +kernel
theorem dL_acts_1307 : decode cL_acts 1307 = .ok (.iaload, 1) := by decide +kernel
theorem dL_acts_1308 : decode cL_acts 1308 = .ok (.irem, 1) := by decide +kernel
theorem dL_acts_1309 : decode cL_acts 1309 = .ok (.istore 11, 2) := by decide +kernel
theorem dL_acts_1311 : decode cL_acts 1311 = .ok (.aload_n 1, 1) := by decide +kernel
theorem dL_acts_1312 : decode cL_acts 1312 = .ok (.aload 5, 2) := by decide +kernel
theorem dL_acts_1314 : decode cL_acts 1314 = .ok (.iload 11, 2) := by decide +kernel
theorem dL_acts_1316 : decode cL_acts 1316 = .ok (.invokestatic 15, 3) := by decide +kernel
theorem dL_acts_1319 : decode cL_acts 1319 = .ok (.aload_n 0, 1) := by decide +kernel
theorem dL_acts_1320 : decode cL_acts 1320 = .ok (.iload 11, 2) := by decide +kernel
theorem dL_acts_1322 : decode cL_acts 1322 = .ok (.invokevirtual 66, 3) := by decide +kernel
theorem dL_acts_1325 : decode cL_acts 1325 = .ok (.aload_n 1, 1) := by decide +kernel
theorem dL_acts_1326 : decode cL_acts 1326 = .ok (.iconst 2, 1) := by decide +kernel
theorem dL_acts_1327 : decode cL_acts 1327 = .ok (.iaload, 1) := by decide +kernel
theorem dL_acts_1328 : decode cL_acts 1328 = .ok (.if_icmp .ne 7, 3) := by decide +kernel
theorem dL_acts_1331 : decode cL_acts 1331 = .ok (.iconst 1, 1) := by decide +kernel
theorem dL_acts_1332 : decode cL_acts 1332 = .ok (.goto 4, 3) := by decide +kernel
theorem dL_acts_1335 : decode cL_acts 1335 = .ok (.iconst 0, 1) := by decide +kernel
theorem dL_acts_1336 : decode cL_acts 1336 = .ok (.ireturn, 1) := by decide +kernel
theorem dL_acts_1337 : decode cL_acts 1337 = .ok (.iconst 1, 1) := by decide +kernel
theorem dL_acts_1338 : decode cL_acts 1338 = .ok (.iload 8, 2) := by decide +kernel
theorem dL_acts_1340 : decode cL_acts 1340 = .ok (.bipush 6, 2) := by decide +kernel
theorem dL_acts_1342 : decode cL_acts 1342 = .ok (.irem, 1) := by decide +kernel
theorem dL_acts_1343 : decode cL_acts 1343 = .ok (.iadd, 1) := by decide +kernel
theorem dL_acts_1344 : decode cL_acts 1344 = .ok (.istore 11, 2) := by decide +kernel
theorem dL_acts_1346 : decode cL_acts 1346 = .ok (.iconst 0, 1) := by decide +kernel
theorem dL_acts_1347 : decode cL_acts 1347 = .ok (.istore 12, 2) := by decide +kernel
theorem dL_acts_1349 : decode cL_acts 1349 = .ok (.iload 12, 2) := by decide +kernel
theorem dL_acts_1351 : decode cL_acts 1351 = .ok (.iload 11, 2) := by decide +kernel
theorem dL_acts_1353 : decode cL_acts 1353 = .ok (.if_icmp .ge 21, 3) := by decide +kernel
theorem dL_acts_1356 : decode cL_acts 1356 = .ok (.aload_n 1, 1) := by decide +kernel
theorem dL_acts_1357 : decode cL_acts 1357 = .ok (.aload_n 2, 1) := by decide +kernel
theorem dL_acts_1358 : decode cL_acts 1358 = .ok (.aload_n 3, 1) := by decide +kernel
theorem dL_acts_1359 : decode cL_acts 1359 = .ok (.aload 4, 2) := by decide +kernel
theorem dL_acts_1361 : decode cL_acts 1361 = .ok (.aload 5, 2) := by decide +kernel
theorem dL_acts_1363 : decode cL_acts 1363 = .ok (.aload 6, 2) := by decide +kernel
theorem dL_acts_1365 : decode cL_acts 1365 = .ok (.invokestatic 70, 3) := by decide +kernel
theorem dL_acts_1368 : decode cL_acts 1368 = .ok (.iinc 12 1, 3) := by decide +kernel
theorem dL_acts_1371 : decode cL_acts 1371 = .ok (.goto (-22), 3) := by decide +kernel
theorem dL_acts_1374 : decode cL_acts 1374 = .ok (.aload_n 0, 1) := by decide +kernel
theorem dL_acts_1375 : decode cL_acts 1375 = .ok (.iload 11, 2) := by decide +kernel
theorem dL_acts_1377 : decode cL_acts 1377 = .ok (.invokevirtual 74, 3) := by decide +kernel
theorem dL_acts_1380 : decode cL_acts 1380 = .ok (.aload_n 1, 1) := by decide +kernel
theorem dL_acts_1381 : decode cL_acts 1381 = .ok (.iconst 3, 1) := by decide +kernel
theorem dL_acts_1382 : decode cL_acts 1382 = .ok (.iaload, 1) := by decide +kernel
theorem dL_acts_1383 : decode cL_acts 1383 = .ok (.if_icmp .ne 7, 3) := by decide +kernel
theorem dL_acts_1386 : decode cL_acts 1386 = .ok (.iconst 1, 1) := by decide +kernel
theorem dL_acts_1387 : decode cL_acts 1387 = .ok (.goto 4, 3) := by decide +kernel
theorem dL_acts_1390 : decode cL_acts 1390 = .ok (.iconst 0, 1) := by decide +kernel
theorem dL_acts_1391 : decode cL_acts 1391 = .ok (.ireturn, 1) := by decide +kernel
set_option maxRecDepth 20000 in
theorem ggL_acts_L_low : GoodIn wsL_acts wsL_low := goodIn_r _ [8, 9] (by decide +kernel) (by decide +kernel)
set_option maxRecDepth 20000 in
theorem gL_acts_L_low : GoodIn wsL_acts (va_wsS RL 26 yL_low wsL_low) := goodIn_app (goodIn_of _ (by decide +kernel)) ggL_acts_L_low
set_option maxRecDepth 20000 in
theorem ggL_acts_X7_room : GoodIn wsL_acts wsX7_room := goodIn_r _ [14, 15, 16, 17, 18, 19, 13, 20, 21, 22, 23, 24, 25, 26, 27, 28, 29, 30, 31, 32, 33, 34, 35, 36, 37, 38, 39, 40, 41, 42, 43, 44, 45, 46, 47, 48, 49, 50, 51, 52, 53, 54, 55, 56, 57, 58, 59, 60, 61, 62, 63, 64, 65, 66, 67, 68, 69, 70, 71, 72, 73, 74, 75, 76, 77, 78, 79, 80, 81, 82, 83, 84, 85, 86, 87, 88, 89, 90, 91, 92, 93, 94, 95, 96, 97, 98, 99, 100, 101, 102, 103, 363, 364, 365, 366, 367, 368, 369, 370, 371, 372, 373, 374, 375, 376, 377, 378, 379, 380, 381, 382, 383, 384, 385, 386, 387, 388, 389, 390, 391, 392, 393, 394, 395, 396, 397, 398, 399, 400, 401, 402, 403] (by decide +kernel) (by decide +kernel)
set_option maxRecDepth 20000 in
theorem gL_acts_X7_room : GoodIn wsL_acts (wsV RL 30 RX7 yX7_room wsX7_room) := goodIn_app (goodIn_of _ (by decide +kernel)) ggL_acts_X7_room
set_option maxRecDepth 20000 in
theorem ggL_acts_X7_door : GoodIn wsL_acts wsX7_door := goodIn_r _ [107, 15, 108, 17, 109, 110, 111, 35, 112, 45, 37, 113, 114, 115, 13, 116, 18, 19, 20, 117, 118, 119, 120, 38, 121, 122, 123, 124, 125, 126, 67, 127, 69, 75, 21, 22, 23, 24, 25, 26, 27, 28, 29, 30, 31, 32, 33, 34, 36, 39, 40, 41, 42, 43, 44, 46, 47, 48, 49, 50, 51, 52, 53, 54, 55, 56, 57, 58, 59, 60, 61, 62, 63, 64, 65, 66, 68, 70, 71, 72, 73, 74, 76, 77, 78, 79, 80, 81, 82, 83, 84, 85, 86, 87, 88, 89, 90, 91, 92, 93, 94, 95, 128, 129, 130, 131, 132, 133, 134, 135, 363, 364, 365, 366, 367, 368, 369, 370, 371, 372, 373, 374, 375, 376, 377, 387, 388, 389, 390, 391, 392, 393, 394, 395, 396, 380, 381, 382, 383, 384, 385, 386, 378, 379, 397, 398, 399, 400, 401, 402, 403] (by decide +kernel) (by decide +kernel)
set_option maxRecDepth 20000 in
theorem gL_acts_X7_door : GoodIn wsL_acts (wsV RL 35 RX7 yX7_door wsX7_door) := goodIn_app (goodIn_of _ (by decide +kernel)) ggL_acts_X7_door
set_option maxRecDepth 20000 in
theorem ggL_acts_X7_open : GoodIn wsL_acts wsX7_open := goodIn_r _ [139, 15, 17, 140, 141, 142, 143, 35, 144, 46, 38, 18, 19, 13, 20, 145, 146, 147, 148, 149, 150, 151, 152, 153, 154, 155, 156, 40, 157, 158, 159, 160, 123, 110, 111, 112, 45, 37, 161, 162, 163, 54, 164, 56, 58, 21, 22, 23, 24, 25, 26, 27, 28, 29, 30, 31, 32, 33, 34, 36, 39, 41, 42, 43, 44, 47, 48, 49, 50, 51, 52, 53, 55, 57, 59, 60, 61, 62, 63, 64, 65, 66, 67, 68, 69, 70, 71, 72, 73, 74, 75, 76, 77, 78, 79, 80, 81, 82, 83, 84, 85, 86, 87, 88, 89, 90, 91, 92, 93, 94, 95, 165, 166, 167, 168, 363, 364, 365, 366, 367, 387, 388, 389, 390, 391, 392, 393, 394, 395, 396, 368, 369, 370, 371, 372, 373, 374, 375, 376, 377, 380, 381, 382, 383, 384, 385, 386, 378, 379, 397, 398, 399, 400, 401, 402, 403] (by decide +kernel) (by decide +kernel)
set_option maxRecDepth 20000 in
theorem gL_acts_X7_open : GoodIn wsL_acts (wsV RL 39 RX7 yX7_open wsX7_open) := goodIn_app (goodIn_of _ (by decide +kernel)) ggL_acts_X7_open
set_option maxRecDepth 20000 in
theorem ggL_acts_X7_lock : GoodIn wsL_acts wsX7_lock := goodIn_r _ [172, 15, 173, 17, 174, 140, 141, 142, 143, 35, 144, 46, 38, 18, 19, 13, 20, 21, 22, 23, 24, 25, 26, 27, 28, 29, 30, 31, 32, 33, 34, 36, 37, 39, 40, 41, 42, 43, 44, 45, 47, 48, 49, 50, 51, 52, 53, 54, 55, 56, 57, 58, 59, 60, 61, 62, 63, 64, 65, 66, 67, 68, 69, 70, 71, 72, 73, 74, 75, 76, 77, 78, 79, 80, 81, 82, 83, 84, 85, 86, 87, 88, 89, 90, 91, 92, 93, 94, 95, 363, 364, 365, 366, 367, 387, 388, 389, 390, 391, 392, 393, 394, 395, 396, 368, 369, 370, 371, 372, 373, 374, 375, 376, 377, 378, 379, 380, 381, 382, 383, 384, 385, 386, 397, 398, 399, 400, 401, 402, 403] (by decide +kernel) (by decide +kernel)
set_option maxRecDepth 20000 in
theorem gL_acts_X7_lock : GoodIn wsL_acts (wsV RL 42 RX7 yX7_lock wsX7_lock) := goodIn_app (goodIn_of _ (by decide +kernel)) ggL_acts_X7_lock
set_option maxRecDepth 20000 in
theorem ggL_acts_X7_planDoor : GoodIn wsL_acts wsX7_planDoor := goodIn_r _ [178, 15, 179, 180, 17, 181, 182, 141, 142, 143, 35, 144, 46, 38, 18, 19, 13, 20, 183, 184, 185, 82, 186, 84, 85, 21, 22, 23, 24, 25, 26, 27, 28, 29, 30, 31, 32, 33, 34, 36, 37, 39, 40, 41, 42, 43, 44, 45, 47, 48, 49, 50, 51, 52, 53, 54, 55, 56, 57, 58, 59, 60, 61, 62, 63, 64, 65, 66, 67, 68, 69, 70, 71, 72, 73, 74, 75, 76, 77, 78, 79, 80, 81, 83, 86, 87, 88, 89, 90, 91, 92, 93, 94, 95, 187, 188, 189, 190, 191, 192, 193, 194, 195, 196, 197, 198, 199, 200, 201, 202, 203, 363, 364, 365, 366, 367, 368, 369, 370, 371, 372, 373, 374, 375, 376, 377, 397, 398, 378, 379, 380, 381, 382, 383, 384, 385, 386, 387, 388, 389, 390, 391, 392, 393, 394, 395, 396, 399, 400, 401, 402, 403] (by decide +kernel) (by decide +kernel)
set_option maxRecDepth 20000 in
theorem gL_acts_X7_planDoor : GoodIn wsL_acts (wsV RL 45 RX7 yX7_planDoor wsX7_planDoor) := goodIn_app (goodIn_of _ (by decide +kernel)) ggL_acts_X7_planDoor
set_option maxRecDepth 20000 in
theorem ggL_acts_L_refused : GoodIn wsL_acts wsL_refused := goodIn_r _ [206] (by decide +kernel) (by decide +kernel)
set_option maxRecDepth 20000 in
theorem gL_acts_L_refused : GoodIn wsL_acts (va_wsS RL 49 yL_refused wsL_refused) := goodIn_app (goodIn_of _ (by decide +kernel)) ggL_acts_L_refused
set_option maxRecDepth 20000 in
theorem ggL_acts_L_puts : GoodIn wsL_acts wsL_puts := goodIn_r _ [209] (by decide +kernel) (by decide +kernel)
set_option maxRecDepth 20000 in
theorem gL_acts_L_puts : GoodIn wsL_acts (va_wsS RL 53 yL_puts wsL_puts) := goodIn_app (goodIn_of _ (by decide +kernel)) ggL_acts_L_puts
set_option maxRecDepth 20000 in
theorem ggL_acts_X7_set : GoodIn wsL_acts wsX7_set := goodIn_r _ [213, 214, 17, 15, 215, 18, 19, 13, 20, 21, 22, 23, 24, 25, 26, 27, 28, 29, 30, 31, 32, 33, 34, 35, 36, 37, 38, 39, 40, 41, 42, 43, 44, 45, 46, 47, 48, 49, 50, 51, 52, 53, 54, 55, 56, 57, 58, 59, 60, 61, 62, 63, 64, 65, 66, 67, 68, 69, 70, 71, 72, 73, 74, 75, 76, 77, 78, 79, 80, 81, 82, 83, 84, 85, 86, 87, 88, 89, 90, 91, 92, 93, 94, 95, 363, 364, 365, 366, 367, 368, 369, 370, 371, 372, 373, 374, 375, 376, 377, 378, 379, 380, 381, 382, 383, 384, 385, 386, 387, 388, 389, 390, 391, 392, 393, 394, 395, 396, 397, 398, 399, 400, 401, 402, 403] (by decide +kernel) (by decide +kernel)
set_option maxRecDepth 20000 in
theorem gL_acts_X7_set : GoodIn wsL_acts (wsV RL 58 RX7 yX7_set wsX7_set) := goodIn_app (goodIn_of _ (by decide +kernel)) ggL_acts_X7_set
set_option maxRecDepth 20000 in
theorem ggL_acts_X7_sound : GoodIn wsL_acts wsX7_sound := goodIn_r _ [219, 15, 214, 179, 181, 180, 220, 221, 17, 182, 109, 110, 111, 35, 112, 45, 37, 18, 19, 13, 20, 222, 223, 224, 89, 225, 91, 93, 92, 94, 95, 183, 184, 185, 82, 186, 84, 85, 226, 201, 202, 203, 21, 22, 23, 24, 25, 26, 27, 28, 29, 30, 31, 32, 33, 34, 36, 38, 39, 40, 41, 42, 43, 44, 46, 47, 48, 49, 50, 51, 52, 53, 54, 55, 56, 57, 58, 59, 60, 61, 62, 63, 64, 65, 66, 67, 68, 69, 70, 71, 72, 73, 74, 75, 76, 77, 78, 79, 80, 81, 83, 86, 87, 88, 90, 191, 192, 193, 194, 195, 196, 197, 198, 199, 200, 363, 364, 365, 366, 367, 368, 369, 370, 371, 372, 373, 374, 375, 376, 377, 397, 398, 399, 400, 401, 402, 403, 378, 379, 380, 381, 382, 383, 384, 385, 386, 387, 388, 389, 390, 391, 392, 393, 394, 395, 396] (by decide +kernel) (by decide +kernel)
set_option maxRecDepth 20000 in
theorem gL_acts_X7_sound : GoodIn wsL_acts (wsV RL 62 RX7 yX7_sound wsX7_sound) := goodIn_app (goodIn_of _ (by decide +kernel)) ggL_acts_X7_sound
set_option maxRecDepth 20000 in
theorem ggL_acts_X7_cancel : GoodIn wsL_acts wsX7_cancel := goodIn_r _ [230, 15, 180, 17, 182, 231, 232, 233, 82, 234, 84, 85, 21, 22, 23, 24, 25, 26, 27, 28, 29, 30, 31, 32, 33, 34, 35, 36, 37, 38, 39, 40, 41, 42, 43, 44, 45, 46, 47, 48, 49, 50, 51, 52, 53, 54, 55, 56, 57, 58, 59, 60, 61, 62, 63, 64, 65, 66, 67, 68, 69, 70, 71, 72, 73, 74, 75, 76, 77, 78, 79, 80, 81, 83, 86, 87, 88, 89, 90, 91, 92, 93, 94, 95, 235, 236, 237, 238, 239, 363, 364, 365, 366, 367, 368, 369, 370, 371, 372, 373, 374, 375, 376, 377, 397, 398, 378, 379, 380, 381, 382, 383, 384, 385, 386, 387, 388, 389, 390, 391, 392, 393, 394, 395, 396, 399, 400, 401, 402, 403] (by decide +kernel) (by decide +kernel)
set_option maxRecDepth 20000 in
theorem gL_acts_X7_cancel : GoodIn wsL_acts (wsV RL 66 RX7 yX7_cancel wsX7_cancel) := goodIn_app (goodIn_of _ (by decide +kernel)) ggL_acts_X7_cancel
set_option maxRecDepth 20000 in
theorem ggL_acts_L_ends : GoodIn wsL_acts wsL_ends := goodIn_r _ [242] (by decide +kernel) (by decide +kernel)
set_option maxRecDepth 20000 in
theorem gL_acts_L_ends : GoodIn wsL_acts (va_wsS RL 15 yL_ends wsL_ends) := goodIn_app (goodIn_of _ (by decide +kernel)) ggL_acts_L_ends
set_option maxRecDepth 20000 in
theorem ggL_acts_L_step : GoodIn wsL_acts wsL_step := goodIn_r _ [245, 246, 2, 247, 248, 7, 249, 240, 241, 242, 250, 251, 252] (by decide +kernel) (by decide +kernel)
set_option maxRecDepth 20000 in
theorem gL_acts_L_step : GoodIn wsL_acts (va_wsS RL 70 yL_step wsL_step) := goodIn_app (goodIn_of _ (by decide +kernel)) ggL_acts_L_step
set_option maxRecDepth 20000 in
theorem ggL_acts_X7_pass : GoodIn wsL_acts wsX7_pass := goodIn_r _ [256, 15, 179, 17, 18, 19, 13, 20, 21, 22, 23, 24, 25, 26, 27, 28, 29, 30, 31, 32, 33, 34, 35, 36, 37, 38, 39, 40, 41, 42, 43, 44, 45, 46, 47, 48, 49, 50, 51, 52, 53, 54, 55, 56, 57, 58, 59, 60, 61, 62, 63, 64, 65, 66, 67, 68, 69, 70, 71, 72, 73, 74, 75, 76, 77, 78, 79, 80, 81, 82, 83, 84, 85, 86, 87, 88, 89, 90, 91, 92, 93, 94, 95, 257, 258, 259, 260, 261, 262, 263, 264, 265, 266, 267, 268, 269, 270, 271, 272, 273, 274, 275, 276, 232, 233, 234, 277, 278, 279, 280, 281, 142, 143, 144, 282, 166, 167, 168, 283, 284, 285, 286, 156, 151, 287, 288, 289, 290, 291, 292, 154, 293, 294, 295, 296, 297, 298, 299, 300, 301, 302, 303, 304, 305, 306, 307, 308, 309, 310, 123, 110, 111, 112, 311, 312, 313, 314, 315, 316, 317, 318, 239, 319, 320, 321, 322, 323, 236, 237, 238, 324, 325, 326, 327, 328, 329, 330, 331, 332, 333, 334, 335, 336, 337, 338, 339, 340, 341, 342, 343, 344, 345, 346, 347, 348, 349, 350, 351, 352, 353, 354, 355, 356, 357, 358, 359, 360, 361, 362, 363, 364, 365, 366, 367, 368, 369, 370, 371, 372, 373, 374, 375, 376, 377, 378, 379, 380, 381, 382, 383, 384, 385, 386, 387, 388, 389, 390, 391, 392, 393, 394, 395, 396, 397, 398, 399, 400, 401, 402, 403] (by decide +kernel) (by decide +kernel)
set_option maxRecDepth 20000 in
theorem gL_acts_X7_pass : GoodIn wsL_acts (wsV RL 74 RX7 yX7_pass wsX7_pass) := goodIn_app (goodIn_of _ (by decide +kernel)) ggL_acts_X7_pass
