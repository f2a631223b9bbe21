/-! written by wip/whole/pp.py out of wip/whole/src/37.ld8.lean -/

/-! ===== the law's instructions ===== -/
theorem dL_law_1243 : decode cL_law 1243 = .ok (.aload_n 3, 1) := by decide +kernel
theorem dL_law_1244 : decode cL_law 1244 = .ok (.iconst 0, 1) := by decide +kernel
theorem dL_law_1245 : decode cL_law 1245 = .ok (.laload, 1) := by decide +kernel
theorem dL_law_1246 : decode cL_law 1246 = .ok (.iload 7, 2) := by decide +kernel
theorem dL_law_1248 : decode cL_law 1248 = .ok (.i2l, 1) := by decide +kernel
theorem dL_law_1249 : decode cL_law 1249 = .ok (.lcmp, 1) := by decide +kernel
theorem dL_law_1250 : decode cL_law 1250 = .ok (.ifCond .eq 5, 3) := by decide +kernel
theorem dL_law_1253 : decode cL_law 1253 = .ok (.iconst 0, 1) := by decide +kernel
theorem dL_law_1254 : decode cL_law 1254 = .ok (.ireturn, 1) := by decide +kernel
theorem dL_law_1255 : decode cL_law 1255 = .ok (.goto 326, 3) := by decide +kernel
theorem dL_law_1258 : decode cL_law 1258 = .ok (.aload_n 1, 1) := by decide +kernel
theorem dL_law_1259 : decode cL_law 1259 = .ok (.aload_n 0, 1) := by decide +kernel
theorem dL_law_1260 : decode cL_law 1260 = .ok (.iload 5, 2) := by decide +kernel
theorem dL_law_1262 : decode cL_law 1262 = .ok (.iconst 1, 1) := by decide +kernel
theorem dL_law_1263 : decode cL_law 1263 = .ok (.iadd, 1) := by decide +kernel
theorem dL_law_1264 : decode cL_law 1264 = .ok (.iaload, 1) := by decide +kernel
theorem dL_law_1265 : decode cL_law 1265 = .ok (.aload_n 3, 1) := by decide +kernel
theorem dL_law_1266 : decode cL_law 1266 = .ok (.invokestatic 165, 3) := by decide +kernel
theorem dL_law_1269 : decode cL_law 1269 = .ok (.istore 6, 2) := by decide +kernel
theorem dL_law_1271 : decode cL_law 1271 = .ok (.aload_n 2, 1) := by decide +kernel
theorem dL_law_1272 : decode cL_law 1272 = .ok (.aload_n 0, 1) := by decide +kernel
theorem dL_law_1273 : decode cL_law 1273 = .ok (.iload 5, 2) := by decide +kernel
theorem dL_law_1275 : decode cL_law 1275 = .ok (.iconst 1, 1) := by decide +kernel
theorem dL_law_1276 : decode cL_law 1276 = .ok (.iadd, 1) := by decide +kernel
theorem dL_law_1277 : decode cL_law 1277 = .ok (.iaload, 1) := by decide +kernel
theorem dL_law_1278 : decode cL_law 1278 = .ok (.invokevirtual 167, 3) := by decide +kernel
theorem dL_law_1281 : decode cL_law 1281 = .ok (.istore 7, 2) := by decide +kernel
theorem dL_law_1283 : decode cL_law 1283 = .ok (.aload_n 2, 1) := by decide +kernel
theorem dL_law_1284 : decode cL_law 1284 = .ok (.invokevirtual 97, 3) := by decide +kernel
theorem dL_law_1287 : decode cL_law 1287 = .ok (.iload 6, 2) := by decide +kernel
theorem dL_law_1289 : decode cL_law 1289 = .ok (.if_icmp .eq 5, 3) := by decide +kernel
theorem dL_law_1292 : decode cL_law 1292 = .ok (.iconst 0, 1) := by decide +kernel
theorem dL_law_1293 : decode cL_law 1293 = .ok (.ireturn, 1) := by decide +kernel
theorem dL_law_1294 : decode cL_law 1294 = .ok (.iload 6, 2) := by decide +kernel
theorem dL_law_1296 : decode cL_law 1296 = .ok (.ifCond .ne 15, 3) := by decide +kernel
theorem dL_law_1299 : decode cL_law 1299 = .ok (.aload_n 3, 1) := by decide +kernel
theorem dL_law_1300 : decode cL_law 1300 = .ok (.iconst 0, 1) := by decide +kernel
theorem dL_law_1301 : decode cL_law 1301 = .ok (.laload, 1) := by decide +kernel
theorem dL_law_1302 : decode cL_law 1302 = .ok (.iload 7, 2) := by decide +kernel
theorem dL_law_1304 : decode cL_law 1304 = .ok (.i2l, 1) := by decide +kernel
theorem dL_law_1305 : decode cL_law 1305 = .ok (.lcmp, 1) := by decide +kernel
theorem dL_law_1306 : decode cL_law 1306 = .ok (.ifCond .eq 5, 3) := by decide +kernel
theorem dL_law_1309 : decode cL_law 1309 = .ok (.iconst 0, 1) := by decide +kernel
theorem dL_law_1310 : decode cL_law 1310 = .ok (.ireturn, 1) := by decide +kernel
theorem dL_law_1311 : decode cL_law 1311 = .ok (.goto 270, 3) := by decide +kernel
theorem dL_law_1314 : decode cL_law 1314 = .ok (.aload_n 1, 1) := by decide +kernel
theorem dL_law_1315 : decode cL_law 1315 = .ok (.aload_n 3, 1) := by decide +kernel
theorem dL_law_1316 : decode cL_law 1316 = .ok (.invokestatic 168, 3) := by decide +kernel
theorem dL_law_1319 : decode cL_law 1319 = .ok (.istore 6, 2) := by decide +kernel
theorem dL_law_1321 : decode cL_law 1321 = .ok (.aload_n 2, 1) := by decide +kernel
theorem dL_law_1322 : decode cL_law 1322 = .ok (.invokevirtual 171, 3) := by decide +kernel
theorem dL_law_1325 : decode cL_law 1325 = .ok (.istore 7, 2) := by decide +kernel
theorem dL_law_1327 : decode cL_law 1327 = .ok (.aload_n 2, 1) := by decide +kernel
theorem dL_law_1328 : decode cL_law 1328 = .ok (.invokevirtual 97, 3) := by decide +kernel
theorem dL_law_1331 : decode cL_law 1331 = .ok (.iload 6, 2) := by decide +kernel
theorem dL_law_1333 : decode cL_law 1333 = .ok (.if_icmp .eq 5, 3) := by decide +kernel
theorem dL_law_1336 : decode cL_law 1336 = .ok (.iconst 0, 1) := by decide +kernel
theorem dL_law_1337 : decode cL_law 1337 = .ok (.ireturn, 1) := by decide +kernel
theorem dL_law_1338 : decode cL_law 1338 = .ok (.iload 6, 2) := by decide +kernel
theorem dL_law_1340 : decode cL_law 1340 = .ok (.ifCond .ne 15, 3) := by decide +kernel
theorem dL_law_1343 : decode cL_law 1343 = .ok (.aload_n 3, 1) := by decide +kernel
theorem dL_law_1344 : decode cL_law 1344 = .ok (.iconst 0, 1) := by decide +kernel
theorem dL_law_1345 : decode cL_law 1345 = .ok (.laload, 1) := by decide +kernel
theorem dL_law_1346 : decode cL_law 1346 = .ok (.iload 7, 2) := by decide +kernel
theorem dL_law_1348 : decode cL_law 1348 = .ok (.i2l, 1) := by decide +kernel
theorem dL_law_1349 : decode cL_law 1349 = .ok (.lcmp, 1) := by decide +kernel
theorem dL_law_1350 : decode cL_law 1350 = .ok (.ifCond .eq 5, 3) := by decide +kernel
theorem dL_law_1353 : decode cL_law 1353 = .ok (.iconst 0, 1) := by decide +kernel
theorem dL_law_1354 : decode cL_law 1354 = .ok (.ireturn, 1) := by decide +kernel
theorem dL_law_1355 : decode cL_law 1355 = .ok (.goto 226, 3) := by decide +kernel
theorem dL_law_1358 : decode cL_law 1358 = .ok (.aload_n 1, 1) := by decide +kernel
theorem dL_law_1359 : decode cL_law 1359 = .ok (.invokevirtual 172, 3) := by decide +kernel
theorem dL_law_1362 : decode cL_law 1362 = .ok (.aload_n 2, 1) := by decide +kernel
theorem dL_law_1363 : decode cL_law 1363 = .ok (.invokevirtual 175, 3) := by decide +kernel
theorem dL_law_1366 : decode cL_law 1366 = .ok (.if_icmp .eq 215, 3) := by decide +kernel
theorem dL_law_1369 : decode cL_law 1369 = .ok (.iconst 0, 1) := by decide +kernel
theorem dL_law_1370 : decode cL_law 1370 = .ok (.ireturn, 1) := by decide +kernel
theorem dL_law_1371 : decode cL_law 1371 = .ok (.aload_n 1, 1) := by decide +kernel
theorem dL_law_1372 : decode cL_law 1372 = .ok (.aload_n 0, 1) := by decide +kernel
theorem dL_law_1373 : decode cL_law 1373 = .ok (.iload 5, 2) := by decide +kernel
theorem dL_law_1375 : decode cL_law 1375 = .ok (.iconst 1, 1) := by decide +kernel
theorem dL_law_1376 : decode cL_law 1376 = .ok (.iadd, 1) := by decide +kernel
theorem dL_law_1377 : decode cL_law 1377 = .ok (.iaload, 1) := by decide +kernel
theorem dL_law_1378 : decode cL_law 1378 = .ok (.aload_n 3, 1) := by decide +kernel
theorem dL_law_1379 : decode cL_law 1379 = .ok (.invokestatic 176, 3) := by decide +kernel
theorem dL_law_1382 : decode cL_law 1382 = .ok (.istore 6, 2) := by decide +kernel
theorem dL_law_1384 : decode cL_law 1384 = .ok (.aload_n 2, 1) := by decide +kernel
theorem dL_law_1385 : decode cL_law 1385 = .ok (.aload_n 0, 1) := by decide +kernel
theorem dL_law_1386 : decode cL_law 1386 = .ok (.iload 5, 2) := by decide +kernel
theorem dL_law_1388 : decode cL_law 1388 = .ok (.iconst 1, 1) := by decide +kernel
theorem dL_law_1389 : decode cL_law 1389 = .ok (.iadd, 1) := by decide +kernel
theorem dL_law_1390 : decode cL_law 1390 = .ok (.iaload, 1) := by decide +kernel
theorem dL_law_1391 : decode cL_law 1391 = .ok (.invokevirtual 178, 3) := by decide +kernel
theorem dL_law_1394 : decode cL_law 1394 = .ok (.istore 7, 2) := by decide +kernel
theorem dL_law_1396 : decode cL_law 1396 = .ok (.aload_n 2, 1) := by decide +kernel
theorem dL_law_1397 : decode cL_law 1397 = .ok (.invokevirtual 97, 3) := by decide +kernel
theorem dL_law_1400 : decode cL_law 1400 = .ok (.iload 6, 2) := by decide +kernel
theorem dL_law_1402 : decode cL_law 1402 = .ok (.if_icmp .eq 5, 3) := by decide +kernel
theorem dL_law_1405 : decode cL_law 1405 = .ok (.iconst 0, 1) := by decide +kernel
theorem dL_law_1406 : decode cL_law 1406 = .ok (.ireturn, 1) := by decide +kernel
