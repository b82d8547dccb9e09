def ys1274 : ySp := (285, 2, (0, [], [], [], [(0, (0, yc 20, yc 0)), (1, (0, yc 31, yc 0))], []), [(0, [], [], [], [], [])], [])
def yx1274 : yCx := ([ys1273], ys1274.2.2.2.2, yFP, zm285.2.2.1, zm285.2.2.2.1, zc285, 0, ys1274.2.2.2.1, [], [])
theorem yw1274 : ywf ys1274.2.2.1 = true := by decide +kernel
theorem yk1274 : yver yx1274 ys1274.2.2.1 4000 = true := by decide +kernel
theorem yt1274 {E : zHp → Prop} (h : yEF E yFP) : yTs E 2 ys1274 := yver_s (x := yx1274) h (yal_c (yt1273 h) (by decide) yw1273 (yal_n)) yg285 yk1274
def ys1275 : ySp := (286, 2, (0, [], [], [], [(0, (2, yc 1020, yc 0)), (1, (0, yc 20, yc 0))], []), [(0, [], [], [], [], [(0, yc 111, yc 0)])], [])
def yx1275 : yCx := ([ys1274], ys1275.2.2.2.2, yFP, zm286.2.2.1, zm286.2.2.2.1, zc286, 0, ys1275.2.2.2.1, [], [])
theorem yw1275 : ywf ys1275.2.2.1 = true := by decide +kernel
theorem yk1275 : yver yx1275 ys1275.2.2.1 4000 = true := by decide +kernel
theorem yt1275 {E : zHp → Prop} (h : yEF E yFP) : yTs E 3 ys1275 := yver_s (x := yx1275) h (yal_c (yt1274 h) (by decide) yw1274 (yal_n)) yg286 yk1275
def ys1276 : ySp := (282, 2, (0, [], [], [], [(0, (2, yc 1001, yc 0)), (1, (0, yc 20, yc 0))], []), [(0, [], [], [], [], [(0, yc 111, yc 0)])], [])
def yx1276 : yCx := ([ys1192, ys1275], ys1276.2.2.2.2, yFP, zm282.2.2.1, zm282.2.2.2.1, zc282, 0, ys1276.2.2.2.1, [], [])
theorem yw1276 : ywf ys1276.2.2.1 = true := by decide +kernel
theorem yk1276 : yver yx1276 ys1276.2.2.1 4000 = true := by decide +kernel
theorem yt1276 {E : zHp → Prop} (h : yEF E yFP) : yTs E 4 ys1276 := yver_s (x := yx1276) h (yal_c (yt1192 h) (by decide) yw1192 (yal_c (yt1275 h) (by decide) yw1275 (yal_n))) yg282 yk1276
def ys1277 : ySp := (293, 3, (0, [], [], [], [(0, (0, yc 21, yc 0)), (1, (0, yc 31, yc 0)), (2, (7, yc 0, yc 0))], []), [(0, [], [], [], [], [(0, yc 21, yc 0)])], [])
def yx1277 : yCx := ([], ys1277.2.2.2.2, yFP, zm293.2.2.1, zm293.2.2.2.1, zc293, 0, ys1277.2.2.2.1, [], [])
theorem yw1277 : ywf ys1277.2.2.1 = true := by decide +kernel
theorem yk1277 : yver yx1277 ys1277.2.2.1 4000 = true := by decide +kernel
theorem yt1277 {E : zHp → Prop} (h : yEF E yFP) : yTs E 1 ys1277 := yver_s (x := yx1277) h (yal_n) yg293 yk1277
def ys1278 : ySp := (285, 2, (0, [], [], [], [(0, (0, yc 21, yc 0)), (1, (0, yc 31, yc 0))], []), [(0, [], [], [], [], [])], [])
def yx1278 : yCx := ([ys1277], ys1278.2.2.2.2, yFP, zm285.2.2.1, zm285.2.2.2.1, zc285, 0, ys1278.2.2.2.1, [], [])
theorem yw1278 : ywf ys1278.2.2.1 = true := by decide +kernel
theorem yk1278 : yver yx1278 ys1278.2.2.1 4000 = true := by decide +kernel
theorem yt1278 {E : zHp → Prop} (h : yEF E yFP) : yTs E 2 ys1278 := yver_s (x := yx1278) h (yal_c (yt1277 h) (by decide) yw1277 (yal_n)) yg285 yk1278
def ys1279 : ySp := (286, 2, (0, [], [], [], [(0, (2, yc 1020, yc 0)), (1, (0, yc 21, yc 0))], []), [(0, [], [], [], [], [(0, yc 114, yc 0)])], [])
def yx1279 : yCx := ([ys1278], ys1279.2.2.2.2, yFP, zm286.2.2.1, zm286.2.2.2.1, zc286, 0, ys1279.2.2.2.1, [], [])
theorem yw1279 : ywf ys1279.2.2.1 = true := by decide +kernel
theorem yk1279 : yver yx1279 ys1279.2.2.1 4000 = true := by decide +kernel
theorem yt1279 {E : zHp → Prop} (h : yEF E yFP) : yTs E 3 ys1279 := yver_s (x := yx1279) h (yal_c (yt1278 h) (by decide) yw1278 (yal_n)) yg286 yk1279
def ys1280 : ySp := (282, 2, (0, [], [], [], [(0, (2, yc 1001, yc 0)), (1, (0, yc 21, yc 0))], []), [(0, [], [], [], [], [(0, yc 114, yc 0)])], [])
def yx1280 : yCx := ([ys1192, ys1279], ys1280.2.2.2.2, yFP, zm282.2.2.1, zm282.2.2.2.1, zc282, 0, ys1280.2.2.2.1, [], [])
theorem yw1280 : ywf ys1280.2.2.1 = true := by decide +kernel
theorem yk1280 : yver yx1280 ys1280.2.2.1 4000 = true := by decide +kernel
theorem yt1280 {E : zHp → Prop} (h : yEF E yFP) : yTs E 4 ys1280 := yver_s (x := yx1280) h (yal_c (yt1192 h) (by decide) yw1192 (yal_c (yt1279 h) (by decide) yw1279 (yal_n))) yg282 yk1280
def ys1281 : ySp := (293, 3, (0, [], [], [], [(0, (0, yc 22, yc 0)), (1, (0, yc 31, yc 0)), (2, (7, yc 0, yc 0))], []), [(0, [], [], [], [], [(0, yc 22, yc 0)])], [])
def yx1281 : yCx := ([], ys1281.2.2.2.2, yFP, zm293.2.2.1, zm293.2.2.2.1, zc293, 0, ys1281.2.2.2.1, [], [])
theorem yw1281 : ywf ys1281.2.2.1 = true := by decide +kernel
theorem yk1281 : yver yx1281 ys1281.2.2.1 4000 = true := by decide +kernel
theorem yt1281 {E : zHp → Prop} (h : yEF E yFP) : yTs E 1 ys1281 := yver_s (x := yx1281) h (yal_n) yg293 yk1281
def ys1282 : ySp := (285, 2, (0, [], [], [], [(0, (0, yc 22, yc 0)), (1, (0, yc 31, yc 0))], []), [(0, [], [], [], [], [])], [])
def yx1282 : yCx := ([ys1281], ys1282.2.2.2.2, yFP, zm285.2.2.1, zm285.2.2.2.1, zc285, 0, ys1282.2.2.2.1, [], [])
theorem yw1282 : ywf ys1282.2.2.1 = true := by decide +kernel
theorem yk1282 : yver yx1282 ys1282.2.2.1 4000 = true := by decide +kernel
theorem yt1282 {E : zHp → Prop} (h : yEF E yFP) : yTs E 2 ys1282 := yver_s (x := yx1282) h (yal_c (yt1281 h) (by decide) yw1281 (yal_n)) yg285 yk1282
def ys1283 : ySp := (286, 2, (0, [], [], [], [(0, (2, yc 1020, yc 0)), (1, (0, yc 22, yc 0))], []), [(0, [], [], [], [], [(0, yc 107, yc 0)])], [])
def yx1283 : yCx := ([ys1282], ys1283.2.2.2.2, yFP, zm286.2.2.1, zm286.2.2.2.1, zc286, 0, ys1283.2.2.2.1, [], [])
theorem yw1283 : ywf ys1283.2.2.1 = true := by decide +kernel
theorem yk1283 : yver yx1283 ys1283.2.2.1 4000 = true := by decide +kernel
theorem yt1283 {E : zHp → Prop} (h : yEF E yFP) : yTs E 3 ys1283 := yver_s (x := yx1283) h (yal_c (yt1282 h) (by decide) yw1282 (yal_n)) yg286 yk1283
def ys1284 : ySp := (282, 2, (0, [], [], [], [(0, (2, yc 1001, yc 0)), (1, (0, yc 22, yc 0))], []), [(0, [], [], [], [], [(0, yc 107, yc 0)])], [])
def yx1284 : yCx := ([ys1192, ys1283], ys1284.2.2.2.2, yFP, zm282.2.2.1, zm282.2.2.2.1, zc282, 0, ys1284.2.2.2.1, [], [])
theorem yw1284 : ywf ys1284.2.2.1 = true := by decide +kernel
theorem yk1284 : yver yx1284 ys1284.2.2.1 4000 = true := by decide +kernel
theorem yt1284 {E : zHp → Prop} (h : yEF E yFP) : yTs E 4 ys1284 := yver_s (x := yx1284) h (yal_c (yt1192 h) (by decide) yw1192 (yal_c (yt1283 h) (by decide) yw1283 (yal_n))) yg282 yk1284
def ys1285 : ySp := (293, 3, (0, [], [], [], [(0, (0, yc 23, yc 0)), (1, (0, yc 31, yc 0)), (2, (7, yc 0, yc 0))], []), [(0, [], [], [], [], [(0, yc 23, yc 0)])], [])
def yx1285 : yCx := ([], ys1285.2.2.2.2, yFP, zm293.2.2.1, zm293.2.2.2.1, zc293, 0, ys1285.2.2.2.1, [], [])
theorem yw1285 : ywf ys1285.2.2.1 = true := by decide +kernel
theorem yk1285 : yver yx1285 ys1285.2.2.1 4000 = true := by decide +kernel
theorem yt1285 {E : zHp → Prop} (h : yEF E yFP) : yTs E 1 ys1285 := yver_s (x := yx1285) h (yal_n) yg293 yk1285
def ys1286 : ySp := (285, 2, (0, [], [], [], [(0, (0, yc 23, yc 0)), (1, (0, yc 31, yc 0))], []), [(0, [], [], [], [], [])], [])
def yx1286 : yCx := ([ys1285], ys1286.2.2.2.2, yFP, zm285.2.2.1, zm285.2.2.2.1, zc285, 0, ys1286.2.2.2.1, [], [])
theorem yw1286 : ywf ys1286.2.2.1 = true := by decide +kernel
theorem yk1286 : yver yx1286 ys1286.2.2.1 4000 = true := by decide +kernel
theorem yt1286 {E : zHp → Prop} (h : yEF E yFP) : yTs E 2 ys1286 := yver_s (x := yx1286) h (yal_c (yt1285 h) (by decide) yw1285 (yal_n)) yg285 yk1286
def ys1287 : ySp := (286, 2, (0, [], [], [], [(0, (2, yc 1020, yc 0)), (1, (0, yc 23, yc 0))], []), [(0, [], [], [], [], [(0, yc 32, yc 0)])], [])
def yx1287 : yCx := ([ys1286], ys1287.2.2.2.2, yFP, zm286.2.2.1, zm286.2.2.2.1, zc286, 0, ys1287.2.2.2.1, [], [])
theorem yw1287 : ywf ys1287.2.2.1 = true := by decide +kernel
theorem yk1287 : yver yx1287 ys1287.2.2.1 4000 = true := by decide +kernel
theorem yt1287 {E : zHp → Prop} (h : yEF E yFP) : yTs E 3 ys1287 := yver_s (x := yx1287) h (yal_c (yt1286 h) (by decide) yw1286 (yal_n)) yg286 yk1287
def ys1288 : ySp := (282, 2, (0, [], [], [], [(0, (2, yc 1001, yc 0)), (1, (0, yc 23, yc 0))], []), [(0, [], [], [], [], [(0, yc 32, yc 0)])], [])
def yx1288 : yCx := ([ys1192, ys1287], ys1288.2.2.2.2, yFP, zm282.2.2.1, zm282.2.2.2.1, zc282, 0, ys1288.2.2.2.1, [], [])
theorem yw1288 : ywf ys1288.2.2.1 = true := by decide +kernel
theorem yk1288 : yver yx1288 ys1288.2.2.1 4000 = true := by decide +kernel
theorem yt1288 {E : zHp → Prop} (h : yEF E yFP) : yTs E 4 ys1288 := yver_s (x := yx1288) h (yal_c (yt1192 h) (by decide) yw1192 (yal_c (yt1287 h) (by decide) yw1287 (yal_n))) yg282 yk1288
def ys1289 : ySp := (293, 3, (0, [], [], [], [(0, (0, yc 24, yc 0)), (1, (0, yc 31, yc 0)), (2, (7, yc 0, yc 0))], []), [(0, [], [], [], [], [(0, yc 24, yc 0)])], [])
def yx1289 : yCx := ([], ys1289.2.2.2.2, yFP, zm293.2.2.1, zm293.2.2.2.1, zc293, 0, ys1289.2.2.2.1, [], [])
theorem yw1289 : ywf ys1289.2.2.1 = true := by decide +kernel
theorem yk1289 : yver yx1289 ys1289.2.2.1 4000 = true := by decide +kernel
theorem yt1289 {E : zHp → Prop} (h : yEF E yFP) : yTs E 1 ys1289 := yver_s (x := yx1289) h (yal_n) yg293 yk1289
def ys1290 : ySp := (285, 2, (0, [], [], [], [(0, (0, yc 24, yc 0)), (1, (0, yc 31, yc 0))], []), [(0, [], [], [], [], [])], [])
def yx1290 : yCx := ([ys1289], ys1290.2.2.2.2, yFP, zm285.2.2.1, zm285.2.2.2.1, zc285, 0, ys1290.2.2.2.1, [], [])
theorem yw1290 : ywf ys1290.2.2.1 = true := by decide +kernel
theorem yk1290 : yver yx1290 ys1290.2.2.1 4000 = true := by decide +kernel
theorem yt1290 {E : zHp → Prop} (h : yEF E yFP) : yTs E 2 ys1290 := yver_s (x := yx1290) h (yal_c (yt1289 h) (by decide) yw1289 (yal_n)) yg285 yk1290
def ys1291 : ySp := (286, 2, (0, [], [], [], [(0, (2, yc 1020, yc 0)), (1, (0, yc 24, yc 0))], []), [(0, [], [], [], [], [(0, yc 116, yc 0)])], [])
def yx1291 : yCx := ([ys1290], ys1291.2.2.2.2, yFP, zm286.2.2.1, zm286.2.2.2.1, zc286, 0, ys1291.2.2.2.1, [], [])
theorem yw1291 : ywf ys1291.2.2.1 = true := by decide +kernel
theorem yk1291 : yver yx1291 ys1291.2.2.1 4000 = true := by decide +kernel
theorem yt1291 {E : zHp → Prop} (h : yEF E yFP) : yTs E 3 ys1291 := yver_s (x := yx1291) h (yal_c (yt1290 h) (by decide) yw1290 (yal_n)) yg286 yk1291
def ys1292 : ySp := (282, 2, (0, [], [], [], [(0, (2, yc 1001, yc 0)), (1, (0, yc 24, yc 0))], []), [(0, [], [], [], [], [(0, yc 116, yc 0)])], [])
def yx1292 : yCx := ([ys1192, ys1291], ys1292.2.2.2.2, yFP, zm282.2.2.1, zm282.2.2.2.1, zc282, 0, ys1292.2.2.2.1, [], [])
theorem yw1292 : ywf ys1292.2.2.1 = true := by decide +kernel
theorem yk1292 : yver yx1292 ys1292.2.2.1 4000 = true := by decide +kernel
theorem yt1292 {E : zHp → Prop} (h : yEF E yFP) : yTs E 4 ys1292 := yver_s (x := yx1292) h (yal_c (yt1192 h) (by decide) yw1192 (yal_c (yt1291 h) (by decide) yw1291 (yal_n))) yg282 yk1292
def ys1293 : ySp := (293, 3, (0, [], [], [], [(0, (0, yc 25, yc 0)), (1, (0, yc 31, yc 0)), (2, (7, yc 0, yc 0))], []), [(0, [], [], [], [], [(0, yc 25, yc 0)])], [])
def yx1293 : yCx := ([], ys1293.2.2.2.2, yFP, zm293.2.2.1, zm293.2.2.2.1, zc293, 0, ys1293.2.2.2.1, [], [])
theorem yw1293 : ywf ys1293.2.2.1 = true := by decide +kernel
theorem yk1293 : yver yx1293 ys1293.2.2.1 4000 = true := by decide +kernel
theorem yt1293 {E : zHp → Prop} (h : yEF E yFP) : yTs E 1 ys1293 := yver_s (x := yx1293) h (yal_n) yg293 yk1293
def ys1294 : ySp := (285, 2, (0, [], [], [], [(0, (0, yc 25, yc 0)), (1, (0, yc 31, yc 0))], []), [(0, [], [], [], [], [])], [])
def yx1294 : yCx := ([ys1293], ys1294.2.2.2.2, yFP, zm285.2.2.1, zm285.2.2.2.1, zc285, 0, ys1294.2.2.2.1, [], [])
theorem yw1294 : ywf ys1294.2.2.1 = true := by decide +kernel
theorem yk1294 : yver yx1294 ys1294.2.2.1 4000 = true := by decide +kernel
theorem yt1294 {E : zHp → Prop} (h : yEF E yFP) : yTs E 2 ys1294 := yver_s (x := yx1294) h (yal_c (yt1293 h) (by decide) yw1293 (yal_n)) yg285 yk1294
def ys1295 : ySp := (286, 2, (0, [], [], [], [(0, (2, yc 1020, yc 0)), (1, (0, yc 25, yc 0))], []), [(0, [], [], [], [], [(0, yc 104, yc 0)])], [])
def yx1295 : yCx := ([ys1294], ys1295.2.2.2.2, yFP, zm286.2.2.1, zm286.2.2.2.1, zc286, 0, ys1295.2.2.2.1, [], [])
theorem yw1295 : ywf ys1295.2.2.1 = true := by decide +kernel
theorem yk1295 : yver yx1295 ys1295.2.2.1 4000 = true := by decide +kernel
theorem yt1295 {E : zHp → Prop} (h : yEF E yFP) : yTs E 3 ys1295 := yver_s (x := yx1295) h (yal_c (yt1294 h) (by decide) yw1294 (yal_n)) yg286 yk1295
def ys1296 : ySp := (282, 2, (0, [], [], [], [(0, (2, yc 1001, yc 0)), (1, (0, yc 25, yc 0))], []), [(0, [], [], [], [], [(0, yc 104, yc 0)])], [])
def yx1296 : yCx := ([ys1192, ys1295], ys1296.2.2.2.2, yFP, zm282.2.2.1, zm282.2.2.2.1, zc282, 0, ys1296.2.2.2.1, [], [])
theorem yw1296 : ywf ys1296.2.2.1 = true := by decide +kernel
theorem yk1296 : yver yx1296 ys1296.2.2.1 4000 = true := by decide +kernel
theorem yt1296 {E : zHp → Prop} (h : yEF E yFP) : yTs E 4 ys1296 := yver_s (x := yx1296) h (yal_c (yt1192 h) (by decide) yw1192 (yal_c (yt1295 h) (by decide) yw1295 (yal_n))) yg282 yk1296
def ys1297 : ySp := (293, 3, (0, [], [], [], [(0, (0, yc 26, yc 0)), (1, (0, yc 31, yc 0)), (2, (7, yc 0, yc 0))], []), [(0, [], [], [], [], [(0, yc 26, yc 0)])], [])
def yx1297 : yCx := ([], ys1297.2.2.2.2, yFP, zm293.2.2.1, zm293.2.2.2.1, zc293, 0, ys1297.2.2.2.1, [], [])
theorem yw1297 : ywf ys1297.2.2.1 = true := by decide +kernel
theorem yk1297 : yver yx1297 ys1297.2.2.1 4000 = true := by decide +kernel
theorem yt1297 {E : zHp → Prop} (h : yEF E yFP) : yTs E 1 ys1297 := yver_s (x := yx1297) h (yal_n) yg293 yk1297
def ys1298 : ySp := (285, 2, (0, [], [], [], [(0, (0, yc 26, yc 0)), (1, (0, yc 31, yc 0))], []), [(0, [], [], [], [], [])], [])
def yx1298 : yCx := ([ys1297], ys1298.2.2.2.2, yFP, zm285.2.2.1, zm285.2.2.2.1, zc285, 0, ys1298.2.2.2.1, [], [])
theorem yw1298 : ywf ys1298.2.2.1 = true := by decide +kernel
theorem yk1298 : yver yx1298 ys1298.2.2.1 4000 = true := by decide +kernel
theorem yt1298 {E : zHp → Prop} (h : yEF E yFP) : yTs E 2 ys1298 := yver_s (x := yx1298) h (yal_c (yt1297 h) (by decide) yw1297 (yal_n)) yg285 yk1298
def ys1299 : ySp := (286, 2, (0, [], [], [], [(0, (2, yc 1020, yc 0)), (1, (0, yc 26, yc 0))], []), [(0, [], [], [], [], [(0, yc 97, yc 0)])], [])
def yx1299 : yCx := ([ys1298], ys1299.2.2.2.2, yFP, zm286.2.2.1, zm286.2.2.2.1, zc286, 0, ys1299.2.2.2.1, [], [])
theorem yw1299 : ywf ys1299.2.2.1 = true := by decide +kernel
theorem yk1299 : yver yx1299 ys1299.2.2.1 4000 = true := by decide +kernel
theorem yt1299 {E : zHp → Prop} (h : yEF E yFP) : yTs E 3 ys1299 := yver_s (x := yx1299) h (yal_c (yt1298 h) (by decide) yw1298 (yal_n)) yg286 yk1299
def ys1300 : ySp := (282, 2, (0, [], [], [], [(0, (2, yc 1001, yc 0)), (1, (0, yc 26, yc 0))], []), [(0, [], [], [], [], [(0, yc 97, yc 0)])], [])
def yx1300 : yCx := ([ys1192, ys1299], ys1300.2.2.2.2, yFP, zm282.2.2.1, zm282.2.2.2.1, zc282, 0, ys1300.2.2.2.1, [], [])
theorem yw1300 : ywf ys1300.2.2.1 = true := by decide +kernel
theorem yk1300 : yver yx1300 ys1300.2.2.1 4000 = true := by decide +kernel
theorem yt1300 {E : zHp → Prop} (h : yEF E yFP) : yTs E 4 ys1300 := yver_s (x := yx1300) h (yal_c (yt1192 h) (by decide) yw1192 (yal_c (yt1299 h) (by decide) yw1299 (yal_n))) yg282 yk1300
def ys1301 : ySp := (293, 3, (0, [], [], [], [(0, (0, yc 27, yc 0)), (1, (0, yc 31, yc 0)), (2, (7, yc 0, yc 0))], []), [(0, [], [], [], [], [(0, yc 27, yc 0)])], [])
def yx1301 : yCx := ([], ys1301.2.2.2.2, yFP, zm293.2.2.1, zm293.2.2.2.1, zc293, 0, ys1301.2.2.2.1, [], [])
theorem yw1301 : ywf ys1301.2.2.1 = true := by decide +kernel
theorem yk1301 : yver yx1301 ys1301.2.2.1 4000 = true := by decide +kernel
theorem yt1301 {E : zHp → Prop} (h : yEF E yFP) : yTs E 1 ys1301 := yver_s (x := yx1301) h (yal_n) yg293 yk1301
def ys1302 : ySp := (285, 2, (0, [], [], [], [(0, (0, yc 27, yc 0)), (1, (0, yc 31, yc 0))], []), [(0, [], [], [], [], [])], [])
def yx1302 : yCx := ([ys1301], ys1302.2.2.2.2, yFP, zm285.2.2.1, zm285.2.2.2.1, zc285, 0, ys1302.2.2.2.1, [], [])
theorem yw1302 : ywf ys1302.2.2.1 = true := by decide +kernel
theorem yk1302 : yver yx1302 ys1302.2.2.1 4000 = true := by decide +kernel
theorem yt1302 {E : zHp → Prop} (h : yEF E yFP) : yTs E 2 ys1302 := yver_s (x := yx1302) h (yal_c (yt1301 h) (by decide) yw1301 (yal_n)) yg285 yk1302
def ys1303 : ySp := (286, 2, (0, [], [], [], [(0, (2, yc 1020, yc 0)), (1, (0, yc 27, yc 0))], []), [(0, [], [], [], [], [(0, yc 110, yc 0)])], [])
def yx1303 : yCx := ([ys1302], ys1303.2.2.2.2, yFP, zm286.2.2.1, zm286.2.2.2.1, zc286, 0, ys1303.2.2.2.1, [], [])
theorem yw1303 : ywf ys1303.2.2.1 = true := by decide +kernel
theorem yk1303 : yver yx1303 ys1303.2.2.1 4000 = true := by decide +kernel
theorem yt1303 {E : zHp → Prop} (h : yEF E yFP) : yTs E 3 ys1303 := yver_s (x := yx1303) h (yal_c (yt1302 h) (by decide) yw1302 (yal_n)) yg286 yk1303
def ys1304 : ySp := (282, 2, (0, [], [], [], [(0, (2, yc 1001, yc 0)), (1, (0, yc 27, yc 0))], []), [(0, [], [], [], [], [(0, yc 110, yc 0)])], [])
def yx1304 : yCx := ([ys1192, ys1303], ys1304.2.2.2.2, yFP, zm282.2.2.1, zm282.2.2.2.1, zc282, 0, ys1304.2.2.2.1, [], [])
theorem yw1304 : ywf ys1304.2.2.1 = true := by decide +kernel
theorem yk1304 : yver yx1304 ys1304.2.2.1 4000 = true := by decide +kernel
theorem yt1304 {E : zHp → Prop} (h : yEF E yFP) : yTs E 4 ys1304 := yver_s (x := yx1304) h (yal_c (yt1192 h) (by decide) yw1192 (yal_c (yt1303 h) (by decide) yw1303 (yal_n))) yg282 yk1304
def ys1305 : ySp := (293, 3, (0, [], [], [], [(0, (0, yc 28, yc 0)), (1, (0, yc 31, yc 0)), (2, (7, yc 0, yc 0))], []), [(0, [], [], [], [], [(0, yc 28, yc 0)])], [])
def yx1305 : yCx := ([], ys1305.2.2.2.2, yFP, zm293.2.2.1, zm293.2.2.2.1, zc293, 0, ys1305.2.2.2.1, [], [])
theorem yw1305 : ywf ys1305.2.2.1 = true := by decide +kernel
theorem yk1305 : yver yx1305 ys1305.2.2.1 4000 = true := by decide +kernel
theorem yt1305 {E : zHp → Prop} (h : yEF E yFP) : yTs E 1 ys1305 := yver_s (x := yx1305) h (yal_n) yg293 yk1305
def ys1306 : ySp := (285, 2, (0, [], [], [], [(0, (0, yc 28, yc 0)), (1, (0, yc 31, yc 0))], []), [(0, [], [], [], [], [])], [])
def yx1306 : yCx := ([ys1305], ys1306.2.2.2.2, yFP, zm285.2.2.1, zm285.2.2.2.1, zc285, 0, ys1306.2.2.2.1, [], [])
theorem yw1306 : ywf ys1306.2.2.1 = true := by decide +kernel
theorem yk1306 : yver yx1306 ys1306.2.2.1 4000 = true := by decide +kernel
theorem yt1306 {E : zHp → Prop} (h : yEF E yFP) : yTs E 2 ys1306 := yver_s (x := yx1306) h (yal_c (yt1305 h) (by decide) yw1305 (yal_n)) yg285 yk1306
def ys1307 : ySp := (286, 2, (0, [], [], [], [(0, (2, yc 1020, yc 0)), (1, (0, yc 28, yc 0))], []), [(0, [], [], [], [], [(0, yc 107, yc 0)])], [])
def yx1307 : yCx := ([ys1306], ys1307.2.2.2.2, yFP, zm286.2.2.1, zm286.2.2.2.1, zc286, 0, ys1307.2.2.2.1, [], [])
theorem yw1307 : ywf ys1307.2.2.1 = true := by decide +kernel
theorem yk1307 : yver yx1307 ys1307.2.2.1 4000 = true := by decide +kernel
theorem yt1307 {E : zHp → Prop} (h : yEF E yFP) : yTs E 3 ys1307 := yver_s (x := yx1307) h (yal_c (yt1306 h) (by decide) yw1306 (yal_n)) yg286 yk1307
def ys1308 : ySp := (282, 2, (0, [], [], [], [(0, (2, yc 1001, yc 0)), (1, (0, yc 28, yc 0))], []), [(0, [], [], [], [], [(0, yc 107, yc 0)])], [])
def yx1308 : yCx := ([ys1192, ys1307], ys1308.2.2.2.2, yFP, zm282.2.2.1, zm282.2.2.2.1, zc282, 0, ys1308.2.2.2.1, [], [])
theorem yw1308 : ywf ys1308.2.2.1 = true := by decide +kernel
theorem yk1308 : yver yx1308 ys1308.2.2.1 4000 = true := by decide +kernel
theorem yt1308 {E : zHp → Prop} (h : yEF E yFP) : yTs E 4 ys1308 := yver_s (x := yx1308) h (yal_c (yt1192 h) (by decide) yw1192 (yal_c (yt1307 h) (by decide) yw1307 (yal_n))) yg282 yk1308
def ys1309 : ySp := (293, 3, (0, [], [], [], [(0, (0, yc 29, yc 0)), (1, (0, yc 31, yc 0)), (2, (7, yc 0, yc 0))], []), [(0, [], [], [], [], [(0, yc 29, yc 0)])], [])
def yx1309 : yCx := ([], ys1309.2.2.2.2, yFP, zm293.2.2.1, zm293.2.2.2.1, zc293, 0, ys1309.2.2.2.1, [], [])
theorem yw1309 : ywf ys1309.2.2.1 = true := by decide +kernel
theorem yk1309 : yver yx1309 ys1309.2.2.1 4000 = true := by decide +kernel
theorem yt1309 {E : zHp → Prop} (h : yEF E yFP) : yTs E 1 ys1309 := yver_s (x := yx1309) h (yal_n) yg293 yk1309
def ys1310 : ySp := (285, 2, (0, [], [], [], [(0, (0, yc 29, yc 0)), (1, (0, yc 31, yc 0))], []), [(0, [], [], [], [], [])], [])
def yx1310 : yCx := ([ys1309], ys1310.2.2.2.2, yFP, zm285.2.2.1, zm285.2.2.2.1, zc285, 0, ys1310.2.2.2.1, [], [])
theorem yw1310 : ywf ys1310.2.2.1 = true := by decide +kernel
theorem yk1310 : yver yx1310 ys1310.2.2.1 4000 = true := by decide +kernel
theorem yt1310 {E : zHp → Prop} (h : yEF E yFP) : yTs E 2 ys1310 := yver_s (x := yx1310) h (yal_c (yt1309 h) (by decide) yw1309 (yal_n)) yg285 yk1310
def ys1311 : ySp := (286, 2, (0, [], [], [], [(0, (2, yc 1020, yc 0)), (1, (0, yc 29, yc 0))], []), [(0, [], [], [], [], [(0, yc 115, yc 0)])], [])
def yx1311 : yCx := ([ys1310], ys1311.2.2.2.2, yFP, zm286.2.2.1, zm286.2.2.2.1, zc286, 0, ys1311.2.2.2.1, [], [])
theorem yw1311 : ywf ys1311.2.2.1 = true := by decide +kernel
theorem yk1311 : yver yx1311 ys1311.2.2.1 4000 = true := by decide +kernel
theorem yt1311 {E : zHp → Prop} (h : yEF E yFP) : yTs E 3 ys1311 := yver_s (x := yx1311) h (yal_c (yt1310 h) (by decide) yw1310 (yal_n)) yg286 yk1311
def ys1312 : ySp := (282, 2, (0, [], [], [], [(0, (2, yc 1001, yc 0)), (1, (0, yc 29, yc 0))], []), [(0, [], [], [], [], [(0, yc 115, yc 0)])], [])
def yx1312 : yCx := ([ys1192, ys1311], ys1312.2.2.2.2, yFP, zm282.2.2.1, zm282.2.2.2.1, zc282, 0, ys1312.2.2.2.1, [], [])
theorem yw1312 : ywf ys1312.2.2.1 = true := by decide +kernel
theorem yk1312 : yver yx1312 ys1312.2.2.1 4000 = true := by decide +kernel
theorem yt1312 {E : zHp → Prop} (h : yEF E yFP) : yTs E 4 ys1312 := yver_s (x := yx1312) h (yal_c (yt1192 h) (by decide) yw1192 (yal_c (yt1311 h) (by decide) yw1311 (yal_n))) yg282 yk1312
def ys1313 : ySp := (293, 3, (0, [], [], [], [(0, (0, yc 30, yc 0)), (1, (0, yc 31, yc 0)), (2, (7, yc 0, yc 0))], []), [(0, [], [], [], [], [(0, yc 30, yc 0)])], [])
def yx1313 : yCx := ([], ys1313.2.2.2.2, yFP, zm293.2.2.1, zm293.2.2.2.1, zc293, 0, ys1313.2.2.2.1, [], [])
theorem yw1313 : ywf ys1313.2.2.1 = true := by decide +kernel
theorem yk1313 : yver yx1313 ys1313.2.2.1 4000 = true := by decide +kernel
theorem yt1313 {E : zHp → Prop} (h : yEF E yFP) : yTs E 1 ys1313 := yver_s (x := yx1313) h (yal_n) yg293 yk1313
def ys1314 : ySp := (285, 2, (0, [], [], [], [(0, (0, yc 30, yc 0)), (1, (0, yc 31, yc 0))], []), [(0, [], [], [], [], [])], [])
def yx1314 : yCx := ([ys1313], ys1314.2.2.2.2, yFP, zm285.2.2.1, zm285.2.2.2.1, zc285, 0, ys1314.2.2.2.1, [], [])
theorem yw1314 : ywf ys1314.2.2.1 = true := by decide +kernel
theorem yk1314 : yver yx1314 ys1314.2.2.1 4000 = true := by decide +kernel
theorem yt1314 {E : zHp → Prop} (h : yEF E yFP) : yTs E 2 ys1314 := yver_s (x := yx1314) h (yal_c (yt1313 h) (by decide) yw1313 (yal_n)) yg285 yk1314
def ys1315 : ySp := (286, 2, (0, [], [], [], [(0, (2, yc 1020, yc 0)), (1, (0, yc 30, yc 0))], []), [(0, [], [], [], [], [(0, yc 32, yc 0)])], [])
def yx1315 : yCx := ([ys1314], ys1315.2.2.2.2, yFP, zm286.2.2.1, zm286.2.2.2.1, zc286, 0, ys1315.2.2.2.1, [], [])
theorem yw1315 : ywf ys1315.2.2.1 = true := by decide +kernel
theorem yk1315 : yver yx1315 ys1315.2.2.1 4000 = true := by decide +kernel
theorem yt1315 {E : zHp → Prop} (h : yEF E yFP) : yTs E 3 ys1315 := yver_s (x := yx1315) h (yal_c (yt1314 h) (by decide) yw1314 (yal_n)) yg286 yk1315
def ys1316 : ySp := (282, 2, (0, [], [], [], [(0, (2, yc 1001, yc 0)), (1, (0, yc 30, yc 0))], []), [(0, [], [], [], [], [(0, yc 32, yc 0)])], [])
def yx1316 : yCx := ([ys1192, ys1315], ys1316.2.2.2.2, yFP, zm282.2.2.1, zm282.2.2.2.1, zc282, 0, ys1316.2.2.2.1, [], [])
theorem yw1316 : ywf ys1316.2.2.1 = true := by decide +kernel
theorem yk1316 : yver yx1316 ys1316.2.2.1 4000 = true := by decide +kernel
theorem yt1316 {E : zHp → Prop} (h : yEF E yFP) : yTs E 4 ys1316 := yver_s (x := yx1316) h (yal_c (yt1192 h) (by decide) yw1192 (yal_c (yt1315 h) (by decide) yw1315 (yal_n))) yg282 yk1316
