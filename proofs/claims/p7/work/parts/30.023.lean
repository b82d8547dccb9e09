def ys1303 : ySp := (234, 1, (0, [], [], [], [(0, (2, yc 70, yc 0))], []), [(0, [], [], [], [], [(0, yc (-1), yc 0)]), (1, [(0, (-2147483648), 2147483647)], [], [], [], [(0, (1, 0, 0), yc 0)])], [(70, 70, 25), (80, 80, 1000), (81, 81, 1000)])
def yx1303 : yCx := ([ys769, ys0, ys832], ys1303.2.2.2.2, yFP, zm234.2.2.1, zm234.2.2.2.1, zc234, 0, ys1303.2.2.2.1, [], [])
theorem yw1303 : ywf ys1303.2.2.1 = true := by decide +kernel
theorem yk1303 : yver yx1303 ys1303.2.2.1 4000 = true := by decide +kernel
theorem yt1303 {E : zHp → Prop} (h : yXt E) : yTs E 4 ys1303 := yver_s (x := yx1303) h.1 (yal_c (yt769 h.1) (by decide) yw769 (yal_c (yl0 h) (by decide) yw0 (yal_c (yt832 h.1) (by decide) yw832 (yal_n)))) yg234 yk1303
def ys1304 : ySp := (88, 4, (2, [(0, 0, 5), (1, 0, 5)], [], [], [(0, (2, yc 9, yc 0)), (1, (0, (1, 0, 0), yc 0)), (2, (0, yc 0, yc 0)), (3, (0, (1, 1, 0), yc 0))], []), [(2, [], [], [], [], [])], [(10, 10, 1000)])
def yx1304 : yCx := ([], ys1304.2.2.2.2, yFP, zm88.2.2.1, zm88.2.2.2.1, zc88, 2, ys1304.2.2.2.1, [], [])
theorem yw1304 : ywf ys1304.2.2.1 = true := by decide +kernel
theorem yk1304 : yver yx1304 ys1304.2.2.1 4000 = true := by decide +kernel
theorem yt1304 {E : zHp → Prop} (h : yEF E yFP) : yTs E 1 ys1304 := yver_s (x := yx1304) h (yal_n) yg88 yk1304
def ys1305 : ySp := (104, 3, (2, [(0, 0, 5), (1, 0, 5)], [], [], [(0, (2, yc 9, yc 0)), (1, (0, (1, 0, 0), yc 0)), (2, (0, (1, 1, 0), yc 0))], []), [(2, [], [], [], [], [])], [(10, 10, 1000)])
def yx1305 : yCx := ([ys1269, ys1304, ys1265, ys1290], ys1305.2.2.2.2, yFP, zm104.2.2.1, zm104.2.2.2.1, zc104, 2, ys1305.2.2.2.1, [], [])
theorem yw1305 : ywf ys1305.2.2.1 = true := by decide +kernel
theorem yk1305 : yver yx1305 ys1305.2.2.1 4000 = true := by decide +kernel
theorem yt1305 {E : zHp → Prop} (h : yEF E yFP) : yTs E 2 ys1305 := yver_s (x := yx1305) h (yal_c (yt1269 h) (by decide) yw1269 (yal_c (yt1304 h) (by decide) yw1304 (yal_c (yt1265 h) (by decide) yw1265 (yal_c (yt1290 h) (by decide) yw1290 (yal_n))))) yg104 yk1305
def ys1306 : ySp := (136, 4, (2, [(0, (-2147483648), 2147483647), (1, (-2147483648), 2147483647)], [], [], [(0, (2, yc 0, yc 0)), (1, (0, (1, 0, 0), yc 0)), (2, (0, (1, 1, 0), yc 0))], []), [(2, [], [], [], [], [(0, yc (-1), yc 0)]), (3, [(0, 0, 5), (1, 0, 5), (2, 0, 5)], [], [], [], [(0, (1, 2, 0), yc 0)])], [(10, 10, 1000), (14, 14, 1), (14, 14, 2), (16, 35, 1000)])
def yx1306 : yCx := ([ys1300, ys1034, ys1068, ys1035, ys1305], ys1306.2.2.2.2, yFP, zm136.2.2.1, zm136.2.2.2.1, zc136, 2, ys1306.2.2.2.1, [], [])
theorem yw1306 : ywf ys1306.2.2.1 = true := by decide +kernel
theorem yk1306 : yver yx1306 ys1306.2.2.1 4000 = true := by decide +kernel
theorem yt1306 {E : zHp → Prop} (h : yEF E yFP) : yTs E 3 ys1306 := yver_s (x := yx1306) h (yal_c (yt1300 h) (by decide) yw1300 (yal_c (yt1034 h) (by decide) yw1034 (yal_c (yt1068 h) (by decide) yw1068 (yal_c (yt1035 h) (by decide) yw1035 (yal_c (yt1305 h) (by decide) yw1305 (yal_n)))))) yg136 yk1306
def ys1307 : ySp := (232, 4, (2, [(0, 0, 5), (1, 0, 5)], [], [], [(0, (2, yc 70, yc 0)), (1, (0, (1, 0, 0), yc 0)), (2, (0, (1, 1, 0), yc 0))], []), [(2, [], [], [], [], [(0, yc (-1), yc 0)]), (3, [(2, 0, 5)], [], [], [], [(0, (1, 2, 0), yc 0)])], [(70, 70, 25), (80, 80, 1000), (81, 81, 1000)])
def yx1307 : yCx := ([ys1076, ys1226, ys786, ys0, ys1229], ys1307.2.2.2.2, yFP, zm232.2.2.1, zm232.2.2.2.1, zc232, 2, ys1307.2.2.2.1, [], [])
theorem yw1307 : ywf ys1307.2.2.1 = true := by decide +kernel
theorem yk1307 : yver yx1307 ys1307.2.2.1 4000 = true := by decide +kernel
theorem yt1307 {E : zHp → Prop} (h : yXt E) : yTs E 4 ys1307 := yver_s (x := yx1307) h.1 (yal_c (yt1076 h.1) (by decide) yw1076 (yal_c (yt1226 h.1) (by decide) yw1226 (yal_c (yt786 h.1) (by decide) yw786 (yal_c (yl0 h) (by decide) yw0 (yal_c (yt1229 h.1) (by decide) yw1229 (yal_n)))))) yg232 yk1307
def ys1308 : ySp := (232, 4, (2, [(0, (-2147483648), 2147483647), (1, (-2147483648), 2147483647)], [], [], [(0, (2, yc 70, yc 0)), (1, (0, (1, 0, 0), yc 0)), (2, (0, (1, 1, 0), yc 0))], []), [(2, [], [], [], [], [(0, yc (-1), yc 0)]), (3, [(0, 0, 5), (1, 0, 5), (2, 0, 5)], [], [], [], [(0, (1, 2, 0), yc 0)])], [(70, 70, 25), (80, 80, 1000), (81, 81, 1000)])
def yx1308 : yCx := ([ys1076, ys1231, ys786, ys0, ys1229], ys1308.2.2.2.2, yFP, zm232.2.2.1, zm232.2.2.2.1, zc232, 2, ys1308.2.2.2.1, [], [])
theorem yw1308 : ywf ys1308.2.2.1 = true := by decide +kernel
theorem yk1308 : yver yx1308 ys1308.2.2.1 4000 = true := by decide +kernel
theorem yt1308 {E : zHp → Prop} (h : yXt E) : yTs E 4 ys1308 := yver_s (x := yx1308) h.1 (yal_c (yt1076 h.1) (by decide) yw1076 (yal_c (yt1231 h.1) (by decide) yw1231 (yal_c (yt786 h.1) (by decide) yw786 (yal_c (yl0 h) (by decide) yw0 (yal_c (yt1229 h.1) (by decide) yw1229 (yal_n)))))) yg232 yk1308
def ys1309 : ySp := (65, 4, (0, [], [], [], [(0, (2, yc 67, yc 0)), (1, (2, yc 9, yc 0))], []), [(0, [], [], [], [], [])], [(10, 10, 1000)])
def yx1309 : yCx := ([ys1268, ys1073], ys1309.2.2.2.2, yFP, zm65.2.2.1, zm65.2.2.2.1, zc65, 0, ys1309.2.2.2.1, [(2, (1, [(0, 0, 6)], [], [], [(0, (2, yc 67, yc 0)), (1, (2, yc 9, yc 0)), (2, (0, (1, 0, 0), yc 0))], []), ([((-1), 0)], 7))], [])
theorem yw1309 : ywf ys1309.2.2.1 = true := by decide +kernel
theorem yk1309 : yver yx1309 ys1309.2.2.1 4000 = true := by decide +kernel
theorem yt1309 {E : zHp → Prop} (h : yEF E yFP) : yTs E 2 ys1309 := yver_s (x := yx1309) h (yal_c (yt1268 h) (by decide) yw1268 (yal_c (yt1073 h) (by decide) yw1073 (yal_n))) yg65 yk1309
def ys1310 : ySp := (135, 1, (0, [], [], [], [(0, (2, yc 0, yc 0))], []), [(0, [], [], [], [], [(0, yc (-1), yc 0)]), (1, [(0, 1, 6)], [], [], [], [(0, (1, 0, 0), yc 0)])], [(10, 10, 1000), (14, 14, 1), (14, 14, 2), (16, 35, 1000), (67, 67, 1), (68, 68, 1000)])
def yx1310 : yCx := ([ys1300, ys1088, ys1309], ys1310.2.2.2.2, yFP, zm135.2.2.1, zm135.2.2.2.1, zc135, 0, ys1310.2.2.2.1, [], [])
theorem yw1310 : ywf ys1310.2.2.1 = true := by decide +kernel
theorem yk1310 : yver yx1310 ys1310.2.2.1 4000 = true := by decide +kernel
theorem yt1310 {E : zHp → Prop} (h : yEF E yFP) : yTs E 9 ys1310 := yver_s (x := yx1310) h (yal_c (yt1300 h) (by decide) yw1300 (yal_c (yt1088 h) (by decide) yw1088 (yal_c (yt1309 h) (by decide) yw1309 (yal_n)))) yg135 yk1310
def ys1311 : ySp := (242, 3, (0, [], [], [], [(0, (2, yc 70, yc 0))], []), [(0, [], [], [], [], [(0, yc (-1), yc 0)]), (1, [(0, 2, 6)], [], [], [], [(0, (1, 0, 0), yc 0)])], [(70, 70, 25), (70, 70, 26), (80, 80, 1000), (81, 81, 1000)])
def yx1311 : yCx := ([ys769, ys0, ys1130, ys1133], ys1311.2.2.2.2, yFP, zm242.2.2.1, zm242.2.2.2.1, zc242, 0, ys1311.2.2.2.1, [(26, (3, [(0, 2, 6), (1, 0, 6), (2, 1, 6)], [], [(yc 80, yc 0, (0, (1, 2, 0), yc 0))], [(0, (2, yc 70, yc 0)), (1, (0, (1, 0, 0), yc 0)), (2, (0, (1, 1, 0), yc 0))], []), ([((-1), 1)], 7))], [])
theorem yw1311 : ywf ys1311.2.2.1 = true := by decide +kernel
theorem yk1311 : yver yx1311 ys1311.2.2.1 4000 = true := by decide +kernel
theorem yt1311 {E : zHp → Prop} (h : yXt E) : yTs E 6 ys1311 := yver_s (x := yx1311) h.1 (yal_c (yt769 h.1) (by decide) yw769 (yal_c (yl0 h) (by decide) yw0 (yal_c (yt1130 h.1) (by decide) yw1130 (yal_c (yt1133 h.1) (by decide) yw1133 (yal_n))))) yg242 yk1311
def ys1312 : ySp := (86, 3, (2, [(0, (-2147483648), 2147483647), (1, (-2147483648), 2147483647)], [], [], [(0, (2, yc 9, yc 0)), (1, (0, (1, 0, 0), yc 0)), (2, (0, (1, 1, 0), yc 0))], []), [(2, [], [], [], [], [(0, yc 0, yc 0)]), (2, [(0, 0, 5), (1, 0, 5)], [], [], [], [(0, yc 1, yc 0)])], [])
def yx1312 : yCx := ([ys1068], ys1312.2.2.2.2, yFP, zm86.2.2.1, zm86.2.2.2.1, zc86, 2, ys1312.2.2.2.1, [], [])
theorem yw1312 : ywf ys1312.2.2.1 = true := by decide +kernel
theorem yk1312 : yver yx1312 ys1312.2.2.1 4000 = true := by decide +kernel
theorem yt1312 {E : zHp → Prop} (h : yEF E yFP) : yTs E 3 ys1312 := yver_s (x := yx1312) h (yal_c (yt1068 h) (by decide) yw1068 (yal_n)) yg86 yk1312
def ys1313 : ySp := (105, 3, (2, [(0, 0, 5), (1, 0, 5)], [], [], [(0, (2, yc 9, yc 0)), (1, (0, (1, 0, 0), yc 0)), (2, (0, (1, 1, 0), yc 0))], []), [(2, [], [], [], [], [])], [(10, 10, 1000)])
def yx1313 : yCx := ([], ys1313.2.2.2.2, yFP, zm105.2.2.1, zm105.2.2.2.1, zc105, 2, ys1313.2.2.2.1, [], [])
theorem yw1313 : ywf ys1313.2.2.1 = true := by decide +kernel
theorem yk1313 : yver yx1313 ys1313.2.2.1 4000 = true := by decide +kernel
theorem yt1313 {E : zHp → Prop} (h : yEF E yFP) : yTs E 1 ys1313 := yver_s (x := yx1313) h (yal_n) yg105 yk1313
def ys1314 : ySp := (134, 3, (2, [(0, (-2147483648), 2147483647), (1, (-2147483648), 2147483647)], [], [], [(0, (2, yc 0, yc 0)), (1, (0, (1, 0, 0), yc 0)), (2, (0, (1, 1, 0), yc 0))], []), [(2, [], [], [], [], [(0, yc 0, yc 0)]), (2, [(0, 0, 5), (1, 0, 5)], [], [], [], [(0, yc 1, yc 0)])], [(10, 10, 1000), (14, 14, 1), (14, 14, 2), (16, 35, 1000)])
def yx1314 : yCx := ([ys1300, ys1312, ys1192, ys1313], ys1314.2.2.2.2, yFP, zm134.2.2.1, zm134.2.2.2.1, zc134, 2, ys1314.2.2.2.1, [], [])
theorem yw1314 : ywf ys1314.2.2.1 = true := by decide +kernel
theorem yk1314 : yver yx1314 ys1314.2.2.1 4000 = true := by decide +kernel
theorem yt1314 {E : zHp → Prop} (h : yEF E yFP) : yTs E 4 ys1314 := yver_s (x := yx1314) h (yal_c (yt1300 h) (by decide) yw1300 (yal_c (yt1312 h) (by decide) yw1312 (yal_c (yt1192 h) (by decide) yw1192 (yal_c (yt1313 h) (by decide) yw1313 (yal_n))))) yg134 yk1314
def ys1315 : ySp := (230, 3, (2, [(0, 0, 5), (1, 0, 5)], [], [], [(0, (2, yc 70, yc 0)), (1, (0, (1, 0, 0), yc 0)), (2, (0, (1, 1, 0), yc 0))], []), [(2, [], [], [], [], [(0, yc 0, yc 0)]), (2, [], [], [], [], [(0, yc 1, yc 0)])], [(70, 70, 25), (80, 80, 1000), (81, 81, 1000)])
def yx1315 : yCx := ([ys1076, ys777, ys0, ys990], ys1315.2.2.2.2, yFP, zm230.2.2.1, zm230.2.2.2.1, zc230, 2, ys1315.2.2.2.1, [], [])
theorem yw1315 : ywf ys1315.2.2.1 = true := by decide +kernel
theorem yk1315 : yver yx1315 ys1315.2.2.1 4000 = true := by decide +kernel
theorem yt1315 {E : zHp → Prop} (h : yXt E) : yTs E 2 ys1315 := yver_s (x := yx1315) h.1 (yal_c (yt1076 h.1) (by decide) yw1076 (yal_c (yt777 h.1) (by decide) yw777 (yal_c (yl0 h) (by decide) yw0 (yal_c (yt990 h.1) (by decide) yw990 (yal_n))))) yg230 yk1315
def ys1316 : ySp := (230, 3, (2, [(0, (-2147483648), 2147483647), (1, (-2147483648), 2147483647)], [], [], [(0, (2, yc 70, yc 0)), (1, (0, (1, 0, 0), yc 0)), (2, (0, (1, 1, 0), yc 0))], []), [(2, [], [], [], [], [(0, yc 0, yc 0)]), (2, [(0, 0, 5), (1, 0, 5)], [], [], [], [(0, yc 1, yc 0)])], [(70, 70, 25), (80, 80, 1000), (81, 81, 1000)])
def yx1316 : yCx := ([ys1076, ys777, ys0, ys990], ys1316.2.2.2.2, yFP, zm230.2.2.1, zm230.2.2.2.1, zc230, 2, ys1316.2.2.2.1, [], [])
theorem yw1316 : ywf ys1316.2.2.1 = true := by decide +kernel
theorem yk1316 : yver yx1316 ys1316.2.2.1 4000 = true := by decide +kernel
theorem yt1316 {E : zHp → Prop} (h : yXt E) : yTs E 2 ys1316 := yver_s (x := yx1316) h.1 (yal_c (yt1076 h.1) (by decide) yw1076 (yal_c (yt777 h.1) (by decide) yw777 (yal_c (yl0 h) (by decide) yw0 (yal_c (yt990 h.1) (by decide) yw990 (yal_n))))) yg230 yk1316
def ys1317 : ySp := (84, 2, (1, [(0, (-2147483648), 2147483647)], [], [], [(0, (2, yc 9, yc 0)), (1, (0, (1, 0, 0), yc 0))], []), [(1, [], [], [], [], [(0, yc 0, yc 0)]), (1, [(0, 0, 5)], [], [], [], [(0, yc 1, yc 0)])], [])
def yx1317 : yCx := ([ys656], ys1317.2.2.2.2, yFP, zm84.2.2.1, zm84.2.2.2.1, zc84, 1, ys1317.2.2.2.1, [], [])
theorem yw1317 : ywf ys1317.2.2.1 = true := by decide +kernel
theorem yk1317 : yver yx1317 ys1317.2.2.1 4000 = true := by decide +kernel
theorem yt1317 {E : zHp → Prop} (h : yEF E yFP) : yTs E 2 ys1317 := yver_s (x := yx1317) h (yal_c (yt656 h) (by decide) yw656 (yal_n)) yg84 yk1317
def ys1318 : ySp := (133, 2, (1, [(0, (-2147483648), 2147483647)], [], [], [(0, (2, yc 0, yc 0)), (1, (0, (1, 0, 0), yc 0))], []), [(1, [], [], [], [], [(0, yc (-1), yc 0)]), (2, [(0, 0, 5), (1, (-2147483648), 2147483647)], [], [], [], [(0, (1, 1, 0), yc 0)])], [(10, 10, 1000), (14, 14, 1), (14, 14, 2), (16, 35, 1000)])
def yx1318 : yCx := ([ys1300, ys1317, ys1284, ys1286], ys1318.2.2.2.2, yFP, zm133.2.2.1, zm133.2.2.2.1, zc133, 1, ys1318.2.2.2.1, [], [])
theorem yw1318 : ywf ys1318.2.2.1 = true := by decide +kernel
theorem yk1318 : yver yx1318 ys1318.2.2.1 4000 = true := by decide +kernel
theorem yt1318 {E : zHp → Prop} (h : yEF E yFP) : yTs E 6 ys1318 := yver_s (x := yx1318) h (yal_c (yt1300 h) (by decide) yw1300 (yal_c (yt1317 h) (by decide) yw1317 (yal_c (yt1284 h) (by decide) yw1284 (yal_c (yt1286 h) (by decide) yw1286 (yal_n))))) yg133 yk1318
def ys1319 : ySp := (207, 2, (2, [(0, 0, 5), (1, 0, 6)], [], [(yc 80, yc 3, (0, (1, 1, 0), yc 0))], [(0, (2, yc 70, yc 0)), (1, (0, (1, 0, 0), yc 0))], []), [(2, [(1, 0, 5)], [([(1, 0), ((-1), 1)], 0)], [(yc 80, yc 3, (0, (1, 1, 0), yc 0))], [], [(0, yc 0, yc 0)]), (2, [(1, 1, 6)], [([(1, 1), ((-1), 0)], (-1))], [(yc 80, yc 3, (0, (1, 1, 0), yc 0))], [], [(0, yc 1, yc 0)])], [])
def yx1319 : yCx := ([], ys1319.2.2.2.2, yFP, zm207.2.2.1, zm207.2.2.2.1, zc207, 2, ys1319.2.2.2.1, [], [])
theorem yw1319 : ywf ys1319.2.2.1 = true := by decide +kernel
theorem yk1319 : yver yx1319 ys1319.2.2.1 4000 = true := by decide +kernel
theorem yt1319 {E : zHp → Prop} (h : yEF E yFP) : yTs E 1 ys1319 := yver_s (x := yx1319) h (yal_n) yg207 yk1319
def ys1320 : ySp := (228, 2, (1, [(0, 0, 5)], [], [], [(0, (2, yc 70, yc 0)), (1, (0, (1, 0, 0), yc 0))], []), [(1, [], [], [], [], [(0, yc (-1), yc 0)]), (2, [(1, (-2147483648), 2147483647)], [], [], [], [(0, (1, 1, 0), yc 0)])], [(70, 70, 25), (80, 80, 1000), (81, 81, 1000)])
def yx1320 : yCx := ([ys1319, ys828, ys0, ys830], ys1320.2.2.2.2, yFP, zm228.2.2.1, zm228.2.2.2.1, zc228, 1, ys1320.2.2.2.1, [], [])
theorem yw1320 : ywf ys1320.2.2.1 = true := by decide +kernel
theorem yk1320 : yver yx1320 ys1320.2.2.1 4000 = true := by decide +kernel
theorem yt1320 {E : zHp → Prop} (h : yXt E) : yTs E 6 ys1320 := yver_s (x := yx1320) h.1 (yal_c (yt1319 h.1) (by decide) yw1319 (yal_c (yt828 h.1) (by decide) yw828 (yal_c (yl0 h) (by decide) yw0 (yal_c (yt830 h.1) (by decide) yw830 (yal_n))))) yg228 yk1320
def ys1321 : ySp := (207, 2, (2, [(0, (-2147483648), 2147483647), (1, 0, 6)], [], [(yc 80, yc 3, (0, (1, 1, 0), yc 0))], [(0, (2, yc 70, yc 0)), (1, (0, (1, 0, 0), yc 0))], []), [(2, [], [], [(yc 80, yc 3, (0, (1, 1, 0), yc 0))], [], [(0, yc 0, yc 0)]), (2, [(0, 0, 5), (1, 1, 6)], [([(1, 1), ((-1), 0)], (-1))], [(yc 80, yc 3, (0, (1, 1, 0), yc 0))], [], [(0, yc 1, yc 0)])], [])
def yx1321 : yCx := ([], ys1321.2.2.2.2, yFP, zm207.2.2.1, zm207.2.2.2.1, zc207, 2, ys1321.2.2.2.1, [], [])
theorem yw1321 : ywf ys1321.2.2.1 = true := by decide +kernel
theorem yk1321 : yver yx1321 ys1321.2.2.1 4000 = true := by decide +kernel
theorem yt1321 {E : zHp → Prop} (h : yEF E yFP) : yTs E 1 ys1321 := yver_s (x := yx1321) h (yal_n) yg207 yk1321
def ys1322 : ySp := (228, 2, (1, [(0, (-2147483648), 2147483647)], [], [], [(0, (2, yc 70, yc 0)), (1, (0, (1, 0, 0), yc 0))], []), [(1, [], [], [], [], [(0, yc (-1), yc 0)]), (2, [(0, 0, 5), (1, (-2147483648), 2147483647)], [], [], [], [(0, (1, 1, 0), yc 0)])], [(70, 70, 25), (80, 80, 1000), (81, 81, 1000)])
def yx1322 : yCx := ([ys1321, ys828, ys0, ys830], ys1322.2.2.2.2, yFP, zm228.2.2.1, zm228.2.2.2.1, zc228, 1, ys1322.2.2.2.1, [], [])
theorem yw1322 : ywf ys1322.2.2.1 = true := by decide +kernel
theorem yk1322 : yver yx1322 ys1322.2.2.1 4000 = true := by decide +kernel
theorem yt1322 {E : zHp → Prop} (h : yXt E) : yTs E 6 ys1322 := yver_s (x := yx1322) h.1 (yal_c (yt1321 h.1) (by decide) yw1321 (yal_c (yt828 h.1) (by decide) yw828 (yal_c (yl0 h) (by decide) yw0 (yal_c (yt830 h.1) (by decide) yw830 (yal_n))))) yg228 yk1322
def ys1323 : ySp := (103, 2, (1, [(0, 0, 5)], [], [], [(0, (2, yc 9, yc 0)), (1, (0, (1, 0, 0), yc 0))], []), [(1, [], [], [], [], [])], [(10, 10, 1000)])
def yx1323 : yCx := ([ys1035, ys1305], ys1323.2.2.2.2, yFP, zm103.2.2.1, zm103.2.2.2.1, zc103, 1, ys1323.2.2.2.1, [], [])
theorem yw1323 : ywf ys1323.2.2.1 = true := by decide +kernel
theorem yk1323 : yver yx1323 ys1323.2.2.1 4000 = true := by decide +kernel
theorem yt1323 {E : zHp → Prop} (h : yEF E yFP) : yTs E 3 ys1323 := yver_s (x := yx1323) h (yal_c (yt1035 h) (by decide) yw1035 (yal_c (yt1305 h) (by decide) yw1305 (yal_n))) yg103 yk1323
def ys1324 : ySp := (132, 2, (1, [(0, (-2147483648), 2147483647)], [], [], [(0, (2, yc 0, yc 0)), (1, (0, (1, 0, 0), yc 0))], []), [(1, [], [], [], [], [(0, yc (-1), yc 0)]), (2, [(0, 0, 5), (1, 0, 5)], [], [], [], [(0, (1, 1, 0), yc 0)])], [(10, 10, 1000), (14, 14, 1), (14, 14, 2), (16, 35, 1000)])
def yx1324 : yCx := ([ys1300, ys1034, ys1035, ys1066, ys1323], ys1324.2.2.2.2, yFP, zm132.2.2.1, zm132.2.2.2.1, zc132, 1, ys1324.2.2.2.1, [], [])
theorem yw1324 : ywf ys1324.2.2.1 = true := by decide +kernel
theorem yk1324 : yver yx1324 ys1324.2.2.1 4000 = true := by decide +kernel
theorem yt1324 {E : zHp → Prop} (h : yEF E yFP) : yTs E 4 ys1324 := yver_s (x := yx1324) h (yal_c (yt1300 h) (by decide) yw1300 (yal_c (yt1034 h) (by decide) yw1034 (yal_c (yt1035 h) (by decide) yw1035 (yal_c (yt1066 h) (by decide) yw1066 (yal_c (yt1323 h) (by decide) yw1323 (yal_n)))))) yg132 yk1324
def ys1325 : ySp := (227, 2, (1, [(0, 0, 5)], [], [], [(0, (2, yc 70, yc 0)), (1, (0, (1, 0, 0), yc 0))], []), [(1, [], [], [], [], [(0, yc (-1), yc 0)]), (2, [(1, 0, 5)], [], [], [], [(0, (1, 1, 0), yc 0)])], [(70, 70, 25), (80, 80, 1000), (81, 81, 1000)])
def yx1325 : yCx := ([ys1226, ys786, ys810, ys0, ys787], ys1325.2.2.2.2, yFP, zm227.2.2.1, zm227.2.2.2.1, zc227, 1, ys1325.2.2.2.1, [], [])
theorem yw1325 : ywf ys1325.2.2.1 = true := by decide +kernel
theorem yk1325 : yver yx1325 ys1325.2.2.1 4000 = true := by decide +kernel
theorem yt1325 {E : zHp → Prop} (h : yXt E) : yTs E 3 ys1325 := yver_s (x := yx1325) h.1 (yal_c (yt1226 h.1) (by decide) yw1226 (yal_c (yt786 h.1) (by decide) yw786 (yal_c (yt810 h.1) (by decide) yw810 (yal_c (yl0 h) (by decide) yw0 (yal_c (yt787 h.1) (by decide) yw787 (yal_n)))))) yg227 yk1325
def ys1326 : ySp := (227, 2, (1, [(0, (-2147483648), 2147483647)], [], [], [(0, (2, yc 70, yc 0)), (1, (0, (1, 0, 0), yc 0))], []), [(1, [], [], [], [], [(0, yc (-1), yc 0)]), (2, [(0, 0, 5), (1, 0, 5)], [], [], [], [(0, (1, 1, 0), yc 0)])], [(70, 70, 25), (80, 80, 1000), (81, 81, 1000)])
def yx1326 : yCx := ([ys1231, ys786, ys810, ys0, ys787], ys1326.2.2.2.2, yFP, zm227.2.2.1, zm227.2.2.2.1, zc227, 1, ys1326.2.2.2.1, [], [])
theorem yw1326 : ywf ys1326.2.2.1 = true := by decide +kernel
theorem yk1326 : yver yx1326 ys1326.2.2.1 4000 = true := by decide +kernel
theorem yt1326 {E : zHp → Prop} (h : yXt E) : yTs E 3 ys1326 := yver_s (x := yx1326) h.1 (yal_c (yt1231 h.1) (by decide) yw1231 (yal_c (yt786 h.1) (by decide) yw786 (yal_c (yt810 h.1) (by decide) yw810 (yal_c (yl0 h) (by decide) yw0 (yal_c (yt787 h.1) (by decide) yw787 (yal_n)))))) yg227 yk1326
def ys1327 : ySp := (131, 3, (2, [(0, (-2147483648), 2147483647), (1, (-2147483648), 2147483647)], [], [], [(0, (2, yc 0, yc 0)), (1, (0, (1, 0, 0), yc 0)), (2, (0, (1, 1, 0), yc 0))], []), [(2, [], [], [], [], [(0, yc (-1), yc 0)]), (2, [(0, 0, 5), (1, 0, 5)], [], [], [], [(0, yc 0, yc 0)]), (3, [(0, 0, 5), (1, 0, 5), (2, 0, 2147483647)], [], [], [], [(0, (1, 2, 0), yc 0)])], [(10, 10, 1000), (14, 14, 1), (14, 14, 2), (16, 35, 1000)])
def yx1327 : yCx := ([ys1300, ys1034, ys1068, ys1277, ys1259, ys1270], ys1327.2.2.2.2, yFP, zm131.2.2.1, zm131.2.2.2.1, zc131, 2, ys1327.2.2.2.1, [], [])
theorem yw1327 : ywf ys1327.2.2.1 = true := by decide +kernel
theorem yk1327 : yver yx1327 ys1327.2.2.1 4000 = true := by decide +kernel
theorem yt1327 {E : zHp → Prop} (h : yEF E yFP) : yTs E 5 ys1327 := yver_s (x := yx1327) h (yal_c (yt1300 h) (by decide) yw1300 (yal_c (yt1034 h) (by decide) yw1034 (yal_c (yt1068 h) (by decide) yw1068 (yal_c (yt1277 h) (by decide) yw1277 (yal_c (yt1259 h) (by decide) yw1259 (yal_c (yt1270 h) (by decide) yw1270 (yal_n))))))) yg131 yk1327
def ys1328 : ySp := (226, 3, (2, [(0, 0, 5), (1, 0, 5)], [], [], [(0, (2, yc 70, yc 0)), (1, (0, (1, 0, 0), yc 0)), (2, (0, (1, 1, 0), yc 0))], []), [(2, [], [], [], [], [(0, yc (-1), yc 0)]), (2, [], [], [], [], [(0, yc 0, yc 0)]), (3, [(2, 0, 2147483647)], [], [], [], [(0, (1, 2, 0), yc 0)])], [(70, 70, 25), (80, 80, 1000), (81, 81, 1000)])
def yx1328 : yCx := ([ys1076, ys1226, ys815, ys0, ys789, ys790], ys1328.2.2.2.2, yFP, zm226.2.2.1, zm226.2.2.2.1, zc226, 2, ys1328.2.2.2.1, [], [])
theorem yw1328 : ywf ys1328.2.2.1 = true := by decide +kernel
theorem yk1328 : yver yx1328 ys1328.2.2.1 4000 = true := by decide +kernel
theorem yt1328 {E : zHp → Prop} (h : yXt E) : yTs E 5 ys1328 := yver_s (x := yx1328) h.1 (yal_c (yt1076 h.1) (by decide) yw1076 (yal_c (yt1226 h.1) (by decide) yw1226 (yal_c (yt815 h.1) (by decide) yw815 (yal_c (yl0 h) (by decide) yw0 (yal_c (yt789 h.1) (by decide) yw789 (yal_c (yt790 h.1) (by decide) yw790 (yal_n))))))) yg226 yk1328
def ys1329 : ySp := (226, 3, (2, [(0, (-2147483648), 2147483647), (1, (-2147483648), 2147483647)], [], [], [(0, (2, yc 70, yc 0)), (1, (0, (1, 0, 0), yc 0)), (2, (0, (1, 1, 0), yc 0))], []), [(2, [], [], [], [], [(0, yc (-1), yc 0)]), (2, [(0, 0, 5), (1, 0, 5)], [], [], [], [(0, yc 0, yc 0)]), (3, [(0, 0, 5), (1, 0, 5), (2, 0, 2147483647)], [], [], [], [(0, (1, 2, 0), yc 0)])], [(70, 70, 25), (80, 80, 1000), (81, 81, 1000)])
def yx1329 : yCx := ([ys1076, ys1231, ys815, ys0, ys789, ys790], ys1329.2.2.2.2, yFP, zm226.2.2.1, zm226.2.2.2.1, zc226, 2, ys1329.2.2.2.1, [], [])
theorem yw1329 : ywf ys1329.2.2.1 = true := by decide +kernel
theorem yk1329 : yver yx1329 ys1329.2.2.1 4000 = true := by decide +kernel
theorem yt1329 {E : zHp → Prop} (h : yXt E) : yTs E 5 ys1329 := yver_s (x := yx1329) h.1 (yal_c (yt1076 h.1) (by decide) yw1076 (yal_c (yt1231 h.1) (by decide) yw1231 (yal_c (yt815 h.1) (by decide) yw815 (yal_c (yl0 h) (by decide) yw0 (yal_c (yt789 h.1) (by decide) yw789 (yal_c (yt790 h.1) (by decide) yw790 (yal_n))))))) yg226 yk1329
def ys1330 : ySp := (130, 4, (3, [(0, (-2147483648), 2147483647), (1, (-2147483648), 2147483647), (2, (-2147483648), 2147483647)], [], [], [(0, (2, yc 0, yc 0)), (1, (0, (1, 0, 0), yc 0)), (2, (0, (1, 1, 0), yc 0)), (3, (0, (1, 2, 0), yc 0))], []), [(3, [], [], [], [], [(0, yc (-1), yc 0)]), (3, [(0, 0, 5), (1, 0, 5), (2, 0, 0)], [], [], [], [(0, yc 0, yc 0)]), (3, [(0, 0, 5), (1, 0, 5), (2, 0, 0)], [], [], [], [(0, yc 1, yc 0)]), (4, [(0, 0, 5), (1, 0, 5), (2, 1, 1), (3, (-2147483648), 2147483647)], [], [], [], [(0, (1, 3, 0), yc 0)])], [])
def yx1330 : yCx := ([ys1312, ys1052, ys1073], ys1330.2.2.2.2, yFP, zm130.2.2.1, zm130.2.2.2.1, zc130, 3, ys1330.2.2.2.1, [], [])
theorem yw1330 : ywf ys1330.2.2.1 = true := by decide +kernel
theorem yk1330 : yver yx1330 ys1330.2.2.1 4000 = true := by decide +kernel
theorem yt1330 {E : zHp → Prop} (h : yEF E yFP) : yTs E 4 ys1330 := yver_s (x := yx1330) h (yal_c (yt1312 h) (by decide) yw1312 (yal_c (yt1052 h) (by decide) yw1052 (yal_c (yt1073 h) (by decide) yw1073 (yal_n)))) yg130 yk1330
def ys1331 : ySp := (219, 4, (3, [(0, 0, 5), (1, 0, 5), (2, 0, 1)], [], [], [(0, (2, yc 70, yc 0)), (1, (0, (1, 0, 0), yc 0)), (2, (0, (1, 1, 0), yc 0)), (3, (0, (1, 2, 0), yc 0))], []), [(3, [], [], [], [], [(0, yc (-1), yc 0)]), (3, [(2, 0, 0)], [], [], [], [(0, yc 0, yc 0)]), (3, [(2, 0, 0)], [], [], [], [(0, yc 1, yc 0)]), (4, [(2, 1, 1), (3, (-2147483648), 2147483647)], [], [], [], [(0, (1, 3, 0), yc 0)])], [])
def yx1331 : yCx := ([ys772, ys1076, ys777, ys1019], ys1331.2.2.2.2, yFP, zm219.2.2.1, zm219.2.2.2.1, zc219, 3, ys1331.2.2.2.1, [], [])
theorem yw1331 : ywf ys1331.2.2.1 = true := by decide +kernel
theorem yk1331 : yver yx1331 ys1331.2.2.1 4000 = true := by decide +kernel
theorem yt1331 {E : zHp → Prop} (h : yEF E yFP) : yTs E 2 ys1331 := yver_s (x := yx1331) h (yal_c (yt772 h) (by decide) yw772 (yal_c (yt1076 h) (by decide) yw1076 (yal_c (yt777 h) (by decide) yw777 (yal_c (yt1019 h) (by decide) yw1019 (yal_n))))) yg219 yk1331
def ys1332 : ySp := (219, 4, (3, [(0, (-2147483648), 2147483647), (1, (-2147483648), 2147483647), (2, (-2147483648), 2147483647)], [], [], [(0, (2, yc 70, yc 0)), (1, (0, (1, 0, 0), yc 0)), (2, (0, (1, 1, 0), yc 0)), (3, (0, (1, 2, 0), yc 0))], []), [(3, [], [], [], [], [(0, yc (-1), yc 0)]), (3, [(0, 0, 5), (1, 0, 5), (2, 0, 0)], [], [], [], [(0, yc 0, yc 0)]), (3, [(0, 0, 5), (1, 0, 5), (2, 0, 0)], [], [], [], [(0, yc 1, yc 0)]), (4, [(0, 0, 5), (1, 0, 5), (2, 1, 1), (3, (-2147483648), 2147483647)], [], [], [], [(0, (1, 3, 0), yc 0)])], [])
def yx1332 : yCx := ([ys836, ys1076, ys777, ys1019], ys1332.2.2.2.2, yFP, zm219.2.2.1, zm219.2.2.2.1, zc219, 3, ys1332.2.2.2.1, [], [])
theorem yw1332 : ywf ys1332.2.2.1 = true := by decide +kernel
theorem yk1332 : yver yx1332 ys1332.2.2.1 4000 = true := by decide +kernel
theorem yt1332 {E : zHp → Prop} (h : yEF E yFP) : yTs E 2 ys1332 := yver_s (x := yx1332) h (yal_c (yt836 h) (by decide) yw836 (yal_c (yt1076 h) (by decide) yw1076 (yal_c (yt777 h) (by decide) yw777 (yal_c (yt1019 h) (by decide) yw1019 (yal_n))))) yg219 yk1332
def ys1333 : ySp := (89, 3, (2, [(0, 0, 5), (1, 0, 4)], [], [], [(0, (2, yc 9, yc 0)), (1, (0, (1, 0, 0), yc 0)), (2, (0, (1, 1, 0), yc 0))], []), [(3, [(2, (-2147483648), 2147483647)], [], [], [], [(0, (1, 2, 0), yc 0)])], [])
def yx1333 : yCx := ([], ys1333.2.2.2.2, yFP, zm89.2.2.1, zm89.2.2.2.1, zc89, 2, ys1333.2.2.2.1, [], [])
theorem yw1333 : ywf ys1333.2.2.1 = true := by decide +kernel
theorem yk1333 : yver yx1333 ys1333.2.2.1 4000 = true := by decide +kernel
theorem yt1333 {E : zHp → Prop} (h : yEF E yFP) : yTs E 1 ys1333 := yver_s (x := yx1333) h (yal_n) yg89 yk1333
def ys1334 : ySp := (129, 3, (2, [(0, (-2147483648), 2147483647), (1, (-2147483648), 2147483647)], [], [], [(0, (2, yc 0, yc 0)), (1, (0, (1, 0, 0), yc 0)), (2, (0, (1, 1, 0), yc 0))], []), [(2, [(0, 0, 5), (1, 5, 5)], [], [], [], [(0, yc 0, yc 0)]), (2, [(0, 0, 5), (1, 5, 5)], [], [], [], [(0, yc 1, yc 0)]), (3, [(2, (-2147483648), 2147483647)], [], [], [], [(0, (1, 2, 0), yc 0)])], [])
def yx1334 : yCx := ([ys1317, ys1333, ys1284], ys1334.2.2.2.2, yFP, zm129.2.2.1, zm129.2.2.2.1, zc129, 2, ys1334.2.2.2.1, [], [])
theorem yw1334 : ywf ys1334.2.2.1 = true := by decide +kernel
theorem yk1334 : yver yx1334 ys1334.2.2.1 4000 = true := by decide +kernel
theorem yt1334 {E : zHp → Prop} (h : yEF E yFP) : yTs E 6 ys1334 := yver_s (x := yx1334) h (yal_c (yt1317 h) (by decide) yw1317 (yal_c (yt1333 h) (by decide) yw1333 (yal_c (yt1284 h) (by decide) yw1284 (yal_n)))) yg129 yk1334
def ys1335 : ySp := (158, 6, (1, [(0, (-9223372036854775808), 9223372036854775807)], [], [], [(0, (1, (1, 0, 0), yc 0)), (2, (1, yc 0, yc 0)), (4, (1, yc 5, yc 0))], []), [(1, [(0, (-9223372036854775808), (-1))], [], [], [], [(0, yc 0, yc 0)]), (1, [(0, 6, 9223372036854775807)], [], [], [], [(0, yc 0, yc 0)]), (1, [(0, 0, 5)], [], [], [], [(0, yc 1, yc 0)])], [])
def yx1335 : yCx := ([], ys1335.2.2.2.2, yFP, zm158.2.2.1, zm158.2.2.2.1, zc158, 1, ys1335.2.2.2.1, [], [])
theorem yw1335 : ywf ys1335.2.2.1 = true := by decide +kernel
theorem yk1335 : yver yx1335 ys1335.2.2.1 4000 = true := by decide +kernel
theorem yt1335 {E : zHp → Prop} (h : yEF E yFP) : yTs E 1 ys1335 := yver_s (x := yx1335) h (yal_n) yg158 yk1335
def ys1336 : ySp := (209, 3, (2, [(0, 0, 5), (1, 0, 3)], [], [], [(0, (2, yc 70, yc 0)), (1, (0, (1, 0, 0), yc 0)), (2, (0, (1, 1, 0), yc 0))], []), [(3, [(2, (-2147483648), 2147483647)], [], [], [], [(0, (1, 2, 0), yc 0)])], [])
def yx1336 : yCx := ([], ys1336.2.2.2.2, yFP, zm209.2.2.1, zm209.2.2.2.1, zc209, 2, ys1336.2.2.2.1, [], [])
theorem yw1336 : ywf ys1336.2.2.1 = true := by decide +kernel
theorem yk1336 : yver yx1336 ys1336.2.2.1 4000 = true := by decide +kernel
theorem yt1336 {E : zHp → Prop} (h : yEF E yFP) : yTs E 1 ys1336 := yver_s (x := yx1336) h (yal_n) yg209 yk1336
def ys1337 : ySp := (218, 3, (2, [(0, (-2147483648), 2147483647), (1, (-2147483648), 2147483647)], [], [], [(0, (2, yc 70, yc 0)), (1, (0, (1, 0, 0), yc 0)), (2, (0, (1, 1, 0), yc 0))], []), [(2, [(0, 0, 5), (1, 5, 5)], [], [], [], [(0, yc 0, yc 0)]), (2, [(0, 0, 5), (1, 5, 5)], [], [], [], [(0, yc 1, yc 0)]), (3, [(2, (-2147483648), 2147483647)], [], [], [], [(0, (1, 2, 0), yc 0)])], [])
def yx1337 : yCx := ([ys1335, ys1321, ys1336, ys828], ys1337.2.2.2.2, yFP, zm218.2.2.1, zm218.2.2.2.1, zc218, 2, ys1337.2.2.2.1, [], [])
theorem yw1337 : ywf ys1337.2.2.1 = true := by decide +kernel
theorem yk1337 : yver yx1337 ys1337.2.2.1 4000 = true := by decide +kernel
theorem yt1337 {E : zHp → Prop} (h : yEF E yFP) : yTs E 6 ys1337 := yver_s (x := yx1337) h (yal_c (yt1335 h) (by decide) yw1335 (yal_c (yt1321 h) (by decide) yw1321 (yal_c (yt1336 h) (by decide) yw1336 (yal_c (yt828 h) (by decide) yw828 (yal_n))))) yg218 yk1337
def ys1338 : ySp := (87, 3, (2, [(0, 0, 5), (1, 0, 6)], [], [], [(0, (2, yc 9, yc 0)), (1, (0, (1, 0, 0), yc 0)), (2, (0, (1, 1, 0), yc 0))], []), [(3, [(2, (-2147483648), 2147483647)], [], [], [], [(0, (1, 2, 0), yc 0)])], [])
def yx1338 : yCx := ([], ys1338.2.2.2.2, yFP, zm87.2.2.1, zm87.2.2.2.1, zc87, 2, ys1338.2.2.2.1, [], [])
theorem yw1338 : ywf ys1338.2.2.1 = true := by decide +kernel
theorem yk1338 : yver yx1338 ys1338.2.2.1 4000 = true := by decide +kernel
theorem yt1338 {E : zHp → Prop} (h : yEF E yFP) : yTs E 1 ys1338 := yver_s (x := yx1338) h (yal_n) yg87 yk1338
def ys1339 : ySp := (128, 3, (2, [(0, (-2147483648), 2147483647), (1, (-2147483648), 2147483647)], [], [], [(0, (2, yc 0, yc 0)), (1, (0, (1, 0, 0), yc 0)), (2, (0, (1, 1, 0), yc 0))], []), [(2, [], [], [], [], [(0, yc (-1), yc 0)]), (2, [(0, 0, 5), (1, 6, 6)], [], [], [], [(0, yc 0, yc 0)]), (3, [(0, 0, 5), (1, 0, 7), (2, (-2147483648), 2147483647)], [], [], [], [(0, (1, 2, 0), yc 0)])], [])
def yx1339 : yCx := ([ys1034, ys1338, ys1187, ys1277], ys1339.2.2.2.2, yFP, zm128.2.2.1, zm128.2.2.2.1, zc128, 2, ys1339.2.2.2.1, [], [])
theorem yw1339 : ywf ys1339.2.2.1 = true := by decide +kernel
theorem yk1339 : yver yx1339 ys1339.2.2.1 4000 = true := by decide +kernel
theorem yt1339 {E : zHp → Prop} (h : yEF E yFP) : yTs E 5 ys1339 := yver_s (x := yx1339) h (yal_c (yt1034 h) (by decide) yw1034 (yal_c (yt1338 h) (by decide) yw1338 (yal_c (yt1187 h) (by decide) yw1187 (yal_c (yt1277 h) (by decide) yw1277 (yal_n))))) yg128 yk1339
def ys1340 : ySp := (208, 3, (2, [(0, 0, 5), (1, 0, 5)], [], [], [(0, (2, yc 70, yc 0)), (1, (0, (1, 0, 0), yc 0)), (2, (0, (1, 1, 0), yc 0))], []), [(3, [(2, (-2147483648), 2147483647)], [], [], [], [(0, (1, 2, 0), yc 0)])], [])
def yx1340 : yCx := ([], ys1340.2.2.2.2, yFP, zm208.2.2.1, zm208.2.2.2.1, zc208, 2, ys1340.2.2.2.1, [], [])
theorem yw1340 : ywf ys1340.2.2.1 = true := by decide +kernel
theorem yk1340 : yver yx1340 ys1340.2.2.1 4000 = true := by decide +kernel
theorem yt1340 {E : zHp → Prop} (h : yEF E yFP) : yTs E 1 ys1340 := yver_s (x := yx1340) h (yal_n) yg208 yk1340
def ys1341 : ySp := (217, 3, (2, [(0, 0, 5), (1, 0, 7)], [], [], [(0, (2, yc 70, yc 0)), (1, (0, (1, 0, 0), yc 0)), (2, (0, (1, 1, 0), yc 0))], []), [(2, [], [], [], [], [(0, yc (-1), yc 0)]), (2, [(1, 6, 7)], [], [], [], [(0, yc 0, yc 0)]), (3, [(2, (-2147483648), 2147483647)], [], [], [], [(0, (1, 2, 0), yc 0)])], [])
def yx1341 : yCx := ([ys1090, ys1226, ys1340, ys814, ys815], ys1341.2.2.2.2, yFP, zm217.2.2.1, zm217.2.2.2.1, zc217, 2, ys1341.2.2.2.1, [], [])
theorem yw1341 : ywf ys1341.2.2.1 = true := by decide +kernel
theorem yk1341 : yver yx1341 ys1341.2.2.1 4000 = true := by decide +kernel
theorem yt1341 {E : zHp → Prop} (h : yEF E yFP) : yTs E 5 ys1341 := yver_s (x := yx1341) h (yal_c (yt1090 h) (by decide) yw1090 (yal_c (yt1226 h) (by decide) yw1226 (yal_c (yt1340 h) (by decide) yw1340 (yal_c (yt814 h) (by decide) yw814 (yal_c (yt815 h) (by decide) yw815 (yal_n)))))) yg217 yk1341
def ys1342 : ySp := (217, 3, (2, [(0, (-2147483648), 2147483647), (1, (-2147483648), 2147483647)], [], [], [(0, (2, yc 70, yc 0)), (1, (0, (1, 0, 0), yc 0)), (2, (0, (1, 1, 0), yc 0))], []), [(2, [], [], [], [], [(0, yc (-1), yc 0)]), (2, [(0, 0, 5), (1, 6, 7)], [], [], [], [(0, yc 0, yc 0)]), (3, [(0, 0, 5), (1, 0, 7), (2, (-2147483648), 2147483647)], [], [], [], [(0, (1, 2, 0), yc 0)])], [])
def yx1342 : yCx := ([ys1139, ys1231, ys1340, ys814, ys815], ys1342.2.2.2.2, yFP, zm217.2.2.1, zm217.2.2.2.1, zc217, 2, ys1342.2.2.2.1, [], [])
theorem yw1342 : ywf ys1342.2.2.1 = true := by decide +kernel
theorem yk1342 : yver yx1342 ys1342.2.2.1 4000 = true := by decide +kernel
theorem yt1342 {E : zHp → Prop} (h : yEF E yFP) : yTs E 5 ys1342 := yver_s (x := yx1342) h (yal_c (yt1139 h) (by decide) yw1139 (yal_c (yt1231 h) (by decide) yw1231 (yal_c (yt1340 h) (by decide) yw1340 (yal_c (yt814 h) (by decide) yw814 (yal_c (yt815 h) (by decide) yw815 (yal_n)))))) yg217 yk1342
def ys1343 : ySp := (283, 1, (0, [], [], [], [(0, (2, yc 1001, yc 0))], []), [(0, [], [], [], [], [(0, yc 0, yc 0)])], [])
def yx1343 : yCx := ([], ys1343.2.2.2.2, yFP, zm283.2.2.1, zm283.2.2.2.1, zc283, 0, ys1343.2.2.2.1, [], [])
theorem yw1343 : ywf ys1343.2.2.1 = true := by decide +kernel
theorem yk1343 : yver yx1343 ys1343.2.2.1 4000 = true := by decide +kernel
theorem yt1343 {E : zHp → Prop} (h : yEF E yFP) : yTs E 1 ys1343 := yver_s (x := yx1343) h (yal_n) yg283 yk1343
def ys1344 : ySp := (281, 1, (0, [], [], [], [(0, (2, yc 1001, yc 0))], []), [(0, [], [], [], [], [(0, yc 31, yc 0)])], [])
def yx1344 : yCx := ([ys1343], ys1344.2.2.2.2, yFP, zm281.2.2.1, zm281.2.2.2.1, zc281, 0, ys1344.2.2.2.1, [], [])
theorem yw1344 : ywf ys1344.2.2.1 = true := by decide +kernel
theorem yk1344 : yver yx1344 ys1344.2.2.1 4000 = true := by decide +kernel
theorem yt1344 {E : zHp → Prop} (h : yEF E yFP) : yTs E 2 ys1344 := yver_s (x := yx1344) h (yal_c (yt1343 h) (by decide) yw1343 (yal_n)) yg281 yk1344
def ys1345 : ySp := (284, 1, (0, [], [], [], [(0, (2, yc 1001, yc 0))], []), [(0, [], [], [], [], [(0, yc 1, yc 0)])], [])
def yx1345 : yCx := ([], ys1345.2.2.2.2, yFP, zm284.2.2.1, zm284.2.2.2.1, zc284, 0, ys1345.2.2.2.1, [], [])
theorem yw1345 : ywf ys1345.2.2.1 = true := by decide +kernel
theorem yk1345 : yver yx1345 ys1345.2.2.1 4000 = true := by decide +kernel
theorem yt1345 {E : zHp → Prop} (h : yEF E yFP) : yTs E 1 ys1345 := yver_s (x := yx1345) h (yal_n) yg284 yk1345
def ys1346 : ySp := (293, 3, (0, [], [], [], [(0, (0, yc 0, yc 0)), (1, (0, yc 31, yc 0)), (2, (7, yc 0, yc 0))], []), [(0, [], [], [], [], [(0, yc 0, yc 0)])], [])
def yx1346 : yCx := ([], ys1346.2.2.2.2, yFP, zm293.2.2.1, zm293.2.2.2.1, zc293, 0, ys1346.2.2.2.1, [], [])
theorem yw1346 : ywf ys1346.2.2.1 = true := by decide +kernel
theorem yk1346 : yver yx1346 ys1346.2.2.1 4000 = true := by decide +kernel
theorem yt1346 {E : zHp → Prop} (h : yEF E yFP) : yTs E 1 ys1346 := yver_s (x := yx1346) h (yal_n) yg293 yk1346
def ys1347 : ySp := (285, 2, (0, [], [], [], [(0, (0, yc 0, yc 0)), (1, (0, yc 31, yc 0))], []), [(0, [], [], [], [], [])], [])
def yx1347 : yCx := ([ys1346], ys1347.2.2.2.2, yFP, zm285.2.2.1, zm285.2.2.2.1, zc285, 0, ys1347.2.2.2.1, [], [])
theorem yw1347 : ywf ys1347.2.2.1 = true := by decide +kernel
theorem yk1347 : yver yx1347 ys1347.2.2.1 4000 = true := by decide +kernel
theorem yt1347 {E : zHp → Prop} (h : yEF E yFP) : yTs E 2 ys1347 := yver_s (x := yx1347) h (yal_c (yt1346 h) (by decide) yw1346 (yal_n)) yg285 yk1347
def ys1348 : ySp := (286, 2, (0, [], [], [], [(0, (2, yc 1020, yc 0)), (1, (0, yc 0, yc 0))], []), [(0, [], [], [], [], [(0, yc 118, yc 0)])], [])
def yx1348 : yCx := ([ys1347], ys1348.2.2.2.2, yFP, zm286.2.2.1, zm286.2.2.2.1, zc286, 0, ys1348.2.2.2.1, [], [])
theorem yw1348 : ywf ys1348.2.2.1 = true := by decide +kernel
theorem yk1348 : yver yx1348 ys1348.2.2.1 4000 = true := by decide +kernel
theorem yt1348 {E : zHp → Prop} (h : yEF E yFP) : yTs E 3 ys1348 := yver_s (x := yx1348) h (yal_c (yt1347 h) (by decide) yw1347 (yal_n)) yg286 yk1348
def ys1349 : ySp := (282, 2, (0, [], [], [], [(0, (2, yc 1001, yc 0)), (1, (0, yc 0, yc 0))], []), [(0, [], [], [], [], [(0, yc 118, yc 0)])], [])
def yx1349 : yCx := ([ys1345, ys1348], ys1349.2.2.2.2, yFP, zm282.2.2.1, zm282.2.2.2.1, zc282, 0, ys1349.2.2.2.1, [], [])
theorem yw1349 : ywf ys1349.2.2.1 = true := by decide +kernel
theorem yk1349 : yver yx1349 ys1349.2.2.1 4000 = true := by decide +kernel
theorem yt1349 {E : zHp → Prop} (h : yEF E yFP) : yTs E 4 ys1349 := yver_s (x := yx1349) h (yal_c (yt1345 h) (by decide) yw1345 (yal_c (yt1348 h) (by decide) yw1348 (yal_n))) yg282 yk1349
def ys1350 : ySp := (293, 3, (0, [], [], [], [(0, (0, yc 1, yc 0)), (1, (0, yc 31, yc 0)), (2, (7, yc 0, yc 0))], []), [(0, [], [], [], [], [(0, yc 1, yc 0)])], [])
def yx1350 : yCx := ([], ys1350.2.2.2.2, yFP, zm293.2.2.1, zm293.2.2.2.1, zc293, 0, ys1350.2.2.2.1, [], [])
theorem yw1350 : ywf ys1350.2.2.1 = true := by decide +kernel
theorem yk1350 : yver yx1350 ys1350.2.2.1 4000 = true := by decide +kernel
theorem yt1350 {E : zHp → Prop} (h : yEF E yFP) : yTs E 1 ys1350 := yver_s (x := yx1350) h (yal_n) yg293 yk1350
def ys1351 : ySp := (285, 2, (0, [], [], [], [(0, (0, yc 1, yc 0)), (1, (0, yc 31, yc 0))], []), [(0, [], [], [], [], [])], [])
def yx1351 : yCx := ([ys1350], ys1351.2.2.2.2, yFP, zm285.2.2.1, zm285.2.2.2.1, zc285, 0, ys1351.2.2.2.1, [], [])
theorem yw1351 : ywf ys1351.2.2.1 = true := by decide +kernel
theorem yk1351 : yver yx1351 ys1351.2.2.1 4000 = true := by decide +kernel
theorem yt1351 {E : zHp → Prop} (h : yEF E yFP) : yTs E 2 ys1351 := yver_s (x := yx1351) h (yal_c (yt1350 h) (by decide) yw1350 (yal_n)) yg285 yk1351
def ys1352 : ySp := (286, 2, (0, [], [], [], [(0, (2, yc 1020, yc 0)), (1, (0, yc 1, yc 0))], []), [(0, [], [], [], [], [(0, yc 105, yc 0)])], [])
def yx1352 : yCx := ([ys1351], ys1352.2.2.2.2, yFP, zm286.2.2.1, zm286.2.2.2.1, zc286, 0, ys1352.2.2.2.1, [], [])
theorem yw1352 : ywf ys1352.2.2.1 = true := by decide +kernel
theorem yk1352 : yver yx1352 ys1352.2.2.1 4000 = true := by decide +kernel
theorem yt1352 {E : zHp → Prop} (h : yEF E yFP) : yTs E 3 ys1352 := yver_s (x := yx1352) h (yal_c (yt1351 h) (by decide) yw1351 (yal_n)) yg286 yk1352
def ys1353 : ySp := (282, 2, (0, [], [], [], [(0, (2, yc 1001, yc 0)), (1, (0, yc 1, yc 0))], []), [(0, [], [], [], [], [(0, yc 105, yc 0)])], [])
def yx1353 : yCx := ([ys1345, ys1352], ys1353.2.2.2.2, yFP, zm282.2.2.1, zm282.2.2.2.1, zc282, 0, ys1353.2.2.2.1, [], [])
theorem yw1353 : ywf ys1353.2.2.1 = true := by decide +kernel
theorem yk1353 : yver yx1353 ys1353.2.2.1 4000 = true := by decide +kernel
theorem yt1353 {E : zHp → Prop} (h : yEF E yFP) : yTs E 4 ys1353 := yver_s (x := yx1353) h (yal_c (yt1345 h) (by decide) yw1345 (yal_c (yt1352 h) (by decide) yw1352 (yal_n))) yg282 yk1353
def ys1354 : ySp := (293, 3, (0, [], [], [], [(0, (0, yc 2, yc 0)), (1, (0, yc 31, yc 0)), (2, (7, yc 0, yc 0))], []), [(0, [], [], [], [], [(0, yc 2, yc 0)])], [])
def yx1354 : yCx := ([], ys1354.2.2.2.2, yFP, zm293.2.2.1, zm293.2.2.2.1, zc293, 0, ys1354.2.2.2.1, [], [])
theorem yw1354 : ywf ys1354.2.2.1 = true := by decide +kernel
theorem yk1354 : yver yx1354 ys1354.2.2.1 4000 = true := by decide +kernel
theorem yt1354 {E : zHp → Prop} (h : yEF E yFP) : yTs E 1 ys1354 := yver_s (x := yx1354) h (yal_n) yg293 yk1354
def ys1355 : ySp := (285, 2, (0, [], [], [], [(0, (0, yc 2, yc 0)), (1, (0, yc 31, yc 0))], []), [(0, [], [], [], [], [])], [])
def yx1355 : yCx := ([ys1354], ys1355.2.2.2.2, yFP, zm285.2.2.1, zm285.2.2.2.1, zc285, 0, ys1355.2.2.2.1, [], [])
theorem yw1355 : ywf ys1355.2.2.1 = true := by decide +kernel
theorem yk1355 : yver yx1355 ys1355.2.2.1 4000 = true := by decide +kernel
theorem yt1355 {E : zHp → Prop} (h : yEF E yFP) : yTs E 2 ys1355 := yver_s (x := yx1355) h (yal_c (yt1354 h) (by decide) yw1354 (yal_n)) yg285 yk1355
def ys1356 : ySp := (286, 2, (0, [], [], [], [(0, (2, yc 1020, yc 0)), (1, (0, yc 2, yc 0))], []), [(0, [], [], [], [], [(0, yc 108, yc 0)])], [])
def yx1356 : yCx := ([ys1355], ys1356.2.2.2.2, yFP, zm286.2.2.1, zm286.2.2.2.1, zc286, 0, ys1356.2.2.2.1, [], [])
theorem yw1356 : ywf ys1356.2.2.1 = true := by decide +kernel
theorem yk1356 : yver yx1356 ys1356.2.2.1 4000 = true := by decide +kernel
theorem yt1356 {E : zHp → Prop} (h : yEF E yFP) : yTs E 3 ys1356 := yver_s (x := yx1356) h (yal_c (yt1355 h) (by decide) yw1355 (yal_n)) yg286 yk1356
def ys1357 : ySp := (282, 2, (0, [], [], [], [(0, (2, yc 1001, yc 0)), (1, (0, yc 2, yc 0))], []), [(0, [], [], [], [], [(0, yc 108, yc 0)])], [])
def yx1357 : yCx := ([ys1345, ys1356], ys1357.2.2.2.2, yFP, zm282.2.2.1, zm282.2.2.2.1, zc282, 0, ys1357.2.2.2.1, [], [])
theorem yw1357 : ywf ys1357.2.2.1 = true := by decide +kernel
theorem yk1357 : yver yx1357 ys1357.2.2.1 4000 = true := by decide +kernel
theorem yt1357 {E : zHp → Prop} (h : yEF E yFP) : yTs E 4 ys1357 := yver_s (x := yx1357) h (yal_c (yt1345 h) (by decide) yw1345 (yal_c (yt1356 h) (by decide) yw1356 (yal_n))) yg282 yk1357
def ys1358 : ySp := (293, 3, (0, [], [], [], [(0, (0, yc 3, yc 0)), (1, (0, yc 31, yc 0)), (2, (7, yc 0, yc 0))], []), [(0, [], [], [], [], [(0, yc 3, yc 0)])], [])
def yx1358 : yCx := ([], ys1358.2.2.2.2, yFP, zm293.2.2.1, zm293.2.2.2.1, zc293, 0, ys1358.2.2.2.1, [], [])
theorem yw1358 : ywf ys1358.2.2.1 = true := by decide +kernel
theorem yk1358 : yver yx1358 ys1358.2.2.1 4000 = true := by decide +kernel
theorem yt1358 {E : zHp → Prop} (h : yEF E yFP) : yTs E 1 ys1358 := yver_s (x := yx1358) h (yal_n) yg293 yk1358
def ys1359 : ySp := (285, 2, (0, [], [], [], [(0, (0, yc 3, yc 0)), (1, (0, yc 31, yc 0))], []), [(0, [], [], [], [], [])], [])
def yx1359 : yCx := ([ys1358], ys1359.2.2.2.2, yFP, zm285.2.2.1, zm285.2.2.2.1, zc285, 0, ys1359.2.2.2.1, [], [])
theorem yw1359 : ywf ys1359.2.2.1 = true := by decide +kernel
theorem yk1359 : yver yx1359 ys1359.2.2.1 4000 = true := by decide +kernel
theorem yt1359 {E : zHp → Prop} (h : yEF E yFP) : yTs E 2 ys1359 := yver_s (x := yx1359) h (yal_c (yt1358 h) (by decide) yw1358 (yal_n)) yg285 yk1359
def ys1360 : ySp := (286, 2, (0, [], [], [], [(0, (2, yc 1020, yc 0)), (1, (0, yc 3, yc 0))], []), [(0, [], [], [], [], [(0, yc 108, yc 0)])], [])
def yx1360 : yCx := ([ys1359], ys1360.2.2.2.2, yFP, zm286.2.2.1, zm286.2.2.2.1, zc286, 0, ys1360.2.2.2.1, [], [])
theorem yw1360 : ywf ys1360.2.2.1 = true := by decide +kernel
theorem yk1360 : yver yx1360 ys1360.2.2.1 4000 = true := by decide +kernel
theorem yt1360 {E : zHp → Prop} (h : yEF E yFP) : yTs E 3 ys1360 := yver_s (x := yx1360) h (yal_c (yt1359 h) (by decide) yw1359 (yal_n)) yg286 yk1360
def ys1361 : ySp := (282, 2, (0, [], [], [], [(0, (2, yc 1001, yc 0)), (1, (0, yc 3, yc 0))], []), [(0, [], [], [], [], [(0, yc 108, yc 0)])], [])
def yx1361 : yCx := ([ys1345, ys1360], ys1361.2.2.2.2, yFP, zm282.2.2.1, zm282.2.2.2.1, zc282, 0, ys1361.2.2.2.1, [], [])
theorem yw1361 : ywf ys1361.2.2.1 = true := by decide +kernel
theorem yk1361 : yver yx1361 ys1361.2.2.1 4000 = true := by decide +kernel
theorem yt1361 {E : zHp → Prop} (h : yEF E yFP) : yTs E 4 ys1361 := yver_s (x := yx1361) h (yal_c (yt1345 h) (by decide) yw1345 (yal_c (yt1360 h) (by decide) yw1360 (yal_n))) yg282 yk1361
def ys1362 : ySp := (293, 3, (0, [], [], [], [(0, (0, yc 4, yc 0)), (1, (0, yc 31, yc 0)), (2, (7, yc 0, yc 0))], []), [(0, [], [], [], [], [(0, yc 4, yc 0)])], [])
def yx1362 : yCx := ([], ys1362.2.2.2.2, yFP, zm293.2.2.1, zm293.2.2.2.1, zc293, 0, ys1362.2.2.2.1, [], [])
theorem yw1362 : ywf ys1362.2.2.1 = true := by decide +kernel
theorem yk1362 : yver yx1362 ys1362.2.2.1 4000 = true := by decide +kernel
theorem yt1362 {E : zHp → Prop} (h : yEF E yFP) : yTs E 1 ys1362 := yver_s (x := yx1362) h (yal_n) yg293 yk1362
def ys1363 : ySp := (285, 2, (0, [], [], [], [(0, (0, yc 4, yc 0)), (1, (0, yc 31, yc 0))], []), [(0, [], [], [], [], [])], [])
def yx1363 : yCx := ([ys1362], ys1363.2.2.2.2, yFP, zm285.2.2.1, zm285.2.2.2.1, zc285, 0, ys1363.2.2.2.1, [], [])
theorem yw1363 : ywf ys1363.2.2.1 = true := by decide +kernel
theorem yk1363 : yver yx1363 ys1363.2.2.1 4000 = true := by decide +kernel
theorem yt1363 {E : zHp → Prop} (h : yEF E yFP) : yTs E 2 ys1363 := yver_s (x := yx1363) h (yal_c (yt1362 h) (by decide) yw1362 (yal_n)) yg285 yk1363
def ys1364 : ySp := (286, 2, (0, [], [], [], [(0, (2, yc 1020, yc 0)), (1, (0, yc 4, yc 0))], []), [(0, [], [], [], [], [(0, yc 97, yc 0)])], [])
def yx1364 : yCx := ([ys1363], ys1364.2.2.2.2, yFP, zm286.2.2.1, zm286.2.2.2.1, zc286, 0, ys1364.2.2.2.1, [], [])
theorem yw1364 : ywf ys1364.2.2.1 = true := by decide +kernel
theorem yk1364 : yver yx1364 ys1364.2.2.1 4000 = true := by decide +kernel
theorem yt1364 {E : zHp → Prop} (h : yEF E yFP) : yTs E 3 ys1364 := yver_s (x := yx1364) h (yal_c (yt1363 h) (by decide) yw1363 (yal_n)) yg286 yk1364
