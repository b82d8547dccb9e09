section
def ys1303 : ySp := (234, 1, (0, [], [], [], [(0, (2, yc 70, yc 0))], []), [(0, [], [], [], [], [(0, yc (-1), yc 0)]), (1, [(0, (-2147483648), 2147483647)], [], [], [], [(0, (1, 0, 0), yc 0)])], [(70, 70, 25), (80, 80, 1000), (81, 81, 1000)])
def yx1303 : yCx := ([ys769, ys0, ys832], ys1303.2.2.2.2, yFP, zm234.2.2.1, zm234.2.2.2.1, zc234, 0, ys1303.2.2.2.1, [], [])
theorem yw1303 : ywf ys1303.2.2.1 = true := by decide +kernel
theorem yk1303 : yver yx1303 ys1303.2.2.1 4000 = true := yverQ_ok (by decide +kernel)
theorem yt1303 {E : zHp → Prop} (h : yXt E) : yTs E 4 ys1303 := yver_s (k := 234) (n := 3) (x := yx1303) (P := ys1303.2.2.1) (f := 4000) h.1 (yal_c (yt769 h.1) (by decide) yw769 (yal_c (yl0 h) (by decide) yw0 (yal_c (yt832 h.1) (by decide) yw832 (yal_n)))) yg234 yk1303
def ys1304 : ySp := (88, 4, (2, [(0, 0, 5), (1, 0, 5)], [], [], [(0, (2, yc 9, yc 0)), (1, (0, (1, 0, 0), yc 0)), (2, (0, yc 0, yc 0)), (3, (0, (1, 1, 0), yc 0))], []), [(2, [], [], [], [], [])], [(10, 10, 1000)])
def yx1304 : yCx := ([], ys1304.2.2.2.2, yFP, zm88.2.2.1, zm88.2.2.2.1, zc88, 2, ys1304.2.2.2.1, [], [])
theorem yw1304 : ywf ys1304.2.2.1 = true := by decide +kernel
theorem yk1304 : yver yx1304 ys1304.2.2.1 4000 = true := yverQ_ok (by decide +kernel)
theorem yt1304 {E : zHp → Prop} (h : yEF E yFP) : yTs E 1 ys1304 := yver_s (k := 88) (n := 0) (x := yx1304) (P := ys1304.2.2.1) (f := 4000) h (yal_n) yg88 yk1304
def ys1305 : ySp := (104, 3, (2, [(0, 0, 5), (1, 0, 5)], [], [], [(0, (2, yc 9, yc 0)), (1, (0, (1, 0, 0), yc 0)), (2, (0, (1, 1, 0), yc 0))], []), [(2, [], [], [], [], [])], [(10, 10, 1000)])
def yx1305 : yCx := ([ys1269, ys1304, ys1265, ys1290], ys1305.2.2.2.2, yFP, zm104.2.2.1, zm104.2.2.2.1, zc104, 2, ys1305.2.2.2.1, [], [])
theorem yw1305 : ywf ys1305.2.2.1 = true := by decide +kernel
theorem yk1305 : yver yx1305 ys1305.2.2.1 4000 = true := yverQ_ok (by decide +kernel)
theorem yt1305 {E : zHp → Prop} (h : yEF E yFP) : yTs E 2 ys1305 := yver_s (k := 104) (n := 1) (x := yx1305) (P := ys1305.2.2.1) (f := 4000) h (yal_c (yt1269 h) (by decide) yw1269 (yal_c (yt1304 h) (by decide) yw1304 (yal_c (yt1265 h) (by decide) yw1265 (yal_c (yt1290 h) (by decide) yw1290 (yal_n))))) yg104 yk1305
def ys1306 : ySp := (136, 4, (2, [(0, (-2147483648), 2147483647), (1, (-2147483648), 2147483647)], [], [], [(0, (2, yc 0, yc 0)), (1, (0, (1, 0, 0), yc 0)), (2, (0, (1, 1, 0), yc 0))], []), [(2, [], [], [], [], [(0, yc (-1), yc 0)]), (3, [(0, 0, 5), (1, 0, 5), (2, 0, 5)], [], [], [], [(0, (1, 2, 0), yc 0)])], [(10, 10, 1000), (14, 14, 1), (14, 14, 2), (16, 35, 1000)])
def yx1306 : yCx := ([ys1300, ys1034, ys1068, ys1035, ys1305], ys1306.2.2.2.2, yFP, zm136.2.2.1, zm136.2.2.2.1, zc136, 2, ys1306.2.2.2.1, [], [])
theorem yw1306 : ywf ys1306.2.2.1 = true := by decide +kernel
theorem yk1306 : yver yx1306 ys1306.2.2.1 4000 = true := yverQ_ok (by decide +kernel)
theorem yt1306 {E : zHp → Prop} (h : yEF E yFP) : yTs E 3 ys1306 := yver_s (k := 136) (n := 2) (x := yx1306) (P := ys1306.2.2.1) (f := 4000) h (yal_c (yt1300 h) (by decide) yw1300 (yal_c (yt1034 h) (by decide) yw1034 (yal_c (yt1068 h) (by decide) yw1068 (yal_c (yt1035 h) (by decide) yw1035 (yal_c (yt1305 h) (by decide) yw1305 (yal_n)))))) yg136 yk1306
def ys1307 : ySp := (232, 4, (2, [(0, 0, 5), (1, 0, 5)], [], [], [(0, (2, yc 70, yc 0)), (1, (0, (1, 0, 0), yc 0)), (2, (0, (1, 1, 0), yc 0))], []), [(2, [], [], [], [], [(0, yc (-1), yc 0)]), (3, [(2, 0, 5)], [], [], [], [(0, (1, 2, 0), yc 0)])], [(70, 70, 25), (80, 80, 1000), (81, 81, 1000)])
def yx1307 : yCx := ([ys1076, ys1226, ys786, ys0, ys1229], ys1307.2.2.2.2, yFP, zm232.2.2.1, zm232.2.2.2.1, zc232, 2, ys1307.2.2.2.1, [], [])
theorem yw1307 : ywf ys1307.2.2.1 = true := by decide +kernel
theorem yk1307 : yver yx1307 ys1307.2.2.1 4000 = true := yverQ_ok (by decide +kernel)
theorem yt1307 {E : zHp → Prop} (h : yXt E) : yTs E 4 ys1307 := yver_s (k := 232) (n := 3) (x := yx1307) (P := ys1307.2.2.1) (f := 4000) h.1 (yal_c (yt1076 h.1) (by decide) yw1076 (yal_c (yt1226 h.1) (by decide) yw1226 (yal_c (yt786 h.1) (by decide) yw786 (yal_c (yl0 h) (by decide) yw0 (yal_c (yt1229 h.1) (by decide) yw1229 (yal_n)))))) yg232 yk1307
def ys1308 : ySp := (232, 4, (2, [(0, (-2147483648), 2147483647), (1, (-2147483648), 2147483647)], [], [], [(0, (2, yc 70, yc 0)), (1, (0, (1, 0, 0), yc 0)), (2, (0, (1, 1, 0), yc 0))], []), [(2, [], [], [], [], [(0, yc (-1), yc 0)]), (3, [(0, 0, 5), (1, 0, 5), (2, 0, 5)], [], [], [], [(0, (1, 2, 0), yc 0)])], [(70, 70, 25), (80, 80, 1000), (81, 81, 1000)])
def yx1308 : yCx := ([ys1076, ys1231, ys786, ys0, ys1229], ys1308.2.2.2.2, yFP, zm232.2.2.1, zm232.2.2.2.1, zc232, 2, ys1308.2.2.2.1, [], [])
theorem yw1308 : ywf ys1308.2.2.1 = true := by decide +kernel
theorem yk1308 : yver yx1308 ys1308.2.2.1 4000 = true := yverQ_ok (by decide +kernel)
theorem yt1308 {E : zHp → Prop} (h : yXt E) : yTs E 4 ys1308 := yver_s (k := 232) (n := 3) (x := yx1308) (P := ys1308.2.2.1) (f := 4000) h.1 (yal_c (yt1076 h.1) (by decide) yw1076 (yal_c (yt1231 h.1) (by decide) yw1231 (yal_c (yt786 h.1) (by decide) yw786 (yal_c (yl0 h) (by decide) yw0 (yal_c (yt1229 h.1) (by decide) yw1229 (yal_n)))))) yg232 yk1308
def ys1309 : ySp := (65, 4, (0, [], [], [], [(0, (2, yc 67, yc 0)), (1, (2, yc 9, yc 0))], []), [(0, [], [], [], [], [])], [(10, 10, 1000)])
def yx1309 : yCx := ([ys1268, ys1073], ys1309.2.2.2.2, yFP, zm65.2.2.1, zm65.2.2.2.1, zc65, 0, ys1309.2.2.2.1, [(2, (1, [(0, 0, 6)], [], [], [(0, (2, yc 67, yc 0)), (1, (2, yc 9, yc 0)), (2, (0, (1, 0, 0), yc 0))], []), ([((-1), 0)], 7))], [])
theorem yw1309 : ywf ys1309.2.2.1 = true := by decide +kernel
theorem yk1309 : yver yx1309 ys1309.2.2.1 4000 = true := yverQ_ok (by decide +kernel)
theorem yt1309 {E : zHp → Prop} (h : yEF E yFP) : yTs E 2 ys1309 := yver_s (k := 65) (n := 1) (x := yx1309) (P := ys1309.2.2.1) (f := 4000) h (yal_c (yt1268 h) (by decide) yw1268 (yal_c (yt1073 h) (by decide) yw1073 (yal_n))) yg65 yk1309
def ys1310 : ySp := (135, 1, (0, [], [], [], [(0, (2, yc 0, yc 0))], []), [(0, [], [], [], [], [(0, yc (-1), yc 0)]), (1, [(0, 1, 6)], [], [], [], [(0, (1, 0, 0), yc 0)])], [(10, 10, 1000), (14, 14, 1), (14, 14, 2), (16, 35, 1000), (67, 67, 1), (68, 68, 1000)])
def yx1310 : yCx := ([ys1300, ys1088, ys1309], ys1310.2.2.2.2, yFP, zm135.2.2.1, zm135.2.2.2.1, zc135, 0, ys1310.2.2.2.1, [], [])
theorem yw1310 : ywf ys1310.2.2.1 = true := by decide +kernel
theorem yk1310 : yver yx1310 ys1310.2.2.1 4000 = true := yverQ_ok (by decide +kernel)
theorem yt1310 {E : zHp → Prop} (h : yEF E yFP) : yTs E 9 ys1310 := yver_s (k := 135) (n := 8) (x := yx1310) (P := ys1310.2.2.1) (f := 4000) h (yal_c (yt1300 h) (by decide) yw1300 (yal_c (yt1088 h) (by decide) yw1088 (yal_c (yt1309 h) (by decide) yw1309 (yal_n)))) yg135 yk1310
def ys1311 : ySp := (242, 3, (0, [], [], [], [(0, (2, yc 70, yc 0))], []), [(0, [], [], [], [], [(0, yc (-1), yc 0)]), (1, [(0, 2, 6)], [], [], [], [(0, (1, 0, 0), yc 0)])], [(70, 70, 25), (70, 70, 26), (80, 80, 1000), (81, 81, 1000)])
def yx1311 : yCx := ([ys769, ys0, ys1130, ys1133], ys1311.2.2.2.2, yFP, zm242.2.2.1, zm242.2.2.2.1, zc242, 0, ys1311.2.2.2.1, [(26, (3, [(0, 2, 6), (1, 0, 6), (2, 1, 6)], [], [(yc 80, yc 0, (0, (1, 2, 0), yc 0))], [(0, (2, yc 70, yc 0)), (1, (0, (1, 0, 0), yc 0)), (2, (0, (1, 1, 0), yc 0))], []), ([((-1), 1)], 7))], [])
theorem yw1311 : ywf ys1311.2.2.1 = true := by decide +kernel
theorem yk1311 : yver yx1311 ys1311.2.2.1 4000 = true := yverQ_ok (by decide +kernel)
theorem yt1311 {E : zHp → Prop} (h : yXt E) : yTs E 6 ys1311 := yver_s (k := 242) (n := 5) (x := yx1311) (P := ys1311.2.2.1) (f := 4000) h.1 (yal_c (yt769 h.1) (by decide) yw769 (yal_c (yl0 h) (by decide) yw0 (yal_c (yt1130 h.1) (by decide) yw1130 (yal_c (yt1133 h.1) (by decide) yw1133 (yal_n))))) yg242 yk1311
def ys1312 : ySp := (86, 3, (2, [(0, (-2147483648), 2147483647), (1, (-2147483648), 2147483647)], [], [], [(0, (2, yc 9, yc 0)), (1, (0, (1, 0, 0), yc 0)), (2, (0, (1, 1, 0), yc 0))], []), [(2, [], [], [], [], [(0, yc 0, yc 0)]), (2, [(0, 0, 5), (1, 0, 5)], [], [], [], [(0, yc 1, yc 0)])], [])
def yx1312 : yCx := ([ys1068], ys1312.2.2.2.2, yFP, zm86.2.2.1, zm86.2.2.2.1, zc86, 2, ys1312.2.2.2.1, [], [])
theorem yw1312 : ywf ys1312.2.2.1 = true := by decide +kernel
theorem yk1312 : yver yx1312 ys1312.2.2.1 4000 = true := yverQ_ok (by decide +kernel)
theorem yt1312 {E : zHp → Prop} (h : yEF E yFP) : yTs E 3 ys1312 := yver_s (k := 86) (n := 2) (x := yx1312) (P := ys1312.2.2.1) (f := 4000) h (yal_c (yt1068 h) (by decide) yw1068 (yal_n)) yg86 yk1312
def ys1313 : ySp := (105, 3, (2, [(0, 0, 5), (1, 0, 5)], [], [], [(0, (2, yc 9, yc 0)), (1, (0, (1, 0, 0), yc 0)), (2, (0, (1, 1, 0), yc 0))], []), [(2, [], [], [], [], [])], [(10, 10, 1000)])
def yx1313 : yCx := ([], ys1313.2.2.2.2, yFP, zm105.2.2.1, zm105.2.2.2.1, zc105, 2, ys1313.2.2.2.1, [], [])
theorem yw1313 : ywf ys1313.2.2.1 = true := by decide +kernel
theorem yk1313 : yver yx1313 ys1313.2.2.1 4000 = true := yverQ_ok (by decide +kernel)
theorem yt1313 {E : zHp → Prop} (h : yEF E yFP) : yTs E 1 ys1313 := yver_s (k := 105) (n := 0) (x := yx1313) (P := ys1313.2.2.1) (f := 4000) h (yal_n) yg105 yk1313
def ys1314 : ySp := (134, 3, (2, [(0, (-2147483648), 2147483647), (1, (-2147483648), 2147483647)], [], [], [(0, (2, yc 0, yc 0)), (1, (0, (1, 0, 0), yc 0)), (2, (0, (1, 1, 0), yc 0))], []), [(2, [], [], [], [], [(0, yc 0, yc 0)]), (2, [(0, 0, 5), (1, 0, 5)], [], [], [], [(0, yc 1, yc 0)])], [(10, 10, 1000), (14, 14, 1), (14, 14, 2), (16, 35, 1000)])
def yx1314 : yCx := ([ys1300, ys1312, ys1192, ys1313], ys1314.2.2.2.2, yFP, zm134.2.2.1, zm134.2.2.2.1, zc134, 2, ys1314.2.2.2.1, [], [])
theorem yw1314 : ywf ys1314.2.2.1 = true := by decide +kernel
theorem yk1314 : yver yx1314 ys1314.2.2.1 4000 = true := yverQ_ok (by decide +kernel)
theorem yt1314 {E : zHp → Prop} (h : yEF E yFP) : yTs E 4 ys1314 := yver_s (k := 134) (n := 3) (x := yx1314) (P := ys1314.2.2.1) (f := 4000) h (yal_c (yt1300 h) (by decide) yw1300 (yal_c (yt1312 h) (by decide) yw1312 (yal_c (yt1192 h) (by decide) yw1192 (yal_c (yt1313 h) (by decide) yw1313 (yal_n))))) yg134 yk1314
def ys1315 : ySp := (230, 3, (2, [(0, 0, 5), (1, 0, 5)], [], [], [(0, (2, yc 70, yc 0)), (1, (0, (1, 0, 0), yc 0)), (2, (0, (1, 1, 0), yc 0))], []), [(2, [], [], [], [], [(0, yc 0, yc 0)]), (2, [], [], [], [], [(0, yc 1, yc 0)])], [(70, 70, 25), (80, 80, 1000), (81, 81, 1000)])
def yx1315 : yCx := ([ys1076, ys777, ys0, ys990], ys1315.2.2.2.2, yFP, zm230.2.2.1, zm230.2.2.2.1, zc230, 2, ys1315.2.2.2.1, [], [])
theorem yw1315 : ywf ys1315.2.2.1 = true := by decide +kernel
theorem yk1315 : yver yx1315 ys1315.2.2.1 4000 = true := yverQ_ok (by decide +kernel)
theorem yt1315 {E : zHp → Prop} (h : yXt E) : yTs E 2 ys1315 := yver_s (k := 230) (n := 1) (x := yx1315) (P := ys1315.2.2.1) (f := 4000) h.1 (yal_c (yt1076 h.1) (by decide) yw1076 (yal_c (yt777 h.1) (by decide) yw777 (yal_c (yl0 h) (by decide) yw0 (yal_c (yt990 h.1) (by decide) yw990 (yal_n))))) yg230 yk1315
def ys1316 : ySp := (230, 3, (2, [(0, (-2147483648), 2147483647), (1, (-2147483648), 2147483647)], [], [], [(0, (2, yc 70, yc 0)), (1, (0, (1, 0, 0), yc 0)), (2, (0, (1, 1, 0), yc 0))], []), [(2, [], [], [], [], [(0, yc 0, yc 0)]), (2, [(0, 0, 5), (1, 0, 5)], [], [], [], [(0, yc 1, yc 0)])], [(70, 70, 25), (80, 80, 1000), (81, 81, 1000)])
def yx1316 : yCx := ([ys1076, ys777, ys0, ys990], ys1316.2.2.2.2, yFP, zm230.2.2.1, zm230.2.2.2.1, zc230, 2, ys1316.2.2.2.1, [], [])
theorem yw1316 : ywf ys1316.2.2.1 = true := by decide +kernel
theorem yk1316 : yver yx1316 ys1316.2.2.1 4000 = true := yverQ_ok (by decide +kernel)
theorem yt1316 {E : zHp → Prop} (h : yXt E) : yTs E 2 ys1316 := yver_s (k := 230) (n := 1) (x := yx1316) (P := ys1316.2.2.1) (f := 4000) h.1 (yal_c (yt1076 h.1) (by decide) yw1076 (yal_c (yt777 h.1) (by decide) yw777 (yal_c (yl0 h) (by decide) yw0 (yal_c (yt990 h.1) (by decide) yw990 (yal_n))))) yg230 yk1316
def ys1317 : ySp := (84, 2, (1, [(0, (-2147483648), 2147483647)], [], [], [(0, (2, yc 9, yc 0)), (1, (0, (1, 0, 0), yc 0))], []), [(1, [], [], [], [], [(0, yc 0, yc 0)]), (1, [(0, 0, 5)], [], [], [], [(0, yc 1, yc 0)])], [])
def yx1317 : yCx := ([ys656], ys1317.2.2.2.2, yFP, zm84.2.2.1, zm84.2.2.2.1, zc84, 1, ys1317.2.2.2.1, [], [])
theorem yw1317 : ywf ys1317.2.2.1 = true := by decide +kernel
theorem yk1317 : yver yx1317 ys1317.2.2.1 4000 = true := yverQ_ok (by decide +kernel)
theorem yt1317 {E : zHp → Prop} (h : yEF E yFP) : yTs E 2 ys1317 := yver_s (k := 84) (n := 1) (x := yx1317) (P := ys1317.2.2.1) (f := 4000) h (yal_c (yt656 h) (by decide) yw656 (yal_n)) yg84 yk1317
def ys1318 : ySp := (133, 2, (1, [(0, (-2147483648), 2147483647)], [], [], [(0, (2, yc 0, yc 0)), (1, (0, (1, 0, 0), yc 0))], []), [(1, [], [], [], [], [(0, yc (-1), yc 0)]), (2, [(0, 0, 5), (1, (-2147483648), 2147483647)], [], [], [], [(0, (1, 1, 0), yc 0)])], [(10, 10, 1000), (14, 14, 1), (14, 14, 2), (16, 35, 1000)])
def yx1318 : yCx := ([ys1300, ys1317, ys1284, ys1286], ys1318.2.2.2.2, yFP, zm133.2.2.1, zm133.2.2.2.1, zc133, 1, ys1318.2.2.2.1, [], [])
theorem yw1318 : ywf ys1318.2.2.1 = true := by decide +kernel
theorem yk1318 : yver yx1318 ys1318.2.2.1 4000 = true := yverQ_ok (by decide +kernel)
theorem yt1318 {E : zHp → Prop} (h : yEF E yFP) : yTs E 6 ys1318 := yver_s (k := 133) (n := 5) (x := yx1318) (P := ys1318.2.2.1) (f := 4000) h (yal_c (yt1300 h) (by decide) yw1300 (yal_c (yt1317 h) (by decide) yw1317 (yal_c (yt1284 h) (by decide) yw1284 (yal_c (yt1286 h) (by decide) yw1286 (yal_n))))) yg133 yk1318
def ys1319 : ySp := (207, 2, (2, [(0, 0, 5), (1, 0, 6)], [], [(yc 80, yc 3, (0, (1, 1, 0), yc 0))], [(0, (2, yc 70, yc 0)), (1, (0, (1, 0, 0), yc 0))], []), [(2, [(1, 0, 5)], [([(1, 0), ((-1), 1)], 0)], [(yc 80, yc 3, (0, (1, 1, 0), yc 0))], [], [(0, yc 0, yc 0)]), (2, [(1, 1, 6)], [([(1, 1), ((-1), 0)], (-1))], [(yc 80, yc 3, (0, (1, 1, 0), yc 0))], [], [(0, yc 1, yc 0)])], [])
def yx1319 : yCx := ([], ys1319.2.2.2.2, yFP, zm207.2.2.1, zm207.2.2.2.1, zc207, 2, ys1319.2.2.2.1, [], [])
theorem yw1319 : ywf ys1319.2.2.1 = true := by decide +kernel
theorem yk1319 : yver yx1319 ys1319.2.2.1 4000 = true := yverQ_ok (by decide +kernel)
theorem yt1319 {E : zHp → Prop} (h : yEF E yFP) : yTs E 1 ys1319 := yver_s (k := 207) (n := 0) (x := yx1319) (P := ys1319.2.2.1) (f := 4000) h (yal_n) yg207 yk1319
def ys1320 : ySp := (228, 2, (1, [(0, 0, 5)], [], [], [(0, (2, yc 70, yc 0)), (1, (0, (1, 0, 0), yc 0))], []), [(1, [], [], [], [], [(0, yc (-1), yc 0)]), (2, [(1, (-2147483648), 2147483647)], [], [], [], [(0, (1, 1, 0), yc 0)])], [(70, 70, 25), (80, 80, 1000), (81, 81, 1000)])
def yx1320 : yCx := ([ys1319, ys828, ys0, ys830], ys1320.2.2.2.2, yFP, zm228.2.2.1, zm228.2.2.2.1, zc228, 1, ys1320.2.2.2.1, [], [])
theorem yw1320 : ywf ys1320.2.2.1 = true := by decide +kernel
theorem yk1320 : yver yx1320 ys1320.2.2.1 4000 = true := yverQ_ok (by decide +kernel)
theorem yt1320 {E : zHp → Prop} (h : yXt E) : yTs E 6 ys1320 := yver_s (k := 228) (n := 5) (x := yx1320) (P := ys1320.2.2.1) (f := 4000) h.1 (yal_c (yt1319 h.1) (by decide) yw1319 (yal_c (yt828 h.1) (by decide) yw828 (yal_c (yl0 h) (by decide) yw0 (yal_c (yt830 h.1) (by decide) yw830 (yal_n))))) yg228 yk1320
def ys1321 : ySp := (207, 2, (2, [(0, (-2147483648), 2147483647), (1, 0, 6)], [], [(yc 80, yc 3, (0, (1, 1, 0), yc 0))], [(0, (2, yc 70, yc 0)), (1, (0, (1, 0, 0), yc 0))], []), [(2, [], [], [(yc 80, yc 3, (0, (1, 1, 0), yc 0))], [], [(0, yc 0, yc 0)]), (2, [(0, 0, 5), (1, 1, 6)], [([(1, 1), ((-1), 0)], (-1))], [(yc 80, yc 3, (0, (1, 1, 0), yc 0))], [], [(0, yc 1, yc 0)])], [])
def yx1321 : yCx := ([], ys1321.2.2.2.2, yFP, zm207.2.2.1, zm207.2.2.2.1, zc207, 2, ys1321.2.2.2.1, [], [])
theorem yw1321 : ywf ys1321.2.2.1 = true := by decide +kernel
theorem yk1321 : yver yx1321 ys1321.2.2.1 4000 = true := yverQ_ok (by decide +kernel)
theorem yt1321 {E : zHp → Prop} (h : yEF E yFP) : yTs E 1 ys1321 := yver_s (k := 207) (n := 0) (x := yx1321) (P := ys1321.2.2.1) (f := 4000) h (yal_n) yg207 yk1321
def ys1322 : ySp := (228, 2, (1, [(0, (-2147483648), 2147483647)], [], [], [(0, (2, yc 70, yc 0)), (1, (0, (1, 0, 0), yc 0))], []), [(1, [], [], [], [], [(0, yc (-1), yc 0)]), (2, [(0, 0, 5), (1, (-2147483648), 2147483647)], [], [], [], [(0, (1, 1, 0), yc 0)])], [(70, 70, 25), (80, 80, 1000), (81, 81, 1000)])
def yx1322 : yCx := ([ys1321, ys828, ys0, ys830], ys1322.2.2.2.2, yFP, zm228.2.2.1, zm228.2.2.2.1, zc228, 1, ys1322.2.2.2.1, [], [])
theorem yw1322 : ywf ys1322.2.2.1 = true := by decide +kernel
theorem yk1322 : yver yx1322 ys1322.2.2.1 4000 = true := yverQ_ok (by decide +kernel)
theorem yt1322 {E : zHp → Prop} (h : yXt E) : yTs E 6 ys1322 := yver_s (k := 228) (n := 5) (x := yx1322) (P := ys1322.2.2.1) (f := 4000) h.1 (yal_c (yt1321 h.1) (by decide) yw1321 (yal_c (yt828 h.1) (by decide) yw828 (yal_c (yl0 h) (by decide) yw0 (yal_c (yt830 h.1) (by decide) yw830 (yal_n))))) yg228 yk1322
def ys1323 : ySp := (103, 2, (1, [(0, 0, 5)], [], [], [(0, (2, yc 9, yc 0)), (1, (0, (1, 0, 0), yc 0))], []), [(1, [], [], [], [], [])], [(10, 10, 1000)])
def yx1323 : yCx := ([ys1035, ys1305], ys1323.2.2.2.2, yFP, zm103.2.2.1, zm103.2.2.2.1, zc103, 1, ys1323.2.2.2.1, [], [])
theorem yw1323 : ywf ys1323.2.2.1 = true := by decide +kernel
theorem yk1323 : yver yx1323 ys1323.2.2.1 4000 = true := yverQ_ok (by decide +kernel)
theorem yt1323 {E : zHp → Prop} (h : yEF E yFP) : yTs E 3 ys1323 := yver_s (k := 103) (n := 2) (x := yx1323) (P := ys1323.2.2.1) (f := 4000) h (yal_c (yt1035 h) (by decide) yw1035 (yal_c (yt1305 h) (by decide) yw1305 (yal_n))) yg103 yk1323
def ys1324 : ySp := (132, 2, (1, [(0, (-2147483648), 2147483647)], [], [], [(0, (2, yc 0, yc 0)), (1, (0, (1, 0, 0), yc 0))], []), [(1, [], [], [], [], [(0, yc (-1), yc 0)]), (2, [(0, 0, 5), (1, 0, 5)], [], [], [], [(0, (1, 1, 0), yc 0)])], [(10, 10, 1000), (14, 14, 1), (14, 14, 2), (16, 35, 1000)])
def yx1324 : yCx := ([ys1300, ys1034, ys1035, ys1066, ys1323], ys1324.2.2.2.2, yFP, zm132.2.2.1, zm132.2.2.2.1, zc132, 1, ys1324.2.2.2.1, [], [])
theorem yw1324 : ywf ys1324.2.2.1 = true := by decide +kernel
theorem yk1324 : yver yx1324 ys1324.2.2.1 4000 = true := yverQ_ok (by decide +kernel)
theorem yt1324 {E : zHp → Prop} (h : yEF E yFP) : yTs E 4 ys1324 := yver_s (k := 132) (n := 3) (x := yx1324) (P := ys1324.2.2.1) (f := 4000) h (yal_c (yt1300 h) (by decide) yw1300 (yal_c (yt1034 h) (by decide) yw1034 (yal_c (yt1035 h) (by decide) yw1035 (yal_c (yt1066 h) (by decide) yw1066 (yal_c (yt1323 h) (by decide) yw1323 (yal_n)))))) yg132 yk1324
def ys1325 : ySp := (227, 2, (1, [(0, 0, 5)], [], [], [(0, (2, yc 70, yc 0)), (1, (0, (1, 0, 0), yc 0))], []), [(1, [], [], [], [], [(0, yc (-1), yc 0)]), (2, [(1, 0, 5)], [], [], [], [(0, (1, 1, 0), yc 0)])], [(70, 70, 25), (80, 80, 1000), (81, 81, 1000)])
def yx1325 : yCx := ([ys1226, ys786, ys810, ys0, ys787], ys1325.2.2.2.2, yFP, zm227.2.2.1, zm227.2.2.2.1, zc227, 1, ys1325.2.2.2.1, [], [])
theorem yw1325 : ywf ys1325.2.2.1 = true := by decide +kernel
theorem yk1325 : yver yx1325 ys1325.2.2.1 4000 = true := yverQ_ok (by decide +kernel)
theorem yt1325 {E : zHp → Prop} (h : yXt E) : yTs E 3 ys1325 := yver_s (k := 227) (n := 2) (x := yx1325) (P := ys1325.2.2.1) (f := 4000) h.1 (yal_c (yt1226 h.1) (by decide) yw1226 (yal_c (yt786 h.1) (by decide) yw786 (yal_c (yt810 h.1) (by decide) yw810 (yal_c (yl0 h) (by decide) yw0 (yal_c (yt787 h.1) (by decide) yw787 (yal_n)))))) yg227 yk1325
def ys1326 : ySp := (227, 2, (1, [(0, (-2147483648), 2147483647)], [], [], [(0, (2, yc 70, yc 0)), (1, (0, (1, 0, 0), yc 0))], []), [(1, [], [], [], [], [(0, yc (-1), yc 0)]), (2, [(0, 0, 5), (1, 0, 5)], [], [], [], [(0, (1, 1, 0), yc 0)])], [(70, 70, 25), (80, 80, 1000), (81, 81, 1000)])
def yx1326 : yCx := ([ys1231, ys786, ys810, ys0, ys787], ys1326.2.2.2.2, yFP, zm227.2.2.1, zm227.2.2.2.1, zc227, 1, ys1326.2.2.2.1, [], [])
theorem yw1326 : ywf ys1326.2.2.1 = true := by decide +kernel
theorem yk1326 : yver yx1326 ys1326.2.2.1 4000 = true := yverQ_ok (by decide +kernel)
theorem yt1326 {E : zHp → Prop} (h : yXt E) : yTs E 3 ys1326 := yver_s (k := 227) (n := 2) (x := yx1326) (P := ys1326.2.2.1) (f := 4000) h.1 (yal_c (yt1231 h.1) (by decide) yw1231 (yal_c (yt786 h.1) (by decide) yw786 (yal_c (yt810 h.1) (by decide) yw810 (yal_c (yl0 h) (by decide) yw0 (yal_c (yt787 h.1) (by decide) yw787 (yal_n)))))) yg227 yk1326
def ys1327 : ySp := (131, 3, (2, [(0, (-2147483648), 2147483647), (1, (-2147483648), 2147483647)], [], [], [(0, (2, yc 0, yc 0)), (1, (0, (1, 0, 0), yc 0)), (2, (0, (1, 1, 0), yc 0))], []), [(2, [], [], [], [], [(0, yc (-1), yc 0)]), (2, [(0, 0, 5), (1, 0, 5)], [], [], [], [(0, yc 0, yc 0)]), (3, [(0, 0, 5), (1, 0, 5), (2, 0, 2147483647)], [], [], [], [(0, (1, 2, 0), yc 0)])], [(10, 10, 1000), (14, 14, 1), (14, 14, 2), (16, 35, 1000)])
def yx1327 : yCx := ([ys1300, ys1034, ys1068, ys1277, ys1259, ys1270], ys1327.2.2.2.2, yFP, zm131.2.2.1, zm131.2.2.2.1, zc131, 2, ys1327.2.2.2.1, [], [])
theorem yw1327 : ywf ys1327.2.2.1 = true := by decide +kernel
theorem yk1327 : yver yx1327 ys1327.2.2.1 4000 = true := yverQ_ok (by decide +kernel)
theorem yt1327 {E : zHp → Prop} (h : yEF E yFP) : yTs E 5 ys1327 := yver_s (k := 131) (n := 4) (x := yx1327) (P := ys1327.2.2.1) (f := 4000) h (yal_c (yt1300 h) (by decide) yw1300 (yal_c (yt1034 h) (by decide) yw1034 (yal_c (yt1068 h) (by decide) yw1068 (yal_c (yt1277 h) (by decide) yw1277 (yal_c (yt1259 h) (by decide) yw1259 (yal_c (yt1270 h) (by decide) yw1270 (yal_n))))))) yg131 yk1327
def ys1328 : ySp := (226, 3, (2, [(0, 0, 5), (1, 0, 5)], [], [], [(0, (2, yc 70, yc 0)), (1, (0, (1, 0, 0), yc 0)), (2, (0, (1, 1, 0), yc 0))], []), [(2, [], [], [], [], [(0, yc (-1), yc 0)]), (2, [], [], [], [], [(0, yc 0, yc 0)]), (3, [(2, 0, 2147483647)], [], [], [], [(0, (1, 2, 0), yc 0)])], [(70, 70, 25), (80, 80, 1000), (81, 81, 1000)])
def yx1328 : yCx := ([ys1076, ys1226, ys815, ys0, ys789, ys790], ys1328.2.2.2.2, yFP, zm226.2.2.1, zm226.2.2.2.1, zc226, 2, ys1328.2.2.2.1, [], [])
theorem yw1328 : ywf ys1328.2.2.1 = true := by decide +kernel
theorem yk1328 : yver yx1328 ys1328.2.2.1 4000 = true := yverQ_ok (by decide +kernel)
theorem yt1328 {E : zHp → Prop} (h : yXt E) : yTs E 5 ys1328 := yver_s (k := 226) (n := 4) (x := yx1328) (P := ys1328.2.2.1) (f := 4000) h.1 (yal_c (yt1076 h.1) (by decide) yw1076 (yal_c (yt1226 h.1) (by decide) yw1226 (yal_c (yt815 h.1) (by decide) yw815 (yal_c (yl0 h) (by decide) yw0 (yal_c (yt789 h.1) (by decide) yw789 (yal_c (yt790 h.1) (by decide) yw790 (yal_n))))))) yg226 yk1328
def ys1329 : ySp := (226, 3, (2, [(0, (-2147483648), 2147483647), (1, (-2147483648), 2147483647)], [], [], [(0, (2, yc 70, yc 0)), (1, (0, (1, 0, 0), yc 0)), (2, (0, (1, 1, 0), yc 0))], []), [(2, [], [], [], [], [(0, yc (-1), yc 0)]), (2, [(0, 0, 5), (1, 0, 5)], [], [], [], [(0, yc 0, yc 0)]), (3, [(0, 0, 5), (1, 0, 5), (2, 0, 2147483647)], [], [], [], [(0, (1, 2, 0), yc 0)])], [(70, 70, 25), (80, 80, 1000), (81, 81, 1000)])
def yx1329 : yCx := ([ys1076, ys1231, ys815, ys0, ys789, ys790], ys1329.2.2.2.2, yFP, zm226.2.2.1, zm226.2.2.2.1, zc226, 2, ys1329.2.2.2.1, [], [])
theorem yw1329 : ywf ys1329.2.2.1 = true := by decide +kernel
theorem yk1329 : yver yx1329 ys1329.2.2.1 4000 = true := yverQ_ok (by decide +kernel)
theorem yt1329 {E : zHp → Prop} (h : yXt E) : yTs E 5 ys1329 := yver_s (k := 226) (n := 4) (x := yx1329) (P := ys1329.2.2.1) (f := 4000) h.1 (yal_c (yt1076 h.1) (by decide) yw1076 (yal_c (yt1231 h.1) (by decide) yw1231 (yal_c (yt815 h.1) (by decide) yw815 (yal_c (yl0 h) (by decide) yw0 (yal_c (yt789 h.1) (by decide) yw789 (yal_c (yt790 h.1) (by decide) yw790 (yal_n))))))) yg226 yk1329
def ys1330 : ySp := (130, 4, (3, [(0, (-2147483648), 2147483647), (1, (-2147483648), 2147483647), (2, (-2147483648), 2147483647)], [], [], [(0, (2, yc 0, yc 0)), (1, (0, (1, 0, 0), yc 0)), (2, (0, (1, 1, 0), yc 0)), (3, (0, (1, 2, 0), yc 0))], []), [(3, [], [], [], [], [(0, yc (-1), yc 0)]), (3, [(0, 0, 5), (1, 0, 5), (2, 0, 0)], [], [], [], [(0, yc 0, yc 0)]), (3, [(0, 0, 5), (1, 0, 5), (2, 0, 0)], [], [], [], [(0, yc 1, yc 0)]), (4, [(0, 0, 5), (1, 0, 5), (2, 1, 1), (3, (-2147483648), 2147483647)], [], [], [], [(0, (1, 3, 0), yc 0)])], [])
def yx1330 : yCx := ([ys1312, ys1052, ys1073], ys1330.2.2.2.2, yFP, zm130.2.2.1, zm130.2.2.2.1, zc130, 3, ys1330.2.2.2.1, [], [])
theorem yw1330 : ywf ys1330.2.2.1 = true := by decide +kernel
theorem yk1330 : yver yx1330 ys1330.2.2.1 4000 = true := yverQ_ok (by decide +kernel)
theorem yt1330 {E : zHp → Prop} (h : yEF E yFP) : yTs E 4 ys1330 := yver_s (k := 130) (n := 3) (x := yx1330) (P := ys1330.2.2.1) (f := 4000) h (yal_c (yt1312 h) (by decide) yw1312 (yal_c (yt1052 h) (by decide) yw1052 (yal_c (yt1073 h) (by decide) yw1073 (yal_n)))) yg130 yk1330
def ys1331 : ySp := (219, 4, (3, [(0, 0, 5), (1, 0, 5), (2, 0, 1)], [], [], [(0, (2, yc 70, yc 0)), (1, (0, (1, 0, 0), yc 0)), (2, (0, (1, 1, 0), yc 0)), (3, (0, (1, 2, 0), yc 0))], []), [(3, [], [], [], [], [(0, yc (-1), yc 0)]), (3, [(2, 0, 0)], [], [], [], [(0, yc 0, yc 0)]), (3, [(2, 0, 0)], [], [], [], [(0, yc 1, yc 0)]), (4, [(2, 1, 1), (3, (-2147483648), 2147483647)], [], [], [], [(0, (1, 3, 0), yc 0)])], [])
def yx1331 : yCx := ([ys772, ys1076, ys777, ys1019], ys1331.2.2.2.2, yFP, zm219.2.2.1, zm219.2.2.2.1, zc219, 3, ys1331.2.2.2.1, [], [])
theorem yw1331 : ywf ys1331.2.2.1 = true := by decide +kernel
theorem yk1331 : yver yx1331 ys1331.2.2.1 4000 = true := yverQ_ok (by decide +kernel)
theorem yt1331 {E : zHp → Prop} (h : yEF E yFP) : yTs E 2 ys1331 := yver_s (k := 219) (n := 1) (x := yx1331) (P := ys1331.2.2.1) (f := 4000) h (yal_c (yt772 h) (by decide) yw772 (yal_c (yt1076 h) (by decide) yw1076 (yal_c (yt777 h) (by decide) yw777 (yal_c (yt1019 h) (by decide) yw1019 (yal_n))))) yg219 yk1331
def ys1332 : ySp := (219, 4, (3, [(0, (-2147483648), 2147483647), (1, (-2147483648), 2147483647), (2, (-2147483648), 2147483647)], [], [], [(0, (2, yc 70, yc 0)), (1, (0, (1, 0, 0), yc 0)), (2, (0, (1, 1, 0), yc 0)), (3, (0, (1, 2, 0), yc 0))], []), [(3, [], [], [], [], [(0, yc (-1), yc 0)]), (3, [(0, 0, 5), (1, 0, 5), (2, 0, 0)], [], [], [], [(0, yc 0, yc 0)]), (3, [(0, 0, 5), (1, 0, 5), (2, 0, 0)], [], [], [], [(0, yc 1, yc 0)]), (4, [(0, 0, 5), (1, 0, 5), (2, 1, 1), (3, (-2147483648), 2147483647)], [], [], [], [(0, (1, 3, 0), yc 0)])], [])
def yx1332 : yCx := ([ys836, ys1076, ys777, ys1019], ys1332.2.2.2.2, yFP, zm219.2.2.1, zm219.2.2.2.1, zc219, 3, ys1332.2.2.2.1, [], [])
theorem yw1332 : ywf ys1332.2.2.1 = true := by decide +kernel
theorem yk1332 : yver yx1332 ys1332.2.2.1 4000 = true := yverQ_ok (by decide +kernel)
theorem yt1332 {E : zHp → Prop} (h : yEF E yFP) : yTs E 2 ys1332 := yver_s (k := 219) (n := 1) (x := yx1332) (P := ys1332.2.2.1) (f := 4000) h (yal_c (yt836 h) (by decide) yw836 (yal_c (yt1076 h) (by decide) yw1076 (yal_c (yt777 h) (by decide) yw777 (yal_c (yt1019 h) (by decide) yw1019 (yal_n))))) yg219 yk1332
def ys1333 : ySp := (89, 3, (2, [(0, 0, 5), (1, 0, 4)], [], [], [(0, (2, yc 9, yc 0)), (1, (0, (1, 0, 0), yc 0)), (2, (0, (1, 1, 0), yc 0))], []), [(3, [(2, (-2147483648), 2147483647)], [], [], [], [(0, (1, 2, 0), yc 0)])], [])
def yx1333 : yCx := ([], ys1333.2.2.2.2, yFP, zm89.2.2.1, zm89.2.2.2.1, zc89, 2, ys1333.2.2.2.1, [], [])
theorem yw1333 : ywf ys1333.2.2.1 = true := by decide +kernel
theorem yk1333 : yver yx1333 ys1333.2.2.1 4000 = true := yverQ_ok (by decide +kernel)
theorem yt1333 {E : zHp → Prop} (h : yEF E yFP) : yTs E 1 ys1333 := yver_s (k := 89) (n := 0) (x := yx1333) (P := ys1333.2.2.1) (f := 4000) h (yal_n) yg89 yk1333
def ys1334 : ySp := (129, 3, (2, [(0, (-2147483648), 2147483647), (1, (-2147483648), 2147483647)], [], [], [(0, (2, yc 0, yc 0)), (1, (0, (1, 0, 0), yc 0)), (2, (0, (1, 1, 0), yc 0))], []), [(2, [(0, 0, 5), (1, 5, 5)], [], [], [], [(0, yc 0, yc 0)]), (2, [(0, 0, 5), (1, 5, 5)], [], [], [], [(0, yc 1, yc 0)]), (3, [(2, (-2147483648), 2147483647)], [], [], [], [(0, (1, 2, 0), yc 0)])], [])
def yx1334 : yCx := ([ys1317, ys1333, ys1284], ys1334.2.2.2.2, yFP, zm129.2.2.1, zm129.2.2.2.1, zc129, 2, ys1334.2.2.2.1, [], [])
theorem yw1334 : ywf ys1334.2.2.1 = true := by decide +kernel
theorem yk1334 : yver yx1334 ys1334.2.2.1 4000 = true := yverQ_ok (by decide +kernel)
theorem yt1334 {E : zHp → Prop} (h : yEF E yFP) : yTs E 6 ys1334 := yver_s (k := 129) (n := 5) (x := yx1334) (P := ys1334.2.2.1) (f := 4000) h (yal_c (yt1317 h) (by decide) yw1317 (yal_c (yt1333 h) (by decide) yw1333 (yal_c (yt1284 h) (by decide) yw1284 (yal_n)))) yg129 yk1334
def ys1335 : ySp := (158, 6, (1, [(0, (-9223372036854775808), 9223372036854775807)], [], [], [(0, (1, (1, 0, 0), yc 0)), (2, (1, yc 0, yc 0)), (4, (1, yc 5, yc 0))], []), [(1, [(0, (-9223372036854775808), (-1))], [], [], [], [(0, yc 0, yc 0)]), (1, [(0, 6, 9223372036854775807)], [], [], [], [(0, yc 0, yc 0)]), (1, [(0, 0, 5)], [], [], [], [(0, yc 1, yc 0)])], [])
def yx1335 : yCx := ([], ys1335.2.2.2.2, yFP, zm158.2.2.1, zm158.2.2.2.1, zc158, 1, ys1335.2.2.2.1, [], [])
theorem yw1335 : ywf ys1335.2.2.1 = true := by decide +kernel
theorem yk1335 : yver yx1335 ys1335.2.2.1 4000 = true := yverQ_ok (by decide +kernel)
theorem yt1335 {E : zHp → Prop} (h : yEF E yFP) : yTs E 1 ys1335 := yver_s (k := 158) (n := 0) (x := yx1335) (P := ys1335.2.2.1) (f := 4000) h (yal_n) yg158 yk1335
def ys1336 : ySp := (209, 3, (2, [(0, 0, 5), (1, 0, 3)], [], [], [(0, (2, yc 70, yc 0)), (1, (0, (1, 0, 0), yc 0)), (2, (0, (1, 1, 0), yc 0))], []), [(3, [(2, (-2147483648), 2147483647)], [], [], [], [(0, (1, 2, 0), yc 0)])], [])
def yx1336 : yCx := ([], ys1336.2.2.2.2, yFP, zm209.2.2.1, zm209.2.2.2.1, zc209, 2, ys1336.2.2.2.1, [], [])
theorem yw1336 : ywf ys1336.2.2.1 = true := by decide +kernel
theorem yk1336 : yver yx1336 ys1336.2.2.1 4000 = true := yverQ_ok (by decide +kernel)
theorem yt1336 {E : zHp → Prop} (h : yEF E yFP) : yTs E 1 ys1336 := yver_s (k := 209) (n := 0) (x := yx1336) (P := ys1336.2.2.1) (f := 4000) h (yal_n) yg209 yk1336
def ys1337 : ySp := (218, 3, (2, [(0, (-2147483648), 2147483647), (1, (-2147483648), 2147483647)], [], [], [(0, (2, yc 70, yc 0)), (1, (0, (1, 0, 0), yc 0)), (2, (0, (1, 1, 0), yc 0))], []), [(2, [(0, 0, 5), (1, 5, 5)], [], [], [], [(0, yc 0, yc 0)]), (2, [(0, 0, 5), (1, 5, 5)], [], [], [], [(0, yc 1, yc 0)]), (3, [(2, (-2147483648), 2147483647)], [], [], [], [(0, (1, 2, 0), yc 0)])], [])
def yx1337 : yCx := ([ys1335, ys1321, ys1336, ys828], ys1337.2.2.2.2, yFP, zm218.2.2.1, zm218.2.2.2.1, zc218, 2, ys1337.2.2.2.1, [], [])
theorem yw1337 : ywf ys1337.2.2.1 = true := by decide +kernel
theorem yk1337 : yver yx1337 ys1337.2.2.1 4000 = true := yverQ_ok (by decide +kernel)
theorem yt1337 {E : zHp → Prop} (h : yEF E yFP) : yTs E 6 ys1337 := yver_s (k := 218) (n := 5) (x := yx1337) (P := ys1337.2.2.1) (f := 4000) h (yal_c (yt1335 h) (by decide) yw1335 (yal_c (yt1321 h) (by decide) yw1321 (yal_c (yt1336 h) (by decide) yw1336 (yal_c (yt828 h) (by decide) yw828 (yal_n))))) yg218 yk1337
def ys1338 : ySp := (87, 3, (2, [(0, 0, 5), (1, 0, 6)], [], [], [(0, (2, yc 9, yc 0)), (1, (0, (1, 0, 0), yc 0)), (2, (0, (1, 1, 0), yc 0))], []), [(3, [(2, (-2147483648), 2147483647)], [], [], [], [(0, (1, 2, 0), yc 0)])], [])
def yx1338 : yCx := ([], ys1338.2.2.2.2, yFP, zm87.2.2.1, zm87.2.2.2.1, zc87, 2, ys1338.2.2.2.1, [], [])
theorem yw1338 : ywf ys1338.2.2.1 = true := by decide +kernel
theorem yk1338 : yver yx1338 ys1338.2.2.1 4000 = true := yverQ_ok (by decide +kernel)
theorem yt1338 {E : zHp → Prop} (h : yEF E yFP) : yTs E 1 ys1338 := yver_s (k := 87) (n := 0) (x := yx1338) (P := ys1338.2.2.1) (f := 4000) h (yal_n) yg87 yk1338
def ys1339 : ySp := (128, 3, (2, [(0, (-2147483648), 2147483647), (1, (-2147483648), 2147483647)], [], [], [(0, (2, yc 0, yc 0)), (1, (0, (1, 0, 0), yc 0)), (2, (0, (1, 1, 0), yc 0))], []), [(2, [], [], [], [], [(0, yc (-1), yc 0)]), (2, [(0, 0, 5), (1, 6, 6)], [], [], [], [(0, yc 0, yc 0)]), (3, [(0, 0, 5), (1, 0, 7), (2, (-2147483648), 2147483647)], [], [], [], [(0, (1, 2, 0), yc 0)])], [])
def yx1339 : yCx := ([ys1034, ys1338, ys1187, ys1277], ys1339.2.2.2.2, yFP, zm128.2.2.1, zm128.2.2.2.1, zc128, 2, ys1339.2.2.2.1, [], [])
theorem yw1339 : ywf ys1339.2.2.1 = true := by decide +kernel
theorem yk1339 : yver yx1339 ys1339.2.2.1 4000 = true := yverQ_ok (by decide +kernel)
theorem yt1339 {E : zHp → Prop} (h : yEF E yFP) : yTs E 5 ys1339 := yver_s (k := 128) (n := 4) (x := yx1339) (P := ys1339.2.2.1) (f := 4000) h (yal_c (yt1034 h) (by decide) yw1034 (yal_c (yt1338 h) (by decide) yw1338 (yal_c (yt1187 h) (by decide) yw1187 (yal_c (yt1277 h) (by decide) yw1277 (yal_n))))) yg128 yk1339
def ys1340 : ySp := (208, 3, (2, [(0, 0, 5), (1, 0, 5)], [], [], [(0, (2, yc 70, yc 0)), (1, (0, (1, 0, 0), yc 0)), (2, (0, (1, 1, 0), yc 0))], []), [(3, [(2, (-2147483648), 2147483647)], [], [], [], [(0, (1, 2, 0), yc 0)])], [])
def yx1340 : yCx := ([], ys1340.2.2.2.2, yFP, zm208.2.2.1, zm208.2.2.2.1, zc208, 2, ys1340.2.2.2.1, [], [])
theorem yw1340 : ywf ys1340.2.2.1 = true := by decide +kernel
theorem yk1340 : yver yx1340 ys1340.2.2.1 4000 = true := yverQ_ok (by decide +kernel)
theorem yt1340 {E : zHp → Prop} (h : yEF E yFP) : yTs E 1 ys1340 := yver_s (k := 208) (n := 0) (x := yx1340) (P := ys1340.2.2.1) (f := 4000) h (yal_n) yg208 yk1340
def ys1341 : ySp := (217, 3, (2, [(0, 0, 5), (1, 0, 7)], [], [], [(0, (2, yc 70, yc 0)), (1, (0, (1, 0, 0), yc 0)), (2, (0, (1, 1, 0), yc 0))], []), [(2, [], [], [], [], [(0, yc (-1), yc 0)]), (2, [(1, 6, 7)], [], [], [], [(0, yc 0, yc 0)]), (3, [(2, (-2147483648), 2147483647)], [], [], [], [(0, (1, 2, 0), yc 0)])], [])
def yx1341 : yCx := ([ys1090, ys1226, ys1340, ys814, ys815], ys1341.2.2.2.2, yFP, zm217.2.2.1, zm217.2.2.2.1, zc217, 2, ys1341.2.2.2.1, [], [])
theorem yw1341 : ywf ys1341.2.2.1 = true := by decide +kernel
theorem yk1341 : yver yx1341 ys1341.2.2.1 4000 = true := yverQ_ok (by decide +kernel)
theorem yt1341 {E : zHp → Prop} (h : yEF E yFP) : yTs E 5 ys1341 := yver_s (k := 217) (n := 4) (x := yx1341) (P := ys1341.2.2.1) (f := 4000) h (yal_c (yt1090 h) (by decide) yw1090 (yal_c (yt1226 h) (by decide) yw1226 (yal_c (yt1340 h) (by decide) yw1340 (yal_c (yt814 h) (by decide) yw814 (yal_c (yt815 h) (by decide) yw815 (yal_n)))))) yg217 yk1341
def ys1342 : ySp := (217, 3, (2, [(0, (-2147483648), 2147483647), (1, (-2147483648), 2147483647)], [], [], [(0, (2, yc 70, yc 0)), (1, (0, (1, 0, 0), yc 0)), (2, (0, (1, 1, 0), yc 0))], []), [(2, [], [], [], [], [(0, yc (-1), yc 0)]), (2, [(0, 0, 5), (1, 6, 7)], [], [], [], [(0, yc 0, yc 0)]), (3, [(0, 0, 5), (1, 0, 7), (2, (-2147483648), 2147483647)], [], [], [], [(0, (1, 2, 0), yc 0)])], [])
def yx1342 : yCx := ([ys1139, ys1231, ys1340, ys814, ys815], ys1342.2.2.2.2, yFP, zm217.2.2.1, zm217.2.2.2.1, zc217, 2, ys1342.2.2.2.1, [], [])
theorem yw1342 : ywf ys1342.2.2.1 = true := by decide +kernel
theorem yk1342 : yver yx1342 ys1342.2.2.1 4000 = true := yverQ_ok (by decide +kernel)
theorem yt1342 {E : zHp → Prop} (h : yEF E yFP) : yTs E 5 ys1342 := yver_s (k := 217) (n := 4) (x := yx1342) (P := ys1342.2.2.1) (f := 4000) h (yal_c (yt1139 h) (by decide) yw1139 (yal_c (yt1231 h) (by decide) yw1231 (yal_c (yt1340 h) (by decide) yw1340 (yal_c (yt814 h) (by decide) yw814 (yal_c (yt815 h) (by decide) yw815 (yal_n)))))) yg217 yk1342
def ys1343 : ySp := (283, 1, (0, [], [], [], [(0, (2, yc 1001, yc 0))], []), [(0, [], [], [], [], [(0, yc 0, yc 0)])], [])
def yx1343 : yCx := ([], ys1343.2.2.2.2, yFP, zm283.2.2.1, zm283.2.2.2.1, zc283, 0, ys1343.2.2.2.1, [], [])
theorem yw1343 : ywf ys1343.2.2.1 = true := by decide +kernel
theorem yk1343 : yver yx1343 ys1343.2.2.1 4000 = true := yverQ_ok (by decide +kernel)
theorem yt1343 {E : zHp → Prop} (h : yEF E yFP) : yTs E 1 ys1343 := yver_s (k := 283) (n := 0) (x := yx1343) (P := ys1343.2.2.1) (f := 4000) h (yal_n) yg283 yk1343
def ys1344 : ySp := (281, 1, (0, [], [], [], [(0, (2, yc 1001, yc 0))], []), [(0, [], [], [], [], [(0, yc 31, yc 0)])], [])
def yx1344 : yCx := ([ys1343], ys1344.2.2.2.2, yFP, zm281.2.2.1, zm281.2.2.2.1, zc281, 0, ys1344.2.2.2.1, [], [])
theorem yw1344 : ywf ys1344.2.2.1 = true := by decide +kernel
theorem yk1344 : yver yx1344 ys1344.2.2.1 4000 = true := yverQ_ok (by decide +kernel)
theorem yt1344 {E : zHp → Prop} (h : yEF E yFP) : yTs E 2 ys1344 := yver_s (k := 281) (n := 1) (x := yx1344) (P := ys1344.2.2.1) (f := 4000) h (yal_c (yt1343 h) (by decide) yw1343 (yal_n)) yg281 yk1344
def ys1345 : ySp := (284, 1, (0, [], [], [], [(0, (2, yc 1001, yc 0))], []), [(0, [], [], [], [], [(0, yc 1, yc 0)])], [])
def yx1345 : yCx := ([], ys1345.2.2.2.2, yFP, zm284.2.2.1, zm284.2.2.2.1, zc284, 0, ys1345.2.2.2.1, [], [])
theorem yw1345 : ywf ys1345.2.2.1 = true := by decide +kernel
theorem yk1345 : yver yx1345 ys1345.2.2.1 4000 = true := yverQ_ok (by decide +kernel)
theorem yt1345 {E : zHp → Prop} (h : yEF E yFP) : yTs E 1 ys1345 := yver_s (k := 284) (n := 0) (x := yx1345) (P := ys1345.2.2.1) (f := 4000) h (yal_n) yg284 yk1345
def ys1346 : ySp := (293, 3, (0, [], [], [], [(0, (0, yc 0, yc 0)), (1, (0, yc 31, yc 0)), (2, (7, yc 0, yc 0))], []), [(0, [], [], [], [], [(0, yc 0, yc 0)])], [])
def yx1346 : yCx := ([], ys1346.2.2.2.2, yFP, zm293.2.2.1, zm293.2.2.2.1, zc293, 0, ys1346.2.2.2.1, [], [])
theorem yw1346 : ywf ys1346.2.2.1 = true := by decide +kernel
theorem yk1346 : yver yx1346 ys1346.2.2.1 4000 = true := yverQ_ok (by decide +kernel)
theorem yt1346 {E : zHp → Prop} (h : yEF E yFP) : yTs E 1 ys1346 := yver_s (k := 293) (n := 0) (x := yx1346) (P := ys1346.2.2.1) (f := 4000) h (yal_n) yg293 yk1346
def ys1347 : ySp := (285, 2, (0, [], [], [], [(0, (0, yc 0, yc 0)), (1, (0, yc 31, yc 0))], []), [(0, [], [], [], [], [])], [])
def yx1347 : yCx := ([ys1346], ys1347.2.2.2.2, yFP, zm285.2.2.1, zm285.2.2.2.1, zc285, 0, ys1347.2.2.2.1, [], [])
theorem yw1347 : ywf ys1347.2.2.1 = true := by decide +kernel
theorem yk1347 : yver yx1347 ys1347.2.2.1 4000 = true := yverQ_ok (by decide +kernel)
theorem yt1347 {E : zHp → Prop} (h : yEF E yFP) : yTs E 2 ys1347 := yver_s (k := 285) (n := 1) (x := yx1347) (P := ys1347.2.2.1) (f := 4000) h (yal_c (yt1346 h) (by decide) yw1346 (yal_n)) yg285 yk1347
def ys1348 : ySp := (286, 2, (0, [], [], [], [(0, (2, yc 1020, yc 0)), (1, (0, yc 0, yc 0))], []), [(0, [], [], [], [], [(0, yc 118, yc 0)])], [])
def yx1348 : yCx := ([ys1347], ys1348.2.2.2.2, yFP, zm286.2.2.1, zm286.2.2.2.1, zc286, 0, ys1348.2.2.2.1, [], [])
theorem yw1348 : ywf ys1348.2.2.1 = true := by decide +kernel
theorem yk1348 : yver yx1348 ys1348.2.2.1 4000 = true := yverQ_ok (by decide +kernel)
theorem yt1348 {E : zHp → Prop} (h : yEF E yFP) : yTs E 3 ys1348 := yver_s (k := 286) (n := 2) (x := yx1348) (P := ys1348.2.2.1) (f := 4000) h (yal_c (yt1347 h) (by decide) yw1347 (yal_n)) yg286 yk1348
def ys1349 : ySp := (282, 2, (0, [], [], [], [(0, (2, yc 1001, yc 0)), (1, (0, yc 0, yc 0))], []), [(0, [], [], [], [], [(0, yc 118, yc 0)])], [])
def yx1349 : yCx := ([ys1345, ys1348], ys1349.2.2.2.2, yFP, zm282.2.2.1, zm282.2.2.2.1, zc282, 0, ys1349.2.2.2.1, [], [])
theorem yw1349 : ywf ys1349.2.2.1 = true := by decide +kernel
theorem yk1349 : yver yx1349 ys1349.2.2.1 4000 = true := yverQ_ok (by decide +kernel)
theorem yt1349 {E : zHp → Prop} (h : yEF E yFP) : yTs E 4 ys1349 := yver_s (k := 282) (n := 3) (x := yx1349) (P := ys1349.2.2.1) (f := 4000) h (yal_c (yt1345 h) (by decide) yw1345 (yal_c (yt1348 h) (by decide) yw1348 (yal_n))) yg282 yk1349
def ys1350 : ySp := (293, 3, (0, [], [], [], [(0, (0, yc 1, yc 0)), (1, (0, yc 31, yc 0)), (2, (7, yc 0, yc 0))], []), [(0, [], [], [], [], [(0, yc 1, yc 0)])], [])
def yx1350 : yCx := ([], ys1350.2.2.2.2, yFP, zm293.2.2.1, zm293.2.2.2.1, zc293, 0, ys1350.2.2.2.1, [], [])
theorem yw1350 : ywf ys1350.2.2.1 = true := by decide +kernel
theorem yk1350 : yver yx1350 ys1350.2.2.1 4000 = true := yverQ_ok (by decide +kernel)
theorem yt1350 {E : zHp → Prop} (h : yEF E yFP) : yTs E 1 ys1350 := yver_s (k := 293) (n := 0) (x := yx1350) (P := ys1350.2.2.1) (f := 4000) h (yal_n) yg293 yk1350
def ys1351 : ySp := (285, 2, (0, [], [], [], [(0, (0, yc 1, yc 0)), (1, (0, yc 31, yc 0))], []), [(0, [], [], [], [], [])], [])
def yx1351 : yCx := ([ys1350], ys1351.2.2.2.2, yFP, zm285.2.2.1, zm285.2.2.2.1, zc285, 0, ys1351.2.2.2.1, [], [])
theorem yw1351 : ywf ys1351.2.2.1 = true := by decide +kernel
theorem yk1351 : yver yx1351 ys1351.2.2.1 4000 = true := yverQ_ok (by decide +kernel)
theorem yt1351 {E : zHp → Prop} (h : yEF E yFP) : yTs E 2 ys1351 := yver_s (k := 285) (n := 1) (x := yx1351) (P := ys1351.2.2.1) (f := 4000) h (yal_c (yt1350 h) (by decide) yw1350 (yal_n)) yg285 yk1351
def ys1352 : ySp := (286, 2, (0, [], [], [], [(0, (2, yc 1020, yc 0)), (1, (0, yc 1, yc 0))], []), [(0, [], [], [], [], [(0, yc 105, yc 0)])], [])
def yx1352 : yCx := ([ys1351], ys1352.2.2.2.2, yFP, zm286.2.2.1, zm286.2.2.2.1, zc286, 0, ys1352.2.2.2.1, [], [])
theorem yw1352 : ywf ys1352.2.2.1 = true := by decide +kernel
theorem yk1352 : yver yx1352 ys1352.2.2.1 4000 = true := yverQ_ok (by decide +kernel)
theorem yt1352 {E : zHp → Prop} (h : yEF E yFP) : yTs E 3 ys1352 := yver_s (k := 286) (n := 2) (x := yx1352) (P := ys1352.2.2.1) (f := 4000) h (yal_c (yt1351 h) (by decide) yw1351 (yal_n)) yg286 yk1352
def ys1353 : ySp := (282, 2, (0, [], [], [], [(0, (2, yc 1001, yc 0)), (1, (0, yc 1, yc 0))], []), [(0, [], [], [], [], [(0, yc 105, yc 0)])], [])
def yx1353 : yCx := ([ys1345, ys1352], ys1353.2.2.2.2, yFP, zm282.2.2.1, zm282.2.2.2.1, zc282, 0, ys1353.2.2.2.1, [], [])
theorem yw1353 : ywf ys1353.2.2.1 = true := by decide +kernel
theorem yk1353 : yver yx1353 ys1353.2.2.1 4000 = true := yverQ_ok (by decide +kernel)
theorem yt1353 {E : zHp → Prop} (h : yEF E yFP) : yTs E 4 ys1353 := yver_s (k := 282) (n := 3) (x := yx1353) (P := ys1353.2.2.1) (f := 4000) h (yal_c (yt1345 h) (by decide) yw1345 (yal_c (yt1352 h) (by decide) yw1352 (yal_n))) yg282 yk1353
def ys1354 : ySp := (293, 3, (0, [], [], [], [(0, (0, yc 2, yc 0)), (1, (0, yc 31, yc 0)), (2, (7, yc 0, yc 0))], []), [(0, [], [], [], [], [(0, yc 2, yc 0)])], [])
def yx1354 : yCx := ([], ys1354.2.2.2.2, yFP, zm293.2.2.1, zm293.2.2.2.1, zc293, 0, ys1354.2.2.2.1, [], [])
theorem yw1354 : ywf ys1354.2.2.1 = true := by decide +kernel
theorem yk1354 : yver yx1354 ys1354.2.2.1 4000 = true := yverQ_ok (by decide +kernel)
theorem yt1354 {E : zHp → Prop} (h : yEF E yFP) : yTs E 1 ys1354 := yver_s (k := 293) (n := 0) (x := yx1354) (P := ys1354.2.2.1) (f := 4000) h (yal_n) yg293 yk1354
def ys1355 : ySp := (285, 2, (0, [], [], [], [(0, (0, yc 2, yc 0)), (1, (0, yc 31, yc 0))], []), [(0, [], [], [], [], [])], [])
def yx1355 : yCx := ([ys1354], ys1355.2.2.2.2, yFP, zm285.2.2.1, zm285.2.2.2.1, zc285, 0, ys1355.2.2.2.1, [], [])
theorem yw1355 : ywf ys1355.2.2.1 = true := by decide +kernel
theorem yk1355 : yver yx1355 ys1355.2.2.1 4000 = true := yverQ_ok (by decide +kernel)
theorem yt1355 {E : zHp → Prop} (h : yEF E yFP) : yTs E 2 ys1355 := yver_s (k := 285) (n := 1) (x := yx1355) (P := ys1355.2.2.1) (f := 4000) h (yal_c (yt1354 h) (by decide) yw1354 (yal_n)) yg285 yk1355
def ys1356 : ySp := (286, 2, (0, [], [], [], [(0, (2, yc 1020, yc 0)), (1, (0, yc 2, yc 0))], []), [(0, [], [], [], [], [(0, yc 108, yc 0)])], [])
def yx1356 : yCx := ([ys1355], ys1356.2.2.2.2, yFP, zm286.2.2.1, zm286.2.2.2.1, zc286, 0, ys1356.2.2.2.1, [], [])
theorem yw1356 : ywf ys1356.2.2.1 = true := by decide +kernel
theorem yk1356 : yver yx1356 ys1356.2.2.1 4000 = true := yverQ_ok (by decide +kernel)
theorem yt1356 {E : zHp → Prop} (h : yEF E yFP) : yTs E 3 ys1356 := yver_s (k := 286) (n := 2) (x := yx1356) (P := ys1356.2.2.1) (f := 4000) h (yal_c (yt1355 h) (by decide) yw1355 (yal_n)) yg286 yk1356
def ys1357 : ySp := (282, 2, (0, [], [], [], [(0, (2, yc 1001, yc 0)), (1, (0, yc 2, yc 0))], []), [(0, [], [], [], [], [(0, yc 108, yc 0)])], [])
def yx1357 : yCx := ([ys1345, ys1356], ys1357.2.2.2.2, yFP, zm282.2.2.1, zm282.2.2.2.1, zc282, 0, ys1357.2.2.2.1, [], [])
theorem yw1357 : ywf ys1357.2.2.1 = true := by decide +kernel
theorem yk1357 : yver yx1357 ys1357.2.2.1 4000 = true := yverQ_ok (by decide +kernel)
theorem yt1357 {E : zHp → Prop} (h : yEF E yFP) : yTs E 4 ys1357 := yver_s (k := 282) (n := 3) (x := yx1357) (P := ys1357.2.2.1) (f := 4000) h (yal_c (yt1345 h) (by decide) yw1345 (yal_c (yt1356 h) (by decide) yw1356 (yal_n))) yg282 yk1357
def ys1358 : ySp := (293, 3, (0, [], [], [], [(0, (0, yc 3, yc 0)), (1, (0, yc 31, yc 0)), (2, (7, yc 0, yc 0))], []), [(0, [], [], [], [], [(0, yc 3, yc 0)])], [])
def yx1358 : yCx := ([], ys1358.2.2.2.2, yFP, zm293.2.2.1, zm293.2.2.2.1, zc293, 0, ys1358.2.2.2.1, [], [])
theorem yw1358 : ywf ys1358.2.2.1 = true := by decide +kernel
theorem yk1358 : yver yx1358 ys1358.2.2.1 4000 = true := yverQ_ok (by decide +kernel)
theorem yt1358 {E : zHp → Prop} (h : yEF E yFP) : yTs E 1 ys1358 := yver_s (k := 293) (n := 0) (x := yx1358) (P := ys1358.2.2.1) (f := 4000) h (yal_n) yg293 yk1358
def ys1359 : ySp := (285, 2, (0, [], [], [], [(0, (0, yc 3, yc 0)), (1, (0, yc 31, yc 0))], []), [(0, [], [], [], [], [])], [])
def yx1359 : yCx := ([ys1358], ys1359.2.2.2.2, yFP, zm285.2.2.1, zm285.2.2.2.1, zc285, 0, ys1359.2.2.2.1, [], [])
theorem yw1359 : ywf ys1359.2.2.1 = true := by decide +kernel
theorem yk1359 : yver yx1359 ys1359.2.2.1 4000 = true := yverQ_ok (by decide +kernel)
theorem yt1359 {E : zHp → Prop} (h : yEF E yFP) : yTs E 2 ys1359 := yver_s (k := 285) (n := 1) (x := yx1359) (P := ys1359.2.2.1) (f := 4000) h (yal_c (yt1358 h) (by decide) yw1358 (yal_n)) yg285 yk1359
def ys1360 : ySp := (286, 2, (0, [], [], [], [(0, (2, yc 1020, yc 0)), (1, (0, yc 3, yc 0))], []), [(0, [], [], [], [], [(0, yc 108, yc 0)])], [])
def yx1360 : yCx := ([ys1359], ys1360.2.2.2.2, yFP, zm286.2.2.1, zm286.2.2.2.1, zc286, 0, ys1360.2.2.2.1, [], [])
theorem yw1360 : ywf ys1360.2.2.1 = true := by decide +kernel
theorem yk1360 : yver yx1360 ys1360.2.2.1 4000 = true := yverQ_ok (by decide +kernel)
theorem yt1360 {E : zHp → Prop} (h : yEF E yFP) : yTs E 3 ys1360 := yver_s (k := 286) (n := 2) (x := yx1360) (P := ys1360.2.2.1) (f := 4000) h (yal_c (yt1359 h) (by decide) yw1359 (yal_n)) yg286 yk1360
def ys1361 : ySp := (282, 2, (0, [], [], [], [(0, (2, yc 1001, yc 0)), (1, (0, yc 3, yc 0))], []), [(0, [], [], [], [], [(0, yc 108, yc 0)])], [])
def yx1361 : yCx := ([ys1345, ys1360], ys1361.2.2.2.2, yFP, zm282.2.2.1, zm282.2.2.2.1, zc282, 0, ys1361.2.2.2.1, [], [])
theorem yw1361 : ywf ys1361.2.2.1 = true := by decide +kernel
theorem yk1361 : yver yx1361 ys1361.2.2.1 4000 = true := yverQ_ok (by decide +kernel)
theorem yt1361 {E : zHp → Prop} (h : yEF E yFP) : yTs E 4 ys1361 := yver_s (k := 282) (n := 3) (x := yx1361) (P := ys1361.2.2.1) (f := 4000) h (yal_c (yt1345 h) (by decide) yw1345 (yal_c (yt1360 h) (by decide) yw1360 (yal_n))) yg282 yk1361
def ys1362 : ySp := (293, 3, (0, [], [], [], [(0, (0, yc 4, yc 0)), (1, (0, yc 31, yc 0)), (2, (7, yc 0, yc 0))], []), [(0, [], [], [], [], [(0, yc 4, yc 0)])], [])
def yx1362 : yCx := ([], ys1362.2.2.2.2, yFP, zm293.2.2.1, zm293.2.2.2.1, zc293, 0, ys1362.2.2.2.1, [], [])
theorem yw1362 : ywf ys1362.2.2.1 = true := by decide +kernel
theorem yk1362 : yver yx1362 ys1362.2.2.1 4000 = true := yverQ_ok (by decide +kernel)
theorem yt1362 {E : zHp → Prop} (h : yEF E yFP) : yTs E 1 ys1362 := yver_s (k := 293) (n := 0) (x := yx1362) (P := ys1362.2.2.1) (f := 4000) h (yal_n) yg293 yk1362
def ys1363 : ySp := (285, 2, (0, [], [], [], [(0, (0, yc 4, yc 0)), (1, (0, yc 31, yc 0))], []), [(0, [], [], [], [], [])], [])
def yx1363 : yCx := ([ys1362], ys1363.2.2.2.2, yFP, zm285.2.2.1, zm285.2.2.2.1, zc285, 0, ys1363.2.2.2.1, [], [])
theorem yw1363 : ywf ys1363.2.2.1 = true := by decide +kernel
theorem yk1363 : yver yx1363 ys1363.2.2.1 4000 = true := yverQ_ok (by decide +kernel)
theorem yt1363 {E : zHp → Prop} (h : yEF E yFP) : yTs E 2 ys1363 := yver_s (k := 285) (n := 1) (x := yx1363) (P := ys1363.2.2.1) (f := 4000) h (yal_c (yt1362 h) (by decide) yw1362 (yal_n)) yg285 yk1363
def ys1364 : ySp := (286, 2, (0, [], [], [], [(0, (2, yc 1020, yc 0)), (1, (0, yc 4, yc 0))], []), [(0, [], [], [], [], [(0, yc 97, yc 0)])], [])
def yx1364 : yCx := ([ys1363], ys1364.2.2.2.2, yFP, zm286.2.2.1, zm286.2.2.2.1, zc286, 0, ys1364.2.2.2.1, [], [])
theorem yw1364 : ywf ys1364.2.2.1 = true := by decide +kernel
theorem yk1364 : yver yx1364 ys1364.2.2.1 4000 = true := yverQ_ok (by decide +kernel)
theorem yt1364 {E : zHp → Prop} (h : yEF E yFP) : yTs E 3 ys1364 := yver_s (k := 286) (n := 2) (x := yx1364) (P := ys1364.2.2.1) (f := 4000) h (yal_c (yt1363 h) (by decide) yw1363 (yal_n)) yg286 yk1364
end
section
def ys1365 : ySp := (282, 2, (0, [], [], [], [(0, (2, yc 1001, yc 0)), (1, (0, yc 4, yc 0))], []), [(0, [], [], [], [], [(0, yc 97, yc 0)])], [])
def yx1365 : yCx := ([ys1345, ys1364], ys1365.2.2.2.2, yFP, zm282.2.2.1, zm282.2.2.2.1, zc282, 0, ys1365.2.2.2.1, [], [])
theorem yw1365 : ywf ys1365.2.2.1 = true := by decide +kernel
theorem yk1365 : yver yx1365 ys1365.2.2.1 4000 = true := yverQ_ok (by decide +kernel)
theorem yt1365 {E : zHp → Prop} (h : yEF E yFP) : yTs E 4 ys1365 := yver_s (k := 282) (n := 3) (x := yx1365) (P := ys1365.2.2.1) (f := 4000) h (yal_c (yt1345 h) (by decide) yw1345 (yal_c (yt1364 h) (by decide) yw1364 (yal_n))) yg282 yk1365
def ys1366 : ySp := (293, 3, (0, [], [], [], [(0, (0, yc 5, yc 0)), (1, (0, yc 31, yc 0)), (2, (7, yc 0, yc 0))], []), [(0, [], [], [], [], [(0, yc 5, yc 0)])], [])
def yx1366 : yCx := ([], ys1366.2.2.2.2, yFP, zm293.2.2.1, zm293.2.2.2.1, zc293, 0, ys1366.2.2.2.1, [], [])
theorem yw1366 : ywf ys1366.2.2.1 = true := by decide +kernel
theorem yk1366 : yver yx1366 ys1366.2.2.1 4000 = true := yverQ_ok (by decide +kernel)
theorem yt1366 {E : zHp → Prop} (h : yEF E yFP) : yTs E 1 ys1366 := yver_s (k := 293) (n := 0) (x := yx1366) (P := ys1366.2.2.1) (f := 4000) h (yal_n) yg293 yk1366
def ys1367 : ySp := (285, 2, (0, [], [], [], [(0, (0, yc 5, yc 0)), (1, (0, yc 31, yc 0))], []), [(0, [], [], [], [], [])], [])
def yx1367 : yCx := ([ys1366], ys1367.2.2.2.2, yFP, zm285.2.2.1, zm285.2.2.2.1, zc285, 0, ys1367.2.2.2.1, [], [])
theorem yw1367 : ywf ys1367.2.2.1 = true := by decide +kernel
theorem yk1367 : yver yx1367 ys1367.2.2.1 4000 = true := yverQ_ok (by decide +kernel)
theorem yt1367 {E : zHp → Prop} (h : yEF E yFP) : yTs E 2 ys1367 := yver_s (k := 285) (n := 1) (x := yx1367) (P := ys1367.2.2.1) (f := 4000) h (yal_c (yt1366 h) (by decide) yw1366 (yal_n)) yg285 yk1367
def ys1368 : ySp := (286, 2, (0, [], [], [], [(0, (2, yc 1020, yc 0)), (1, (0, yc 5, yc 0))], []), [(0, [], [], [], [], [(0, yc 103, yc 0)])], [])
def yx1368 : yCx := ([ys1367], ys1368.2.2.2.2, yFP, zm286.2.2.1, zm286.2.2.2.1, zc286, 0, ys1368.2.2.2.1, [], [])
theorem yw1368 : ywf ys1368.2.2.1 = true := by decide +kernel
theorem yk1368 : yver yx1368 ys1368.2.2.1 4000 = true := yverQ_ok (by decide +kernel)
theorem yt1368 {E : zHp → Prop} (h : yEF E yFP) : yTs E 3 ys1368 := yver_s (k := 286) (n := 2) (x := yx1368) (P := ys1368.2.2.1) (f := 4000) h (yal_c (yt1367 h) (by decide) yw1367 (yal_n)) yg286 yk1368
def ys1369 : ySp := (282, 2, (0, [], [], [], [(0, (2, yc 1001, yc 0)), (1, (0, yc 5, yc 0))], []), [(0, [], [], [], [], [(0, yc 103, yc 0)])], [])
def yx1369 : yCx := ([ys1345, ys1368], ys1369.2.2.2.2, yFP, zm282.2.2.1, zm282.2.2.2.1, zc282, 0, ys1369.2.2.2.1, [], [])
theorem yw1369 : ywf ys1369.2.2.1 = true := by decide +kernel
theorem yk1369 : yver yx1369 ys1369.2.2.1 4000 = true := yverQ_ok (by decide +kernel)
theorem yt1369 {E : zHp → Prop} (h : yEF E yFP) : yTs E 4 ys1369 := yver_s (k := 282) (n := 3) (x := yx1369) (P := ys1369.2.2.1) (f := 4000) h (yal_c (yt1345 h) (by decide) yw1345 (yal_c (yt1368 h) (by decide) yw1368 (yal_n))) yg282 yk1369
def ys1370 : ySp := (293, 3, (0, [], [], [], [(0, (0, yc 6, yc 0)), (1, (0, yc 31, yc 0)), (2, (7, yc 0, yc 0))], []), [(0, [], [], [], [], [(0, yc 6, yc 0)])], [])
def yx1370 : yCx := ([], ys1370.2.2.2.2, yFP, zm293.2.2.1, zm293.2.2.2.1, zc293, 0, ys1370.2.2.2.1, [], [])
theorem yw1370 : ywf ys1370.2.2.1 = true := by decide +kernel
theorem yk1370 : yver yx1370 ys1370.2.2.1 4000 = true := yverQ_ok (by decide +kernel)
theorem yt1370 {E : zHp → Prop} (h : yEF E yFP) : yTs E 1 ys1370 := yver_s (k := 293) (n := 0) (x := yx1370) (P := ys1370.2.2.1) (f := 4000) h (yal_n) yg293 yk1370
def ys1371 : ySp := (285, 2, (0, [], [], [], [(0, (0, yc 6, yc 0)), (1, (0, yc 31, yc 0))], []), [(0, [], [], [], [], [])], [])
def yx1371 : yCx := ([ys1370], ys1371.2.2.2.2, yFP, zm285.2.2.1, zm285.2.2.2.1, zc285, 0, ys1371.2.2.2.1, [], [])
theorem yw1371 : ywf ys1371.2.2.1 = true := by decide +kernel
theorem yk1371 : yver yx1371 ys1371.2.2.1 4000 = true := yverQ_ok (by decide +kernel)
theorem yt1371 {E : zHp → Prop} (h : yEF E yFP) : yTs E 2 ys1371 := yver_s (k := 285) (n := 1) (x := yx1371) (P := ys1371.2.2.1) (f := 4000) h (yal_c (yt1370 h) (by decide) yw1370 (yal_n)) yg285 yk1371
def ys1372 : ySp := (286, 2, (0, [], [], [], [(0, (2, yc 1020, yc 0)), (1, (0, yc 6, yc 0))], []), [(0, [], [], [], [], [(0, yc 101, yc 0)])], [])
def yx1372 : yCx := ([ys1371], ys1372.2.2.2.2, yFP, zm286.2.2.1, zm286.2.2.2.1, zc286, 0, ys1372.2.2.2.1, [], [])
theorem yw1372 : ywf ys1372.2.2.1 = true := by decide +kernel
theorem yk1372 : yver yx1372 ys1372.2.2.1 4000 = true := yverQ_ok (by decide +kernel)
theorem yt1372 {E : zHp → Prop} (h : yEF E yFP) : yTs E 3 ys1372 := yver_s (k := 286) (n := 2) (x := yx1372) (P := ys1372.2.2.1) (f := 4000) h (yal_c (yt1371 h) (by decide) yw1371 (yal_n)) yg286 yk1372
def ys1373 : ySp := (282, 2, (0, [], [], [], [(0, (2, yc 1001, yc 0)), (1, (0, yc 6, yc 0))], []), [(0, [], [], [], [], [(0, yc 101, yc 0)])], [])
def yx1373 : yCx := ([ys1345, ys1372], ys1373.2.2.2.2, yFP, zm282.2.2.1, zm282.2.2.2.1, zc282, 0, ys1373.2.2.2.1, [], [])
theorem yw1373 : ywf ys1373.2.2.1 = true := by decide +kernel
theorem yk1373 : yver yx1373 ys1373.2.2.1 4000 = true := yverQ_ok (by decide +kernel)
theorem yt1373 {E : zHp → Prop} (h : yEF E yFP) : yTs E 4 ys1373 := yver_s (k := 282) (n := 3) (x := yx1373) (P := ys1373.2.2.1) (f := 4000) h (yal_c (yt1345 h) (by decide) yw1345 (yal_c (yt1372 h) (by decide) yw1372 (yal_n))) yg282 yk1373
def ys1374 : ySp := (293, 3, (0, [], [], [], [(0, (0, yc 7, yc 0)), (1, (0, yc 31, yc 0)), (2, (7, yc 0, yc 0))], []), [(0, [], [], [], [], [(0, yc 7, yc 0)])], [])
def yx1374 : yCx := ([], ys1374.2.2.2.2, yFP, zm293.2.2.1, zm293.2.2.2.1, zc293, 0, ys1374.2.2.2.1, [], [])
theorem yw1374 : ywf ys1374.2.2.1 = true := by decide +kernel
theorem yk1374 : yver yx1374 ys1374.2.2.1 4000 = true := yverQ_ok (by decide +kernel)
theorem yt1374 {E : zHp → Prop} (h : yEF E yFP) : yTs E 1 ys1374 := yver_s (k := 293) (n := 0) (x := yx1374) (P := ys1374.2.2.1) (f := 4000) h (yal_n) yg293 yk1374
def ys1375 : ySp := (285, 2, (0, [], [], [], [(0, (0, yc 7, yc 0)), (1, (0, yc 31, yc 0))], []), [(0, [], [], [], [], [])], [])
def yx1375 : yCx := ([ys1374], ys1375.2.2.2.2, yFP, zm285.2.2.1, zm285.2.2.2.1, zc285, 0, ys1375.2.2.2.1, [], [])
theorem yw1375 : ywf ys1375.2.2.1 = true := by decide +kernel
theorem yk1375 : yver yx1375 ys1375.2.2.1 4000 = true := yverQ_ok (by decide +kernel)
theorem yt1375 {E : zHp → Prop} (h : yEF E yFP) : yTs E 2 ys1375 := yver_s (k := 285) (n := 1) (x := yx1375) (P := ys1375.2.2.1) (f := 4000) h (yal_c (yt1374 h) (by decide) yw1374 (yal_n)) yg285 yk1375
def ys1376 : ySp := (286, 2, (0, [], [], [], [(0, (2, yc 1020, yc 0)), (1, (0, yc 7, yc 0))], []), [(0, [], [], [], [], [(0, yc 32, yc 0)])], [])
def yx1376 : yCx := ([ys1375], ys1376.2.2.2.2, yFP, zm286.2.2.1, zm286.2.2.2.1, zc286, 0, ys1376.2.2.2.1, [], [])
theorem yw1376 : ywf ys1376.2.2.1 = true := by decide +kernel
theorem yk1376 : yver yx1376 ys1376.2.2.1 4000 = true := yverQ_ok (by decide +kernel)
theorem yt1376 {E : zHp → Prop} (h : yEF E yFP) : yTs E 3 ys1376 := yver_s (k := 286) (n := 2) (x := yx1376) (P := ys1376.2.2.1) (f := 4000) h (yal_c (yt1375 h) (by decide) yw1375 (yal_n)) yg286 yk1376
def ys1377 : ySp := (282, 2, (0, [], [], [], [(0, (2, yc 1001, yc 0)), (1, (0, yc 7, yc 0))], []), [(0, [], [], [], [], [(0, yc 32, yc 0)])], [])
def yx1377 : yCx := ([ys1345, ys1376], ys1377.2.2.2.2, yFP, zm282.2.2.1, zm282.2.2.2.1, zc282, 0, ys1377.2.2.2.1, [], [])
theorem yw1377 : ywf ys1377.2.2.1 = true := by decide +kernel
theorem yk1377 : yver yx1377 ys1377.2.2.1 4000 = true := yverQ_ok (by decide +kernel)
theorem yt1377 {E : zHp → Prop} (h : yEF E yFP) : yTs E 4 ys1377 := yver_s (k := 282) (n := 3) (x := yx1377) (P := ys1377.2.2.1) (f := 4000) h (yal_c (yt1345 h) (by decide) yw1345 (yal_c (yt1376 h) (by decide) yw1376 (yal_n))) yg282 yk1377
def ys1378 : ySp := (293, 3, (0, [], [], [], [(0, (0, yc 8, yc 0)), (1, (0, yc 31, yc 0)), (2, (7, yc 0, yc 0))], []), [(0, [], [], [], [], [(0, yc 8, yc 0)])], [])
def yx1378 : yCx := ([], ys1378.2.2.2.2, yFP, zm293.2.2.1, zm293.2.2.2.1, zc293, 0, ys1378.2.2.2.1, [], [])
theorem yw1378 : ywf ys1378.2.2.1 = true := by decide +kernel
theorem yk1378 : yver yx1378 ys1378.2.2.1 4000 = true := yverQ_ok (by decide +kernel)
theorem yt1378 {E : zHp → Prop} (h : yEF E yFP) : yTs E 1 ys1378 := yver_s (k := 293) (n := 0) (x := yx1378) (P := ys1378.2.2.1) (f := 4000) h (yal_n) yg293 yk1378
def ys1379 : ySp := (285, 2, (0, [], [], [], [(0, (0, yc 8, yc 0)), (1, (0, yc 31, yc 0))], []), [(0, [], [], [], [], [])], [])
def yx1379 : yCx := ([ys1378], ys1379.2.2.2.2, yFP, zm285.2.2.1, zm285.2.2.2.1, zc285, 0, ys1379.2.2.2.1, [], [])
theorem yw1379 : ywf ys1379.2.2.1 = true := by decide +kernel
theorem yk1379 : yver yx1379 ys1379.2.2.1 4000 = true := yverQ_ok (by decide +kernel)
theorem yt1379 {E : zHp → Prop} (h : yEF E yFP) : yTs E 2 ys1379 := yver_s (k := 285) (n := 1) (x := yx1379) (P := ys1379.2.2.1) (f := 4000) h (yal_c (yt1378 h) (by decide) yw1378 (yal_n)) yg285 yk1379
def ys1380 : ySp := (286, 2, (0, [], [], [], [(0, (2, yc 1020, yc 0)), (1, (0, yc 8, yc 0))], []), [(0, [], [], [], [], [(0, yc 116, yc 0)])], [])
def yx1380 : yCx := ([ys1379], ys1380.2.2.2.2, yFP, zm286.2.2.1, zm286.2.2.2.1, zc286, 0, ys1380.2.2.2.1, [], [])
theorem yw1380 : ywf ys1380.2.2.1 = true := by decide +kernel
theorem yk1380 : yver yx1380 ys1380.2.2.1 4000 = true := yverQ_ok (by decide +kernel)
theorem yt1380 {E : zHp → Prop} (h : yEF E yFP) : yTs E 3 ys1380 := yver_s (k := 286) (n := 2) (x := yx1380) (P := ys1380.2.2.1) (f := 4000) h (yal_c (yt1379 h) (by decide) yw1379 (yal_n)) yg286 yk1380
def ys1381 : ySp := (282, 2, (0, [], [], [], [(0, (2, yc 1001, yc 0)), (1, (0, yc 8, yc 0))], []), [(0, [], [], [], [], [(0, yc 116, yc 0)])], [])
def yx1381 : yCx := ([ys1345, ys1380], ys1381.2.2.2.2, yFP, zm282.2.2.1, zm282.2.2.2.1, zc282, 0, ys1381.2.2.2.1, [], [])
theorem yw1381 : ywf ys1381.2.2.1 = true := by decide +kernel
theorem yk1381 : yver yx1381 ys1381.2.2.1 4000 = true := yverQ_ok (by decide +kernel)
theorem yt1381 {E : zHp → Prop} (h : yEF E yFP) : yTs E 4 ys1381 := yver_s (k := 282) (n := 3) (x := yx1381) (P := ys1381.2.2.1) (f := 4000) h (yal_c (yt1345 h) (by decide) yw1345 (yal_c (yt1380 h) (by decide) yw1380 (yal_n))) yg282 yk1381
def ys1382 : ySp := (293, 3, (0, [], [], [], [(0, (0, yc 9, yc 0)), (1, (0, yc 31, yc 0)), (2, (7, yc 0, yc 0))], []), [(0, [], [], [], [], [(0, yc 9, yc 0)])], [])
def yx1382 : yCx := ([], ys1382.2.2.2.2, yFP, zm293.2.2.1, zm293.2.2.2.1, zc293, 0, ys1382.2.2.2.1, [], [])
theorem yw1382 : ywf ys1382.2.2.1 = true := by decide +kernel
theorem yk1382 : yver yx1382 ys1382.2.2.1 4000 = true := yverQ_ok (by decide +kernel)
theorem yt1382 {E : zHp → Prop} (h : yEF E yFP) : yTs E 1 ys1382 := yver_s (k := 293) (n := 0) (x := yx1382) (P := ys1382.2.2.1) (f := 4000) h (yal_n) yg293 yk1382
def ys1383 : ySp := (285, 2, (0, [], [], [], [(0, (0, yc 9, yc 0)), (1, (0, yc 31, yc 0))], []), [(0, [], [], [], [], [])], [])
def yx1383 : yCx := ([ys1382], ys1383.2.2.2.2, yFP, zm285.2.2.1, zm285.2.2.2.1, zc285, 0, ys1383.2.2.2.1, [], [])
theorem yw1383 : ywf ys1383.2.2.1 = true := by decide +kernel
theorem yk1383 : yver yx1383 ys1383.2.2.1 4000 = true := yverQ_ok (by decide +kernel)
theorem yt1383 {E : zHp → Prop} (h : yEF E yFP) : yTs E 2 ys1383 := yver_s (k := 285) (n := 1) (x := yx1383) (P := ys1383.2.2.1) (f := 4000) h (yal_c (yt1382 h) (by decide) yw1382 (yal_n)) yg285 yk1383
def ys1384 : ySp := (286, 2, (0, [], [], [], [(0, (2, yc 1020, yc 0)), (1, (0, yc 9, yc 0))], []), [(0, [], [], [], [], [(0, yc 111, yc 0)])], [])
def yx1384 : yCx := ([ys1383], ys1384.2.2.2.2, yFP, zm286.2.2.1, zm286.2.2.2.1, zc286, 0, ys1384.2.2.2.1, [], [])
theorem yw1384 : ywf ys1384.2.2.1 = true := by decide +kernel
theorem yk1384 : yver yx1384 ys1384.2.2.1 4000 = true := yverQ_ok (by decide +kernel)
theorem yt1384 {E : zHp → Prop} (h : yEF E yFP) : yTs E 3 ys1384 := yver_s (k := 286) (n := 2) (x := yx1384) (P := ys1384.2.2.1) (f := 4000) h (yal_c (yt1383 h) (by decide) yw1383 (yal_n)) yg286 yk1384
def ys1385 : ySp := (282, 2, (0, [], [], [], [(0, (2, yc 1001, yc 0)), (1, (0, yc 9, yc 0))], []), [(0, [], [], [], [], [(0, yc 111, yc 0)])], [])
def yx1385 : yCx := ([ys1345, ys1384], ys1385.2.2.2.2, yFP, zm282.2.2.1, zm282.2.2.2.1, zc282, 0, ys1385.2.2.2.1, [], [])
theorem yw1385 : ywf ys1385.2.2.1 = true := by decide +kernel
theorem yk1385 : yver yx1385 ys1385.2.2.1 4000 = true := yverQ_ok (by decide +kernel)
theorem yt1385 {E : zHp → Prop} (h : yEF E yFP) : yTs E 4 ys1385 := yver_s (k := 282) (n := 3) (x := yx1385) (P := ys1385.2.2.1) (f := 4000) h (yal_c (yt1345 h) (by decide) yw1345 (yal_c (yt1384 h) (by decide) yw1384 (yal_n))) yg282 yk1385
def ys1386 : ySp := (293, 3, (0, [], [], [], [(0, (0, yc 10, yc 0)), (1, (0, yc 31, yc 0)), (2, (7, yc 0, yc 0))], []), [(0, [], [], [], [], [(0, yc 10, yc 0)])], [])
def yx1386 : yCx := ([], ys1386.2.2.2.2, yFP, zm293.2.2.1, zm293.2.2.2.1, zc293, 0, ys1386.2.2.2.1, [], [])
theorem yw1386 : ywf ys1386.2.2.1 = true := by decide +kernel
theorem yk1386 : yver yx1386 ys1386.2.2.1 4000 = true := yverQ_ok (by decide +kernel)
theorem yt1386 {E : zHp → Prop} (h : yEF E yFP) : yTs E 1 ys1386 := yver_s (k := 293) (n := 0) (x := yx1386) (P := ys1386.2.2.1) (f := 4000) h (yal_n) yg293 yk1386
def ys1387 : ySp := (285, 2, (0, [], [], [], [(0, (0, yc 10, yc 0)), (1, (0, yc 31, yc 0))], []), [(0, [], [], [], [], [])], [])
def yx1387 : yCx := ([ys1386], ys1387.2.2.2.2, yFP, zm285.2.2.1, zm285.2.2.2.1, zc285, 0, ys1387.2.2.2.1, [], [])
theorem yw1387 : ywf ys1387.2.2.1 = true := by decide +kernel
theorem yk1387 : yver yx1387 ys1387.2.2.1 4000 = true := yverQ_ok (by decide +kernel)
theorem yt1387 {E : zHp → Prop} (h : yEF E yFP) : yTs E 2 ys1387 := yver_s (k := 285) (n := 1) (x := yx1387) (P := ys1387.2.2.1) (f := 4000) h (yal_c (yt1386 h) (by decide) yw1386 (yal_n)) yg285 yk1387
def ys1388 : ySp := (286, 2, (0, [], [], [], [(0, (2, yc 1020, yc 0)), (1, (0, yc 10, yc 0))], []), [(0, [], [], [], [], [(0, yc 111, yc 0)])], [])
def yx1388 : yCx := ([ys1387], ys1388.2.2.2.2, yFP, zm286.2.2.1, zm286.2.2.2.1, zc286, 0, ys1388.2.2.2.1, [], [])
theorem yw1388 : ywf ys1388.2.2.1 = true := by decide +kernel
theorem yk1388 : yver yx1388 ys1388.2.2.1 4000 = true := yverQ_ok (by decide +kernel)
theorem yt1388 {E : zHp → Prop} (h : yEF E yFP) : yTs E 3 ys1388 := yver_s (k := 286) (n := 2) (x := yx1388) (P := ys1388.2.2.1) (f := 4000) h (yal_c (yt1387 h) (by decide) yw1387 (yal_n)) yg286 yk1388
def ys1389 : ySp := (282, 2, (0, [], [], [], [(0, (2, yc 1001, yc 0)), (1, (0, yc 10, yc 0))], []), [(0, [], [], [], [], [(0, yc 111, yc 0)])], [])
def yx1389 : yCx := ([ys1345, ys1388], ys1389.2.2.2.2, yFP, zm282.2.2.1, zm282.2.2.2.1, zc282, 0, ys1389.2.2.2.1, [], [])
theorem yw1389 : ywf ys1389.2.2.1 = true := by decide +kernel
theorem yk1389 : yver yx1389 ys1389.2.2.1 4000 = true := yverQ_ok (by decide +kernel)
theorem yt1389 {E : zHp → Prop} (h : yEF E yFP) : yTs E 4 ys1389 := yver_s (k := 282) (n := 3) (x := yx1389) (P := ys1389.2.2.1) (f := 4000) h (yal_c (yt1345 h) (by decide) yw1345 (yal_c (yt1388 h) (by decide) yw1388 (yal_n))) yg282 yk1389
def ys1390 : ySp := (293, 3, (0, [], [], [], [(0, (0, yc 11, yc 0)), (1, (0, yc 31, yc 0)), (2, (7, yc 0, yc 0))], []), [(0, [], [], [], [], [(0, yc 11, yc 0)])], [])
def yx1390 : yCx := ([], ys1390.2.2.2.2, yFP, zm293.2.2.1, zm293.2.2.2.1, zc293, 0, ys1390.2.2.2.1, [], [])
theorem yw1390 : ywf ys1390.2.2.1 = true := by decide +kernel
theorem yk1390 : yver yx1390 ys1390.2.2.1 4000 = true := yverQ_ok (by decide +kernel)
theorem yt1390 {E : zHp → Prop} (h : yEF E yFP) : yTs E 1 ys1390 := yver_s (k := 293) (n := 0) (x := yx1390) (P := ys1390.2.2.1) (f := 4000) h (yal_n) yg293 yk1390
def ys1391 : ySp := (285, 2, (0, [], [], [], [(0, (0, yc 11, yc 0)), (1, (0, yc 31, yc 0))], []), [(0, [], [], [], [], [])], [])
def yx1391 : yCx := ([ys1390], ys1391.2.2.2.2, yFP, zm285.2.2.1, zm285.2.2.2.1, zc285, 0, ys1391.2.2.2.1, [], [])
theorem yw1391 : ywf ys1391.2.2.1 = true := by decide +kernel
theorem yk1391 : yver yx1391 ys1391.2.2.1 4000 = true := yverQ_ok (by decide +kernel)
theorem yt1391 {E : zHp → Prop} (h : yEF E yFP) : yTs E 2 ys1391 := yver_s (k := 285) (n := 1) (x := yx1391) (P := ys1391.2.2.1) (f := 4000) h (yal_c (yt1390 h) (by decide) yw1390 (yal_n)) yg285 yk1391
def ys1392 : ySp := (286, 2, (0, [], [], [], [(0, (2, yc 1020, yc 0)), (1, (0, yc 11, yc 0))], []), [(0, [], [], [], [], [(0, yc 108, yc 0)])], [])
def yx1392 : yCx := ([ys1391], ys1392.2.2.2.2, yFP, zm286.2.2.1, zm286.2.2.2.1, zc286, 0, ys1392.2.2.2.1, [], [])
theorem yw1392 : ywf ys1392.2.2.1 = true := by decide +kernel
theorem yk1392 : yver yx1392 ys1392.2.2.1 4000 = true := yverQ_ok (by decide +kernel)
theorem yt1392 {E : zHp → Prop} (h : yEF E yFP) : yTs E 3 ys1392 := yver_s (k := 286) (n := 2) (x := yx1392) (P := ys1392.2.2.1) (f := 4000) h (yal_c (yt1391 h) (by decide) yw1391 (yal_n)) yg286 yk1392
def ys1393 : ySp := (282, 2, (0, [], [], [], [(0, (2, yc 1001, yc 0)), (1, (0, yc 11, yc 0))], []), [(0, [], [], [], [], [(0, yc 108, yc 0)])], [])
def yx1393 : yCx := ([ys1345, ys1392], ys1393.2.2.2.2, yFP, zm282.2.2.1, zm282.2.2.2.1, zc282, 0, ys1393.2.2.2.1, [], [])
theorem yw1393 : ywf ys1393.2.2.1 = true := by decide +kernel
theorem yk1393 : yver yx1393 ys1393.2.2.1 4000 = true := yverQ_ok (by decide +kernel)
theorem yt1393 {E : zHp → Prop} (h : yEF E yFP) : yTs E 4 ys1393 := yver_s (k := 282) (n := 3) (x := yx1393) (P := ys1393.2.2.1) (f := 4000) h (yal_c (yt1345 h) (by decide) yw1345 (yal_c (yt1392 h) (by decide) yw1392 (yal_n))) yg282 yk1393
def ys1394 : ySp := (293, 3, (0, [], [], [], [(0, (0, yc 12, yc 0)), (1, (0, yc 31, yc 0)), (2, (7, yc 0, yc 0))], []), [(0, [], [], [], [], [(0, yc 12, yc 0)])], [])
def yx1394 : yCx := ([], ys1394.2.2.2.2, yFP, zm293.2.2.1, zm293.2.2.2.1, zc293, 0, ys1394.2.2.2.1, [], [])
theorem yw1394 : ywf ys1394.2.2.1 = true := by decide +kernel
theorem yk1394 : yver yx1394 ys1394.2.2.1 4000 = true := yverQ_ok (by decide +kernel)
theorem yt1394 {E : zHp → Prop} (h : yEF E yFP) : yTs E 1 ys1394 := yver_s (k := 293) (n := 0) (x := yx1394) (P := ys1394.2.2.1) (f := 4000) h (yal_n) yg293 yk1394
def ys1395 : ySp := (285, 2, (0, [], [], [], [(0, (0, yc 12, yc 0)), (1, (0, yc 31, yc 0))], []), [(0, [], [], [], [], [])], [])
def yx1395 : yCx := ([ys1394], ys1395.2.2.2.2, yFP, zm285.2.2.1, zm285.2.2.2.1, zc285, 0, ys1395.2.2.2.1, [], [])
theorem yw1395 : ywf ys1395.2.2.1 = true := by decide +kernel
theorem yk1395 : yver yx1395 ys1395.2.2.1 4000 = true := yverQ_ok (by decide +kernel)
theorem yt1395 {E : zHp → Prop} (h : yEF E yFP) : yTs E 2 ys1395 := yver_s (k := 285) (n := 1) (x := yx1395) (P := ys1395.2.2.1) (f := 4000) h (yal_c (yt1394 h) (by decide) yw1394 (yal_n)) yg285 yk1395
def ys1396 : ySp := (286, 2, (0, [], [], [], [(0, (2, yc 1020, yc 0)), (1, (0, yc 12, yc 0))], []), [(0, [], [], [], [], [(0, yc 32, yc 0)])], [])
def yx1396 : yCx := ([ys1395], ys1396.2.2.2.2, yFP, zm286.2.2.1, zm286.2.2.2.1, zc286, 0, ys1396.2.2.2.1, [], [])
theorem yw1396 : ywf ys1396.2.2.1 = true := by decide +kernel
theorem yk1396 : yver yx1396 ys1396.2.2.1 4000 = true := yverQ_ok (by decide +kernel)
theorem yt1396 {E : zHp → Prop} (h : yEF E yFP) : yTs E 3 ys1396 := yver_s (k := 286) (n := 2) (x := yx1396) (P := ys1396.2.2.1) (f := 4000) h (yal_c (yt1395 h) (by decide) yw1395 (yal_n)) yg286 yk1396
def ys1397 : ySp := (282, 2, (0, [], [], [], [(0, (2, yc 1001, yc 0)), (1, (0, yc 12, yc 0))], []), [(0, [], [], [], [], [(0, yc 32, yc 0)])], [])
def yx1397 : yCx := ([ys1345, ys1396], ys1397.2.2.2.2, yFP, zm282.2.2.1, zm282.2.2.2.1, zc282, 0, ys1397.2.2.2.1, [], [])
theorem yw1397 : ywf ys1397.2.2.1 = true := by decide +kernel
theorem yk1397 : yver yx1397 ys1397.2.2.1 4000 = true := yverQ_ok (by decide +kernel)
theorem yt1397 {E : zHp → Prop} (h : yEF E yFP) : yTs E 4 ys1397 := yver_s (k := 282) (n := 3) (x := yx1397) (P := ys1397.2.2.1) (f := 4000) h (yal_c (yt1345 h) (by decide) yw1345 (yal_c (yt1396 h) (by decide) yw1396 (yal_n))) yg282 yk1397
def ys1398 : ySp := (293, 3, (0, [], [], [], [(0, (0, yc 13, yc 0)), (1, (0, yc 31, yc 0)), (2, (7, yc 0, yc 0))], []), [(0, [], [], [], [], [(0, yc 13, yc 0)])], [])
def yx1398 : yCx := ([], ys1398.2.2.2.2, yFP, zm293.2.2.1, zm293.2.2.2.1, zc293, 0, ys1398.2.2.2.1, [], [])
theorem yw1398 : ywf ys1398.2.2.1 = true := by decide +kernel
theorem yk1398 : yver yx1398 ys1398.2.2.1 4000 = true := yverQ_ok (by decide +kernel)
theorem yt1398 {E : zHp → Prop} (h : yEF E yFP) : yTs E 1 ys1398 := yver_s (k := 293) (n := 0) (x := yx1398) (P := ys1398.2.2.1) (f := 4000) h (yal_n) yg293 yk1398
def ys1399 : ySp := (285, 2, (0, [], [], [], [(0, (0, yc 13, yc 0)), (1, (0, yc 31, yc 0))], []), [(0, [], [], [], [], [])], [])
def yx1399 : yCx := ([ys1398], ys1399.2.2.2.2, yFP, zm285.2.2.1, zm285.2.2.2.1, zc285, 0, ys1399.2.2.2.1, [], [])
theorem yw1399 : ywf ys1399.2.2.1 = true := by decide +kernel
theorem yk1399 : yver yx1399 ys1399.2.2.1 4000 = true := yverQ_ok (by decide +kernel)
theorem yt1399 {E : zHp → Prop} (h : yEF E yFP) : yTs E 2 ys1399 := yver_s (k := 285) (n := 1) (x := yx1399) (P := ys1399.2.2.1) (f := 4000) h (yal_c (yt1398 h) (by decide) yw1398 (yal_n)) yg285 yk1399
def ys1400 : ySp := (286, 2, (0, [], [], [], [(0, (2, yc 1020, yc 0)), (1, (0, yc 13, yc 0))], []), [(0, [], [], [], [], [(0, yc 116, yc 0)])], [])
def yx1400 : yCx := ([ys1399], ys1400.2.2.2.2, yFP, zm286.2.2.1, zm286.2.2.2.1, zc286, 0, ys1400.2.2.2.1, [], [])
theorem yw1400 : ywf ys1400.2.2.1 = true := by decide +kernel
theorem yk1400 : yver yx1400 ys1400.2.2.1 4000 = true := yverQ_ok (by decide +kernel)
theorem yt1400 {E : zHp → Prop} (h : yEF E yFP) : yTs E 3 ys1400 := yver_s (k := 286) (n := 2) (x := yx1400) (P := ys1400.2.2.1) (f := 4000) h (yal_c (yt1399 h) (by decide) yw1399 (yal_n)) yg286 yk1400
def ys1401 : ySp := (282, 2, (0, [], [], [], [(0, (2, yc 1001, yc 0)), (1, (0, yc 13, yc 0))], []), [(0, [], [], [], [], [(0, yc 116, yc 0)])], [])
def yx1401 : yCx := ([ys1345, ys1400], ys1401.2.2.2.2, yFP, zm282.2.2.1, zm282.2.2.2.1, zc282, 0, ys1401.2.2.2.1, [], [])
theorem yw1401 : ywf ys1401.2.2.1 = true := by decide +kernel
theorem yk1401 : yver yx1401 ys1401.2.2.1 4000 = true := yverQ_ok (by decide +kernel)
theorem yt1401 {E : zHp → Prop} (h : yEF E yFP) : yTs E 4 ys1401 := yver_s (k := 282) (n := 3) (x := yx1401) (P := ys1401.2.2.1) (f := 4000) h (yal_c (yt1345 h) (by decide) yw1345 (yal_c (yt1400 h) (by decide) yw1400 (yal_n))) yg282 yk1401
def ys1402 : ySp := (293, 3, (0, [], [], [], [(0, (0, yc 14, yc 0)), (1, (0, yc 31, yc 0)), (2, (7, yc 0, yc 0))], []), [(0, [], [], [], [], [(0, yc 14, yc 0)])], [])
def yx1402 : yCx := ([], ys1402.2.2.2.2, yFP, zm293.2.2.1, zm293.2.2.2.1, zc293, 0, ys1402.2.2.2.1, [], [])
theorem yw1402 : ywf ys1402.2.2.1 = true := by decide +kernel
theorem yk1402 : yver yx1402 ys1402.2.2.1 4000 = true := yverQ_ok (by decide +kernel)
theorem yt1402 {E : zHp → Prop} (h : yEF E yFP) : yTs E 1 ys1402 := yver_s (k := 293) (n := 0) (x := yx1402) (P := ys1402.2.2.1) (f := 4000) h (yal_n) yg293 yk1402
def ys1403 : ySp := (285, 2, (0, [], [], [], [(0, (0, yc 14, yc 0)), (1, (0, yc 31, yc 0))], []), [(0, [], [], [], [], [])], [])
def yx1403 : yCx := ([ys1402], ys1403.2.2.2.2, yFP, zm285.2.2.1, zm285.2.2.2.1, zc285, 0, ys1403.2.2.2.1, [], [])
theorem yw1403 : ywf ys1403.2.2.1 = true := by decide +kernel
theorem yk1403 : yver yx1403 ys1403.2.2.1 4000 = true := yverQ_ok (by decide +kernel)
theorem yt1403 {E : zHp → Prop} (h : yEF E yFP) : yTs E 2 ys1403 := yver_s (k := 285) (n := 1) (x := yx1403) (P := ys1403.2.2.1) (f := 4000) h (yal_c (yt1402 h) (by decide) yw1402 (yal_n)) yg285 yk1403
def ys1404 : ySp := (286, 2, (0, [], [], [], [(0, (2, yc 1020, yc 0)), (1, (0, yc 14, yc 0))], []), [(0, [], [], [], [], [(0, yc 114, yc 0)])], [])
def yx1404 : yCx := ([ys1403], ys1404.2.2.2.2, yFP, zm286.2.2.1, zm286.2.2.2.1, zc286, 0, ys1404.2.2.2.1, [], [])
theorem yw1404 : ywf ys1404.2.2.1 = true := by decide +kernel
theorem yk1404 : yver yx1404 ys1404.2.2.1 4000 = true := yverQ_ok (by decide +kernel)
theorem yt1404 {E : zHp → Prop} (h : yEF E yFP) : yTs E 3 ys1404 := yver_s (k := 286) (n := 2) (x := yx1404) (P := ys1404.2.2.1) (f := 4000) h (yal_c (yt1403 h) (by decide) yw1403 (yal_n)) yg286 yk1404
def ys1405 : ySp := (282, 2, (0, [], [], [], [(0, (2, yc 1001, yc 0)), (1, (0, yc 14, yc 0))], []), [(0, [], [], [], [], [(0, yc 114, yc 0)])], [])
def yx1405 : yCx := ([ys1345, ys1404], ys1405.2.2.2.2, yFP, zm282.2.2.1, zm282.2.2.2.1, zc282, 0, ys1405.2.2.2.1, [], [])
theorem yw1405 : ywf ys1405.2.2.1 = true := by decide +kernel
theorem yk1405 : yver yx1405 ys1405.2.2.1 4000 = true := yverQ_ok (by decide +kernel)
theorem yt1405 {E : zHp → Prop} (h : yEF E yFP) : yTs E 4 ys1405 := yver_s (k := 282) (n := 3) (x := yx1405) (P := ys1405.2.2.1) (f := 4000) h (yal_c (yt1345 h) (by decide) yw1345 (yal_c (yt1404 h) (by decide) yw1404 (yal_n))) yg282 yk1405
def ys1406 : ySp := (293, 3, (0, [], [], [], [(0, (0, yc 15, yc 0)), (1, (0, yc 31, yc 0)), (2, (7, yc 0, yc 0))], []), [(0, [], [], [], [], [(0, yc 15, yc 0)])], [])
def yx1406 : yCx := ([], ys1406.2.2.2.2, yFP, zm293.2.2.1, zm293.2.2.2.1, zc293, 0, ys1406.2.2.2.1, [], [])
theorem yw1406 : ywf ys1406.2.2.1 = true := by decide +kernel
theorem yk1406 : yver yx1406 ys1406.2.2.1 4000 = true := yverQ_ok (by decide +kernel)
theorem yt1406 {E : zHp → Prop} (h : yEF E yFP) : yTs E 1 ys1406 := yver_s (k := 293) (n := 0) (x := yx1406) (P := ys1406.2.2.1) (f := 4000) h (yal_n) yg293 yk1406
def ys1407 : ySp := (285, 2, (0, [], [], [], [(0, (0, yc 15, yc 0)), (1, (0, yc 31, yc 0))], []), [(0, [], [], [], [], [])], [])
def yx1407 : yCx := ([ys1406], ys1407.2.2.2.2, yFP, zm285.2.2.1, zm285.2.2.2.1, zc285, 0, ys1407.2.2.2.1, [], [])
theorem yw1407 : ywf ys1407.2.2.1 = true := by decide +kernel
theorem yk1407 : yver yx1407 ys1407.2.2.1 4000 = true := yverQ_ok (by decide +kernel)
theorem yt1407 {E : zHp → Prop} (h : yEF E yFP) : yTs E 2 ys1407 := yver_s (k := 285) (n := 1) (x := yx1407) (P := ys1407.2.2.1) (f := 4000) h (yal_c (yt1406 h) (by decide) yw1406 (yal_n)) yg285 yk1407
def ys1408 : ySp := (286, 2, (0, [], [], [], [(0, (2, yc 1020, yc 0)), (1, (0, yc 15, yc 0))], []), [(0, [], [], [], [], [(0, yc 117, yc 0)])], [])
def yx1408 : yCx := ([ys1407], ys1408.2.2.2.2, yFP, zm286.2.2.1, zm286.2.2.2.1, zc286, 0, ys1408.2.2.2.1, [], [])
theorem yw1408 : ywf ys1408.2.2.1 = true := by decide +kernel
theorem yk1408 : yver yx1408 ys1408.2.2.1 4000 = true := yverQ_ok (by decide +kernel)
theorem yt1408 {E : zHp → Prop} (h : yEF E yFP) : yTs E 3 ys1408 := yver_s (k := 286) (n := 2) (x := yx1408) (P := ys1408.2.2.1) (f := 4000) h (yal_c (yt1407 h) (by decide) yw1407 (yal_n)) yg286 yk1408
def ys1409 : ySp := (282, 2, (0, [], [], [], [(0, (2, yc 1001, yc 0)), (1, (0, yc 15, yc 0))], []), [(0, [], [], [], [], [(0, yc 117, yc 0)])], [])
def yx1409 : yCx := ([ys1345, ys1408], ys1409.2.2.2.2, yFP, zm282.2.2.1, zm282.2.2.2.1, zc282, 0, ys1409.2.2.2.1, [], [])
theorem yw1409 : ywf ys1409.2.2.1 = true := by decide +kernel
theorem yk1409 : yver yx1409 ys1409.2.2.1 4000 = true := yverQ_ok (by decide +kernel)
theorem yt1409 {E : zHp → Prop} (h : yEF E yFP) : yTs E 4 ys1409 := yver_s (k := 282) (n := 3) (x := yx1409) (P := ys1409.2.2.1) (f := 4000) h (yal_c (yt1345 h) (by decide) yw1345 (yal_c (yt1408 h) (by decide) yw1408 (yal_n))) yg282 yk1409
def ys1410 : ySp := (293, 3, (0, [], [], [], [(0, (0, yc 16, yc 0)), (1, (0, yc 31, yc 0)), (2, (7, yc 0, yc 0))], []), [(0, [], [], [], [], [(0, yc 16, yc 0)])], [])
def yx1410 : yCx := ([], ys1410.2.2.2.2, yFP, zm293.2.2.1, zm293.2.2.2.1, zc293, 0, ys1410.2.2.2.1, [], [])
theorem yw1410 : ywf ys1410.2.2.1 = true := by decide +kernel
theorem yk1410 : yver yx1410 ys1410.2.2.1 4000 = true := yverQ_ok (by decide +kernel)
theorem yt1410 {E : zHp → Prop} (h : yEF E yFP) : yTs E 1 ys1410 := yver_s (k := 293) (n := 0) (x := yx1410) (P := ys1410.2.2.1) (f := 4000) h (yal_n) yg293 yk1410
def ys1411 : ySp := (285, 2, (0, [], [], [], [(0, (0, yc 16, yc 0)), (1, (0, yc 31, yc 0))], []), [(0, [], [], [], [], [])], [])
def yx1411 : yCx := ([ys1410], ys1411.2.2.2.2, yFP, zm285.2.2.1, zm285.2.2.2.1, zc285, 0, ys1411.2.2.2.1, [], [])
theorem yw1411 : ywf ys1411.2.2.1 = true := by decide +kernel
theorem yk1411 : yver yx1411 ys1411.2.2.1 4000 = true := yverQ_ok (by decide +kernel)
theorem yt1411 {E : zHp → Prop} (h : yEF E yFP) : yTs E 2 ys1411 := yver_s (k := 285) (n := 1) (x := yx1411) (P := ys1411.2.2.1) (f := 4000) h (yal_c (yt1410 h) (by decide) yw1410 (yal_n)) yg285 yk1411
def ys1412 : ySp := (286, 2, (0, [], [], [], [(0, (2, yc 1020, yc 0)), (1, (0, yc 16, yc 0))], []), [(0, [], [], [], [], [(0, yc 115, yc 0)])], [])
def yx1412 : yCx := ([ys1411], ys1412.2.2.2.2, yFP, zm286.2.2.1, zm286.2.2.2.1, zc286, 0, ys1412.2.2.2.1, [], [])
theorem yw1412 : ywf ys1412.2.2.1 = true := by decide +kernel
theorem yk1412 : yver yx1412 ys1412.2.2.1 4000 = true := yverQ_ok (by decide +kernel)
theorem yt1412 {E : zHp → Prop} (h : yEF E yFP) : yTs E 3 ys1412 := yver_s (k := 286) (n := 2) (x := yx1412) (P := ys1412.2.2.1) (f := 4000) h (yal_c (yt1411 h) (by decide) yw1411 (yal_n)) yg286 yk1412
def ys1413 : ySp := (282, 2, (0, [], [], [], [(0, (2, yc 1001, yc 0)), (1, (0, yc 16, yc 0))], []), [(0, [], [], [], [], [(0, yc 115, yc 0)])], [])
def yx1413 : yCx := ([ys1345, ys1412], ys1413.2.2.2.2, yFP, zm282.2.2.1, zm282.2.2.2.1, zc282, 0, ys1413.2.2.2.1, [], [])
theorem yw1413 : ywf ys1413.2.2.1 = true := by decide +kernel
theorem yk1413 : yver yx1413 ys1413.2.2.1 4000 = true := yverQ_ok (by decide +kernel)
theorem yt1413 {E : zHp → Prop} (h : yEF E yFP) : yTs E 4 ys1413 := yver_s (k := 282) (n := 3) (x := yx1413) (P := ys1413.2.2.1) (f := 4000) h (yal_c (yt1345 h) (by decide) yw1345 (yal_c (yt1412 h) (by decide) yw1412 (yal_n))) yg282 yk1413
def ys1414 : ySp := (293, 3, (0, [], [], [], [(0, (0, yc 17, yc 0)), (1, (0, yc 31, yc 0)), (2, (7, yc 0, yc 0))], []), [(0, [], [], [], [], [(0, yc 17, yc 0)])], [])
def yx1414 : yCx := ([], ys1414.2.2.2.2, yFP, zm293.2.2.1, zm293.2.2.2.1, zc293, 0, ys1414.2.2.2.1, [], [])
theorem yw1414 : ywf ys1414.2.2.1 = true := by decide +kernel
theorem yk1414 : yver yx1414 ys1414.2.2.1 4000 = true := yverQ_ok (by decide +kernel)
theorem yt1414 {E : zHp → Prop} (h : yEF E yFP) : yTs E 1 ys1414 := yver_s (k := 293) (n := 0) (x := yx1414) (P := ys1414.2.2.1) (f := 4000) h (yal_n) yg293 yk1414
def ys1415 : ySp := (285, 2, (0, [], [], [], [(0, (0, yc 17, yc 0)), (1, (0, yc 31, yc 0))], []), [(0, [], [], [], [], [])], [])
def yx1415 : yCx := ([ys1414], ys1415.2.2.2.2, yFP, zm285.2.2.1, zm285.2.2.2.1, zc285, 0, ys1415.2.2.2.1, [], [])
theorem yw1415 : ywf ys1415.2.2.1 = true := by decide +kernel
theorem yk1415 : yver yx1415 ys1415.2.2.1 4000 = true := yverQ_ok (by decide +kernel)
theorem yt1415 {E : zHp → Prop} (h : yEF E yFP) : yTs E 2 ys1415 := yver_s (k := 285) (n := 1) (x := yx1415) (P := ys1415.2.2.1) (f := 4000) h (yal_c (yt1414 h) (by decide) yw1414 (yal_n)) yg285 yk1415
def ys1416 : ySp := (286, 2, (0, [], [], [], [(0, (2, yc 1020, yc 0)), (1, (0, yc 17, yc 0))], []), [(0, [], [], [], [], [(0, yc 116, yc 0)])], [])
def yx1416 : yCx := ([ys1415], ys1416.2.2.2.2, yFP, zm286.2.2.1, zm286.2.2.2.1, zc286, 0, ys1416.2.2.2.1, [], [])
theorem yw1416 : ywf ys1416.2.2.1 = true := by decide +kernel
theorem yk1416 : yver yx1416 ys1416.2.2.1 4000 = true := yverQ_ok (by decide +kernel)
theorem yt1416 {E : zHp → Prop} (h : yEF E yFP) : yTs E 3 ys1416 := yver_s (k := 286) (n := 2) (x := yx1416) (P := ys1416.2.2.1) (f := 4000) h (yal_c (yt1415 h) (by decide) yw1415 (yal_n)) yg286 yk1416
def ys1417 : ySp := (282, 2, (0, [], [], [], [(0, (2, yc 1001, yc 0)), (1, (0, yc 17, yc 0))], []), [(0, [], [], [], [], [(0, yc 116, yc 0)])], [])
def yx1417 : yCx := ([ys1345, ys1416], ys1417.2.2.2.2, yFP, zm282.2.2.1, zm282.2.2.2.1, zc282, 0, ys1417.2.2.2.1, [], [])
theorem yw1417 : ywf ys1417.2.2.1 = true := by decide +kernel
theorem yk1417 : yver yx1417 ys1417.2.2.1 4000 = true := yverQ_ok (by decide +kernel)
theorem yt1417 {E : zHp → Prop} (h : yEF E yFP) : yTs E 4 ys1417 := yver_s (k := 282) (n := 3) (x := yx1417) (P := ys1417.2.2.1) (f := 4000) h (yal_c (yt1345 h) (by decide) yw1345 (yal_c (yt1416 h) (by decide) yw1416 (yal_n))) yg282 yk1417
def ys1418 : ySp := (293, 3, (0, [], [], [], [(0, (0, yc 18, yc 0)), (1, (0, yc 31, yc 0)), (2, (7, yc 0, yc 0))], []), [(0, [], [], [], [], [(0, yc 18, yc 0)])], [])
def yx1418 : yCx := ([], ys1418.2.2.2.2, yFP, zm293.2.2.1, zm293.2.2.2.1, zc293, 0, ys1418.2.2.2.1, [], [])
theorem yw1418 : ywf ys1418.2.2.1 = true := by decide +kernel
theorem yk1418 : yver yx1418 ys1418.2.2.1 4000 = true := yverQ_ok (by decide +kernel)
theorem yt1418 {E : zHp → Prop} (h : yEF E yFP) : yTs E 1 ys1418 := yver_s (k := 293) (n := 0) (x := yx1418) (P := ys1418.2.2.1) (f := 4000) h (yal_n) yg293 yk1418
def ys1419 : ySp := (285, 2, (0, [], [], [], [(0, (0, yc 18, yc 0)), (1, (0, yc 31, yc 0))], []), [(0, [], [], [], [], [])], [])
def yx1419 : yCx := ([ys1418], ys1419.2.2.2.2, yFP, zm285.2.2.1, zm285.2.2.2.1, zc285, 0, ys1419.2.2.2.1, [], [])
theorem yw1419 : ywf ys1419.2.2.1 = true := by decide +kernel
theorem yk1419 : yver yx1419 ys1419.2.2.1 4000 = true := yverQ_ok (by decide +kernel)
theorem yt1419 {E : zHp → Prop} (h : yEF E yFP) : yTs E 2 ys1419 := yver_s (k := 285) (n := 1) (x := yx1419) (P := ys1419.2.2.1) (f := 4000) h (yal_c (yt1418 h) (by decide) yw1418 (yal_n)) yg285 yk1419
def ys1420 : ySp := (286, 2, (0, [], [], [], [(0, (2, yc 1020, yc 0)), (1, (0, yc 18, yc 0))], []), [(0, [], [], [], [], [(0, yc 32, yc 0)])], [])
def yx1420 : yCx := ([ys1419], ys1420.2.2.2.2, yFP, zm286.2.2.1, zm286.2.2.2.1, zc286, 0, ys1420.2.2.2.1, [], [])
theorem yw1420 : ywf ys1420.2.2.1 = true := by decide +kernel
theorem yk1420 : yver yx1420 ys1420.2.2.1 4000 = true := yverQ_ok (by decide +kernel)
theorem yt1420 {E : zHp → Prop} (h : yEF E yFP) : yTs E 3 ys1420 := yver_s (k := 286) (n := 2) (x := yx1420) (P := ys1420.2.2.1) (f := 4000) h (yal_c (yt1419 h) (by decide) yw1419 (yal_n)) yg286 yk1420
def ys1421 : ySp := (282, 2, (0, [], [], [], [(0, (2, yc 1001, yc 0)), (1, (0, yc 18, yc 0))], []), [(0, [], [], [], [], [(0, yc 32, yc 0)])], [])
def yx1421 : yCx := ([ys1345, ys1420], ys1421.2.2.2.2, yFP, zm282.2.2.1, zm282.2.2.2.1, zc282, 0, ys1421.2.2.2.1, [], [])
theorem yw1421 : ywf ys1421.2.2.1 = true := by decide +kernel
theorem yk1421 : yver yx1421 ys1421.2.2.1 4000 = true := yverQ_ok (by decide +kernel)
theorem yt1421 {E : zHp → Prop} (h : yEF E yFP) : yTs E 4 ys1421 := yver_s (k := 282) (n := 3) (x := yx1421) (P := ys1421.2.2.1) (f := 4000) h (yal_c (yt1345 h) (by decide) yw1345 (yal_c (yt1420 h) (by decide) yw1420 (yal_n))) yg282 yk1421
def ys1422 : ySp := (293, 3, (0, [], [], [], [(0, (0, yc 19, yc 0)), (1, (0, yc 31, yc 0)), (2, (7, yc 0, yc 0))], []), [(0, [], [], [], [], [(0, yc 19, yc 0)])], [])
def yx1422 : yCx := ([], ys1422.2.2.2.2, yFP, zm293.2.2.1, zm293.2.2.2.1, zc293, 0, ys1422.2.2.2.1, [], [])
theorem yw1422 : ywf ys1422.2.2.1 = true := by decide +kernel
theorem yk1422 : yver yx1422 ys1422.2.2.1 4000 = true := yverQ_ok (by decide +kernel)
theorem yt1422 {E : zHp → Prop} (h : yEF E yFP) : yTs E 1 ys1422 := yver_s (k := 293) (n := 0) (x := yx1422) (P := ys1422.2.2.1) (f := 4000) h (yal_n) yg293 yk1422
def ys1423 : ySp := (285, 2, (0, [], [], [], [(0, (0, yc 19, yc 0)), (1, (0, yc 31, yc 0))], []), [(0, [], [], [], [], [])], [])
def yx1423 : yCx := ([ys1422], ys1423.2.2.2.2, yFP, zm285.2.2.1, zm285.2.2.2.1, zc285, 0, ys1423.2.2.2.1, [], [])
theorem yw1423 : ywf ys1423.2.2.1 = true := by decide +kernel
theorem yk1423 : yver yx1423 ys1423.2.2.1 4000 = true := yverQ_ok (by decide +kernel)
theorem yt1423 {E : zHp → Prop} (h : yEF E yFP) : yTs E 2 ys1423 := yver_s (k := 285) (n := 1) (x := yx1423) (P := ys1423.2.2.1) (f := 4000) h (yal_c (yt1422 h) (by decide) yw1422 (yal_n)) yg285 yk1423
def ys1424 : ySp := (286, 2, (0, [], [], [], [(0, (2, yc 1020, yc 0)), (1, (0, yc 19, yc 0))], []), [(0, [], [], [], [], [(0, yc 119, yc 0)])], [])
def yx1424 : yCx := ([ys1423], ys1424.2.2.2.2, yFP, zm286.2.2.1, zm286.2.2.2.1, zc286, 0, ys1424.2.2.2.1, [], [])
theorem yw1424 : ywf ys1424.2.2.1 = true := by decide +kernel
theorem yk1424 : yver yx1424 ys1424.2.2.1 4000 = true := yverQ_ok (by decide +kernel)
theorem yt1424 {E : zHp → Prop} (h : yEF E yFP) : yTs E 3 ys1424 := yver_s (k := 286) (n := 2) (x := yx1424) (P := ys1424.2.2.1) (f := 4000) h (yal_c (yt1423 h) (by decide) yw1423 (yal_n)) yg286 yk1424
def ys1425 : ySp := (282, 2, (0, [], [], [], [(0, (2, yc 1001, yc 0)), (1, (0, yc 19, yc 0))], []), [(0, [], [], [], [], [(0, yc 119, yc 0)])], [])
def yx1425 : yCx := ([ys1345, ys1424], ys1425.2.2.2.2, yFP, zm282.2.2.1, zm282.2.2.2.1, zc282, 0, ys1425.2.2.2.1, [], [])
theorem yw1425 : ywf ys1425.2.2.1 = true := by decide +kernel
theorem yk1425 : yver yx1425 ys1425.2.2.1 4000 = true := yverQ_ok (by decide +kernel)
theorem yt1425 {E : zHp → Prop} (h : yEF E yFP) : yTs E 4 ys1425 := yver_s (k := 282) (n := 3) (x := yx1425) (P := ys1425.2.2.1) (f := 4000) h (yal_c (yt1345 h) (by decide) yw1345 (yal_c (yt1424 h) (by decide) yw1424 (yal_n))) yg282 yk1425
def ys1426 : ySp := (293, 3, (0, [], [], [], [(0, (0, yc 20, yc 0)), (1, (0, yc 31, yc 0)), (2, (7, yc 0, yc 0))], []), [(0, [], [], [], [], [(0, yc 20, yc 0)])], [])
def yx1426 : yCx := ([], ys1426.2.2.2.2, yFP, zm293.2.2.1, zm293.2.2.2.1, zc293, 0, ys1426.2.2.2.1, [], [])
theorem yw1426 : ywf ys1426.2.2.1 = true := by decide +kernel
theorem yk1426 : yver yx1426 ys1426.2.2.1 4000 = true := yverQ_ok (by decide +kernel)
theorem yt1426 {E : zHp → Prop} (h : yEF E yFP) : yTs E 1 ys1426 := yver_s (k := 293) (n := 0) (x := yx1426) (P := ys1426.2.2.1) (f := 4000) h (yal_n) yg293 yk1426
end
section
def ys1427 : ySp := (285, 2, (0, [], [], [], [(0, (0, yc 20, yc 0)), (1, (0, yc 31, yc 0))], []), [(0, [], [], [], [], [])], [])
def yx1427 : yCx := ([ys1426], ys1427.2.2.2.2, yFP, zm285.2.2.1, zm285.2.2.2.1, zc285, 0, ys1427.2.2.2.1, [], [])
theorem yw1427 : ywf ys1427.2.2.1 = true := by decide +kernel
theorem yk1427 : yver yx1427 ys1427.2.2.1 4000 = true := yverQ_ok (by decide +kernel)
theorem yt1427 {E : zHp → Prop} (h : yEF E yFP) : yTs E 2 ys1427 := yver_s (k := 285) (n := 1) (x := yx1427) (P := ys1427.2.2.1) (f := 4000) h (yal_c (yt1426 h) (by decide) yw1426 (yal_n)) yg285 yk1427
def ys1428 : ySp := (286, 2, (0, [], [], [], [(0, (2, yc 1020, yc 0)), (1, (0, yc 20, yc 0))], []), [(0, [], [], [], [], [(0, yc 111, yc 0)])], [])
def yx1428 : yCx := ([ys1427], ys1428.2.2.2.2, yFP, zm286.2.2.1, zm286.2.2.2.1, zc286, 0, ys1428.2.2.2.1, [], [])
theorem yw1428 : ywf ys1428.2.2.1 = true := by decide +kernel
theorem yk1428 : yver yx1428 ys1428.2.2.1 4000 = true := yverQ_ok (by decide +kernel)
theorem yt1428 {E : zHp → Prop} (h : yEF E yFP) : yTs E 3 ys1428 := yver_s (k := 286) (n := 2) (x := yx1428) (P := ys1428.2.2.1) (f := 4000) h (yal_c (yt1427 h) (by decide) yw1427 (yal_n)) yg286 yk1428
def ys1429 : ySp := (282, 2, (0, [], [], [], [(0, (2, yc 1001, yc 0)), (1, (0, yc 20, yc 0))], []), [(0, [], [], [], [], [(0, yc 111, yc 0)])], [])
def yx1429 : yCx := ([ys1345, ys1428], ys1429.2.2.2.2, yFP, zm282.2.2.1, zm282.2.2.2.1, zc282, 0, ys1429.2.2.2.1, [], [])
theorem yw1429 : ywf ys1429.2.2.1 = true := by decide +kernel
theorem yk1429 : yver yx1429 ys1429.2.2.1 4000 = true := yverQ_ok (by decide +kernel)
theorem yt1429 {E : zHp → Prop} (h : yEF E yFP) : yTs E 4 ys1429 := yver_s (k := 282) (n := 3) (x := yx1429) (P := ys1429.2.2.1) (f := 4000) h (yal_c (yt1345 h) (by decide) yw1345 (yal_c (yt1428 h) (by decide) yw1428 (yal_n))) yg282 yk1429
def ys1430 : ySp := (293, 3, (0, [], [], [], [(0, (0, yc 21, yc 0)), (1, (0, yc 31, yc 0)), (2, (7, yc 0, yc 0))], []), [(0, [], [], [], [], [(0, yc 21, yc 0)])], [])
def yx1430 : yCx := ([], ys1430.2.2.2.2, yFP, zm293.2.2.1, zm293.2.2.2.1, zc293, 0, ys1430.2.2.2.1, [], [])
theorem yw1430 : ywf ys1430.2.2.1 = true := by decide +kernel
theorem yk1430 : yver yx1430 ys1430.2.2.1 4000 = true := yverQ_ok (by decide +kernel)
theorem yt1430 {E : zHp → Prop} (h : yEF E yFP) : yTs E 1 ys1430 := yver_s (k := 293) (n := 0) (x := yx1430) (P := ys1430.2.2.1) (f := 4000) h (yal_n) yg293 yk1430
def ys1431 : ySp := (285, 2, (0, [], [], [], [(0, (0, yc 21, yc 0)), (1, (0, yc 31, yc 0))], []), [(0, [], [], [], [], [])], [])
def yx1431 : yCx := ([ys1430], ys1431.2.2.2.2, yFP, zm285.2.2.1, zm285.2.2.2.1, zc285, 0, ys1431.2.2.2.1, [], [])
theorem yw1431 : ywf ys1431.2.2.1 = true := by decide +kernel
theorem yk1431 : yver yx1431 ys1431.2.2.1 4000 = true := yverQ_ok (by decide +kernel)
theorem yt1431 {E : zHp → Prop} (h : yEF E yFP) : yTs E 2 ys1431 := yver_s (k := 285) (n := 1) (x := yx1431) (P := ys1431.2.2.1) (f := 4000) h (yal_c (yt1430 h) (by decide) yw1430 (yal_n)) yg285 yk1431
def ys1432 : ySp := (286, 2, (0, [], [], [], [(0, (2, yc 1020, yc 0)), (1, (0, yc 21, yc 0))], []), [(0, [], [], [], [], [(0, yc 114, yc 0)])], [])
def yx1432 : yCx := ([ys1431], ys1432.2.2.2.2, yFP, zm286.2.2.1, zm286.2.2.2.1, zc286, 0, ys1432.2.2.2.1, [], [])
theorem yw1432 : ywf ys1432.2.2.1 = true := by decide +kernel
theorem yk1432 : yver yx1432 ys1432.2.2.1 4000 = true := yverQ_ok (by decide +kernel)
theorem yt1432 {E : zHp → Prop} (h : yEF E yFP) : yTs E 3 ys1432 := yver_s (k := 286) (n := 2) (x := yx1432) (P := ys1432.2.2.1) (f := 4000) h (yal_c (yt1431 h) (by decide) yw1431 (yal_n)) yg286 yk1432
def ys1433 : ySp := (282, 2, (0, [], [], [], [(0, (2, yc 1001, yc 0)), (1, (0, yc 21, yc 0))], []), [(0, [], [], [], [], [(0, yc 114, yc 0)])], [])
def yx1433 : yCx := ([ys1345, ys1432], ys1433.2.2.2.2, yFP, zm282.2.2.1, zm282.2.2.2.1, zc282, 0, ys1433.2.2.2.1, [], [])
theorem yw1433 : ywf ys1433.2.2.1 = true := by decide +kernel
theorem yk1433 : yver yx1433 ys1433.2.2.1 4000 = true := yverQ_ok (by decide +kernel)
theorem yt1433 {E : zHp → Prop} (h : yEF E yFP) : yTs E 4 ys1433 := yver_s (k := 282) (n := 3) (x := yx1433) (P := ys1433.2.2.1) (f := 4000) h (yal_c (yt1345 h) (by decide) yw1345 (yal_c (yt1432 h) (by decide) yw1432 (yal_n))) yg282 yk1433
def ys1434 : ySp := (293, 3, (0, [], [], [], [(0, (0, yc 22, yc 0)), (1, (0, yc 31, yc 0)), (2, (7, yc 0, yc 0))], []), [(0, [], [], [], [], [(0, yc 22, yc 0)])], [])
def yx1434 : yCx := ([], ys1434.2.2.2.2, yFP, zm293.2.2.1, zm293.2.2.2.1, zc293, 0, ys1434.2.2.2.1, [], [])
theorem yw1434 : ywf ys1434.2.2.1 = true := by decide +kernel
theorem yk1434 : yver yx1434 ys1434.2.2.1 4000 = true := yverQ_ok (by decide +kernel)
theorem yt1434 {E : zHp → Prop} (h : yEF E yFP) : yTs E 1 ys1434 := yver_s (k := 293) (n := 0) (x := yx1434) (P := ys1434.2.2.1) (f := 4000) h (yal_n) yg293 yk1434
def ys1435 : ySp := (285, 2, (0, [], [], [], [(0, (0, yc 22, yc 0)), (1, (0, yc 31, yc 0))], []), [(0, [], [], [], [], [])], [])
def yx1435 : yCx := ([ys1434], ys1435.2.2.2.2, yFP, zm285.2.2.1, zm285.2.2.2.1, zc285, 0, ys1435.2.2.2.1, [], [])
theorem yw1435 : ywf ys1435.2.2.1 = true := by decide +kernel
theorem yk1435 : yver yx1435 ys1435.2.2.1 4000 = true := yverQ_ok (by decide +kernel)
theorem yt1435 {E : zHp → Prop} (h : yEF E yFP) : yTs E 2 ys1435 := yver_s (k := 285) (n := 1) (x := yx1435) (P := ys1435.2.2.1) (f := 4000) h (yal_c (yt1434 h) (by decide) yw1434 (yal_n)) yg285 yk1435
def ys1436 : ySp := (286, 2, (0, [], [], [], [(0, (2, yc 1020, yc 0)), (1, (0, yc 22, yc 0))], []), [(0, [], [], [], [], [(0, yc 107, yc 0)])], [])
def yx1436 : yCx := ([ys1435], ys1436.2.2.2.2, yFP, zm286.2.2.1, zm286.2.2.2.1, zc286, 0, ys1436.2.2.2.1, [], [])
theorem yw1436 : ywf ys1436.2.2.1 = true := by decide +kernel
theorem yk1436 : yver yx1436 ys1436.2.2.1 4000 = true := yverQ_ok (by decide +kernel)
theorem yt1436 {E : zHp → Prop} (h : yEF E yFP) : yTs E 3 ys1436 := yver_s (k := 286) (n := 2) (x := yx1436) (P := ys1436.2.2.1) (f := 4000) h (yal_c (yt1435 h) (by decide) yw1435 (yal_n)) yg286 yk1436
def ys1437 : ySp := (282, 2, (0, [], [], [], [(0, (2, yc 1001, yc 0)), (1, (0, yc 22, yc 0))], []), [(0, [], [], [], [], [(0, yc 107, yc 0)])], [])
def yx1437 : yCx := ([ys1345, ys1436], ys1437.2.2.2.2, yFP, zm282.2.2.1, zm282.2.2.2.1, zc282, 0, ys1437.2.2.2.1, [], [])
theorem yw1437 : ywf ys1437.2.2.1 = true := by decide +kernel
theorem yk1437 : yver yx1437 ys1437.2.2.1 4000 = true := yverQ_ok (by decide +kernel)
theorem yt1437 {E : zHp → Prop} (h : yEF E yFP) : yTs E 4 ys1437 := yver_s (k := 282) (n := 3) (x := yx1437) (P := ys1437.2.2.1) (f := 4000) h (yal_c (yt1345 h) (by decide) yw1345 (yal_c (yt1436 h) (by decide) yw1436 (yal_n))) yg282 yk1437
def ys1438 : ySp := (293, 3, (0, [], [], [], [(0, (0, yc 23, yc 0)), (1, (0, yc 31, yc 0)), (2, (7, yc 0, yc 0))], []), [(0, [], [], [], [], [(0, yc 23, yc 0)])], [])
def yx1438 : yCx := ([], ys1438.2.2.2.2, yFP, zm293.2.2.1, zm293.2.2.2.1, zc293, 0, ys1438.2.2.2.1, [], [])
theorem yw1438 : ywf ys1438.2.2.1 = true := by decide +kernel
theorem yk1438 : yver yx1438 ys1438.2.2.1 4000 = true := yverQ_ok (by decide +kernel)
theorem yt1438 {E : zHp → Prop} (h : yEF E yFP) : yTs E 1 ys1438 := yver_s (k := 293) (n := 0) (x := yx1438) (P := ys1438.2.2.1) (f := 4000) h (yal_n) yg293 yk1438
def ys1439 : ySp := (285, 2, (0, [], [], [], [(0, (0, yc 23, yc 0)), (1, (0, yc 31, yc 0))], []), [(0, [], [], [], [], [])], [])
def yx1439 : yCx := ([ys1438], ys1439.2.2.2.2, yFP, zm285.2.2.1, zm285.2.2.2.1, zc285, 0, ys1439.2.2.2.1, [], [])
theorem yw1439 : ywf ys1439.2.2.1 = true := by decide +kernel
theorem yk1439 : yver yx1439 ys1439.2.2.1 4000 = true := yverQ_ok (by decide +kernel)
theorem yt1439 {E : zHp → Prop} (h : yEF E yFP) : yTs E 2 ys1439 := yver_s (k := 285) (n := 1) (x := yx1439) (P := ys1439.2.2.1) (f := 4000) h (yal_c (yt1438 h) (by decide) yw1438 (yal_n)) yg285 yk1439
def ys1440 : ySp := (286, 2, (0, [], [], [], [(0, (2, yc 1020, yc 0)), (1, (0, yc 23, yc 0))], []), [(0, [], [], [], [], [(0, yc 32, yc 0)])], [])
def yx1440 : yCx := ([ys1439], ys1440.2.2.2.2, yFP, zm286.2.2.1, zm286.2.2.2.1, zc286, 0, ys1440.2.2.2.1, [], [])
theorem yw1440 : ywf ys1440.2.2.1 = true := by decide +kernel
theorem yk1440 : yver yx1440 ys1440.2.2.1 4000 = true := yverQ_ok (by decide +kernel)
theorem yt1440 {E : zHp → Prop} (h : yEF E yFP) : yTs E 3 ys1440 := yver_s (k := 286) (n := 2) (x := yx1440) (P := ys1440.2.2.1) (f := 4000) h (yal_c (yt1439 h) (by decide) yw1439 (yal_n)) yg286 yk1440
def ys1441 : ySp := (282, 2, (0, [], [], [], [(0, (2, yc 1001, yc 0)), (1, (0, yc 23, yc 0))], []), [(0, [], [], [], [], [(0, yc 32, yc 0)])], [])
def yx1441 : yCx := ([ys1345, ys1440], ys1441.2.2.2.2, yFP, zm282.2.2.1, zm282.2.2.2.1, zc282, 0, ys1441.2.2.2.1, [], [])
theorem yw1441 : ywf ys1441.2.2.1 = true := by decide +kernel
theorem yk1441 : yver yx1441 ys1441.2.2.1 4000 = true := yverQ_ok (by decide +kernel)
theorem yt1441 {E : zHp → Prop} (h : yEF E yFP) : yTs E 4 ys1441 := yver_s (k := 282) (n := 3) (x := yx1441) (P := ys1441.2.2.1) (f := 4000) h (yal_c (yt1345 h) (by decide) yw1345 (yal_c (yt1440 h) (by decide) yw1440 (yal_n))) yg282 yk1441
def ys1442 : ySp := (293, 3, (0, [], [], [], [(0, (0, yc 24, yc 0)), (1, (0, yc 31, yc 0)), (2, (7, yc 0, yc 0))], []), [(0, [], [], [], [], [(0, yc 24, yc 0)])], [])
def yx1442 : yCx := ([], ys1442.2.2.2.2, yFP, zm293.2.2.1, zm293.2.2.2.1, zc293, 0, ys1442.2.2.2.1, [], [])
theorem yw1442 : ywf ys1442.2.2.1 = true := by decide +kernel
theorem yk1442 : yver yx1442 ys1442.2.2.1 4000 = true := yverQ_ok (by decide +kernel)
theorem yt1442 {E : zHp → Prop} (h : yEF E yFP) : yTs E 1 ys1442 := yver_s (k := 293) (n := 0) (x := yx1442) (P := ys1442.2.2.1) (f := 4000) h (yal_n) yg293 yk1442
def ys1443 : ySp := (285, 2, (0, [], [], [], [(0, (0, yc 24, yc 0)), (1, (0, yc 31, yc 0))], []), [(0, [], [], [], [], [])], [])
def yx1443 : yCx := ([ys1442], ys1443.2.2.2.2, yFP, zm285.2.2.1, zm285.2.2.2.1, zc285, 0, ys1443.2.2.2.1, [], [])
theorem yw1443 : ywf ys1443.2.2.1 = true := by decide +kernel
theorem yk1443 : yver yx1443 ys1443.2.2.1 4000 = true := yverQ_ok (by decide +kernel)
theorem yt1443 {E : zHp → Prop} (h : yEF E yFP) : yTs E 2 ys1443 := yver_s (k := 285) (n := 1) (x := yx1443) (P := ys1443.2.2.1) (f := 4000) h (yal_c (yt1442 h) (by decide) yw1442 (yal_n)) yg285 yk1443
def ys1444 : ySp := (286, 2, (0, [], [], [], [(0, (2, yc 1020, yc 0)), (1, (0, yc 24, yc 0))], []), [(0, [], [], [], [], [(0, yc 116, yc 0)])], [])
def yx1444 : yCx := ([ys1443], ys1444.2.2.2.2, yFP, zm286.2.2.1, zm286.2.2.2.1, zc286, 0, ys1444.2.2.2.1, [], [])
theorem yw1444 : ywf ys1444.2.2.1 = true := by decide +kernel
theorem yk1444 : yver yx1444 ys1444.2.2.1 4000 = true := yverQ_ok (by decide +kernel)
theorem yt1444 {E : zHp → Prop} (h : yEF E yFP) : yTs E 3 ys1444 := yver_s (k := 286) (n := 2) (x := yx1444) (P := ys1444.2.2.1) (f := 4000) h (yal_c (yt1443 h) (by decide) yw1443 (yal_n)) yg286 yk1444
def ys1445 : ySp := (282, 2, (0, [], [], [], [(0, (2, yc 1001, yc 0)), (1, (0, yc 24, yc 0))], []), [(0, [], [], [], [], [(0, yc 116, yc 0)])], [])
def yx1445 : yCx := ([ys1345, ys1444], ys1445.2.2.2.2, yFP, zm282.2.2.1, zm282.2.2.2.1, zc282, 0, ys1445.2.2.2.1, [], [])
theorem yw1445 : ywf ys1445.2.2.1 = true := by decide +kernel
theorem yk1445 : yver yx1445 ys1445.2.2.1 4000 = true := yverQ_ok (by decide +kernel)
theorem yt1445 {E : zHp → Prop} (h : yEF E yFP) : yTs E 4 ys1445 := yver_s (k := 282) (n := 3) (x := yx1445) (P := ys1445.2.2.1) (f := 4000) h (yal_c (yt1345 h) (by decide) yw1345 (yal_c (yt1444 h) (by decide) yw1444 (yal_n))) yg282 yk1445
def ys1446 : ySp := (293, 3, (0, [], [], [], [(0, (0, yc 25, yc 0)), (1, (0, yc 31, yc 0)), (2, (7, yc 0, yc 0))], []), [(0, [], [], [], [], [(0, yc 25, yc 0)])], [])
def yx1446 : yCx := ([], ys1446.2.2.2.2, yFP, zm293.2.2.1, zm293.2.2.2.1, zc293, 0, ys1446.2.2.2.1, [], [])
theorem yw1446 : ywf ys1446.2.2.1 = true := by decide +kernel
theorem yk1446 : yver yx1446 ys1446.2.2.1 4000 = true := yverQ_ok (by decide +kernel)
theorem yt1446 {E : zHp → Prop} (h : yEF E yFP) : yTs E 1 ys1446 := yver_s (k := 293) (n := 0) (x := yx1446) (P := ys1446.2.2.1) (f := 4000) h (yal_n) yg293 yk1446
def ys1447 : ySp := (285, 2, (0, [], [], [], [(0, (0, yc 25, yc 0)), (1, (0, yc 31, yc 0))], []), [(0, [], [], [], [], [])], [])
def yx1447 : yCx := ([ys1446], ys1447.2.2.2.2, yFP, zm285.2.2.1, zm285.2.2.2.1, zc285, 0, ys1447.2.2.2.1, [], [])
theorem yw1447 : ywf ys1447.2.2.1 = true := by decide +kernel
theorem yk1447 : yver yx1447 ys1447.2.2.1 4000 = true := yverQ_ok (by decide +kernel)
theorem yt1447 {E : zHp → Prop} (h : yEF E yFP) : yTs E 2 ys1447 := yver_s (k := 285) (n := 1) (x := yx1447) (P := ys1447.2.2.1) (f := 4000) h (yal_c (yt1446 h) (by decide) yw1446 (yal_n)) yg285 yk1447
def ys1448 : ySp := (286, 2, (0, [], [], [], [(0, (2, yc 1020, yc 0)), (1, (0, yc 25, yc 0))], []), [(0, [], [], [], [], [(0, yc 104, yc 0)])], [])
def yx1448 : yCx := ([ys1447], ys1448.2.2.2.2, yFP, zm286.2.2.1, zm286.2.2.2.1, zc286, 0, ys1448.2.2.2.1, [], [])
theorem yw1448 : ywf ys1448.2.2.1 = true := by decide +kernel
theorem yk1448 : yver yx1448 ys1448.2.2.1 4000 = true := yverQ_ok (by decide +kernel)
theorem yt1448 {E : zHp → Prop} (h : yEF E yFP) : yTs E 3 ys1448 := yver_s (k := 286) (n := 2) (x := yx1448) (P := ys1448.2.2.1) (f := 4000) h (yal_c (yt1447 h) (by decide) yw1447 (yal_n)) yg286 yk1448
def ys1449 : ySp := (282, 2, (0, [], [], [], [(0, (2, yc 1001, yc 0)), (1, (0, yc 25, yc 0))], []), [(0, [], [], [], [], [(0, yc 104, yc 0)])], [])
def yx1449 : yCx := ([ys1345, ys1448], ys1449.2.2.2.2, yFP, zm282.2.2.1, zm282.2.2.2.1, zc282, 0, ys1449.2.2.2.1, [], [])
theorem yw1449 : ywf ys1449.2.2.1 = true := by decide +kernel
theorem yk1449 : yver yx1449 ys1449.2.2.1 4000 = true := yverQ_ok (by decide +kernel)
theorem yt1449 {E : zHp → Prop} (h : yEF E yFP) : yTs E 4 ys1449 := yver_s (k := 282) (n := 3) (x := yx1449) (P := ys1449.2.2.1) (f := 4000) h (yal_c (yt1345 h) (by decide) yw1345 (yal_c (yt1448 h) (by decide) yw1448 (yal_n))) yg282 yk1449
def ys1450 : ySp := (293, 3, (0, [], [], [], [(0, (0, yc 26, yc 0)), (1, (0, yc 31, yc 0)), (2, (7, yc 0, yc 0))], []), [(0, [], [], [], [], [(0, yc 26, yc 0)])], [])
def yx1450 : yCx := ([], ys1450.2.2.2.2, yFP, zm293.2.2.1, zm293.2.2.2.1, zc293, 0, ys1450.2.2.2.1, [], [])
theorem yw1450 : ywf ys1450.2.2.1 = true := by decide +kernel
theorem yk1450 : yver yx1450 ys1450.2.2.1 4000 = true := yverQ_ok (by decide +kernel)
theorem yt1450 {E : zHp → Prop} (h : yEF E yFP) : yTs E 1 ys1450 := yver_s (k := 293) (n := 0) (x := yx1450) (P := ys1450.2.2.1) (f := 4000) h (yal_n) yg293 yk1450
def ys1451 : ySp := (285, 2, (0, [], [], [], [(0, (0, yc 26, yc 0)), (1, (0, yc 31, yc 0))], []), [(0, [], [], [], [], [])], [])
def yx1451 : yCx := ([ys1450], ys1451.2.2.2.2, yFP, zm285.2.2.1, zm285.2.2.2.1, zc285, 0, ys1451.2.2.2.1, [], [])
theorem yw1451 : ywf ys1451.2.2.1 = true := by decide +kernel
theorem yk1451 : yver yx1451 ys1451.2.2.1 4000 = true := yverQ_ok (by decide +kernel)
theorem yt1451 {E : zHp → Prop} (h : yEF E yFP) : yTs E 2 ys1451 := yver_s (k := 285) (n := 1) (x := yx1451) (P := ys1451.2.2.1) (f := 4000) h (yal_c (yt1450 h) (by decide) yw1450 (yal_n)) yg285 yk1451
def ys1452 : ySp := (286, 2, (0, [], [], [], [(0, (2, yc 1020, yc 0)), (1, (0, yc 26, yc 0))], []), [(0, [], [], [], [], [(0, yc 97, yc 0)])], [])
def yx1452 : yCx := ([ys1451], ys1452.2.2.2.2, yFP, zm286.2.2.1, zm286.2.2.2.1, zc286, 0, ys1452.2.2.2.1, [], [])
theorem yw1452 : ywf ys1452.2.2.1 = true := by decide +kernel
theorem yk1452 : yver yx1452 ys1452.2.2.1 4000 = true := yverQ_ok (by decide +kernel)
theorem yt1452 {E : zHp → Prop} (h : yEF E yFP) : yTs E 3 ys1452 := yver_s (k := 286) (n := 2) (x := yx1452) (P := ys1452.2.2.1) (f := 4000) h (yal_c (yt1451 h) (by decide) yw1451 (yal_n)) yg286 yk1452
def ys1453 : ySp := (282, 2, (0, [], [], [], [(0, (2, yc 1001, yc 0)), (1, (0, yc 26, yc 0))], []), [(0, [], [], [], [], [(0, yc 97, yc 0)])], [])
def yx1453 : yCx := ([ys1345, ys1452], ys1453.2.2.2.2, yFP, zm282.2.2.1, zm282.2.2.2.1, zc282, 0, ys1453.2.2.2.1, [], [])
theorem yw1453 : ywf ys1453.2.2.1 = true := by decide +kernel
theorem yk1453 : yver yx1453 ys1453.2.2.1 4000 = true := yverQ_ok (by decide +kernel)
theorem yt1453 {E : zHp → Prop} (h : yEF E yFP) : yTs E 4 ys1453 := yver_s (k := 282) (n := 3) (x := yx1453) (P := ys1453.2.2.1) (f := 4000) h (yal_c (yt1345 h) (by decide) yw1345 (yal_c (yt1452 h) (by decide) yw1452 (yal_n))) yg282 yk1453
def ys1454 : ySp := (293, 3, (0, [], [], [], [(0, (0, yc 27, yc 0)), (1, (0, yc 31, yc 0)), (2, (7, yc 0, yc 0))], []), [(0, [], [], [], [], [(0, yc 27, yc 0)])], [])
def yx1454 : yCx := ([], ys1454.2.2.2.2, yFP, zm293.2.2.1, zm293.2.2.2.1, zc293, 0, ys1454.2.2.2.1, [], [])
theorem yw1454 : ywf ys1454.2.2.1 = true := by decide +kernel
theorem yk1454 : yver yx1454 ys1454.2.2.1 4000 = true := yverQ_ok (by decide +kernel)
theorem yt1454 {E : zHp → Prop} (h : yEF E yFP) : yTs E 1 ys1454 := yver_s (k := 293) (n := 0) (x := yx1454) (P := ys1454.2.2.1) (f := 4000) h (yal_n) yg293 yk1454
def ys1455 : ySp := (285, 2, (0, [], [], [], [(0, (0, yc 27, yc 0)), (1, (0, yc 31, yc 0))], []), [(0, [], [], [], [], [])], [])
def yx1455 : yCx := ([ys1454], ys1455.2.2.2.2, yFP, zm285.2.2.1, zm285.2.2.2.1, zc285, 0, ys1455.2.2.2.1, [], [])
theorem yw1455 : ywf ys1455.2.2.1 = true := by decide +kernel
theorem yk1455 : yver yx1455 ys1455.2.2.1 4000 = true := yverQ_ok (by decide +kernel)
theorem yt1455 {E : zHp → Prop} (h : yEF E yFP) : yTs E 2 ys1455 := yver_s (k := 285) (n := 1) (x := yx1455) (P := ys1455.2.2.1) (f := 4000) h (yal_c (yt1454 h) (by decide) yw1454 (yal_n)) yg285 yk1455
def ys1456 : ySp := (286, 2, (0, [], [], [], [(0, (2, yc 1020, yc 0)), (1, (0, yc 27, yc 0))], []), [(0, [], [], [], [], [(0, yc 110, yc 0)])], [])
def yx1456 : yCx := ([ys1455], ys1456.2.2.2.2, yFP, zm286.2.2.1, zm286.2.2.2.1, zc286, 0, ys1456.2.2.2.1, [], [])
theorem yw1456 : ywf ys1456.2.2.1 = true := by decide +kernel
theorem yk1456 : yver yx1456 ys1456.2.2.1 4000 = true := yverQ_ok (by decide +kernel)
theorem yt1456 {E : zHp → Prop} (h : yEF E yFP) : yTs E 3 ys1456 := yver_s (k := 286) (n := 2) (x := yx1456) (P := ys1456.2.2.1) (f := 4000) h (yal_c (yt1455 h) (by decide) yw1455 (yal_n)) yg286 yk1456
def ys1457 : ySp := (282, 2, (0, [], [], [], [(0, (2, yc 1001, yc 0)), (1, (0, yc 27, yc 0))], []), [(0, [], [], [], [], [(0, yc 110, yc 0)])], [])
def yx1457 : yCx := ([ys1345, ys1456], ys1457.2.2.2.2, yFP, zm282.2.2.1, zm282.2.2.2.1, zc282, 0, ys1457.2.2.2.1, [], [])
theorem yw1457 : ywf ys1457.2.2.1 = true := by decide +kernel
theorem yk1457 : yver yx1457 ys1457.2.2.1 4000 = true := yverQ_ok (by decide +kernel)
theorem yt1457 {E : zHp → Prop} (h : yEF E yFP) : yTs E 4 ys1457 := yver_s (k := 282) (n := 3) (x := yx1457) (P := ys1457.2.2.1) (f := 4000) h (yal_c (yt1345 h) (by decide) yw1345 (yal_c (yt1456 h) (by decide) yw1456 (yal_n))) yg282 yk1457
def ys1458 : ySp := (293, 3, (0, [], [], [], [(0, (0, yc 28, yc 0)), (1, (0, yc 31, yc 0)), (2, (7, yc 0, yc 0))], []), [(0, [], [], [], [], [(0, yc 28, yc 0)])], [])
def yx1458 : yCx := ([], ys1458.2.2.2.2, yFP, zm293.2.2.1, zm293.2.2.2.1, zc293, 0, ys1458.2.2.2.1, [], [])
theorem yw1458 : ywf ys1458.2.2.1 = true := by decide +kernel
theorem yk1458 : yver yx1458 ys1458.2.2.1 4000 = true := yverQ_ok (by decide +kernel)
theorem yt1458 {E : zHp → Prop} (h : yEF E yFP) : yTs E 1 ys1458 := yver_s (k := 293) (n := 0) (x := yx1458) (P := ys1458.2.2.1) (f := 4000) h (yal_n) yg293 yk1458
def ys1459 : ySp := (285, 2, (0, [], [], [], [(0, (0, yc 28, yc 0)), (1, (0, yc 31, yc 0))], []), [(0, [], [], [], [], [])], [])
def yx1459 : yCx := ([ys1458], ys1459.2.2.2.2, yFP, zm285.2.2.1, zm285.2.2.2.1, zc285, 0, ys1459.2.2.2.1, [], [])
theorem yw1459 : ywf ys1459.2.2.1 = true := by decide +kernel
theorem yk1459 : yver yx1459 ys1459.2.2.1 4000 = true := yverQ_ok (by decide +kernel)
theorem yt1459 {E : zHp → Prop} (h : yEF E yFP) : yTs E 2 ys1459 := yver_s (k := 285) (n := 1) (x := yx1459) (P := ys1459.2.2.1) (f := 4000) h (yal_c (yt1458 h) (by decide) yw1458 (yal_n)) yg285 yk1459
def ys1460 : ySp := (286, 2, (0, [], [], [], [(0, (2, yc 1020, yc 0)), (1, (0, yc 28, yc 0))], []), [(0, [], [], [], [], [(0, yc 107, yc 0)])], [])
def yx1460 : yCx := ([ys1459], ys1460.2.2.2.2, yFP, zm286.2.2.1, zm286.2.2.2.1, zc286, 0, ys1460.2.2.2.1, [], [])
theorem yw1460 : ywf ys1460.2.2.1 = true := by decide +kernel
theorem yk1460 : yver yx1460 ys1460.2.2.1 4000 = true := yverQ_ok (by decide +kernel)
theorem yt1460 {E : zHp → Prop} (h : yEF E yFP) : yTs E 3 ys1460 := yver_s (k := 286) (n := 2) (x := yx1460) (P := ys1460.2.2.1) (f := 4000) h (yal_c (yt1459 h) (by decide) yw1459 (yal_n)) yg286 yk1460
def ys1461 : ySp := (282, 2, (0, [], [], [], [(0, (2, yc 1001, yc 0)), (1, (0, yc 28, yc 0))], []), [(0, [], [], [], [], [(0, yc 107, yc 0)])], [])
def yx1461 : yCx := ([ys1345, ys1460], ys1461.2.2.2.2, yFP, zm282.2.2.1, zm282.2.2.2.1, zc282, 0, ys1461.2.2.2.1, [], [])
theorem yw1461 : ywf ys1461.2.2.1 = true := by decide +kernel
theorem yk1461 : yver yx1461 ys1461.2.2.1 4000 = true := yverQ_ok (by decide +kernel)
theorem yt1461 {E : zHp → Prop} (h : yEF E yFP) : yTs E 4 ys1461 := yver_s (k := 282) (n := 3) (x := yx1461) (P := ys1461.2.2.1) (f := 4000) h (yal_c (yt1345 h) (by decide) yw1345 (yal_c (yt1460 h) (by decide) yw1460 (yal_n))) yg282 yk1461
def ys1462 : ySp := (293, 3, (0, [], [], [], [(0, (0, yc 29, yc 0)), (1, (0, yc 31, yc 0)), (2, (7, yc 0, yc 0))], []), [(0, [], [], [], [], [(0, yc 29, yc 0)])], [])
def yx1462 : yCx := ([], ys1462.2.2.2.2, yFP, zm293.2.2.1, zm293.2.2.2.1, zc293, 0, ys1462.2.2.2.1, [], [])
theorem yw1462 : ywf ys1462.2.2.1 = true := by decide +kernel
theorem yk1462 : yver yx1462 ys1462.2.2.1 4000 = true := yverQ_ok (by decide +kernel)
theorem yt1462 {E : zHp → Prop} (h : yEF E yFP) : yTs E 1 ys1462 := yver_s (k := 293) (n := 0) (x := yx1462) (P := ys1462.2.2.1) (f := 4000) h (yal_n) yg293 yk1462
def ys1463 : ySp := (285, 2, (0, [], [], [], [(0, (0, yc 29, yc 0)), (1, (0, yc 31, yc 0))], []), [(0, [], [], [], [], [])], [])
def yx1463 : yCx := ([ys1462], ys1463.2.2.2.2, yFP, zm285.2.2.1, zm285.2.2.2.1, zc285, 0, ys1463.2.2.2.1, [], [])
theorem yw1463 : ywf ys1463.2.2.1 = true := by decide +kernel
theorem yk1463 : yver yx1463 ys1463.2.2.1 4000 = true := yverQ_ok (by decide +kernel)
theorem yt1463 {E : zHp → Prop} (h : yEF E yFP) : yTs E 2 ys1463 := yver_s (k := 285) (n := 1) (x := yx1463) (P := ys1463.2.2.1) (f := 4000) h (yal_c (yt1462 h) (by decide) yw1462 (yal_n)) yg285 yk1463
def ys1464 : ySp := (286, 2, (0, [], [], [], [(0, (2, yc 1020, yc 0)), (1, (0, yc 29, yc 0))], []), [(0, [], [], [], [], [(0, yc 115, yc 0)])], [])
def yx1464 : yCx := ([ys1463], ys1464.2.2.2.2, yFP, zm286.2.2.1, zm286.2.2.2.1, zc286, 0, ys1464.2.2.2.1, [], [])
theorem yw1464 : ywf ys1464.2.2.1 = true := by decide +kernel
theorem yk1464 : yver yx1464 ys1464.2.2.1 4000 = true := yverQ_ok (by decide +kernel)
theorem yt1464 {E : zHp → Prop} (h : yEF E yFP) : yTs E 3 ys1464 := yver_s (k := 286) (n := 2) (x := yx1464) (P := ys1464.2.2.1) (f := 4000) h (yal_c (yt1463 h) (by decide) yw1463 (yal_n)) yg286 yk1464
def ys1465 : ySp := (282, 2, (0, [], [], [], [(0, (2, yc 1001, yc 0)), (1, (0, yc 29, yc 0))], []), [(0, [], [], [], [], [(0, yc 115, yc 0)])], [])
def yx1465 : yCx := ([ys1345, ys1464], ys1465.2.2.2.2, yFP, zm282.2.2.1, zm282.2.2.2.1, zc282, 0, ys1465.2.2.2.1, [], [])
theorem yw1465 : ywf ys1465.2.2.1 = true := by decide +kernel
theorem yk1465 : yver yx1465 ys1465.2.2.1 4000 = true := yverQ_ok (by decide +kernel)
theorem yt1465 {E : zHp → Prop} (h : yEF E yFP) : yTs E 4 ys1465 := yver_s (k := 282) (n := 3) (x := yx1465) (P := ys1465.2.2.1) (f := 4000) h (yal_c (yt1345 h) (by decide) yw1345 (yal_c (yt1464 h) (by decide) yw1464 (yal_n))) yg282 yk1465
def ys1466 : ySp := (293, 3, (0, [], [], [], [(0, (0, yc 30, yc 0)), (1, (0, yc 31, yc 0)), (2, (7, yc 0, yc 0))], []), [(0, [], [], [], [], [(0, yc 30, yc 0)])], [])
def yx1466 : yCx := ([], ys1466.2.2.2.2, yFP, zm293.2.2.1, zm293.2.2.2.1, zc293, 0, ys1466.2.2.2.1, [], [])
theorem yw1466 : ywf ys1466.2.2.1 = true := by decide +kernel
theorem yk1466 : yver yx1466 ys1466.2.2.1 4000 = true := yverQ_ok (by decide +kernel)
theorem yt1466 {E : zHp → Prop} (h : yEF E yFP) : yTs E 1 ys1466 := yver_s (k := 293) (n := 0) (x := yx1466) (P := ys1466.2.2.1) (f := 4000) h (yal_n) yg293 yk1466
def ys1467 : ySp := (285, 2, (0, [], [], [], [(0, (0, yc 30, yc 0)), (1, (0, yc 31, yc 0))], []), [(0, [], [], [], [], [])], [])
def yx1467 : yCx := ([ys1466], ys1467.2.2.2.2, yFP, zm285.2.2.1, zm285.2.2.2.1, zc285, 0, ys1467.2.2.2.1, [], [])
theorem yw1467 : ywf ys1467.2.2.1 = true := by decide +kernel
theorem yk1467 : yver yx1467 ys1467.2.2.1 4000 = true := yverQ_ok (by decide +kernel)
theorem yt1467 {E : zHp → Prop} (h : yEF E yFP) : yTs E 2 ys1467 := yver_s (k := 285) (n := 1) (x := yx1467) (P := ys1467.2.2.1) (f := 4000) h (yal_c (yt1466 h) (by decide) yw1466 (yal_n)) yg285 yk1467
def ys1468 : ySp := (286, 2, (0, [], [], [], [(0, (2, yc 1020, yc 0)), (1, (0, yc 30, yc 0))], []), [(0, [], [], [], [], [(0, yc 32, yc 0)])], [])
def yx1468 : yCx := ([ys1467], ys1468.2.2.2.2, yFP, zm286.2.2.1, zm286.2.2.2.1, zc286, 0, ys1468.2.2.2.1, [], [])
theorem yw1468 : ywf ys1468.2.2.1 = true := by decide +kernel
theorem yk1468 : yver yx1468 ys1468.2.2.1 4000 = true := yverQ_ok (by decide +kernel)
theorem yt1468 {E : zHp → Prop} (h : yEF E yFP) : yTs E 3 ys1468 := yver_s (k := 286) (n := 2) (x := yx1468) (P := ys1468.2.2.1) (f := 4000) h (yal_c (yt1467 h) (by decide) yw1467 (yal_n)) yg286 yk1468
def ys1469 : ySp := (282, 2, (0, [], [], [], [(0, (2, yc 1001, yc 0)), (1, (0, yc 30, yc 0))], []), [(0, [], [], [], [], [(0, yc 32, yc 0)])], [])
def yx1469 : yCx := ([ys1345, ys1468], ys1469.2.2.2.2, yFP, zm282.2.2.1, zm282.2.2.2.1, zc282, 0, ys1469.2.2.2.1, [], [])
theorem yw1469 : ywf ys1469.2.2.1 = true := by decide +kernel
theorem yk1469 : yver yx1469 ys1469.2.2.1 4000 = true := yverQ_ok (by decide +kernel)
theorem yt1469 {E : zHp → Prop} (h : yEF E yFP) : yTs E 4 ys1469 := yver_s (k := 282) (n := 3) (x := yx1469) (P := ys1469.2.2.1) (f := 4000) h (yal_c (yt1345 h) (by decide) yw1345 (yal_c (yt1468 h) (by decide) yw1468 (yal_n))) yg282 yk1469
end
