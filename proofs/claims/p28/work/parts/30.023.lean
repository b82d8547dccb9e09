def ys1212 : ySp := (282, 2, (0, [], [], [], [(0, (2, yc 1001, yc 0)), (1, (0, yc 4, yc 0))], []), [(0, [], [], [], [], [(0, yc 97, yc 0)])], [])
def yx1212 : yCx := ([ys1192, ys1211], ys1212.2.2.2.2, yFP, zm282.2.2.1, zm282.2.2.2.1, zc282, 0, ys1212.2.2.2.1, [], [])
theorem yw1212 : ywf ys1212.2.2.1 = true := by decide +kernel
theorem yk1212 : yver yx1212 ys1212.2.2.1 4000 = true := by decide +kernel
theorem yt1212 {E : zHp → Prop} (h : yEF E yFP) : yTs E 4 ys1212 := yver_s (x := yx1212) h (yal_c (yt1192 h) (by decide) yw1192 (yal_c (yt1211 h) (by decide) yw1211 (yal_n))) yg282 yk1212
def ys1213 : ySp := (293, 3, (0, [], [], [], [(0, (0, yc 5, yc 0)), (1, (0, yc 31, yc 0)), (2, (7, yc 0, yc 0))], []), [(0, [], [], [], [], [(0, yc 5, yc 0)])], [])
def yx1213 : yCx := ([], ys1213.2.2.2.2, yFP, zm293.2.2.1, zm293.2.2.2.1, zc293, 0, ys1213.2.2.2.1, [], [])
theorem yw1213 : ywf ys1213.2.2.1 = true := by decide +kernel
theorem yk1213 : yver yx1213 ys1213.2.2.1 4000 = true := by decide +kernel
theorem yt1213 {E : zHp → Prop} (h : yEF E yFP) : yTs E 1 ys1213 := yver_s (x := yx1213) h (yal_n) yg293 yk1213
def ys1214 : ySp := (285, 2, (0, [], [], [], [(0, (0, yc 5, yc 0)), (1, (0, yc 31, yc 0))], []), [(0, [], [], [], [], [])], [])
def yx1214 : yCx := ([ys1213], ys1214.2.2.2.2, yFP, zm285.2.2.1, zm285.2.2.2.1, zc285, 0, ys1214.2.2.2.1, [], [])
theorem yw1214 : ywf ys1214.2.2.1 = true := by decide +kernel
theorem yk1214 : yver yx1214 ys1214.2.2.1 4000 = true := by decide +kernel
theorem yt1214 {E : zHp → Prop} (h : yEF E yFP) : yTs E 2 ys1214 := yver_s (x := yx1214) h (yal_c (yt1213 h) (by decide) yw1213 (yal_n)) yg285 yk1214
def ys1215 : ySp := (286, 2, (0, [], [], [], [(0, (2, yc 1020, yc 0)), (1, (0, yc 5, yc 0))], []), [(0, [], [], [], [], [(0, yc 103, yc 0)])], [])
def yx1215 : yCx := ([ys1214], ys1215.2.2.2.2, yFP, zm286.2.2.1, zm286.2.2.2.1, zc286, 0, ys1215.2.2.2.1, [], [])
theorem yw1215 : ywf ys1215.2.2.1 = true := by decide +kernel
theorem yk1215 : yver yx1215 ys1215.2.2.1 4000 = true := by decide +kernel
theorem yt1215 {E : zHp → Prop} (h : yEF E yFP) : yTs E 3 ys1215 := yver_s (x := yx1215) h (yal_c (yt1214 h) (by decide) yw1214 (yal_n)) yg286 yk1215
def ys1216 : ySp := (282, 2, (0, [], [], [], [(0, (2, yc 1001, yc 0)), (1, (0, yc 5, yc 0))], []), [(0, [], [], [], [], [(0, yc 103, yc 0)])], [])
def yx1216 : yCx := ([ys1192, ys1215], ys1216.2.2.2.2, yFP, zm282.2.2.1, zm282.2.2.2.1, zc282, 0, ys1216.2.2.2.1, [], [])
theorem yw1216 : ywf ys1216.2.2.1 = true := by decide +kernel
theorem yk1216 : yver yx1216 ys1216.2.2.1 4000 = true := by decide +kernel
theorem yt1216 {E : zHp → Prop} (h : yEF E yFP) : yTs E 4 ys1216 := yver_s (x := yx1216) h (yal_c (yt1192 h) (by decide) yw1192 (yal_c (yt1215 h) (by decide) yw1215 (yal_n))) yg282 yk1216
def ys1217 : ySp := (293, 3, (0, [], [], [], [(0, (0, yc 6, yc 0)), (1, (0, yc 31, yc 0)), (2, (7, yc 0, yc 0))], []), [(0, [], [], [], [], [(0, yc 6, yc 0)])], [])
def yx1217 : yCx := ([], ys1217.2.2.2.2, yFP, zm293.2.2.1, zm293.2.2.2.1, zc293, 0, ys1217.2.2.2.1, [], [])
theorem yw1217 : ywf ys1217.2.2.1 = true := by decide +kernel
theorem yk1217 : yver yx1217 ys1217.2.2.1 4000 = true := by decide +kernel
theorem yt1217 {E : zHp → Prop} (h : yEF E yFP) : yTs E 1 ys1217 := yver_s (x := yx1217) h (yal_n) yg293 yk1217
def ys1218 : ySp := (285, 2, (0, [], [], [], [(0, (0, yc 6, yc 0)), (1, (0, yc 31, yc 0))], []), [(0, [], [], [], [], [])], [])
def yx1218 : yCx := ([ys1217], ys1218.2.2.2.2, yFP, zm285.2.2.1, zm285.2.2.2.1, zc285, 0, ys1218.2.2.2.1, [], [])
theorem yw1218 : ywf ys1218.2.2.1 = true := by decide +kernel
theorem yk1218 : yver yx1218 ys1218.2.2.1 4000 = true := by decide +kernel
theorem yt1218 {E : zHp → Prop} (h : yEF E yFP) : yTs E 2 ys1218 := yver_s (x := yx1218) h (yal_c (yt1217 h) (by decide) yw1217 (yal_n)) yg285 yk1218
def ys1219 : ySp := (286, 2, (0, [], [], [], [(0, (2, yc 1020, yc 0)), (1, (0, yc 6, yc 0))], []), [(0, [], [], [], [], [(0, yc 101, yc 0)])], [])
def yx1219 : yCx := ([ys1218], ys1219.2.2.2.2, yFP, zm286.2.2.1, zm286.2.2.2.1, zc286, 0, ys1219.2.2.2.1, [], [])
theorem yw1219 : ywf ys1219.2.2.1 = true := by decide +kernel
theorem yk1219 : yver yx1219 ys1219.2.2.1 4000 = true := by decide +kernel
theorem yt1219 {E : zHp → Prop} (h : yEF E yFP) : yTs E 3 ys1219 := yver_s (x := yx1219) h (yal_c (yt1218 h) (by decide) yw1218 (yal_n)) yg286 yk1219
def ys1220 : ySp := (282, 2, (0, [], [], [], [(0, (2, yc 1001, yc 0)), (1, (0, yc 6, yc 0))], []), [(0, [], [], [], [], [(0, yc 101, yc 0)])], [])
def yx1220 : yCx := ([ys1192, ys1219], ys1220.2.2.2.2, yFP, zm282.2.2.1, zm282.2.2.2.1, zc282, 0, ys1220.2.2.2.1, [], [])
theorem yw1220 : ywf ys1220.2.2.1 = true := by decide +kernel
theorem yk1220 : yver yx1220 ys1220.2.2.1 4000 = true := by decide +kernel
theorem yt1220 {E : zHp → Prop} (h : yEF E yFP) : yTs E 4 ys1220 := yver_s (x := yx1220) h (yal_c (yt1192 h) (by decide) yw1192 (yal_c (yt1219 h) (by decide) yw1219 (yal_n))) yg282 yk1220
def ys1221 : ySp := (293, 3, (0, [], [], [], [(0, (0, yc 7, yc 0)), (1, (0, yc 31, yc 0)), (2, (7, yc 0, yc 0))], []), [(0, [], [], [], [], [(0, yc 7, yc 0)])], [])
def yx1221 : yCx := ([], ys1221.2.2.2.2, yFP, zm293.2.2.1, zm293.2.2.2.1, zc293, 0, ys1221.2.2.2.1, [], [])
theorem yw1221 : ywf ys1221.2.2.1 = true := by decide +kernel
theorem yk1221 : yver yx1221 ys1221.2.2.1 4000 = true := by decide +kernel
theorem yt1221 {E : zHp → Prop} (h : yEF E yFP) : yTs E 1 ys1221 := yver_s (x := yx1221) h (yal_n) yg293 yk1221
def ys1222 : ySp := (285, 2, (0, [], [], [], [(0, (0, yc 7, yc 0)), (1, (0, yc 31, yc 0))], []), [(0, [], [], [], [], [])], [])
def yx1222 : yCx := ([ys1221], ys1222.2.2.2.2, yFP, zm285.2.2.1, zm285.2.2.2.1, zc285, 0, ys1222.2.2.2.1, [], [])
theorem yw1222 : ywf ys1222.2.2.1 = true := by decide +kernel
theorem yk1222 : yver yx1222 ys1222.2.2.1 4000 = true := by decide +kernel
theorem yt1222 {E : zHp → Prop} (h : yEF E yFP) : yTs E 2 ys1222 := yver_s (x := yx1222) h (yal_c (yt1221 h) (by decide) yw1221 (yal_n)) yg285 yk1222
def ys1223 : ySp := (286, 2, (0, [], [], [], [(0, (2, yc 1020, yc 0)), (1, (0, yc 7, yc 0))], []), [(0, [], [], [], [], [(0, yc 32, yc 0)])], [])
def yx1223 : yCx := ([ys1222], ys1223.2.2.2.2, yFP, zm286.2.2.1, zm286.2.2.2.1, zc286, 0, ys1223.2.2.2.1, [], [])
theorem yw1223 : ywf ys1223.2.2.1 = true := by decide +kernel
theorem yk1223 : yver yx1223 ys1223.2.2.1 4000 = true := by decide +kernel
theorem yt1223 {E : zHp → Prop} (h : yEF E yFP) : yTs E 3 ys1223 := yver_s (x := yx1223) h (yal_c (yt1222 h) (by decide) yw1222 (yal_n)) yg286 yk1223
def ys1224 : ySp := (282, 2, (0, [], [], [], [(0, (2, yc 1001, yc 0)), (1, (0, yc 7, yc 0))], []), [(0, [], [], [], [], [(0, yc 32, yc 0)])], [])
def yx1224 : yCx := ([ys1192, ys1223], ys1224.2.2.2.2, yFP, zm282.2.2.1, zm282.2.2.2.1, zc282, 0, ys1224.2.2.2.1, [], [])
theorem yw1224 : ywf ys1224.2.2.1 = true := by decide +kernel
theorem yk1224 : yver yx1224 ys1224.2.2.1 4000 = true := by decide +kernel
theorem yt1224 {E : zHp → Prop} (h : yEF E yFP) : yTs E 4 ys1224 := yver_s (x := yx1224) h (yal_c (yt1192 h) (by decide) yw1192 (yal_c (yt1223 h) (by decide) yw1223 (yal_n))) yg282 yk1224
def ys1225 : ySp := (293, 3, (0, [], [], [], [(0, (0, yc 8, yc 0)), (1, (0, yc 31, yc 0)), (2, (7, yc 0, yc 0))], []), [(0, [], [], [], [], [(0, yc 8, yc 0)])], [])
def yx1225 : yCx := ([], ys1225.2.2.2.2, yFP, zm293.2.2.1, zm293.2.2.2.1, zc293, 0, ys1225.2.2.2.1, [], [])
theorem yw1225 : ywf ys1225.2.2.1 = true := by decide +kernel
theorem yk1225 : yver yx1225 ys1225.2.2.1 4000 = true := by decide +kernel
theorem yt1225 {E : zHp → Prop} (h : yEF E yFP) : yTs E 1 ys1225 := yver_s (x := yx1225) h (yal_n) yg293 yk1225
def ys1226 : ySp := (285, 2, (0, [], [], [], [(0, (0, yc 8, yc 0)), (1, (0, yc 31, yc 0))], []), [(0, [], [], [], [], [])], [])
def yx1226 : yCx := ([ys1225], ys1226.2.2.2.2, yFP, zm285.2.2.1, zm285.2.2.2.1, zc285, 0, ys1226.2.2.2.1, [], [])
theorem yw1226 : ywf ys1226.2.2.1 = true := by decide +kernel
theorem yk1226 : yver yx1226 ys1226.2.2.1 4000 = true := by decide +kernel
theorem yt1226 {E : zHp → Prop} (h : yEF E yFP) : yTs E 2 ys1226 := yver_s (x := yx1226) h (yal_c (yt1225 h) (by decide) yw1225 (yal_n)) yg285 yk1226
def ys1227 : ySp := (286, 2, (0, [], [], [], [(0, (2, yc 1020, yc 0)), (1, (0, yc 8, yc 0))], []), [(0, [], [], [], [], [(0, yc 116, yc 0)])], [])
def yx1227 : yCx := ([ys1226], ys1227.2.2.2.2, yFP, zm286.2.2.1, zm286.2.2.2.1, zc286, 0, ys1227.2.2.2.1, [], [])
theorem yw1227 : ywf ys1227.2.2.1 = true := by decide +kernel
theorem yk1227 : yver yx1227 ys1227.2.2.1 4000 = true := by decide +kernel
theorem yt1227 {E : zHp → Prop} (h : yEF E yFP) : yTs E 3 ys1227 := yver_s (x := yx1227) h (yal_c (yt1226 h) (by decide) yw1226 (yal_n)) yg286 yk1227
def ys1228 : ySp := (282, 2, (0, [], [], [], [(0, (2, yc 1001, yc 0)), (1, (0, yc 8, yc 0))], []), [(0, [], [], [], [], [(0, yc 116, yc 0)])], [])
def yx1228 : yCx := ([ys1192, ys1227], ys1228.2.2.2.2, yFP, zm282.2.2.1, zm282.2.2.2.1, zc282, 0, ys1228.2.2.2.1, [], [])
theorem yw1228 : ywf ys1228.2.2.1 = true := by decide +kernel
theorem yk1228 : yver yx1228 ys1228.2.2.1 4000 = true := by decide +kernel
theorem yt1228 {E : zHp → Prop} (h : yEF E yFP) : yTs E 4 ys1228 := yver_s (x := yx1228) h (yal_c (yt1192 h) (by decide) yw1192 (yal_c (yt1227 h) (by decide) yw1227 (yal_n))) yg282 yk1228
def ys1229 : ySp := (293, 3, (0, [], [], [], [(0, (0, yc 9, yc 0)), (1, (0, yc 31, yc 0)), (2, (7, yc 0, yc 0))], []), [(0, [], [], [], [], [(0, yc 9, yc 0)])], [])
def yx1229 : yCx := ([], ys1229.2.2.2.2, yFP, zm293.2.2.1, zm293.2.2.2.1, zc293, 0, ys1229.2.2.2.1, [], [])
theorem yw1229 : ywf ys1229.2.2.1 = true := by decide +kernel
theorem yk1229 : yver yx1229 ys1229.2.2.1 4000 = true := by decide +kernel
theorem yt1229 {E : zHp → Prop} (h : yEF E yFP) : yTs E 1 ys1229 := yver_s (x := yx1229) h (yal_n) yg293 yk1229
def ys1230 : ySp := (285, 2, (0, [], [], [], [(0, (0, yc 9, yc 0)), (1, (0, yc 31, yc 0))], []), [(0, [], [], [], [], [])], [])
def yx1230 : yCx := ([ys1229], ys1230.2.2.2.2, yFP, zm285.2.2.1, zm285.2.2.2.1, zc285, 0, ys1230.2.2.2.1, [], [])
theorem yw1230 : ywf ys1230.2.2.1 = true := by decide +kernel
theorem yk1230 : yver yx1230 ys1230.2.2.1 4000 = true := by decide +kernel
theorem yt1230 {E : zHp → Prop} (h : yEF E yFP) : yTs E 2 ys1230 := yver_s (x := yx1230) h (yal_c (yt1229 h) (by decide) yw1229 (yal_n)) yg285 yk1230
def ys1231 : ySp := (286, 2, (0, [], [], [], [(0, (2, yc 1020, yc 0)), (1, (0, yc 9, yc 0))], []), [(0, [], [], [], [], [(0, yc 111, yc 0)])], [])
def yx1231 : yCx := ([ys1230], ys1231.2.2.2.2, yFP, zm286.2.2.1, zm286.2.2.2.1, zc286, 0, ys1231.2.2.2.1, [], [])
theorem yw1231 : ywf ys1231.2.2.1 = true := by decide +kernel
theorem yk1231 : yver yx1231 ys1231.2.2.1 4000 = true := by decide +kernel
theorem yt1231 {E : zHp → Prop} (h : yEF E yFP) : yTs E 3 ys1231 := yver_s (x := yx1231) h (yal_c (yt1230 h) (by decide) yw1230 (yal_n)) yg286 yk1231
def ys1232 : ySp := (282, 2, (0, [], [], [], [(0, (2, yc 1001, yc 0)), (1, (0, yc 9, yc 0))], []), [(0, [], [], [], [], [(0, yc 111, yc 0)])], [])
def yx1232 : yCx := ([ys1192, ys1231], ys1232.2.2.2.2, yFP, zm282.2.2.1, zm282.2.2.2.1, zc282, 0, ys1232.2.2.2.1, [], [])
theorem yw1232 : ywf ys1232.2.2.1 = true := by decide +kernel
theorem yk1232 : yver yx1232 ys1232.2.2.1 4000 = true := by decide +kernel
theorem yt1232 {E : zHp → Prop} (h : yEF E yFP) : yTs E 4 ys1232 := yver_s (x := yx1232) h (yal_c (yt1192 h) (by decide) yw1192 (yal_c (yt1231 h) (by decide) yw1231 (yal_n))) yg282 yk1232
def ys1233 : ySp := (293, 3, (0, [], [], [], [(0, (0, yc 10, yc 0)), (1, (0, yc 31, yc 0)), (2, (7, yc 0, yc 0))], []), [(0, [], [], [], [], [(0, yc 10, yc 0)])], [])
def yx1233 : yCx := ([], ys1233.2.2.2.2, yFP, zm293.2.2.1, zm293.2.2.2.1, zc293, 0, ys1233.2.2.2.1, [], [])
theorem yw1233 : ywf ys1233.2.2.1 = true := by decide +kernel
theorem yk1233 : yver yx1233 ys1233.2.2.1 4000 = true := by decide +kernel
theorem yt1233 {E : zHp → Prop} (h : yEF E yFP) : yTs E 1 ys1233 := yver_s (x := yx1233) h (yal_n) yg293 yk1233
def ys1234 : ySp := (285, 2, (0, [], [], [], [(0, (0, yc 10, yc 0)), (1, (0, yc 31, yc 0))], []), [(0, [], [], [], [], [])], [])
def yx1234 : yCx := ([ys1233], ys1234.2.2.2.2, yFP, zm285.2.2.1, zm285.2.2.2.1, zc285, 0, ys1234.2.2.2.1, [], [])
theorem yw1234 : ywf ys1234.2.2.1 = true := by decide +kernel
theorem yk1234 : yver yx1234 ys1234.2.2.1 4000 = true := by decide +kernel
theorem yt1234 {E : zHp → Prop} (h : yEF E yFP) : yTs E 2 ys1234 := yver_s (x := yx1234) h (yal_c (yt1233 h) (by decide) yw1233 (yal_n)) yg285 yk1234
def ys1235 : ySp := (286, 2, (0, [], [], [], [(0, (2, yc 1020, yc 0)), (1, (0, yc 10, yc 0))], []), [(0, [], [], [], [], [(0, yc 111, yc 0)])], [])
def yx1235 : yCx := ([ys1234], ys1235.2.2.2.2, yFP, zm286.2.2.1, zm286.2.2.2.1, zc286, 0, ys1235.2.2.2.1, [], [])
theorem yw1235 : ywf ys1235.2.2.1 = true := by decide +kernel
theorem yk1235 : yver yx1235 ys1235.2.2.1 4000 = true := by decide +kernel
theorem yt1235 {E : zHp → Prop} (h : yEF E yFP) : yTs E 3 ys1235 := yver_s (x := yx1235) h (yal_c (yt1234 h) (by decide) yw1234 (yal_n)) yg286 yk1235
def ys1236 : ySp := (282, 2, (0, [], [], [], [(0, (2, yc 1001, yc 0)), (1, (0, yc 10, yc 0))], []), [(0, [], [], [], [], [(0, yc 111, yc 0)])], [])
def yx1236 : yCx := ([ys1192, ys1235], ys1236.2.2.2.2, yFP, zm282.2.2.1, zm282.2.2.2.1, zc282, 0, ys1236.2.2.2.1, [], [])
theorem yw1236 : ywf ys1236.2.2.1 = true := by decide +kernel
theorem yk1236 : yver yx1236 ys1236.2.2.1 4000 = true := by decide +kernel
theorem yt1236 {E : zHp → Prop} (h : yEF E yFP) : yTs E 4 ys1236 := yver_s (x := yx1236) h (yal_c (yt1192 h) (by decide) yw1192 (yal_c (yt1235 h) (by decide) yw1235 (yal_n))) yg282 yk1236
def ys1237 : ySp := (293, 3, (0, [], [], [], [(0, (0, yc 11, yc 0)), (1, (0, yc 31, yc 0)), (2, (7, yc 0, yc 0))], []), [(0, [], [], [], [], [(0, yc 11, yc 0)])], [])
def yx1237 : yCx := ([], ys1237.2.2.2.2, yFP, zm293.2.2.1, zm293.2.2.2.1, zc293, 0, ys1237.2.2.2.1, [], [])
theorem yw1237 : ywf ys1237.2.2.1 = true := by decide +kernel
theorem yk1237 : yver yx1237 ys1237.2.2.1 4000 = true := by decide +kernel
theorem yt1237 {E : zHp → Prop} (h : yEF E yFP) : yTs E 1 ys1237 := yver_s (x := yx1237) h (yal_n) yg293 yk1237
def ys1238 : ySp := (285, 2, (0, [], [], [], [(0, (0, yc 11, yc 0)), (1, (0, yc 31, yc 0))], []), [(0, [], [], [], [], [])], [])
def yx1238 : yCx := ([ys1237], ys1238.2.2.2.2, yFP, zm285.2.2.1, zm285.2.2.2.1, zc285, 0, ys1238.2.2.2.1, [], [])
theorem yw1238 : ywf ys1238.2.2.1 = true := by decide +kernel
theorem yk1238 : yver yx1238 ys1238.2.2.1 4000 = true := by decide +kernel
theorem yt1238 {E : zHp → Prop} (h : yEF E yFP) : yTs E 2 ys1238 := yver_s (x := yx1238) h (yal_c (yt1237 h) (by decide) yw1237 (yal_n)) yg285 yk1238
def ys1239 : ySp := (286, 2, (0, [], [], [], [(0, (2, yc 1020, yc 0)), (1, (0, yc 11, yc 0))], []), [(0, [], [], [], [], [(0, yc 108, yc 0)])], [])
def yx1239 : yCx := ([ys1238], ys1239.2.2.2.2, yFP, zm286.2.2.1, zm286.2.2.2.1, zc286, 0, ys1239.2.2.2.1, [], [])
theorem yw1239 : ywf ys1239.2.2.1 = true := by decide +kernel
theorem yk1239 : yver yx1239 ys1239.2.2.1 4000 = true := by decide +kernel
theorem yt1239 {E : zHp → Prop} (h : yEF E yFP) : yTs E 3 ys1239 := yver_s (x := yx1239) h (yal_c (yt1238 h) (by decide) yw1238 (yal_n)) yg286 yk1239
def ys1240 : ySp := (282, 2, (0, [], [], [], [(0, (2, yc 1001, yc 0)), (1, (0, yc 11, yc 0))], []), [(0, [], [], [], [], [(0, yc 108, yc 0)])], [])
def yx1240 : yCx := ([ys1192, ys1239], ys1240.2.2.2.2, yFP, zm282.2.2.1, zm282.2.2.2.1, zc282, 0, ys1240.2.2.2.1, [], [])
theorem yw1240 : ywf ys1240.2.2.1 = true := by decide +kernel
theorem yk1240 : yver yx1240 ys1240.2.2.1 4000 = true := by decide +kernel
theorem yt1240 {E : zHp → Prop} (h : yEF E yFP) : yTs E 4 ys1240 := yver_s (x := yx1240) h (yal_c (yt1192 h) (by decide) yw1192 (yal_c (yt1239 h) (by decide) yw1239 (yal_n))) yg282 yk1240
def ys1241 : ySp := (293, 3, (0, [], [], [], [(0, (0, yc 12, yc 0)), (1, (0, yc 31, yc 0)), (2, (7, yc 0, yc 0))], []), [(0, [], [], [], [], [(0, yc 12, yc 0)])], [])
def yx1241 : yCx := ([], ys1241.2.2.2.2, yFP, zm293.2.2.1, zm293.2.2.2.1, zc293, 0, ys1241.2.2.2.1, [], [])
theorem yw1241 : ywf ys1241.2.2.1 = true := by decide +kernel
theorem yk1241 : yver yx1241 ys1241.2.2.1 4000 = true := by decide +kernel
theorem yt1241 {E : zHp → Prop} (h : yEF E yFP) : yTs E 1 ys1241 := yver_s (x := yx1241) h (yal_n) yg293 yk1241
def ys1242 : ySp := (285, 2, (0, [], [], [], [(0, (0, yc 12, yc 0)), (1, (0, yc 31, yc 0))], []), [(0, [], [], [], [], [])], [])
def yx1242 : yCx := ([ys1241], ys1242.2.2.2.2, yFP, zm285.2.2.1, zm285.2.2.2.1, zc285, 0, ys1242.2.2.2.1, [], [])
theorem yw1242 : ywf ys1242.2.2.1 = true := by decide +kernel
theorem yk1242 : yver yx1242 ys1242.2.2.1 4000 = true := by decide +kernel
theorem yt1242 {E : zHp → Prop} (h : yEF E yFP) : yTs E 2 ys1242 := yver_s (x := yx1242) h (yal_c (yt1241 h) (by decide) yw1241 (yal_n)) yg285 yk1242
def ys1243 : ySp := (286, 2, (0, [], [], [], [(0, (2, yc 1020, yc 0)), (1, (0, yc 12, yc 0))], []), [(0, [], [], [], [], [(0, yc 32, yc 0)])], [])
def yx1243 : yCx := ([ys1242], ys1243.2.2.2.2, yFP, zm286.2.2.1, zm286.2.2.2.1, zc286, 0, ys1243.2.2.2.1, [], [])
theorem yw1243 : ywf ys1243.2.2.1 = true := by decide +kernel
theorem yk1243 : yver yx1243 ys1243.2.2.1 4000 = true := by decide +kernel
theorem yt1243 {E : zHp → Prop} (h : yEF E yFP) : yTs E 3 ys1243 := yver_s (x := yx1243) h (yal_c (yt1242 h) (by decide) yw1242 (yal_n)) yg286 yk1243
def ys1244 : ySp := (282, 2, (0, [], [], [], [(0, (2, yc 1001, yc 0)), (1, (0, yc 12, yc 0))], []), [(0, [], [], [], [], [(0, yc 32, yc 0)])], [])
def yx1244 : yCx := ([ys1192, ys1243], ys1244.2.2.2.2, yFP, zm282.2.2.1, zm282.2.2.2.1, zc282, 0, ys1244.2.2.2.1, [], [])
theorem yw1244 : ywf ys1244.2.2.1 = true := by decide +kernel
theorem yk1244 : yver yx1244 ys1244.2.2.1 4000 = true := by decide +kernel
theorem yt1244 {E : zHp → Prop} (h : yEF E yFP) : yTs E 4 ys1244 := yver_s (x := yx1244) h (yal_c (yt1192 h) (by decide) yw1192 (yal_c (yt1243 h) (by decide) yw1243 (yal_n))) yg282 yk1244
def ys1245 : ySp := (293, 3, (0, [], [], [], [(0, (0, yc 13, yc 0)), (1, (0, yc 31, yc 0)), (2, (7, yc 0, yc 0))], []), [(0, [], [], [], [], [(0, yc 13, yc 0)])], [])
def yx1245 : yCx := ([], ys1245.2.2.2.2, yFP, zm293.2.2.1, zm293.2.2.2.1, zc293, 0, ys1245.2.2.2.1, [], [])
theorem yw1245 : ywf ys1245.2.2.1 = true := by decide +kernel
theorem yk1245 : yver yx1245 ys1245.2.2.1 4000 = true := by decide +kernel
theorem yt1245 {E : zHp → Prop} (h : yEF E yFP) : yTs E 1 ys1245 := yver_s (x := yx1245) h (yal_n) yg293 yk1245
def ys1246 : ySp := (285, 2, (0, [], [], [], [(0, (0, yc 13, yc 0)), (1, (0, yc 31, yc 0))], []), [(0, [], [], [], [], [])], [])
def yx1246 : yCx := ([ys1245], ys1246.2.2.2.2, yFP, zm285.2.2.1, zm285.2.2.2.1, zc285, 0, ys1246.2.2.2.1, [], [])
theorem yw1246 : ywf ys1246.2.2.1 = true := by decide +kernel
theorem yk1246 : yver yx1246 ys1246.2.2.1 4000 = true := by decide +kernel
theorem yt1246 {E : zHp → Prop} (h : yEF E yFP) : yTs E 2 ys1246 := yver_s (x := yx1246) h (yal_c (yt1245 h) (by decide) yw1245 (yal_n)) yg285 yk1246
def ys1247 : ySp := (286, 2, (0, [], [], [], [(0, (2, yc 1020, yc 0)), (1, (0, yc 13, yc 0))], []), [(0, [], [], [], [], [(0, yc 116, yc 0)])], [])
def yx1247 : yCx := ([ys1246], ys1247.2.2.2.2, yFP, zm286.2.2.1, zm286.2.2.2.1, zc286, 0, ys1247.2.2.2.1, [], [])
theorem yw1247 : ywf ys1247.2.2.1 = true := by decide +kernel
theorem yk1247 : yver yx1247 ys1247.2.2.1 4000 = true := by decide +kernel
theorem yt1247 {E : zHp → Prop} (h : yEF E yFP) : yTs E 3 ys1247 := yver_s (x := yx1247) h (yal_c (yt1246 h) (by decide) yw1246 (yal_n)) yg286 yk1247
def ys1248 : ySp := (282, 2, (0, [], [], [], [(0, (2, yc 1001, yc 0)), (1, (0, yc 13, yc 0))], []), [(0, [], [], [], [], [(0, yc 116, yc 0)])], [])
def yx1248 : yCx := ([ys1192, ys1247], ys1248.2.2.2.2, yFP, zm282.2.2.1, zm282.2.2.2.1, zc282, 0, ys1248.2.2.2.1, [], [])
theorem yw1248 : ywf ys1248.2.2.1 = true := by decide +kernel
theorem yk1248 : yver yx1248 ys1248.2.2.1 4000 = true := by decide +kernel
theorem yt1248 {E : zHp → Prop} (h : yEF E yFP) : yTs E 4 ys1248 := yver_s (x := yx1248) h (yal_c (yt1192 h) (by decide) yw1192 (yal_c (yt1247 h) (by decide) yw1247 (yal_n))) yg282 yk1248
def ys1249 : ySp := (293, 3, (0, [], [], [], [(0, (0, yc 14, yc 0)), (1, (0, yc 31, yc 0)), (2, (7, yc 0, yc 0))], []), [(0, [], [], [], [], [(0, yc 14, yc 0)])], [])
def yx1249 : yCx := ([], ys1249.2.2.2.2, yFP, zm293.2.2.1, zm293.2.2.2.1, zc293, 0, ys1249.2.2.2.1, [], [])
theorem yw1249 : ywf ys1249.2.2.1 = true := by decide +kernel
theorem yk1249 : yver yx1249 ys1249.2.2.1 4000 = true := by decide +kernel
theorem yt1249 {E : zHp → Prop} (h : yEF E yFP) : yTs E 1 ys1249 := yver_s (x := yx1249) h (yal_n) yg293 yk1249
def ys1250 : ySp := (285, 2, (0, [], [], [], [(0, (0, yc 14, yc 0)), (1, (0, yc 31, yc 0))], []), [(0, [], [], [], [], [])], [])
def yx1250 : yCx := ([ys1249], ys1250.2.2.2.2, yFP, zm285.2.2.1, zm285.2.2.2.1, zc285, 0, ys1250.2.2.2.1, [], [])
theorem yw1250 : ywf ys1250.2.2.1 = true := by decide +kernel
theorem yk1250 : yver yx1250 ys1250.2.2.1 4000 = true := by decide +kernel
theorem yt1250 {E : zHp → Prop} (h : yEF E yFP) : yTs E 2 ys1250 := yver_s (x := yx1250) h (yal_c (yt1249 h) (by decide) yw1249 (yal_n)) yg285 yk1250
def ys1251 : ySp := (286, 2, (0, [], [], [], [(0, (2, yc 1020, yc 0)), (1, (0, yc 14, yc 0))], []), [(0, [], [], [], [], [(0, yc 114, yc 0)])], [])
def yx1251 : yCx := ([ys1250], ys1251.2.2.2.2, yFP, zm286.2.2.1, zm286.2.2.2.1, zc286, 0, ys1251.2.2.2.1, [], [])
theorem yw1251 : ywf ys1251.2.2.1 = true := by decide +kernel
theorem yk1251 : yver yx1251 ys1251.2.2.1 4000 = true := by decide +kernel
theorem yt1251 {E : zHp → Prop} (h : yEF E yFP) : yTs E 3 ys1251 := yver_s (x := yx1251) h (yal_c (yt1250 h) (by decide) yw1250 (yal_n)) yg286 yk1251
def ys1252 : ySp := (282, 2, (0, [], [], [], [(0, (2, yc 1001, yc 0)), (1, (0, yc 14, yc 0))], []), [(0, [], [], [], [], [(0, yc 114, yc 0)])], [])
def yx1252 : yCx := ([ys1192, ys1251], ys1252.2.2.2.2, yFP, zm282.2.2.1, zm282.2.2.2.1, zc282, 0, ys1252.2.2.2.1, [], [])
theorem yw1252 : ywf ys1252.2.2.1 = true := by decide +kernel
theorem yk1252 : yver yx1252 ys1252.2.2.1 4000 = true := by decide +kernel
theorem yt1252 {E : zHp → Prop} (h : yEF E yFP) : yTs E 4 ys1252 := yver_s (x := yx1252) h (yal_c (yt1192 h) (by decide) yw1192 (yal_c (yt1251 h) (by decide) yw1251 (yal_n))) yg282 yk1252
def ys1253 : ySp := (293, 3, (0, [], [], [], [(0, (0, yc 15, yc 0)), (1, (0, yc 31, yc 0)), (2, (7, yc 0, yc 0))], []), [(0, [], [], [], [], [(0, yc 15, yc 0)])], [])
def yx1253 : yCx := ([], ys1253.2.2.2.2, yFP, zm293.2.2.1, zm293.2.2.2.1, zc293, 0, ys1253.2.2.2.1, [], [])
theorem yw1253 : ywf ys1253.2.2.1 = true := by decide +kernel
theorem yk1253 : yver yx1253 ys1253.2.2.1 4000 = true := by decide +kernel
theorem yt1253 {E : zHp → Prop} (h : yEF E yFP) : yTs E 1 ys1253 := yver_s (x := yx1253) h (yal_n) yg293 yk1253
def ys1254 : ySp := (285, 2, (0, [], [], [], [(0, (0, yc 15, yc 0)), (1, (0, yc 31, yc 0))], []), [(0, [], [], [], [], [])], [])
def yx1254 : yCx := ([ys1253], ys1254.2.2.2.2, yFP, zm285.2.2.1, zm285.2.2.2.1, zc285, 0, ys1254.2.2.2.1, [], [])
theorem yw1254 : ywf ys1254.2.2.1 = true := by decide +kernel
theorem yk1254 : yver yx1254 ys1254.2.2.1 4000 = true := by decide +kernel
theorem yt1254 {E : zHp → Prop} (h : yEF E yFP) : yTs E 2 ys1254 := yver_s (x := yx1254) h (yal_c (yt1253 h) (by decide) yw1253 (yal_n)) yg285 yk1254
def ys1255 : ySp := (286, 2, (0, [], [], [], [(0, (2, yc 1020, yc 0)), (1, (0, yc 15, yc 0))], []), [(0, [], [], [], [], [(0, yc 117, yc 0)])], [])
def yx1255 : yCx := ([ys1254], ys1255.2.2.2.2, yFP, zm286.2.2.1, zm286.2.2.2.1, zc286, 0, ys1255.2.2.2.1, [], [])
theorem yw1255 : ywf ys1255.2.2.1 = true := by decide +kernel
theorem yk1255 : yver yx1255 ys1255.2.2.1 4000 = true := by decide +kernel
theorem yt1255 {E : zHp → Prop} (h : yEF E yFP) : yTs E 3 ys1255 := yver_s (x := yx1255) h (yal_c (yt1254 h) (by decide) yw1254 (yal_n)) yg286 yk1255
def ys1256 : ySp := (282, 2, (0, [], [], [], [(0, (2, yc 1001, yc 0)), (1, (0, yc 15, yc 0))], []), [(0, [], [], [], [], [(0, yc 117, yc 0)])], [])
def yx1256 : yCx := ([ys1192, ys1255], ys1256.2.2.2.2, yFP, zm282.2.2.1, zm282.2.2.2.1, zc282, 0, ys1256.2.2.2.1, [], [])
theorem yw1256 : ywf ys1256.2.2.1 = true := by decide +kernel
theorem yk1256 : yver yx1256 ys1256.2.2.1 4000 = true := by decide +kernel
theorem yt1256 {E : zHp → Prop} (h : yEF E yFP) : yTs E 4 ys1256 := yver_s (x := yx1256) h (yal_c (yt1192 h) (by decide) yw1192 (yal_c (yt1255 h) (by decide) yw1255 (yal_n))) yg282 yk1256
def ys1257 : ySp := (293, 3, (0, [], [], [], [(0, (0, yc 16, yc 0)), (1, (0, yc 31, yc 0)), (2, (7, yc 0, yc 0))], []), [(0, [], [], [], [], [(0, yc 16, yc 0)])], [])
def yx1257 : yCx := ([], ys1257.2.2.2.2, yFP, zm293.2.2.1, zm293.2.2.2.1, zc293, 0, ys1257.2.2.2.1, [], [])
theorem yw1257 : ywf ys1257.2.2.1 = true := by decide +kernel
theorem yk1257 : yver yx1257 ys1257.2.2.1 4000 = true := by decide +kernel
theorem yt1257 {E : zHp → Prop} (h : yEF E yFP) : yTs E 1 ys1257 := yver_s (x := yx1257) h (yal_n) yg293 yk1257
def ys1258 : ySp := (285, 2, (0, [], [], [], [(0, (0, yc 16, yc 0)), (1, (0, yc 31, yc 0))], []), [(0, [], [], [], [], [])], [])
def yx1258 : yCx := ([ys1257], ys1258.2.2.2.2, yFP, zm285.2.2.1, zm285.2.2.2.1, zc285, 0, ys1258.2.2.2.1, [], [])
theorem yw1258 : ywf ys1258.2.2.1 = true := by decide +kernel
theorem yk1258 : yver yx1258 ys1258.2.2.1 4000 = true := by decide +kernel
theorem yt1258 {E : zHp → Prop} (h : yEF E yFP) : yTs E 2 ys1258 := yver_s (x := yx1258) h (yal_c (yt1257 h) (by decide) yw1257 (yal_n)) yg285 yk1258
def ys1259 : ySp := (286, 2, (0, [], [], [], [(0, (2, yc 1020, yc 0)), (1, (0, yc 16, yc 0))], []), [(0, [], [], [], [], [(0, yc 115, yc 0)])], [])
def yx1259 : yCx := ([ys1258], ys1259.2.2.2.2, yFP, zm286.2.2.1, zm286.2.2.2.1, zc286, 0, ys1259.2.2.2.1, [], [])
theorem yw1259 : ywf ys1259.2.2.1 = true := by decide +kernel
theorem yk1259 : yver yx1259 ys1259.2.2.1 4000 = true := by decide +kernel
theorem yt1259 {E : zHp → Prop} (h : yEF E yFP) : yTs E 3 ys1259 := yver_s (x := yx1259) h (yal_c (yt1258 h) (by decide) yw1258 (yal_n)) yg286 yk1259
def ys1260 : ySp := (282, 2, (0, [], [], [], [(0, (2, yc 1001, yc 0)), (1, (0, yc 16, yc 0))], []), [(0, [], [], [], [], [(0, yc 115, yc 0)])], [])
def yx1260 : yCx := ([ys1192, ys1259], ys1260.2.2.2.2, yFP, zm282.2.2.1, zm282.2.2.2.1, zc282, 0, ys1260.2.2.2.1, [], [])
theorem yw1260 : ywf ys1260.2.2.1 = true := by decide +kernel
theorem yk1260 : yver yx1260 ys1260.2.2.1 4000 = true := by decide +kernel
theorem yt1260 {E : zHp → Prop} (h : yEF E yFP) : yTs E 4 ys1260 := yver_s (x := yx1260) h (yal_c (yt1192 h) (by decide) yw1192 (yal_c (yt1259 h) (by decide) yw1259 (yal_n))) yg282 yk1260
def ys1261 : ySp := (293, 3, (0, [], [], [], [(0, (0, yc 17, yc 0)), (1, (0, yc 31, yc 0)), (2, (7, yc 0, yc 0))], []), [(0, [], [], [], [], [(0, yc 17, yc 0)])], [])
def yx1261 : yCx := ([], ys1261.2.2.2.2, yFP, zm293.2.2.1, zm293.2.2.2.1, zc293, 0, ys1261.2.2.2.1, [], [])
theorem yw1261 : ywf ys1261.2.2.1 = true := by decide +kernel
theorem yk1261 : yver yx1261 ys1261.2.2.1 4000 = true := by decide +kernel
theorem yt1261 {E : zHp → Prop} (h : yEF E yFP) : yTs E 1 ys1261 := yver_s (x := yx1261) h (yal_n) yg293 yk1261
def ys1262 : ySp := (285, 2, (0, [], [], [], [(0, (0, yc 17, yc 0)), (1, (0, yc 31, yc 0))], []), [(0, [], [], [], [], [])], [])
def yx1262 : yCx := ([ys1261], ys1262.2.2.2.2, yFP, zm285.2.2.1, zm285.2.2.2.1, zc285, 0, ys1262.2.2.2.1, [], [])
theorem yw1262 : ywf ys1262.2.2.1 = true := by decide +kernel
theorem yk1262 : yver yx1262 ys1262.2.2.1 4000 = true := by decide +kernel
theorem yt1262 {E : zHp → Prop} (h : yEF E yFP) : yTs E 2 ys1262 := yver_s (x := yx1262) h (yal_c (yt1261 h) (by decide) yw1261 (yal_n)) yg285 yk1262
def ys1263 : ySp := (286, 2, (0, [], [], [], [(0, (2, yc 1020, yc 0)), (1, (0, yc 17, yc 0))], []), [(0, [], [], [], [], [(0, yc 116, yc 0)])], [])
def yx1263 : yCx := ([ys1262], ys1263.2.2.2.2, yFP, zm286.2.2.1, zm286.2.2.2.1, zc286, 0, ys1263.2.2.2.1, [], [])
theorem yw1263 : ywf ys1263.2.2.1 = true := by decide +kernel
theorem yk1263 : yver yx1263 ys1263.2.2.1 4000 = true := by decide +kernel
theorem yt1263 {E : zHp → Prop} (h : yEF E yFP) : yTs E 3 ys1263 := yver_s (x := yx1263) h (yal_c (yt1262 h) (by decide) yw1262 (yal_n)) yg286 yk1263
def ys1264 : ySp := (282, 2, (0, [], [], [], [(0, (2, yc 1001, yc 0)), (1, (0, yc 17, yc 0))], []), [(0, [], [], [], [], [(0, yc 116, yc 0)])], [])
def yx1264 : yCx := ([ys1192, ys1263], ys1264.2.2.2.2, yFP, zm282.2.2.1, zm282.2.2.2.1, zc282, 0, ys1264.2.2.2.1, [], [])
theorem yw1264 : ywf ys1264.2.2.1 = true := by decide +kernel
theorem yk1264 : yver yx1264 ys1264.2.2.1 4000 = true := by decide +kernel
theorem yt1264 {E : zHp → Prop} (h : yEF E yFP) : yTs E 4 ys1264 := yver_s (x := yx1264) h (yal_c (yt1192 h) (by decide) yw1192 (yal_c (yt1263 h) (by decide) yw1263 (yal_n))) yg282 yk1264
def ys1265 : ySp := (293, 3, (0, [], [], [], [(0, (0, yc 18, yc 0)), (1, (0, yc 31, yc 0)), (2, (7, yc 0, yc 0))], []), [(0, [], [], [], [], [(0, yc 18, yc 0)])], [])
def yx1265 : yCx := ([], ys1265.2.2.2.2, yFP, zm293.2.2.1, zm293.2.2.2.1, zc293, 0, ys1265.2.2.2.1, [], [])
theorem yw1265 : ywf ys1265.2.2.1 = true := by decide +kernel
theorem yk1265 : yver yx1265 ys1265.2.2.1 4000 = true := by decide +kernel
theorem yt1265 {E : zHp → Prop} (h : yEF E yFP) : yTs E 1 ys1265 := yver_s (x := yx1265) h (yal_n) yg293 yk1265
def ys1266 : ySp := (285, 2, (0, [], [], [], [(0, (0, yc 18, yc 0)), (1, (0, yc 31, yc 0))], []), [(0, [], [], [], [], [])], [])
def yx1266 : yCx := ([ys1265], ys1266.2.2.2.2, yFP, zm285.2.2.1, zm285.2.2.2.1, zc285, 0, ys1266.2.2.2.1, [], [])
theorem yw1266 : ywf ys1266.2.2.1 = true := by decide +kernel
theorem yk1266 : yver yx1266 ys1266.2.2.1 4000 = true := by decide +kernel
theorem yt1266 {E : zHp → Prop} (h : yEF E yFP) : yTs E 2 ys1266 := yver_s (x := yx1266) h (yal_c (yt1265 h) (by decide) yw1265 (yal_n)) yg285 yk1266
def ys1267 : ySp := (286, 2, (0, [], [], [], [(0, (2, yc 1020, yc 0)), (1, (0, yc 18, yc 0))], []), [(0, [], [], [], [], [(0, yc 32, yc 0)])], [])
def yx1267 : yCx := ([ys1266], ys1267.2.2.2.2, yFP, zm286.2.2.1, zm286.2.2.2.1, zc286, 0, ys1267.2.2.2.1, [], [])
theorem yw1267 : ywf ys1267.2.2.1 = true := by decide +kernel
theorem yk1267 : yver yx1267 ys1267.2.2.1 4000 = true := by decide +kernel
theorem yt1267 {E : zHp → Prop} (h : yEF E yFP) : yTs E 3 ys1267 := yver_s (x := yx1267) h (yal_c (yt1266 h) (by decide) yw1266 (yal_n)) yg286 yk1267
def ys1268 : ySp := (282, 2, (0, [], [], [], [(0, (2, yc 1001, yc 0)), (1, (0, yc 18, yc 0))], []), [(0, [], [], [], [], [(0, yc 32, yc 0)])], [])
def yx1268 : yCx := ([ys1192, ys1267], ys1268.2.2.2.2, yFP, zm282.2.2.1, zm282.2.2.2.1, zc282, 0, ys1268.2.2.2.1, [], [])
theorem yw1268 : ywf ys1268.2.2.1 = true := by decide +kernel
theorem yk1268 : yver yx1268 ys1268.2.2.1 4000 = true := by decide +kernel
theorem yt1268 {E : zHp → Prop} (h : yEF E yFP) : yTs E 4 ys1268 := yver_s (x := yx1268) h (yal_c (yt1192 h) (by decide) yw1192 (yal_c (yt1267 h) (by decide) yw1267 (yal_n))) yg282 yk1268
def ys1269 : ySp := (293, 3, (0, [], [], [], [(0, (0, yc 19, yc 0)), (1, (0, yc 31, yc 0)), (2, (7, yc 0, yc 0))], []), [(0, [], [], [], [], [(0, yc 19, yc 0)])], [])
def yx1269 : yCx := ([], ys1269.2.2.2.2, yFP, zm293.2.2.1, zm293.2.2.2.1, zc293, 0, ys1269.2.2.2.1, [], [])
theorem yw1269 : ywf ys1269.2.2.1 = true := by decide +kernel
theorem yk1269 : yver yx1269 ys1269.2.2.1 4000 = true := by decide +kernel
theorem yt1269 {E : zHp → Prop} (h : yEF E yFP) : yTs E 1 ys1269 := yver_s (x := yx1269) h (yal_n) yg293 yk1269
def ys1270 : ySp := (285, 2, (0, [], [], [], [(0, (0, yc 19, yc 0)), (1, (0, yc 31, yc 0))], []), [(0, [], [], [], [], [])], [])
def yx1270 : yCx := ([ys1269], ys1270.2.2.2.2, yFP, zm285.2.2.1, zm285.2.2.2.1, zc285, 0, ys1270.2.2.2.1, [], [])
theorem yw1270 : ywf ys1270.2.2.1 = true := by decide +kernel
theorem yk1270 : yver yx1270 ys1270.2.2.1 4000 = true := by decide +kernel
theorem yt1270 {E : zHp → Prop} (h : yEF E yFP) : yTs E 2 ys1270 := yver_s (x := yx1270) h (yal_c (yt1269 h) (by decide) yw1269 (yal_n)) yg285 yk1270
def ys1271 : ySp := (286, 2, (0, [], [], [], [(0, (2, yc 1020, yc 0)), (1, (0, yc 19, yc 0))], []), [(0, [], [], [], [], [(0, yc 119, yc 0)])], [])
def yx1271 : yCx := ([ys1270], ys1271.2.2.2.2, yFP, zm286.2.2.1, zm286.2.2.2.1, zc286, 0, ys1271.2.2.2.1, [], [])
theorem yw1271 : ywf ys1271.2.2.1 = true := by decide +kernel
theorem yk1271 : yver yx1271 ys1271.2.2.1 4000 = true := by decide +kernel
theorem yt1271 {E : zHp → Prop} (h : yEF E yFP) : yTs E 3 ys1271 := yver_s (x := yx1271) h (yal_c (yt1270 h) (by decide) yw1270 (yal_n)) yg286 yk1271
def ys1272 : ySp := (282, 2, (0, [], [], [], [(0, (2, yc 1001, yc 0)), (1, (0, yc 19, yc 0))], []), [(0, [], [], [], [], [(0, yc 119, yc 0)])], [])
def yx1272 : yCx := ([ys1192, ys1271], ys1272.2.2.2.2, yFP, zm282.2.2.1, zm282.2.2.2.1, zc282, 0, ys1272.2.2.2.1, [], [])
theorem yw1272 : ywf ys1272.2.2.1 = true := by decide +kernel
theorem yk1272 : yver yx1272 ys1272.2.2.1 4000 = true := by decide +kernel
theorem yt1272 {E : zHp → Prop} (h : yEF E yFP) : yTs E 4 ys1272 := yver_s (x := yx1272) h (yal_c (yt1192 h) (by decide) yw1192 (yal_c (yt1271 h) (by decide) yw1271 (yal_n))) yg282 yk1272
def ys1273 : ySp := (293, 3, (0, [], [], [], [(0, (0, yc 20, yc 0)), (1, (0, yc 31, yc 0)), (2, (7, yc 0, yc 0))], []), [(0, [], [], [], [], [(0, yc 20, yc 0)])], [])
def yx1273 : yCx := ([], ys1273.2.2.2.2, yFP, zm293.2.2.1, zm293.2.2.2.1, zc293, 0, ys1273.2.2.2.1, [], [])
theorem yw1273 : ywf ys1273.2.2.1 = true := by decide +kernel
theorem yk1273 : yver yx1273 ys1273.2.2.1 4000 = true := by decide +kernel
theorem yt1273 {E : zHp → Prop} (h : yEF E yFP) : yTs E 1 ys1273 := yver_s (x := yx1273) h (yal_n) yg293 yk1273
