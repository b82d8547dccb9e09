def ys1189 : ySp := (285, 2, (0, [], [], [], [(0, (0, yc 5, yc 0)), (1, (0, yc 7, yc 0))], []), [(0, [], [], [], [], [])], [])
def yx1189 : yCx := ([ys1188], ys1189.2.2.2.2, yFP, zm285.2.2.1, zm285.2.2.2.1, zc285, 0, ys1189.2.2.2.1, [], [])
theorem yw1189 : ywf ys1189.2.2.1 = true := by decide +kernel
theorem yk1189 : yver yx1189 ys1189.2.2.1 4000 = true := by decide +kernel
theorem yt1189 {E : zHp → Prop} (h : yXt E) : yTs E ys1189 := yver_s (x := yx1189) h.1 (yal_c (yt1188 h) yw1188 (yal_n)) yg285 yk1189
def ys1190 : ySp := (286, 2, (0, [], [], [], [(0, (2, yc 1025, yc 0)), (1, (0, yc 5, yc 0))], []), [(0, [], [], [], [], [(0, yc 114, yc 0)])], [])
def yx1190 : yCx := ([ys1189], ys1190.2.2.2.2, yFP, zm286.2.2.1, zm286.2.2.2.1, zc286, 0, ys1190.2.2.2.1, [], [])
theorem yw1190 : ywf ys1190.2.2.1 = true := by decide +kernel
theorem yk1190 : yver yx1190 ys1190.2.2.1 4000 = true := by decide +kernel
theorem yt1190 {E : zHp → Prop} (h : yXt E) : yTs E ys1190 := yver_s (x := yx1190) h.1 (yal_c (yt1189 h) yw1189 (yal_n)) yg286 yk1190
def ys1191 : ySp := (282, 2, (0, [], [], [], [(0, (2, yc 1006, yc 0)), (1, (0, yc 5, yc 0))], []), [(0, [], [], [], [], [(0, yc 114, yc 0)])], [])
def yx1191 : yCx := ([ys1167, ys1190], ys1191.2.2.2.2, yFP, zm282.2.2.1, zm282.2.2.2.1, zc282, 0, ys1191.2.2.2.1, [], [])
theorem yw1191 : ywf ys1191.2.2.1 = true := by decide +kernel
theorem yk1191 : yver yx1191 ys1191.2.2.1 4000 = true := by decide +kernel
theorem yt1191 {E : zHp → Prop} (h : yXt E) : yTs E ys1191 := yver_s (x := yx1191) h.1 (yal_c (yt1167 h) yw1167 (yal_c (yt1190 h) yw1190 (yal_n))) yg282 yk1191
def ys1192 : ySp := (293, 3, (0, [], [], [], [(0, (0, yc 6, yc 0)), (1, (0, yc 7, yc 0)), (2, (7, yc 0, yc 0))], []), [(0, [], [], [], [], [(0, yc 6, yc 0)])], [])
def yx1192 : yCx := ([], ys1192.2.2.2.2, yFP, zm293.2.2.1, zm293.2.2.2.1, zc293, 0, ys1192.2.2.2.1, [], [])
theorem yw1192 : ywf ys1192.2.2.1 = true := by decide +kernel
theorem yk1192 : yver yx1192 ys1192.2.2.1 4000 = true := by decide +kernel
theorem yt1192 {E : zHp → Prop} (h : yXt E) : yTs E ys1192 := yver_s (x := yx1192) h.1 (yal_n) yg293 yk1192
def ys1193 : ySp := (285, 2, (0, [], [], [], [(0, (0, yc 6, yc 0)), (1, (0, yc 7, yc 0))], []), [(0, [], [], [], [], [])], [])
def yx1193 : yCx := ([ys1192], ys1193.2.2.2.2, yFP, zm285.2.2.1, zm285.2.2.2.1, zc285, 0, ys1193.2.2.2.1, [], [])
theorem yw1193 : ywf ys1193.2.2.1 = true := by decide +kernel
theorem yk1193 : yver yx1193 ys1193.2.2.1 4000 = true := by decide +kernel
theorem yt1193 {E : zHp → Prop} (h : yXt E) : yTs E ys1193 := yver_s (x := yx1193) h.1 (yal_c (yt1192 h) yw1192 (yal_n)) yg285 yk1193
def ys1194 : ySp := (286, 2, (0, [], [], [], [(0, (2, yc 1025, yc 0)), (1, (0, yc 6, yc 0))], []), [(0, [], [], [], [], [(0, yc 32, yc 0)])], [])
def yx1194 : yCx := ([ys1193], ys1194.2.2.2.2, yFP, zm286.2.2.1, zm286.2.2.2.1, zc286, 0, ys1194.2.2.2.1, [], [])
theorem yw1194 : ywf ys1194.2.2.1 = true := by decide +kernel
theorem yk1194 : yver yx1194 ys1194.2.2.1 4000 = true := by decide +kernel
theorem yt1194 {E : zHp → Prop} (h : yXt E) : yTs E ys1194 := yver_s (x := yx1194) h.1 (yal_c (yt1193 h) yw1193 (yal_n)) yg286 yk1194
def ys1195 : ySp := (282, 2, (0, [], [], [], [(0, (2, yc 1006, yc 0)), (1, (0, yc 6, yc 0))], []), [(0, [], [], [], [], [(0, yc 32, yc 0)])], [])
def yx1195 : yCx := ([ys1167, ys1194], ys1195.2.2.2.2, yFP, zm282.2.2.1, zm282.2.2.2.1, zc282, 0, ys1195.2.2.2.1, [], [])
theorem yw1195 : ywf ys1195.2.2.1 = true := by decide +kernel
theorem yk1195 : yver yx1195 ys1195.2.2.1 4000 = true := by decide +kernel
theorem yt1195 {E : zHp → Prop} (h : yXt E) : yTs E ys1195 := yver_s (x := yx1195) h.1 (yal_c (yt1167 h) yw1167 (yal_c (yt1194 h) yw1194 (yal_n))) yg282 yk1195
def ys1196 : ySp := (59, 6, (1, [(0, 0, 2147483647)], [], [(yc 2, yc 0, (2, yc 1, yc 0)), (yc 2, yc 4, (0, (1, 0, 0), yc 0))], [(0, (2, yc 2, yc 0)), (1, (2, yc 1006, yc 0))], []), [(3, [(1, 0, 400), (2, 0, 400)], [], [(yc 2, yc 0, (2, yc 1, yc 0)), (yc 2, yc 4, (0, (1, 0, 0), yc 0)), (yc 2, yc 2, (0, (1, 1, 0), yc 0)), (yc 2, yc 1, (0, (1, 2, 0), yc 0))], [], [(0, yc (-1), yc 0)]), (3, [(1, 0, 400), (2, 0, 400)], [], [(yc 2, yc 0, (2, yc 1, yc 0)), (yc 2, yc 4, (0, (1, 0, 0), yc 0)), (yc 2, yc 1, (0, (1, 1, 0), yc 0)), (yc 2, yc 2, (0, (1, 2, 0), yc 0))], [], [(0, yc 0, yc 0)]), (3, [(1, 0, 400), (2, 0, 400)], [], [(yc 2, yc 0, (2, yc 1, yc 0)), (yc 2, yc 4, (0, (1, 0, 0), yc 0)), (yc 2, yc 1, (0, (1, 1, 0), yc 0)), (yc 2, yc 2, (0, (1, 2, 0), yc 0))], [], [(0, yc 1, yc 0)])], [(2, 2, 2), (2, 2, 3)])
def yx1196 : yCx := ([ys839, ys16, ys1166, ys1171, ys1175, ys1179, ys1183, ys1187, ys1191, ys1195], ys1196.2.2.2.2, yFP, zm59.2.2.1, zm59.2.2.2.1, zc59, 1, ys1196.2.2.2.1, [(18, (4, [(0, 0, 2147483647), (1, 0, 400), (2, 0, 400), (3, 0, 400)], [], [(yc 2, yc 0, (2, yc 1, yc 0)), (yc 2, yc 4, (0, (1, 0, 0), yc 0)), (yc 2, yc 2, (0, (1, 2, 0), yc 0)), (yc 2, yc 1, (0, (1, 3, 0), yc 0)), (yc 2, yc 3, (0, (1, 2, 0), yc 0))], [(0, (2, yc 2, yc 0)), (1, (2, yc 1006, yc 0)), (2, (0, (1, 1, 0), yc 0))], []), ([((-1), 1)], 408)), (55, (4, [(0, 0, 2147483647), (1, 0, 400), (2, 0, 400), (3, 0, 400)], [], [(yc 2, yc 0, (2, yc 1, yc 0)), (yc 2, yc 4, (0, (1, 0, 0), yc 0)), (yc 2, yc 2, (0, (1, 2, 0), yc 0)), (yc 2, yc 1, (0, (1, 3, 0), yc 0)), (yc 2, yc 3, (0, (1, 2, 0), yc 0))], [(0, (2, yc 2, yc 0)), (1, (2, yc 1006, yc 0)), (2, (0, (1, 1, 0), yc 0)), (3, (0, yc 0, yc 0)), (4, (0, (1, 2, 0), yc 0)), (5, (0, yc 0, yc 0))], []), ([], 7)), (55, (5, [(0, 0, 2147483647), (1, 0, 400), (2, (-1), 400), (3, 0, 400), (4, 0, 400)], [([(1, 1), ((-1), 2)], 0)], [(yc 2, yc 0, (2, yc 1, yc 0)), (yc 2, yc 4, (0, (1, 0, 0), yc 0)), (yc 2, yc 2, (0, (1, 3, 0), yc 0)), (yc 2, yc 1, (0, (1, 4, 0), yc 0)), (yc 2, yc 3, (0, (1, 3, 0), yc 0))], [(0, (2, yc 2, yc 0)), (1, (2, yc 1006, yc 0)), (2, (0, (1, 1, 0), yc 0)), (3, (0, yc 0, yc 0)), (4, (0, (1, 2, 0), yc 0)), (5, (0, yc 1, yc 0))], []), ([], 6)), (55, (5, [(0, 0, 2147483647), (1, 0, 400), (2, (-1), 400), (3, 0, 400), (4, 0, 400)], [([(1, 1), ((-1), 2)], 1), ([(1, 1), ((-1), 2)], 0)], [(yc 2, yc 0, (2, yc 1, yc 0)), (yc 2, yc 4, (0, (1, 0, 0), yc 0)), (yc 2, yc 2, (0, (1, 3, 0), yc 0)), (yc 2, yc 1, (0, (1, 4, 0), yc 0)), (yc 2, yc 3, (0, (1, 3, 0), yc 0))], [(0, (2, yc 2, yc 0)), (1, (2, yc 1006, yc 0)), (2, (0, (1, 1, 0), yc 0)), (3, (0, yc 0, yc 0)), (4, (0, (1, 2, 0), yc 0)), (5, (0, yc 2, yc 0))], []), ([], 5)), (55, (5, [(0, 0, 2147483647), (1, 0, 400), (2, (-1), 400), (3, 0, 400), (4, 0, 400)], [([(1, 1), ((-1), 2)], 2), ([(1, 1), ((-1), 2)], 1), ([(1, 1), ((-1), 2)], 0)], [(yc 2, yc 0, (2, yc 1, yc 0)), (yc 2, yc 4, (0, (1, 0, 0), yc 0)), (yc 2, yc 2, (0, (1, 3, 0), yc 0)), (yc 2, yc 1, (0, (1, 4, 0), yc 0)), (yc 2, yc 3, (0, (1, 3, 0), yc 0))], [(0, (2, yc 2, yc 0)), (1, (2, yc 1006, yc 0)), (2, (0, (1, 1, 0), yc 0)), (3, (0, yc 0, yc 0)), (4, (0, (1, 2, 0), yc 0)), (5, (0, yc 3, yc 0))], []), ([], 4)), (55, (4, [(0, 0, 2147483647), (1, 0, 400), (2, 0, 400), (3, 0, 400)], [], [(yc 2, yc 0, (2, yc 1, yc 0)), (yc 2, yc 4, (0, (1, 0, 0), yc 0)), (yc 2, yc 2, (0, (1, 2, 0), yc 0)), (yc 2, yc 1, (0, (1, 3, 0), yc 0)), (yc 2, yc 3, (0, (1, 2, 0), yc 0))], [(0, (2, yc 2, yc 0)), (1, (2, yc 1006, yc 0)), (2, (0, (1, 1, 0), yc 0)), (3, (0, yc 1, yc 0)), (4, (0, (1, 2, 0), yc 0)), (5, (0, yc 4, yc 0))], []), ([], 3)), (55, (5, [(0, 0, 2147483647), (1, 0, 400), (2, (-1), 400), (3, 0, 400), (4, 0, 400)], [([(1, 1), ((-1), 2)], 0)], [(yc 2, yc 0, (2, yc 1, yc 0)), (yc 2, yc 4, (0, (1, 0, 0), yc 0)), (yc 2, yc 2, (0, (1, 3, 0), yc 0)), (yc 2, yc 1, (0, (1, 4, 0), yc 0)), (yc 2, yc 3, (0, (1, 3, 0), yc 0))], [(0, (2, yc 2, yc 0)), (1, (2, yc 1006, yc 0)), (2, (0, (1, 1, 0), yc 0)), (3, (0, yc 1, yc 0)), (4, (0, (1, 2, 0), yc 0)), (5, (0, yc 5, yc 0))], []), ([], 2)), (55, (5, [(0, 0, 2147483647), (1, 0, 400), (2, (-1), 400), (3, 0, 400), (4, 0, 400)], [([(1, 1), ((-1), 2)], 1), ([(1, 1), ((-1), 2)], 0)], [(yc 2, yc 0, (2, yc 1, yc 0)), (yc 2, yc 4, (0, (1, 0, 0), yc 0)), (yc 2, yc 2, (0, (1, 3, 0), yc 0)), (yc 2, yc 1, (0, (1, 4, 0), yc 0)), (yc 2, yc 3, (0, (1, 3, 0), yc 0))], [(0, (2, yc 2, yc 0)), (1, (2, yc 1006, yc 0)), (2, (0, (1, 1, 0), yc 0)), (3, (0, yc 1, yc 0)), (4, (0, (1, 2, 0), yc 0)), (5, (0, yc 6, yc 0))], []), ([], 1)), (55, (4, [(0, 0, 2147483647), (1, 0, 400), (2, 0, 400), (3, 0, 400)], [], [(yc 2, yc 0, (2, yc 1, yc 0)), (yc 2, yc 4, (0, (1, 0, 0), yc 0)), (yc 2, yc 2, (0, (1, 2, 0), yc 0)), (yc 2, yc 1, (0, (1, 3, 0), yc 0)), (yc 2, yc 3, (0, (1, 2, 0), yc 0))], [(0, (2, yc 2, yc 0)), (1, (2, yc 1006, yc 0)), (2, (0, (1, 1, 0), yc 0)), (3, (0, yc 2, yc 0)), (4, (0, (1, 2, 0), yc 0)), (5, (0, yc 7, yc 0))], []), ([], 0))], [])
theorem yw1196 : ywf ys1196.2.2.1 = true := by decide +kernel
theorem yk1196 : yver yx1196 ys1196.2.2.1 4000 = true := by decide +kernel
theorem yt1196 {E : zHp → Prop} (h : yXt E) : yTs E ys1196 := yver_s (x := yx1196) h.1 (yal_c (yt839 h) yw839 (yal_c (yt16 h) yw16 (yal_c (yt1166 h) yw1166 (yal_c (yt1171 h) yw1171 (yal_c (yt1175 h) yw1175 (yal_c (yt1179 h) yw1179 (yal_c (yt1183 h) yw1183 (yal_c (yt1187 h) yw1187 (yal_c (yt1191 h) yw1191 (yal_c (yt1195 h) yw1195 (yal_n))))))))))) yg59 yk1196
def ys1197 : ySp := (26, 1, (1, [(0, (-2147483648), 2147483647)], [], [], [(0, (0, (1, 0, 0), yc 0))], []), [(2, [(1, (-2147483648), 11)], [], [], [], [(0, (1, 1, 0), yc 0)])], [])
def yx1197 : yCx := ([], ys1197.2.2.2.2, yFP, zm26.2.2.1, zm26.2.2.2.1, zc26, 1, ys1197.2.2.2.1, [], [])
theorem yw1197 : ywf ys1197.2.2.1 = true := by decide +kernel
theorem yk1197 : yver yx1197 ys1197.2.2.1 4000 = true := by decide +kernel
theorem yt1197 {E : zHp → Prop} (h : yXt E) : yTs E ys1197 := yver_s (x := yx1197) h.1 (yal_n) yg26 yk1197
def ys1198 : ySp := (46, 2, (1, [(0, 0, 1)], [], [], [(0, (2, yc 6, yc 0)), (1, (0, (1, 0, 0), yc 0))], []), [(1, [], [], [], [], [])], [(6, 6, 1), (6, 6, 3), (6, 6, 6), (7, 7, 1000)])
def yx1198 : yCx := ([ys1197, ys892], ys1198.2.2.2.2, yFP, zm46.2.2.1, zm46.2.2.2.1, zc46, 1, ys1198.2.2.2.1, [(0, (2, [(0, 0, 1), (1, 0, 400)], [], [(yc 6, yc 3, (0, (1, 1, 0), yc 0))], [(0, (2, yc 6, yc 0)), (1, (0, (1, 0, 0), yc 0))], []), ([(1, 1)], 0))], [])
theorem yw1198 : ywf ys1198.2.2.1 = true := by decide +kernel
theorem yk1198 : yver yx1198 ys1198.2.2.1 4000 = true := by decide +kernel
theorem yt1198 {E : zHp → Prop} (h : yXt E) : yTs E ys1198 := yver_s (x := yx1198) h.1 (yal_c (yt1197 h) yw1197 (yal_c (yt892 h) yw892 (yal_n))) yg46 yk1198
def ys1199 : ySp := (45, 2, (1, [(0, 0, 1)], [], [], [(0, (2, yc 6, yc 0)), (1, (0, (1, 0, 0), yc 0))], []), [(1, [], [], [], [], [])], [(6, 6, 1), (6, 6, 3), (6, 6, 6), (7, 7, 1000), (8, 8, 1000)])
def yx1199 : yCx := ([ys1198, ys867], ys1199.2.2.2.2, yFP, zm45.2.2.1, zm45.2.2.2.1, zc45, 1, ys1199.2.2.2.1, [], [])
theorem yw1199 : ywf ys1199.2.2.1 = true := by decide +kernel
theorem yk1199 : yver yx1199 ys1199.2.2.1 4000 = true := by decide +kernel
theorem yt1199 {E : zHp → Prop} (h : yXt E) : yTs E ys1199 := yver_s (x := yx1199) h.1 (yal_c (yt1198 h) yw1198 (yal_c (yt867 h) yw867 (yal_n))) yg45 yk1199
def ys1200 : ySp := (46, 2, (1, [(0, 0, 3)], [], [], [(0, (2, yc 6, yc 0)), (1, (0, (1, 0, 0), yc 0))], []), [(1, [], [], [], [], [])], [(6, 6, 1), (6, 6, 3), (6, 6, 6), (7, 7, 1000)])
def yx1200 : yCx := ([ys1197, ys892], ys1200.2.2.2.2, yFP, zm46.2.2.1, zm46.2.2.2.1, zc46, 1, ys1200.2.2.2.1, [(0, (2, [(0, 0, 3), (1, 0, 400)], [], [(yc 6, yc 3, (0, (1, 1, 0), yc 0))], [(0, (2, yc 6, yc 0)), (1, (0, (1, 0, 0), yc 0))], []), ([(1, 1)], 0))], [])
theorem yw1200 : ywf ys1200.2.2.1 = true := by decide +kernel
theorem yk1200 : yver yx1200 ys1200.2.2.1 4000 = true := by decide +kernel
theorem yt1200 {E : zHp → Prop} (h : yXt E) : yTs E ys1200 := yver_s (x := yx1200) h.1 (yal_c (yt1197 h) yw1197 (yal_c (yt892 h) yw892 (yal_n))) yg46 yk1200
def ys1201 : ySp := (45, 2, (1, [(0, 0, 3)], [], [], [(0, (2, yc 6, yc 0)), (1, (0, (1, 0, 0), yc 0))], []), [(1, [], [], [], [], [])], [(6, 6, 1), (6, 6, 3), (6, 6, 6), (7, 7, 1000), (8, 8, 1000)])
def yx1201 : yCx := ([ys1200, ys888], ys1201.2.2.2.2, yFP, zm45.2.2.1, zm45.2.2.2.1, zc45, 1, ys1201.2.2.2.1, [], [])
theorem yw1201 : ywf ys1201.2.2.1 = true := by decide +kernel
theorem yk1201 : yver yx1201 ys1201.2.2.1 4000 = true := by decide +kernel
theorem yt1201 {E : zHp → Prop} (h : yXt E) : yTs E ys1201 := yver_s (x := yx1201) h.1 (yal_c (yt1200 h) yw1200 (yal_c (yt888 h) yw888 (yal_n))) yg45 yk1201
def ys1202 : ySp := (44, 3, (2, [(0, 0, 63), (1, 0, 2147483647)], [], [(yc 2, yc 0, (2, yc 1, yc 0)), (yc 2, yc 4, (0, (1, 1, 0), yc 0))], [(0, (2, yc 6, yc 0)), (1, (2, yc 2, yc 0)), (2, (0, (1, 0, 0), yc 0))], []), [(5, [(2, 0, 2147483647), (3, 0, 400), (4, 0, 400)], [], [(yc 2, yc 0, (2, yc 1, yc 0)), (yc 2, yc 4, (0, (1, 2, 0), yc 0)), (yc 2, yc 1, (0, (1, 3, 0), yc 0)), (yc 2, yc 2, (0, (1, 4, 0), yc 0))], [], [])], [(2, 2, 2), (2, 2, 4), (6, 6, 1), (6, 6, 3), (6, 6, 6), (6, 6, 8), (7, 7, 1000)])
def yx1202 : yCx := ([ys1198, ys890, ys193], ys1202.2.2.2.2, yFP, zm44.2.2.1, zm44.2.2.2.1, zc44, 2, ys1202.2.2.2.1, [], [])
theorem yw1202 : ywf ys1202.2.2.1 = true := by decide +kernel
theorem yk1202 : yver yx1202 ys1202.2.2.1 4000 = true := by decide +kernel
theorem yt1202 {E : zHp → Prop} (h : yXt E) : yTs E ys1202 := yver_s (x := yx1202) h.1 (yal_c (yt1198 h) yw1198 (yal_c (yt890 h) yw890 (yal_c (yt193 h) yw193 (yal_n)))) yg44 yk1202
def ys1203 : ySp := (43, 1, (0, [], [], [], [(0, (2, yc 6, yc 0))], []), [(0, [], [], [], [], [])], [(6, 6, 1), (6, 6, 3), (6, 6, 6), (6, 6, 7), (6, 6, 9), (7, 7, 1000)])
def yx1203 : yCx := ([ys1198], ys1203.2.2.2.2, yFP, zm43.2.2.1, zm43.2.2.2.1, zc43, 0, ys1203.2.2.2.1, [], [])
theorem yw1203 : ywf ys1203.2.2.1 = true := by decide +kernel
theorem yk1203 : yver yx1203 ys1203.2.2.1 4000 = true := by decide +kernel
theorem yt1203 {E : zHp → Prop} (h : yXt E) : yTs E ys1203 := yver_s (x := yx1203) h.1 (yal_c (yt1198 h) yw1198 (yal_n)) yg43 yk1203
def ys1204 : ySp := (42, 3, (1, [(0, 0, 2147483647)], [], [(yc 2, yc 0, (2, yc 1, yc 0)), (yc 2, yc 4, (0, (1, 0, 0), yc 0))], [(0, (2, yc 6, yc 0)), (1, (2, yc 2, yc 0))], []), [(4, [(1, 0, 2147483647), (2, 0, 400), (3, 0, 400)], [], [(yc 2, yc 0, (2, yc 1, yc 0)), (yc 2, yc 4, (0, (1, 1, 0), yc 0)), (yc 2, yc 1, (0, (1, 2, 0), yc 0)), (yc 2, yc 2, (0, (1, 3, 0), yc 0))], [], [])], [(2, 2, 2), (2, 2, 3), (2, 2, 4), (6, 6, 1), (6, 6, 3), (6, 6, 6), (6, 6, 7), (6, 6, 8), (6, 6, 9), (7, 7, 1000), (8, 8, 1000)])
def yx1204 : yCx := ([ys1203, ys1202, ys1199, ys1201, ys153, ys839, ys192, ys1196], ys1204.2.2.2.2, yFP, zm42.2.2.1, zm42.2.2.2.1, zc42, 1, ys1204.2.2.2.1, [], [])
theorem yw1204 : ywf ys1204.2.2.1 = true := by decide +kernel
theorem yk1204 : yver yx1204 ys1204.2.2.1 4000 = true := by decide +kernel
theorem yt1204 {E : zHp → Prop} (h : yXt E) : yTs E ys1204 := yver_s (x := yx1204) h.1 (yal_c (yt1203 h) yw1203 (yal_c (yt1202 h) yw1202 (yal_c (yt1199 h) yw1199 (yal_c (yt1201 h) yw1201 (yal_c (yt153 h) yw153 (yal_c (yt839 h) yw839 (yal_c (yt192 h) yw192 (yal_c (yt1196 h) yw1196 (yal_n))))))))) yg42 yk1204
def ys1205 : ySp := (39, 1, (1, [(0, 0, 255)], [], [], [(0, (0, (1, 0, 0), yc 0))], []), [(1, [], [], [], [], [(0, yc (-1), yc 0)]), (2, [(0, 37, 47), (1, 9, 13)], [], [], [], [(0, (1, 1, 0), yc 0)])], [])
def yx1205 : yCx := ([], ys1205.2.2.2.2, yFP, zm39.2.2.1, zm39.2.2.2.1, zc39, 1, ys1205.2.2.2.1, [], [])
theorem yw1205 : ywf ys1205.2.2.1 = true := by decide +kernel
theorem yk1205 : yver yx1205 ys1205.2.2.1 4000 = true := by decide +kernel
theorem yt1205 {E : zHp → Prop} (h : yXt E) : yTs E ys1205 := yver_s (x := yx1205) h.1 (yal_n) yg39 yk1205
def ys1206 : ySp := (46, 2, (1, [(0, 0, 63)], [], [], [(0, (2, yc 6, yc 0)), (1, (0, (1, 0, 0), yc 0))], []), [(1, [], [], [], [], [])], [(6, 6, 1), (6, 6, 3), (6, 6, 6), (7, 7, 1000)])
def yx1206 : yCx := ([ys1197, ys892], ys1206.2.2.2.2, yFP, zm46.2.2.1, zm46.2.2.2.1, zc46, 1, ys1206.2.2.2.1, [(0, (2, [(0, 0, 63), (1, 0, 400)], [], [(yc 6, yc 3, (0, (1, 1, 0), yc 0))], [(0, (2, yc 6, yc 0)), (1, (0, (1, 0, 0), yc 0))], []), ([(1, 1)], 0))], [])
theorem yw1206 : ywf ys1206.2.2.1 = true := by decide +kernel
theorem yk1206 : yver yx1206 ys1206.2.2.1 4000 = true := by decide +kernel
theorem yt1206 {E : zHp → Prop} (h : yXt E) : yTs E ys1206 := yver_s (x := yx1206) h.1 (yal_c (yt1197 h) yw1197 (yal_c (yt892 h) yw892 (yal_n))) yg46 yk1206
def ys1207 : ySp := (47, 2, (1, [(0, 0, 63)], [], [], [(0, (2, yc 6, yc 0)), (1, (0, (1, 0, 0), yc 0))], []), [(1, [], [], [], [], [])], [(6, 6, 3), (8, 8, 1000)])
def yx1207 : yCx := ([], ys1207.2.2.2.2, yFP, zm47.2.2.1, zm47.2.2.2.1, zc47, 1, ys1207.2.2.2.1, [], [])
theorem yw1207 : ywf ys1207.2.2.1 = true := by decide +kernel
theorem yk1207 : yver yx1207 ys1207.2.2.1 4000 = true := by decide +kernel
theorem yt1207 {E : zHp → Prop} (h : yXt E) : yTs E ys1207 := yver_s (x := yx1207) h.1 (yal_n) yg47 yk1207
def ys1208 : ySp := (45, 2, (1, [(0, 0, 63)], [], [], [(0, (2, yc 6, yc 0)), (1, (0, (1, 0, 0), yc 0))], []), [(1, [], [], [], [], [])], [(6, 6, 1), (6, 6, 3), (6, 6, 6), (7, 7, 1000), (8, 8, 1000)])
def yx1208 : yCx := ([ys1206, ys1207], ys1208.2.2.2.2, yFP, zm45.2.2.1, zm45.2.2.2.1, zc45, 1, ys1208.2.2.2.1, [], [])
theorem yw1208 : ywf ys1208.2.2.1 = true := by decide +kernel
theorem yk1208 : yver yx1208 ys1208.2.2.1 4000 = true := by decide +kernel
theorem yt1208 {E : zHp → Prop} (h : yXt E) : yTs E ys1208 := yver_s (x := yx1208) h.1 (yal_c (yt1206 h) yw1206 (yal_c (yt1207 h) yw1207 (yal_n))) yg45 yk1208
def ys1209 : ySp := (283, 1, (0, [], [], [], [(0, (2, yc 1005, yc 0))], []), [(0, [], [], [], [], [(0, yc 0, yc 0)])], [])
def yx1209 : yCx := ([], ys1209.2.2.2.2, yFP, zm283.2.2.1, zm283.2.2.2.1, zc283, 0, ys1209.2.2.2.1, [], [])
theorem yw1209 : ywf ys1209.2.2.1 = true := by decide +kernel
theorem yk1209 : yver yx1209 ys1209.2.2.1 4000 = true := by decide +kernel
theorem yt1209 {E : zHp → Prop} (h : yXt E) : yTs E ys1209 := yver_s (x := yx1209) h.1 (yal_n) yg283 yk1209
def ys1210 : ySp := (281, 1, (0, [], [], [], [(0, (2, yc 1005, yc 0))], []), [(0, [], [], [], [], [(0, yc 3, yc 0)])], [])
def yx1210 : yCx := ([ys1209], ys1210.2.2.2.2, yFP, zm281.2.2.1, zm281.2.2.2.1, zc281, 0, ys1210.2.2.2.1, [], [])
theorem yw1210 : ywf ys1210.2.2.1 = true := by decide +kernel
theorem yk1210 : yver yx1210 ys1210.2.2.1 4000 = true := by decide +kernel
theorem yt1210 {E : zHp → Prop} (h : yXt E) : yTs E ys1210 := yver_s (x := yx1210) h.1 (yal_c (yt1209 h) yw1209 (yal_n)) yg281 yk1210
def ys1211 : ySp := (284, 1, (0, [], [], [], [(0, (2, yc 1005, yc 0))], []), [(0, [], [], [], [], [(0, yc 1, yc 0)])], [])
def yx1211 : yCx := ([], ys1211.2.2.2.2, yFP, zm284.2.2.1, zm284.2.2.2.1, zc284, 0, ys1211.2.2.2.1, [], [])
theorem yw1211 : ywf ys1211.2.2.1 = true := by decide +kernel
theorem yk1211 : yver yx1211 ys1211.2.2.1 4000 = true := by decide +kernel
theorem yt1211 {E : zHp → Prop} (h : yXt E) : yTs E ys1211 := yver_s (x := yx1211) h.1 (yal_n) yg284 yk1211
def ys1212 : ySp := (293, 3, (0, [], [], [], [(0, (0, yc 0, yc 0)), (1, (0, yc 3, yc 0)), (2, (7, yc 0, yc 0))], []), [(0, [], [], [], [], [(0, yc 0, yc 0)])], [])
def yx1212 : yCx := ([], ys1212.2.2.2.2, yFP, zm293.2.2.1, zm293.2.2.2.1, zc293, 0, ys1212.2.2.2.1, [], [])
theorem yw1212 : ywf ys1212.2.2.1 = true := by decide +kernel
theorem yk1212 : yver yx1212 ys1212.2.2.1 4000 = true := by decide +kernel
theorem yt1212 {E : zHp → Prop} (h : yXt E) : yTs E ys1212 := yver_s (x := yx1212) h.1 (yal_n) yg293 yk1212
def ys1213 : ySp := (285, 2, (0, [], [], [], [(0, (0, yc 0, yc 0)), (1, (0, yc 3, yc 0))], []), [(0, [], [], [], [], [])], [])
def yx1213 : yCx := ([ys1212], ys1213.2.2.2.2, yFP, zm285.2.2.1, zm285.2.2.2.1, zc285, 0, ys1213.2.2.2.1, [], [])
theorem yw1213 : ywf ys1213.2.2.1 = true := by decide +kernel
theorem yk1213 : yver yx1213 ys1213.2.2.1 4000 = true := by decide +kernel
theorem yt1213 {E : zHp → Prop} (h : yXt E) : yTs E ys1213 := yver_s (x := yx1213) h.1 (yal_c (yt1212 h) yw1212 (yal_n)) yg285 yk1213
def ys1214 : ySp := (286, 2, (0, [], [], [], [(0, (2, yc 1024, yc 0)), (1, (0, yc 0, yc 0))], []), [(0, [], [], [], [], [(0, yc 105, yc 0)])], [])
def yx1214 : yCx := ([ys1213], ys1214.2.2.2.2, yFP, zm286.2.2.1, zm286.2.2.2.1, zc286, 0, ys1214.2.2.2.1, [], [])
theorem yw1214 : ywf ys1214.2.2.1 = true := by decide +kernel
theorem yk1214 : yver yx1214 ys1214.2.2.1 4000 = true := by decide +kernel
theorem yt1214 {E : zHp → Prop} (h : yXt E) : yTs E ys1214 := yver_s (x := yx1214) h.1 (yal_c (yt1213 h) yw1213 (yal_n)) yg286 yk1214
def ys1215 : ySp := (282, 2, (0, [], [], [], [(0, (2, yc 1005, yc 0)), (1, (0, yc 0, yc 0))], []), [(0, [], [], [], [], [(0, yc 105, yc 0)])], [])
def yx1215 : yCx := ([ys1211, ys1214], ys1215.2.2.2.2, yFP, zm282.2.2.1, zm282.2.2.2.1, zc282, 0, ys1215.2.2.2.1, [], [])
theorem yw1215 : ywf ys1215.2.2.1 = true := by decide +kernel
theorem yk1215 : yver yx1215 ys1215.2.2.1 4000 = true := by decide +kernel
theorem yt1215 {E : zHp → Prop} (h : yXt E) : yTs E ys1215 := yver_s (x := yx1215) h.1 (yal_c (yt1211 h) yw1211 (yal_c (yt1214 h) yw1214 (yal_n))) yg282 yk1215
def ys1216 : ySp := (293, 3, (0, [], [], [], [(0, (0, yc 1, yc 0)), (1, (0, yc 3, yc 0)), (2, (7, yc 0, yc 0))], []), [(0, [], [], [], [], [(0, yc 1, yc 0)])], [])
def yx1216 : yCx := ([], ys1216.2.2.2.2, yFP, zm293.2.2.1, zm293.2.2.2.1, zc293, 0, ys1216.2.2.2.1, [], [])
theorem yw1216 : ywf ys1216.2.2.1 = true := by decide +kernel
theorem yk1216 : yver yx1216 ys1216.2.2.1 4000 = true := by decide +kernel
theorem yt1216 {E : zHp → Prop} (h : yXt E) : yTs E ys1216 := yver_s (x := yx1216) h.1 (yal_n) yg293 yk1216
def ys1217 : ySp := (285, 2, (0, [], [], [], [(0, (0, yc 1, yc 0)), (1, (0, yc 3, yc 0))], []), [(0, [], [], [], [], [])], [])
def yx1217 : yCx := ([ys1216], ys1217.2.2.2.2, yFP, zm285.2.2.1, zm285.2.2.2.1, zc285, 0, ys1217.2.2.2.1, [], [])
theorem yw1217 : ywf ys1217.2.2.1 = true := by decide +kernel
theorem yk1217 : yver yx1217 ys1217.2.2.1 4000 = true := by decide +kernel
theorem yt1217 {E : zHp → Prop} (h : yXt E) : yTs E ys1217 := yver_s (x := yx1217) h.1 (yal_c (yt1216 h) yw1216 (yal_n)) yg285 yk1217
def ys1218 : ySp := (286, 2, (0, [], [], [], [(0, (2, yc 1024, yc 0)), (1, (0, yc 1, yc 0))], []), [(0, [], [], [], [], [(0, yc 102, yc 0)])], [])
def yx1218 : yCx := ([ys1217], ys1218.2.2.2.2, yFP, zm286.2.2.1, zm286.2.2.2.1, zc286, 0, ys1218.2.2.2.1, [], [])
theorem yw1218 : ywf ys1218.2.2.1 = true := by decide +kernel
theorem yk1218 : yver yx1218 ys1218.2.2.1 4000 = true := by decide +kernel
theorem yt1218 {E : zHp → Prop} (h : yXt E) : yTs E ys1218 := yver_s (x := yx1218) h.1 (yal_c (yt1217 h) yw1217 (yal_n)) yg286 yk1218
def ys1219 : ySp := (282, 2, (0, [], [], [], [(0, (2, yc 1005, yc 0)), (1, (0, yc 1, yc 0))], []), [(0, [], [], [], [], [(0, yc 102, yc 0)])], [])
def yx1219 : yCx := ([ys1211, ys1218], ys1219.2.2.2.2, yFP, zm282.2.2.1, zm282.2.2.2.1, zc282, 0, ys1219.2.2.2.1, [], [])
theorem yw1219 : ywf ys1219.2.2.1 = true := by decide +kernel
theorem yk1219 : yver yx1219 ys1219.2.2.1 4000 = true := by decide +kernel
theorem yt1219 {E : zHp → Prop} (h : yXt E) : yTs E ys1219 := yver_s (x := yx1219) h.1 (yal_c (yt1211 h) yw1211 (yal_c (yt1218 h) yw1218 (yal_n))) yg282 yk1219
def ys1220 : ySp := (293, 3, (0, [], [], [], [(0, (0, yc 2, yc 0)), (1, (0, yc 3, yc 0)), (2, (7, yc 0, yc 0))], []), [(0, [], [], [], [], [(0, yc 2, yc 0)])], [])
def yx1220 : yCx := ([], ys1220.2.2.2.2, yFP, zm293.2.2.1, zm293.2.2.2.1, zc293, 0, ys1220.2.2.2.1, [], [])
theorem yw1220 : ywf ys1220.2.2.1 = true := by decide +kernel
theorem yk1220 : yver yx1220 ys1220.2.2.1 4000 = true := by decide +kernel
theorem yt1220 {E : zHp → Prop} (h : yXt E) : yTs E ys1220 := yver_s (x := yx1220) h.1 (yal_n) yg293 yk1220
def ys1221 : ySp := (285, 2, (0, [], [], [], [(0, (0, yc 2, yc 0)), (1, (0, yc 3, yc 0))], []), [(0, [], [], [], [], [])], [])
def yx1221 : yCx := ([ys1220], ys1221.2.2.2.2, yFP, zm285.2.2.1, zm285.2.2.2.1, zc285, 0, ys1221.2.2.2.1, [], [])
theorem yw1221 : ywf ys1221.2.2.1 = true := by decide +kernel
theorem yk1221 : yver yx1221 ys1221.2.2.1 4000 = true := by decide +kernel
theorem yt1221 {E : zHp → Prop} (h : yXt E) : yTs E ys1221 := yver_s (x := yx1221) h.1 (yal_c (yt1220 h) yw1220 (yal_n)) yg285 yk1221
def ys1222 : ySp := (286, 2, (0, [], [], [], [(0, (2, yc 1024, yc 0)), (1, (0, yc 2, yc 0))], []), [(0, [], [], [], [], [(0, yc 32, yc 0)])], [])
def yx1222 : yCx := ([ys1221], ys1222.2.2.2.2, yFP, zm286.2.2.1, zm286.2.2.2.1, zc286, 0, ys1222.2.2.2.1, [], [])
theorem yw1222 : ywf ys1222.2.2.1 = true := by decide +kernel
theorem yk1222 : yver yx1222 ys1222.2.2.1 4000 = true := by decide +kernel
theorem yt1222 {E : zHp → Prop} (h : yXt E) : yTs E ys1222 := yver_s (x := yx1222) h.1 (yal_c (yt1221 h) yw1221 (yal_n)) yg286 yk1222
def ys1223 : ySp := (282, 2, (0, [], [], [], [(0, (2, yc 1005, yc 0)), (1, (0, yc 2, yc 0))], []), [(0, [], [], [], [], [(0, yc 32, yc 0)])], [])
def yx1223 : yCx := ([ys1211, ys1222], ys1223.2.2.2.2, yFP, zm282.2.2.1, zm282.2.2.2.1, zc282, 0, ys1223.2.2.2.1, [], [])
theorem yw1223 : ywf ys1223.2.2.1 = true := by decide +kernel
theorem yk1223 : yver yx1223 ys1223.2.2.1 4000 = true := by decide +kernel
theorem yt1223 {E : zHp → Prop} (h : yXt E) : yTs E ys1223 := yver_s (x := yx1223) h.1 (yal_c (yt1211 h) yw1211 (yal_c (yt1222 h) yw1222 (yal_n))) yg282 yk1223
def ys1224 : ySp := (59, 6, (1, [(0, 0, 2147483647)], [], [(yc 2, yc 0, (2, yc 1, yc 0)), (yc 2, yc 4, (0, (1, 0, 0), yc 0))], [(0, (2, yc 2, yc 0)), (1, (2, yc 1005, yc 0))], []), [(3, [(1, 0, 400), (2, 0, 400)], [], [(yc 2, yc 0, (2, yc 1, yc 0)), (yc 2, yc 4, (0, (1, 0, 0), yc 0)), (yc 2, yc 2, (0, (1, 1, 0), yc 0)), (yc 2, yc 1, (0, (1, 2, 0), yc 0))], [], [(0, yc (-1), yc 0)]), (3, [(1, 0, 400), (2, 0, 400)], [], [(yc 2, yc 0, (2, yc 1, yc 0)), (yc 2, yc 4, (0, (1, 0, 0), yc 0)), (yc 2, yc 1, (0, (1, 1, 0), yc 0)), (yc 2, yc 2, (0, (1, 2, 0), yc 0))], [], [(0, yc 0, yc 0)])], [(2, 2, 2), (2, 2, 3)])
def yx1224 : yCx := ([ys839, ys16, ys1210, ys1215, ys1219, ys1223], ys1224.2.2.2.2, yFP, zm59.2.2.1, zm59.2.2.2.1, zc59, 1, ys1224.2.2.2.1, [(18, (4, [(0, 0, 2147483647), (1, 0, 400), (2, 0, 400), (3, 0, 400)], [], [(yc 2, yc 0, (2, yc 1, yc 0)), (yc 2, yc 4, (0, (1, 0, 0), yc 0)), (yc 2, yc 2, (0, (1, 2, 0), yc 0)), (yc 2, yc 1, (0, (1, 3, 0), yc 0)), (yc 2, yc 3, (0, (1, 2, 0), yc 0))], [(0, (2, yc 2, yc 0)), (1, (2, yc 1005, yc 0)), (2, (0, (1, 1, 0), yc 0))], []), ([((-1), 1)], 404)), (55, (4, [(0, 0, 2147483647), (1, 0, 400), (2, 0, 400), (3, 0, 400)], [], [(yc 2, yc 0, (2, yc 1, yc 0)), (yc 2, yc 4, (0, (1, 0, 0), yc 0)), (yc 2, yc 2, (0, (1, 2, 0), yc 0)), (yc 2, yc 1, (0, (1, 3, 0), yc 0)), (yc 2, yc 3, (0, (1, 2, 0), yc 0))], [(0, (2, yc 2, yc 0)), (1, (2, yc 1005, yc 0)), (2, (0, (1, 1, 0), yc 0)), (3, (0, yc 0, yc 0)), (4, (0, (1, 2, 0), yc 0)), (5, (0, yc 0, yc 0))], []), ([], 3)), (55, (5, [(0, 0, 2147483647), (1, 0, 400), (2, (-1), 400), (3, 0, 400), (4, 0, 400)], [([(1, 1), ((-1), 2)], 0)], [(yc 2, yc 0, (2, yc 1, yc 0)), (yc 2, yc 4, (0, (1, 0, 0), yc 0)), (yc 2, yc 2, (0, (1, 3, 0), yc 0)), (yc 2, yc 1, (0, (1, 4, 0), yc 0)), (yc 2, yc 3, (0, (1, 3, 0), yc 0))], [(0, (2, yc 2, yc 0)), (1, (2, yc 1005, yc 0)), (2, (0, (1, 1, 0), yc 0)), (3, (0, yc 0, yc 0)), (4, (0, (1, 2, 0), yc 0)), (5, (0, yc 1, yc 0))], []), ([], 2)), (55, (5, [(0, 0, 2147483647), (1, 0, 400), (2, (-1), 400), (3, 0, 400), (4, 0, 400)], [([(1, 1), ((-1), 2)], 1), ([(1, 1), ((-1), 2)], 0)], [(yc 2, yc 0, (2, yc 1, yc 0)), (yc 2, yc 4, (0, (1, 0, 0), yc 0)), (yc 2, yc 2, (0, (1, 3, 0), yc 0)), (yc 2, yc 1, (0, (1, 4, 0), yc 0)), (yc 2, yc 3, (0, (1, 3, 0), yc 0))], [(0, (2, yc 2, yc 0)), (1, (2, yc 1005, yc 0)), (2, (0, (1, 1, 0), yc 0)), (3, (0, yc 0, yc 0)), (4, (0, (1, 2, 0), yc 0)), (5, (0, yc 2, yc 0))], []), ([], 1)), (55, (4, [(0, 0, 2147483647), (1, 0, 400), (2, 0, 400), (3, 0, 400)], [], [(yc 2, yc 0, (2, yc 1, yc 0)), (yc 2, yc 4, (0, (1, 0, 0), yc 0)), (yc 2, yc 2, (0, (1, 2, 0), yc 0)), (yc 2, yc 1, (0, (1, 3, 0), yc 0)), (yc 2, yc 3, (0, (1, 2, 0), yc 0))], [(0, (2, yc 2, yc 0)), (1, (2, yc 1005, yc 0)), (2, (0, (1, 1, 0), yc 0)), (3, (0, yc 1, yc 0)), (4, (0, (1, 2, 0), yc 0)), (5, (0, yc 3, yc 0))], []), ([], 0))], [])
theorem yw1224 : ywf ys1224.2.2.1 = true := by decide +kernel
theorem yk1224 : yver yx1224 ys1224.2.2.1 4000 = true := by decide +kernel
theorem yt1224 {E : zHp → Prop} (h : yXt E) : yTs E ys1224 := yver_s (x := yx1224) h.1 (yal_c (yt839 h) yw839 (yal_c (yt16 h) yw16 (yal_c (yt1210 h) yw1210 (yal_c (yt1215 h) yw1215 (yal_c (yt1219 h) yw1219 (yal_c (yt1223 h) yw1223 (yal_n))))))) yg59 yk1224
def ys1225 : ySp := (40, 2, (1, [(0, 0, 2147483647)], [], [(yc 2, yc 0, (2, yc 1, yc 0)), (yc 2, yc 4, (0, (1, 0, 0), yc 0))], [(0, (2, yc 6, yc 0)), (1, (2, yc 2, yc 0))], []), [(4, [(1, 0, 2147483647), (2, 0, 400), (3, 0, 400)], [], [(yc 2, yc 0, (2, yc 1, yc 0)), (yc 2, yc 4, (0, (1, 1, 0), yc 0)), (yc 2, yc 1, (0, (1, 2, 0), yc 0)), (yc 2, yc 2, (0, (1, 3, 0), yc 0))], [], [])], [(2, 2, 2), (2, 2, 3), (2, 2, 4), (6, 6, 1), (6, 6, 3), (6, 6, 6), (6, 6, 8), (7, 7, 1000)])
def yx1225 : yCx := ([ys1202, ys1198, ys1224], ys1225.2.2.2.2, yFP, zm40.2.2.1, zm40.2.2.2.1, zc40, 1, ys1225.2.2.2.1, [], [])
theorem yw1225 : ywf ys1225.2.2.1 = true := by decide +kernel
theorem yk1225 : yver yx1225 ys1225.2.2.1 4000 = true := by decide +kernel
theorem yt1225 {E : zHp → Prop} (h : yXt E) : yTs E ys1225 := yver_s (x := yx1225) h.1 (yal_c (yt1202 h) yw1202 (yal_c (yt1198 h) yw1198 (yal_c (yt1224 h) yw1224 (yal_n)))) yg40 yk1225
def ys1226 : ySp := (55, 2, (2, [(0, 0, 63), (1, 0, 2147483647)], [], [(yc 2, yc 0, (2, yc 1, yc 0)), (yc 2, yc 4, (0, (1, 1, 0), yc 0))], [(0, (2, yc 2, yc 0)), (1, (0, (1, 0, 0), yc 0))], []), [(4, [(2, 0, 400), (3, 0, 400)], [], [(yc 2, yc 0, (2, yc 1, yc 0)), (yc 2, yc 4, (0, (1, 1, 0), yc 0)), (yc 2, yc 2, (0, (1, 2, 0), yc 0)), (yc 2, yc 1, (0, (1, 3, 0), yc 0))], [], [(0, yc 0, yc 0)]), (4, [(2, 1, 400), (3, 1, 400)], [([(1, 2), ((-1), 3)], 0)], [(yc 2, yc 0, (2, yc 1, yc 0)), (yc 2, yc 4, (0, (1, 1, 0), yc 0)), (yc 2, yc 1, (0, (1, 2, 0), yc 0)), (yc 2, yc 2, (0, (1, 3, 0), yc 0))], [], [(0, yc 1, yc 0)])], [(2, 2, 2)])
def yx1226 : yCx := ([], ys1226.2.2.2.2, yFP, zm55.2.2.1, zm55.2.2.2.1, zc55, 2, ys1226.2.2.2.1, [], [])
theorem yw1226 : ywf ys1226.2.2.1 = true := by decide +kernel
theorem yk1226 : yver yx1226 ys1226.2.2.1 4000 = true := by decide +kernel
theorem yt1226 {E : zHp → Prop} (h : yXt E) : yTs E ys1226 := yver_s (x := yx1226) h.1 (yal_n) yg55 yk1226
def ys1227 : ySp := (41, 4, (1, [(0, 0, 2147483647)], [], [(yc 2, yc 0, (2, yc 1, yc 0)), (yc 2, yc 4, (0, (1, 0, 0), yc 0))], [(0, (2, yc 6, yc 0)), (1, (2, yc 2, yc 0))], []), [(4, [(1, 0, 400), (2, 0, 400), (3, 0, 2147483647)], [], [(yc 2, yc 0, (2, yc 1, yc 0)), (yc 2, yc 2, (0, (1, 1, 0), yc 0)), (yc 2, yc 1, (0, (1, 2, 0), yc 0)), (yc 2, yc 4, (0, (1, 3, 0), yc 0))], [], [])], [(2, 2, 2), (2, 2, 4), (6, 6, 1), (6, 6, 3), (6, 6, 5), (6, 6, 6), (6, 6, 8), (6, 6, 9), (7, 7, 1000), (8, 8, 1000)])
def yx1227 : yCx := ([ys891, ys1208, ys153, ys839, ys192, ys1226], ys1227.2.2.2.2, yFP, zm41.2.2.1, zm41.2.2.2.1, zc41, 1, ys1227.2.2.2.1, [], [])
theorem yw1227 : ywf ys1227.2.2.1 = true := by decide +kernel
theorem yk1227 : yver yx1227 ys1227.2.2.1 4000 = true := by decide +kernel
theorem yt1227 {E : zHp → Prop} (h : yXt E) : yTs E ys1227 := yver_s (x := yx1227) h.1 (yal_c (yt891 h) yw891 (yal_c (yt1208 h) yw1208 (yal_c (yt153 h) yw153 (yal_c (yt839 h) yw839 (yal_c (yt192 h) yw192 (yal_c (yt1226 h) yw1226 (yal_n))))))) yg41 yk1227
def ys1228 : ySp := (39, 1, (1, [(0, (-1), 5)], [], [], [(0, (0, (1, 0, 0), yc 0))], []), [(1, [], [], [], [], [(0, yc (-1), yc 0)])], [])
def yx1228 : yCx := ([], ys1228.2.2.2.2, yFP, zm39.2.2.1, zm39.2.2.2.1, zc39, 1, ys1228.2.2.2.1, [], [])
theorem yw1228 : ywf ys1228.2.2.1 = true := by decide +kernel
theorem yk1228 : yver yx1228 ys1228.2.2.1 4000 = true := by decide +kernel
theorem yt1228 {E : zHp → Prop} (h : yXt E) : yTs E ys1228 := yver_s (x := yx1228) h.1 (yal_n) yg39 yk1228
def ys1229 : ySp := (38, 3, (1, [(0, 0, 2147483647)], [], [(yc 2, yc 0, (2, yc 1, yc 0)), (yc 2, yc 4, (0, (1, 0, 0), yc 0))], [(0, (2, yc 6, yc 0)), (1, (2, yc 2, yc 0))], []), [(4, [(1, 0, 2147483647), (2, 0, 400), (3, 0, 400)], [], [(yc 2, yc 0, (2, yc 1, yc 0)), (yc 2, yc 4, (0, (1, 1, 0), yc 0)), (yc 2, yc 1, (0, (1, 2, 0), yc 0)), (yc 2, yc 2, (0, (1, 3, 0), yc 0))], [], [])], [(2, 2, 2), (2, 2, 3), (2, 2, 4), (6, 6, 1), (6, 6, 3), (6, 6, 5), (6, 6, 6), (6, 6, 7), (6, 6, 8), (6, 6, 9), (7, 7, 1000), (8, 8, 1000)])
def yx1229 : yCx := ([ys1228, ys1205, ys1225, ys1227, ys1204, ys1208, ys839, ys192], ys1229.2.2.2.2, yFP, zm38.2.2.1, zm38.2.2.2.1, zc38, 1, ys1229.2.2.2.1, [], [])
theorem yw1229 : ywf ys1229.2.2.1 = true := by decide +kernel
theorem yk1229 : yver yx1229 ys1229.2.2.1 4000 = true := by decide +kernel
theorem yt1229 {E : zHp → Prop} (h : yXt E) : yTs E ys1229 := yver_s (x := yx1229) h.1 (yal_c (yt1228 h) yw1228 (yal_c (yt1205 h) yw1205 (yal_c (yt1225 h) yw1225 (yal_c (yt1227 h) yw1227 (yal_c (yt1204 h) yw1204 (yal_c (yt1208 h) yw1208 (yal_c (yt839 h) yw839 (yal_c (yt192 h) yw192 (yal_n))))))))) yg38 yk1229
