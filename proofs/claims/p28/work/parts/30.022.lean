def ys1150 : ySp := (234, 1, (0, [], [], [], [(0, (2, yc 70, yc 0))], []), [(0, [], [], [], [], [(0, yc (-1), yc 0)]), (1, [(0, (-2147483648), 2147483647)], [], [], [], [(0, (1, 0, 0), yc 0)])], [(70, 70, 25), (80, 80, 1000), (81, 81, 1000)])
def yx1150 : yCx := ([ys616, ys0, ys679], ys1150.2.2.2.2, yFP, zm234.2.2.1, zm234.2.2.2.1, zc234, 0, ys1150.2.2.2.1, [], [])
theorem yw1150 : ywf ys1150.2.2.1 = true := by decide +kernel
theorem yk1150 : yver yx1150 ys1150.2.2.1 4000 = true := by decide +kernel
theorem yt1150 {E : zHp → Prop} (h : yXt E) : yTs E 4 ys1150 := yver_s (x := yx1150) h.1 (yal_c (yt616 h.1) (by decide) yw616 (yal_c (yl0 h) (by decide) yw0 (yal_c (yt679 h.1) (by decide) yw679 (yal_n)))) yg234 yk1150
def ys1151 : ySp := (88, 4, (2, [(0, 0, 5), (1, 0, 5)], [], [], [(0, (2, yc 9, yc 0)), (1, (0, (1, 0, 0), yc 0)), (2, (0, yc 0, yc 0)), (3, (0, (1, 1, 0), yc 0))], []), [(2, [], [], [], [], [])], [(10, 10, 1000)])
def yx1151 : yCx := ([], ys1151.2.2.2.2, yFP, zm88.2.2.1, zm88.2.2.2.1, zc88, 2, ys1151.2.2.2.1, [], [])
theorem yw1151 : ywf ys1151.2.2.1 = true := by decide +kernel
theorem yk1151 : yver yx1151 ys1151.2.2.1 4000 = true := by decide +kernel
theorem yt1151 {E : zHp → Prop} (h : yEF E yFP) : yTs E 1 ys1151 := yver_s (x := yx1151) h (yal_n) yg88 yk1151
def ys1152 : ySp := (104, 3, (2, [(0, 0, 5), (1, 0, 5)], [], [], [(0, (2, yc 9, yc 0)), (1, (0, (1, 0, 0), yc 0)), (2, (0, (1, 1, 0), yc 0))], []), [(2, [], [], [], [], [])], [(10, 10, 1000)])
def yx1152 : yCx := ([ys1116, ys1151, ys1112, ys1137], ys1152.2.2.2.2, yFP, zm104.2.2.1, zm104.2.2.2.1, zc104, 2, ys1152.2.2.2.1, [], [])
theorem yw1152 : ywf ys1152.2.2.1 = true := by decide +kernel
theorem yk1152 : yver yx1152 ys1152.2.2.1 4000 = true := by decide +kernel
theorem yt1152 {E : zHp → Prop} (h : yEF E yFP) : yTs E 2 ys1152 := yver_s (x := yx1152) h (yal_c (yt1116 h) (by decide) yw1116 (yal_c (yt1151 h) (by decide) yw1151 (yal_c (yt1112 h) (by decide) yw1112 (yal_c (yt1137 h) (by decide) yw1137 (yal_n))))) yg104 yk1152
def ys1153 : ySp := (136, 4, (2, [(0, (-2147483648), 2147483647), (1, (-2147483648), 2147483647)], [], [], [(0, (2, yc 0, yc 0)), (1, (0, (1, 0, 0), yc 0)), (2, (0, (1, 1, 0), yc 0))], []), [(2, [], [], [], [], [(0, yc (-1), yc 0)]), (3, [(0, 0, 5), (1, 0, 5), (2, 0, 5)], [], [], [], [(0, (1, 2, 0), yc 0)])], [(10, 10, 1000), (14, 14, 1), (14, 14, 2), (16, 35, 1000)])
def yx1153 : yCx := ([ys1147, ys881, ys915, ys882, ys1152], ys1153.2.2.2.2, yFP, zm136.2.2.1, zm136.2.2.2.1, zc136, 2, ys1153.2.2.2.1, [], [])
theorem yw1153 : ywf ys1153.2.2.1 = true := by decide +kernel
theorem yk1153 : yver yx1153 ys1153.2.2.1 4000 = true := by decide +kernel
theorem yt1153 {E : zHp → Prop} (h : yEF E yFP) : yTs E 3 ys1153 := yver_s (x := yx1153) h (yal_c (yt1147 h) (by decide) yw1147 (yal_c (yt881 h) (by decide) yw881 (yal_c (yt915 h) (by decide) yw915 (yal_c (yt882 h) (by decide) yw882 (yal_c (yt1152 h) (by decide) yw1152 (yal_n)))))) yg136 yk1153
def ys1154 : ySp := (232, 4, (2, [(0, 0, 5), (1, 0, 5)], [], [], [(0, (2, yc 70, yc 0)), (1, (0, (1, 0, 0), yc 0)), (2, (0, (1, 1, 0), yc 0))], []), [(2, [], [], [], [], [(0, yc (-1), yc 0)]), (3, [(2, 0, 5)], [], [], [], [(0, (1, 2, 0), yc 0)])], [(70, 70, 25), (80, 80, 1000), (81, 81, 1000)])
def yx1154 : yCx := ([ys923, ys1073, ys633, ys0, ys1076], ys1154.2.2.2.2, yFP, zm232.2.2.1, zm232.2.2.2.1, zc232, 2, ys1154.2.2.2.1, [], [])
theorem yw1154 : ywf ys1154.2.2.1 = true := by decide +kernel
theorem yk1154 : yver yx1154 ys1154.2.2.1 4000 = true := by decide +kernel
theorem yt1154 {E : zHp → Prop} (h : yXt E) : yTs E 4 ys1154 := yver_s (x := yx1154) h.1 (yal_c (yt923 h.1) (by decide) yw923 (yal_c (yt1073 h.1) (by decide) yw1073 (yal_c (yt633 h.1) (by decide) yw633 (yal_c (yl0 h) (by decide) yw0 (yal_c (yt1076 h.1) (by decide) yw1076 (yal_n)))))) yg232 yk1154
def ys1155 : ySp := (232, 4, (2, [(0, (-2147483648), 2147483647), (1, (-2147483648), 2147483647)], [], [], [(0, (2, yc 70, yc 0)), (1, (0, (1, 0, 0), yc 0)), (2, (0, (1, 1, 0), yc 0))], []), [(2, [], [], [], [], [(0, yc (-1), yc 0)]), (3, [(0, 0, 5), (1, 0, 5), (2, 0, 5)], [], [], [], [(0, (1, 2, 0), yc 0)])], [(70, 70, 25), (80, 80, 1000), (81, 81, 1000)])
def yx1155 : yCx := ([ys923, ys1078, ys633, ys0, ys1076], ys1155.2.2.2.2, yFP, zm232.2.2.1, zm232.2.2.2.1, zc232, 2, ys1155.2.2.2.1, [], [])
theorem yw1155 : ywf ys1155.2.2.1 = true := by decide +kernel
theorem yk1155 : yver yx1155 ys1155.2.2.1 4000 = true := by decide +kernel
theorem yt1155 {E : zHp → Prop} (h : yXt E) : yTs E 4 ys1155 := yver_s (x := yx1155) h.1 (yal_c (yt923 h.1) (by decide) yw923 (yal_c (yt1078 h.1) (by decide) yw1078 (yal_c (yt633 h.1) (by decide) yw633 (yal_c (yl0 h) (by decide) yw0 (yal_c (yt1076 h.1) (by decide) yw1076 (yal_n)))))) yg232 yk1155
def ys1156 : ySp := (65, 4, (0, [], [], [], [(0, (2, yc 67, yc 0)), (1, (2, yc 9, yc 0))], []), [(0, [], [], [], [], [])], [(10, 10, 1000)])
def yx1156 : yCx := ([ys1115, ys920], ys1156.2.2.2.2, yFP, zm65.2.2.1, zm65.2.2.2.1, zc65, 0, ys1156.2.2.2.1, [(2, (1, [(0, 0, 6)], [], [], [(0, (2, yc 67, yc 0)), (1, (2, yc 9, yc 0)), (2, (0, (1, 0, 0), yc 0))], []), ([((-1), 0)], 7))], [])
theorem yw1156 : ywf ys1156.2.2.1 = true := by decide +kernel
theorem yk1156 : yver yx1156 ys1156.2.2.1 4000 = true := by decide +kernel
theorem yt1156 {E : zHp → Prop} (h : yEF E yFP) : yTs E 2 ys1156 := yver_s (x := yx1156) h (yal_c (yt1115 h) (by decide) yw1115 (yal_c (yt920 h) (by decide) yw920 (yal_n))) yg65 yk1156
def ys1157 : ySp := (135, 1, (0, [], [], [], [(0, (2, yc 0, yc 0))], []), [(0, [], [], [], [], [(0, yc (-1), yc 0)]), (1, [(0, 1, 6)], [], [], [], [(0, (1, 0, 0), yc 0)])], [(10, 10, 1000), (14, 14, 1), (14, 14, 2), (16, 35, 1000), (67, 67, 1), (68, 68, 1000)])
def yx1157 : yCx := ([ys1147, ys935, ys1156], ys1157.2.2.2.2, yFP, zm135.2.2.1, zm135.2.2.2.1, zc135, 0, ys1157.2.2.2.1, [], [])
theorem yw1157 : ywf ys1157.2.2.1 = true := by decide +kernel
theorem yk1157 : yver yx1157 ys1157.2.2.1 4000 = true := by decide +kernel
theorem yt1157 {E : zHp → Prop} (h : yEF E yFP) : yTs E 9 ys1157 := yver_s (x := yx1157) h (yal_c (yt1147 h) (by decide) yw1147 (yal_c (yt935 h) (by decide) yw935 (yal_c (yt1156 h) (by decide) yw1156 (yal_n)))) yg135 yk1157
def ys1158 : ySp := (242, 3, (0, [], [], [], [(0, (2, yc 70, yc 0))], []), [(0, [], [], [], [], [(0, yc (-1), yc 0)]), (1, [(0, 2, 6)], [], [], [], [(0, (1, 0, 0), yc 0)])], [(70, 70, 25), (70, 70, 26), (80, 80, 1000), (81, 81, 1000)])
def yx1158 : yCx := ([ys616, ys0, ys977, ys980], ys1158.2.2.2.2, yFP, zm242.2.2.1, zm242.2.2.2.1, zc242, 0, ys1158.2.2.2.1, [(26, (3, [(0, 2, 6), (1, 0, 6), (2, 1, 6)], [], [(yc 80, yc 0, (0, (1, 2, 0), yc 0))], [(0, (2, yc 70, yc 0)), (1, (0, (1, 0, 0), yc 0)), (2, (0, (1, 1, 0), yc 0))], []), ([((-1), 1)], 7))], [])
theorem yw1158 : ywf ys1158.2.2.1 = true := by decide +kernel
theorem yk1158 : yver yx1158 ys1158.2.2.1 4000 = true := by decide +kernel
theorem yt1158 {E : zHp → Prop} (h : yXt E) : yTs E 6 ys1158 := yver_s (x := yx1158) h.1 (yal_c (yt616 h.1) (by decide) yw616 (yal_c (yl0 h) (by decide) yw0 (yal_c (yt977 h.1) (by decide) yw977 (yal_c (yt980 h.1) (by decide) yw980 (yal_n))))) yg242 yk1158
def ys1159 : ySp := (86, 3, (2, [(0, (-2147483648), 2147483647), (1, (-2147483648), 2147483647)], [], [], [(0, (2, yc 9, yc 0)), (1, (0, (1, 0, 0), yc 0)), (2, (0, (1, 1, 0), yc 0))], []), [(2, [], [], [], [], [(0, yc 0, yc 0)]), (2, [(0, 0, 5), (1, 0, 5)], [], [], [], [(0, yc 1, yc 0)])], [])
def yx1159 : yCx := ([ys915], ys1159.2.2.2.2, yFP, zm86.2.2.1, zm86.2.2.2.1, zc86, 2, ys1159.2.2.2.1, [], [])
theorem yw1159 : ywf ys1159.2.2.1 = true := by decide +kernel
theorem yk1159 : yver yx1159 ys1159.2.2.1 4000 = true := by decide +kernel
theorem yt1159 {E : zHp → Prop} (h : yEF E yFP) : yTs E 3 ys1159 := yver_s (x := yx1159) h (yal_c (yt915 h) (by decide) yw915 (yal_n)) yg86 yk1159
def ys1160 : ySp := (105, 3, (2, [(0, 0, 5), (1, 0, 5)], [], [], [(0, (2, yc 9, yc 0)), (1, (0, (1, 0, 0), yc 0)), (2, (0, (1, 1, 0), yc 0))], []), [(2, [], [], [], [], [])], [(10, 10, 1000)])
def yx1160 : yCx := ([], ys1160.2.2.2.2, yFP, zm105.2.2.1, zm105.2.2.2.1, zc105, 2, ys1160.2.2.2.1, [], [])
theorem yw1160 : ywf ys1160.2.2.1 = true := by decide +kernel
theorem yk1160 : yver yx1160 ys1160.2.2.1 4000 = true := by decide +kernel
theorem yt1160 {E : zHp → Prop} (h : yEF E yFP) : yTs E 1 ys1160 := yver_s (x := yx1160) h (yal_n) yg105 yk1160
def ys1161 : ySp := (134, 3, (2, [(0, (-2147483648), 2147483647), (1, (-2147483648), 2147483647)], [], [], [(0, (2, yc 0, yc 0)), (1, (0, (1, 0, 0), yc 0)), (2, (0, (1, 1, 0), yc 0))], []), [(2, [], [], [], [], [(0, yc 0, yc 0)]), (2, [(0, 0, 5), (1, 0, 5)], [], [], [], [(0, yc 1, yc 0)])], [(10, 10, 1000), (14, 14, 1), (14, 14, 2), (16, 35, 1000)])
def yx1161 : yCx := ([ys1147, ys1159, ys1039, ys1160], ys1161.2.2.2.2, yFP, zm134.2.2.1, zm134.2.2.2.1, zc134, 2, ys1161.2.2.2.1, [], [])
theorem yw1161 : ywf ys1161.2.2.1 = true := by decide +kernel
theorem yk1161 : yver yx1161 ys1161.2.2.1 4000 = true := by decide +kernel
theorem yt1161 {E : zHp → Prop} (h : yEF E yFP) : yTs E 4 ys1161 := yver_s (x := yx1161) h (yal_c (yt1147 h) (by decide) yw1147 (yal_c (yt1159 h) (by decide) yw1159 (yal_c (yt1039 h) (by decide) yw1039 (yal_c (yt1160 h) (by decide) yw1160 (yal_n))))) yg134 yk1161
def ys1162 : ySp := (230, 3, (2, [(0, 0, 5), (1, 0, 5)], [], [], [(0, (2, yc 70, yc 0)), (1, (0, (1, 0, 0), yc 0)), (2, (0, (1, 1, 0), yc 0))], []), [(2, [], [], [], [], [(0, yc 0, yc 0)]), (2, [], [], [], [], [(0, yc 1, yc 0)])], [(70, 70, 25), (80, 80, 1000), (81, 81, 1000)])
def yx1162 : yCx := ([ys923, ys624, ys0, ys837], ys1162.2.2.2.2, yFP, zm230.2.2.1, zm230.2.2.2.1, zc230, 2, ys1162.2.2.2.1, [], [])
theorem yw1162 : ywf ys1162.2.2.1 = true := by decide +kernel
theorem yk1162 : yver yx1162 ys1162.2.2.1 4000 = true := by decide +kernel
theorem yt1162 {E : zHp → Prop} (h : yXt E) : yTs E 2 ys1162 := yver_s (x := yx1162) h.1 (yal_c (yt923 h.1) (by decide) yw923 (yal_c (yt624 h.1) (by decide) yw624 (yal_c (yl0 h) (by decide) yw0 (yal_c (yt837 h.1) (by decide) yw837 (yal_n))))) yg230 yk1162
def ys1163 : ySp := (230, 3, (2, [(0, (-2147483648), 2147483647), (1, (-2147483648), 2147483647)], [], [], [(0, (2, yc 70, yc 0)), (1, (0, (1, 0, 0), yc 0)), (2, (0, (1, 1, 0), yc 0))], []), [(2, [], [], [], [], [(0, yc 0, yc 0)]), (2, [(0, 0, 5), (1, 0, 5)], [], [], [], [(0, yc 1, yc 0)])], [(70, 70, 25), (80, 80, 1000), (81, 81, 1000)])
def yx1163 : yCx := ([ys923, ys624, ys0, ys837], ys1163.2.2.2.2, yFP, zm230.2.2.1, zm230.2.2.2.1, zc230, 2, ys1163.2.2.2.1, [], [])
theorem yw1163 : ywf ys1163.2.2.1 = true := by decide +kernel
theorem yk1163 : yver yx1163 ys1163.2.2.1 4000 = true := by decide +kernel
theorem yt1163 {E : zHp → Prop} (h : yXt E) : yTs E 2 ys1163 := yver_s (x := yx1163) h.1 (yal_c (yt923 h.1) (by decide) yw923 (yal_c (yt624 h.1) (by decide) yw624 (yal_c (yl0 h) (by decide) yw0 (yal_c (yt837 h.1) (by decide) yw837 (yal_n))))) yg230 yk1163
def ys1164 : ySp := (84, 2, (1, [(0, (-2147483648), 2147483647)], [], [], [(0, (2, yc 9, yc 0)), (1, (0, (1, 0, 0), yc 0))], []), [(1, [], [], [], [], [(0, yc 0, yc 0)]), (1, [(0, 0, 5)], [], [], [], [(0, yc 1, yc 0)])], [])
def yx1164 : yCx := ([ys503], ys1164.2.2.2.2, yFP, zm84.2.2.1, zm84.2.2.2.1, zc84, 1, ys1164.2.2.2.1, [], [])
theorem yw1164 : ywf ys1164.2.2.1 = true := by decide +kernel
theorem yk1164 : yver yx1164 ys1164.2.2.1 4000 = true := by decide +kernel
theorem yt1164 {E : zHp → Prop} (h : yEF E yFP) : yTs E 2 ys1164 := yver_s (x := yx1164) h (yal_c (yt503 h) (by decide) yw503 (yal_n)) yg84 yk1164
def ys1165 : ySp := (133, 2, (1, [(0, (-2147483648), 2147483647)], [], [], [(0, (2, yc 0, yc 0)), (1, (0, (1, 0, 0), yc 0))], []), [(1, [], [], [], [], [(0, yc (-1), yc 0)]), (2, [(0, 0, 5), (1, (-2147483648), 2147483647)], [], [], [], [(0, (1, 1, 0), yc 0)])], [(10, 10, 1000), (14, 14, 1), (14, 14, 2), (16, 35, 1000)])
def yx1165 : yCx := ([ys1147, ys1164, ys1131, ys1133], ys1165.2.2.2.2, yFP, zm133.2.2.1, zm133.2.2.2.1, zc133, 1, ys1165.2.2.2.1, [], [])
theorem yw1165 : ywf ys1165.2.2.1 = true := by decide +kernel
theorem yk1165 : yver yx1165 ys1165.2.2.1 4000 = true := by decide +kernel
theorem yt1165 {E : zHp → Prop} (h : yEF E yFP) : yTs E 6 ys1165 := yver_s (x := yx1165) h (yal_c (yt1147 h) (by decide) yw1147 (yal_c (yt1164 h) (by decide) yw1164 (yal_c (yt1131 h) (by decide) yw1131 (yal_c (yt1133 h) (by decide) yw1133 (yal_n))))) yg133 yk1165
def ys1166 : ySp := (207, 2, (2, [(0, 0, 5), (1, 0, 6)], [], [(yc 80, yc 3, (0, (1, 1, 0), yc 0))], [(0, (2, yc 70, yc 0)), (1, (0, (1, 0, 0), yc 0))], []), [(2, [(1, 0, 5)], [([(1, 0), ((-1), 1)], 0)], [(yc 80, yc 3, (0, (1, 1, 0), yc 0))], [], [(0, yc 0, yc 0)]), (2, [(1, 1, 6)], [([(1, 1), ((-1), 0)], (-1))], [(yc 80, yc 3, (0, (1, 1, 0), yc 0))], [], [(0, yc 1, yc 0)])], [])
def yx1166 : yCx := ([], ys1166.2.2.2.2, yFP, zm207.2.2.1, zm207.2.2.2.1, zc207, 2, ys1166.2.2.2.1, [], [])
theorem yw1166 : ywf ys1166.2.2.1 = true := by decide +kernel
theorem yk1166 : yver yx1166 ys1166.2.2.1 4000 = true := by decide +kernel
theorem yt1166 {E : zHp → Prop} (h : yEF E yFP) : yTs E 1 ys1166 := yver_s (x := yx1166) h (yal_n) yg207 yk1166
def ys1167 : ySp := (228, 2, (1, [(0, 0, 5)], [], [], [(0, (2, yc 70, yc 0)), (1, (0, (1, 0, 0), yc 0))], []), [(1, [], [], [], [], [(0, yc (-1), yc 0)]), (2, [(1, (-2147483648), 2147483647)], [], [], [], [(0, (1, 1, 0), yc 0)])], [(70, 70, 25), (80, 80, 1000), (81, 81, 1000)])
def yx1167 : yCx := ([ys1166, ys675, ys0, ys677], ys1167.2.2.2.2, yFP, zm228.2.2.1, zm228.2.2.2.1, zc228, 1, ys1167.2.2.2.1, [], [])
theorem yw1167 : ywf ys1167.2.2.1 = true := by decide +kernel
theorem yk1167 : yver yx1167 ys1167.2.2.1 4000 = true := by decide +kernel
theorem yt1167 {E : zHp → Prop} (h : yXt E) : yTs E 6 ys1167 := yver_s (x := yx1167) h.1 (yal_c (yt1166 h.1) (by decide) yw1166 (yal_c (yt675 h.1) (by decide) yw675 (yal_c (yl0 h) (by decide) yw0 (yal_c (yt677 h.1) (by decide) yw677 (yal_n))))) yg228 yk1167
def ys1168 : ySp := (207, 2, (2, [(0, (-2147483648), 2147483647), (1, 0, 6)], [], [(yc 80, yc 3, (0, (1, 1, 0), yc 0))], [(0, (2, yc 70, yc 0)), (1, (0, (1, 0, 0), yc 0))], []), [(2, [], [], [(yc 80, yc 3, (0, (1, 1, 0), yc 0))], [], [(0, yc 0, yc 0)]), (2, [(0, 0, 5), (1, 1, 6)], [([(1, 1), ((-1), 0)], (-1))], [(yc 80, yc 3, (0, (1, 1, 0), yc 0))], [], [(0, yc 1, yc 0)])], [])
def yx1168 : yCx := ([], ys1168.2.2.2.2, yFP, zm207.2.2.1, zm207.2.2.2.1, zc207, 2, ys1168.2.2.2.1, [], [])
theorem yw1168 : ywf ys1168.2.2.1 = true := by decide +kernel
theorem yk1168 : yver yx1168 ys1168.2.2.1 4000 = true := by decide +kernel
theorem yt1168 {E : zHp → Prop} (h : yEF E yFP) : yTs E 1 ys1168 := yver_s (x := yx1168) h (yal_n) yg207 yk1168
def ys1169 : ySp := (228, 2, (1, [(0, (-2147483648), 2147483647)], [], [], [(0, (2, yc 70, yc 0)), (1, (0, (1, 0, 0), yc 0))], []), [(1, [], [], [], [], [(0, yc (-1), yc 0)]), (2, [(0, 0, 5), (1, (-2147483648), 2147483647)], [], [], [], [(0, (1, 1, 0), yc 0)])], [(70, 70, 25), (80, 80, 1000), (81, 81, 1000)])
def yx1169 : yCx := ([ys1168, ys675, ys0, ys677], ys1169.2.2.2.2, yFP, zm228.2.2.1, zm228.2.2.2.1, zc228, 1, ys1169.2.2.2.1, [], [])
theorem yw1169 : ywf ys1169.2.2.1 = true := by decide +kernel
theorem yk1169 : yver yx1169 ys1169.2.2.1 4000 = true := by decide +kernel
theorem yt1169 {E : zHp → Prop} (h : yXt E) : yTs E 6 ys1169 := yver_s (x := yx1169) h.1 (yal_c (yt1168 h.1) (by decide) yw1168 (yal_c (yt675 h.1) (by decide) yw675 (yal_c (yl0 h) (by decide) yw0 (yal_c (yt677 h.1) (by decide) yw677 (yal_n))))) yg228 yk1169
def ys1170 : ySp := (103, 2, (1, [(0, 0, 5)], [], [], [(0, (2, yc 9, yc 0)), (1, (0, (1, 0, 0), yc 0))], []), [(1, [], [], [], [], [])], [(10, 10, 1000)])
def yx1170 : yCx := ([ys882, ys1152], ys1170.2.2.2.2, yFP, zm103.2.2.1, zm103.2.2.2.1, zc103, 1, ys1170.2.2.2.1, [], [])
theorem yw1170 : ywf ys1170.2.2.1 = true := by decide +kernel
theorem yk1170 : yver yx1170 ys1170.2.2.1 4000 = true := by decide +kernel
theorem yt1170 {E : zHp → Prop} (h : yEF E yFP) : yTs E 3 ys1170 := yver_s (x := yx1170) h (yal_c (yt882 h) (by decide) yw882 (yal_c (yt1152 h) (by decide) yw1152 (yal_n))) yg103 yk1170
def ys1171 : ySp := (132, 2, (1, [(0, (-2147483648), 2147483647)], [], [], [(0, (2, yc 0, yc 0)), (1, (0, (1, 0, 0), yc 0))], []), [(1, [], [], [], [], [(0, yc (-1), yc 0)]), (2, [(0, 0, 5), (1, 0, 5)], [], [], [], [(0, (1, 1, 0), yc 0)])], [(10, 10, 1000), (14, 14, 1), (14, 14, 2), (16, 35, 1000)])
def yx1171 : yCx := ([ys1147, ys881, ys882, ys913, ys1170], ys1171.2.2.2.2, yFP, zm132.2.2.1, zm132.2.2.2.1, zc132, 1, ys1171.2.2.2.1, [], [])
theorem yw1171 : ywf ys1171.2.2.1 = true := by decide +kernel
theorem yk1171 : yver yx1171 ys1171.2.2.1 4000 = true := by decide +kernel
theorem yt1171 {E : zHp → Prop} (h : yEF E yFP) : yTs E 4 ys1171 := yver_s (x := yx1171) h (yal_c (yt1147 h) (by decide) yw1147 (yal_c (yt881 h) (by decide) yw881 (yal_c (yt882 h) (by decide) yw882 (yal_c (yt913 h) (by decide) yw913 (yal_c (yt1170 h) (by decide) yw1170 (yal_n)))))) yg132 yk1171
def ys1172 : ySp := (227, 2, (1, [(0, 0, 5)], [], [], [(0, (2, yc 70, yc 0)), (1, (0, (1, 0, 0), yc 0))], []), [(1, [], [], [], [], [(0, yc (-1), yc 0)]), (2, [(1, 0, 5)], [], [], [], [(0, (1, 1, 0), yc 0)])], [(70, 70, 25), (80, 80, 1000), (81, 81, 1000)])
def yx1172 : yCx := ([ys1073, ys633, ys657, ys0, ys634], ys1172.2.2.2.2, yFP, zm227.2.2.1, zm227.2.2.2.1, zc227, 1, ys1172.2.2.2.1, [], [])
theorem yw1172 : ywf ys1172.2.2.1 = true := by decide +kernel
theorem yk1172 : yver yx1172 ys1172.2.2.1 4000 = true := by decide +kernel
theorem yt1172 {E : zHp → Prop} (h : yXt E) : yTs E 3 ys1172 := yver_s (x := yx1172) h.1 (yal_c (yt1073 h.1) (by decide) yw1073 (yal_c (yt633 h.1) (by decide) yw633 (yal_c (yt657 h.1) (by decide) yw657 (yal_c (yl0 h) (by decide) yw0 (yal_c (yt634 h.1) (by decide) yw634 (yal_n)))))) yg227 yk1172
def ys1173 : ySp := (227, 2, (1, [(0, (-2147483648), 2147483647)], [], [], [(0, (2, yc 70, yc 0)), (1, (0, (1, 0, 0), yc 0))], []), [(1, [], [], [], [], [(0, yc (-1), yc 0)]), (2, [(0, 0, 5), (1, 0, 5)], [], [], [], [(0, (1, 1, 0), yc 0)])], [(70, 70, 25), (80, 80, 1000), (81, 81, 1000)])
def yx1173 : yCx := ([ys1078, ys633, ys657, ys0, ys634], ys1173.2.2.2.2, yFP, zm227.2.2.1, zm227.2.2.2.1, zc227, 1, ys1173.2.2.2.1, [], [])
theorem yw1173 : ywf ys1173.2.2.1 = true := by decide +kernel
theorem yk1173 : yver yx1173 ys1173.2.2.1 4000 = true := by decide +kernel
theorem yt1173 {E : zHp → Prop} (h : yXt E) : yTs E 3 ys1173 := yver_s (x := yx1173) h.1 (yal_c (yt1078 h.1) (by decide) yw1078 (yal_c (yt633 h.1) (by decide) yw633 (yal_c (yt657 h.1) (by decide) yw657 (yal_c (yl0 h) (by decide) yw0 (yal_c (yt634 h.1) (by decide) yw634 (yal_n)))))) yg227 yk1173
def ys1174 : ySp := (131, 3, (2, [(0, (-2147483648), 2147483647), (1, (-2147483648), 2147483647)], [], [], [(0, (2, yc 0, yc 0)), (1, (0, (1, 0, 0), yc 0)), (2, (0, (1, 1, 0), yc 0))], []), [(2, [], [], [], [], [(0, yc (-1), yc 0)]), (2, [(0, 0, 5), (1, 0, 5)], [], [], [], [(0, yc 0, yc 0)]), (3, [(0, 0, 5), (1, 0, 5), (2, 0, 2147483647)], [], [], [], [(0, (1, 2, 0), yc 0)])], [(10, 10, 1000), (14, 14, 1), (14, 14, 2), (16, 35, 1000)])
def yx1174 : yCx := ([ys1147, ys881, ys915, ys1124, ys1106, ys1117], ys1174.2.2.2.2, yFP, zm131.2.2.1, zm131.2.2.2.1, zc131, 2, ys1174.2.2.2.1, [], [])
theorem yw1174 : ywf ys1174.2.2.1 = true := by decide +kernel
theorem yk1174 : yver yx1174 ys1174.2.2.1 4000 = true := by decide +kernel
theorem yt1174 {E : zHp → Prop} (h : yEF E yFP) : yTs E 5 ys1174 := yver_s (x := yx1174) h (yal_c (yt1147 h) (by decide) yw1147 (yal_c (yt881 h) (by decide) yw881 (yal_c (yt915 h) (by decide) yw915 (yal_c (yt1124 h) (by decide) yw1124 (yal_c (yt1106 h) (by decide) yw1106 (yal_c (yt1117 h) (by decide) yw1117 (yal_n))))))) yg131 yk1174
def ys1175 : ySp := (226, 3, (2, [(0, 0, 5), (1, 0, 5)], [], [], [(0, (2, yc 70, yc 0)), (1, (0, (1, 0, 0), yc 0)), (2, (0, (1, 1, 0), yc 0))], []), [(2, [], [], [], [], [(0, yc (-1), yc 0)]), (2, [], [], [], [], [(0, yc 0, yc 0)]), (3, [(2, 0, 2147483647)], [], [], [], [(0, (1, 2, 0), yc 0)])], [(70, 70, 25), (80, 80, 1000), (81, 81, 1000)])
def yx1175 : yCx := ([ys923, ys1073, ys662, ys0, ys636, ys637], ys1175.2.2.2.2, yFP, zm226.2.2.1, zm226.2.2.2.1, zc226, 2, ys1175.2.2.2.1, [], [])
theorem yw1175 : ywf ys1175.2.2.1 = true := by decide +kernel
theorem yk1175 : yver yx1175 ys1175.2.2.1 4000 = true := by decide +kernel
theorem yt1175 {E : zHp → Prop} (h : yXt E) : yTs E 5 ys1175 := yver_s (x := yx1175) h.1 (yal_c (yt923 h.1) (by decide) yw923 (yal_c (yt1073 h.1) (by decide) yw1073 (yal_c (yt662 h.1) (by decide) yw662 (yal_c (yl0 h) (by decide) yw0 (yal_c (yt636 h.1) (by decide) yw636 (yal_c (yt637 h.1) (by decide) yw637 (yal_n))))))) yg226 yk1175
def ys1176 : ySp := (226, 3, (2, [(0, (-2147483648), 2147483647), (1, (-2147483648), 2147483647)], [], [], [(0, (2, yc 70, yc 0)), (1, (0, (1, 0, 0), yc 0)), (2, (0, (1, 1, 0), yc 0))], []), [(2, [], [], [], [], [(0, yc (-1), yc 0)]), (2, [(0, 0, 5), (1, 0, 5)], [], [], [], [(0, yc 0, yc 0)]), (3, [(0, 0, 5), (1, 0, 5), (2, 0, 2147483647)], [], [], [], [(0, (1, 2, 0), yc 0)])], [(70, 70, 25), (80, 80, 1000), (81, 81, 1000)])
def yx1176 : yCx := ([ys923, ys1078, ys662, ys0, ys636, ys637], ys1176.2.2.2.2, yFP, zm226.2.2.1, zm226.2.2.2.1, zc226, 2, ys1176.2.2.2.1, [], [])
theorem yw1176 : ywf ys1176.2.2.1 = true := by decide +kernel
theorem yk1176 : yver yx1176 ys1176.2.2.1 4000 = true := by decide +kernel
theorem yt1176 {E : zHp → Prop} (h : yXt E) : yTs E 5 ys1176 := yver_s (x := yx1176) h.1 (yal_c (yt923 h.1) (by decide) yw923 (yal_c (yt1078 h.1) (by decide) yw1078 (yal_c (yt662 h.1) (by decide) yw662 (yal_c (yl0 h) (by decide) yw0 (yal_c (yt636 h.1) (by decide) yw636 (yal_c (yt637 h.1) (by decide) yw637 (yal_n))))))) yg226 yk1176
def ys1177 : ySp := (130, 4, (3, [(0, (-2147483648), 2147483647), (1, (-2147483648), 2147483647), (2, (-2147483648), 2147483647)], [], [], [(0, (2, yc 0, yc 0)), (1, (0, (1, 0, 0), yc 0)), (2, (0, (1, 1, 0), yc 0)), (3, (0, (1, 2, 0), yc 0))], []), [(3, [], [], [], [], [(0, yc (-1), yc 0)]), (3, [(0, 0, 5), (1, 0, 5), (2, 0, 0)], [], [], [], [(0, yc 0, yc 0)]), (3, [(0, 0, 5), (1, 0, 5), (2, 0, 0)], [], [], [], [(0, yc 1, yc 0)]), (4, [(0, 0, 5), (1, 0, 5), (2, 1, 1), (3, (-2147483648), 2147483647)], [], [], [], [(0, (1, 3, 0), yc 0)])], [])
def yx1177 : yCx := ([ys1159, ys899, ys920], ys1177.2.2.2.2, yFP, zm130.2.2.1, zm130.2.2.2.1, zc130, 3, ys1177.2.2.2.1, [], [])
theorem yw1177 : ywf ys1177.2.2.1 = true := by decide +kernel
theorem yk1177 : yver yx1177 ys1177.2.2.1 4000 = true := by decide +kernel
theorem yt1177 {E : zHp → Prop} (h : yEF E yFP) : yTs E 4 ys1177 := yver_s (x := yx1177) h (yal_c (yt1159 h) (by decide) yw1159 (yal_c (yt899 h) (by decide) yw899 (yal_c (yt920 h) (by decide) yw920 (yal_n)))) yg130 yk1177
def ys1178 : ySp := (219, 4, (3, [(0, 0, 5), (1, 0, 5), (2, 0, 1)], [], [], [(0, (2, yc 70, yc 0)), (1, (0, (1, 0, 0), yc 0)), (2, (0, (1, 1, 0), yc 0)), (3, (0, (1, 2, 0), yc 0))], []), [(3, [], [], [], [], [(0, yc (-1), yc 0)]), (3, [(2, 0, 0)], [], [], [], [(0, yc 0, yc 0)]), (3, [(2, 0, 0)], [], [], [], [(0, yc 1, yc 0)]), (4, [(2, 1, 1), (3, (-2147483648), 2147483647)], [], [], [], [(0, (1, 3, 0), yc 0)])], [])
def yx1178 : yCx := ([ys619, ys923, ys624, ys866], ys1178.2.2.2.2, yFP, zm219.2.2.1, zm219.2.2.2.1, zc219, 3, ys1178.2.2.2.1, [], [])
theorem yw1178 : ywf ys1178.2.2.1 = true := by decide +kernel
theorem yk1178 : yver yx1178 ys1178.2.2.1 4000 = true := by decide +kernel
theorem yt1178 {E : zHp → Prop} (h : yEF E yFP) : yTs E 2 ys1178 := yver_s (x := yx1178) h (yal_c (yt619 h) (by decide) yw619 (yal_c (yt923 h) (by decide) yw923 (yal_c (yt624 h) (by decide) yw624 (yal_c (yt866 h) (by decide) yw866 (yal_n))))) yg219 yk1178
def ys1179 : ySp := (219, 4, (3, [(0, (-2147483648), 2147483647), (1, (-2147483648), 2147483647), (2, (-2147483648), 2147483647)], [], [], [(0, (2, yc 70, yc 0)), (1, (0, (1, 0, 0), yc 0)), (2, (0, (1, 1, 0), yc 0)), (3, (0, (1, 2, 0), yc 0))], []), [(3, [], [], [], [], [(0, yc (-1), yc 0)]), (3, [(0, 0, 5), (1, 0, 5), (2, 0, 0)], [], [], [], [(0, yc 0, yc 0)]), (3, [(0, 0, 5), (1, 0, 5), (2, 0, 0)], [], [], [], [(0, yc 1, yc 0)]), (4, [(0, 0, 5), (1, 0, 5), (2, 1, 1), (3, (-2147483648), 2147483647)], [], [], [], [(0, (1, 3, 0), yc 0)])], [])
def yx1179 : yCx := ([ys683, ys923, ys624, ys866], ys1179.2.2.2.2, yFP, zm219.2.2.1, zm219.2.2.2.1, zc219, 3, ys1179.2.2.2.1, [], [])
theorem yw1179 : ywf ys1179.2.2.1 = true := by decide +kernel
theorem yk1179 : yver yx1179 ys1179.2.2.1 4000 = true := by decide +kernel
theorem yt1179 {E : zHp → Prop} (h : yEF E yFP) : yTs E 2 ys1179 := yver_s (x := yx1179) h (yal_c (yt683 h) (by decide) yw683 (yal_c (yt923 h) (by decide) yw923 (yal_c (yt624 h) (by decide) yw624 (yal_c (yt866 h) (by decide) yw866 (yal_n))))) yg219 yk1179
def ys1180 : ySp := (89, 3, (2, [(0, 0, 5), (1, 0, 4)], [], [], [(0, (2, yc 9, yc 0)), (1, (0, (1, 0, 0), yc 0)), (2, (0, (1, 1, 0), yc 0))], []), [(3, [(2, (-2147483648), 2147483647)], [], [], [], [(0, (1, 2, 0), yc 0)])], [])
def yx1180 : yCx := ([], ys1180.2.2.2.2, yFP, zm89.2.2.1, zm89.2.2.2.1, zc89, 2, ys1180.2.2.2.1, [], [])
theorem yw1180 : ywf ys1180.2.2.1 = true := by decide +kernel
theorem yk1180 : yver yx1180 ys1180.2.2.1 4000 = true := by decide +kernel
theorem yt1180 {E : zHp → Prop} (h : yEF E yFP) : yTs E 1 ys1180 := yver_s (x := yx1180) h (yal_n) yg89 yk1180
def ys1181 : ySp := (129, 3, (2, [(0, (-2147483648), 2147483647), (1, (-2147483648), 2147483647)], [], [], [(0, (2, yc 0, yc 0)), (1, (0, (1, 0, 0), yc 0)), (2, (0, (1, 1, 0), yc 0))], []), [(2, [(0, 0, 5), (1, 5, 5)], [], [], [], [(0, yc 0, yc 0)]), (2, [(0, 0, 5), (1, 5, 5)], [], [], [], [(0, yc 1, yc 0)]), (3, [(2, (-2147483648), 2147483647)], [], [], [], [(0, (1, 2, 0), yc 0)])], [])
def yx1181 : yCx := ([ys1164, ys1180, ys1131], ys1181.2.2.2.2, yFP, zm129.2.2.1, zm129.2.2.2.1, zc129, 2, ys1181.2.2.2.1, [], [])
theorem yw1181 : ywf ys1181.2.2.1 = true := by decide +kernel
theorem yk1181 : yver yx1181 ys1181.2.2.1 4000 = true := by decide +kernel
theorem yt1181 {E : zHp → Prop} (h : yEF E yFP) : yTs E 6 ys1181 := yver_s (x := yx1181) h (yal_c (yt1164 h) (by decide) yw1164 (yal_c (yt1180 h) (by decide) yw1180 (yal_c (yt1131 h) (by decide) yw1131 (yal_n)))) yg129 yk1181
def ys1182 : ySp := (158, 6, (1, [(0, (-9223372036854775808), 9223372036854775807)], [], [], [(0, (1, (1, 0, 0), yc 0)), (2, (1, yc 0, yc 0)), (4, (1, yc 5, yc 0))], []), [(1, [(0, (-9223372036854775808), (-1))], [], [], [], [(0, yc 0, yc 0)]), (1, [(0, 6, 9223372036854775807)], [], [], [], [(0, yc 0, yc 0)]), (1, [(0, 0, 5)], [], [], [], [(0, yc 1, yc 0)])], [])
def yx1182 : yCx := ([], ys1182.2.2.2.2, yFP, zm158.2.2.1, zm158.2.2.2.1, zc158, 1, ys1182.2.2.2.1, [], [])
theorem yw1182 : ywf ys1182.2.2.1 = true := by decide +kernel
theorem yk1182 : yver yx1182 ys1182.2.2.1 4000 = true := by decide +kernel
theorem yt1182 {E : zHp → Prop} (h : yEF E yFP) : yTs E 1 ys1182 := yver_s (x := yx1182) h (yal_n) yg158 yk1182
def ys1183 : ySp := (209, 3, (2, [(0, 0, 5), (1, 0, 3)], [], [], [(0, (2, yc 70, yc 0)), (1, (0, (1, 0, 0), yc 0)), (2, (0, (1, 1, 0), yc 0))], []), [(3, [(2, (-2147483648), 2147483647)], [], [], [], [(0, (1, 2, 0), yc 0)])], [])
def yx1183 : yCx := ([], ys1183.2.2.2.2, yFP, zm209.2.2.1, zm209.2.2.2.1, zc209, 2, ys1183.2.2.2.1, [], [])
theorem yw1183 : ywf ys1183.2.2.1 = true := by decide +kernel
theorem yk1183 : yver yx1183 ys1183.2.2.1 4000 = true := by decide +kernel
theorem yt1183 {E : zHp → Prop} (h : yEF E yFP) : yTs E 1 ys1183 := yver_s (x := yx1183) h (yal_n) yg209 yk1183
def ys1184 : ySp := (218, 3, (2, [(0, (-2147483648), 2147483647), (1, (-2147483648), 2147483647)], [], [], [(0, (2, yc 70, yc 0)), (1, (0, (1, 0, 0), yc 0)), (2, (0, (1, 1, 0), yc 0))], []), [(2, [(0, 0, 5), (1, 5, 5)], [], [], [], [(0, yc 0, yc 0)]), (2, [(0, 0, 5), (1, 5, 5)], [], [], [], [(0, yc 1, yc 0)]), (3, [(2, (-2147483648), 2147483647)], [], [], [], [(0, (1, 2, 0), yc 0)])], [])
def yx1184 : yCx := ([ys1182, ys1168, ys1183, ys675], ys1184.2.2.2.2, yFP, zm218.2.2.1, zm218.2.2.2.1, zc218, 2, ys1184.2.2.2.1, [], [])
theorem yw1184 : ywf ys1184.2.2.1 = true := by decide +kernel
theorem yk1184 : yver yx1184 ys1184.2.2.1 4000 = true := by decide +kernel
theorem yt1184 {E : zHp → Prop} (h : yEF E yFP) : yTs E 6 ys1184 := yver_s (x := yx1184) h (yal_c (yt1182 h) (by decide) yw1182 (yal_c (yt1168 h) (by decide) yw1168 (yal_c (yt1183 h) (by decide) yw1183 (yal_c (yt675 h) (by decide) yw675 (yal_n))))) yg218 yk1184
def ys1185 : ySp := (87, 3, (2, [(0, 0, 5), (1, 0, 6)], [], [], [(0, (2, yc 9, yc 0)), (1, (0, (1, 0, 0), yc 0)), (2, (0, (1, 1, 0), yc 0))], []), [(3, [(2, (-2147483648), 2147483647)], [], [], [], [(0, (1, 2, 0), yc 0)])], [])
def yx1185 : yCx := ([], ys1185.2.2.2.2, yFP, zm87.2.2.1, zm87.2.2.2.1, zc87, 2, ys1185.2.2.2.1, [], [])
theorem yw1185 : ywf ys1185.2.2.1 = true := by decide +kernel
theorem yk1185 : yver yx1185 ys1185.2.2.1 4000 = true := by decide +kernel
theorem yt1185 {E : zHp → Prop} (h : yEF E yFP) : yTs E 1 ys1185 := yver_s (x := yx1185) h (yal_n) yg87 yk1185
def ys1186 : ySp := (128, 3, (2, [(0, (-2147483648), 2147483647), (1, (-2147483648), 2147483647)], [], [], [(0, (2, yc 0, yc 0)), (1, (0, (1, 0, 0), yc 0)), (2, (0, (1, 1, 0), yc 0))], []), [(2, [], [], [], [], [(0, yc (-1), yc 0)]), (2, [(0, 0, 5), (1, 6, 6)], [], [], [], [(0, yc 0, yc 0)]), (3, [(0, 0, 5), (1, 0, 7), (2, (-2147483648), 2147483647)], [], [], [], [(0, (1, 2, 0), yc 0)])], [])
def yx1186 : yCx := ([ys881, ys1185, ys1034, ys1124], ys1186.2.2.2.2, yFP, zm128.2.2.1, zm128.2.2.2.1, zc128, 2, ys1186.2.2.2.1, [], [])
theorem yw1186 : ywf ys1186.2.2.1 = true := by decide +kernel
theorem yk1186 : yver yx1186 ys1186.2.2.1 4000 = true := by decide +kernel
theorem yt1186 {E : zHp → Prop} (h : yEF E yFP) : yTs E 5 ys1186 := yver_s (x := yx1186) h (yal_c (yt881 h) (by decide) yw881 (yal_c (yt1185 h) (by decide) yw1185 (yal_c (yt1034 h) (by decide) yw1034 (yal_c (yt1124 h) (by decide) yw1124 (yal_n))))) yg128 yk1186
def ys1187 : ySp := (208, 3, (2, [(0, 0, 5), (1, 0, 5)], [], [], [(0, (2, yc 70, yc 0)), (1, (0, (1, 0, 0), yc 0)), (2, (0, (1, 1, 0), yc 0))], []), [(3, [(2, (-2147483648), 2147483647)], [], [], [], [(0, (1, 2, 0), yc 0)])], [])
def yx1187 : yCx := ([], ys1187.2.2.2.2, yFP, zm208.2.2.1, zm208.2.2.2.1, zc208, 2, ys1187.2.2.2.1, [], [])
theorem yw1187 : ywf ys1187.2.2.1 = true := by decide +kernel
theorem yk1187 : yver yx1187 ys1187.2.2.1 4000 = true := by decide +kernel
theorem yt1187 {E : zHp → Prop} (h : yEF E yFP) : yTs E 1 ys1187 := yver_s (x := yx1187) h (yal_n) yg208 yk1187
def ys1188 : ySp := (217, 3, (2, [(0, 0, 5), (1, 0, 7)], [], [], [(0, (2, yc 70, yc 0)), (1, (0, (1, 0, 0), yc 0)), (2, (0, (1, 1, 0), yc 0))], []), [(2, [], [], [], [], [(0, yc (-1), yc 0)]), (2, [(1, 6, 7)], [], [], [], [(0, yc 0, yc 0)]), (3, [(2, (-2147483648), 2147483647)], [], [], [], [(0, (1, 2, 0), yc 0)])], [])
def yx1188 : yCx := ([ys937, ys1073, ys1187, ys661, ys662], ys1188.2.2.2.2, yFP, zm217.2.2.1, zm217.2.2.2.1, zc217, 2, ys1188.2.2.2.1, [], [])
theorem yw1188 : ywf ys1188.2.2.1 = true := by decide +kernel
theorem yk1188 : yver yx1188 ys1188.2.2.1 4000 = true := by decide +kernel
theorem yt1188 {E : zHp → Prop} (h : yEF E yFP) : yTs E 5 ys1188 := yver_s (x := yx1188) h (yal_c (yt937 h) (by decide) yw937 (yal_c (yt1073 h) (by decide) yw1073 (yal_c (yt1187 h) (by decide) yw1187 (yal_c (yt661 h) (by decide) yw661 (yal_c (yt662 h) (by decide) yw662 (yal_n)))))) yg217 yk1188
def ys1189 : ySp := (217, 3, (2, [(0, (-2147483648), 2147483647), (1, (-2147483648), 2147483647)], [], [], [(0, (2, yc 70, yc 0)), (1, (0, (1, 0, 0), yc 0)), (2, (0, (1, 1, 0), yc 0))], []), [(2, [], [], [], [], [(0, yc (-1), yc 0)]), (2, [(0, 0, 5), (1, 6, 7)], [], [], [], [(0, yc 0, yc 0)]), (3, [(0, 0, 5), (1, 0, 7), (2, (-2147483648), 2147483647)], [], [], [], [(0, (1, 2, 0), yc 0)])], [])
def yx1189 : yCx := ([ys986, ys1078, ys1187, ys661, ys662], ys1189.2.2.2.2, yFP, zm217.2.2.1, zm217.2.2.2.1, zc217, 2, ys1189.2.2.2.1, [], [])
theorem yw1189 : ywf ys1189.2.2.1 = true := by decide +kernel
theorem yk1189 : yver yx1189 ys1189.2.2.1 4000 = true := by decide +kernel
theorem yt1189 {E : zHp → Prop} (h : yEF E yFP) : yTs E 5 ys1189 := yver_s (x := yx1189) h (yal_c (yt986 h) (by decide) yw986 (yal_c (yt1078 h) (by decide) yw1078 (yal_c (yt1187 h) (by decide) yw1187 (yal_c (yt661 h) (by decide) yw661 (yal_c (yt662 h) (by decide) yw662 (yal_n)))))) yg217 yk1189
def ys1190 : ySp := (283, 1, (0, [], [], [], [(0, (2, yc 1001, yc 0))], []), [(0, [], [], [], [], [(0, yc 0, yc 0)])], [])
def yx1190 : yCx := ([], ys1190.2.2.2.2, yFP, zm283.2.2.1, zm283.2.2.2.1, zc283, 0, ys1190.2.2.2.1, [], [])
theorem yw1190 : ywf ys1190.2.2.1 = true := by decide +kernel
theorem yk1190 : yver yx1190 ys1190.2.2.1 4000 = true := by decide +kernel
theorem yt1190 {E : zHp → Prop} (h : yEF E yFP) : yTs E 1 ys1190 := yver_s (x := yx1190) h (yal_n) yg283 yk1190
def ys1191 : ySp := (281, 1, (0, [], [], [], [(0, (2, yc 1001, yc 0))], []), [(0, [], [], [], [], [(0, yc 31, yc 0)])], [])
def yx1191 : yCx := ([ys1190], ys1191.2.2.2.2, yFP, zm281.2.2.1, zm281.2.2.2.1, zc281, 0, ys1191.2.2.2.1, [], [])
theorem yw1191 : ywf ys1191.2.2.1 = true := by decide +kernel
theorem yk1191 : yver yx1191 ys1191.2.2.1 4000 = true := by decide +kernel
theorem yt1191 {E : zHp → Prop} (h : yEF E yFP) : yTs E 2 ys1191 := yver_s (x := yx1191) h (yal_c (yt1190 h) (by decide) yw1190 (yal_n)) yg281 yk1191
def ys1192 : ySp := (284, 1, (0, [], [], [], [(0, (2, yc 1001, yc 0))], []), [(0, [], [], [], [], [(0, yc 1, yc 0)])], [])
def yx1192 : yCx := ([], ys1192.2.2.2.2, yFP, zm284.2.2.1, zm284.2.2.2.1, zc284, 0, ys1192.2.2.2.1, [], [])
theorem yw1192 : ywf ys1192.2.2.1 = true := by decide +kernel
theorem yk1192 : yver yx1192 ys1192.2.2.1 4000 = true := by decide +kernel
theorem yt1192 {E : zHp → Prop} (h : yEF E yFP) : yTs E 1 ys1192 := yver_s (x := yx1192) h (yal_n) yg284 yk1192
def ys1193 : ySp := (293, 3, (0, [], [], [], [(0, (0, yc 0, yc 0)), (1, (0, yc 31, yc 0)), (2, (7, yc 0, yc 0))], []), [(0, [], [], [], [], [(0, yc 0, yc 0)])], [])
def yx1193 : yCx := ([], ys1193.2.2.2.2, yFP, zm293.2.2.1, zm293.2.2.2.1, zc293, 0, ys1193.2.2.2.1, [], [])
theorem yw1193 : ywf ys1193.2.2.1 = true := by decide +kernel
theorem yk1193 : yver yx1193 ys1193.2.2.1 4000 = true := by decide +kernel
theorem yt1193 {E : zHp → Prop} (h : yEF E yFP) : yTs E 1 ys1193 := yver_s (x := yx1193) h (yal_n) yg293 yk1193
def ys1194 : ySp := (285, 2, (0, [], [], [], [(0, (0, yc 0, yc 0)), (1, (0, yc 31, yc 0))], []), [(0, [], [], [], [], [])], [])
def yx1194 : yCx := ([ys1193], ys1194.2.2.2.2, yFP, zm285.2.2.1, zm285.2.2.2.1, zc285, 0, ys1194.2.2.2.1, [], [])
theorem yw1194 : ywf ys1194.2.2.1 = true := by decide +kernel
theorem yk1194 : yver yx1194 ys1194.2.2.1 4000 = true := by decide +kernel
theorem yt1194 {E : zHp → Prop} (h : yEF E yFP) : yTs E 2 ys1194 := yver_s (x := yx1194) h (yal_c (yt1193 h) (by decide) yw1193 (yal_n)) yg285 yk1194
def ys1195 : ySp := (286, 2, (0, [], [], [], [(0, (2, yc 1020, yc 0)), (1, (0, yc 0, yc 0))], []), [(0, [], [], [], [], [(0, yc 118, yc 0)])], [])
def yx1195 : yCx := ([ys1194], ys1195.2.2.2.2, yFP, zm286.2.2.1, zm286.2.2.2.1, zc286, 0, ys1195.2.2.2.1, [], [])
theorem yw1195 : ywf ys1195.2.2.1 = true := by decide +kernel
theorem yk1195 : yver yx1195 ys1195.2.2.1 4000 = true := by decide +kernel
theorem yt1195 {E : zHp → Prop} (h : yEF E yFP) : yTs E 3 ys1195 := yver_s (x := yx1195) h (yal_c (yt1194 h) (by decide) yw1194 (yal_n)) yg286 yk1195
def ys1196 : ySp := (282, 2, (0, [], [], [], [(0, (2, yc 1001, yc 0)), (1, (0, yc 0, yc 0))], []), [(0, [], [], [], [], [(0, yc 118, yc 0)])], [])
def yx1196 : yCx := ([ys1192, ys1195], ys1196.2.2.2.2, yFP, zm282.2.2.1, zm282.2.2.2.1, zc282, 0, ys1196.2.2.2.1, [], [])
theorem yw1196 : ywf ys1196.2.2.1 = true := by decide +kernel
theorem yk1196 : yver yx1196 ys1196.2.2.1 4000 = true := by decide +kernel
theorem yt1196 {E : zHp → Prop} (h : yEF E yFP) : yTs E 4 ys1196 := yver_s (x := yx1196) h (yal_c (yt1192 h) (by decide) yw1192 (yal_c (yt1195 h) (by decide) yw1195 (yal_n))) yg282 yk1196
def ys1197 : ySp := (293, 3, (0, [], [], [], [(0, (0, yc 1, yc 0)), (1, (0, yc 31, yc 0)), (2, (7, yc 0, yc 0))], []), [(0, [], [], [], [], [(0, yc 1, yc 0)])], [])
def yx1197 : yCx := ([], ys1197.2.2.2.2, yFP, zm293.2.2.1, zm293.2.2.2.1, zc293, 0, ys1197.2.2.2.1, [], [])
theorem yw1197 : ywf ys1197.2.2.1 = true := by decide +kernel
theorem yk1197 : yver yx1197 ys1197.2.2.1 4000 = true := by decide +kernel
theorem yt1197 {E : zHp → Prop} (h : yEF E yFP) : yTs E 1 ys1197 := yver_s (x := yx1197) h (yal_n) yg293 yk1197
def ys1198 : ySp := (285, 2, (0, [], [], [], [(0, (0, yc 1, yc 0)), (1, (0, yc 31, yc 0))], []), [(0, [], [], [], [], [])], [])
def yx1198 : yCx := ([ys1197], ys1198.2.2.2.2, yFP, zm285.2.2.1, zm285.2.2.2.1, zc285, 0, ys1198.2.2.2.1, [], [])
theorem yw1198 : ywf ys1198.2.2.1 = true := by decide +kernel
theorem yk1198 : yver yx1198 ys1198.2.2.1 4000 = true := by decide +kernel
theorem yt1198 {E : zHp → Prop} (h : yEF E yFP) : yTs E 2 ys1198 := yver_s (x := yx1198) h (yal_c (yt1197 h) (by decide) yw1197 (yal_n)) yg285 yk1198
def ys1199 : ySp := (286, 2, (0, [], [], [], [(0, (2, yc 1020, yc 0)), (1, (0, yc 1, yc 0))], []), [(0, [], [], [], [], [(0, yc 105, yc 0)])], [])
def yx1199 : yCx := ([ys1198], ys1199.2.2.2.2, yFP, zm286.2.2.1, zm286.2.2.2.1, zc286, 0, ys1199.2.2.2.1, [], [])
theorem yw1199 : ywf ys1199.2.2.1 = true := by decide +kernel
theorem yk1199 : yver yx1199 ys1199.2.2.1 4000 = true := by decide +kernel
theorem yt1199 {E : zHp → Prop} (h : yEF E yFP) : yTs E 3 ys1199 := yver_s (x := yx1199) h (yal_c (yt1198 h) (by decide) yw1198 (yal_n)) yg286 yk1199
def ys1200 : ySp := (282, 2, (0, [], [], [], [(0, (2, yc 1001, yc 0)), (1, (0, yc 1, yc 0))], []), [(0, [], [], [], [], [(0, yc 105, yc 0)])], [])
def yx1200 : yCx := ([ys1192, ys1199], ys1200.2.2.2.2, yFP, zm282.2.2.1, zm282.2.2.2.1, zc282, 0, ys1200.2.2.2.1, [], [])
theorem yw1200 : ywf ys1200.2.2.1 = true := by decide +kernel
theorem yk1200 : yver yx1200 ys1200.2.2.1 4000 = true := by decide +kernel
theorem yt1200 {E : zHp → Prop} (h : yEF E yFP) : yTs E 4 ys1200 := yver_s (x := yx1200) h (yal_c (yt1192 h) (by decide) yw1192 (yal_c (yt1199 h) (by decide) yw1199 (yal_n))) yg282 yk1200
def ys1201 : ySp := (293, 3, (0, [], [], [], [(0, (0, yc 2, yc 0)), (1, (0, yc 31, yc 0)), (2, (7, yc 0, yc 0))], []), [(0, [], [], [], [], [(0, yc 2, yc 0)])], [])
def yx1201 : yCx := ([], ys1201.2.2.2.2, yFP, zm293.2.2.1, zm293.2.2.2.1, zc293, 0, ys1201.2.2.2.1, [], [])
theorem yw1201 : ywf ys1201.2.2.1 = true := by decide +kernel
theorem yk1201 : yver yx1201 ys1201.2.2.1 4000 = true := by decide +kernel
theorem yt1201 {E : zHp → Prop} (h : yEF E yFP) : yTs E 1 ys1201 := yver_s (x := yx1201) h (yal_n) yg293 yk1201
def ys1202 : ySp := (285, 2, (0, [], [], [], [(0, (0, yc 2, yc 0)), (1, (0, yc 31, yc 0))], []), [(0, [], [], [], [], [])], [])
def yx1202 : yCx := ([ys1201], ys1202.2.2.2.2, yFP, zm285.2.2.1, zm285.2.2.2.1, zc285, 0, ys1202.2.2.2.1, [], [])
theorem yw1202 : ywf ys1202.2.2.1 = true := by decide +kernel
theorem yk1202 : yver yx1202 ys1202.2.2.1 4000 = true := by decide +kernel
theorem yt1202 {E : zHp → Prop} (h : yEF E yFP) : yTs E 2 ys1202 := yver_s (x := yx1202) h (yal_c (yt1201 h) (by decide) yw1201 (yal_n)) yg285 yk1202
def ys1203 : ySp := (286, 2, (0, [], [], [], [(0, (2, yc 1020, yc 0)), (1, (0, yc 2, yc 0))], []), [(0, [], [], [], [], [(0, yc 108, yc 0)])], [])
def yx1203 : yCx := ([ys1202], ys1203.2.2.2.2, yFP, zm286.2.2.1, zm286.2.2.2.1, zc286, 0, ys1203.2.2.2.1, [], [])
theorem yw1203 : ywf ys1203.2.2.1 = true := by decide +kernel
theorem yk1203 : yver yx1203 ys1203.2.2.1 4000 = true := by decide +kernel
theorem yt1203 {E : zHp → Prop} (h : yEF E yFP) : yTs E 3 ys1203 := yver_s (x := yx1203) h (yal_c (yt1202 h) (by decide) yw1202 (yal_n)) yg286 yk1203
def ys1204 : ySp := (282, 2, (0, [], [], [], [(0, (2, yc 1001, yc 0)), (1, (0, yc 2, yc 0))], []), [(0, [], [], [], [], [(0, yc 108, yc 0)])], [])
def yx1204 : yCx := ([ys1192, ys1203], ys1204.2.2.2.2, yFP, zm282.2.2.1, zm282.2.2.2.1, zc282, 0, ys1204.2.2.2.1, [], [])
theorem yw1204 : ywf ys1204.2.2.1 = true := by decide +kernel
theorem yk1204 : yver yx1204 ys1204.2.2.1 4000 = true := by decide +kernel
theorem yt1204 {E : zHp → Prop} (h : yEF E yFP) : yTs E 4 ys1204 := yver_s (x := yx1204) h (yal_c (yt1192 h) (by decide) yw1192 (yal_c (yt1203 h) (by decide) yw1203 (yal_n))) yg282 yk1204
def ys1205 : ySp := (293, 3, (0, [], [], [], [(0, (0, yc 3, yc 0)), (1, (0, yc 31, yc 0)), (2, (7, yc 0, yc 0))], []), [(0, [], [], [], [], [(0, yc 3, yc 0)])], [])
def yx1205 : yCx := ([], ys1205.2.2.2.2, yFP, zm293.2.2.1, zm293.2.2.2.1, zc293, 0, ys1205.2.2.2.1, [], [])
theorem yw1205 : ywf ys1205.2.2.1 = true := by decide +kernel
theorem yk1205 : yver yx1205 ys1205.2.2.1 4000 = true := by decide +kernel
theorem yt1205 {E : zHp → Prop} (h : yEF E yFP) : yTs E 1 ys1205 := yver_s (x := yx1205) h (yal_n) yg293 yk1205
def ys1206 : ySp := (285, 2, (0, [], [], [], [(0, (0, yc 3, yc 0)), (1, (0, yc 31, yc 0))], []), [(0, [], [], [], [], [])], [])
def yx1206 : yCx := ([ys1205], ys1206.2.2.2.2, yFP, zm285.2.2.1, zm285.2.2.2.1, zc285, 0, ys1206.2.2.2.1, [], [])
theorem yw1206 : ywf ys1206.2.2.1 = true := by decide +kernel
theorem yk1206 : yver yx1206 ys1206.2.2.1 4000 = true := by decide +kernel
theorem yt1206 {E : zHp → Prop} (h : yEF E yFP) : yTs E 2 ys1206 := yver_s (x := yx1206) h (yal_c (yt1205 h) (by decide) yw1205 (yal_n)) yg285 yk1206
def ys1207 : ySp := (286, 2, (0, [], [], [], [(0, (2, yc 1020, yc 0)), (1, (0, yc 3, yc 0))], []), [(0, [], [], [], [], [(0, yc 108, yc 0)])], [])
def yx1207 : yCx := ([ys1206], ys1207.2.2.2.2, yFP, zm286.2.2.1, zm286.2.2.2.1, zc286, 0, ys1207.2.2.2.1, [], [])
theorem yw1207 : ywf ys1207.2.2.1 = true := by decide +kernel
theorem yk1207 : yver yx1207 ys1207.2.2.1 4000 = true := by decide +kernel
theorem yt1207 {E : zHp → Prop} (h : yEF E yFP) : yTs E 3 ys1207 := yver_s (x := yx1207) h (yal_c (yt1206 h) (by decide) yw1206 (yal_n)) yg286 yk1207
def ys1208 : ySp := (282, 2, (0, [], [], [], [(0, (2, yc 1001, yc 0)), (1, (0, yc 3, yc 0))], []), [(0, [], [], [], [], [(0, yc 108, yc 0)])], [])
def yx1208 : yCx := ([ys1192, ys1207], ys1208.2.2.2.2, yFP, zm282.2.2.1, zm282.2.2.2.1, zc282, 0, ys1208.2.2.2.1, [], [])
theorem yw1208 : ywf ys1208.2.2.1 = true := by decide +kernel
theorem yk1208 : yver yx1208 ys1208.2.2.1 4000 = true := by decide +kernel
theorem yt1208 {E : zHp → Prop} (h : yEF E yFP) : yTs E 4 ys1208 := yver_s (x := yx1208) h (yal_c (yt1192 h) (by decide) yw1192 (yal_c (yt1207 h) (by decide) yw1207 (yal_n))) yg282 yk1208
def ys1209 : ySp := (293, 3, (0, [], [], [], [(0, (0, yc 4, yc 0)), (1, (0, yc 31, yc 0)), (2, (7, yc 0, yc 0))], []), [(0, [], [], [], [], [(0, yc 4, yc 0)])], [])
def yx1209 : yCx := ([], ys1209.2.2.2.2, yFP, zm293.2.2.1, zm293.2.2.2.1, zc293, 0, ys1209.2.2.2.1, [], [])
theorem yw1209 : ywf ys1209.2.2.1 = true := by decide +kernel
theorem yk1209 : yver yx1209 ys1209.2.2.1 4000 = true := by decide +kernel
theorem yt1209 {E : zHp → Prop} (h : yEF E yFP) : yTs E 1 ys1209 := yver_s (x := yx1209) h (yal_n) yg293 yk1209
def ys1210 : ySp := (285, 2, (0, [], [], [], [(0, (0, yc 4, yc 0)), (1, (0, yc 31, yc 0))], []), [(0, [], [], [], [], [])], [])
def yx1210 : yCx := ([ys1209], ys1210.2.2.2.2, yFP, zm285.2.2.1, zm285.2.2.2.1, zc285, 0, ys1210.2.2.2.1, [], [])
theorem yw1210 : ywf ys1210.2.2.1 = true := by decide +kernel
theorem yk1210 : yver yx1210 ys1210.2.2.1 4000 = true := by decide +kernel
theorem yt1210 {E : zHp → Prop} (h : yEF E yFP) : yTs E 2 ys1210 := yver_s (x := yx1210) h (yal_c (yt1209 h) (by decide) yw1209 (yal_n)) yg285 yk1210
def ys1211 : ySp := (286, 2, (0, [], [], [], [(0, (2, yc 1020, yc 0)), (1, (0, yc 4, yc 0))], []), [(0, [], [], [], [], [(0, yc 97, yc 0)])], [])
def yx1211 : yCx := ([ys1210], ys1211.2.2.2.2, yFP, zm286.2.2.1, zm286.2.2.2.1, zc286, 0, ys1211.2.2.2.1, [], [])
theorem yw1211 : ywf ys1211.2.2.1 = true := by decide +kernel
theorem yk1211 : yver yx1211 ys1211.2.2.1 4000 = true := by decide +kernel
theorem yt1211 {E : zHp → Prop} (h : yEF E yFP) : yTs E 3 ys1211 := yver_s (x := yx1211) h (yal_c (yt1210 h) (by decide) yw1210 (yal_n)) yg286 yk1211
