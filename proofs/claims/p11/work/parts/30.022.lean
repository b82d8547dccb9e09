def ys1194 : ySp := (158, 6, (1, [(0, 0, 2147483647)], [], [], [(0, (1, (1, 0, 0), yc 0)), (2, (1, yc 0, yc 0)), (4, (1, yc 2, yc 0))], []), [(1, [(0, 3, 2147483647)], [], [], [], [(0, yc 0, yc 0)]), (1, [(0, 0, 2)], [], [], [], [(0, yc 1, yc 0)])], [])
def yx1194 : yCx := ([], ys1194.2.2.2.2, yFP, zm158.2.2.1, zm158.2.2.2.1, zc158, 1, ys1194.2.2.2.1, [], [])
theorem yw1194 : ywf ys1194.2.2.1 = true := by decide +kernel
theorem yk1194 : yver yx1194 ys1194.2.2.1 4000 = true := yverQ_ok (by decide +kernel)
theorem yt1194 {E : zHp → Prop} (h : yEF E yFP) : yTs E 1 ys1194 := yver_s (x := yx1194) h (yal_n) yg158 yk1194
def ys1196 : ySp := (214, 4, (2, [(0, 0, 5), (1, 0, 5)], [], [], [(0, (2, yc 70, yc 0)), (1, (0, (1, 0, 0), yc 0)), (2, (0, (1, 1, 0), yc 0))], []), [(2, [], [], [], [], [(0, yc 0, yc 0)]), (3, [(2, 0, 2147483647)], [], [], [], [(0, (1, 2, 0), yc 0)])], [])
def yx1196 : yCx := ([ys811, ys812, ys810, ys814], ys1196.2.2.2.2, yFP, zm214.2.2.1, zm214.2.2.2.1, zc214, 2, ys1196.2.2.2.1, [], [])
theorem yw1196 : ywf ys1196.2.2.1 = true := by decide +kernel
theorem yk1196 : yver yx1196 ys1196.2.2.1 4000 = true := yverQ_ok (by decide +kernel)
theorem yt1196 {E : zHp → Prop} (h : yEF E yFP) : yTs E 4 ys1196 := yver_s (x := yx1196) h (yal_c (yt811 h) (by decide) yw811 (yal_c (yt812 h) (by decide) yw812 (yal_c (yt810 h) (by decide) yw810 (yal_c (yt814 h) (by decide) yw814 (yal_n))))) yg214 yk1196
def ys1197 : ySp := (253, 6, (1, [(0, (-1), 5)], [], [], [(0, (2, yc 70, yc 0)), (1, (0, (1, 0, 0), yc 0))], []), [(1, [], [], [], [], [])], [(70, 70, 27), (82, 82, 1000)])
def yx1197 : yCx := ([ys809, ys825, ys826, ys827, ys815, ys1196, ys668, ys987], ys1197.2.2.2.2, yFP, zm253.2.2.1, zm253.2.2.2.1, zc253, 1, ys1197.2.2.2.1, [(2, (2, [(0, (-1), 5), (1, 0, 6)], [], [], [(0, (2, yc 70, yc 0)), (1, (0, (1, 0, 0), yc 0)), (2, (0, (1, 1, 0), yc 0))], []), ([((-9), 1)], 63)), (14, (4, [(0, (-1), 5), (1, 0, 5), (2, 0, 6), (3, 1, 6)], [], [(yc 80, yc 2, (0, (1, 3, 0), yc 0))], [(0, (2, yc 70, yc 0)), (1, (0, (1, 0, 0), yc 0)), (2, (0, (1, 1, 0), yc 0)), (3, (0, (1, 2, 0), yc 0))], []), ([((-1), 2), ((-9), 1)], 61))], [])
theorem yw1197 : ywf ys1197.2.2.1 = true := by decide +kernel
theorem yk1197 : yver yx1197 ys1197.2.2.1 4000 = true := yverQ_ok (by decide +kernel)
theorem yt1197 {E : zHp → Prop} (h : yEF E yFP) : yTs E 7 ys1197 := yver_s (x := yx1197) h (yal_c (yt809 h) (by decide) yw809 (yal_c (yt825 h) (by decide) yw825 (yal_c (yt826 h) (by decide) yw826 (yal_c (yt827 h) (by decide) yw827 (yal_c (yt815 h) (by decide) yw815 (yal_c (yt1196 h) (by decide) yw1196 (yal_c (yt668 h) (by decide) yw668 (yal_c (yt987 h) (by decide) yw987 (yal_n))))))))) yg253 yk1197
def ys1198 : ySp := (235, 4, (2, [(0, 1, 7), (1, 0, 6)], [], [], [(0, (0, (1, 0, 0), yc 0)), (1, (0, (1, 1, 0), yc 0))], []), [(2, [(1, 0, 0)], [], [], [], [(0, yc 1, yc 0)]), (3, [(1, 1, 6), (2, 1, 117649)], [], [], [], [(0, (1, 2, 0), yc 0)])], [])
def yq1198_0 : yCu := (4, (2, [(0, 1, 7), (1, 0, 6)], [], [], [(0, (0, (1, 0, 0), yc 0)), (1, (0, (1, 1, 0), yc 0)), (2, (0, yc 1, yc 0)), (3, (0, yc 0, yc 0))], []), ([], 6))
def yq1198_1 : yCu := (4, (2, [(0, 1, 7), (1, 1, 6)], [], [], [(0, (0, (1, 0, 0), yc 0)), (1, (0, (1, 1, 0), yc 0)), (2, (0, (1, 0, 0), yc 0)), (3, (0, yc 1, yc 0))], []), ([], 5))
def yq1198_2 : yCu := (4, (3, [(0, 1, 7), (1, 2, 6), (2, 1, 49)], [], [], [(0, (0, (1, 0, 0), yc 0)), (1, (0, (1, 1, 0), yc 0)), (2, (0, (1, 2, 0), yc 0)), (3, (0, yc 2, yc 0))], []), ([], 4))
def yq1198_3 : yCu := (4, (3, [(0, 1, 7), (1, 3, 6), (2, 1, 343)], [], [], [(0, (0, (1, 0, 0), yc 0)), (1, (0, (1, 1, 0), yc 0)), (2, (0, (1, 2, 0), yc 0)), (3, (0, yc 3, yc 0))], []), ([], 3))
def yq1198_4 : yCu := (4, (3, [(0, 1, 7), (1, 4, 6), (2, 1, 2401)], [], [], [(0, (0, (1, 0, 0), yc 0)), (1, (0, (1, 1, 0), yc 0)), (2, (0, (1, 2, 0), yc 0)), (3, (0, yc 4, yc 0))], []), ([], 2))
def yq1198_5 : yCu := (4, (3, [(0, 1, 7), (1, 5, 6), (2, 1, 16807)], [], [], [(0, (0, (1, 0, 0), yc 0)), (1, (0, (1, 1, 0), yc 0)), (2, (0, (1, 2, 0), yc 0)), (3, (0, yc 5, yc 0))], []), ([], 1))
def yq1198_6 : yCu := (4, (3, [(0, 1, 7), (1, 6, 6), (2, 1, 117649)], [], [], [(0, (0, (1, 0, 0), yc 0)), (1, (0, yc 6, yc 0)), (2, (0, (1, 2, 0), yc 0)), (3, (0, yc 6, yc 0))], []), ([], 0))
def yx1198 : yCx := ([], ys1198.2.2.2.2, yFP, zm235.2.2.1, zm235.2.2.2.1, zc235, 2, ys1198.2.2.2.1, [yq1198_0, yq1198_1, yq1198_2, yq1198_3, yq1198_4, yq1198_5, yq1198_6], [])
theorem yw1198 : ywf ys1198.2.2.1 = true := by decide +kernel
theorem yk1198_e : yver0 yx1198 ys1198.2.2.1 4000 = true := yver0Q_ok (by decide +kernel)
theorem yk1198_0 : ycc yx1198 4000 yq1198_0 = true := yccQ_ok (by decide +kernel)
theorem yk1198_1 : ycc yx1198 4000 yq1198_1 = true := yccQ_ok (by decide +kernel)
theorem yk1198_2 : ycc yx1198 4000 yq1198_2 = true := yccQ_ok (by decide +kernel)
theorem yk1198_3 : ycc yx1198 4000 yq1198_3 = true := yccQ_ok (by decide +kernel)
theorem yk1198_4 : ycc yx1198 4000 yq1198_4 = true := yccQ_ok (by decide +kernel)
theorem yk1198_5 : ycc yx1198 4000 yq1198_5 = true := yccQ_ok (by decide +kernel)
theorem yk1198_6 : ycc yx1198 4000 yq1198_6 = true := yccQ_ok (by decide +kernel)
theorem yk1198 : yver yx1198 ys1198.2.2.1 4000 = true := yver_join yk1198_e (ycc_c yk1198_0 (ycc_c yk1198_1 (ycc_c yk1198_2 (ycc_c yk1198_3 (ycc_c yk1198_4 (ycc_c yk1198_5 (ycc_c yk1198_6 (ycc_n))))))))
theorem yt1198 {E : zHp → Prop} (h : yEF E yFP) : yTs E 1 ys1198 := yver_s (x := yx1198) h (yal_n) yg235 yk1198
def ys1199 : ySp := (235, 4, (2, [(0, 1, 7), (1, (-7), 7)], [], [], [(0, (0, (1, 0, 0), yc 0)), (1, (0, (1, 1, 0), yc 0))], []), [(2, [(1, (-7), 0)], [], [], [], [(0, yc 1, yc 0)]), (3, [(1, 1, 7), (2, 1, 823543)], [], [], [], [(0, (1, 2, 0), yc 0)])], [])
def yq1199_0 : yCu := (4, (2, [(0, 1, 7), (1, (-7), 7)], [], [], [(0, (0, (1, 0, 0), yc 0)), (1, (0, (1, 1, 0), yc 0)), (2, (0, yc 1, yc 0)), (3, (0, yc 0, yc 0))], []), ([], 7))
def yq1199_1 : yCu := (4, (2, [(0, 1, 7), (1, 1, 7)], [], [], [(0, (0, (1, 0, 0), yc 0)), (1, (0, (1, 1, 0), yc 0)), (2, (0, (1, 0, 0), yc 0)), (3, (0, yc 1, yc 0))], []), ([], 6))
def yq1199_2 : yCu := (4, (3, [(0, 1, 7), (1, 2, 7), (2, 1, 49)], [], [], [(0, (0, (1, 0, 0), yc 0)), (1, (0, (1, 1, 0), yc 0)), (2, (0, (1, 2, 0), yc 0)), (3, (0, yc 2, yc 0))], []), ([], 5))
def yq1199_3 : yCu := (4, (3, [(0, 1, 7), (1, 3, 7), (2, 1, 343)], [], [], [(0, (0, (1, 0, 0), yc 0)), (1, (0, (1, 1, 0), yc 0)), (2, (0, (1, 2, 0), yc 0)), (3, (0, yc 3, yc 0))], []), ([], 4))
def yq1199_4 : yCu := (4, (3, [(0, 1, 7), (1, 4, 7), (2, 1, 2401)], [], [], [(0, (0, (1, 0, 0), yc 0)), (1, (0, (1, 1, 0), yc 0)), (2, (0, (1, 2, 0), yc 0)), (3, (0, yc 4, yc 0))], []), ([], 3))
def yq1199_5 : yCu := (4, (3, [(0, 1, 7), (1, 5, 7), (2, 1, 16807)], [], [], [(0, (0, (1, 0, 0), yc 0)), (1, (0, (1, 1, 0), yc 0)), (2, (0, (1, 2, 0), yc 0)), (3, (0, yc 5, yc 0))], []), ([], 2))
def yq1199_6 : yCu := (4, (3, [(0, 1, 7), (1, 6, 7), (2, 1, 117649)], [], [], [(0, (0, (1, 0, 0), yc 0)), (1, (0, (1, 1, 0), yc 0)), (2, (0, (1, 2, 0), yc 0)), (3, (0, yc 6, yc 0))], []), ([], 1))
def yq1199_7 : yCu := (4, (3, [(0, 1, 7), (1, 7, 7), (2, 1, 823543)], [], [], [(0, (0, (1, 0, 0), yc 0)), (1, (0, yc 7, yc 0)), (2, (0, (1, 2, 0), yc 0)), (3, (0, yc 7, yc 0))], []), ([], 0))
def yx1199 : yCx := ([], ys1199.2.2.2.2, yFP, zm235.2.2.1, zm235.2.2.2.1, zc235, 2, ys1199.2.2.2.1, [yq1199_0, yq1199_1, yq1199_2, yq1199_3, yq1199_4, yq1199_5, yq1199_6, yq1199_7], [])
theorem yw1199 : ywf ys1199.2.2.1 = true := by decide +kernel
theorem yk1199_e : yver0 yx1199 ys1199.2.2.1 4000 = true := yver0Q_ok (by decide +kernel)
theorem yk1199_0 : ycc yx1199 4000 yq1199_0 = true := yccQ_ok (by decide +kernel)
theorem yk1199_1 : ycc yx1199 4000 yq1199_1 = true := yccQ_ok (by decide +kernel)
theorem yk1199_2 : ycc yx1199 4000 yq1199_2 = true := yccQ_ok (by decide +kernel)
theorem yk1199_3 : ycc yx1199 4000 yq1199_3 = true := yccQ_ok (by decide +kernel)
theorem yk1199_4 : ycc yx1199 4000 yq1199_4 = true := yccQ_ok (by decide +kernel)
theorem yk1199_5 : ycc yx1199 4000 yq1199_5 = true := yccQ_ok (by decide +kernel)
theorem yk1199_6 : ycc yx1199 4000 yq1199_6 = true := yccQ_ok (by decide +kernel)
theorem yk1199_7 : ycc yx1199 4000 yq1199_7 = true := yccQ_ok (by decide +kernel)
theorem yk1199 : yver yx1199 ys1199.2.2.1 4000 = true := yver_join yk1199_e (ycc_c yk1199_0 (ycc_c yk1199_1 (ycc_c yk1199_2 (ycc_c yk1199_3 (ycc_c yk1199_4 (ycc_c yk1199_5 (ycc_c yk1199_6 (ycc_c yk1199_7 (ycc_n)))))))))
theorem yt1199 {E : zHp → Prop} (h : yEF E yFP) : yTs E 1 ys1199 := yver_s (x := yx1199) h (yal_n) yg235 yk1199
def ys1201 : ySp := (254, 3, (2, [(0, 0, 1), (1, 0, 5)], [], [], [(0, (2, yc 70, yc 0)), (1, (0, (1, 0, 0), yc 0)), (2, (0, (1, 1, 0), yc 0))], []), [(3, [(2, (-1), 0)], [], [], [], [(0, (1, 2, 0), yc 0)])], [])
def yx1201 : yCx := ([ys1199], ys1201.2.2.2.2, yFP, zm254.2.2.1, zm254.2.2.2.1, zc254, 2, ys1201.2.2.2.1, [], [])
theorem yw1201 : ywf ys1201.2.2.1 = true := by decide +kernel
theorem yk1201 : yver yx1201 ys1201.2.2.1 4000 = true := yverQ_ok (by decide +kernel)
theorem yt1201 {E : zHp → Prop} (h : yEF E yFP) : yTs E 2 ys1201 := yver_s (x := yx1201) h (yal_c (yt1199 h) (by decide) yw1199 (yal_n)) yg254 yk1201
def ys1202 : ySp := (255, 6, (1, [(0, 0, 1)], [], [], [(0, (2, yc 70, yc 0)), (1, (0, (1, 0, 0), yc 0))], []), [(1, [], [], [], [], [(0, yc (-1), yc 0)]), (2, [(1, (-2147483648), 2147483647)], [], [], [], [(0, (1, 1, 0), yc 0)])], [])
def yx1202 : yCx := ([ys1135, ys829, ys1201], ys1202.2.2.2.2, yFP, zm255.2.2.1, zm255.2.2.2.1, zc255, 1, ys1202.2.2.2.1, [(7, (4, [(0, 0, 1), (1, (-2147483648), 2147483647), (2, (-2147483648), 2147483647), (3, 0, 6)], [], [], [(0, (2, yc 70, yc 0)), (1, (0, (1, 0, 0), yc 0)), (2, (0, (1, 1, 0), yc 0)), (3, (0, (1, 2, 0), yc 0)), (4, (0, (1, 3, 0), yc 0))], []), ([((-1), 3)], 7))], [])
theorem yw1202 : ywf ys1202.2.2.1 = true := by decide +kernel
theorem yk1202 : yver yx1202 ys1202.2.2.1 4000 = true := yverQ_ok (by decide +kernel)
theorem yt1202 {E : zHp → Prop} (h : yEF E yFP) : yTs E 3 ys1202 := yver_s (x := yx1202) h (yal_c (yt1135 h) (by decide) yw1135 (yal_c (yt829 h) (by decide) yw829 (yal_c (yt1201 h) (by decide) yw1201 (yal_n)))) yg255 yk1202
def ys1219 : ySp := (254, 3, (2, [(0, 0, 2147483647), (1, 0, 5)], [], [], [(0, (2, yc 70, yc 0)), (1, (0, (1, 0, 0), yc 0)), (2, (0, (1, 1, 0), yc 0))], []), [(3, [(2, (-1), 5)], [], [], [], [(0, (1, 2, 0), yc 0)])], [])
def yx1219 : yCx := ([ys1199], ys1219.2.2.2.2, yFP, zm254.2.2.1, zm254.2.2.2.1, zc254, 2, ys1219.2.2.2.1, [], [])
theorem yw1219 : ywf ys1219.2.2.1 = true := by decide +kernel
theorem yk1219 : yver yx1219 ys1219.2.2.1 4000 = true := yverQ_ok (by decide +kernel)
theorem yt1219 {E : zHp → Prop} (h : yEF E yFP) : yTs E 2 ys1219 := yver_s (x := yx1219) h (yal_c (yt1199 h) (by decide) yw1199 (yal_n)) yg254 yk1219
def ys1220 : ySp := (255, 6, (1, [(0, 0, 2147483647)], [], [], [(0, (2, yc 70, yc 0)), (1, (0, (1, 0, 0), yc 0))], []), [(1, [], [], [], [], [(0, yc (-1), yc 0)]), (2, [(1, (-2147483648), 2147483647)], [], [], [], [(0, (1, 1, 0), yc 0)])], [])
def yx1220 : yCx := ([ys881, ys829, ys1219], ys1220.2.2.2.2, yFP, zm255.2.2.1, zm255.2.2.2.1, zc255, 1, ys1220.2.2.2.1, [(7, (4, [(0, 0, 2147483647), (1, 0, 63), (2, (-2147483648), 2147483647), (3, 0, 6)], [], [], [(0, (2, yc 70, yc 0)), (1, (0, (1, 0, 0), yc 0)), (2, (0, (1, 1, 0), yc 0)), (3, (0, (1, 2, 0), yc 0)), (4, (0, (1, 3, 0), yc 0))], []), ([((-1), 3)], 7))], [])
theorem yw1220 : ywf ys1220.2.2.1 = true := by decide +kernel
theorem yk1220 : yver yx1220 ys1220.2.2.1 4000 = true := yverQ_ok (by decide +kernel)
theorem yt1220 {E : zHp → Prop} (h : yEF E yFP) : yTs E 3 ys1220 := yver_s (x := yx1220) h (yal_c (yt881 h) (by decide) yw881 (yal_c (yt829 h) (by decide) yw829 (yal_c (yt1219 h) (by decide) yw1219 (yal_n)))) yg255 yk1220
def ys1221 : ySp := (256, 5, (1, [(0, (-1), 5)], [], [], [(0, (2, yc 70, yc 0)), (1, (0, (1, 0, 0), yc 0))], []), [(2, [(1, (-1), 2147483647)], [], [], [], [(0, (1, 1, 0), yc 0)])], [(70, 70, 27), (70, 70, 30), (82, 82, 1000), (83, 83, 1000)])
def yx1221 : yCx := ([ys1198, ys1197, ys1219, ys1202, ys1220], ys1221.2.2.2.2, yFP, zm256.2.2.1, zm256.2.2.2.1, zc256, 1, ys1221.2.2.2.1, [(14, (4, [(0, (-1), 5), (1, 0, 2147483647), (2, 0, 2147483647), (3, (-1), 2147483647)], [], [(yc 70, yc 30, (0, (1, 3, 0), yc 0))], [(0, (2, yc 70, yc 0)), (1, (0, (1, 0, 0), yc 0)), (2, (0, (1, 1, 0), yc 0)), (3, (0, (1, 2, 0), yc 0))], []), ([((-1), 2)], 2147483655)), (70, (6, [(0, (-1), 5), (1, 0, 2147483647), (2, 0, 6), (3, (-1), 2147483647), (4, 0, 6), (5, 0, 6)], [], [(yc 70, yc 30, (0, (1, 3, 0), yc 0)), (yc 80, yc 2, (0, (1, 4, 0), yc 0)), (yc 80, yc 3, (0, (1, 5, 0), yc 0))], [(0, (2, yc 70, yc 0)), (1, (0, (1, 0, 0), yc 0)), (2, (0, (1, 1, 0), yc 0)), (3, (0, (1, 2, 0), yc 0))], []), ([((-1), 2)], 7))], [])
theorem yw1221 : ywf ys1221.2.2.1 = true := by decide +kernel
theorem yk1221 : yver yx1221 ys1221.2.2.1 4000 = true := yverQ_ok (by decide +kernel)
theorem yt1221 {E : zHp → Prop} (h : yEF E yFP) : yTs E 8 ys1221 := yver_s (x := yx1221) h (yal_c (yt1198 h) (by decide) yw1198 (yal_c (yt1197 h) (by decide) yw1197 (yal_c (yt1219 h) (by decide) yw1219 (yal_c (yt1202 h) (by decide) yw1202 (yal_c (yt1220 h) (by decide) yw1220 (yal_n)))))) yg256 yk1221
def ys1222 : ySp := (262, 9, (1, [(0, 0, 3)], [], [], [(0, (2, yc 70, yc 0)), (1, (0, (1, 0, 0), yc 0))], []), [(1, [], [], [], [], [(0, yc (-1), yc 0)]), (2, [(0, 0, 2), (1, (-2147483648), 2147483647)], [], [], [], [(0, (1, 1, 0), yc 0)])], [(70, 70, 27), (70, 70, 30), (80, 80, 1000), (82, 82, 1000), (83, 83, 1000), (84, 84, 1000)])
def yx1222 : yCx := ([ys1194, ys769, ys777, ys990, ys1221, ys4, ys5], ys1222.2.2.2.2, yFP, zm262.2.2.1, zm262.2.2.2.1, zc262, 1, ys1222.2.2.2.1, [(40, (7, [(0, 0, 2), (1, (-1), 2147483647), (2, (-2), 5), (3, (-2), 5), (4, (-1), 2147483647), (5, 0, 6), (6, 1, 6)], [], [(yc 80, yc 0, (0, (1, 6, 0), yc 0))], [(0, (2, yc 70, yc 0)), (1, (0, (1, 0, 0), yc 0)), (2, (0, (1, 1, 0), yc 0)), (3, (0, (1, 2, 0), yc 0)), (4, (0, (1, 3, 0), yc 0)), (5, (0, (1, 4, 0), yc 0)), (6, (0, (1, 5, 0), yc 0))], []), ([((-8), 5)], 56)), (57, (8, [(0, 0, 2), (1, (-1), 2147483647), (2, (-2), 5), (3, (-2), 5), (4, (-1), 2147483647), (5, 0, 5), (6, 1, 6), (7, 1, 6)], [], [(yc 80, yc 0, (0, (1, 7, 0), yc 0))], [(0, (2, yc 70, yc 0)), (1, (0, (1, 0, 0), yc 0)), (2, (0, (1, 1, 0), yc 0)), (3, (0, (1, 2, 0), yc 0)), (4, (0, (1, 3, 0), yc 0)), (5, (0, (1, 4, 0), yc 0)), (6, (0, (1, 5, 0), yc 0)), (7, (0, (1, 6, 0), yc 0))], []), ([((-1), 6), ((-8), 5)], 55))], [])
theorem yw1222 : ywf ys1222.2.2.1 = true := by decide +kernel
theorem yk1222 : yver yx1222 ys1222.2.2.1 4000 = true := yverQ_ok (by decide +kernel)
theorem yt1222 {E : zHp → Prop} (h : yXt E) : yTs E 9 ys1222 := yver_s (x := yx1222) h.1 (yal_c (yt1194 h.1) (by decide) yw1194 (yal_c (yt769 h.1) (by decide) yw769 (yal_c (yt777 h.1) (by decide) yw777 (yal_c (yt990 h.1) (by decide) yw990 (yal_c (yt1221 h.1) (by decide) yw1221 (yal_c (yl4 h) (by decide) yw4 (yal_c (yl5 h) (by decide) yw5 (yal_n)))))))) yg262 yk1222
def ys1223 : ySp := (158, 6, (1, [(0, (-9223372036854775808), 9223372036854775807)], [], [], [(0, (1, (1, 0, 0), yc 0)), (2, (1, yc 0, yc 0)), (4, (1, yc 2, yc 0))], []), [(1, [(0, (-9223372036854775808), (-1))], [], [], [], [(0, yc 0, yc 0)]), (1, [(0, 3, 9223372036854775807)], [], [], [], [(0, yc 0, yc 0)]), (1, [(0, 0, 2)], [], [], [], [(0, yc 1, yc 0)])], [])
def yx1223 : yCx := ([], ys1223.2.2.2.2, yFP, zm158.2.2.1, zm158.2.2.2.1, zc158, 1, ys1223.2.2.2.1, [], [])
theorem yw1223 : ywf ys1223.2.2.1 = true := by decide +kernel
theorem yk1223 : yver yx1223 ys1223.2.2.1 4000 = true := yverQ_ok (by decide +kernel)
theorem yt1223 {E : zHp → Prop} (h : yEF E yFP) : yTs E 1 ys1223 := yver_s (x := yx1223) h (yal_n) yg158 yk1223
def ys1224 : ySp := (262, 9, (1, [(0, (-2147483648), 2147483647)], [], [], [(0, (2, yc 70, yc 0)), (1, (0, (1, 0, 0), yc 0))], []), [(1, [], [], [], [], [(0, yc (-1), yc 0)]), (2, [(0, 0, 2), (1, (-2147483648), 2147483647)], [], [], [], [(0, (1, 1, 0), yc 0)])], [(70, 70, 27), (70, 70, 30), (80, 80, 1000), (82, 82, 1000), (83, 83, 1000), (84, 84, 1000)])
def yx1224 : yCx := ([ys1223, ys769, ys777, ys990, ys1221, ys4, ys5], ys1224.2.2.2.2, yFP, zm262.2.2.1, zm262.2.2.2.1, zc262, 1, ys1224.2.2.2.1, [(40, (7, [(0, 0, 2), (1, (-1), 2147483647), (2, (-2), 5), (3, (-2), 5), (4, (-1), 2147483647), (5, 0, 6), (6, 1, 6)], [], [(yc 80, yc 0, (0, (1, 6, 0), yc 0))], [(0, (2, yc 70, yc 0)), (1, (0, (1, 0, 0), yc 0)), (2, (0, (1, 1, 0), yc 0)), (3, (0, (1, 2, 0), yc 0)), (4, (0, (1, 3, 0), yc 0)), (5, (0, (1, 4, 0), yc 0)), (6, (0, (1, 5, 0), yc 0))], []), ([((-8), 5)], 56)), (57, (8, [(0, 0, 2), (1, (-1), 2147483647), (2, (-2), 5), (3, (-2), 5), (4, (-1), 2147483647), (5, 0, 5), (6, 1, 6), (7, 1, 6)], [], [(yc 80, yc 0, (0, (1, 7, 0), yc 0))], [(0, (2, yc 70, yc 0)), (1, (0, (1, 0, 0), yc 0)), (2, (0, (1, 1, 0), yc 0)), (3, (0, (1, 2, 0), yc 0)), (4, (0, (1, 3, 0), yc 0)), (5, (0, (1, 4, 0), yc 0)), (6, (0, (1, 5, 0), yc 0)), (7, (0, (1, 6, 0), yc 0))], []), ([((-1), 6), ((-8), 5)], 55))], [])
theorem yw1224 : ywf ys1224.2.2.1 = true := by decide +kernel
theorem yk1224 : yver yx1224 ys1224.2.2.1 4000 = true := yverQ_ok (by decide +kernel)
theorem yt1224 {E : zHp → Prop} (h : yXt E) : yTs E 9 ys1224 := yver_s (x := yx1224) h.1 (yal_c (yt1223 h.1) (by decide) yw1223 (yal_c (yt769 h.1) (by decide) yw769 (yal_c (yt777 h.1) (by decide) yw777 (yal_c (yt990 h.1) (by decide) yw990 (yal_c (yt1221 h.1) (by decide) yw1221 (yal_c (yl4 h) (by decide) yw4 (yal_c (yl5 h) (by decide) yw5 (yal_n)))))))) yg262 yk1224
def ys1225 : ySp := (144, 7, (2, [(0, (-2147483648), 2147483647), (1, (-2147483648), 2147483647)], [], [], [(0, (2, yc 0, yc 0)), (1, (0, (1, 0, 0), yc 0)), (2, (0, (1, 1, 0), yc 0))], []), [(2, [], [], [], [], [(0, yc (-1), yc 0)]), (3, [(0, 0, 5), (1, 0, 1), (2, (-2147483648), 2147483647)], [], [], [], [(0, (1, 2, 0), yc 0)])], [(12, 12, 1000), (50, 50, 1), (52, 52, 1000), (53, 53, 1000), (54, 54, 1000), (57, 57, 1000), (58, 58, 1000), (60, 66, 1000)])
def yx1225 : yCx := ([ys1161, ys1191, ys672, ys665, ys1034, ys1035, ys703], ys1225.2.2.2.2, yFP, zm144.2.2.1, zm144.2.2.2.1, zc144, 2, ys1225.2.2.2.1, [(49, (5, [(0, 0, 5), (1, 0, 1), (2, 0, 5), (3, (-2147483648), 2147483647), (4, 0, 6)], [], [], [(0, (2, yc 0, yc 0)), (1, (0, (1, 0, 0), yc 0)), (2, (0, (1, 1, 0), yc 0)), (3, (0, (1, 2, 0), yc 0)), (4, (0, (1, 3, 0), yc 0)), (5, (0, (1, 4, 0), yc 0))], []), ([((-1), 4)], 7))], [])
theorem yw1225 : ywf ys1225.2.2.1 = true := by decide +kernel
theorem yk1225 : yver yx1225 ys1225.2.2.1 4000 = true := yverQ_ok (by decide +kernel)
theorem yt1225 {E : zHp → Prop} (h : yEF E yFP) : yTs E 7 ys1225 := yver_s (x := yx1225) h (yal_c (yt1161 h) (by decide) yw1161 (yal_c (yt1191 h) (by decide) yw1191 (yal_c (yt672 h) (by decide) yw672 (yal_c (yt665 h) (by decide) yw665 (yal_c (yt1034 h) (by decide) yw1034 (yal_c (yt1035 h) (by decide) yw1035 (yal_c (yt703 h) (by decide) yw703 (yal_n)))))))) yg144 yk1225
def ys1226 : ySp := (206, 2, (2, [(0, 0, 5), (1, 0, 6)], [], [(yc 80, yc 2, (0, (1, 1, 0), yc 0))], [(0, (2, yc 70, yc 0)), (1, (0, (1, 0, 0), yc 0))], []), [(2, [(1, 0, 5)], [([(1, 0), ((-1), 1)], 0)], [(yc 80, yc 2, (0, (1, 1, 0), yc 0))], [], [(0, yc 0, yc 0)]), (2, [(1, 1, 6)], [([(1, 1), ((-1), 0)], (-1))], [(yc 80, yc 2, (0, (1, 1, 0), yc 0))], [], [(0, yc 1, yc 0)])], [])
def yx1226 : yCx := ([], ys1226.2.2.2.2, yFP, zm206.2.2.1, zm206.2.2.2.1, zc206, 2, ys1226.2.2.2.1, [], [])
theorem yw1226 : ywf ys1226.2.2.1 = true := by decide +kernel
theorem yk1226 : yver yx1226 ys1226.2.2.1 4000 = true := yverQ_ok (by decide +kernel)
theorem yt1226 {E : zHp → Prop} (h : yEF E yFP) : yTs E 1 ys1226 := yver_s (x := yx1226) h (yal_n) yg206 yk1226
def ys1229 : ySp := (231, 3, (2, [(0, 0, 5), (1, 0, 5)], [], [], [(0, (2, yc 70, yc 0)), (1, (0, (1, 0, 0), yc 0)), (2, (0, (1, 1, 0), yc 0))], []), [(2, [], [], [], [], [])], [(80, 80, 1000)])
def yx1229 : yCx := ([ys787], ys1229.2.2.2.2, yFP, zm231.2.2.1, zm231.2.2.2.1, zc231, 2, ys1229.2.2.2.1, [], [])
theorem yw1229 : ywf ys1229.2.2.1 = true := by decide +kernel
theorem yk1229 : yver yx1229 ys1229.2.2.1 4000 = true := yverQ_ok (by decide +kernel)
theorem yt1229 {E : zHp → Prop} (h : yEF E yFP) : yTs E 3 ys1229 := yver_s (x := yx1229) h (yal_c (yt787 h) (by decide) yw787 (yal_n)) yg231 yk1229
def ys1230 : ySp := (261, 7, (2, [(0, 0, 5), (1, 0, 1)], [], [], [(0, (2, yc 70, yc 0)), (1, (0, (1, 0, 0), yc 0)), (2, (0, (1, 1, 0), yc 0))], []), [(2, [], [], [], [], [(0, yc (-1), yc 0)]), (3, [(2, (-1), 2147483647)], [], [], [], [(0, (1, 2, 0), yc 0)])], [(70, 70, 27), (70, 70, 30), (80, 80, 1000), (82, 82, 1000), (83, 83, 1000), (84, 84, 1000)])
def yx1230 : yCx := ([ys772, ys1226, ys786, ys1229, ys1221, ys4, ys5], ys1230.2.2.2.2, yFP, zm261.2.2.1, zm261.2.2.2.1, zc261, 2, ys1230.2.2.2.1, [(37, (6, [(0, 0, 5), (1, 0, 1), (2, 0, 5), (3, (-1), 2147483647), (4, 0, 6), (5, 1, 6)], [([(1, 5), ((-1), 0)], (-1))], [(yc 80, yc 2, (0, (1, 5, 0), yc 0))], [(0, (2, yc 70, yc 0)), (1, (0, (1, 0, 0), yc 0)), (2, (0, (1, 1, 0), yc 0)), (3, (0, (1, 2, 0), yc 0)), (4, (0, (1, 3, 0), yc 0)), (5, (0, (1, 4, 0), yc 0))], []), ([((-1), 4)], 7))], [])
theorem yw1230 : ywf ys1230.2.2.1 = true := by decide +kernel
theorem yk1230 : yver yx1230 ys1230.2.2.1 4000 = true := yverQ_ok (by decide +kernel)
theorem yt1230 {E : zHp → Prop} (h : yXt E) : yTs E 9 ys1230 := yver_s (x := yx1230) h.1 (yal_c (yt772 h.1) (by decide) yw772 (yal_c (yt1226 h.1) (by decide) yw1226 (yal_c (yt786 h.1) (by decide) yw786 (yal_c (yt1229 h.1) (by decide) yw1229 (yal_c (yt1221 h.1) (by decide) yw1221 (yal_c (yl4 h) (by decide) yw4 (yal_c (yl5 h) (by decide) yw5 (yal_n)))))))) yg261 yk1230
def ys1231 : ySp := (206, 2, (2, [(0, (-2147483648), 2147483647), (1, 0, 6)], [], [(yc 80, yc 2, (0, (1, 1, 0), yc 0))], [(0, (2, yc 70, yc 0)), (1, (0, (1, 0, 0), yc 0))], []), [(2, [], [], [(yc 80, yc 2, (0, (1, 1, 0), yc 0))], [], [(0, yc 0, yc 0)]), (2, [(0, 0, 5), (1, 1, 6)], [([(1, 1), ((-1), 0)], (-1))], [(yc 80, yc 2, (0, (1, 1, 0), yc 0))], [], [(0, yc 1, yc 0)])], [])
def yx1231 : yCx := ([], ys1231.2.2.2.2, yFP, zm206.2.2.1, zm206.2.2.2.1, zc206, 2, ys1231.2.2.2.1, [], [])
theorem yw1231 : ywf ys1231.2.2.1 = true := by decide +kernel
theorem yk1231 : yver yx1231 ys1231.2.2.1 4000 = true := yverQ_ok (by decide +kernel)
theorem yt1231 {E : zHp → Prop} (h : yEF E yFP) : yTs E 1 ys1231 := yver_s (x := yx1231) h (yal_n) yg206 yk1231
def ys1232 : ySp := (261, 7, (2, [(0, (-2147483648), 2147483647), (1, (-2147483648), 2147483647)], [], [], [(0, (2, yc 70, yc 0)), (1, (0, (1, 0, 0), yc 0)), (2, (0, (1, 1, 0), yc 0))], []), [(2, [], [], [], [], [(0, yc (-1), yc 0)]), (3, [(0, 0, 5), (1, 0, 1), (2, (-1), 2147483647)], [], [], [], [(0, (1, 2, 0), yc 0)])], [(70, 70, 27), (70, 70, 30), (80, 80, 1000), (82, 82, 1000), (83, 83, 1000), (84, 84, 1000)])
def yx1232 : yCx := ([ys836, ys1231, ys786, ys1229, ys1221, ys4, ys5], ys1232.2.2.2.2, yFP, zm261.2.2.1, zm261.2.2.2.1, zc261, 2, ys1232.2.2.2.1, [(37, (6, [(0, 0, 5), (1, 0, 1), (2, 0, 5), (3, (-1), 2147483647), (4, 0, 6), (5, 1, 6)], [([(1, 5), ((-1), 0)], (-1))], [(yc 80, yc 2, (0, (1, 5, 0), yc 0))], [(0, (2, yc 70, yc 0)), (1, (0, (1, 0, 0), yc 0)), (2, (0, (1, 1, 0), yc 0)), (3, (0, (1, 2, 0), yc 0)), (4, (0, (1, 3, 0), yc 0)), (5, (0, (1, 4, 0), yc 0))], []), ([((-1), 4)], 7))], [])
theorem yw1232 : ywf ys1232.2.2.1 = true := by decide +kernel
theorem yk1232 : yver yx1232 ys1232.2.2.1 4000 = true := yverQ_ok (by decide +kernel)
theorem yt1232 {E : zHp → Prop} (h : yXt E) : yTs E 9 ys1232 := yver_s (x := yx1232) h.1 (yal_c (yt836 h.1) (by decide) yw836 (yal_c (yt1231 h.1) (by decide) yw1231 (yal_c (yt786 h.1) (by decide) yw786 (yal_c (yt1229 h.1) (by decide) yw1229 (yal_c (yt1221 h.1) (by decide) yw1221 (yal_c (yl4 h) (by decide) yw4 (yal_c (yl5 h) (by decide) yw5 (yal_n)))))))) yg261 yk1232
def ys1233 : ySp := (143, 2, (1, [(0, (-2147483648), 2147483647)], [], [], [(0, (2, yc 0, yc 0)), (1, (0, (1, 0, 0), yc 0))], []), [(1, [], [], [], [], [(0, yc (-1), yc 0)]), (2, [(0, 0, 5), (1, (-2147483648), 2147483647)], [], [], [], [(0, (1, 1, 0), yc 0)])], [(50, 50, 1), (52, 52, 1000), (53, 53, 1000), (54, 54, 1000), (57, 57, 1000), (58, 58, 1000), (60, 66, 1000)])
def yx1233 : yCx := ([ys1191, ys1034], ys1233.2.2.2.2, yFP, zm143.2.2.1, zm143.2.2.2.1, zc143, 1, ys1233.2.2.2.1, [], [])
theorem yw1233 : ywf ys1233.2.2.1 = true := by decide +kernel
theorem yk1233 : yver yx1233 ys1233.2.2.1 4000 = true := yverQ_ok (by decide +kernel)
theorem yt1233 {E : zHp → Prop} (h : yEF E yFP) : yTs E 7 ys1233 := yver_s (x := yx1233) h (yal_c (yt1191 h) (by decide) yw1191 (yal_c (yt1034 h) (by decide) yw1034 (yal_n))) yg143 yk1233
def ys1234 : ySp := (258, 2, (1, [(0, 0, 5)], [], [], [(0, (2, yc 70, yc 0)), (1, (0, (1, 0, 0), yc 0))], []), [(1, [], [], [], [], [(0, yc (-1), yc 0)]), (2, [(1, (-2147483648), 2147483647)], [], [], [], [(0, (1, 1, 0), yc 0)])], [(70, 70, 27), (70, 70, 30), (82, 82, 1000), (83, 83, 1000)])
def yx1234 : yCx := ([ys1226, ys1221], ys1234.2.2.2.2, yFP, zm258.2.2.1, zm258.2.2.2.1, zc258, 1, ys1234.2.2.2.1, [], [])
theorem yw1234 : ywf ys1234.2.2.1 = true := by decide +kernel
theorem yk1234 : yver yx1234 ys1234.2.2.1 4000 = true := yverQ_ok (by decide +kernel)
theorem yt1234 {E : zHp → Prop} (h : yEF E yFP) : yTs E 9 ys1234 := yver_s (x := yx1234) h (yal_c (yt1226 h) (by decide) yw1226 (yal_c (yt1221 h) (by decide) yw1221 (yal_n))) yg258 yk1234
def ys1235 : ySp := (258, 2, (1, [(0, (-2147483648), 2147483647)], [], [], [(0, (2, yc 70, yc 0)), (1, (0, (1, 0, 0), yc 0))], []), [(1, [], [], [], [], [(0, yc (-1), yc 0)]), (2, [(0, 0, 5), (1, (-2147483648), 2147483647)], [], [], [], [(0, (1, 1, 0), yc 0)])], [(70, 70, 27), (70, 70, 30), (82, 82, 1000), (83, 83, 1000)])
def yx1235 : yCx := ([ys1231, ys1221], ys1235.2.2.2.2, yFP, zm258.2.2.1, zm258.2.2.2.1, zc258, 1, ys1235.2.2.2.1, [], [])
theorem yw1235 : ywf ys1235.2.2.1 = true := by decide +kernel
theorem yk1235 : yver yx1235 ys1235.2.2.1 4000 = true := yverQ_ok (by decide +kernel)
theorem yt1235 {E : zHp → Prop} (h : yEF E yFP) : yTs E 9 ys1235 := yver_s (x := yx1235) h (yal_c (yt1231 h) (by decide) yw1231 (yal_c (yt1221 h) (by decide) yw1221 (yal_n))) yg258 yk1235
def ys1239 : ySp := (24, 5, (2, [(0, 0, 5), (1, 0, 63)], [], [], [(0, (2, yc 50, yc 0)), (1, (0, (1, 0, 0), yc 0)), (2, (0, (1, 1, 0), yc 0))], []), [(2, [], [], [], [], [(0, yc (-1), yc 0)]), (3, [(2, 0, 5)], [], [], [], [(0, (1, 2, 0), yc 0)])], [])
def yx1239 : yCx := ([], ys1239.2.2.2.2, yFP, zm24.2.2.1, zm24.2.2.2.1, zc24, 2, ys1239.2.2.2.1, [(37, (5, [(0, 0, 5), (1, 0, 63), (2, (-2147483648), 2147483647), (3, 0, 6), (4, (-2147483648), 2147483647)], [], [(yc 57, (1, 0, 0), (0, (1, 4, 0), yc 0))], [(0, (2, yc 50, yc 0)), (1, (0, (1, 0, 0), yc 0)), (2, (0, (1, 1, 0), yc 0)), (3, (0, (1, 2, 0), yc 0)), (4, (0, (1, 3, 0), yc 0))], []), ([((-1), 3)], 7))], [])
theorem yw1239 : ywf ys1239.2.2.1 = true := by decide +kernel
theorem yk1239 : yver yx1239 ys1239.2.2.1 4000 = true := yverQ_ok (by decide +kernel)
theorem yt1239 {E : zHp → Prop} (h : yEF E yFP) : yTs E 1 ys1239 := yver_s (x := yx1239) h (yal_n) yg24 yk1239
def ys1240 : ySp := (23, 5, (1, [(0, 0, 5)], [], [], [(0, (2, yc 50, yc 0)), (1, (0, (1, 0, 0), yc 0))], []), [(2, [(1, (-1), 5)], [], [], [], [(0, (1, 1, 0), yc 0)])], [])
def yx1240 : yCx := ([ys1239], ys1240.2.2.2.2, yFP, zm23.2.2.1, zm23.2.2.2.1, zc23, 1, ys1240.2.2.2.1, [(7, (4, [(0, 0, 5), (1, 0, 63), (2, (-1), 5), (3, 0, 6)], [], [], [(0, (2, yc 50, yc 0)), (1, (0, (1, 0, 0), yc 0)), (2, (0, (1, 1, 0), yc 0)), (3, (0, (1, 2, 0), yc 0)), (4, (0, (1, 3, 0), yc 0))], []), ([((-1), 3)], 7))], [])
theorem yw1240 : ywf ys1240.2.2.1 = true := by decide +kernel
theorem yk1240 : yver yx1240 ys1240.2.2.1 4000 = true := yverQ_ok (by decide +kernel)
theorem yt1240 {E : zHp → Prop} (h : yEF E yFP) : yTs E 2 ys1240 := yver_s (x := yx1240) h (yal_c (yt1239 h) (by decide) yw1239 (yal_n)) yg23 yk1240
def ys1241 : ySp := (142, 3, (1, [(0, (-2147483648), 2147483647)], [], [], [(0, (2, yc 0, yc 0)), (1, (0, (1, 0, 0), yc 0))], []), [(2, [(1, (-2147483648), 2147483647)], [], [], [], [(0, (1, 1, 0), yc 0)])], [(50, 50, 1), (52, 52, 1000), (53, 53, 1000), (54, 54, 1000), (57, 57, 1000), (58, 58, 1000), (60, 66, 1000)])
def yx1241 : yCx := ([ys1191, ys1240, ys671, ys656], ys1241.2.2.2.2, yFP, zm142.2.2.1, zm142.2.2.2.1, zc142, 1, ys1241.2.2.2.1, [], [])
theorem yw1241 : ywf ys1241.2.2.1 = true := by decide +kernel
theorem yk1241 : yver yx1241 ys1241.2.2.1 4000 = true := yverQ_ok (by decide +kernel)
theorem yt1241 {E : zHp → Prop} (h : yEF E yFP) : yTs E 7 ys1241 := yver_s (x := yx1241) h (yal_c (yt1191 h) (by decide) yw1191 (yal_c (yt1240 h) (by decide) yw1240 (yal_c (yt671 h) (by decide) yw671 (yal_c (yt656 h) (by decide) yw656 (yal_n))))) yg142 yk1241
def ys1242 : ySp := (158, 6, (1, [(0, (-9223372036854775808), 9223372036854775807)], [], [], [(0, (1, (1, 0, 0), yc 0)), (2, (1, yc 0, yc 0)), (4, (1, yc 6, yc 0))], []), [(1, [(0, (-9223372036854775808), (-1))], [], [], [], [(0, yc 0, yc 0)]), (1, [(0, 7, 9223372036854775807)], [], [], [], [(0, yc 0, yc 0)]), (1, [(0, 0, 6)], [], [], [], [(0, yc 1, yc 0)])], [])
def yx1242 : yCx := ([], ys1242.2.2.2.2, yFP, zm158.2.2.1, zm158.2.2.2.1, zc158, 1, ys1242.2.2.2.1, [], [])
theorem yw1242 : ywf ys1242.2.2.1 = true := by decide +kernel
theorem yk1242 : yver yx1242 ys1242.2.2.1 4000 = true := yverQ_ok (by decide +kernel)
theorem yt1242 {E : zHp → Prop} (h : yEF E yFP) : yTs E 1 ys1242 := yver_s (x := yx1242) h (yal_n) yg158 yk1242
def ys1243 : ySp := (257, 2, (1, [(0, (-2147483648), 2147483647)], [], [], [(0, (2, yc 70, yc 0)), (1, (0, (1, 0, 0), yc 0))], []), [(2, [(1, (-2147483648), 2147483647)], [], [], [], [(0, (1, 1, 0), yc 0)])], [(70, 70, 27), (70, 70, 30), (82, 82, 1000), (83, 83, 1000)])
def yx1243 : yCx := ([ys1242, ys769, ys1221], ys1243.2.2.2.2, yFP, zm257.2.2.1, zm257.2.2.2.1, zc257, 1, ys1243.2.2.2.1, [], [])
theorem yw1243 : ywf ys1243.2.2.1 = true := by decide +kernel
theorem yk1243 : yver yx1243 ys1243.2.2.1 4000 = true := yverQ_ok (by decide +kernel)
theorem yt1243 {E : zHp → Prop} (h : yEF E yFP) : yTs E 9 ys1243 := yver_s (x := yx1243) h (yal_c (yt1242 h) (by decide) yw1242 (yal_c (yt769 h) (by decide) yw769 (yal_c (yt1221 h) (by decide) yw1221 (yal_n)))) yg257 yk1243
def ys1244 : ySp := (3, 5, (1, [(0, 0, 63)], [], [], [(0, (2, yc 44, yc 0)), (1, (2, yc 9, yc 0)), (2, (0, (1, 0, 0), yc 0))], []), [(1, [], [], [], [], [])], [(47, 47, 1000)])
def yx1244 : yCx := ([ys665, ys1039], ys1244.2.2.2.2, yFP, zm3.2.2.1, zm3.2.2.2.1, zc3, 1, ys1244.2.2.2.1, [(5, (3, [(0, 0, 63), (1, 0, 63), (2, 0, 6)], [], [], [(0, (2, yc 44, yc 0)), (1, (2, yc 9, yc 0)), (2, (0, (1, 0, 0), yc 0)), (3, (0, (1, 1, 0), yc 0)), (4, (0, (1, 2, 0), yc 0))], []), ([((-1), 2)], 14)), (52, (4, [(0, 0, 63), (1, 0, 63), (2, 0, 6), (3, 0, 6)], [], [(yc 10, yc 0, (0, (1, 3, 0), yc 0))], [(0, (2, yc 44, yc 0)), (1, (2, yc 9, yc 0)), (2, (0, (1, 0, 0), yc 0)), (3, (0, (1, 1, 0), yc 0)), (4, (0, (1, 2, 0), yc 0))], []), ([((-1), 2)], 7))], [])
theorem yw1244 : ywf ys1244.2.2.1 = true := by decide +kernel
theorem yk1244 : yver yx1244 ys1244.2.2.1 4000 = true := yverQ_ok (by decide +kernel)
theorem yt1244 {E : zHp → Prop} (h : yEF E yFP) : yTs E 2 ys1244 := yver_s (x := yx1244) h (yal_c (yt665 h) (by decide) yw665 (yal_c (yt1039 h) (by decide) yw1039 (yal_n))) yg3 yk1244
def ys1245 : ySp := (1, 7, (1, [(0, 0, 5)], [], [], [(0, (2, yc 44, yc 0)), (1, (2, yc 9, yc 0)), (2, (0, (1, 0, 0), yc 0))], []), [(1, [], [], [], [], [])], [(45, 45, 1000), (46, 46, 1000), (47, 47, 1000)])
def yx1245 : yCx := ([ys847, ys1244, ys665, ys1035, ys1036, ys846, ys844, ys842, ys843], ys1245.2.2.2.2, yFP, zm1.2.2.1, zm1.2.2.2.1, zc1, 1, ys1245.2.2.2.1, [(67, (6, [(0, 0, 5), (1, 0, 5), (2, 0, 63), (3, 1, 64), (4, 0, 64), (5, 0, 6)], [], [(yc 10, yc 0, (0, (1, 5, 0), yc 0))], [(0, (2, yc 44, yc 0)), (1, (2, yc 9, yc 0)), (2, (0, (1, 0, 0), yc 0)), (3, (0, (1, 1, 0), yc 0)), (4, (0, (1, 2, 0), yc 0)), (5, (0, (1, 3, 0), yc 0)), (6, (0, (1, 4, 0), yc 0))], []), ([((-1), 4)], 65))], [])
theorem yw1245 : ywf ys1245.2.2.1 = true := by decide +kernel
theorem yk1245 : yver yx1245 ys1245.2.2.1 4000 = true := yverQ_ok (by decide +kernel)
theorem yt1245 {E : zHp → Prop} (h : yEF E yFP) : yTs E 3 ys1245 := yver_s (x := yx1245) h (yal_c (yt847 h) (by decide) yw847 (yal_c (yt1244 h) (by decide) yw1244 (yal_c (yt665 h) (by decide) yw665 (yal_c (yt1035 h) (by decide) yw1035 (yal_c (yt1036 h) (by decide) yw1036 (yal_c (yt846 h) (by decide) yw846 (yal_c (yt844 h) (by decide) yw844 (yal_c (yt842 h) (by decide) yw842 (yal_c (yt843 h) (by decide) yw843 (yal_n)))))))))) yg1 yk1245
def ys1246 : ySp := (5, 5, (3, [(0, 0, 5), (1, 0, 5), (2, 0, 2147483647)], [], [], [(0, (2, yc 44, yc 0)), (1, (2, yc 9, yc 0)), (2, (0, (1, 0, 0), yc 0)), (3, (0, (1, 1, 0), yc 0)), (4, (0, (1, 2, 0), yc 0))], []), [(3, [], [], [], [], [])], [(44, 44, 3), (44, 44, 5), (44, 44, 6), (44, 44, 8), (44, 44, 9), (44, 44, 10), (48, 48, 1000), (49, 49, 1000)])
def yx1246 : yCx := ([ys1064, ys1035, ys1036], ys1246.2.2.2.2, yFP, zm5.2.2.1, zm5.2.2.2.1, zc5, 3, ys1246.2.2.2.1, [], [])
theorem yw1246 : ywf ys1246.2.2.1 = true := by decide +kernel
theorem yk1246 : yver yx1246 ys1246.2.2.1 4000 = true := yverQ_ok (by decide +kernel)
theorem yt1246 {E : zHp → Prop} (h : yEF E yFP) : yTs E 9 ys1246 := yver_s (x := yx1246) h (yal_c (yt1064 h) (by decide) yw1064 (yal_c (yt1035 h) (by decide) yw1035 (yal_c (yt1036 h) (by decide) yw1036 (yal_n)))) yg5 yk1246
def ys1247 : ySp := (141, 6, (4, [(0, (-2147483648), 2147483647), (1, (-2147483648), 2147483647), (2, 0, 1), (3, (-2147483648), 2147483647)], [], [], [(0, (2, yc 0, yc 0)), (1, (0, (1, 0, 0), yc 0)), (2, (0, (1, 1, 0), yc 0)), (3, (0, (1, 2, 0), yc 0)), (4, (0, (1, 3, 0), yc 0))], []), [(4, [(0, 0, 5), (1, 0, 5), (3, 1, 1)], [], [], [], [(0, yc 0, yc 0)]), (5, [(4, (-2147483648), 2147483647)], [], [], [], [(0, (1, 4, 0), yc 0)])], [(44, 44, 3), (44, 44, 5), (44, 44, 6), (44, 44, 8), (44, 44, 9), (44, 44, 10), (45, 45, 1000), (46, 46, 1000), (47, 47, 1000), (48, 48, 1000), (49, 49, 1000)])
def yx1247 : yCx := ([ys1245, ys1246, ys1034, ys1068, ys1188], ys1247.2.2.2.2, yFP, zm141.2.2.1, zm141.2.2.2.1, zc141, 4, ys1247.2.2.2.1, [], [])
theorem yw1247 : ywf ys1247.2.2.1 = true := by decide +kernel
theorem yk1247 : yver yx1247 ys1247.2.2.1 4000 = true := yverQ_ok (by decide +kernel)
theorem yt1247 {E : zHp → Prop} (h : yEF E yFP) : yTs E 10 ys1247 := yver_s (x := yx1247) h (yal_c (yt1245 h) (by decide) yw1245 (yal_c (yt1246 h) (by decide) yw1246 (yal_c (yt1034 h) (by decide) yw1034 (yal_c (yt1068 h) (by decide) yw1068 (yal_c (yt1188 h) (by decide) yw1188 (yal_n)))))) yg141 yk1247
def ys1248 : ySp := (252, 6, (4, [(0, (-2147483648), 2147483647), (1, (-2147483648), 2147483647), (2, 0, 1), (3, (-2147483648), 2147483647)], [], [], [(0, (2, yc 70, yc 0)), (1, (0, (1, 0, 0), yc 0)), (2, (0, (1, 1, 0), yc 0)), (3, (0, (1, 2, 0), yc 0)), (4, (0, (1, 3, 0), yc 0))], []), [(4, [(0, 0, 5), (1, 0, 5), (3, 0, 1)], [], [], [], [(0, yc 0, yc 0)]), (5, [(4, (-3), 2147483647)], [], [], [], [(0, (1, 4, 0), yc 0)])], [(70, 70, 27)])
def yx1248 : yCx := ([ys1242, ys1076, ys1231, ys786, ys810, ys815, ys1196, ys916, ys987], ys1248.2.2.2.2, yFP, zm252.2.2.1, zm252.2.2.2.1, zc252, 4, ys1248.2.2.2.1, [], [])
theorem yw1248 : ywf ys1248.2.2.1 = true := by decide +kernel
theorem yk1248 : yver yx1248 ys1248.2.2.1 4000 = true := yverQ_ok (by decide +kernel)
theorem yt1248 {E : zHp → Prop} (h : yEF E yFP) : yTs E 7 ys1248 := yver_s (x := yx1248) h (yal_c (yt1242 h) (by decide) yw1242 (yal_c (yt1076 h) (by decide) yw1076 (yal_c (yt1231 h) (by decide) yw1231 (yal_c (yt786 h) (by decide) yw786 (yal_c (yt810 h) (by decide) yw810 (yal_c (yt815 h) (by decide) yw815 (yal_c (yt1196 h) (by decide) yw1196 (yal_c (yt916 h) (by decide) yw916 (yal_c (yt987 h) (by decide) yw987 (yal_n)))))))))) yg252 yk1248
def ys1259 : ySp := (101, 3, (2, [(0, 0, 5), (1, 0, 5)], [], [], [(0, (2, yc 9, yc 0)), (1, (0, (1, 0, 0), yc 0)), (2, (0, (1, 1, 0), yc 0))], []), [(2, [], [], [], [], [(0, yc 0, yc 0)]), (2, [], [], [], [], [(0, yc 1, yc 0)])], [])
def yx1259 : yCx := ([ys1035, ys1036, ys1052], ys1259.2.2.2.2, yFP, zm101.2.2.1, zm101.2.2.2.1, zc101, 2, ys1259.2.2.2.1, [], [])
theorem yw1259 : ywf ys1259.2.2.1 = true := by decide +kernel
theorem yk1259 : yver yx1259 ys1259.2.2.1 4000 = true := yverQ_ok (by decide +kernel)
theorem yt1259 {E : zHp → Prop} (h : yEF E yFP) : yTs E 3 ys1259 := yver_s (x := yx1259) h (yal_c (yt1035 h) (by decide) yw1035 (yal_c (yt1036 h) (by decide) yw1036 (yal_c (yt1052 h) (by decide) yw1052 (yal_n)))) yg101 yk1259
def ys1260 : ySp := (114, 8, (2, [(0, 0, 5), (1, 0, 5)], [], [], [(0, (2, yc 9, yc 0)), (1, (0, (1, 0, 0), yc 0)), (2, (0, (1, 1, 0), yc 0)), (3, (0, yc 3, yc 0)), (4, (0, yc 0, yc 0))], []), [(3, [(2, (-2147483648), 2147483647)], [], [], [], [(0, (1, 2, 0), yc 0)])], [])
def yx1260 : yCx := ([ys656, ys1184, ys659, ys1177, ys1178, ys1182], ys1260.2.2.2.2, yFP, zm114.2.2.1, zm114.2.2.2.1, zc114, 2, ys1260.2.2.2.1, [(6, (4, [(0, 0, 5), (1, 0, 5), (2, (-2147483648), 2147483647), (3, 0, 6)], [], [], [(0, (2, yc 9, yc 0)), (1, (0, (1, 0, 0), yc 0)), (2, (0, (1, 1, 0), yc 0)), (3, (0, yc 3, yc 0)), (4, (0, yc 0, yc 0)), (5, (0, (1, 2, 0), yc 0)), (6, (0, (1, 3, 0), yc 0))], []), ([((-1), 3)], 7))], [])
theorem yw1260 : ywf ys1260.2.2.1 = true := by decide +kernel
theorem yk1260 : yver yx1260 ys1260.2.2.1 4000 = true := yverQ_ok (by decide +kernel)
theorem yt1260 {E : zHp → Prop} (h : yEF E yFP) : yTs E 2 ys1260 := yver_s (x := yx1260) h (yal_c (yt656 h) (by decide) yw656 (yal_c (yt1184 h) (by decide) yw1184 (yal_c (yt659 h) (by decide) yw659 (yal_c (yt1177 h) (by decide) yw1177 (yal_c (yt1178 h) (by decide) yw1178 (yal_c (yt1182 h) (by decide) yw1182 (yal_n))))))) yg114 yk1260
def ys1261 : ySp := (114, 8, (2, [(0, 0, 5), (1, 0, 5)], [], [], [(0, (2, yc 9, yc 0)), (1, (0, (1, 0, 0), yc 0)), (2, (0, (1, 1, 0), yc 0)), (3, (0, yc 2, yc 0)), (4, (0, yc 1, yc 0))], []), [(3, [(2, 0, 2147483647)], [], [], [], [(0, (1, 2, 0), yc 0)])], [])
def yx1261 : yCx := ([ys656, ys1184, ys659, ys1177, ys1178, ys1179], ys1261.2.2.2.2, yFP, zm114.2.2.1, zm114.2.2.2.1, zc114, 2, ys1261.2.2.2.1, [(6, (4, [(0, 0, 5), (1, 0, 5), (2, 0, 2147483647), (3, 0, 6)], [], [], [(0, (2, yc 9, yc 0)), (1, (0, (1, 0, 0), yc 0)), (2, (0, (1, 1, 0), yc 0)), (3, (0, yc 2, yc 0)), (4, (0, yc 1, yc 0)), (5, (0, (1, 2, 0), yc 0)), (6, (0, (1, 3, 0), yc 0))], []), ([((-1), 3)], 7))], [])
theorem yw1261 : ywf ys1261.2.2.1 = true := by decide +kernel
theorem yk1261 : yver yx1261 ys1261.2.2.1 4000 = true := yverQ_ok (by decide +kernel)
theorem yt1261 {E : zHp → Prop} (h : yEF E yFP) : yTs E 2 ys1261 := yver_s (x := yx1261) h (yal_c (yt656 h) (by decide) yw656 (yal_c (yt1184 h) (by decide) yw1184 (yal_c (yt659 h) (by decide) yw659 (yal_c (yt1177 h) (by decide) yw1177 (yal_c (yt1178 h) (by decide) yw1178 (yal_c (yt1179 h) (by decide) yw1179 (yal_n))))))) yg114 yk1261
def ys1262 : ySp := (100, 3, (1, [(0, 0, 5)], [], [], [(0, (2, yc 9, yc 0)), (1, (0, (1, 0, 0), yc 0)), (2, (0, yc 1, yc 0))], []), [(2, [(1, 0, 2147483647)], [], [], [], [(0, (1, 1, 0), yc 0)])], [])
def yx1262 : yCx := ([ys1037, ys1185, ys1187], ys1262.2.2.2.2, yFP, zm100.2.2.1, zm100.2.2.2.1, zc100, 1, ys1262.2.2.2.1, [], [])
theorem yw1262 : ywf ys1262.2.2.1 = true := by decide +kernel
theorem yk1262 : yver yx1262 ys1262.2.2.1 4000 = true := yverQ_ok (by decide +kernel)
theorem yt1262 {E : zHp → Prop} (h : yEF E yFP) : yTs E 3 ys1262 := yver_s (x := yx1262) h (yal_c (yt1037 h) (by decide) yw1037 (yal_c (yt1185 h) (by decide) yw1185 (yal_c (yt1187 h) (by decide) yw1187 (yal_n)))) yg100 yk1262
def ys1263 : ySp := (31, 5, (3, [(0, 0, 63), (1, 0, 5), (2, 0, 5)], [], [], [(0, (0, (1, 0, 0), yc 0)), (1, (2, yc 9, yc 0)), (2, (0, (1, 1, 0), yc 0)), (3, (0, (1, 2, 0), yc 0))], []), [(3, [(0, 12, 63)], [], [], [], [(0, yc 0, yc 0)]), (3, [(0, 12, 63)], [], [], [], [(0, yc 1, yc 0)]), (4, [(0, 0, 11), (3, (-2147483648), 2147483647)], [], [], [], [(0, (1, 3, 0), yc 0)])], [])
def yx1263 : yCx := ([ys649, ys1035, ys1036, ys1037, ys1184, ys1186, ys1052, ys1073, ys1262, ys1260, ys1261], ys1263.2.2.2.2, yFP, zm31.2.2.1, zm31.2.2.2.1, zc31, 3, ys1263.2.2.2.1, [], [])
theorem yw1263 : ywf ys1263.2.2.1 = true := by decide +kernel
theorem yk1263 : yver yx1263 ys1263.2.2.1 4000 = true := yverQ_ok (by decide +kernel)
theorem yt1263 {E : zHp → Prop} (h : yEF E yFP) : yTs E 4 ys1263 := yver_s (x := yx1263) h (yal_c (yt649 h) (by decide) yw649 (yal_c (yt1035 h) (by decide) yw1035 (yal_c (yt1036 h) (by decide) yw1036 (yal_c (yt1037 h) (by decide) yw1037 (yal_c (yt1184 h) (by decide) yw1184 (yal_c (yt1186 h) (by decide) yw1186 (yal_c (yt1052 h) (by decide) yw1052 (yal_c (yt1073 h) (by decide) yw1073 (yal_c (yt1262 h) (by decide) yw1262 (yal_c (yt1260 h) (by decide) yw1260 (yal_c (yt1261 h) (by decide) yw1261 (yal_n)))))))))))) yg31 yk1263
def ys1264 : ySp := (28, 7, (3, [(0, 0, 303), (1, 0, 5), (2, 0, 5)], [], [], [(0, (3, (1, 0, 0), yc 0)), (1, (2, yc 9, yc 0)), (2, (0, (1, 1, 0), yc 0)), (3, (0, (1, 2, 0), yc 0))], []), [(3, [], [], [], [], [(1, yc 0, yc 0)]), (4, [(3, (-9223372036854775808), 9223372036854775807)], [], [], [], [(1, (1, 3, 0), yc 0)])], [(88, 999, 1000)])
def yx1264 : yCx := ([ys1003, ys1263], ys1264.2.2.2.2, yFP, zm28.2.2.1, zm28.2.2.2.1, zc28, 3, ys1264.2.2.2.1, [(6, (5, [(0, 0, 303), (1, 0, 5), (2, 0, 5), (3, 0, 64), (4, 0, 400)], [], [], [(0, (3, (1, 0, 0), yc 0)), (1, (2, yc 9, yc 0)), (2, (0, (1, 1, 0), yc 0)), (3, (0, (1, 2, 0), yc 0)), (4, (0, (1, 3, 0), yc 0)), (5, (0, (1, 4, 0), yc 0))], []), ([((-1), 4)], 401))], [])
theorem yw1264 : ywf ys1264.2.2.1 = true := by decide +kernel
theorem yk1264 : yver yx1264 ys1264.2.2.1 4000 = true := yverQ_ok (by decide +kernel)
theorem yt1264 {E : zHp → Prop} (h : yEF E yFP) : yTs E 5 ys1264 := yver_s (x := yx1264) h (yal_c (yt1003 h) (by decide) yw1003 (yal_c (yt1263 h) (by decide) yw1263 (yal_n))) yg28 yk1264
def ys1265 : ySp := (88, 4, (2, [(0, 0, 5), (1, (-2147483648), 2147483647)], [], [], [(0, (2, yc 9, yc 0)), (1, (0, (1, 0, 0), yc 0)), (2, (0, yc 4, yc 0)), (3, (0, (1, 1, 0), yc 0))], []), [(2, [], [], [], [], [])], [(10, 10, 1000)])
def yx1265 : yCx := ([], ys1265.2.2.2.2, yFP, zm88.2.2.1, zm88.2.2.2.1, zc88, 2, ys1265.2.2.2.1, [], [])
theorem yw1265 : ywf ys1265.2.2.1 = true := by decide +kernel
theorem yk1265 : yver yx1265 ys1265.2.2.1 4000 = true := yverQ_ok (by decide +kernel)
theorem yt1265 {E : zHp → Prop} (h : yEF E yFP) : yTs E 1 ys1265 := yver_s (x := yx1265) h (yal_n) yg88 yk1265
def ys1268 : ySp := (75, 4, (3, [(0, 0, 5), (1, 0, 5), (2, (-2147483648), 2147483647)], [], [], [(0, (2, yc 9, yc 0)), (1, (0, (1, 0, 0), yc 0)), (2, (0, (1, 1, 0), yc 0)), (3, (0, (1, 2, 0), yc 0))], []), [(3, [], [], [], [], [])], [(10, 10, 1000)])
def yx1268 : yCx := ([], ys1268.2.2.2.2, yFP, zm75.2.2.1, zm75.2.2.2.1, zc75, 3, ys1268.2.2.2.1, [], [])
theorem yw1268 : ywf ys1268.2.2.1 = true := by decide +kernel
theorem yk1268 : yver yx1268 ys1268.2.2.1 4000 = true := yverQ_ok (by decide +kernel)
theorem yt1268 {E : zHp → Prop} (h : yEF E yFP) : yTs E 1 ys1268 := yver_s (x := yx1268) h (yal_n) yg75 yk1268
def ys1269 : ySp := (88, 4, (2, [(0, 0, 5), (1, 0, 5)], [], [], [(0, (2, yc 9, yc 0)), (1, (0, (1, 0, 0), yc 0)), (2, (0, yc 3, yc 0)), (3, (0, (1, 1, 0), yc 0))], []), [(2, [], [], [], [], [])], [(10, 10, 1000)])
def yx1269 : yCx := ([], ys1269.2.2.2.2, yFP, zm88.2.2.1, zm88.2.2.2.1, zc88, 2, ys1269.2.2.2.1, [], [])
theorem yw1269 : ywf ys1269.2.2.1 = true := by decide +kernel
theorem yk1269 : yver yx1269 ys1269.2.2.1 4000 = true := yverQ_ok (by decide +kernel)
theorem yt1269 {E : zHp → Prop} (h : yEF E yFP) : yTs E 1 ys1269 := yver_s (x := yx1269) h (yal_n) yg88 yk1269
def ys1270 : ySp := (102, 4, (2, [(0, 0, 5), (1, 0, 5)], [], [], [(0, (2, yc 9, yc 0)), (1, (0, (1, 0, 0), yc 0)), (2, (0, (1, 1, 0), yc 0))], []), [(2, [], [], [], [], [])], [(10, 10, 1000)])
def yx1270 : yCx := ([ys1268, ys1036, ys1037, ys1269, ys1265, ys1073], ys1270.2.2.2.2, yFP, zm102.2.2.1, zm102.2.2.2.1, zc102, 2, ys1270.2.2.2.1, [], [])
theorem yw1270 : ywf ys1270.2.2.1 = true := by decide +kernel
theorem yk1270 : yver yx1270 ys1270.2.2.1 4000 = true := yverQ_ok (by decide +kernel)
theorem yt1270 {E : zHp → Prop} (h : yEF E yFP) : yTs E 2 ys1270 := yver_s (x := yx1270) h (yal_c (yt1268 h) (by decide) yw1268 (yal_c (yt1036 h) (by decide) yw1036 (yal_c (yt1037 h) (by decide) yw1037 (yal_c (yt1269 h) (by decide) yw1269 (yal_c (yt1265 h) (by decide) yw1265 (yal_c (yt1073 h) (by decide) yw1073 (yal_n))))))) yg102 yk1270
def ys1271 : ySp := (27, 9, (1, [(0, 0, 303)], [], [], [(0, (3, (1, 0, 0), yc 0)), (1, (2, yc 9, yc 0))], []), [(1, [], [], [], [], [])], [(10, 10, 1000), (88, 999, 1000)])
def yx1271 : yCx := ([ys1264, ys665, ys663, ys1259, ys1270], ys1271.2.2.2.2, yFP, zm27.2.2.1, zm27.2.2.2.1, zc27, 1, ys1271.2.2.2.1, [(2, (2, [(0, 0, 303), (1, 0, 6)], [], [], [(0, (3, (1, 0, 0), yc 0)), (1, (2, yc 9, yc 0)), (2, (0, (1, 1, 0), yc 0))], []), ([((-9), 1)], 63)), (18, (6, [(0, 0, 303), (1, 0, 5), (2, (-1), 5), (3, 0, 9223372036854775807), (4, 0, 6), (5, 1, 6)], [], [(yc 10, yc 2, (0, (1, 5, 0), yc 0))], [(0, (3, (1, 0, 0), yc 0)), (1, (2, yc 9, yc 0)), (2, (0, (1, 1, 0), yc 0)), (3, (0, (1, 2, 0), yc 0)), (4, (1, (1, 3, 0), yc 0)), (6, (0, (1, 4, 0), yc 0))], []), ([((-1), 4), ((-9), 1)], 61))], [])
theorem yw1271 : ywf ys1271.2.2.1 = true := by decide +kernel
theorem yk1271 : yver yx1271 ys1271.2.2.1 4000 = true := yverQ_ok (by decide +kernel)
theorem yt1271 {E : zHp → Prop} (h : yEF E yFP) : yTs E 6 ys1271 := yver_s (x := yx1271) h (yal_c (yt1264 h) (by decide) yw1264 (yal_c (yt665 h) (by decide) yw665 (yal_c (yt663 h) (by decide) yw663 (yal_c (yt1259 h) (by decide) yw1259 (yal_c (yt1270 h) (by decide) yw1270 (yal_n)))))) yg27 yk1271
def ys1276 : ySp := (100, 3, (1, [(0, 0, 5)], [], [], [(0, (2, yc 9, yc 0)), (1, (0, (1, 0, 0), yc 0)), (2, (0, yc 0, yc 0))], []), [(1, [], [], [], [], [(0, yc 0, yc 0)]), (2, [(1, 0, 2147483647)], [], [], [], [(0, (1, 1, 0), yc 0)])], [])
def yx1276 : yCx := ([ys1037, ys1185, ys1066, ys1187], ys1276.2.2.2.2, yFP, zm100.2.2.1, zm100.2.2.2.1, zc100, 1, ys1276.2.2.2.1, [], [])
theorem yw1276 : ywf ys1276.2.2.1 = true := by decide +kernel
theorem yk1276 : yver yx1276 ys1276.2.2.1 4000 = true := yverQ_ok (by decide +kernel)
theorem yt1276 {E : zHp → Prop} (h : yEF E yFP) : yTs E 3 ys1276 := yver_s (x := yx1276) h (yal_c (yt1037 h) (by decide) yw1037 (yal_c (yt1185 h) (by decide) yw1185 (yal_c (yt1066 h) (by decide) yw1066 (yal_c (yt1187 h) (by decide) yw1187 (yal_n))))) yg100 yk1276
def ys1277 : ySp := (99, 2, (1, [(0, 0, 5)], [], [], [(0, (2, yc 9, yc 0)), (1, (0, (1, 0, 0), yc 0))], []), [(1, [], [], [], [], [(0, yc 0, yc 0)]), (2, [(1, 0, 2147483647)], [], [], [], [(0, (1, 1, 0), yc 0)])], [])
def yx1277 : yCx := ([ys1276], ys1277.2.2.2.2, yFP, zm99.2.2.1, zm99.2.2.2.1, zc99, 1, ys1277.2.2.2.1, [], [])
theorem yw1277 : ywf ys1277.2.2.1 = true := by decide +kernel
theorem yk1277 : yver yx1277 ys1277.2.2.1 4000 = true := yverQ_ok (by decide +kernel)
theorem yt1277 {E : zHp → Prop} (h : yEF E yFP) : yTs E 4 ys1277 := yver_s (x := yx1277) h (yal_c (yt1276 h) (by decide) yw1276 (yal_n)) yg99 yk1277
def ys1284 : ySp := (107, 3, (1, [(0, 0, 5)], [], [], [(0, (2, yc 9, yc 0)), (1, (0, (1, 0, 0), yc 0))], []), [(1, [], [], [], [], [(0, yc 0, yc 0)]), (1, [], [], [], [], [(0, yc 1, yc 0)])], [])
def yx1284 : yCx := ([ys663, ys1036, ys1184, ys1177, ys1178, ys1179, ys1277, ys660], ys1284.2.2.2.2, yFP, zm107.2.2.1, zm107.2.2.2.1, zc107, 1, ys1284.2.2.2.1, [(12, (2, [(0, 0, 5), (1, 0, 6)], [], [], [(0, (2, yc 9, yc 0)), (1, (0, (1, 0, 0), yc 0)), (2, (0, (1, 1, 0), yc 0))], []), ([((-1), 1)], 7))], [])
theorem yw1284 : ywf ys1284.2.2.1 = true := by decide +kernel
theorem yk1284 : yver yx1284 ys1284.2.2.1 4000 = true := yverQ_ok (by decide +kernel)
theorem yt1284 {E : zHp → Prop} (h : yEF E yFP) : yTs E 5 ys1284 := yver_s (x := yx1284) h (yal_c (yt663 h) (by decide) yw663 (yal_c (yt1036 h) (by decide) yw1036 (yal_c (yt1184 h) (by decide) yw1184 (yal_c (yt1177 h) (by decide) yw1177 (yal_c (yt1178 h) (by decide) yw1178 (yal_c (yt1179 h) (by decide) yw1179 (yal_c (yt1277 h) (by decide) yw1277 (yal_c (yt660 h) (by decide) yw660 (yal_n))))))))) yg107 yk1284
def ys1285 : ySp := (90, 4, (2, [(0, 0, 5), (1, (-2147483648), 2147483647)], [], [], [(0, (2, yc 9, yc 0)), (1, (0, (1, 0, 0), yc 0)), (2, (0, yc 4, yc 0)), (3, (0, (1, 1, 0), yc 0))], []), [(2, [], [], [], [], [])], [(10, 10, 1000)])
def yx1285 : yCx := ([], ys1285.2.2.2.2, yFP, zm90.2.2.1, zm90.2.2.2.1, zc90, 2, ys1285.2.2.2.1, [], [])
theorem yw1285 : ywf ys1285.2.2.1 = true := by decide +kernel
theorem yk1285 : yver yx1285 ys1285.2.2.1 4000 = true := yverQ_ok (by decide +kernel)
theorem yt1285 {E : zHp → Prop} (h : yEF E yFP) : yTs E 1 ys1285 := yver_s (x := yx1285) h (yal_n) yg90 yk1285
def ys1286 : ySp := (108, 3, (1, [(0, 0, 5)], [], [], [(0, (2, yc 9, yc 0)), (1, (0, (1, 0, 0), yc 0))], []), [(2, [(1, (-2147483648), 2147483647)], [], [], [], [(0, (1, 1, 0), yc 0)])], [(10, 10, 1000)])
def yx1286 : yCx := ([ys649, ys1182, ys1285], ys1286.2.2.2.2, yFP, zm108.2.2.1, zm108.2.2.2.1, zc108, 1, ys1286.2.2.2.1, [], [])
theorem yw1286 : ywf ys1286.2.2.1 = true := by decide +kernel
theorem yk1286 : yver yx1286 ys1286.2.2.1 4000 = true := yverQ_ok (by decide +kernel)
theorem yt1286 {E : zHp → Prop} (h : yEF E yFP) : yTs E 2 ys1286 := yver_s (x := yx1286) h (yal_c (yt649 h) (by decide) yw649 (yal_c (yt1182 h) (by decide) yw1182 (yal_c (yt1285 h) (by decide) yw1285 (yal_n)))) yg108 yk1286
def ys1287 : ySp := (109, 2, (0, [], [], [], [(0, (2, yc 9, yc 0))], []), [(0, [], [], [], [], [])], [(10, 10, 1000)])
def yx1287 : yCx := ([ys656, ys1284, ys1286], ys1287.2.2.2.2, yFP, zm109.2.2.1, zm109.2.2.2.1, zc109, 0, ys1287.2.2.2.1, [(2, (1, [(0, 0, 6)], [], [], [(0, (2, yc 9, yc 0)), (1, (0, (1, 0, 0), yc 0))], []), ([((-1), 0)], 7))], [])
theorem yw1287 : ywf ys1287.2.2.1 = true := by decide +kernel
theorem yk1287 : yver yx1287 ys1287.2.2.1 4000 = true := yverQ_ok (by decide +kernel)
theorem yt1287 {E : zHp → Prop} (h : yEF E yFP) : yTs E 6 ys1287 := yver_s (x := yx1287) h (yal_c (yt656 h) (by decide) yw656 (yal_c (yt1284 h) (by decide) yw1284 (yal_c (yt1286 h) (by decide) yw1286 (yal_n)))) yg109 yk1287
def ys1290 : ySp := (88, 4, (2, [(0, 0, 5), (1, (-2147483648), 2147483647)], [], [], [(0, (2, yc 9, yc 0)), (1, (0, (1, 0, 0), yc 0)), (2, (0, yc 5, yc 0)), (3, (0, (1, 1, 0), yc 0))], []), [(2, [], [], [], [], [])], [(10, 10, 1000)])
def yx1290 : yCx := ([], ys1290.2.2.2.2, yFP, zm88.2.2.1, zm88.2.2.2.1, zc88, 2, ys1290.2.2.2.1, [], [])
theorem yw1290 : ywf ys1290.2.2.1 = true := by decide +kernel
theorem yk1290 : yver yx1290 ys1290.2.2.1 4000 = true := yverQ_ok (by decide +kernel)
theorem yt1290 {E : zHp → Prop} (h : yEF E yFP) : yTs E 1 ys1290 := yver_s (x := yx1290) h (yal_n) yg88 yk1290
def ys1291 : ySp := (112, 2, (0, [], [], [], [(0, (2, yc 9, yc 0))], []), [(0, [], [], [], [], [])], [(10, 10, 1000)])
def yx1291 : yCx := ([ys663, ys649, ys1186, ys1290, ys1066], ys1291.2.2.2.2, yFP, zm112.2.2.1, zm112.2.2.2.1, zc112, 0, ys1291.2.2.2.1, [(2, (1, [(0, 0, 6)], [], [], [(0, (2, yc 9, yc 0)), (1, (0, (1, 0, 0), yc 0))], []), ([((-1), 0)], 7))], [])
theorem yw1291 : ywf ys1291.2.2.1 = true := by decide +kernel
theorem yk1291 : yver yx1291 ys1291.2.2.1 4000 = true := yverQ_ok (by decide +kernel)
theorem yt1291 {E : zHp → Prop} (h : yEF E yFP) : yTs E 3 ys1291 := yver_s (x := yx1291) h (yal_c (yt663 h) (by decide) yw663 (yal_c (yt649 h) (by decide) yw649 (yal_c (yt1186 h) (by decide) yw1186 (yal_c (yt1290 h) (by decide) yw1290 (yal_c (yt1066 h) (by decide) yw1066 (yal_n)))))) yg112 yk1291
def ys1292 : ySp := (15, 1, (0, [], [], [], [(0, (2, yc 14, yc 0))], []), [(0, [], [], [], [], [])], [(14, 14, 2)])
def yx1292 : yCx := ([], ys1292.2.2.2.2, yFP, zm15.2.2.1, zm15.2.2.2.1, zc15, 0, ys1292.2.2.2.1, [], [])
theorem yw1292 : ywf ys1292.2.2.1 = true := by decide +kernel
theorem yk1292 : yver yx1292 ys1292.2.2.1 4000 = true := yverQ_ok (by decide +kernel)
theorem yt1292 {E : zHp → Prop} (h : yEF E yFP) : yTs E 1 ys1292 := yver_s (x := yx1292) h (yal_n) yg15 yk1292
def ys1293 : ySp := (139, 5, (2, [(0, (-2147483648), 2147483647), (1, (-2147483648), 2147483647)], [], [], [(0, (2, yc 0, yc 0)), (1, (0, (1, 0, 0), yc 0)), (2, (0, (1, 1, 0), yc 0))], []), [(2, [], [], [], [], [(0, yc (-1), yc 0)]), (4, [(0, 0, 5), (1, 1, 60), (2, (-2147483648), 2147483647), (3, 0, 303)], [], [(yc 13, (1, 0, 0), (3, (1, 3, 0), yc 0))], [], [(0, (1, 2, 0), yc 0)])], [(10, 10, 1000), (14, 14, 2), (88, 999, 1000)])
def yx1293 : yCx := ([ys1292, ys1271, ys671, ys649, ys662, ys1287, ys1291, ys995], ys1293.2.2.2.2, yFP, zm139.2.2.1, zm139.2.2.2.1, zc139, 2, ys1293.2.2.2.1, [(57, (5, [(0, 0, 5), (1, 1, 60), (2, (-2147483648), 2147483647), (3, 0, 60), (4, 0, 303)], [], [(yc 13, (1, 0, 0), (3, (1, 4, 0), yc 0))], [(0, (2, yc 0, yc 0)), (1, (0, (1, 0, 0), yc 0)), (2, (0, (1, 1, 0), yc 0)), (3, (0, (1, 2, 0), yc 0)), (4, (0, (1, 3, 0), yc 0))], []), ([((-1), 3)], 61))], [])
theorem yw1293 : ywf ys1293.2.2.1 = true := by decide +kernel
theorem yk1293 : yver yx1293 ys1293.2.2.1 4000 = true := yverQ_ok (by decide +kernel)
theorem yt1293 {E : zHp → Prop} (h : yEF E yFP) : yTs E 7 ys1293 := yver_s (x := yx1293) h (yal_c (yt1292 h) (by decide) yw1292 (yal_c (yt1271 h) (by decide) yw1271 (yal_c (yt671 h) (by decide) yw671 (yal_c (yt649 h) (by decide) yw649 (yal_c (yt662 h) (by decide) yw662 (yal_c (yt1287 h) (by decide) yw1287 (yal_c (yt1291 h) (by decide) yw1291 (yal_c (yt995 h) (by decide) yw995 (yal_n))))))))) yg139 yk1293
def ys1294 : ySp := (248, 5, (2, [(0, 0, 5), (1, 0, 63)], [], [], [(0, (2, yc 70, yc 0)), (1, (0, (1, 0, 0), yc 0)), (2, (0, (1, 1, 0), yc 0))], []), [(2, [], [], [], [], [(0, yc (-1), yc 0)]), (3, [(1, 1, 60), (2, (-2147483648), 2147483647)], [], [], [], [(0, (1, 2, 0), yc 0)])], [(70, 70, 20), (70, 70, 25), (78, 78, 1000), (79, 79, 1000), (80, 80, 1000)])
def yx1294 : yCx := ([ys771, ys1014, ys769, ys1030], ys1294.2.2.2.2, yFP, zm248.2.2.1, zm248.2.2.2.1, zc248, 2, ys1294.2.2.2.1, [(53, (6, [(0, 0, 5), (1, 1, 60), (2, (-2147483648), 2147483647), (3, 0, 60), (4, 0, 6), (5, (-2147483648), 2147483647)], [], [(yc 80, yc 0, (0, (1, 4, 0), yc 0)), (yc 80, yc 4, (0, (1, 5, 0), yc 0)), (yc 70, yc 25, (0, yc 0, yc 0))], [(0, (2, yc 70, yc 0)), (1, (0, (1, 0, 0), yc 0)), (2, (0, (1, 1, 0), yc 0)), (3, (0, (1, 2, 0), yc 0)), (4, (0, (1, 3, 0), yc 0))], []), ([((-1), 3)], 61))], [])
theorem yw1294 : ywf ys1294.2.2.1 = true := by decide +kernel
theorem yk1294 : yver yx1294 ys1294.2.2.1 4000 = true := yverQ_ok (by decide +kernel)
theorem yt1294 {E : zHp → Prop} (h : yXt E) : yTs E 8 ys1294 := yver_s (x := yx1294) h.1 (yal_c (yt771 h.1) (by decide) yw771 (yal_c (yt1014 h.1) (by decide) yw1014 (yal_c (yt769 h.1) (by decide) yw769 (yal_c (yt1030 h) (by decide) yw1030 (yal_n))))) yg248 yk1294
def ys1295 : ySp := (248, 5, (2, [(0, (-2147483648), 2147483647), (1, (-2147483648), 2147483647)], [], [], [(0, (2, yc 70, yc 0)), (1, (0, (1, 0, 0), yc 0)), (2, (0, (1, 1, 0), yc 0))], []), [(2, [], [], [], [], [(0, yc (-1), yc 0)]), (3, [(0, 0, 5), (1, 1, 60), (2, (-2147483648), 2147483647)], [], [], [], [(0, (1, 2, 0), yc 0)])], [(70, 70, 20), (70, 70, 25), (78, 78, 1000), (79, 79, 1000), (80, 80, 1000)])
def yx1295 : yCx := ([ys835, ys1032, ys769, ys1030], ys1295.2.2.2.2, yFP, zm248.2.2.1, zm248.2.2.2.1, zc248, 2, ys1295.2.2.2.1, [(53, (6, [(0, 0, 5), (1, 1, 60), (2, (-2147483648), 2147483647), (3, 0, 60), (4, 0, 6), (5, (-2147483648), 2147483647)], [], [(yc 80, yc 0, (0, (1, 4, 0), yc 0)), (yc 80, yc 4, (0, (1, 5, 0), yc 0)), (yc 70, yc 25, (0, yc 0, yc 0))], [(0, (2, yc 70, yc 0)), (1, (0, (1, 0, 0), yc 0)), (2, (0, (1, 1, 0), yc 0)), (3, (0, (1, 2, 0), yc 0)), (4, (0, (1, 3, 0), yc 0))], []), ([((-1), 3)], 61))], [])
theorem yw1295 : ywf ys1295.2.2.1 = true := by decide +kernel
theorem yk1295 : yver yx1295 ys1295.2.2.1 4000 = true := yverQ_ok (by decide +kernel)
theorem yt1295 {E : zHp → Prop} (h : yXt E) : yTs E 8 ys1295 := yver_s (x := yx1295) h.1 (yal_c (yt835 h.1) (by decide) yw835 (yal_c (yt1032 h.1) (by decide) yw1032 (yal_c (yt769 h.1) (by decide) yw769 (yal_c (yt1030 h) (by decide) yw1030 (yal_n))))) yg248 yk1295
def ys1296 : ySp := (69, 2, (1, [(0, 16, 35)], [], [], [(0, (2, yc 9, yc 0)), (1, (2, (1, 0, 0), yc 0))], []), [(1, [], [], [], [], [])], [(10, 10, 1000)])
def yx1296 : yCx := ([], ys1296.2.2.2.2, yFP, zm69.2.2.1, zm69.2.2.2.1, zc69, 1, ys1296.2.2.2.1, [], [])
theorem yw1296 : ywf ys1296.2.2.1 = true := by decide +kernel
theorem yk1296 : yver yx1296 ys1296.2.2.1 4000 = true := yverQ_ok (by decide +kernel)
theorem yt1296 {E : zHp → Prop} (h : yEF E yFP) : yTs E 1 ys1296 := yver_s (x := yx1296) h (yal_n) yg69 yk1296
def ys1297 : ySp := (17, 2, (0, [], [], [], [(0, (2, yc 14, yc 0)), (1, (2, yc 9, yc 0))], []), [(0, [], [], [], [], [])], [(10, 10, 1000), (14, 14, 1), (14, 14, 2)])
def yx1297 : yCx := ([ys1296], ys1297.2.2.2.2, yFP, zm17.2.2.1, zm17.2.2.2.1, zc17, 0, ys1297.2.2.2.1, [], [])
theorem yw1297 : ywf ys1297.2.2.1 = true := by decide +kernel
theorem yk1297 : yver yx1297 ys1297.2.2.1 4000 = true := yverQ_ok (by decide +kernel)
theorem yt1297 {E : zHp → Prop} (h : yEF E yFP) : yTs E 2 ys1297 := yver_s (x := yx1297) h (yal_c (yt1296 h) (by decide) yw1296 (yal_n)) yg17 yk1297
def ys1298 : ySp := (138, 1, (0, [], [], [], [(0, (2, yc 0, yc 0))], []), [(0, [], [], [], [], [(0, yc (-1), yc 0)]), (1, [(0, 0, 20)], [], [], [], [(0, (1, 0, 0), yc 0)])], [(10, 10, 1000), (14, 14, 1), (14, 14, 2)])
def yx1298 : yCx := ([ys654, ys1297], ys1298.2.2.2.2, yFP, zm138.2.2.1, zm138.2.2.2.1, zc138, 0, ys1298.2.2.2.1, [], [])
theorem yw1298 : ywf ys1298.2.2.1 = true := by decide +kernel
theorem yk1298 : yver yx1298 ys1298.2.2.1 4000 = true := yverQ_ok (by decide +kernel)
theorem yt1298 {E : zHp → Prop} (h : yEF E yFP) : yTs E 3 ys1298 := yver_s (x := yx1298) h (yal_c (yt654 h) (by decide) yw654 (yal_c (yt1297 h) (by decide) yw1297 (yal_n))) yg138 yk1298
def ys1299 : ySp := (68, 2, (1, [(0, 16, 35)], [], [], [(0, (2, yc 9, yc 0)), (1, (2, (1, 0, 0), yc 0))], []), [(1, [], [], [], [], [])], [(16, 35, 1000)])
def yx1299 : yCx := ([], ys1299.2.2.2.2, yFP, zm68.2.2.1, zm68.2.2.2.1, zc68, 1, ys1299.2.2.2.1, [], [])
theorem yw1299 : ywf ys1299.2.2.1 = true := by decide +kernel
theorem yk1299 : yver yx1299 ys1299.2.2.1 4000 = true := yverQ_ok (by decide +kernel)
theorem yt1299 {E : zHp → Prop} (h : yEF E yFP) : yTs E 1 ys1299 := yver_s (x := yx1299) h (yal_n) yg68 yk1299
def ys1300 : ySp := (16, 2, (0, [], [], [], [(0, (2, yc 14, yc 0)), (1, (2, yc 9, yc 0))], []), [(0, [], [], [], [], [])], [(14, 14, 1), (14, 14, 2), (16, 35, 1000)])
def yx1300 : yCx := ([ys1299], ys1300.2.2.2.2, yFP, zm16.2.2.1, zm16.2.2.2.1, zc16, 0, ys1300.2.2.2.1, [], [])
theorem yw1300 : ywf ys1300.2.2.1 = true := by decide +kernel
theorem yk1300 : yver yx1300 ys1300.2.2.1 4000 = true := yverQ_ok (by decide +kernel)
theorem yt1300 {E : zHp → Prop} (h : yEF E yFP) : yTs E 2 ys1300 := yver_s (x := yx1300) h (yal_c (yt1299 h) (by decide) yw1299 (yal_n)) yg16 yk1300
def ys1301 : ySp := (113, 3, (0, [], [], [], [(0, (2, yc 9, yc 0))], []), [(1, [(0, (-2147483648), 2147483647)], [], [], [], [(0, (1, 0, 0), yc 0)])], [])
def yx1301 : yCx := ([ys663, ys1187], ys1301.2.2.2.2, yFP, zm113.2.2.1, zm113.2.2.2.1, zc113, 0, ys1301.2.2.2.1, [(4, (2, [(0, (-2147483648), 2147483647), (1, 0, 6)], [], [], [(0, (2, yc 9, yc 0)), (1, (0, (1, 0, 0), yc 0)), (2, (0, (1, 1, 0), yc 0))], []), ([((-1), 1)], 7))], [])
theorem yw1301 : ywf ys1301.2.2.1 = true := by decide +kernel
theorem yk1301 : yver yx1301 ys1301.2.2.1 4000 = true := yverQ_ok (by decide +kernel)
theorem yt1301 {E : zHp → Prop} (h : yEF E yFP) : yTs E 3 ys1301 := yver_s (x := yx1301) h (yal_c (yt663 h) (by decide) yw663 (yal_c (yt1187 h) (by decide) yw1187 (yal_n))) yg113 yk1301
def ys1302 : ySp := (137, 1, (0, [], [], [], [(0, (2, yc 0, yc 0))], []), [(0, [], [], [], [], [(0, yc (-1), yc 0)]), (1, [(0, (-2147483648), 2147483647)], [], [], [], [(0, (1, 0, 0), yc 0)])], [(10, 10, 1000), (14, 14, 1), (14, 14, 2), (16, 35, 1000)])
def yx1302 : yCx := ([ys1300, ys671, ys649, ys1291, ys1301], ys1302.2.2.2.2, yFP, zm137.2.2.1, zm137.2.2.2.1, zc137, 0, ys1302.2.2.2.1, [], [])
theorem yw1302 : ywf ys1302.2.2.1 = true := by decide +kernel
theorem yk1302 : yver yx1302 ys1302.2.2.1 4000 = true := yverQ_ok (by decide +kernel)
theorem yt1302 {E : zHp → Prop} (h : yEF E yFP) : yTs E 4 ys1302 := yver_s (x := yx1302) h (yal_c (yt1300 h) (by decide) yw1300 (yal_c (yt671 h) (by decide) yw671 (yal_c (yt649 h) (by decide) yw649 (yal_c (yt1291 h) (by decide) yw1291 (yal_c (yt1301 h) (by decide) yw1301 (yal_n)))))) yg137 yk1302
