def ys847 : ySp := (2, 5, (3, [(0, 0, 6), (1, (-2147483648), 2147483647), (2, 0, 63)], [], [], [(0, (2, yc 44, yc 0)), (1, (0, (1, 0, 0), yc 0)), (2, (0, (1, 1, 0), yc 0)), (3, (0, (1, 2, 0), yc 0))], []), [(3, [], [], [], [], [])], [(45, 45, 1000), (46, 46, 1000)])
def yx847 : yCx := ([], ys847.2.2.2.2, yFP, zm2.2.2.1, zm2.2.2.2.1, zc2, 3, ys847.2.2.2.1, [(3, (4, [(0, 0, 6), (1, (-2147483648), 2147483647), (2, 0, 63), (3, 0, 6)], [], [], [(0, (2, yc 44, yc 0)), (1, (0, (1, 0, 0), yc 0)), (2, (0, (1, 1, 0), yc 0)), (3, (0, (1, 2, 0), yc 0)), (4, (0, (1, 3, 0), yc 0))], []), ([((-1), 3)], 7))], [])
theorem yw847 : ywf ys847.2.2.1 = true := by decide +kernel
theorem yk847 : yver yx847 ys847.2.2.1 4000 = true := yverQ_ok (by decide +kernel)
theorem yt847 {E : zHp → Prop} (h : yEF E yFP) : yTs E 1 ys847 := yver_s (x := yx847) h (yal_n) yg2 yk847
def ys848 : ySp := (3, 5, (1, [(0, 0, 63)], [], [], [(0, (2, yc 44, yc 0)), (1, (2, yc 11, yc 0)), (2, (0, (1, 0, 0), yc 0))], []), [(1, [], [], [], [], [])], [(47, 47, 1000)])
def yx848 : yCx := ([ys845, ys684], ys848.2.2.2.2, yFP, zm3.2.2.1, zm3.2.2.2.1, zc3, 1, ys848.2.2.2.1, [(5, (3, [(0, 0, 63), (1, 0, 63), (2, 0, 6)], [], [], [(0, (2, yc 44, yc 0)), (1, (2, yc 11, yc 0)), (2, (0, (1, 0, 0), yc 0)), (3, (0, (1, 1, 0), yc 0)), (4, (0, (1, 2, 0), yc 0))], []), ([((-1), 2)], 14)), (52, (4, [(0, 0, 63), (1, 0, 63), (2, 0, 6), (3, 0, 6)], [], [(yc 12, yc 0, (0, (1, 3, 0), yc 0))], [(0, (2, yc 44, yc 0)), (1, (2, yc 11, yc 0)), (2, (0, (1, 0, 0), yc 0)), (3, (0, (1, 1, 0), yc 0)), (4, (0, (1, 2, 0), yc 0))], []), ([((-1), 2)], 7))], [])
theorem yw848 : ywf ys848.2.2.1 = true := by decide +kernel
theorem yk848 : yver yx848 ys848.2.2.1 4000 = true := yverQ_ok (by decide +kernel)
theorem yt848 {E : zHp → Prop} (h : yEF E yFP) : yTs E 2 ys848 := yver_s (x := yx848) h (yal_c (yt845 h) (by decide) yw845 (yal_c (yt684 h) (by decide) yw684 (yal_n))) yg3 yk848
def ys851 : ySp := (1, 7, (1, [(0, 0, 5)], [], [], [(0, (2, yc 44, yc 0)), (1, (2, yc 11, yc 0)), (2, (0, (1, 0, 0), yc 0))], []), [(1, [], [], [], [], [])], [(45, 45, 1000), (46, 46, 1000), (47, 47, 1000)])
def yx851 : yCx := ([ys847, ys848, ys845, ys698, ys705, ys846, ys844, ys842, ys843], ys851.2.2.2.2, yFP, zm1.2.2.1, zm1.2.2.2.1, zc1, 1, ys851.2.2.2.1, [(67, (6, [(0, 0, 5), (1, 0, 5), (2, 0, 63), (3, 1, 64), (4, 0, 64), (5, 0, 6)], [], [(yc 12, yc 0, (0, (1, 5, 0), yc 0))], [(0, (2, yc 44, yc 0)), (1, (2, yc 11, yc 0)), (2, (0, (1, 0, 0), yc 0)), (3, (0, (1, 1, 0), yc 0)), (4, (0, (1, 2, 0), yc 0)), (5, (0, (1, 3, 0), yc 0)), (6, (0, (1, 4, 0), yc 0))], []), ([((-1), 4)], 65))], [])
theorem yw851 : ywf ys851.2.2.1 = true := by decide +kernel
theorem yk851 : yver yx851 ys851.2.2.1 4000 = true := yverQ_ok (by decide +kernel)
theorem yt851 {E : zHp → Prop} (h : yEF E yFP) : yTs E 3 ys851 := yver_s (x := yx851) h (yal_c (yt847 h) (by decide) yw847 (yal_c (yt848 h) (by decide) yw848 (yal_c (yt845 h) (by decide) yw845 (yal_c (yt698 h) (by decide) yw698 (yal_c (yt705 h) (by decide) yw705 (yal_c (yt846 h) (by decide) yw846 (yal_c (yt844 h) (by decide) yw844 (yal_c (yt842 h) (by decide) yw842 (yal_c (yt843 h) (by decide) yw843 (yal_n)))))))))) yg1 yk851
def ys857 : ySp := (4, 5, (2, [(0, 0, 5), (1, 0, 4)], [], [], [(0, (2, yc 44, yc 0)), (1, (2, yc 11, yc 0)), (2, (0, (1, 0, 0), yc 0)), (3, (0, (1, 1, 0), yc 0))], []), [(2, [], [], [], [], [(0, yc 0, yc 0)]), (2, [], [], [], [], [(0, yc 1, yc 0)])], [(45, 45, 1000), (46, 46, 1000), (47, 47, 1000)])
def yx857 : yCx := ([ys851, ys673, ys698, ys732], ys857.2.2.2.2, yFP, zm4.2.2.1, zm4.2.2.2.1, zc4, 2, ys857.2.2.2.1, [(3, (3, [(0, 0, 5), (1, 0, 4), (2, 0, 6)], [], [], [(0, (2, yc 44, yc 0)), (1, (2, yc 11, yc 0)), (2, (0, (1, 0, 0), yc 0)), (3, (0, (1, 1, 0), yc 0)), (4, (0, (1, 2, 0), yc 0))], []), ([((-1), 2)], 7))], [])
theorem yw857 : ywf ys857.2.2.1 = true := by decide +kernel
theorem yk857 : yver yx857 ys857.2.2.1 4000 = true := yverQ_ok (by decide +kernel)
theorem yt857 {E : zHp → Prop} (h : yEF E yFP) : yTs E 4 ys857 := yver_s (x := yx857) h (yal_c (yt851 h) (by decide) yw851 (yal_c (yt673 h) (by decide) yw673 (yal_c (yt698 h) (by decide) yw698 (yal_c (yt732 h) (by decide) yw732 (yal_n))))) yg4 yk857
def ys859 : ySp := (105, 3, (2, [(0, 0, 5), (1, 0, 5)], [], [], [(0, (2, yc 11, yc 0)), (1, (0, (1, 0, 0), yc 0)), (2, (0, (1, 1, 0), yc 0))], []), [(2, [], [], [], [], [])], [(12, 12, 1000)])
def yx859 : yCx := ([], ys859.2.2.2.2, yFP, zm105.2.2.1, zm105.2.2.2.1, zc105, 2, ys859.2.2.2.1, [], [])
theorem yw859 : ywf ys859.2.2.1 = true := by decide +kernel
theorem yk859 : yver yx859 ys859.2.2.1 4000 = true := yverQ_ok (by decide +kernel)
theorem yt859 {E : zHp → Prop} (h : yEF E yFP) : yTs E 1 ys859 := yver_s (x := yx859) h (yal_n) yg105 yk859
def ys860 : ySp := (151, 4, (2, [(0, 0, 5), (1, 0, 4)], [], [], [(0, (2, yc 0, yc 0)), (1, (0, (1, 0, 0), yc 0)), (2, (0, (1, 1, 0), yc 0))], []), [(2, [], [], [], [], [(0, yc 0, yc 0)]), (2, [], [], [], [], [(0, yc 1, yc 0)])], [(12, 12, 1000), (45, 45, 1000), (46, 46, 1000), (47, 47, 1000)])
def yx860 : yCx := ([ys857, ys672, ys665, ys859], ys860.2.2.2.2, yFP, zm151.2.2.1, zm151.2.2.2.1, zc151, 2, ys860.2.2.2.1, [(2, (3, [(0, 0, 5), (1, 0, 4), (2, 0, 6)], [], [], [(0, (2, yc 0, yc 0)), (1, (0, (1, 0, 0), yc 0)), (2, (0, (1, 1, 0), yc 0)), (3, (0, (1, 2, 0), yc 0))], []), ([((-1), 2)], 7))], [])
theorem yw860 : ywf ys860.2.2.1 = true := by decide +kernel
theorem yk860 : yver yx860 ys860.2.2.1 4000 = true := yverQ_ok (by decide +kernel)
theorem yt860 {E : zHp → Prop} (h : yEF E yFP) : yTs E 5 ys860 := yver_s (x := yx860) h (yal_c (yt857 h) (by decide) yw857 (yal_c (yt672 h) (by decide) yw672 (yal_c (yt665 h) (by decide) yw665 (yal_c (yt859 h) (by decide) yw859 (yal_n))))) yg151 yk860
def ys861 : ySp := (150, 4, (1, [(0, (-2147483648), 2147483647)], [], [], [(0, (2, yc 0, yc 0)), (1, (0, (1, 0, 0), yc 0))], []), [(1, [], [], [], [], [(0, yc (-1), yc 0)]), (2, [(0, 0, 4), (1, (-2147483648), 2147483647)], [], [], [], [(0, (1, 1, 0), yc 0)])], [(12, 12, 1000), (45, 45, 1000), (46, 46, 1000), (47, 47, 1000)])
def yx861 : yCx := ([ys671, ys665, ys860], ys861.2.2.2.2, yFP, zm150.2.2.1, zm150.2.2.2.1, zc150, 1, ys861.2.2.2.1, [(25, (3, [(0, 0, 4), (1, (-2147483648), 2147483647), (2, 0, 6)], [], [], [(0, (2, yc 0, yc 0)), (1, (0, (1, 0, 0), yc 0)), (2, (0, (1, 1, 0), yc 0)), (3, (0, (1, 2, 0), yc 0))], []), ([((-1), 2)], 7))], [])
theorem yw861 : ywf ys861.2.2.1 = true := by decide +kernel
theorem yk861 : yver yx861 ys861.2.2.1 4000 = true := yverQ_ok (by decide +kernel)
theorem yt861 {E : zHp → Prop} (h : yEF E yFP) : yTs E 6 ys861 := yver_s (x := yx861) h (yal_c (yt671 h) (by decide) yw671 (yal_c (yt665 h) (by decide) yw665 (yal_c (yt860 h) (by decide) yw860 (yal_n)))) yg150 yk861
def ys863 : ySp := (235, 4, (2, [(0, 1, 6), (1, 0, 5)], [], [], [(0, (0, (1, 0, 0), yc 0)), (1, (0, (1, 1, 0), yc 0))], []), [(2, [(1, 0, 0)], [], [], [], [(0, yc 1, yc 0)]), (3, [(1, 1, 5), (2, 1, 7776)], [], [], [], [(0, (1, 2, 0), yc 0)])], [])
def yx863 : yCx := ([], ys863.2.2.2.2, yFP, zm235.2.2.1, zm235.2.2.2.1, zc235, 2, ys863.2.2.2.1, [(4, (2, [(0, 1, 6), (1, 0, 5)], [], [], [(0, (0, (1, 0, 0), yc 0)), (1, (0, (1, 1, 0), yc 0)), (2, (0, yc 1, yc 0)), (3, (0, yc 0, yc 0))], []), ([], 5)), (4, (2, [(0, 1, 6), (1, 1, 5)], [], [], [(0, (0, (1, 0, 0), yc 0)), (1, (0, (1, 1, 0), yc 0)), (2, (0, (1, 0, 0), yc 0)), (3, (0, yc 1, yc 0))], []), ([], 4)), (4, (3, [(0, 1, 6), (1, 2, 5), (2, 1, 36)], [], [], [(0, (0, (1, 0, 0), yc 0)), (1, (0, (1, 1, 0), yc 0)), (2, (0, (1, 2, 0), yc 0)), (3, (0, yc 2, yc 0))], []), ([], 3)), (4, (3, [(0, 1, 6), (1, 3, 5), (2, 1, 216)], [], [], [(0, (0, (1, 0, 0), yc 0)), (1, (0, (1, 1, 0), yc 0)), (2, (0, (1, 2, 0), yc 0)), (3, (0, yc 3, yc 0))], []), ([], 2)), (4, (3, [(0, 1, 6), (1, 4, 5), (2, 1, 1296)], [], [], [(0, (0, (1, 0, 0), yc 0)), (1, (0, (1, 1, 0), yc 0)), (2, (0, (1, 2, 0), yc 0)), (3, (0, yc 4, yc 0))], []), ([], 1)), (4, (3, [(0, 1, 6), (1, 5, 5), (2, 1, 7776)], [], [], [(0, (0, (1, 0, 0), yc 0)), (1, (0, yc 5, yc 0)), (2, (0, (1, 2, 0), yc 0)), (3, (0, yc 5, yc 0))], []), ([], 0))], [])
theorem yw863 : ywf ys863.2.2.1 = true := by decide +kernel
theorem yk863 : yver yx863 ys863.2.2.1 4000 = true := yverQ_ok (by decide +kernel)
theorem yt863 {E : zHp → Prop} (h : yEF E yFP) : yTs E 1 ys863 := yver_s (x := yx863) h (yal_n) yg235 yk863
def ys864 : ySp := (235, 4, (2, [(0, 1, 6), (1, (-7), 7)], [], [], [(0, (0, (1, 0, 0), yc 0)), (1, (0, (1, 1, 0), yc 0))], []), [(2, [(1, (-7), 0)], [], [], [], [(0, yc 1, yc 0)]), (3, [(1, 1, 7), (2, 1, 279936)], [], [], [], [(0, (1, 2, 0), yc 0)])], [])
def yq864_0 : yCu := (4, (2, [(0, 1, 6), (1, (-7), 7)], [], [], [(0, (0, (1, 0, 0), yc 0)), (1, (0, (1, 1, 0), yc 0)), (2, (0, yc 1, yc 0)), (3, (0, yc 0, yc 0))], []), ([], 7))
def yq864_1 : yCu := (4, (2, [(0, 1, 6), (1, 1, 7)], [], [], [(0, (0, (1, 0, 0), yc 0)), (1, (0, (1, 1, 0), yc 0)), (2, (0, (1, 0, 0), yc 0)), (3, (0, yc 1, yc 0))], []), ([], 6))
def yq864_2 : yCu := (4, (3, [(0, 1, 6), (1, 2, 7), (2, 1, 36)], [], [], [(0, (0, (1, 0, 0), yc 0)), (1, (0, (1, 1, 0), yc 0)), (2, (0, (1, 2, 0), yc 0)), (3, (0, yc 2, yc 0))], []), ([], 5))
def yq864_3 : yCu := (4, (3, [(0, 1, 6), (1, 3, 7), (2, 1, 216)], [], [], [(0, (0, (1, 0, 0), yc 0)), (1, (0, (1, 1, 0), yc 0)), (2, (0, (1, 2, 0), yc 0)), (3, (0, yc 3, yc 0))], []), ([], 4))
def yq864_4 : yCu := (4, (3, [(0, 1, 6), (1, 4, 7), (2, 1, 1296)], [], [], [(0, (0, (1, 0, 0), yc 0)), (1, (0, (1, 1, 0), yc 0)), (2, (0, (1, 2, 0), yc 0)), (3, (0, yc 4, yc 0))], []), ([], 3))
def yq864_5 : yCu := (4, (3, [(0, 1, 6), (1, 5, 7), (2, 1, 7776)], [], [], [(0, (0, (1, 0, 0), yc 0)), (1, (0, (1, 1, 0), yc 0)), (2, (0, (1, 2, 0), yc 0)), (3, (0, yc 5, yc 0))], []), ([], 2))
def yq864_6 : yCu := (4, (3, [(0, 1, 6), (1, 6, 7), (2, 1, 46656)], [], [], [(0, (0, (1, 0, 0), yc 0)), (1, (0, (1, 1, 0), yc 0)), (2, (0, (1, 2, 0), yc 0)), (3, (0, yc 6, yc 0))], []), ([], 1))
def yq864_7 : yCu := (4, (3, [(0, 1, 6), (1, 7, 7), (2, 1, 279936)], [], [], [(0, (0, (1, 0, 0), yc 0)), (1, (0, yc 7, yc 0)), (2, (0, (1, 2, 0), yc 0)), (3, (0, yc 7, yc 0))], []), ([], 0))
def yx864 : yCx := ([], ys864.2.2.2.2, yFP, zm235.2.2.1, zm235.2.2.2.1, zc235, 2, ys864.2.2.2.1, [yq864_0, yq864_1, yq864_2, yq864_3, yq864_4, yq864_5, yq864_6, yq864_7], [])
theorem yw864 : ywf ys864.2.2.1 = true := by decide +kernel
theorem yk864_e : yver0 yx864 ys864.2.2.1 4000 = true := yver0Q_ok (by decide +kernel)
theorem yk864_0 : ycc yx864 4000 yq864_0 = true := yccQ_ok (by decide +kernel)
theorem yk864_1 : ycc yx864 4000 yq864_1 = true := yccQ_ok (by decide +kernel)
theorem yk864_2 : ycc yx864 4000 yq864_2 = true := yccQ_ok (by decide +kernel)
theorem yk864_3 : ycc yx864 4000 yq864_3 = true := yccQ_ok (by decide +kernel)
theorem yk864_4 : ycc yx864 4000 yq864_4 = true := yccQ_ok (by decide +kernel)
theorem yk864_5 : ycc yx864 4000 yq864_5 = true := yccQ_ok (by decide +kernel)
theorem yk864_6 : ycc yx864 4000 yq864_6 = true := yccQ_ok (by decide +kernel)
theorem yk864_7 : ycc yx864 4000 yq864_7 = true := yccQ_ok (by decide +kernel)
theorem yk864 : yver yx864 ys864.2.2.1 4000 = true := yver_join yk864_e (ycc_c yk864_0 (ycc_c yk864_1 (ycc_c yk864_2 (ycc_c yk864_3 (ycc_c yk864_4 (ycc_c yk864_5 (ycc_c yk864_6 (ycc_c yk864_7 (ycc_n)))))))))
theorem yt864 {E : zHp → Prop} (h : yEF E yFP) : yTs E 1 ys864 := yver_s (x := yx864) h (yal_n) yg235 yk864
def ys865 : ySp := (236, 4, (4, [(0, 0, 1), (1, 0, 5), (2, (-1), 5), (3, 1, 6)], [], [(yc 80, yc 0, (0, (1, 3, 0), yc 0))], [(0, (2, yc 70, yc 0)), (1, (0, (1, 0, 0), yc 0)), (2, (0, (1, 1, 0), yc 0)), (3, (0, (1, 2, 0), yc 0))], []), [(5, [(4, 0, 1)], [], [(yc 80, yc 0, (0, (1, 3, 0), yc 0))], [], [(0, (1, 4, 0), yc 0)])], [])
def yx865 : yCx := ([ys864], ys865.2.2.2.2, yFP, zm236.2.2.1, zm236.2.2.2.1, zc236, 4, ys865.2.2.2.1, [], [])
theorem yw865 : ywf ys865.2.2.1 = true := by decide +kernel
theorem yk865 : yver yx865 ys865.2.2.1 4000 = true := yverQ_ok (by decide +kernel)
theorem yt865 {E : zHp → Prop} (h : yEF E yFP) : yTs E 2 ys865 := yver_s (x := yx865) h (yal_c (yt864 h) (by decide) yw864 (yal_n)) yg236 yk865
def ys867 : ySp := (159, 2, (2, [(0, 0, 63), (1, 0, 1)], [], [], [(0, (0, (1, 0, 0), yc 0)), (1, (0, (1, 1, 0), yc 0))], []), [(2, [], [], [], [], [(0, yc 0, yc 0)]), (2, [], [], [], [], [(0, yc 1, yc 0)])], [])
def yx867 : yCx := ([], ys867.2.2.2.2, yFP, zm159.2.2.1, zm159.2.2.2.1, zc159, 2, ys867.2.2.2.1, [], [])
theorem yw867 : ywf ys867.2.2.1 = true := by decide +kernel
theorem yk867 : yver yx867 ys867.2.2.1 4000 = true := yverQ_ok (by decide +kernel)
theorem yt867 {E : zHp → Prop} (h : yEF E yFP) : yTs E 1 ys867 := yver_s (x := yx867) h (yal_n) yg159 yk867
def ys868 : ySp := (237, 6, (3, [(0, 0, 1), (1, 0, 5), (2, 1, 6)], [], [(yc 80, yc 0, (0, (1, 2, 0), yc 0))], [(0, (2, yc 70, yc 0)), (1, (0, (1, 0, 0), yc 0)), (2, (0, (1, 1, 0), yc 0))], []), [(3, [(1, 1, 5)], [], [(yc 80, yc 0, (0, (1, 2, 0), yc 0))], [], [(0, yc 0, yc 0)]), (3, [], [], [(yc 80, yc 0, (0, (1, 2, 0), yc 0))], [], [(0, yc 1, yc 0)])], [])
def yx868 : yCx := ([ys867, ys865], ys868.2.2.2.2, yFP, zm237.2.2.1, zm237.2.2.2.1, zc237, 3, ys868.2.2.2.1, [(5, (5, [(0, 0, 1), (1, 0, 5), (2, 1, 6), (3, 0, 63), (4, 0, 5)], [], [(yc 80, yc 0, (0, (1, 2, 0), yc 0))], [(0, (2, yc 70, yc 0)), (1, (0, (1, 0, 0), yc 0)), (2, (0, (1, 1, 0), yc 0)), (3, (0, (1, 3, 0), yc 0)), (4, (0, (1, 4, 0), yc 0))], []), ([((-1), 4)], 6))], [])
theorem yw868 : ywf ys868.2.2.1 = true := by decide +kernel
theorem yk868 : yver yx868 ys868.2.2.1 4000 = true := yverQ_ok (by decide +kernel)
theorem yt868 {E : zHp → Prop} (h : yEF E yFP) : yTs E 3 ys868 := yver_s (x := yx868) h (yal_c (yt867 h) (by decide) yw867 (yal_c (yt865 h) (by decide) yw865 (yal_n))) yg237 yk868
def ys869 : ySp := (238, 5, (4, [(0, 0, 1), (1, 0, 5), (2, 0, 5), (3, 1, 6)], [], [(yc 80, yc 0, (0, (1, 3, 0), yc 0))], [(0, (2, yc 70, yc 0)), (1, (0, (1, 0, 0), yc 0)), (2, (0, (1, 1, 0), yc 0)), (3, (0, (1, 2, 0), yc 0))], []), [(4, [], [], [(yc 80, yc 0, (0, (1, 3, 0), yc 0))], [], [(0, yc 0, yc 0)]), (4, [(1, 1, 5), (2, 0, 1)], [], [(yc 80, yc 0, (0, (1, 3, 0), yc 0))], [], [(0, yc 1, yc 0)])], [])
def yx869 : yCx := ([ys865], ys869.2.2.2.2, yFP, zm238.2.2.1, zm238.2.2.2.1, zc238, 4, ys869.2.2.2.1, [(3, (5, [(0, 0, 1), (1, 0, 5), (2, 0, 5), (3, 1, 6), (4, 0, 5)], [], [(yc 80, yc 0, (0, (1, 3, 0), yc 0))], [(0, (2, yc 70, yc 0)), (1, (0, (1, 0, 0), yc 0)), (2, (0, (1, 1, 0), yc 0)), (3, (0, (1, 2, 0), yc 0)), (4, (0, (1, 4, 0), yc 0))], []), ([((-1), 4)], 6))], [])
theorem yw869 : ywf ys869.2.2.1 = true := by decide +kernel
theorem yk869 : yver yx869 ys869.2.2.1 4000 = true := yverQ_ok (by decide +kernel)
theorem yt869 {E : zHp → Prop} (h : yEF E yFP) : yTs E 3 ys869 := yver_s (x := yx869) h (yal_c (yt865 h) (by decide) yw865 (yal_n)) yg238 yk869
def ys870 : ySp := (239, 7, (4, [(0, 0, 5), (1, 0, 1), (2, 0, 5), (3, 1, 6)], [], [(yc 80, yc 0, (0, (1, 3, 0), yc 0))], [(0, (2, yc 70, yc 0)), (1, (0, (1, 0, 0), yc 0)), (2, (0, (1, 1, 0), yc 0)), (3, (0, (1, 2, 0), yc 0))], []), [(4, [(2, 1, 5)], [], [(yc 80, yc 0, (0, (1, 3, 0), yc 0))], [], [(0, yc 0, yc 0)]), (4, [], [], [(yc 80, yc 0, (0, (1, 3, 0), yc 0))], [], [(0, yc 1, yc 0)])], [])
def yx870 : yCx := ([ys777, ys865], ys870.2.2.2.2, yFP, zm239.2.2.1, zm239.2.2.2.1, zc239, 4, ys870.2.2.2.1, [(6, (6, [(0, 0, 5), (1, 0, 1), (2, 0, 5), (3, 1, 6), (4, 0, 5), (5, 0, 5)], [], [(yc 80, yc 0, (0, (1, 3, 0), yc 0))], [(0, (2, yc 70, yc 0)), (1, (0, (1, 0, 0), yc 0)), (2, (0, (1, 1, 0), yc 0)), (3, (0, (1, 2, 0), yc 0)), (4, (0, (1, 4, 0), yc 0)), (5, (0, (1, 5, 0), yc 0))], []), ([((-1), 5)], 6))], [])
theorem yw870 : ywf ys870.2.2.1 = true := by decide +kernel
theorem yk870 : yver yx870 ys870.2.2.1 4000 = true := yverQ_ok (by decide +kernel)
theorem yt870 {E : zHp → Prop} (h : yEF E yFP) : yTs E 3 ys870 := yver_s (x := yx870) h (yal_c (yt777 h) (by decide) yw777 (yal_c (yt865 h) (by decide) yw865 (yal_n))) yg239 yk870
def ys881 : ySp := (159, 2, (2, [(0, 0, 63), (1, 0, 5)], [], [], [(0, (0, (1, 0, 0), yc 0)), (1, (0, (1, 1, 0), yc 0))], []), [(2, [], [], [], [], [(0, yc 0, yc 0)]), (2, [], [], [], [], [(0, yc 1, yc 0)])], [])
def yx881 : yCx := ([], ys881.2.2.2.2, yFP, zm159.2.2.1, zm159.2.2.2.1, zc159, 2, ys881.2.2.2.1, [], [])
theorem yw881 : ywf ys881.2.2.1 = true := by decide +kernel
theorem yk881 : yver yx881 ys881.2.2.1 4000 = true := yverQ_ok (by decide +kernel)
theorem yt881 {E : zHp → Prop} (h : yEF E yFP) : yTs E 1 ys881 := yver_s (x := yx881) h (yal_n) yg159 yk881
def ys916 : ySp := (236, 4, (4, [(0, 0, 2147483647), (1, 0, 5), (2, (-1), 5), (3, 1, 6)], [], [(yc 80, yc 0, (0, (1, 3, 0), yc 0))], [(0, (2, yc 70, yc 0)), (1, (0, (1, 0, 0), yc 0)), (2, (0, (1, 1, 0), yc 0)), (3, (0, (1, 2, 0), yc 0))], []), [(5, [(4, 0, 5)], [], [(yc 80, yc 0, (0, (1, 3, 0), yc 0))], [], [(0, (1, 4, 0), yc 0)])], [])
def yx916 : yCx := ([ys864], ys916.2.2.2.2, yFP, zm236.2.2.1, zm236.2.2.2.1, zc236, 4, ys916.2.2.2.1, [], [])
theorem yw916 : ywf ys916.2.2.1 = true := by decide +kernel
theorem yk916 : yver yx916 ys916.2.2.1 4000 = true := yverQ_ok (by decide +kernel)
theorem yt916 {E : zHp → Prop} (h : yEF E yFP) : yTs E 2 ys916 := yver_s (x := yx916) h (yal_c (yt864 h) (by decide) yw864 (yal_n)) yg236 yk916
def ys917 : ySp := (237, 6, (3, [(0, 0, 2147483647), (1, 0, 5), (2, 1, 6)], [], [(yc 80, yc 0, (0, (1, 2, 0), yc 0))], [(0, (2, yc 70, yc 0)), (1, (0, (1, 0, 0), yc 0)), (2, (0, (1, 1, 0), yc 0))], []), [(3, [(1, 1, 5)], [], [(yc 80, yc 0, (0, (1, 2, 0), yc 0))], [], [(0, yc 0, yc 0)]), (3, [], [], [(yc 80, yc 0, (0, (1, 2, 0), yc 0))], [], [(0, yc 1, yc 0)])], [])
def yx917 : yCx := ([ys881, ys916], ys917.2.2.2.2, yFP, zm237.2.2.1, zm237.2.2.2.1, zc237, 3, ys917.2.2.2.1, [(5, (5, [(0, 0, 2147483647), (1, 0, 5), (2, 1, 6), (3, 0, 63), (4, 0, 5)], [], [(yc 80, yc 0, (0, (1, 2, 0), yc 0))], [(0, (2, yc 70, yc 0)), (1, (0, (1, 0, 0), yc 0)), (2, (0, (1, 1, 0), yc 0)), (3, (0, (1, 3, 0), yc 0)), (4, (0, (1, 4, 0), yc 0))], []), ([((-1), 4)], 6))], [])
theorem yw917 : ywf ys917.2.2.1 = true := by decide +kernel
theorem yk917 : yver yx917 ys917.2.2.1 4000 = true := yverQ_ok (by decide +kernel)
theorem yt917 {E : zHp → Prop} (h : yEF E yFP) : yTs E 3 ys917 := yver_s (x := yx917) h (yal_c (yt881 h) (by decide) yw881 (yal_c (yt916 h) (by decide) yw916 (yal_n))) yg237 yk917
def ys918 : ySp := (238, 5, (4, [(0, 0, 2147483647), (1, 0, 5), (2, 0, 5), (3, 1, 6)], [], [(yc 80, yc 0, (0, (1, 3, 0), yc 0))], [(0, (2, yc 70, yc 0)), (1, (0, (1, 0, 0), yc 0)), (2, (0, (1, 1, 0), yc 0)), (3, (0, (1, 2, 0), yc 0))], []), [(4, [], [], [(yc 80, yc 0, (0, (1, 3, 0), yc 0))], [], [(0, yc 0, yc 0)]), (4, [(1, 1, 5)], [], [(yc 80, yc 0, (0, (1, 3, 0), yc 0))], [], [(0, yc 1, yc 0)])], [])
def yx918 : yCx := ([ys916], ys918.2.2.2.2, yFP, zm238.2.2.1, zm238.2.2.2.1, zc238, 4, ys918.2.2.2.1, [(3, (5, [(0, 0, 2147483647), (1, 0, 5), (2, 0, 5), (3, 1, 6), (4, 0, 5)], [], [(yc 80, yc 0, (0, (1, 3, 0), yc 0))], [(0, (2, yc 70, yc 0)), (1, (0, (1, 0, 0), yc 0)), (2, (0, (1, 1, 0), yc 0)), (3, (0, (1, 2, 0), yc 0)), (4, (0, (1, 4, 0), yc 0))], []), ([((-1), 4)], 6))], [])
theorem yw918 : ywf ys918.2.2.1 = true := by decide +kernel
theorem yk918 : yver yx918 ys918.2.2.1 4000 = true := yverQ_ok (by decide +kernel)
theorem yt918 {E : zHp → Prop} (h : yEF E yFP) : yTs E 3 ys918 := yver_s (x := yx918) h (yal_c (yt916 h) (by decide) yw916 (yal_n)) yg238 yk918
def ys919 : ySp := (239, 7, (4, [(0, 0, 5), (1, 0, 2147483647), (2, 0, 5), (3, 1, 6)], [], [(yc 80, yc 0, (0, (1, 3, 0), yc 0))], [(0, (2, yc 70, yc 0)), (1, (0, (1, 0, 0), yc 0)), (2, (0, (1, 1, 0), yc 0)), (3, (0, (1, 2, 0), yc 0))], []), [(4, [(2, 1, 5)], [], [(yc 80, yc 0, (0, (1, 3, 0), yc 0))], [], [(0, yc 0, yc 0)]), (4, [], [], [(yc 80, yc 0, (0, (1, 3, 0), yc 0))], [], [(0, yc 1, yc 0)])], [])
def yx919 : yCx := ([ys777, ys916], ys919.2.2.2.2, yFP, zm239.2.2.1, zm239.2.2.2.1, zc239, 4, ys919.2.2.2.1, [(6, (6, [(0, 0, 5), (1, 0, 2147483647), (2, 0, 5), (3, 1, 6), (4, 0, 5), (5, 0, 5)], [], [(yc 80, yc 0, (0, (1, 3, 0), yc 0))], [(0, (2, yc 70, yc 0)), (1, (0, (1, 0, 0), yc 0)), (2, (0, (1, 1, 0), yc 0)), (3, (0, (1, 2, 0), yc 0)), (4, (0, (1, 4, 0), yc 0)), (5, (0, (1, 5, 0), yc 0))], []), ([((-1), 5)], 6))], [])
theorem yw919 : ywf ys919.2.2.1 = true := by decide +kernel
theorem yk919 : yver yx919 ys919.2.2.1 4000 = true := yverQ_ok (by decide +kernel)
theorem yt919 {E : zHp → Prop} (h : yEF E yFP) : yTs E 3 ys919 := yver_s (x := yx919) h (yal_c (yt777 h) (by decide) yw777 (yal_c (yt916 h) (by decide) yw916 (yal_n))) yg239 yk919
def ys976 : ySp := (249, 5, (5, [(0, 0, 5), (1, 0, 5), (2, 0, 1), (3, 0, 5), (4, 1, 6)], [], [(yc 80, yc 0, (0, (1, 4, 0), yc 0))], [(0, (2, yc 70, yc 0)), (1, (0, (1, 0, 0), yc 0)), (2, (0, (1, 1, 0), yc 0)), (3, (0, (1, 2, 0), yc 0)), (4, (0, (1, 3, 0), yc 0))], []), [(5, [], [], [(yc 80, yc 0, (0, (1, 4, 0), yc 0))], [], [(0, yc 0, yc 0)]), (5, [(1, 0, 1)], [], [(yc 80, yc 0, (0, (1, 4, 0), yc 0))], [], [(0, yc 1, yc 0)])], [])
def yx976 : yCx := ([ys786, ys788, ys865, ys868, ys869, ys870], ys976.2.2.2.2, yFP, zm249.2.2.1, zm249.2.2.2.1, zc249, 5, ys976.2.2.2.1, [], [])
theorem yw976 : ywf ys976.2.2.1 = true := by decide +kernel
theorem yk976 : yver yx976 ys976.2.2.1 4000 = true := yverQ_ok (by decide +kernel)
theorem yt976 {E : zHp → Prop} (h : yEF E yFP) : yTs E 4 ys976 := yver_s (x := yx976) h (yal_c (yt786 h) (by decide) yw786 (yal_c (yt788 h) (by decide) yw788 (yal_c (yt865 h) (by decide) yw865 (yal_c (yt868 h) (by decide) yw868 (yal_c (yt869 h) (by decide) yw869 (yal_c (yt870 h) (by decide) yw870 (yal_n))))))) yg249 yk976
def ys985 : ySp := (249, 5, (5, [(0, 0, 5), (1, 0, 5), (2, 0, 2147483647), (3, 0, 5), (4, 1, 6)], [], [(yc 80, yc 0, (0, (1, 4, 0), yc 0))], [(0, (2, yc 70, yc 0)), (1, (0, (1, 0, 0), yc 0)), (2, (0, (1, 1, 0), yc 0)), (3, (0, (1, 2, 0), yc 0)), (4, (0, (1, 3, 0), yc 0))], []), [(5, [], [], [(yc 80, yc 0, (0, (1, 4, 0), yc 0))], [], [(0, yc 0, yc 0)]), (5, [], [], [(yc 80, yc 0, (0, (1, 4, 0), yc 0))], [], [(0, yc 1, yc 0)])], [])
def yx985 : yCx := ([ys786, ys788, ys916, ys917, ys918, ys919], ys985.2.2.2.2, yFP, zm249.2.2.1, zm249.2.2.2.1, zc249, 5, ys985.2.2.2.1, [], [])
theorem yw985 : ywf ys985.2.2.1 = true := by decide +kernel
theorem yk985 : yver yx985 ys985.2.2.1 4000 = true := yverQ_ok (by decide +kernel)
theorem yt985 {E : zHp → Prop} (h : yEF E yFP) : yTs E 4 ys985 := yver_s (x := yx985) h (yal_c (yt786 h) (by decide) yw786 (yal_c (yt788 h) (by decide) yw788 (yal_c (yt916 h) (by decide) yw916 (yal_c (yt917 h) (by decide) yw917 (yal_c (yt918 h) (by decide) yw918 (yal_c (yt919 h) (by decide) yw919 (yal_n))))))) yg249 yk985
def ys986 : ySp := (250, 5, (4, [(0, 0, 5), (1, 0, 5), (2, 0, 5), (3, 1, 6)], [], [(yc 80, yc 0, (0, (1, 3, 0), yc 0))], [(0, (2, yc 70, yc 0)), (1, (0, (1, 0, 0), yc 0)), (2, (0, (1, 1, 0), yc 0)), (3, (0, (1, 2, 0), yc 0))], []), [(4, [], [], [(yc 80, yc 0, (0, (1, 3, 0), yc 0))], [], [(0, yc 0, yc 0)]), (4, [], [], [(yc 80, yc 0, (0, (1, 3, 0), yc 0))], [], [(0, yc 1, yc 0)])], [(70, 70, 27)])
def yx986 : yCx := ([ys863, ys976, ys985], ys986.2.2.2.2, yFP, zm250.2.2.1, zm250.2.2.2.1, zc250, 4, ys986.2.2.2.1, [(3, (5, [(0, 0, 5), (1, 0, 5), (2, 0, 5), (3, 1, 6), (4, 0, 2147483647)], [], [(yc 80, yc 0, (0, (1, 3, 0), yc 0))], [(0, (2, yc 70, yc 0)), (1, (0, (1, 0, 0), yc 0)), (2, (0, (1, 1, 0), yc 0)), (3, (0, (1, 2, 0), yc 0)), (4, (0, (1, 4, 0), yc 0))], []), ([((-1), 4)], 2147483648))], [])
theorem yw986 : ywf ys986.2.2.1 = true := by decide +kernel
theorem yk986 : yver yx986 ys986.2.2.1 4000 = true := yverQ_ok (by decide +kernel)
theorem yt986 {E : zHp → Prop} (h : yEF E yFP) : yTs E 5 ys986 := yver_s (x := yx986) h (yal_c (yt863 h) (by decide) yw863 (yal_c (yt976 h) (by decide) yw976 (yal_c (yt985 h) (by decide) yw985 (yal_n)))) yg250 yk986
def ys987 : ySp := (251, 7, (4, [(0, 0, 5), (1, 0, 5), (2, 0, 1), (3, 0, 6)], [], [(yc 80, yc 0, (0, (1, 3, 0), yc 0))], [(0, (2, yc 70, yc 0)), (1, (0, (1, 0, 0), yc 0)), (2, (0, (1, 1, 0), yc 0)), (3, (0, (1, 2, 0), yc 0))], []), [(4, [], [], [(yc 80, yc 0, (0, (1, 3, 0), yc 0))], [], [(0, yc (-1), yc 0)]), (4, [], [], [(yc 80, yc 0, (0, (1, 3, 0), yc 0))], [], [(0, yc 0, yc 0)]), (5, [(3, 2, 6), (4, 1, 5)], [], [(yc 80, yc 0, (0, (1, 3, 0), yc 0))], [], [(0, (1, 4, 0), yc 0)])], [(70, 70, 27)])
def yx987 : yCx := ([ys786, ys788, ys986], ys987.2.2.2.2, yFP, zm251.2.2.1, zm251.2.2.2.1, zc251, 4, ys987.2.2.2.1, [(37, (6, [(0, 0, 5), (1, 0, 5), (2, 0, 1), (3, 0, 6), (4, 0, 1), (5, 1, 6)], [], [(yc 80, yc 0, (0, (1, 3, 0), yc 0))], [(0, (2, yc 70, yc 0)), (1, (0, (1, 0, 0), yc 0)), (2, (0, (1, 1, 0), yc 0)), (3, (0, (1, 4, 0), yc 0)), (4, (0, (1, 3, (-1)), yc 0)), (5, (0, (1, 5, 0), yc 0))], []), ([((-1), 5)], 7))], [])
theorem yw987 : ywf ys987.2.2.1 = true := by decide +kernel
theorem yk987 : yver yx987 ys987.2.2.1 4000 = true := yverQ_ok (by decide +kernel)
theorem yt987 {E : zHp → Prop} (h : yEF E yFP) : yTs E 6 ys987 := yver_s (x := yx987) h (yal_c (yt786 h) (by decide) yw786 (yal_c (yt788 h) (by decide) yw788 (yal_c (yt986 h) (by decide) yw986 (yal_n)))) yg251 yk987
def ys988 : ySp := (270, 4, (2, [(0, 0, 5), (1, 0, 4)], [], [], [(0, (2, yc 70, yc 0)), (1, (0, (1, 0, 0), yc 0)), (2, (0, (1, 1, 0), yc 0))], []), [(2, [], [], [], [], [(0, yc 0, yc 0)]), (2, [], [], [], [], [(0, yc 1, yc 0)])], [(70, 70, 27)])
def yx988 : yCx := ([ys786, ys809, ys987], ys988.2.2.2.2, yFP, zm270.2.2.1, zm270.2.2.2.1, zc270, 2, ys988.2.2.2.1, [(2, (3, [(0, 0, 5), (1, 0, 4), (2, 0, 6)], [], [], [(0, (2, yc 70, yc 0)), (1, (0, (1, 0, 0), yc 0)), (2, (0, (1, 1, 0), yc 0)), (3, (0, (1, 2, 0), yc 0))], []), ([((-1), 2)], 7))], [])
theorem yw988 : ywf ys988.2.2.1 = true := by decide +kernel
theorem yk988 : yver yx988 ys988.2.2.1 4000 = true := yverQ_ok (by decide +kernel)
theorem yt988 {E : zHp → Prop} (h : yEF E yFP) : yTs E 7 ys988 := yver_s (x := yx988) h (yal_c (yt786 h) (by decide) yw786 (yal_c (yt809 h) (by decide) yw809 (yal_c (yt987 h) (by decide) yw987 (yal_n)))) yg270 yk988
def ys990 : ySp := (229, 3, (2, [(0, 0, 5), (1, 0, 5)], [], [], [(0, (2, yc 70, yc 0)), (1, (0, (1, 0, 0), yc 0)), (2, (0, (1, 1, 0), yc 0))], []), [(2, [], [], [], [], [])], [(80, 80, 1000)])
def yx990 : yCx := ([], ys990.2.2.2.2, yFP, zm229.2.2.1, zm229.2.2.2.1, zc229, 2, ys990.2.2.2.1, [], [])
theorem yw990 : ywf ys990.2.2.1 = true := by decide +kernel
theorem yk990 : yver yx990 ys990.2.2.1 4000 = true := yverQ_ok (by decide +kernel)
theorem yt990 {E : zHp → Prop} (h : yEF E yFP) : yTs E 1 ys990 := yver_s (x := yx990) h (yal_n) yg229 yk990
def ys991 : ySp := (271, 5, (2, [(0, 0, 5), (1, 0, 4)], [], [], [(0, (2, yc 70, yc 0)), (1, (0, (1, 0, 0), yc 0)), (2, (0, (1, 1, 0), yc 0))], []), [(2, [], [], [], [], [(0, yc 0, yc 0)]), (2, [], [], [], [], [(0, yc 1, yc 0)])], [(70, 70, 27), (80, 80, 1000), (84, 84, 1000)])
def yx991 : yCx := ([ys990, ys4, ys5, ys988], ys991.2.2.2.2, yFP, zm271.2.2.1, zm271.2.2.2.1, zc271, 2, ys991.2.2.2.1, [(2, (4, [(0, 0, 5), (1, 0, 4), (2, 0, 5), (3, 0, 6)], [], [], [(0, (2, yc 70, yc 0)), (1, (0, (1, 2, 0), yc 0)), (2, (0, (1, 1, 0), yc 0)), (3, (0, (1, 3, 0), yc 0))], []), ([((-1), 3)], 7))], [])
theorem yw991 : ywf ys991.2.2.1 = true := by decide +kernel
theorem yk991 : yver yx991 ys991.2.2.1 4000 = true := yverQ_ok (by decide +kernel)
theorem yt991 {E : zHp → Prop} (h : yXt E) : yTs E 8 ys991 := yver_s (x := yx991) h.1 (yal_c (yt990 h.1) (by decide) yw990 (yal_c (yl4 h) (by decide) yw4 (yal_c (yl5 h) (by decide) yw5 (yal_c (yt988 h.1) (by decide) yw988 (yal_n))))) yg271 yk991
def ys992 : ySp := (272, 4, (1, [(0, 0, 4)], [], [], [(0, (2, yc 70, yc 0)), (1, (0, (1, 0, 0), yc 0))], []), [(1, [], [], [], [], [(0, yc (-1), yc 0)]), (2, [(1, (-2147483648), 2147483647)], [], [], [], [(0, (1, 1, 0), yc 0)])], [(70, 70, 27), (80, 80, 1000), (84, 84, 1000)])
def yx992 : yCx := ([ys35, ys769, ys991], ys992.2.2.2.2, yFP, zm272.2.2.1, zm272.2.2.2.1, zc272, 1, ys992.2.2.2.1, [(25, (4, [(0, 0, 4), (1, (-2147483648), 2147483647), (2, 0, 6), (3, 0, 6)], [], [(yc 80, yc 0, (0, (1, 3, 0), yc 0))], [(0, (2, yc 70, yc 0)), (1, (0, (1, 0, 0), yc 0)), (2, (0, (1, 1, 0), yc 0)), (3, (0, (1, 2, 0), yc 0))], []), ([((-1), 2)], 7))], [])
theorem yw992 : ywf ys992.2.2.1 = true := by decide +kernel
theorem yk992 : yver yx992 ys992.2.2.1 4000 = true := yverQ_ok (by decide +kernel)
theorem yt992 {E : zHp → Prop} (h : yXt E) : yTs E 9 ys992 := yver_s (x := yx992) h.1 (yal_c (yt35 h.1) (by decide) yw35 (yal_c (yt769 h.1) (by decide) yw769 (yal_c (yt991 h) (by decide) yw991 (yal_n)))) yg272 yk992
def ys993 : ySp := (158, 6, (1, [(0, (-9223372036854775808), 9223372036854775807)], [], [], [(0, (1, (1, 0, 0), yc 0)), (2, (1, yc 0, yc 0)), (4, (1, yc 4, yc 0))], []), [(1, [(0, (-9223372036854775808), (-1))], [], [], [], [(0, yc 0, yc 0)]), (1, [(0, 5, 9223372036854775807)], [], [], [], [(0, yc 0, yc 0)]), (1, [(0, 0, 4)], [], [], [], [(0, yc 1, yc 0)])], [])
def yx993 : yCx := ([], ys993.2.2.2.2, yFP, zm158.2.2.1, zm158.2.2.2.1, zc158, 1, ys993.2.2.2.1, [], [])
theorem yw993 : ywf ys993.2.2.1 = true := by decide +kernel
theorem yk993 : yver yx993 ys993.2.2.1 4000 = true := yverQ_ok (by decide +kernel)
theorem yt993 {E : zHp → Prop} (h : yEF E yFP) : yTs E 1 ys993 := yver_s (x := yx993) h (yal_n) yg158 yk993
def ys994 : ySp := (272, 4, (1, [(0, (-2147483648), 2147483647)], [], [], [(0, (2, yc 70, yc 0)), (1, (0, (1, 0, 0), yc 0))], []), [(1, [], [], [], [], [(0, yc (-1), yc 0)]), (2, [(0, 0, 4), (1, (-2147483648), 2147483647)], [], [], [], [(0, (1, 1, 0), yc 0)])], [(70, 70, 27), (80, 80, 1000), (84, 84, 1000)])
def yx994 : yCx := ([ys993, ys769, ys991], ys994.2.2.2.2, yFP, zm272.2.2.1, zm272.2.2.2.1, zc272, 1, ys994.2.2.2.1, [(25, (4, [(0, 0, 4), (1, (-2147483648), 2147483647), (2, 0, 6), (3, 0, 6)], [], [(yc 80, yc 0, (0, (1, 3, 0), yc 0))], [(0, (2, yc 70, yc 0)), (1, (0, (1, 0, 0), yc 0)), (2, (0, (1, 1, 0), yc 0)), (3, (0, (1, 2, 0), yc 0))], []), ([((-1), 2)], 7))], [])
theorem yw994 : ywf ys994.2.2.1 = true := by decide +kernel
theorem yk994 : yver yx994 ys994.2.2.1 4000 = true := yverQ_ok (by decide +kernel)
theorem yt994 {E : zHp → Prop} (h : yXt E) : yTs E 9 ys994 := yver_s (x := yx994) h.1 (yal_c (yt993 h.1) (by decide) yw993 (yal_c (yt769 h.1) (by decide) yw769 (yal_c (yt991 h) (by decide) yw991 (yal_n)))) yg272 yk994
def ys995 : ySp := (140, 2, (1, [(0, (-2147483648), 2147483647)], [], [], [(0, (2, yc 0, yc 0)), (1, (0, (1, 0, 0), yc 0))], []), [(1, [], [], [], [], [(0, yc 0, yc 0)]), (2, [(0, 0, 5), (1, 0, 303)], [], [(yc 13, (1, 0, 0), (3, (1, 1, 0), yc 0))], [], [(0, yc 1, yc 0)])], [])
def yx995 : yCx := ([], ys995.2.2.2.2, yFP, zm140.2.2.1, zm140.2.2.2.1, zc140, 1, ys995.2.2.2.1, [], [])
theorem yw995 : ywf ys995.2.2.1 = true := by decide +kernel
theorem yk995 : yver yx995 ys995.2.2.1 4000 = true := yverQ_ok (by decide +kernel)
theorem yt995 {E : zHp → Prop} (h : yEF E yFP) : yTs E 1 ys995 := yver_s (x := yx995) h (yal_n) yg140 yk995
def ys996 : ySp := (111, 1, (0, [], [], [], [(0, (2, yc 9, yc 0))], []), [(0, [], [], [], [], [(0, yc 0, yc 0)]), (0, [], [], [], [], [(0, yc 1, yc 0)])], [])
def yx996 : yCx := ([ys656, ys661], ys996.2.2.2.2, yFP, zm111.2.2.1, zm111.2.2.2.1, zc111, 0, ys996.2.2.2.1, [], [])
theorem yw996 : ywf ys996.2.2.1 = true := by decide +kernel
theorem yk996 : yver yx996 ys996.2.2.1 4000 = true := yverQ_ok (by decide +kernel)
theorem yt996 {E : zHp → Prop} (h : yEF E yFP) : yTs E 4 ys996 := yver_s (x := yx996) h (yal_c (yt656 h) (by decide) yw656 (yal_c (yt661 h) (by decide) yw661 (yal_n))) yg111 yk996
def ys1001 : ySp := (30, 5, (3, [(0, 0, 2147483647), (1, (-9223372036854775808), 9223372036854775807), (2, (-9223372036854775808), 9223372036854775807)], [], [], [(0, (0, (1, 0, 0), yc 0)), (1, (1, (1, 1, 0), yc 0)), (3, (1, (1, 2, 0), yc 0))], []), [(3, [], [], [], [], [(0, yc 0, yc 0)]), (3, [], [], [], [], [(0, yc 1, yc 0)])], [])
def yx1001 : yCx := ([], ys1001.2.2.2.2, yFP, zm30.2.2.1, zm30.2.2.2.1, zc30, 3, ys1001.2.2.2.1, [], [])
theorem yw1001 : ywf ys1001.2.2.1 = true := by decide +kernel
theorem yk1001 : yver yx1001 ys1001.2.2.1 4000 = true := yverQ_ok (by decide +kernel)
theorem yt1001 {E : zHp → Prop} (h : yEF E yFP) : yTs E 1 ys1001 := yver_s (x := yx1001) h (yal_n) yg30 yk1001
def ys1002 : ySp := (30, 5, (3, [(0, (-2147483648), 2147483647), (1, (-9223372036854775808), 9223372036854775807), (2, (-9223372036854775808), 9223372036854775807)], [], [], [(0, (0, (1, 0, 0), yc 0)), (1, (1, (1, 1, 0), yc 0)), (3, (1, (1, 2, 0), yc 0))], []), [(3, [], [], [], [], [(0, yc 0, yc 0)]), (3, [], [], [], [], [(0, yc 1, yc 0)])], [])
def yx1002 : yCx := ([], ys1002.2.2.2.2, yFP, zm30.2.2.1, zm30.2.2.2.1, zc30, 3, ys1002.2.2.2.1, [], [])
theorem yw1002 : ywf ys1002.2.2.1 = true := by decide +kernel
theorem yk1002 : yver yx1002 ys1002.2.2.1 4000 = true := yverQ_ok (by decide +kernel)
theorem yt1002 {E : zHp → Prop} (h : yEF E yFP) : yTs E 1 ys1002 := yver_s (x := yx1002) h (yal_n) yg30 yk1002
def ys1003 : ySp := (29, 5, (3, [(0, (-2147483648), 2147483647), (1, (-9223372036854775808), 9223372036854775807), (2, (-9223372036854775808), 9223372036854775807)], [], [], [(0, (0, (1, 0, 0), yc 0)), (1, (1, (1, 1, 0), yc 0)), (3, (1, (1, 2, 0), yc 0))], []), [(3, [], [], [], [], [(1, yc 0, yc 0)]), (3, [], [], [], [], [(1, yc 1, yc 0)]), (4, [(0, 1, 13), (3, (-9223372036854775808), 9223372036854775807)], [], [], [], [(1, (1, 3, 0), yc 0)])], [])
def yx1003 : yCx := ([ys1001, ys1002], ys1003.2.2.2.2, yFP, zm29.2.2.1, zm29.2.2.2.1, zc29, 3, ys1003.2.2.2.1, [], [])
theorem yw1003 : ywf ys1003.2.2.1 = true := by decide +kernel
theorem yk1003 : yver yx1003 ys1003.2.2.1 4000 = true := yverQ_ok (by decide +kernel)
theorem yt1003 {E : zHp → Prop} (h : yEF E yFP) : yTs E 2 ys1003 := yver_s (x := yx1003) h (yal_c (yt1001 h) (by decide) yw1001 (yal_c (yt1002 h) (by decide) yw1002 (yal_n))) yg29 yk1003
def ys1005 : ySp := (114, 8, (2, [(0, 0, 5), (1, 0, 5)], [], [], [(0, (2, yc 11, yc 0)), (1, (0, (1, 0, 0), yc 0)), (2, (0, (1, 1, 0), yc 0)), (3, (0, yc 3, yc 0)), (4, (0, yc 0, yc 0))], []), [(3, [(2, (-2147483648), 2147483647)], [], [], [], [(0, (1, 2, 0), yc 0)])], [])
def yx1005 : yCx := ([ys711, ys732, ys753, ys755, ys756, ys759], ys1005.2.2.2.2, yFP, zm114.2.2.1, zm114.2.2.2.1, zc114, 2, ys1005.2.2.2.1, [(6, (4, [(0, 0, 5), (1, 0, 5), (2, (-2147483648), 2147483647), (3, 0, 6)], [], [], [(0, (2, yc 11, yc 0)), (1, (0, (1, 0, 0), yc 0)), (2, (0, (1, 1, 0), yc 0)), (3, (0, yc 3, yc 0)), (4, (0, yc 0, yc 0)), (5, (0, (1, 2, 0), yc 0)), (6, (0, (1, 3, 0), yc 0))], []), ([((-1), 3)], 7))], [])
theorem yw1005 : ywf ys1005.2.2.1 = true := by decide +kernel
theorem yk1005 : yver yx1005 ys1005.2.2.1 4000 = true := yverQ_ok (by decide +kernel)
theorem yt1005 {E : zHp → Prop} (h : yEF E yFP) : yTs E 2 ys1005 := yver_s (x := yx1005) h (yal_c (yt711 h) (by decide) yw711 (yal_c (yt732 h) (by decide) yw732 (yal_c (yt753 h) (by decide) yw753 (yal_c (yt755 h) (by decide) yw755 (yal_c (yt756 h) (by decide) yw756 (yal_c (yt759 h) (by decide) yw759 (yal_n))))))) yg114 yk1005
def ys1006 : ySp := (114, 8, (2, [(0, 0, 5), (1, 0, 5)], [], [], [(0, (2, yc 11, yc 0)), (1, (0, (1, 0, 0), yc 0)), (2, (0, (1, 1, 0), yc 0)), (3, (0, yc 2, yc 0)), (4, (0, yc 1, yc 0))], []), [(3, [(2, 0, 2147483647)], [], [], [], [(0, (1, 2, 0), yc 0)])], [])
def yx1006 : yCx := ([ys711, ys732, ys753, ys755, ys756, ys757], ys1006.2.2.2.2, yFP, zm114.2.2.1, zm114.2.2.2.1, zc114, 2, ys1006.2.2.2.1, [(6, (4, [(0, 0, 5), (1, 0, 5), (2, 0, 2147483647), (3, 0, 6)], [], [], [(0, (2, yc 11, yc 0)), (1, (0, (1, 0, 0), yc 0)), (2, (0, (1, 1, 0), yc 0)), (3, (0, yc 2, yc 0)), (4, (0, yc 1, yc 0)), (5, (0, (1, 2, 0), yc 0)), (6, (0, (1, 3, 0), yc 0))], []), ([((-1), 3)], 7))], [])
theorem yw1006 : ywf ys1006.2.2.1 = true := by decide +kernel
theorem yk1006 : yver yx1006 ys1006.2.2.1 4000 = true := yverQ_ok (by decide +kernel)
theorem yt1006 {E : zHp → Prop} (h : yEF E yFP) : yTs E 2 ys1006 := yver_s (x := yx1006) h (yal_c (yt711 h) (by decide) yw711 (yal_c (yt732 h) (by decide) yw732 (yal_c (yt753 h) (by decide) yw753 (yal_c (yt755 h) (by decide) yw755 (yal_c (yt756 h) (by decide) yw756 (yal_c (yt757 h) (by decide) yw757 (yal_n))))))) yg114 yk1006
def ys1007 : ySp := (100, 3, (1, [(0, 0, 5)], [], [], [(0, (2, yc 11, yc 0)), (1, (0, (1, 0, 0), yc 0)), (2, (0, yc 1, yc 0))], []), [(2, [(1, 0, 2147483647)], [], [], [], [(0, (1, 1, 0), yc 0)])], [])
def yx1007 : yCx := ([ys707, ys734, ys736], ys1007.2.2.2.2, yFP, zm100.2.2.1, zm100.2.2.2.1, zc100, 1, ys1007.2.2.2.1, [], [])
theorem yw1007 : ywf ys1007.2.2.1 = true := by decide +kernel
theorem yk1007 : yver yx1007 ys1007.2.2.1 4000 = true := yverQ_ok (by decide +kernel)
theorem yt1007 {E : zHp → Prop} (h : yEF E yFP) : yTs E 3 ys1007 := yver_s (x := yx1007) h (yal_c (yt707 h) (by decide) yw707 (yal_c (yt734 h) (by decide) yw734 (yal_c (yt736 h) (by decide) yw736 (yal_n)))) yg100 yk1007
def ys1008 : ySp := (31, 5, (3, [(0, 0, 63), (1, 0, 5), (2, 0, 5)], [], [], [(0, (0, (1, 0, 0), yc 0)), (1, (2, yc 11, yc 0)), (2, (0, (1, 1, 0), yc 0)), (3, (0, (1, 2, 0), yc 0))], []), [(3, [(0, 12, 63)], [], [], [], [(0, yc 0, yc 0)]), (3, [(0, 12, 63)], [], [], [], [(0, yc 1, yc 0)]), (4, [(0, 0, 11), (3, (-2147483648), 2147483647)], [], [], [], [(0, (1, 3, 0), yc 0)])], [])
def yx1008 : yCx := ([ys741, ys698, ys705, ys707, ys732, ys735, ys685, ys687, ys1007, ys1005, ys1006], ys1008.2.2.2.2, yFP, zm31.2.2.1, zm31.2.2.2.1, zc31, 3, ys1008.2.2.2.1, [], [])
theorem yw1008 : ywf ys1008.2.2.1 = true := by decide +kernel
theorem yk1008 : yver yx1008 ys1008.2.2.1 4000 = true := yverQ_ok (by decide +kernel)
theorem yt1008 {E : zHp → Prop} (h : yEF E yFP) : yTs E 4 ys1008 := yver_s (x := yx1008) h (yal_c (yt741 h) (by decide) yw741 (yal_c (yt698 h) (by decide) yw698 (yal_c (yt705 h) (by decide) yw705 (yal_c (yt707 h) (by decide) yw707 (yal_c (yt732 h) (by decide) yw732 (yal_c (yt735 h) (by decide) yw735 (yal_c (yt685 h) (by decide) yw685 (yal_c (yt687 h) (by decide) yw687 (yal_c (yt1007 h) (by decide) yw1007 (yal_c (yt1005 h) (by decide) yw1005 (yal_c (yt1006 h) (by decide) yw1006 (yal_n)))))))))))) yg31 yk1008
def ys1009 : ySp := (28, 7, (3, [(0, 0, 303), (1, 0, 5), (2, 0, 5)], [], [], [(0, (3, (1, 0, 0), yc 0)), (1, (2, yc 11, yc 0)), (2, (0, (1, 1, 0), yc 0)), (3, (0, (1, 2, 0), yc 0))], []), [(3, [], [], [], [], [(1, yc 0, yc 0)]), (4, [(3, (-9223372036854775808), 9223372036854775807)], [], [], [], [(1, (1, 3, 0), yc 0)])], [(88, 999, 1000)])
def yx1009 : yCx := ([ys1003, ys1008], ys1009.2.2.2.2, yFP, zm28.2.2.1, zm28.2.2.2.1, zc28, 3, ys1009.2.2.2.1, [(6, (5, [(0, 0, 303), (1, 0, 5), (2, 0, 5), (3, 0, 64), (4, 0, 400)], [], [], [(0, (3, (1, 0, 0), yc 0)), (1, (2, yc 11, yc 0)), (2, (0, (1, 1, 0), yc 0)), (3, (0, (1, 2, 0), yc 0)), (4, (0, (1, 3, 0), yc 0)), (5, (0, (1, 4, 0), yc 0))], []), ([((-1), 4)], 401))], [])
theorem yw1009 : ywf ys1009.2.2.1 = true := by decide +kernel
theorem yk1009 : yver yx1009 ys1009.2.2.1 4000 = true := yverQ_ok (by decide +kernel)
theorem yt1009 {E : zHp → Prop} (h : yEF E yFP) : yTs E 5 ys1009 := yver_s (x := yx1009) h (yal_c (yt1003 h) (by decide) yw1003 (yal_c (yt1008 h) (by decide) yw1008 (yal_n))) yg28 yk1009
def ys1010 : ySp := (27, 9, (1, [(0, 0, 303)], [], [], [(0, (3, (1, 0, 0), yc 0)), (1, (2, yc 11, yc 0))], []), [(1, [], [], [], [], [])], [(12, 12, 1000), (88, 999, 1000)])
def yx1010 : yCx := ([ys1009, ys845, ys673, ys706, ys709], ys1010.2.2.2.2, yFP, zm27.2.2.1, zm27.2.2.2.1, zc27, 1, ys1010.2.2.2.1, [(2, (2, [(0, 0, 303), (1, 0, 6)], [], [], [(0, (3, (1, 0, 0), yc 0)), (1, (2, yc 11, yc 0)), (2, (0, (1, 1, 0), yc 0))], []), ([((-9), 1)], 63)), (18, (6, [(0, 0, 303), (1, 0, 5), (2, (-1), 5), (3, 0, 9223372036854775807), (4, 0, 6), (5, 1, 6)], [], [(yc 12, yc 2, (0, (1, 5, 0), yc 0))], [(0, (3, (1, 0, 0), yc 0)), (1, (2, yc 11, yc 0)), (2, (0, (1, 1, 0), yc 0)), (3, (0, (1, 2, 0), yc 0)), (4, (1, (1, 3, 0), yc 0)), (6, (0, (1, 4, 0), yc 0))], []), ([((-1), 4), ((-9), 1)], 61))], [])
theorem yw1010 : ywf ys1010.2.2.1 = true := by decide +kernel
theorem yk1010 : yver yx1010 ys1010.2.2.1 4000 = true := yverQ_ok (by decide +kernel)
theorem yt1010 {E : zHp → Prop} (h : yEF E yFP) : yTs E 6 ys1010 := yver_s (x := yx1010) h (yal_c (yt1009 h) (by decide) yw1009 (yal_c (yt845 h) (by decide) yw845 (yal_c (yt673 h) (by decide) yw673 (yal_c (yt706 h) (by decide) yw706 (yal_c (yt709 h) (by decide) yw709 (yal_n)))))) yg27 yk1010
def ys1011 : ySp := (110, 3, (0, [], [], [], [(0, (2, yc 11, yc 0))], []), [(1, [(0, (-2147483648), 2147483647)], [], [], [], [(0, (1, 0, 0), yc 0)])], [])
def yx1011 : yCx := ([ys711, ys754], ys1011.2.2.2.2, yFP, zm110.2.2.1, zm110.2.2.2.1, zc110, 0, ys1011.2.2.2.1, [(4, (2, [(0, (-2147483648), 2147483647), (1, 0, 6)], [], [], [(0, (2, yc 11, yc 0)), (1, (0, (1, 0, 0), yc 0)), (2, (0, (1, 1, 0), yc 0))], []), ([((-1), 1)], 7))], [])
theorem yw1011 : ywf ys1011.2.2.1 = true := by decide +kernel
theorem yk1011 : yver yx1011 ys1011.2.2.1 4000 = true := yverQ_ok (by decide +kernel)
theorem yt1011 {E : zHp → Prop} (h : yEF E yFP) : yTs E 3 ys1011 := yver_s (x := yx1011) h (yal_c (yt711 h) (by decide) yw711 (yal_c (yt754 h) (by decide) yw754 (yal_n))) yg110 yk1011
def ys1012 : ySp := (111, 1, (0, [], [], [], [(0, (2, yc 11, yc 0))], []), [(0, [], [], [], [], [(0, yc 0, yc 0)]), (0, [], [], [], [], [(0, yc 1, yc 0)])], [])
def yx1012 : yCx := ([ys711, ys1011], ys1012.2.2.2.2, yFP, zm111.2.2.1, zm111.2.2.2.1, zc111, 0, ys1012.2.2.2.1, [], [])
theorem yw1012 : ywf ys1012.2.2.1 = true := by decide +kernel
theorem yk1012 : yver yx1012 ys1012.2.2.1 4000 = true := yverQ_ok (by decide +kernel)
theorem yt1012 {E : zHp → Prop} (h : yEF E yFP) : yTs E 4 ys1012 := yver_s (x := yx1012) h (yal_c (yt711 h) (by decide) yw711 (yal_c (yt1011 h) (by decide) yw1011 (yal_n))) yg111 yk1012
def ys1013 : ySp := (149, 3, (1, [(0, (-2147483648), 2147483647)], [], [], [(0, (2, yc 0, yc 0)), (1, (0, (1, 0, 0), yc 0))], []), [(1, [], [], [], [], [(0, yc (-1), yc 0)]), (3, [(0, 0, 5), (1, (-2147483648), 2147483647), (2, 0, 303)], [], [(yc 13, (1, 0, 0), (3, (1, 2, 0), yc 0))], [], [(0, (1, 1, 0), yc 0)])], [(12, 12, 1000), (88, 999, 1000)])
def yx1013 : yCx := ([ys1010, ys672, ys671, ys649, ys741, ys762, ys996, ys1012, ys766, ys995], ys1013.2.2.2.2, yFP, zm149.2.2.1, zm149.2.2.2.1, zc149, 1, ys1013.2.2.2.1, [(51, (3, [(0, 0, 5), (1, 0, 60), (2, 0, 303)], [], [(yc 13, (1, 0, 0), (3, (1, 2, 0), yc 0))], [(0, (2, yc 0, yc 0)), (1, (0, (1, 0, 0), yc 0)), (2, (0, (1, 1, 0), yc 0))], []), ([((-1), 1)], 61))], [])
theorem yw1013 : ywf ys1013.2.2.1 = true := by decide +kernel
theorem yk1013 : yver yx1013 ys1013.2.2.1 4000 = true := yverQ_ok (by decide +kernel)
theorem yt1013 {E : zHp → Prop} (h : yEF E yFP) : yTs E 7 ys1013 := yver_s (x := yx1013) h (yal_c (yt1010 h) (by decide) yw1010 (yal_c (yt672 h) (by decide) yw672 (yal_c (yt671 h) (by decide) yw671 (yal_c (yt649 h) (by decide) yw649 (yal_c (yt741 h) (by decide) yw741 (yal_c (yt762 h) (by decide) yw762 (yal_c (yt996 h) (by decide) yw996 (yal_c (yt1012 h) (by decide) yw1012 (yal_c (yt766 h) (by decide) yw766 (yal_c (yt995 h) (by decide) yw995 (yal_n))))))))))) yg149 yk1013
def ys1014 : ySp := (199, 2, (1, [(0, 0, 5)], [], [], [(0, (2, yc 70, yc 0)), (1, (0, (1, 0, 0), yc 0))], []), [(1, [], [], [], [], [(0, yc 0, yc 0)]), (1, [], [], [], [], [(0, yc 1, yc 0)])], [])
def yx1014 : yCx := ([], ys1014.2.2.2.2, yFP, zm199.2.2.1, zm199.2.2.2.1, zc199, 1, ys1014.2.2.2.1, [], [])
theorem yw1014 : ywf ys1014.2.2.1 = true := by decide +kernel
theorem yk1014 : yver yx1014 ys1014.2.2.1 4000 = true := yverQ_ok (by decide +kernel)
theorem yt1014 {E : zHp → Prop} (h : yEF E yFP) : yTs E 1 ys1014 := yver_s (x := yx1014) h (yal_n) yg199 yk1014
def ys1015 : ySp := (268, 2, (0, [], [], [], [(0, (2, yc 70, yc 0))], []), [(0, [], [], [], [], [(0, yc 0, yc 0)]), (0, [], [], [], [], [(0, yc 1, yc 0)])], [])
def yx1015 : yCx := ([ys668], ys1015.2.2.2.2, yFP, zm268.2.2.1, zm268.2.2.2.1, zc268, 0, ys1015.2.2.2.1, [(2, (1, [(0, 0, 6)], [], [], [(0, (2, yc 70, yc 0)), (1, (0, (1, 0, 0), yc 0))], []), ([((-1), 0)], 7))], [])
theorem yw1015 : ywf ys1015.2.2.1 = true := by decide +kernel
theorem yk1015 : yver yx1015 ys1015.2.2.1 4000 = true := yverQ_ok (by decide +kernel)
theorem yt1015 {E : zHp → Prop} (h : yEF E yFP) : yTs E 2 ys1015 := yver_s (x := yx1015) h (yal_c (yt668 h) (by decide) yw668 (yal_n)) yg268 yk1015
def ys1019 : ySp := (211, 3, (2, [(0, 0, 5), (1, 0, 5)], [], [], [(0, (2, yc 70, yc 0)), (1, (0, (1, 0, 0), yc 0)), (2, (0, (1, 1, 0), yc 0))], []), [(3, [(2, (-2147483648), 2147483647)], [], [], [], [(0, (1, 2, 0), yc 0)])], [])
def yx1019 : yCx := ([], ys1019.2.2.2.2, yFP, zm211.2.2.1, zm211.2.2.2.1, zc211, 2, ys1019.2.2.2.1, [], [])
theorem yw1019 : ywf ys1019.2.2.1 = true := by decide +kernel
theorem yk1019 : yver yx1019 ys1019.2.2.1 4000 = true := yverQ_ok (by decide +kernel)
theorem yt1019 {E : zHp → Prop} (h : yEF E yFP) : yTs E 1 ys1019 := yver_s (x := yx1019) h (yal_n) yg211 yk1019
def ys1026 : ySp := (214, 4, (1, [(0, 0, 5)], [], [], [(0, (2, yc 70, yc 0)), (1, (0, (1, 0, 0), yc 0)), (2, (0, yc 1, yc 0))], []), [(1, [], [], [], [], [(0, yc 0, yc 0)]), (2, [(1, 0, 2147483647)], [], [], [], [(0, (1, 1, 0), yc 0)])], [])
def yx1026 : yCx := ([ys811, ys812, ys814], ys1026.2.2.2.2, yFP, zm214.2.2.1, zm214.2.2.2.1, zc214, 1, ys1026.2.2.2.1, [], [])
theorem yw1026 : ywf ys1026.2.2.1 = true := by decide +kernel
theorem yk1026 : yver yx1026 ys1026.2.2.1 4000 = true := yverQ_ok (by decide +kernel)
theorem yt1026 {E : zHp → Prop} (h : yEF E yFP) : yTs E 4 ys1026 := yver_s (x := yx1026) h (yal_c (yt811 h) (by decide) yw811 (yal_c (yt812 h) (by decide) yw812 (yal_c (yt814 h) (by decide) yw814 (yal_n)))) yg214 yk1026
def ys1028 : ySp := (243, 7, (2, [(0, 0, 5), (1, 0, 5)], [], [], [(0, (2, yc 70, yc 0)), (1, (0, (1, 0, 0), yc 0)), (2, (0, (1, 1, 0), yc 0))], []), [(2, [], [], [], [], [])], [(79, 79, 1000)])
def yx1028 : yCx := ([ys786, ys788, ys809, ys812, ys813, ys825, ys826, ys827, ys829, ys777, ys1019, ys1026, ys668], ys1028.2.2.2.2, yFP, zm243.2.2.1, zm243.2.2.2.1, zc243, 2, ys1028.2.2.2.1, [(16, (6, [(0, 0, 5), (1, 0, 5), (2, 0, 5), (3, (-2147483648), 2147483647), (4, (-2147483648), 2147483647), (5, 0, 6)], [], [], [(0, (2, yc 70, yc 0)), (1, (0, (1, 0, 0), yc 0)), (2, (0, (1, 1, 0), yc 0)), (3, (0, (1, 2, 0), yc 0)), (4, (0, (1, 3, 0), yc 0)), (5, (0, (1, 4, 0), yc 0)), (6, (0, (1, 5, 0), yc 0))], []), ([((-1), 5)], 7))], [])
theorem yw1028 : ywf ys1028.2.2.1 = true := by decide +kernel
theorem yk1028 : yver yx1028 ys1028.2.2.1 4000 = true := yverQ_ok (by decide +kernel)
theorem yt1028 {E : zHp → Prop} (h : yEF E yFP) : yTs E 5 ys1028 := yver_s (x := yx1028) h (yal_c (yt786 h) (by decide) yw786 (yal_c (yt788 h) (by decide) yw788 (yal_c (yt809 h) (by decide) yw809 (yal_c (yt812 h) (by decide) yw812 (yal_c (yt813 h) (by decide) yw813 (yal_c (yt825 h) (by decide) yw825 (yal_c (yt826 h) (by decide) yw826 (yal_c (yt827 h) (by decide) yw827 (yal_c (yt829 h) (by decide) yw829 (yal_c (yt777 h) (by decide) yw777 (yal_c (yt1019 h) (by decide) yw1019 (yal_c (yt1026 h) (by decide) yw1026 (yal_c (yt668 h) (by decide) yw668 (yal_n)))))))))))))) yg243 yk1028
def ys1029 : ySp := (245, 9, (2, [(0, 0, 5), (1, 0, 5)], [], [], [(0, (2, yc 70, yc 0)), (1, (0, (1, 0, 0), yc 0)), (2, (0, (1, 1, 0), yc 0))], []), [(3, [(2, (-1), 5)], [], [], [], [(0, (1, 2, 0), yc 0)])], [(70, 70, 20), (78, 78, 1000), (79, 79, 1000)])
def yx1029 : yCx := ([ys789, ys1028, ys2], ys1029.2.2.2.2, yFP, zm245.2.2.1, zm245.2.2.2.1, zc245, 2, ys1029.2.2.2.1, [(8, (5, [(0, 0, 5), (1, 0, 5), (2, (-1), 5), (3, 0, 9223372036854775807), (4, 0, 6)], [], [], [(0, (2, yc 70, yc 0)), (1, (0, (1, 0, 0), yc 0)), (2, (0, (1, 1, 0), yc 0)), (3, (0, (1, 2, 0), yc 0)), (4, (1, (1, 3, 0), yc 0)), (6, (0, (1, 4, 0), yc 0))], []), ([((-1), 4)], 7))], [])
theorem yw1029 : ywf ys1029.2.2.1 = true := by decide +kernel
theorem yk1029 : yver yx1029 ys1029.2.2.1 4000 = true := yverQ_ok (by decide +kernel)
theorem yt1029 {E : zHp → Prop} (h : yXt E) : yTs E 6 ys1029 := yver_s (x := yx1029) h.1 (yal_c (yt789 h.1) (by decide) yw789 (yal_c (yt1028 h.1) (by decide) yw1028 (yal_c (yl2 h) (by decide) yw2 (yal_n)))) yg245 yk1029
def ys1030 : ySp := (247, 4, (1, [(0, 0, 5)], [], [], [(0, (2, yc 70, yc 0)), (1, (0, (1, 0, 0), yc 0))], []), [(2, [(1, (-2147483648), 2147483647)], [], [], [], [(0, (1, 1, 0), yc 0)])], [(70, 70, 20), (78, 78, 1000), (79, 79, 1000), (80, 80, 1000)])
def yx1030 : yCx := ([ys790, ys832, ys1029, ys831], ys1030.2.2.2.2, yFP, zm247.2.2.1, zm247.2.2.2.1, zc247, 1, ys1030.2.2.2.1, [(2, (2, [(0, 0, 5), (1, 0, 6)], [], [], [(0, (2, yc 70, yc 0)), (1, (0, (1, 0, 0), yc 0)), (2, (0, (1, 1, 0), yc 0))], []), ([((-1), 1)], 7))], [])
theorem yw1030 : ywf ys1030.2.2.1 = true := by decide +kernel
theorem yk1030 : yver yx1030 ys1030.2.2.1 4000 = true := yverQ_ok (by decide +kernel)
theorem yt1030 {E : zHp → Prop} (h : yXt E) : yTs E 7 ys1030 := yver_s (x := yx1030) h.1 (yal_c (yt790 h.1) (by decide) yw790 (yal_c (yt832 h.1) (by decide) yw832 (yal_c (yt1029 h) (by decide) yw1029 (yal_c (yt831 h.1) (by decide) yw831 (yal_n))))) yg247 yk1030
def ys1031 : ySp := (269, 4, (1, [(0, 0, 5)], [], [], [(0, (2, yc 70, yc 0)), (1, (0, (1, 0, 0), yc 0))], []), [(1, [], [], [], [], [(0, yc (-1), yc 0)]), (2, [(1, (-2147483648), 2147483647)], [], [], [], [(0, (1, 1, 0), yc 0)])], [(70, 70, 20), (78, 78, 1000), (79, 79, 1000), (80, 80, 1000), (84, 84, 1000)])
def yx1031 : yCx := ([ys1014, ys769, ys1030, ys4, ys5, ys1015], ys1031.2.2.2.2, yFP, zm269.2.2.1, zm269.2.2.2.1, zc269, 1, ys1031.2.2.2.1, [(40, (7, [(0, 0, 5), (1, (-2147483648), 2147483647), (2, 0, 60), (3, 0, 6), (4, 0, 6), (5, 1, 6), (6, 0, 6)], [], [(yc 80, yc 0, (0, (1, 3, 0), yc 0)), (yc 80, yc 2, (0, (1, 4, 0), yc 0)), (yc 84, yc 0, (0, (1, 5, 0), yc 0)), (yc 84, yc 2, (0, (1, 6, 0), yc 0))], [(0, (2, yc 70, yc 0)), (1, (0, (1, 0, 0), yc 0)), (2, (0, (1, 1, 0), yc 0)), (3, (0, (1, 2, 0), yc 0))], []), ([((-1), 2)], 61))], [])
theorem yw1031 : ywf ys1031.2.2.1 = true := by decide +kernel
theorem yk1031 : yver yx1031 ys1031.2.2.1 4000 = true := yverQ_ok (by decide +kernel)
theorem yt1031 {E : zHp → Prop} (h : yXt E) : yTs E 8 ys1031 := yver_s (x := yx1031) h.1 (yal_c (yt1014 h.1) (by decide) yw1014 (yal_c (yt769 h.1) (by decide) yw769 (yal_c (yt1030 h) (by decide) yw1030 (yal_c (yl4 h) (by decide) yw4 (yal_c (yl5 h) (by decide) yw5 (yal_c (yt1015 h.1) (by decide) yw1015 (yal_n))))))) yg269 yk1031
def ys1032 : ySp := (199, 2, (1, [(0, (-2147483648), 2147483647)], [], [], [(0, (2, yc 70, yc 0)), (1, (0, (1, 0, 0), yc 0))], []), [(1, [], [], [], [], [(0, yc 0, yc 0)]), (1, [(0, 0, 5)], [], [], [], [(0, yc 1, yc 0)])], [])
def yx1032 : yCx := ([], ys1032.2.2.2.2, yFP, zm199.2.2.1, zm199.2.2.2.1, zc199, 1, ys1032.2.2.2.1, [], [])
theorem yw1032 : ywf ys1032.2.2.1 = true := by decide +kernel
theorem yk1032 : yver yx1032 ys1032.2.2.1 4000 = true := yverQ_ok (by decide +kernel)
theorem yt1032 {E : zHp → Prop} (h : yEF E yFP) : yTs E 1 ys1032 := yver_s (x := yx1032) h (yal_n) yg199 yk1032
def ys1033 : ySp := (269, 4, (1, [(0, (-2147483648), 2147483647)], [], [], [(0, (2, yc 70, yc 0)), (1, (0, (1, 0, 0), yc 0))], []), [(1, [], [], [], [], [(0, yc (-1), yc 0)]), (2, [(0, 0, 5), (1, (-2147483648), 2147483647)], [], [], [], [(0, (1, 1, 0), yc 0)])], [(70, 70, 20), (78, 78, 1000), (79, 79, 1000), (80, 80, 1000), (84, 84, 1000)])
def yx1033 : yCx := ([ys1032, ys769, ys1030, ys4, ys5, ys1015], ys1033.2.2.2.2, yFP, zm269.2.2.1, zm269.2.2.2.1, zc269, 1, ys1033.2.2.2.1, [(40, (7, [(0, 0, 5), (1, (-2147483648), 2147483647), (2, 0, 60), (3, 0, 6), (4, 0, 6), (5, 1, 6), (6, 0, 6)], [], [(yc 80, yc 0, (0, (1, 3, 0), yc 0)), (yc 80, yc 2, (0, (1, 4, 0), yc 0)), (yc 84, yc 0, (0, (1, 5, 0), yc 0)), (yc 84, yc 2, (0, (1, 6, 0), yc 0))], [(0, (2, yc 70, yc 0)), (1, (0, (1, 0, 0), yc 0)), (2, (0, (1, 1, 0), yc 0)), (3, (0, (1, 2, 0), yc 0))], []), ([((-1), 2)], 61))], [])
theorem yw1033 : ywf ys1033.2.2.1 = true := by decide +kernel
theorem yk1033 : yver yx1033 ys1033.2.2.1 4000 = true := yverQ_ok (by decide +kernel)
theorem yt1033 {E : zHp → Prop} (h : yXt E) : yTs E 8 ys1033 := yver_s (x := yx1033) h.1 (yal_c (yt1032 h.1) (by decide) yw1032 (yal_c (yt769 h.1) (by decide) yw769 (yal_c (yt1030 h) (by decide) yw1030 (yal_c (yl4 h) (by decide) yw4 (yal_c (yl5 h) (by decide) yw5 (yal_c (yt1015 h.1) (by decide) yw1015 (yal_n))))))) yg269 yk1033
def ys1034 : ySp := (83, 2, (1, [(0, (-2147483648), 2147483647)], [], [], [(0, (2, yc 9, yc 0)), (1, (0, (1, 0, 0), yc 0))], []), [(1, [], [], [], [], [(0, yc 0, yc 0)]), (1, [(0, 0, 5)], [], [], [], [(0, yc 1, yc 0)])], [])
def yx1034 : yCx := ([ys663], ys1034.2.2.2.2, yFP, zm83.2.2.1, zm83.2.2.2.1, zc83, 1, ys1034.2.2.2.1, [], [])
theorem yw1034 : ywf ys1034.2.2.1 = true := by decide +kernel
theorem yk1034 : yver yx1034 ys1034.2.2.1 4000 = true := yverQ_ok (by decide +kernel)
theorem yt1034 {E : zHp → Prop} (h : yEF E yFP) : yTs E 2 ys1034 := yver_s (x := yx1034) h (yal_c (yt663 h) (by decide) yw663 (yal_n)) yg83 yk1034
def ys1035 : ySp := (87, 3, (1, [(0, 0, 5)], [], [], [(0, (2, yc 9, yc 0)), (1, (0, (1, 0, 0), yc 0)), (2, (0, yc 0, yc 0))], []), [(2, [(1, 0, 5)], [], [], [], [(0, (1, 1, 0), yc 0)])], [])
def yx1035 : yCx := ([], ys1035.2.2.2.2, yFP, zm87.2.2.1, zm87.2.2.2.1, zc87, 1, ys1035.2.2.2.1, [], [])
theorem yw1035 : ywf ys1035.2.2.1 = true := by decide +kernel
theorem yk1035 : yver yx1035 ys1035.2.2.1 4000 = true := yverQ_ok (by decide +kernel)
theorem yt1035 {E : zHp → Prop} (h : yEF E yFP) : yTs E 1 ys1035 := yver_s (x := yx1035) h (yal_n) yg87 yk1035
def ys1036 : ySp := (87, 3, (1, [(0, 0, 5)], [], [], [(0, (2, yc 9, yc 0)), (1, (0, (1, 0, 0), yc 0)), (2, (0, yc 3, yc 0))], []), [(2, [(1, 0, 5)], [], [], [], [(0, (1, 1, 0), yc 0)])], [])
def yx1036 : yCx := ([], ys1036.2.2.2.2, yFP, zm87.2.2.1, zm87.2.2.2.1, zc87, 1, ys1036.2.2.2.1, [], [])
theorem yw1036 : ywf ys1036.2.2.1 = true := by decide +kernel
theorem yk1036 : yver yx1036 ys1036.2.2.1 4000 = true := yverQ_ok (by decide +kernel)
theorem yt1036 {E : zHp → Prop} (h : yEF E yFP) : yTs E 1 ys1036 := yver_s (x := yx1036) h (yal_n) yg87 yk1036
def ys1037 : ySp := (87, 3, (1, [(0, 0, 5)], [], [], [(0, (2, yc 9, yc 0)), (1, (0, (1, 0, 0), yc 0)), (2, (0, yc 4, yc 0))], []), [(2, [(1, (-2147483648), 2147483647)], [], [], [], [(0, (1, 1, 0), yc 0)])], [])
def yx1037 : yCx := ([], ys1037.2.2.2.2, yFP, zm87.2.2.1, zm87.2.2.2.1, zc87, 1, ys1037.2.2.2.1, [], [])
theorem yw1037 : ywf ys1037.2.2.1 = true := by decide +kernel
theorem yk1037 : yver yx1037 ys1037.2.2.1 4000 = true := yverQ_ok (by decide +kernel)
theorem yt1037 {E : zHp → Prop} (h : yEF E yFP) : yTs E 1 ys1037 := yver_s (x := yx1037) h (yal_n) yg87 yk1037
def ys1038 : ySp := (9, 2, (1, [(0, (-2147483648), 5)], [], [(yc 44, yc 10, (0, (1, 0, 0), yc 0))], [(0, (2, yc 44, yc 0))], []), [(2, [(1, (-2147483648), 5)], [], [(yc 44, yc 10, (0, (1, 1, 0), yc 0))], [], [])], [(44, 44, 3), (44, 44, 5), (44, 44, 6), (48, 48, 1000)])
def yx1038 : yCx := ([], ys1038.2.2.2.2, yFP, zm9.2.2.1, zm9.2.2.2.1, zc9, 1, ys1038.2.2.2.1, [], [])
theorem yw1038 : ywf ys1038.2.2.1 = true := by decide +kernel
theorem yk1038 : yver yx1038 ys1038.2.2.1 4000 = true := yverQ_ok (by decide +kernel)
theorem yt1038 {E : zHp → Prop} (h : yEF E yFP) : yTs E 1 ys1038 := yver_s (x := yx1038) h (yal_n) yg9 yk1038
def ys1039 : ySp := (91, 2, (1, [(0, 0, 5)], [], [], [(0, (2, yc 9, yc 0)), (1, (0, (1, 0, 0), yc 0))], []), [(2, [(1, 0, 63)], [], [], [], [(0, (1, 1, 0), yc 0)])], [])
def yx1039 : yCx := ([], ys1039.2.2.2.2, yFP, zm91.2.2.1, zm91.2.2.2.1, zc91, 1, ys1039.2.2.2.1, [], [])
theorem yw1039 : ywf ys1039.2.2.1 = true := by decide +kernel
theorem yk1039 : yver yx1039 ys1039.2.2.1 4000 = true := yverQ_ok (by decide +kernel)
theorem yt1039 {E : zHp → Prop} (h : yEF E yFP) : yTs E 1 ys1039 := yver_s (x := yx1039) h (yal_n) yg91 yk1039
def ys1046 : ySp := (8, 6, (3, [(0, 0, 5), (1, 0, 63), (2, (-2147483648), 5)], [], [(yc 44, yc 10, (0, (1, 2, 0), yc 0))], [(0, (2, yc 44, yc 0)), (1, (2, yc 9, yc 0)), (2, (0, (1, 0, 0), yc 0)), (3, (0, (1, 1, 0), yc 0)), (4, (0, yc 5, yc 0))], []), [(4, [(3, (-2147483648), 5)], [], [(yc 44, yc 10, (0, (1, 3, 0), yc 0))], [], [])], [(44, 44, 3), (44, 44, 5), (44, 44, 6), (48, 48, 1000)])
def yx1046 : yCx := ([ys1038], ys1046.2.2.2.2, yFP, zm8.2.2.1, zm8.2.2.2.1, zc8, 3, ys1046.2.2.2.1, [], [])
theorem yw1046 : ywf ys1046.2.2.1 = true := by decide +kernel
theorem yk1046 : yver yx1046 ys1046.2.2.1 4000 = true := yverQ_ok (by decide +kernel)
theorem yt1046 {E : zHp → Prop} (h : yEF E yFP) : yTs E 2 ys1046 := yver_s (x := yx1046) h (yal_c (yt1038 h) (by decide) yw1038 (yal_n)) yg8 yk1046
def ys1052 : ySp := (92, 3, (2, [(0, 0, 5), (1, 0, 5)], [], [], [(0, (2, yc 9, yc 0)), (1, (0, (1, 0, 0), yc 0)), (2, (0, (1, 1, 0), yc 0))], []), [(2, [], [], [], [], [(0, yc 0, yc 0)]), (2, [], [], [], [], [(0, yc 1, yc 0)])], [])
def yx1052 : yCx := ([ys1039], ys1052.2.2.2.2, yFP, zm92.2.2.1, zm92.2.2.2.1, zc92, 2, ys1052.2.2.2.1, [], [])
theorem yw1052 : ywf ys1052.2.2.1 = true := by decide +kernel
theorem yk1052 : yver yx1052 ys1052.2.2.1 4000 = true := yverQ_ok (by decide +kernel)
theorem yt1052 {E : zHp → Prop} (h : yEF E yFP) : yTs E 2 ys1052 := yver_s (x := yx1052) h (yal_c (yt1039 h) (by decide) yw1039 (yal_n)) yg92 yk1052
def ys1053 : ySp := (8, 6, (3, [(0, 0, 5), (1, 0, 63), (2, (-2147483648), 5)], [], [(yc 44, yc 10, (0, (1, 2, 0), yc 0))], [(0, (2, yc 44, yc 0)), (1, (2, yc 9, yc 0)), (2, (0, (1, 0, 0), yc 0)), (3, (0, (1, 1, 0), yc 0)), (4, (0, yc 4, yc 0))], []), [(4, [(3, (-2147483648), 5)], [], [(yc 44, yc 10, (0, (1, 3, 0), yc 0))], [], [])], [(44, 44, 3), (44, 44, 5), (44, 44, 6), (48, 48, 1000), (49, 49, 1000)])
def yx1053 : yCx := ([ys1046, ys1038, ys665, ys1052], ys1053.2.2.2.2, yFP, zm8.2.2.1, zm8.2.2.2.1, zc8, 3, ys1053.2.2.2.1, [(31, (5, [(0, 0, 5), (1, 0, 63), (2, 5, 5), (3, 0, 6), (4, (-2147483648), 5)], [], [(yc 44, yc 10, (0, (1, 4, 0), yc 0))], [(0, (2, yc 44, yc 0)), (1, (2, yc 9, yc 0)), (2, (0, (1, 0, 0), yc 0)), (3, (0, (1, 1, 0), yc 0)), (4, (0, yc 4, yc 0)), (5, (0, (1, 3, 0), yc 0))], []), ([((-1), 3)], 7))], [])
theorem yw1053 : ywf ys1053.2.2.1 = true := by decide +kernel
theorem yk1053 : yver yx1053 ys1053.2.2.1 4000 = true := yverQ_ok (by decide +kernel)
theorem yt1053 {E : zHp → Prop} (h : yEF E yFP) : yTs E 3 ys1053 := yver_s (x := yx1053) h (yal_c (yt1046 h) (by decide) yw1046 (yal_c (yt1038 h) (by decide) yw1038 (yal_c (yt665 h) (by decide) yw665 (yal_c (yt1052 h) (by decide) yw1052 (yal_n))))) yg8 yk1053
