def ys879 : ySp := (293, 3, (0, [], [], [], [(0, (0, yc 2, yc 0)), (1, (0, yc 4, yc 0)), (2, (7, yc 0, yc 0))], []), [(0, [], [], [], [], [(0, yc 2, yc 0)])], [])
def yx879 : yCx := ([], ys879.2.2.2.2, yFP, zm293.2.2.1, zm293.2.2.2.1, zc293, 0, ys879.2.2.2.1, [], [])
theorem yw879 : ywf ys879.2.2.1 = true := by decide +kernel
theorem yk879 : yver yx879 ys879.2.2.1 4000 = true := by decide +kernel
theorem yt879 {E : zHp → Prop} (h : yXt E) : yTs E ys879 := yver_s (x := yx879) h.1 (yal_n) yg293 yk879
def ys880 : ySp := (285, 2, (0, [], [], [], [(0, (0, yc 2, yc 0)), (1, (0, yc 4, yc 0))], []), [(0, [], [], [], [], [])], [])
def yx880 : yCx := ([ys879], ys880.2.2.2.2, yFP, zm285.2.2.1, zm285.2.2.2.1, zc285, 0, ys880.2.2.2.1, [], [])
theorem yw880 : ywf ys880.2.2.1 = true := by decide +kernel
theorem yk880 : yver yx880 ys880.2.2.1 4000 = true := by decide +kernel
theorem yt880 {E : zHp → Prop} (h : yXt E) : yTs E ys880 := yver_s (x := yx880) h.1 (yal_c (yt879 h) yw879 (yal_n)) yg285 yk880
def ys881 : ySp := (286, 2, (0, [], [], [], [(0, (2, yc 1022, yc 0)), (1, (0, yc 2, yc 0))], []), [(0, [], [], [], [], [(0, yc 116, yc 0)])], [])
def yx881 : yCx := ([ys880], ys881.2.2.2.2, yFP, zm286.2.2.1, zm286.2.2.2.1, zc286, 0, ys881.2.2.2.1, [], [])
theorem yw881 : ywf ys881.2.2.1 = true := by decide +kernel
theorem yk881 : yver yx881 ys881.2.2.1 4000 = true := by decide +kernel
theorem yt881 {E : zHp → Prop} (h : yXt E) : yTs E ys881 := yver_s (x := yx881) h.1 (yal_c (yt880 h) yw880 (yal_n)) yg286 yk881
def ys882 : ySp := (282, 2, (0, [], [], [], [(0, (2, yc 1003, yc 0)), (1, (0, yc 2, yc 0))], []), [(0, [], [], [], [], [(0, yc 116, yc 0)])], [])
def yx882 : yCx := ([ys870, ys881], ys882.2.2.2.2, yFP, zm282.2.2.1, zm282.2.2.2.1, zc282, 0, ys882.2.2.2.1, [], [])
theorem yw882 : ywf ys882.2.2.1 = true := by decide +kernel
theorem yk882 : yver yx882 ys882.2.2.1 4000 = true := by decide +kernel
theorem yt882 {E : zHp → Prop} (h : yXt E) : yTs E ys882 := yver_s (x := yx882) h.1 (yal_c (yt870 h) yw870 (yal_c (yt881 h) yw881 (yal_n))) yg282 yk882
def ys883 : ySp := (293, 3, (0, [], [], [], [(0, (0, yc 3, yc 0)), (1, (0, yc 4, yc 0)), (2, (7, yc 0, yc 0))], []), [(0, [], [], [], [], [(0, yc 3, yc 0)])], [])
def yx883 : yCx := ([], ys883.2.2.2.2, yFP, zm293.2.2.1, zm293.2.2.2.1, zc293, 0, ys883.2.2.2.1, [], [])
theorem yw883 : ywf ys883.2.2.1 = true := by decide +kernel
theorem yk883 : yver yx883 ys883.2.2.1 4000 = true := by decide +kernel
theorem yt883 {E : zHp → Prop} (h : yXt E) : yTs E ys883 := yver_s (x := yx883) h.1 (yal_n) yg293 yk883
def ys884 : ySp := (285, 2, (0, [], [], [], [(0, (0, yc 3, yc 0)), (1, (0, yc 4, yc 0))], []), [(0, [], [], [], [], [])], [])
def yx884 : yCx := ([ys883], ys884.2.2.2.2, yFP, zm285.2.2.1, zm285.2.2.2.1, zc285, 0, ys884.2.2.2.1, [], [])
theorem yw884 : ywf ys884.2.2.1 = true := by decide +kernel
theorem yk884 : yver yx884 ys884.2.2.1 4000 = true := by decide +kernel
theorem yt884 {E : zHp → Prop} (h : yXt E) : yTs E ys884 := yver_s (x := yx884) h.1 (yal_c (yt883 h) yw883 (yal_n)) yg285 yk884
def ys885 : ySp := (286, 2, (0, [], [], [], [(0, (2, yc 1022, yc 0)), (1, (0, yc 3, yc 0))], []), [(0, [], [], [], [], [(0, yc 32, yc 0)])], [])
def yx885 : yCx := ([ys884], ys885.2.2.2.2, yFP, zm286.2.2.1, zm286.2.2.2.1, zc286, 0, ys885.2.2.2.1, [], [])
theorem yw885 : ywf ys885.2.2.1 = true := by decide +kernel
theorem yk885 : yver yx885 ys885.2.2.1 4000 = true := by decide +kernel
theorem yt885 {E : zHp → Prop} (h : yXt E) : yTs E ys885 := yver_s (x := yx885) h.1 (yal_c (yt884 h) yw884 (yal_n)) yg286 yk885
def ys886 : ySp := (282, 2, (0, [], [], [], [(0, (2, yc 1003, yc 0)), (1, (0, yc 3, yc 0))], []), [(0, [], [], [], [], [(0, yc 32, yc 0)])], [])
def yx886 : yCx := ([ys870, ys885], ys886.2.2.2.2, yFP, zm282.2.2.1, zm282.2.2.2.1, zc282, 0, ys886.2.2.2.1, [], [])
theorem yw886 : ywf ys886.2.2.1 = true := by decide +kernel
theorem yk886 : yver yx886 ys886.2.2.1 4000 = true := by decide +kernel
theorem yt886 {E : zHp → Prop} (h : yXt E) : yTs E ys886 := yver_s (x := yx886) h.1 (yal_c (yt870 h) yw870 (yal_c (yt885 h) yw885 (yal_n))) yg282 yk886
def ys887 : ySp := (59, 6, (1, [(0, 0, 2147483647)], [], [(yc 2, yc 0, (2, yc 1, yc 0)), (yc 2, yc 4, (0, (1, 0, 0), yc 0))], [(0, (2, yc 2, yc 0)), (1, (2, yc 1003, yc 0))], []), [(3, [(1, 0, 400), (2, 0, 400)], [], [(yc 2, yc 0, (2, yc 1, yc 0)), (yc 2, yc 4, (0, (1, 0, 0), yc 0)), (yc 2, yc 2, (0, (1, 1, 0), yc 0)), (yc 2, yc 1, (0, (1, 2, 0), yc 0))], [], [(0, yc (-1), yc 0)]), (3, [(1, 0, 400), (2, 0, 400)], [], [(yc 2, yc 0, (2, yc 1, yc 0)), (yc 2, yc 4, (0, (1, 0, 0), yc 0)), (yc 2, yc 1, (0, (1, 1, 0), yc 0)), (yc 2, yc 2, (0, (1, 2, 0), yc 0))], [], [(0, yc 0, yc 0)])], [(2, 2, 2), (2, 2, 3)])
def yx887 : yCx := ([ys839, ys16, ys869, ys874, ys878, ys882, ys886], ys887.2.2.2.2, yFP, zm59.2.2.1, zm59.2.2.2.1, zc59, 1, ys887.2.2.2.1, [(18, (4, [(0, 0, 2147483647), (1, 0, 400), (2, 0, 400), (3, 0, 400)], [], [(yc 2, yc 0, (2, yc 1, yc 0)), (yc 2, yc 4, (0, (1, 0, 0), yc 0)), (yc 2, yc 2, (0, (1, 2, 0), yc 0)), (yc 2, yc 1, (0, (1, 3, 0), yc 0)), (yc 2, yc 3, (0, (1, 2, 0), yc 0))], [(0, (2, yc 2, yc 0)), (1, (2, yc 1003, yc 0)), (2, (0, (1, 1, 0), yc 0))], []), ([((-1), 1)], 405)), (55, (4, [(0, 0, 2147483647), (1, 0, 400), (2, 0, 400), (3, 0, 400)], [], [(yc 2, yc 0, (2, yc 1, yc 0)), (yc 2, yc 4, (0, (1, 0, 0), yc 0)), (yc 2, yc 2, (0, (1, 2, 0), yc 0)), (yc 2, yc 1, (0, (1, 3, 0), yc 0)), (yc 2, yc 3, (0, (1, 2, 0), yc 0))], [(0, (2, yc 2, yc 0)), (1, (2, yc 1003, yc 0)), (2, (0, (1, 1, 0), yc 0)), (3, (0, yc 0, yc 0)), (4, (0, (1, 2, 0), yc 0)), (5, (0, yc 0, yc 0))], []), ([], 4)), (55, (5, [(0, 0, 2147483647), (1, 0, 400), (2, (-1), 400), (3, 0, 400), (4, 0, 400)], [([(1, 1), ((-1), 2)], 0)], [(yc 2, yc 0, (2, yc 1, yc 0)), (yc 2, yc 4, (0, (1, 0, 0), yc 0)), (yc 2, yc 2, (0, (1, 3, 0), yc 0)), (yc 2, yc 1, (0, (1, 4, 0), yc 0)), (yc 2, yc 3, (0, (1, 3, 0), yc 0))], [(0, (2, yc 2, yc 0)), (1, (2, yc 1003, yc 0)), (2, (0, (1, 1, 0), yc 0)), (3, (0, yc 0, yc 0)), (4, (0, (1, 2, 0), yc 0)), (5, (0, yc 1, yc 0))], []), ([], 3)), (55, (5, [(0, 0, 2147483647), (1, 0, 400), (2, (-1), 400), (3, 0, 400), (4, 0, 400)], [([(1, 1), ((-1), 2)], 1), ([(1, 1), ((-1), 2)], 0)], [(yc 2, yc 0, (2, yc 1, yc 0)), (yc 2, yc 4, (0, (1, 0, 0), yc 0)), (yc 2, yc 2, (0, (1, 3, 0), yc 0)), (yc 2, yc 1, (0, (1, 4, 0), yc 0)), (yc 2, yc 3, (0, (1, 3, 0), yc 0))], [(0, (2, yc 2, yc 0)), (1, (2, yc 1003, yc 0)), (2, (0, (1, 1, 0), yc 0)), (3, (0, yc 0, yc 0)), (4, (0, (1, 2, 0), yc 0)), (5, (0, yc 2, yc 0))], []), ([], 2)), (55, (5, [(0, 0, 2147483647), (1, 0, 400), (2, (-1), 400), (3, 0, 400), (4, 0, 400)], [([(1, 1), ((-1), 2)], 2), ([(1, 1), ((-1), 2)], 1), ([(1, 1), ((-1), 2)], 0)], [(yc 2, yc 0, (2, yc 1, yc 0)), (yc 2, yc 4, (0, (1, 0, 0), yc 0)), (yc 2, yc 2, (0, (1, 3, 0), yc 0)), (yc 2, yc 1, (0, (1, 4, 0), yc 0)), (yc 2, yc 3, (0, (1, 3, 0), yc 0))], [(0, (2, yc 2, yc 0)), (1, (2, yc 1003, yc 0)), (2, (0, (1, 1, 0), yc 0)), (3, (0, yc 0, yc 0)), (4, (0, (1, 2, 0), yc 0)), (5, (0, yc 3, yc 0))], []), ([], 1)), (55, (4, [(0, 0, 2147483647), (1, 0, 400), (2, 0, 400), (3, 0, 400)], [], [(yc 2, yc 0, (2, yc 1, yc 0)), (yc 2, yc 4, (0, (1, 0, 0), yc 0)), (yc 2, yc 2, (0, (1, 2, 0), yc 0)), (yc 2, yc 1, (0, (1, 3, 0), yc 0)), (yc 2, yc 3, (0, (1, 2, 0), yc 0))], [(0, (2, yc 2, yc 0)), (1, (2, yc 1003, yc 0)), (2, (0, (1, 1, 0), yc 0)), (3, (0, yc 1, yc 0)), (4, (0, (1, 2, 0), yc 0)), (5, (0, yc 4, yc 0))], []), ([], 0))], [])
theorem yw887 : ywf ys887.2.2.1 = true := by decide +kernel
theorem yk887 : yver yx887 ys887.2.2.1 4000 = true := by decide +kernel
theorem yt887 {E : zHp → Prop} (h : yXt E) : yTs E ys887 := yver_s (x := yx887) h.1 (yal_c (yt839 h) yw839 (yal_c (yt16 h) yw16 (yal_c (yt869 h) yw869 (yal_c (yt874 h) yw874 (yal_c (yt878 h) yw878 (yal_c (yt882 h) yw882 (yal_c (yt886 h) yw886 (yal_n)))))))) yg59 yk887
def ys888 : ySp := (47, 2, (1, [(0, 0, 3)], [], [], [(0, (2, yc 6, yc 0)), (1, (0, (1, 0, 0), yc 0))], []), [(1, [], [], [], [], [])], [(6, 6, 3), (8, 8, 1000)])
def yx888 : yCx := ([], ys888.2.2.2.2, yFP, zm47.2.2.1, zm47.2.2.2.1, zc47, 1, ys888.2.2.2.1, [], [])
theorem yw888 : ywf ys888.2.2.1 = true := by decide +kernel
theorem yk888 : yver yx888 ys888.2.2.1 4000 = true := by decide +kernel
theorem yt888 {E : zHp → Prop} (h : yXt E) : yTs E ys888 := yver_s (x := yx888) h.1 (yal_n) yg47 yk888
def ys889 : ySp := (58, 4, (1, [(0, 0, 2147483647)], [], [(yc 2, yc 0, (2, yc 1, yc 0)), (yc 2, yc 4, (0, (1, 0, 0), yc 0))], [(0, (2, yc 2, yc 0)), (1, (0, yc 0, yc 0)), (2, (0, yc 99999, yc 0))], []), [(5, [(1, (-2147483648), 2147483647), (2, 0, 400), (3, 0, 400), (4, 1, 2147483647)], [], [(yc 2, yc 0, (2, yc 1, yc 0)), (yc 2, yc 2, (0, (1, 2, 0), yc 0)), (yc 2, yc 1, (0, (1, 3, 0), yc 0)), (yc 2, yc 4, (0, (1, 4, 0), yc 0))], [], [(0, (1, 1, 0), yc 0)]), (4, [(1, 0, 99999), (2, 0, 400), (3, 0, 400)], [], [(yc 2, yc 0, (2, yc 1, yc 0)), (yc 2, yc 4, (0, (1, 0, 0), yc 0)), (yc 2, yc 2, (0, (1, 2, 0), yc 0)), (yc 2, yc 1, (0, (1, 3, 0), yc 0))], [], [(0, (1, 1, 0), yc 0)])], [(2, 2, 2), (2, 2, 3), (2, 2, 4)])
def yx889 : yCx := ([ys153, ys839, ys150], ys889.2.2.2.2, yFP, zm58.2.2.1, zm58.2.2.2.1, zc58, 1, ys889.2.2.2.1, [(15, (5, [(0, 0, 2147483647), (1, (-2147483648), 2147483647), (2, 0, 400), (3, 0, 400), (4, 0, 400)], [], [(yc 2, yc 0, (2, yc 1, yc 0)), (yc 2, yc 4, (0, (1, 0, 0), yc 0)), (yc 2, yc 2, (0, (1, 2, 0), yc 0)), (yc 2, yc 1, (0, (1, 3, 0), yc 0)), (yc 2, yc 3, (0, (1, 4, 0), yc 0))], [(0, (2, yc 2, yc 0)), (1, (0, yc 0, yc 0)), (2, (0, yc 99999, yc 0)), (3, (0, (1, 1, 0), yc 0))], []), ([((-1), 2)], 400))], [])
theorem yw889 : ywf ys889.2.2.1 = true := by decide +kernel
theorem yk889 : yver yx889 ys889.2.2.1 4000 = true := by decide +kernel
theorem yt889 {E : zHp → Prop} (h : yXt E) : yTs E ys889 := yver_s (x := yx889) h.1 (yal_c (yt153 h) yw153 (yal_c (yt839 h) yw839 (yal_c (yt150 h) yw150 (yal_n)))) yg58 yk889
def ys890 : ySp := (48, 2, (1, [(0, 0, 2147483647)], [], [], [(0, (2, yc 6, yc 0)), (1, (0, (1, 0, 0), yc 0))], []), [(1, [], [], [], [], [])], [(6, 6, 1), (7, 7, 1000)])
def yx890 : yCx := ([], ys890.2.2.2.2, yFP, zm48.2.2.1, zm48.2.2.2.1, zc48, 1, ys890.2.2.2.1, [], [])
theorem yw890 : ywf ys890.2.2.1 = true := by decide +kernel
theorem yk890 : yver yx890 ys890.2.2.1 4000 = true := by decide +kernel
theorem yt890 {E : zHp → Prop} (h : yXt E) : yTs E ys890 := yver_s (x := yx890) h.1 (yal_n) yg48 yk890
def ys891 : ySp := (37, 3, (2, [(0, 0, 400), (1, 0, 2147483647)], [], [(yc 2, yc 0, (2, yc 1, yc 0)), (yc 2, yc 4, (0, (1, 1, 0), yc 0))], [(0, (2, yc 6, yc 0)), (1, (2, yc 2, yc 0)), (2, (0, (1, 0, 0), yc 0))], []), [(3, [(2, 0, 2147483647)], [], [(yc 2, yc 0, (2, yc 1, yc 0)), (yc 2, yc 4, (0, (1, 2, 0), yc 0))], [], [])], [(2, 2, 4), (6, 6, 5)])
def yx891 : yCx := ([ys865], ys891.2.2.2.2, yFP, zm37.2.2.1, zm37.2.2.2.1, zc37, 2, ys891.2.2.2.1, [], [])
theorem yw891 : ywf ys891.2.2.1 = true := by decide +kernel
theorem yk891 : yver yx891 ys891.2.2.1 4000 = true := by decide +kernel
theorem yt891 {E : zHp → Prop} (h : yXt E) : yTs E ys891 := yver_s (x := yx891) h.1 (yal_c (yt865 h) yw865 (yal_n)) yg37 yk891
def ys892 : ySp := (48, 2, (1, [(0, (-2147483648), 2147483647)], [], [], [(0, (2, yc 6, yc 0)), (1, (0, (1, 0, 0), yc 0))], []), [(1, [], [], [], [], [])], [(6, 6, 1), (7, 7, 1000)])
def yx892 : yCx := ([], ys892.2.2.2.2, yFP, zm48.2.2.1, zm48.2.2.2.1, zc48, 1, ys892.2.2.2.1, [], [])
theorem yw892 : ywf ys892.2.2.1 = true := by decide +kernel
theorem yk892 : yver yx892 ys892.2.2.1 4000 = true := by decide +kernel
theorem yt892 {E : zHp → Prop} (h : yXt E) : yTs E ys892 := yver_s (x := yx892) h.1 (yal_n) yg48 yk892
def ys893 : ySp := (283, 1, (0, [], [], [], [(0, (2, yc 1004, yc 0))], []), [(0, [], [], [], [], [(0, yc 0, yc 0)])], [])
def yx893 : yCx := ([], ys893.2.2.2.2, yFP, zm283.2.2.1, zm283.2.2.2.1, zc283, 0, ys893.2.2.2.1, [], [])
theorem yw893 : ywf ys893.2.2.1 = true := by decide +kernel
theorem yk893 : yver yx893 ys893.2.2.1 4000 = true := by decide +kernel
theorem yt893 {E : zHp → Prop} (h : yXt E) : yTs E ys893 := yver_s (x := yx893) h.1 (yal_n) yg283 yk893
def ys894 : ySp := (281, 1, (0, [], [], [], [(0, (2, yc 1004, yc 0))], []), [(0, [], [], [], [], [(0, yc 66, yc 0)])], [])
def yx894 : yCx := ([ys893], ys894.2.2.2.2, yFP, zm281.2.2.1, zm281.2.2.2.1, zc281, 0, ys894.2.2.2.1, [], [])
theorem yw894 : ywf ys894.2.2.1 = true := by decide +kernel
theorem yk894 : yver yx894 ys894.2.2.1 4000 = true := by decide +kernel
theorem yt894 {E : zHp → Prop} (h : yXt E) : yTs E ys894 := yver_s (x := yx894) h.1 (yal_c (yt893 h) yw893 (yal_n)) yg281 yk894
def ys895 : ySp := (284, 1, (0, [], [], [], [(0, (2, yc 1004, yc 0))], []), [(0, [], [], [], [], [(0, yc 1, yc 0)])], [])
def yx895 : yCx := ([], ys895.2.2.2.2, yFP, zm284.2.2.1, zm284.2.2.2.1, zc284, 0, ys895.2.2.2.1, [], [])
theorem yw895 : ywf ys895.2.2.1 = true := by decide +kernel
theorem yk895 : yver yx895 ys895.2.2.1 4000 = true := by decide +kernel
theorem yt895 {E : zHp → Prop} (h : yXt E) : yTs E ys895 := yver_s (x := yx895) h.1 (yal_n) yg284 yk895
def ys896 : ySp := (293, 3, (0, [], [], [], [(0, (0, yc 0, yc 0)), (1, (0, yc 66, yc 0)), (2, (7, yc 0, yc 0))], []), [(0, [], [], [], [], [(0, yc 0, yc 0)])], [])
def yx896 : yCx := ([], ys896.2.2.2.2, yFP, zm293.2.2.1, zm293.2.2.2.1, zc293, 0, ys896.2.2.2.1, [], [])
theorem yw896 : ywf ys896.2.2.1 = true := by decide +kernel
theorem yk896 : yver yx896 ys896.2.2.1 4000 = true := by decide +kernel
theorem yt896 {E : zHp → Prop} (h : yXt E) : yTs E ys896 := yver_s (x := yx896) h.1 (yal_n) yg293 yk896
def ys897 : ySp := (285, 2, (0, [], [], [], [(0, (0, yc 0, yc 0)), (1, (0, yc 66, yc 0))], []), [(0, [], [], [], [], [])], [])
def yx897 : yCx := ([ys896], ys897.2.2.2.2, yFP, zm285.2.2.1, zm285.2.2.2.1, zc285, 0, ys897.2.2.2.1, [], [])
theorem yw897 : ywf ys897.2.2.1 = true := by decide +kernel
theorem yk897 : yver yx897 ys897.2.2.1 4000 = true := by decide +kernel
theorem yt897 {E : zHp → Prop} (h : yXt E) : yTs E ys897 := yver_s (x := yx897) h.1 (yal_c (yt896 h) yw896 (yal_n)) yg285 yk897
def ys898 : ySp := (286, 2, (0, [], [], [], [(0, (2, yc 1023, yc 0)), (1, (0, yc 0, yc 0))], []), [(0, [], [], [], [], [(0, yc 116, yc 0)])], [])
def yx898 : yCx := ([ys897], ys898.2.2.2.2, yFP, zm286.2.2.1, zm286.2.2.2.1, zc286, 0, ys898.2.2.2.1, [], [])
theorem yw898 : ywf ys898.2.2.1 = true := by decide +kernel
theorem yk898 : yver yx898 ys898.2.2.1 4000 = true := by decide +kernel
theorem yt898 {E : zHp → Prop} (h : yXt E) : yTs E ys898 := yver_s (x := yx898) h.1 (yal_c (yt897 h) yw897 (yal_n)) yg286 yk898
def ys899 : ySp := (282, 2, (0, [], [], [], [(0, (2, yc 1004, yc 0)), (1, (0, yc 0, yc 0))], []), [(0, [], [], [], [], [(0, yc 116, yc 0)])], [])
def yx899 : yCx := ([ys895, ys898], ys899.2.2.2.2, yFP, zm282.2.2.1, zm282.2.2.2.1, zc282, 0, ys899.2.2.2.1, [], [])
theorem yw899 : ywf ys899.2.2.1 = true := by decide +kernel
theorem yk899 : yver yx899 ys899.2.2.1 4000 = true := by decide +kernel
theorem yt899 {E : zHp → Prop} (h : yXt E) : yTs E ys899 := yver_s (x := yx899) h.1 (yal_c (yt895 h) yw895 (yal_c (yt898 h) yw898 (yal_n))) yg282 yk899
def ys900 : ySp := (293, 3, (0, [], [], [], [(0, (0, yc 1, yc 0)), (1, (0, yc 66, yc 0)), (2, (7, yc 0, yc 0))], []), [(0, [], [], [], [], [(0, yc 1, yc 0)])], [])
def yx900 : yCx := ([], ys900.2.2.2.2, yFP, zm293.2.2.1, zm293.2.2.2.1, zc293, 0, ys900.2.2.2.1, [], [])
theorem yw900 : ywf ys900.2.2.1 = true := by decide +kernel
theorem yk900 : yver yx900 ys900.2.2.1 4000 = true := by decide +kernel
theorem yt900 {E : zHp → Prop} (h : yXt E) : yTs E ys900 := yver_s (x := yx900) h.1 (yal_n) yg293 yk900
def ys901 : ySp := (285, 2, (0, [], [], [], [(0, (0, yc 1, yc 0)), (1, (0, yc 66, yc 0))], []), [(0, [], [], [], [], [])], [])
def yx901 : yCx := ([ys900], ys901.2.2.2.2, yFP, zm285.2.2.1, zm285.2.2.2.1, zc285, 0, ys901.2.2.2.1, [], [])
theorem yw901 : ywf ys901.2.2.1 = true := by decide +kernel
theorem yk901 : yver yx901 ys901.2.2.1 4000 = true := by decide +kernel
theorem yt901 {E : zHp → Prop} (h : yXt E) : yTs E ys901 := yver_s (x := yx901) h.1 (yal_c (yt900 h) yw900 (yal_n)) yg285 yk901
def ys902 : ySp := (286, 2, (0, [], [], [], [(0, (2, yc 1023, yc 0)), (1, (0, yc 1, yc 0))], []), [(0, [], [], [], [], [(0, yc 111, yc 0)])], [])
def yx902 : yCx := ([ys901], ys902.2.2.2.2, yFP, zm286.2.2.1, zm286.2.2.2.1, zc286, 0, ys902.2.2.2.1, [], [])
theorem yw902 : ywf ys902.2.2.1 = true := by decide +kernel
theorem yk902 : yver yx902 ys902.2.2.1 4000 = true := by decide +kernel
theorem yt902 {E : zHp → Prop} (h : yXt E) : yTs E ys902 := yver_s (x := yx902) h.1 (yal_c (yt901 h) yw901 (yal_n)) yg286 yk902
def ys903 : ySp := (282, 2, (0, [], [], [], [(0, (2, yc 1004, yc 0)), (1, (0, yc 1, yc 0))], []), [(0, [], [], [], [], [(0, yc 111, yc 0)])], [])
def yx903 : yCx := ([ys895, ys902], ys903.2.2.2.2, yFP, zm282.2.2.1, zm282.2.2.2.1, zc282, 0, ys903.2.2.2.1, [], [])
theorem yw903 : ywf ys903.2.2.1 = true := by decide +kernel
theorem yk903 : yver yx903 ys903.2.2.1 4000 = true := by decide +kernel
theorem yt903 {E : zHp → Prop} (h : yXt E) : yTs E ys903 := yver_s (x := yx903) h.1 (yal_c (yt895 h) yw895 (yal_c (yt902 h) yw902 (yal_n))) yg282 yk903
def ys904 : ySp := (293, 3, (0, [], [], [], [(0, (0, yc 2, yc 0)), (1, (0, yc 66, yc 0)), (2, (7, yc 0, yc 0))], []), [(0, [], [], [], [], [(0, yc 2, yc 0)])], [])
def yx904 : yCx := ([], ys904.2.2.2.2, yFP, zm293.2.2.1, zm293.2.2.2.1, zc293, 0, ys904.2.2.2.1, [], [])
theorem yw904 : ywf ys904.2.2.1 = true := by decide +kernel
theorem yk904 : yver yx904 ys904.2.2.1 4000 = true := by decide +kernel
theorem yt904 {E : zHp → Prop} (h : yXt E) : yTs E ys904 := yver_s (x := yx904) h.1 (yal_n) yg293 yk904
def ys905 : ySp := (285, 2, (0, [], [], [], [(0, (0, yc 2, yc 0)), (1, (0, yc 66, yc 0))], []), [(0, [], [], [], [], [])], [])
def yx905 : yCx := ([ys904], ys905.2.2.2.2, yFP, zm285.2.2.1, zm285.2.2.2.1, zc285, 0, ys905.2.2.2.1, [], [])
theorem yw905 : ywf ys905.2.2.1 = true := by decide +kernel
theorem yk905 : yver yx905 ys905.2.2.1 4000 = true := by decide +kernel
theorem yt905 {E : zHp → Prop} (h : yXt E) : yTs E ys905 := yver_s (x := yx905) h.1 (yal_c (yt904 h) yw904 (yal_n)) yg285 yk905
def ys906 : ySp := (286, 2, (0, [], [], [], [(0, (2, yc 1023, yc 0)), (1, (0, yc 2, yc 0))], []), [(0, [], [], [], [], [(0, yc 111, yc 0)])], [])
def yx906 : yCx := ([ys905], ys906.2.2.2.2, yFP, zm286.2.2.1, zm286.2.2.2.1, zc286, 0, ys906.2.2.2.1, [], [])
theorem yw906 : ywf ys906.2.2.1 = true := by decide +kernel
theorem yk906 : yver yx906 ys906.2.2.1 4000 = true := by decide +kernel
theorem yt906 {E : zHp → Prop} (h : yXt E) : yTs E ys906 := yver_s (x := yx906) h.1 (yal_c (yt905 h) yw905 (yal_n)) yg286 yk906
def ys907 : ySp := (282, 2, (0, [], [], [], [(0, (2, yc 1004, yc 0)), (1, (0, yc 2, yc 0))], []), [(0, [], [], [], [], [(0, yc 111, yc 0)])], [])
def yx907 : yCx := ([ys895, ys906], ys907.2.2.2.2, yFP, zm282.2.2.1, zm282.2.2.2.1, zc282, 0, ys907.2.2.2.1, [], [])
theorem yw907 : ywf ys907.2.2.1 = true := by decide +kernel
theorem yk907 : yver yx907 ys907.2.2.1 4000 = true := by decide +kernel
theorem yt907 {E : zHp → Prop} (h : yXt E) : yTs E ys907 := yver_s (x := yx907) h.1 (yal_c (yt895 h) yw895 (yal_c (yt906 h) yw906 (yal_n))) yg282 yk907
def ys908 : ySp := (293, 3, (0, [], [], [], [(0, (0, yc 3, yc 0)), (1, (0, yc 66, yc 0)), (2, (7, yc 0, yc 0))], []), [(0, [], [], [], [], [(0, yc 3, yc 0)])], [])
def yx908 : yCx := ([], ys908.2.2.2.2, yFP, zm293.2.2.1, zm293.2.2.2.1, zc293, 0, ys908.2.2.2.1, [], [])
theorem yw908 : ywf ys908.2.2.1 = true := by decide +kernel
theorem yk908 : yver yx908 ys908.2.2.1 4000 = true := by decide +kernel
theorem yt908 {E : zHp → Prop} (h : yXt E) : yTs E ys908 := yver_s (x := yx908) h.1 (yal_n) yg293 yk908
def ys909 : ySp := (285, 2, (0, [], [], [], [(0, (0, yc 3, yc 0)), (1, (0, yc 66, yc 0))], []), [(0, [], [], [], [], [])], [])
def yx909 : yCx := ([ys908], ys909.2.2.2.2, yFP, zm285.2.2.1, zm285.2.2.2.1, zc285, 0, ys909.2.2.2.1, [], [])
theorem yw909 : ywf ys909.2.2.1 = true := by decide +kernel
theorem yk909 : yver yx909 ys909.2.2.1 4000 = true := by decide +kernel
theorem yt909 {E : zHp → Prop} (h : yXt E) : yTs E ys909 := yver_s (x := yx909) h.1 (yal_c (yt908 h) yw908 (yal_n)) yg285 yk909
def ys910 : ySp := (286, 2, (0, [], [], [], [(0, (2, yc 1023, yc 0)), (1, (0, yc 3, yc 0))], []), [(0, [], [], [], [], [(0, yc 108, yc 0)])], [])
def yx910 : yCx := ([ys909], ys910.2.2.2.2, yFP, zm286.2.2.1, zm286.2.2.2.1, zc286, 0, ys910.2.2.2.1, [], [])
theorem yw910 : ywf ys910.2.2.1 = true := by decide +kernel
theorem yk910 : yver yx910 ys910.2.2.1 4000 = true := by decide +kernel
theorem yt910 {E : zHp → Prop} (h : yXt E) : yTs E ys910 := yver_s (x := yx910) h.1 (yal_c (yt909 h) yw909 (yal_n)) yg286 yk910
def ys911 : ySp := (282, 2, (0, [], [], [], [(0, (2, yc 1004, yc 0)), (1, (0, yc 3, yc 0))], []), [(0, [], [], [], [], [(0, yc 108, yc 0)])], [])
def yx911 : yCx := ([ys895, ys910], ys911.2.2.2.2, yFP, zm282.2.2.1, zm282.2.2.2.1, zc282, 0, ys911.2.2.2.1, [], [])
theorem yw911 : ywf ys911.2.2.1 = true := by decide +kernel
theorem yk911 : yver yx911 ys911.2.2.1 4000 = true := by decide +kernel
theorem yt911 {E : zHp → Prop} (h : yXt E) : yTs E ys911 := yver_s (x := yx911) h.1 (yal_c (yt895 h) yw895 (yal_c (yt910 h) yw910 (yal_n))) yg282 yk911
def ys912 : ySp := (293, 3, (0, [], [], [], [(0, (0, yc 4, yc 0)), (1, (0, yc 66, yc 0)), (2, (7, yc 0, yc 0))], []), [(0, [], [], [], [], [(0, yc 4, yc 0)])], [])
def yx912 : yCx := ([], ys912.2.2.2.2, yFP, zm293.2.2.1, zm293.2.2.2.1, zc293, 0, ys912.2.2.2.1, [], [])
theorem yw912 : ywf ys912.2.2.1 = true := by decide +kernel
theorem yk912 : yver yx912 ys912.2.2.1 4000 = true := by decide +kernel
theorem yt912 {E : zHp → Prop} (h : yXt E) : yTs E ys912 := yver_s (x := yx912) h.1 (yal_n) yg293 yk912
def ys913 : ySp := (285, 2, (0, [], [], [], [(0, (0, yc 4, yc 0)), (1, (0, yc 66, yc 0))], []), [(0, [], [], [], [], [])], [])
def yx913 : yCx := ([ys912], ys913.2.2.2.2, yFP, zm285.2.2.1, zm285.2.2.2.1, zc285, 0, ys913.2.2.2.1, [], [])
theorem yw913 : ywf ys913.2.2.1 = true := by decide +kernel
theorem yk913 : yver yx913 ys913.2.2.1 4000 = true := by decide +kernel
theorem yt913 {E : zHp → Prop} (h : yXt E) : yTs E ys913 := yver_s (x := yx913) h.1 (yal_c (yt912 h) yw912 (yal_n)) yg285 yk913
def ys914 : ySp := (286, 2, (0, [], [], [], [(0, (2, yc 1023, yc 0)), (1, (0, yc 4, yc 0))], []), [(0, [], [], [], [], [(0, yc 32, yc 0)])], [])
def yx914 : yCx := ([ys913], ys914.2.2.2.2, yFP, zm286.2.2.1, zm286.2.2.2.1, zc286, 0, ys914.2.2.2.1, [], [])
theorem yw914 : ywf ys914.2.2.1 = true := by decide +kernel
theorem yk914 : yver yx914 ys914.2.2.1 4000 = true := by decide +kernel
theorem yt914 {E : zHp → Prop} (h : yXt E) : yTs E ys914 := yver_s (x := yx914) h.1 (yal_c (yt913 h) yw913 (yal_n)) yg286 yk914
def ys915 : ySp := (282, 2, (0, [], [], [], [(0, (2, yc 1004, yc 0)), (1, (0, yc 4, yc 0))], []), [(0, [], [], [], [], [(0, yc 32, yc 0)])], [])
def yx915 : yCx := ([ys895, ys914], ys915.2.2.2.2, yFP, zm282.2.2.1, zm282.2.2.2.1, zc282, 0, ys915.2.2.2.1, [], [])
theorem yw915 : ywf ys915.2.2.1 = true := by decide +kernel
theorem yk915 : yver yx915 ys915.2.2.1 4000 = true := by decide +kernel
theorem yt915 {E : zHp → Prop} (h : yXt E) : yTs E ys915 := yver_s (x := yx915) h.1 (yal_c (yt895 h) yw895 (yal_c (yt914 h) yw914 (yal_n))) yg282 yk915
def ys916 : ySp := (293, 3, (0, [], [], [], [(0, (0, yc 5, yc 0)), (1, (0, yc 66, yc 0)), (2, (7, yc 0, yc 0))], []), [(0, [], [], [], [], [(0, yc 5, yc 0)])], [])
def yx916 : yCx := ([], ys916.2.2.2.2, yFP, zm293.2.2.1, zm293.2.2.2.1, zc293, 0, ys916.2.2.2.1, [], [])
theorem yw916 : ywf ys916.2.2.1 = true := by decide +kernel
theorem yk916 : yver yx916 ys916.2.2.1 4000 = true := by decide +kernel
theorem yt916 {E : zHp → Prop} (h : yXt E) : yTs E ys916 := yver_s (x := yx916) h.1 (yal_n) yg293 yk916
def ys917 : ySp := (285, 2, (0, [], [], [], [(0, (0, yc 5, yc 0)), (1, (0, yc 66, yc 0))], []), [(0, [], [], [], [], [])], [])
def yx917 : yCx := ([ys916], ys917.2.2.2.2, yFP, zm285.2.2.1, zm285.2.2.2.1, zc285, 0, ys917.2.2.2.1, [], [])
theorem yw917 : ywf ys917.2.2.1 = true := by decide +kernel
theorem yk917 : yver yx917 ys917.2.2.1 4000 = true := by decide +kernel
theorem yt917 {E : zHp → Prop} (h : yXt E) : yTs E ys917 := yver_s (x := yx917) h.1 (yal_c (yt916 h) yw916 (yal_n)) yg285 yk917
def ys918 : ySp := (286, 2, (0, [], [], [], [(0, (2, yc 1023, yc 0)), (1, (0, yc 5, yc 0))], []), [(0, [], [], [], [], [(0, yc 107, yc 0)])], [])
def yx918 : yCx := ([ys917], ys918.2.2.2.2, yFP, zm286.2.2.1, zm286.2.2.2.1, zc286, 0, ys918.2.2.2.1, [], [])
theorem yw918 : ywf ys918.2.2.1 = true := by decide +kernel
theorem yk918 : yver yx918 ys918.2.2.1 4000 = true := by decide +kernel
theorem yt918 {E : zHp → Prop} (h : yXt E) : yTs E ys918 := yver_s (x := yx918) h.1 (yal_c (yt917 h) yw917 (yal_n)) yg286 yk918
def ys919 : ySp := (282, 2, (0, [], [], [], [(0, (2, yc 1004, yc 0)), (1, (0, yc 5, yc 0))], []), [(0, [], [], [], [], [(0, yc 107, yc 0)])], [])
def yx919 : yCx := ([ys895, ys918], ys919.2.2.2.2, yFP, zm282.2.2.1, zm282.2.2.2.1, zc282, 0, ys919.2.2.2.1, [], [])
theorem yw919 : ywf ys919.2.2.1 = true := by decide +kernel
theorem yk919 : yver yx919 ys919.2.2.1 4000 = true := by decide +kernel
theorem yt919 {E : zHp → Prop} (h : yXt E) : yTs E ys919 := yver_s (x := yx919) h.1 (yal_c (yt895 h) yw895 (yal_c (yt918 h) yw918 (yal_n))) yg282 yk919
def ys920 : ySp := (293, 3, (0, [], [], [], [(0, (0, yc 6, yc 0)), (1, (0, yc 66, yc 0)), (2, (7, yc 0, yc 0))], []), [(0, [], [], [], [], [(0, yc 6, yc 0)])], [])
def yx920 : yCx := ([], ys920.2.2.2.2, yFP, zm293.2.2.1, zm293.2.2.2.1, zc293, 0, ys920.2.2.2.1, [], [])
theorem yw920 : ywf ys920.2.2.1 = true := by decide +kernel
theorem yk920 : yver yx920 ys920.2.2.1 4000 = true := by decide +kernel
theorem yt920 {E : zHp → Prop} (h : yXt E) : yTs E ys920 := yver_s (x := yx920) h.1 (yal_n) yg293 yk920
def ys921 : ySp := (285, 2, (0, [], [], [], [(0, (0, yc 6, yc 0)), (1, (0, yc 66, yc 0))], []), [(0, [], [], [], [], [])], [])
def yx921 : yCx := ([ys920], ys921.2.2.2.2, yFP, zm285.2.2.1, zm285.2.2.2.1, zc285, 0, ys921.2.2.2.1, [], [])
theorem yw921 : ywf ys921.2.2.1 = true := by decide +kernel
theorem yk921 : yver yx921 ys921.2.2.1 4000 = true := by decide +kernel
theorem yt921 {E : zHp → Prop} (h : yXt E) : yTs E ys921 := yver_s (x := yx921) h.1 (yal_c (yt920 h) yw920 (yal_n)) yg285 yk921
def ys922 : ySp := (286, 2, (0, [], [], [], [(0, (2, yc 1023, yc 0)), (1, (0, yc 6, yc 0))], []), [(0, [], [], [], [], [(0, yc 105, yc 0)])], [])
def yx922 : yCx := ([ys921], ys922.2.2.2.2, yFP, zm286.2.2.1, zm286.2.2.2.1, zc286, 0, ys922.2.2.2.1, [], [])
theorem yw922 : ywf ys922.2.2.1 = true := by decide +kernel
theorem yk922 : yver yx922 ys922.2.2.1 4000 = true := by decide +kernel
theorem yt922 {E : zHp → Prop} (h : yXt E) : yTs E ys922 := yver_s (x := yx922) h.1 (yal_c (yt921 h) yw921 (yal_n)) yg286 yk922
def ys923 : ySp := (282, 2, (0, [], [], [], [(0, (2, yc 1004, yc 0)), (1, (0, yc 6, yc 0))], []), [(0, [], [], [], [], [(0, yc 105, yc 0)])], [])
def yx923 : yCx := ([ys895, ys922], ys923.2.2.2.2, yFP, zm282.2.2.1, zm282.2.2.2.1, zc282, 0, ys923.2.2.2.1, [], [])
theorem yw923 : ywf ys923.2.2.1 = true := by decide +kernel
theorem yk923 : yver yx923 ys923.2.2.1 4000 = true := by decide +kernel
theorem yt923 {E : zHp → Prop} (h : yXt E) : yTs E ys923 := yver_s (x := yx923) h.1 (yal_c (yt895 h) yw895 (yal_c (yt922 h) yw922 (yal_n))) yg282 yk923
def ys924 : ySp := (293, 3, (0, [], [], [], [(0, (0, yc 7, yc 0)), (1, (0, yc 66, yc 0)), (2, (7, yc 0, yc 0))], []), [(0, [], [], [], [], [(0, yc 7, yc 0)])], [])
def yx924 : yCx := ([], ys924.2.2.2.2, yFP, zm293.2.2.1, zm293.2.2.2.1, zc293, 0, ys924.2.2.2.1, [], [])
theorem yw924 : ywf ys924.2.2.1 = true := by decide +kernel
theorem yk924 : yver yx924 ys924.2.2.1 4000 = true := by decide +kernel
theorem yt924 {E : zHp → Prop} (h : yXt E) : yTs E ys924 := yver_s (x := yx924) h.1 (yal_n) yg293 yk924
def ys925 : ySp := (285, 2, (0, [], [], [], [(0, (0, yc 7, yc 0)), (1, (0, yc 66, yc 0))], []), [(0, [], [], [], [], [])], [])
def yx925 : yCx := ([ys924], ys925.2.2.2.2, yFP, zm285.2.2.1, zm285.2.2.2.1, zc285, 0, ys925.2.2.2.1, [], [])
theorem yw925 : ywf ys925.2.2.1 = true := by decide +kernel
theorem yk925 : yver yx925 ys925.2.2.1 4000 = true := by decide +kernel
theorem yt925 {E : zHp → Prop} (h : yXt E) : yTs E ys925 := yver_s (x := yx925) h.1 (yal_c (yt924 h) yw924 (yal_n)) yg285 yk925
def ys926 : ySp := (286, 2, (0, [], [], [], [(0, (2, yc 1023, yc 0)), (1, (0, yc 7, yc 0))], []), [(0, [], [], [], [], [(0, yc 110, yc 0)])], [])
def yx926 : yCx := ([ys925], ys926.2.2.2.2, yFP, zm286.2.2.1, zm286.2.2.2.1, zc286, 0, ys926.2.2.2.1, [], [])
theorem yw926 : ywf ys926.2.2.1 = true := by decide +kernel
theorem yk926 : yver yx926 ys926.2.2.1 4000 = true := by decide +kernel
theorem yt926 {E : zHp → Prop} (h : yXt E) : yTs E ys926 := yver_s (x := yx926) h.1 (yal_c (yt925 h) yw925 (yal_n)) yg286 yk926
def ys927 : ySp := (282, 2, (0, [], [], [], [(0, (2, yc 1004, yc 0)), (1, (0, yc 7, yc 0))], []), [(0, [], [], [], [], [(0, yc 110, yc 0)])], [])
def yx927 : yCx := ([ys895, ys926], ys927.2.2.2.2, yFP, zm282.2.2.1, zm282.2.2.2.1, zc282, 0, ys927.2.2.2.1, [], [])
theorem yw927 : ywf ys927.2.2.1 = true := by decide +kernel
theorem yk927 : yver yx927 ys927.2.2.1 4000 = true := by decide +kernel
theorem yt927 {E : zHp → Prop} (h : yXt E) : yTs E ys927 := yver_s (x := yx927) h.1 (yal_c (yt895 h) yw895 (yal_c (yt926 h) yw926 (yal_n))) yg282 yk927
def ys928 : ySp := (293, 3, (0, [], [], [], [(0, (0, yc 8, yc 0)), (1, (0, yc 66, yc 0)), (2, (7, yc 0, yc 0))], []), [(0, [], [], [], [], [(0, yc 8, yc 0)])], [])
def yx928 : yCx := ([], ys928.2.2.2.2, yFP, zm293.2.2.1, zm293.2.2.2.1, zc293, 0, ys928.2.2.2.1, [], [])
theorem yw928 : ywf ys928.2.2.1 = true := by decide +kernel
theorem yk928 : yver yx928 ys928.2.2.1 4000 = true := by decide +kernel
theorem yt928 {E : zHp → Prop} (h : yXt E) : yTs E ys928 := yver_s (x := yx928) h.1 (yal_n) yg293 yk928
def ys929 : ySp := (285, 2, (0, [], [], [], [(0, (0, yc 8, yc 0)), (1, (0, yc 66, yc 0))], []), [(0, [], [], [], [], [])], [])
def yx929 : yCx := ([ys928], ys929.2.2.2.2, yFP, zm285.2.2.1, zm285.2.2.2.1, zc285, 0, ys929.2.2.2.1, [], [])
theorem yw929 : ywf ys929.2.2.1 = true := by decide +kernel
theorem yk929 : yver yx929 ys929.2.2.1 4000 = true := by decide +kernel
theorem yt929 {E : zHp → Prop} (h : yXt E) : yTs E ys929 := yver_s (x := yx929) h.1 (yal_c (yt928 h) yw928 (yal_n)) yg285 yk929
def ys930 : ySp := (286, 2, (0, [], [], [], [(0, (2, yc 1023, yc 0)), (1, (0, yc 8, yc 0))], []), [(0, [], [], [], [], [(0, yc 100, yc 0)])], [])
def yx930 : yCx := ([ys929], ys930.2.2.2.2, yFP, zm286.2.2.1, zm286.2.2.2.1, zc286, 0, ys930.2.2.2.1, [], [])
theorem yw930 : ywf ys930.2.2.1 = true := by decide +kernel
theorem yk930 : yver yx930 ys930.2.2.1 4000 = true := by decide +kernel
theorem yt930 {E : zHp → Prop} (h : yXt E) : yTs E ys930 := yver_s (x := yx930) h.1 (yal_c (yt929 h) yw929 (yal_n)) yg286 yk930
def ys931 : ySp := (282, 2, (0, [], [], [], [(0, (2, yc 1004, yc 0)), (1, (0, yc 8, yc 0))], []), [(0, [], [], [], [], [(0, yc 100, yc 0)])], [])
def yx931 : yCx := ([ys895, ys930], ys931.2.2.2.2, yFP, zm282.2.2.1, zm282.2.2.2.1, zc282, 0, ys931.2.2.2.1, [], [])
theorem yw931 : ywf ys931.2.2.1 = true := by decide +kernel
theorem yk931 : yver yx931 ys931.2.2.1 4000 = true := by decide +kernel
theorem yt931 {E : zHp → Prop} (h : yXt E) : yTs E ys931 := yver_s (x := yx931) h.1 (yal_c (yt895 h) yw895 (yal_c (yt930 h) yw930 (yal_n))) yg282 yk931
def ys932 : ySp := (293, 3, (0, [], [], [], [(0, (0, yc 9, yc 0)), (1, (0, yc 66, yc 0)), (2, (7, yc 0, yc 0))], []), [(0, [], [], [], [], [(0, yc 9, yc 0)])], [])
def yx932 : yCx := ([], ys932.2.2.2.2, yFP, zm293.2.2.1, zm293.2.2.2.1, zc293, 0, ys932.2.2.2.1, [], [])
theorem yw932 : ywf ys932.2.2.1 = true := by decide +kernel
theorem yk932 : yver yx932 ys932.2.2.1 4000 = true := by decide +kernel
theorem yt932 {E : zHp → Prop} (h : yXt E) : yTs E ys932 := yver_s (x := yx932) h.1 (yal_n) yg293 yk932
def ys933 : ySp := (285, 2, (0, [], [], [], [(0, (0, yc 9, yc 0)), (1, (0, yc 66, yc 0))], []), [(0, [], [], [], [], [])], [])
def yx933 : yCx := ([ys932], ys933.2.2.2.2, yFP, zm285.2.2.1, zm285.2.2.2.1, zc285, 0, ys933.2.2.2.1, [], [])
theorem yw933 : ywf ys933.2.2.1 = true := by decide +kernel
theorem yk933 : yver yx933 ys933.2.2.1 4000 = true := by decide +kernel
theorem yt933 {E : zHp → Prop} (h : yXt E) : yTs E ys933 := yver_s (x := yx933) h.1 (yal_c (yt932 h) yw932 (yal_n)) yg285 yk933
def ys934 : ySp := (286, 2, (0, [], [], [], [(0, (2, yc 1023, yc 0)), (1, (0, yc 9, yc 0))], []), [(0, [], [], [], [], [(0, yc 32, yc 0)])], [])
def yx934 : yCx := ([ys933], ys934.2.2.2.2, yFP, zm286.2.2.1, zm286.2.2.2.1, zc286, 0, ys934.2.2.2.1, [], [])
theorem yw934 : ywf ys934.2.2.1 = true := by decide +kernel
theorem yk934 : yver yx934 ys934.2.2.1 4000 = true := by decide +kernel
theorem yt934 {E : zHp → Prop} (h : yXt E) : yTs E ys934 := yver_s (x := yx934) h.1 (yal_c (yt933 h) yw933 (yal_n)) yg286 yk934
def ys935 : ySp := (282, 2, (0, [], [], [], [(0, (2, yc 1004, yc 0)), (1, (0, yc 9, yc 0))], []), [(0, [], [], [], [], [(0, yc 32, yc 0)])], [])
def yx935 : yCx := ([ys895, ys934], ys935.2.2.2.2, yFP, zm282.2.2.1, zm282.2.2.2.1, zc282, 0, ys935.2.2.2.1, [], [])
theorem yw935 : ywf ys935.2.2.1 = true := by decide +kernel
theorem yk935 : yver yx935 ys935.2.2.1 4000 = true := by decide +kernel
theorem yt935 {E : zHp → Prop} (h : yXt E) : yTs E ys935 := yver_s (x := yx935) h.1 (yal_c (yt895 h) yw895 (yal_c (yt934 h) yw934 (yal_n))) yg282 yk935
def ys936 : ySp := (293, 3, (0, [], [], [], [(0, (0, yc 10, yc 0)), (1, (0, yc 66, yc 0)), (2, (7, yc 0, yc 0))], []), [(0, [], [], [], [], [(0, yc 10, yc 0)])], [])
def yx936 : yCx := ([], ys936.2.2.2.2, yFP, zm293.2.2.1, zm293.2.2.2.1, zc293, 0, ys936.2.2.2.1, [], [])
theorem yw936 : ywf ys936.2.2.1 = true := by decide +kernel
theorem yk936 : yver yx936 ys936.2.2.1 4000 = true := by decide +kernel
theorem yt936 {E : zHp → Prop} (h : yXt E) : yTs E ys936 := yver_s (x := yx936) h.1 (yal_n) yg293 yk936
def ys937 : ySp := (285, 2, (0, [], [], [], [(0, (0, yc 10, yc 0)), (1, (0, yc 66, yc 0))], []), [(0, [], [], [], [], [])], [])
def yx937 : yCx := ([ys936], ys937.2.2.2.2, yFP, zm285.2.2.1, zm285.2.2.2.1, zc285, 0, ys937.2.2.2.1, [], [])
theorem yw937 : ywf ys937.2.2.1 = true := by decide +kernel
theorem yk937 : yver yx937 ys937.2.2.1 4000 = true := by decide +kernel
theorem yt937 {E : zHp → Prop} (h : yXt E) : yTs E ys937 := yver_s (x := yx937) h.1 (yal_c (yt936 h) yw936 (yal_n)) yg285 yk937
def ys938 : ySp := (286, 2, (0, [], [], [], [(0, (2, yc 1023, yc 0)), (1, (0, yc 10, yc 0))], []), [(0, [], [], [], [], [(0, yc 111, yc 0)])], [])
def yx938 : yCx := ([ys937], ys938.2.2.2.2, yFP, zm286.2.2.1, zm286.2.2.2.1, zc286, 0, ys938.2.2.2.1, [], [])
theorem yw938 : ywf ys938.2.2.1 = true := by decide +kernel
theorem yk938 : yver yx938 ys938.2.2.1 4000 = true := by decide +kernel
theorem yt938 {E : zHp → Prop} (h : yXt E) : yTs E ys938 := yver_s (x := yx938) h.1 (yal_c (yt937 h) yw937 (yal_n)) yg286 yk938
def ys939 : ySp := (282, 2, (0, [], [], [], [(0, (2, yc 1004, yc 0)), (1, (0, yc 10, yc 0))], []), [(0, [], [], [], [], [(0, yc 111, yc 0)])], [])
def yx939 : yCx := ([ys895, ys938], ys939.2.2.2.2, yFP, zm282.2.2.1, zm282.2.2.2.1, zc282, 0, ys939.2.2.2.1, [], [])
theorem yw939 : ywf ys939.2.2.1 = true := by decide +kernel
theorem yk939 : yver yx939 ys939.2.2.1 4000 = true := by decide +kernel
theorem yt939 {E : zHp → Prop} (h : yXt E) : yTs E ys939 := yver_s (x := yx939) h.1 (yal_c (yt895 h) yw895 (yal_c (yt938 h) yw938 (yal_n))) yg282 yk939
def ys940 : ySp := (293, 3, (0, [], [], [], [(0, (0, yc 11, yc 0)), (1, (0, yc 66, yc 0)), (2, (7, yc 0, yc 0))], []), [(0, [], [], [], [], [(0, yc 11, yc 0)])], [])
def yx940 : yCx := ([], ys940.2.2.2.2, yFP, zm293.2.2.1, zm293.2.2.2.1, zc293, 0, ys940.2.2.2.1, [], [])
theorem yw940 : ywf ys940.2.2.1 = true := by decide +kernel
theorem yk940 : yver yx940 ys940.2.2.1 4000 = true := by decide +kernel
theorem yt940 {E : zHp → Prop} (h : yXt E) : yTs E ys940 := yver_s (x := yx940) h.1 (yal_n) yg293 yk940
